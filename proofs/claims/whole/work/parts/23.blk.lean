theorem t131_0 : sm_at 131 0 = some (1, .aload_n 0, 0, 0, 0) := rfl
theorem t131_1 : sm_at 131 1 = some (3, .getfield 72, 11, 4, 0) := rfl
theorem t131_4 : sm_at 131 4 = some (3, .ifCond .ne 5, 0, 0, 0) := rfl
theorem t131_7 : sm_at 131 7 = some (1, .iconst 0, 0, 0, 0) := rfl
theorem t131_8 : sm_at 131 8 = some (1, .ireturn, 1, 0, 0) := rfl
theorem t131_9 : sm_at 131 9 = some (1, .aload_n 0, 0, 0, 0) := rfl
theorem t131_10 : sm_at 131 10 = some (1, .dup, 0, 0, 0) := rfl
theorem t131_11 : sm_at 131 11 = some (3, .getfield 72, 11, 4, 0) := rfl
theorem t131_14 : sm_at 131 14 = some (1, .iconst 1, 0, 0, 0) := rfl
theorem t131_15 : sm_at 131 15 = some (1, .isub, 0, 0, 0) := rfl
theorem t131_16 : sm_at 131 16 = some (3, .putfield 72, 11, 4, 0) := rfl
theorem t131_19 : sm_at 131 19 = some (1, .aload_n 0, 0, 0, 0) := rfl
theorem t131_20 : sm_at 131 20 = some (3, .getfield 19, 11, 3, 0) := rfl
theorem t131_23 : sm_at 131 23 = some (1, .aload_n 0, 0, 0, 0) := rfl
theorem t131_24 : sm_at 131 24 = some (3, .getfield 72, 11, 4, 0) := rfl
theorem t131_27 : sm_at 131 27 = some (1, .iaload, 0, 0, 0) := rfl
theorem t131_28 : sm_at 131 28 = some (1, .istore_n 1, 0, 0, 0) := rfl
theorem t131_29 : sm_at 131 29 = some (1, .aload_n 0, 0, 0, 0) := rfl
theorem t131_30 : sm_at 131 30 = some (3, .getfield 7, 11, 0, 0) := rfl
theorem t131_33 : sm_at 131 33 = some (2, .bipush 120, 0, 0, 0) := rfl
theorem t131_35 : sm_at 131 35 = some (1, .iload_n 1, 0, 0, 0) := rfl
theorem t131_36 : sm_at 131 36 = some (1, .iadd, 0, 0, 0) := rfl
theorem t131_37 : sm_at 131 37 = some (1, .iconst 1, 0, 0, 0) := rfl
theorem t131_38 : sm_at 131 38 = some (1, .aload_n 0, 0, 0, 0) := rfl
theorem t131_39 : sm_at 131 39 = some (3, .getfield 7, 11, 0, 0) := rfl
theorem t131_42 : sm_at 131 42 = some (2, .bipush 120, 0, 0, 0) := rfl
theorem t131_44 : sm_at 131 44 = some (1, .iload_n 1, 0, 0, 0) := rfl
theorem t131_45 : sm_at 131 45 = some (1, .iadd, 0, 0, 0) := rfl
theorem t131_46 : sm_at 131 46 = some (1, .iaload, 0, 0, 0) := rfl
theorem t131_47 : sm_at 131 47 = some (1, .isub, 0, 0, 0) := rfl
theorem t131_48 : sm_at 131 48 = some (1, .iastore, 0, 0, 0) := rfl
theorem t131_49 : sm_at 131 49 = some (1, .iconst 1, 0, 0, 0) := rfl
theorem t131_50 : sm_at 131 50 = some (1, .ireturn, 1, 0, 0) := rfl
set_option maxRecDepth 10000 in
theorem b131_0 {d : Nat} {r0 : Nat} {l1 : Option sm_V} {Z : Nat → Nat → Int} {Rf : Nat → Nat → Option Nat} {K : Nat → Nat × Nat} {n z : Nat} {Q : Option sm_V → sm_S → Prop} : sm_wp d 131 0 [some (.inr (some r0)), l1] [] (Z, Rf, K, n, z) Q = ((K r0).1 = 11 ∧ (if wr (Z r0 4) = 0 then sm_wp d 131 7 [some (.inr (some r0)), l1] [] (Z, Rf, K, n, z) Q else sm_wp d 131 9 [some (.inr (some r0)), l1] [] (Z, Rf, K, n, z) Q)) := (w_aload_n t131_0 rfl rfl).trans ((w_getI t131_1 rfl (by decide)).trans (congrArg (And _) (w_ifne t131_4 rfl rfl rfl)))
set_option maxRecDepth 10000 in
theorem b131_7 {d : Nat} {l0 : Option sm_V} {l1 : Option sm_V} {Z : Nat → Nat → Int} {Rf : Nat → Nat → Option Nat} {K : Nat → Nat × Nat} {n z : Nat} {Q : Option sm_V → sm_S → Prop} : sm_wp d 131 7 [l0, l1] [] (Z, Rf, K, n, z) Q = (((0 : Int) = 0 ∨ (0 : Int) = 1) ∧ Q (some (.inl 0)) (Z, Rf, K, n, z)) := (w_iconst t131_7 rfl).trans (w_zret t131_8 wl_0)
set_option maxRecDepth 10000 in
theorem b131_9 {d : Nat} {r0 : Nat} {l1 : Option sm_V} {Z : Nat → Nat → Int} {Rf : Nat → Nat → Option Nat} {K : Nat → Nat × Nat} {n z : Nat} {Q : Option sm_V → sm_S → Prop} : sm_wp d 131 9 [some (.inr (some r0)), l1] [] (Z, Rf, K, n, z) Q = ((K r0).1 = 11 ∧ (K r0).1 = 11 ∧ (K r0).1 = 11 ∧ (Rf r0 3).isSome = true ∧ (K r0).1 = 11 ∧ sm_rd (K (((Rf r0 3).getD 0))) (wr ((sm_u Z r0 4 ((Z r0 4) - 1)) r0 4)) ∧ (K r0).1 = 11 ∧ (Rf r0 0).isSome = true ∧ (K r0).1 = 11 ∧ (Rf r0 0).isSome = true ∧ sm_rd (K (((Rf r0 0).getD 0))) (wr (120 + ((sm_u Z r0 4 ((Z r0 4) - 1)) (((Rf r0 3).getD 0)) ((wr ((sm_u Z r0 4 ((Z r0 4) - 1)) r0 4)).toNat)))) ∧ sm_wt (K (((Rf r0 0).getD 0))) (wr (120 + ((sm_u Z r0 4 ((Z r0 4) - 1)) (((Rf r0 3).getD 0)) ((wr ((sm_u Z r0 4 ((Z r0 4) - 1)) r0 4)).toNat)))) ∧ ((1 : Int) = 0 ∨ (1 : Int) = 1) ∧ Q (some (.inl 1)) (sm_u (sm_u Z r0 4 ((Z r0 4) - 1)) (((Rf r0 0).getD 0)) ((wr (120 + ((sm_u Z r0 4 ((Z r0 4) - 1)) (((Rf r0 3).getD 0)) ((wr ((sm_u Z r0 4 ((Z r0 4) - 1)) r0 4)).toNat)))).toNat) (1 - ((sm_u Z r0 4 ((Z r0 4) - 1)) (((Rf r0 0).getD 0)) ((wr (120 + ((sm_u Z r0 4 ((Z r0 4) - 1)) (((Rf r0 3).getD 0)) ((wr ((sm_u Z r0 4 ((Z r0 4) - 1)) r0 4)).toNat)))).toNat))), Rf, K, n, z)) := (w_aload_n t131_9 rfl rfl).trans ((w_dup t131_10 rfl).trans ((w_getI t131_11 rfl (by decide)).trans (congrArg (And _) ((w_iconst t131_14 rfl).trans ((w_isub t131_15 rfl).trans ((w_putI t131_16 rfl (by decide)).trans (congrArg (And _) ((w_aload_n t131_19 rfl rfl).trans ((w_getR t131_20 rfl (by decide)).trans (congrArg (And _) (congrArg (And _) ((w_aload_n t131_23 rfl rfl).trans ((w_getI t131_24 rfl (by decide)).trans (congrArg (And _) ((w_iald t131_27 rfl rfl).trans (congrArg (And _) ((w_istore_n t131_28 rfl (Nat.le_of_ble_eq_true rfl) rfl).trans ((w_aload_n t131_29 rfl rfl).trans ((w_getR t131_30 rfl (by decide)).trans (congrArg (And _) (congrArg (And _) ((w_bipush t131_33 rfl).trans ((w_iload_n t131_35 rfl rfl).trans ((w_iadd t131_36 rfl).trans ((w_iconst t131_37 rfl).trans ((w_aload_n t131_38 rfl rfl).trans ((w_getR t131_39 rfl (by decide)).trans (congrArg (And _) (congrArg (And _) ((w_bipush t131_42 rfl).trans ((w_iload_n t131_44 rfl rfl).trans ((w_iadd t131_45 rfl).trans ((w_iald t131_46 rfl rfl).trans (congrArg (And _) ((w_isub t131_47 rfl).trans ((w_iast t131_48 rfl rfl).trans (congrArg (And _) ((w_iconst t131_49 rfl).trans (w_zret t131_50 wl_1)))))))))))))))))))))))))))))))))))))))
theorem t132_0 : sm_at 132 0 = some (1, .aload_n 0, 0, 0, 0) := rfl
theorem t132_1 : sm_at 132 1 = some (1, .iload_n 1, 0, 0, 0) := rfl
theorem t132_2 : sm_at 132 2 = some (3, .invokevirtual 85, 122, 2, 0) := rfl
theorem t132_5 : sm_at 132 5 = some (3, .ifCond .eq 17, 0, 0, 0) := rfl
theorem t132_8 : sm_at 132 8 = some (1, .aload_n 0, 0, 0, 0) := rfl
theorem t132_9 : sm_at 132 9 = some (3, .getfield 7, 11, 0, 0) := rfl
theorem t132_12 : sm_at 132 12 = some (3, .sipush 220, 0, 0, 0) := rfl
theorem t132_15 : sm_at 132 15 = some (1, .iload_n 1, 0, 0, 0) := rfl
theorem t132_16 : sm_at 132 16 = some (1, .iadd, 0, 0, 0) := rfl
theorem t132_17 : sm_at 132 17 = some (1, .iaload, 0, 0, 0) := rfl
theorem t132_18 : sm_at 132 18 = some (1, .iconst 1, 0, 0, 0) := rfl
theorem t132_19 : sm_at 132 19 = some (3, .if_icmp .ne 5, 0, 0, 0) := rfl
theorem t132_22 : sm_at 132 22 = some (1, .iconst 0, 0, 0, 0) := rfl
theorem t132_23 : sm_at 132 23 = some (1, .ireturn, 1, 0, 0) := rfl
theorem t132_24 : sm_at 132 24 = some (1, .aload_n 0, 0, 0, 0) := rfl
theorem t132_25 : sm_at 132 25 = some (3, .getfield 7, 11, 0, 0) := rfl
theorem t132_28 : sm_at 132 28 = some (3, .sipush 220, 0, 0, 0) := rfl
theorem t132_31 : sm_at 132 31 = some (1, .iload_n 1, 0, 0, 0) := rfl
theorem t132_32 : sm_at 132 32 = some (1, .iadd, 0, 0, 0) := rfl
theorem t132_33 : sm_at 132 33 = some (1, .iconst 1, 0, 0, 0) := rfl
theorem t132_34 : sm_at 132 34 = some (1, .iastore, 0, 0, 0) := rfl
theorem t132_35 : sm_at 132 35 = some (1, .aload_n 0, 0, 0, 0) := rfl
theorem t132_36 : sm_at 132 36 = some (3, .getfield 7, 11, 0, 0) := rfl
theorem t132_39 : sm_at 132 39 = some (3, .sipush 520, 0, 0, 0) := rfl
theorem t132_42 : sm_at 132 42 = some (1, .iload_n 1, 0, 0, 0) := rfl
theorem t132_43 : sm_at 132 43 = some (1, .iadd, 0, 0, 0) := rfl
theorem t132_44 : sm_at 132 44 = some (1, .iconst (-1), 0, 0, 0) := rfl
theorem t132_45 : sm_at 132 45 = some (1, .iastore, 0, 0, 0) := rfl
theorem t132_46 : sm_at 132 46 = some (1, .aload_n 0, 0, 0, 0) := rfl
theorem t132_47 : sm_at 132 47 = some (3, .getfield 7, 11, 0, 0) := rfl
theorem t132_50 : sm_at 132 50 = some (3, .sipush 620, 0, 0, 0) := rfl
theorem t132_53 : sm_at 132 53 = some (1, .iload_n 1, 0, 0, 0) := rfl
theorem t132_54 : sm_at 132 54 = some (1, .iadd, 0, 0, 0) := rfl
theorem t132_55 : sm_at 132 55 = some (1, .iconst 0, 0, 0, 0) := rfl
theorem t132_56 : sm_at 132 56 = some (1, .iastore, 0, 0, 0) := rfl
theorem t132_57 : sm_at 132 57 = some (1, .iconst 1, 0, 0, 0) := rfl
theorem t132_58 : sm_at 132 58 = some (1, .ireturn, 1, 0, 0) := rfl
set_option maxRecDepth 10000 in
theorem b132_0 {d : Nat} {r0 : Nat} {x1 : Int} {Z : Nat → Nat → Int} {Rf : Nat → Nat → Option Nat} {K : Nat → Nat × Nat} {n z : Nat} {Q : Option sm_V → sm_S → Prop} : sm_wp (d + 1) 132 0 [some (.inr (some r0)), some (.inl x1)] [] (Z, Rf, K, n, z) Q = ((K r0).1 = 11 ∧ sm_call d 122 [.inr (some r0), .inl x1] (Z, Rf, K, n, z) (sm_cont (d + 1) 132 5 [some (.inr (some r0)), some (.inl x1)] [] Q)) := (w_aload_n t132_0 rfl rfl).trans ((w_iload_n t132_1 rfl rfl).trans (w_callV t132_2 rfl rfl rfl rfl (Nat.le_of_ble_eq_true rfl) (Nat.le_of_ble_eq_true rfl) rfl (by decide)))
set_option maxRecDepth 10000 in
theorem b132_5 {d : Nat} {l0 : Option sm_V} {l1 : Option sm_V} {s0 : Int} {Z : Nat → Nat → Int} {Rf : Nat → Nat → Option Nat} {K : Nat → Nat × Nat} {n z : Nat} {Q : Option sm_V → sm_S → Prop} : sm_wp d 132 5 [l0, l1] [.inl s0] (Z, Rf, K, n, z) Q = (if wr s0 = 0 then sm_wp d 132 22 [l0, l1] [] (Z, Rf, K, n, z) Q else sm_wp d 132 8 [l0, l1] [] (Z, Rf, K, n, z) Q) := w_ifeq t132_5 rfl rfl rfl
set_option maxRecDepth 10000 in
theorem b132_8 {d : Nat} {r0 : Nat} {x1 : Int} {Z : Nat → Nat → Int} {Rf : Nat → Nat → Option Nat} {K : Nat → Nat × Nat} {n z : Nat} {Q : Option sm_V → sm_S → Prop} : sm_wp d 132 8 [some (.inr (some r0)), some (.inl x1)] [] (Z, Rf, K, n, z) Q = ((K r0).1 = 11 ∧ (Rf r0 0).isSome = true ∧ sm_rd (K (((Rf r0 0).getD 0))) (wr (220 + x1)) ∧ (if wr (Z (((Rf r0 0).getD 0)) ((wr (220 + x1)).toNat)) = (1 : Int) then sm_wp d 132 22 [some (.inr (some r0)), some (.inl x1)] [] (Z, Rf, K, n, z) Q else sm_wp d 132 24 [some (.inr (some r0)), some (.inl x1)] [] (Z, Rf, K, n, z) Q)) := (w_aload_n t132_8 rfl rfl).trans ((w_getR t132_9 rfl (by decide)).trans (congrArg (And _) (congrArg (And _) ((w_sipush t132_12 rfl).trans ((w_iload_n t132_15 rfl rfl).trans ((w_iadd t132_16 rfl).trans ((w_iald t132_17 rfl rfl).trans (congrArg (And _) ((w_iconst t132_18 rfl).trans (w_icne t132_19 rfl wl_1 rfl rfl))))))))))
set_option maxRecDepth 10000 in
theorem b132_22 {d : Nat} {l0 : Option sm_V} {l1 : Option sm_V} {Z : Nat → Nat → Int} {Rf : Nat → Nat → Option Nat} {K : Nat → Nat × Nat} {n z : Nat} {Q : Option sm_V → sm_S → Prop} : sm_wp d 132 22 [l0, l1] [] (Z, Rf, K, n, z) Q = (((0 : Int) = 0 ∨ (0 : Int) = 1) ∧ Q (some (.inl 0)) (Z, Rf, K, n, z)) := (w_iconst t132_22 rfl).trans (w_zret t132_23 wl_0)
set_option maxRecDepth 10000 in
theorem b132_24 {d : Nat} {r0 : Nat} {x1 : Int} {Z : Nat → Nat → Int} {Rf : Nat → Nat → Option Nat} {K : Nat → Nat × Nat} {n z : Nat} {Q : Option sm_V → sm_S → Prop} : sm_wp d 132 24 [some (.inr (some r0)), some (.inl x1)] [] (Z, Rf, K, n, z) Q = ((K r0).1 = 11 ∧ (Rf r0 0).isSome = true ∧ sm_wt (K (((Rf r0 0).getD 0))) (wr (220 + x1)) ∧ (K r0).1 = 11 ∧ (Rf r0 0).isSome = true ∧ sm_wt (K (((Rf r0 0).getD 0))) (wr (520 + x1)) ∧ (K r0).1 = 11 ∧ (Rf r0 0).isSome = true ∧ sm_wt (K (((Rf r0 0).getD 0))) (wr (620 + x1)) ∧ ((1 : Int) = 0 ∨ (1 : Int) = 1) ∧ Q (some (.inl 1)) (sm_u (sm_u (sm_u Z (((Rf r0 0).getD 0)) ((wr (220 + x1)).toNat) 1) (((Rf r0 0).getD 0)) ((wr (520 + x1)).toNat) ((-1))) (((Rf r0 0).getD 0)) ((wr (620 + x1)).toNat) 0, Rf, K, n, z)) := (w_aload_n t132_24 rfl rfl).trans ((w_getR t132_25 rfl (by decide)).trans (congrArg (And _) (congrArg (And _) ((w_sipush t132_28 rfl).trans ((w_iload_n t132_31 rfl rfl).trans ((w_iadd t132_32 rfl).trans ((w_iconst t132_33 rfl).trans ((w_iast t132_34 rfl rfl).trans (congrArg (And _) ((w_aload_n t132_35 rfl rfl).trans ((w_getR t132_36 rfl (by decide)).trans (congrArg (And _) (congrArg (And _) ((w_sipush t132_39 rfl).trans ((w_iload_n t132_42 rfl rfl).trans ((w_iadd t132_43 rfl).trans ((w_iconst t132_44 rfl).trans ((w_iast t132_45 rfl rfl).trans (congrArg (And _) ((w_aload_n t132_46 rfl rfl).trans ((w_getR t132_47 rfl (by decide)).trans (congrArg (And _) (congrArg (And _) ((w_sipush t132_50 rfl).trans ((w_iload_n t132_53 rfl rfl).trans ((w_iadd t132_54 rfl).trans ((w_iconst t132_55 rfl).trans ((w_iast t132_56 rfl rfl).trans (congrArg (And _) ((w_iconst t132_57 rfl).trans (w_zret t132_58 wl_1)))))))))))))))))))))))))))))))
theorem t133_0 : sm_at 133 0 = some (1, .aload_n 0, 0, 0, 0) := rfl
theorem t133_1 : sm_at 133 1 = some (1, .iload_n 1, 0, 0, 0) := rfl
theorem t133_2 : sm_at 133 2 = some (1, .iload_n 2, 0, 0, 0) := rfl
theorem t133_3 : sm_at 133 3 = some (3, .invokevirtual 93, 123, 3, 0) := rfl
theorem t133_6 : sm_at 133 6 = some (3, .ifCond .ne 5, 0, 0, 0) := rfl
theorem t133_9 : sm_at 133 9 = some (1, .iconst 0, 0, 0, 0) := rfl
theorem t133_10 : sm_at 133 10 = some (1, .ireturn, 1, 0, 0) := rfl
theorem t133_11 : sm_at 133 11 = some (1, .aload_n 0, 0, 0, 0) := rfl
theorem t133_12 : sm_at 133 12 = some (3, .getfield 7, 11, 0, 0) := rfl
theorem t133_15 : sm_at 133 15 = some (3, .sipush 720, 0, 0, 0) := rfl
theorem t133_18 : sm_at 133 18 = some (2, .bipush 11, 0, 0, 0) := rfl
theorem t133_20 : sm_at 133 20 = some (1, .iload_n 2, 0, 0, 0) := rfl
theorem t133_21 : sm_at 133 21 = some (1, .imul, 0, 0, 0) := rfl
theorem t133_22 : sm_at 133 22 = some (1, .iadd, 0, 0, 0) := rfl
theorem t133_23 : sm_at 133 23 = some (1, .iload_n 1, 0, 0, 0) := rfl
theorem t133_24 : sm_at 133 24 = some (1, .iadd, 0, 0, 0) := rfl
theorem t133_25 : sm_at 133 25 = some (1, .iload_n 3, 0, 0, 0) := rfl
theorem t133_26 : sm_at 133 26 = some (3, .ifCond .eq 7, 0, 0, 0) := rfl
theorem t133_29 : sm_at 133 29 = some (1, .iconst 1, 0, 0, 0) := rfl
theorem t133_30 : sm_at 133 30 = some (3, .goto 4, 0, 0, 0) := rfl
theorem t133_33 : sm_at 133 33 = some (1, .iconst 0, 0, 0, 0) := rfl
theorem t133_34 : sm_at 133 34 = some (1, .iastore, 0, 0, 0) := rfl
theorem t133_35 : sm_at 133 35 = some (1, .iconst 1, 0, 0, 0) := rfl
theorem t133_36 : sm_at 133 36 = some (1, .ireturn, 1, 0, 0) := rfl
set_option maxRecDepth 10000 in
theorem b133_0 {d : Nat} {r0 : Nat} {x1 : Int} {x2 : Int} {l3 : Option sm_V} {Z : Nat → Nat → Int} {Rf : Nat → Nat → Option Nat} {K : Nat → Nat × Nat} {n z : Nat} {Q : Option sm_V → sm_S → Prop} : sm_wp (d + 1) 133 0 [some (.inr (some r0)), some (.inl x1), some (.inl x2), l3] [] (Z, Rf, K, n, z) Q = ((K r0).1 = 11 ∧ sm_call d 123 [.inr (some r0), .inl x1, .inl x2] (Z, Rf, K, n, z) (sm_cont (d + 1) 133 6 [some (.inr (some r0)), some (.inl x1), some (.inl x2), l3] [] Q)) := (w_aload_n t133_0 rfl rfl).trans ((w_iload_n t133_1 rfl rfl).trans ((w_iload_n t133_2 rfl rfl).trans (w_callV t133_3 rfl rfl rfl rfl (Nat.le_of_ble_eq_true rfl) (Nat.le_of_ble_eq_true rfl) rfl (by decide))))
set_option maxRecDepth 10000 in
theorem b133_6 {d : Nat} {l0 : Option sm_V} {l1 : Option sm_V} {l2 : Option sm_V} {l3 : Option sm_V} {s0 : Int} {Z : Nat → Nat → Int} {Rf : Nat → Nat → Option Nat} {K : Nat → Nat × Nat} {n z : Nat} {Q : Option sm_V → sm_S → Prop} : sm_wp d 133 6 [l0, l1, l2, l3] [.inl s0] (Z, Rf, K, n, z) Q = (if wr s0 = 0 then sm_wp d 133 9 [l0, l1, l2, l3] [] (Z, Rf, K, n, z) Q else sm_wp d 133 11 [l0, l1, l2, l3] [] (Z, Rf, K, n, z) Q) := w_ifne t133_6 rfl rfl rfl
set_option maxRecDepth 10000 in
theorem b133_9 {d : Nat} {l0 : Option sm_V} {l1 : Option sm_V} {l2 : Option sm_V} {l3 : Option sm_V} {Z : Nat → Nat → Int} {Rf : Nat → Nat → Option Nat} {K : Nat → Nat × Nat} {n z : Nat} {Q : Option sm_V → sm_S → Prop} : sm_wp d 133 9 [l0, l1, l2, l3] [] (Z, Rf, K, n, z) Q = (((0 : Int) = 0 ∨ (0 : Int) = 1) ∧ Q (some (.inl 0)) (Z, Rf, K, n, z)) := (w_iconst t133_9 rfl).trans (w_zret t133_10 wl_0)
set_option maxRecDepth 10000 in
theorem b133_11 {d : Nat} {r0 : Nat} {x1 : Int} {x2 : Int} {x3 : Int} {Z : Nat → Nat → Int} {Rf : Nat → Nat → Option Nat} {K : Nat → Nat × Nat} {n z : Nat} {Q : Option sm_V → sm_S → Prop} : sm_wp d 133 11 [some (.inr (some r0)), some (.inl x1), some (.inl x2), some (.inl x3)] [] (Z, Rf, K, n, z) Q = ((K r0).1 = 11 ∧ (Rf r0 0).isSome = true ∧ (if wr x3 = 0 then sm_wp d 133 33 [some (.inr (some r0)), some (.inl x1), some (.inl x2), some (.inl x3)] [.inl ((720 + (11 * x2)) + x1), .inr (some ((Rf r0 0).getD 0))] (Z, Rf, K, n, z) Q else sm_wp d 133 29 [some (.inr (some r0)), some (.inl x1), some (.inl x2), some (.inl x3)] [.inl ((720 + (11 * x2)) + x1), .inr (some ((Rf r0 0).getD 0))] (Z, Rf, K, n, z) Q)) := (w_aload_n t133_11 rfl rfl).trans ((w_getR t133_12 rfl (by decide)).trans (congrArg (And _) (congrArg (And _) ((w_sipush t133_15 rfl).trans ((w_bipush t133_18 rfl).trans ((w_iload_n t133_20 rfl rfl).trans ((w_imul t133_21 rfl).trans ((w_iadd t133_22 rfl).trans ((w_iload_n t133_23 rfl rfl).trans ((w_iadd t133_24 rfl).trans ((w_iload_n t133_25 rfl rfl).trans (w_ifeq t133_26 rfl rfl rfl))))))))))))
set_option maxRecDepth 10000 in
theorem b133_29 {d : Nat} {l0 : Option sm_V} {l1 : Option sm_V} {l2 : Option sm_V} {l3 : Option sm_V} {qs0 : Option Nat} {s1 : Int} {Z : Nat → Nat → Int} {Rf : Nat → Nat → Option Nat} {K : Nat → Nat × Nat} {n z : Nat} {Q : Option sm_V → sm_S → Prop} : sm_wp d 133 29 [l0, l1, l2, l3] [.inl s1, .inr qs0] (Z, Rf, K, n, z) Q = (sm_wp d 133 34 [l0, l1, l2, l3] [.inl 1, .inl s1, .inr qs0] (Z, Rf, K, n, z) Q) := (w_iconst t133_29 rfl).trans (w_goto t133_30 rfl)
set_option maxRecDepth 10000 in
theorem b133_33 {d : Nat} {l0 : Option sm_V} {l1 : Option sm_V} {l2 : Option sm_V} {l3 : Option sm_V} {qs0 : Option Nat} {s1 : Int} {Z : Nat → Nat → Int} {Rf : Nat → Nat → Option Nat} {K : Nat → Nat × Nat} {n z : Nat} {Q : Option sm_V → sm_S → Prop} : sm_wp d 133 33 [l0, l1, l2, l3] [.inl s1, .inr qs0] (Z, Rf, K, n, z) Q = (sm_wp d 133 34 [l0, l1, l2, l3] [.inl 0, .inl s1, .inr qs0] (Z, Rf, K, n, z) Q) := w_iconst t133_33 rfl
set_option maxRecDepth 10000 in
theorem b133_34 {d : Nat} {l0 : Option sm_V} {l1 : Option sm_V} {l2 : Option sm_V} {l3 : Option sm_V} {rs0 : Nat} {s1 : Int} {s2 : Int} {Z : Nat → Nat → Int} {Rf : Nat → Nat → Option Nat} {K : Nat → Nat × Nat} {n z : Nat} {Q : Option sm_V → sm_S → Prop} : sm_wp d 133 34 [l0, l1, l2, l3] [.inl s2, .inl s1, .inr (some rs0)] (Z, Rf, K, n, z) Q = (sm_wt (K rs0) (wr s1) ∧ ((1 : Int) = 0 ∨ (1 : Int) = 1) ∧ Q (some (.inl 1)) (sm_u Z rs0 ((wr s1).toNat) s2, Rf, K, n, z)) := (w_iast t133_34 rfl rfl).trans (congrArg (And _) ((w_iconst t133_35 rfl).trans (w_zret t133_36 wl_1)))
theorem t134_0 : sm_at 134 0 = some (1, .aload_n 0, 0, 0, 0) := rfl
theorem t134_1 : sm_at 134 1 = some (1, .iload_n 1, 0, 0, 0) := rfl
theorem t134_2 : sm_at 134 2 = some (1, .iload_n 2, 0, 0, 0) := rfl
theorem t134_3 : sm_at 134 3 = some (3, .invokevirtual 93, 123, 3, 0) := rfl
theorem t134_6 : sm_at 134 6 = some (3, .ifCond .eq 14, 0, 0, 0) := rfl
theorem t134_9 : sm_at 134 9 = some (1, .aload_n 0, 0, 0, 0) := rfl
theorem t134_10 : sm_at 134 10 = some (3, .getfield 7, 11, 0, 0) := rfl
theorem t134_13 : sm_at 134 13 = some (1, .iconst 5, 0, 0, 0) := rfl
theorem t134_14 : sm_at 134 14 = some (1, .iaload, 0, 0, 0) := rfl
theorem t134_15 : sm_at 134 15 = some (2, .bipush 6, 0, 0, 0) := rfl
theorem t134_17 : sm_at 134 17 = some (3, .if_icmp .ne 5, 0, 0, 0) := rfl
theorem t134_20 : sm_at 134 20 = some (1, .iconst (-1), 0, 0, 0) := rfl
theorem t134_21 : sm_at 134 21 = some (1, .ireturn, 0, 0, 0) := rfl
theorem t134_22 : sm_at 134 22 = some (1, .aload_n 0, 0, 0, 0) := rfl
theorem t134_23 : sm_at 134 23 = some (3, .getfield 7, 11, 0, 0) := rfl
theorem t134_26 : sm_at 134 26 = some (3, .sipush 1840, 0, 0, 0) := rfl
theorem t134_29 : sm_at 134 29 = some (1, .iconst 2, 0, 0, 0) := rfl
theorem t134_30 : sm_at 134 30 = some (1, .aload_n 0, 0, 0, 0) := rfl
theorem t134_31 : sm_at 134 31 = some (3, .getfield 7, 11, 0, 0) := rfl
theorem t134_34 : sm_at 134 34 = some (1, .iconst 5, 0, 0, 0) := rfl
theorem t134_35 : sm_at 134 35 = some (1, .iaload, 0, 0, 0) := rfl
theorem t134_36 : sm_at 134 36 = some (1, .imul, 0, 0, 0) := rfl
theorem t134_37 : sm_at 134 37 = some (1, .iadd, 0, 0, 0) := rfl
theorem t134_38 : sm_at 134 38 = some (1, .iload_n 1, 0, 0, 0) := rfl
theorem t134_39 : sm_at 134 39 = some (1, .iastore, 0, 0, 0) := rfl
theorem t134_40 : sm_at 134 40 = some (1, .aload_n 0, 0, 0, 0) := rfl
theorem t134_41 : sm_at 134 41 = some (3, .getfield 7, 11, 0, 0) := rfl
theorem t134_44 : sm_at 134 44 = some (3, .sipush 1840, 0, 0, 0) := rfl
theorem t134_47 : sm_at 134 47 = some (1, .iconst 2, 0, 0, 0) := rfl
theorem t134_48 : sm_at 134 48 = some (1, .aload_n 0, 0, 0, 0) := rfl
theorem t134_49 : sm_at 134 49 = some (3, .getfield 7, 11, 0, 0) := rfl
theorem t134_52 : sm_at 134 52 = some (1, .iconst 5, 0, 0, 0) := rfl
theorem t134_53 : sm_at 134 53 = some (1, .iaload, 0, 0, 0) := rfl
theorem t134_54 : sm_at 134 54 = some (1, .imul, 0, 0, 0) := rfl
theorem t134_55 : sm_at 134 55 = some (1, .iadd, 0, 0, 0) := rfl
theorem t134_56 : sm_at 134 56 = some (1, .iconst 1, 0, 0, 0) := rfl
theorem t134_57 : sm_at 134 57 = some (1, .iadd, 0, 0, 0) := rfl
theorem t134_58 : sm_at 134 58 = some (1, .iload_n 2, 0, 0, 0) := rfl
theorem t134_59 : sm_at 134 59 = some (1, .iastore, 0, 0, 0) := rfl
theorem t134_60 : sm_at 134 60 = some (1, .aload_n 0, 0, 0, 0) := rfl
theorem t134_61 : sm_at 134 61 = some (3, .getfield 7, 11, 0, 0) := rfl
theorem t134_64 : sm_at 134 64 = some (1, .iconst 5, 0, 0, 0) := rfl
theorem t134_65 : sm_at 134 65 = some (1, .dup2, 0, 0, 0) := rfl
theorem t134_66 : sm_at 134 66 = some (1, .iaload, 0, 0, 0) := rfl
theorem t134_67 : sm_at 134 67 = some (1, .iconst 1, 0, 0, 0) := rfl
theorem t134_68 : sm_at 134 68 = some (1, .iadd, 0, 0, 0) := rfl
theorem t134_69 : sm_at 134 69 = some (1, .iastore, 0, 0, 0) := rfl
theorem t134_70 : sm_at 134 70 = some (1, .aload_n 0, 0, 0, 0) := rfl
theorem t134_71 : sm_at 134 71 = some (3, .getfield 7, 11, 0, 0) := rfl
theorem t134_74 : sm_at 134 74 = some (1, .iconst 5, 0, 0, 0) := rfl
theorem t134_75 : sm_at 134 75 = some (1, .iaload, 0, 0, 0) := rfl
theorem t134_76 : sm_at 134 76 = some (1, .iconst 1, 0, 0, 0) := rfl
theorem t134_77 : sm_at 134 77 = some (1, .isub, 0, 0, 0) := rfl
theorem t134_78 : sm_at 134 78 = some (1, .ireturn, 0, 0, 0) := rfl
set_option maxRecDepth 10000 in
theorem b134_0 {d : Nat} {r0 : Nat} {x1 : Int} {x2 : Int} {Z : Nat → Nat → Int} {Rf : Nat → Nat → Option Nat} {K : Nat → Nat × Nat} {n z : Nat} {Q : Option sm_V → sm_S → Prop} : sm_wp (d + 1) 134 0 [some (.inr (some r0)), some (.inl x1), some (.inl x2)] [] (Z, Rf, K, n, z) Q = ((K r0).1 = 11 ∧ sm_call d 123 [.inr (some r0), .inl x1, .inl x2] (Z, Rf, K, n, z) (sm_cont (d + 1) 134 6 [some (.inr (some r0)), some (.inl x1), some (.inl x2)] [] Q)) := (w_aload_n t134_0 rfl rfl).trans ((w_iload_n t134_1 rfl rfl).trans ((w_iload_n t134_2 rfl rfl).trans (w_callV t134_3 rfl rfl rfl rfl (Nat.le_of_ble_eq_true rfl) (Nat.le_of_ble_eq_true rfl) rfl (by decide))))
set_option maxRecDepth 10000 in
theorem b134_6 {d : Nat} {l0 : Option sm_V} {l1 : Option sm_V} {l2 : Option sm_V} {s0 : Int} {Z : Nat → Nat → Int} {Rf : Nat → Nat → Option Nat} {K : Nat → Nat × Nat} {n z : Nat} {Q : Option sm_V → sm_S → Prop} : sm_wp d 134 6 [l0, l1, l2] [.inl s0] (Z, Rf, K, n, z) Q = (if wr s0 = 0 then sm_wp d 134 20 [l0, l1, l2] [] (Z, Rf, K, n, z) Q else sm_wp d 134 9 [l0, l1, l2] [] (Z, Rf, K, n, z) Q) := w_ifeq t134_6 rfl rfl rfl
set_option maxRecDepth 10000 in
theorem b134_9 {d : Nat} {r0 : Nat} {l1 : Option sm_V} {l2 : Option sm_V} {Z : Nat → Nat → Int} {Rf : Nat → Nat → Option Nat} {K : Nat → Nat × Nat} {n z : Nat} {Q : Option sm_V → sm_S → Prop} : sm_wp d 134 9 [some (.inr (some r0)), l1, l2] [] (Z, Rf, K, n, z) Q = ((K r0).1 = 11 ∧ (Rf r0 0).isSome = true ∧ sm_rd (K (((Rf r0 0).getD 0))) ((5 : Int)) ∧ (if wr (Z (((Rf r0 0).getD 0)) 5) = (6 : Int) then sm_wp d 134 20 [some (.inr (some r0)), l1, l2] [] (Z, Rf, K, n, z) Q else sm_wp d 134 22 [some (.inr (some r0)), l1, l2] [] (Z, Rf, K, n, z) Q)) := (w_aload_n t134_9 rfl rfl).trans ((w_getR t134_10 rfl (by decide)).trans (congrArg (And _) (congrArg (And _) ((w_iconst t134_13 rfl).trans ((w_iald t134_14 rfl wl_5).trans (congrArg (And _) ((w_bipush t134_15 rfl).trans (w_icne t134_17 rfl wl_6 rfl rfl))))))))
set_option maxRecDepth 10000 in
theorem b134_20 {d : Nat} {l0 : Option sm_V} {l1 : Option sm_V} {l2 : Option sm_V} {Z : Nat → Nat → Int} {Rf : Nat → Nat → Option Nat} {K : Nat → Nat × Nat} {n z : Nat} {Q : Option sm_V → sm_S → Prop} : sm_wp d 134 20 [l0, l1, l2] [] (Z, Rf, K, n, z) Q = (Q (some (.inl ((-1)))) (Z, Rf, K, n, z)) := (w_iconst t134_20 rfl).trans (w_iret t134_21)
set_option maxRecDepth 10000 in
theorem b134_22 {d : Nat} {r0 : Nat} {x1 : Int} {x2 : Int} {Z : Nat → Nat → Int} {Rf : Nat → Nat → Option Nat} {K : Nat → Nat × Nat} {n z : Nat} {Q : Option sm_V → sm_S → Prop} : sm_wp d 134 22 [some (.inr (some r0)), some (.inl x1), some (.inl x2)] [] (Z, Rf, K, n, z) Q = ((K r0).1 = 11 ∧ (Rf r0 0).isSome = true ∧ (K r0).1 = 11 ∧ (Rf r0 0).isSome = true ∧ sm_rd (K (((Rf r0 0).getD 0))) ((5 : Int)) ∧ sm_wt (K (((Rf r0 0).getD 0))) (wr (1840 + (2 * (Z (((Rf r0 0).getD 0)) 5)))) ∧ (K r0).1 = 11 ∧ (Rf r0 0).isSome = true ∧ (K r0).1 = 11 ∧ (Rf r0 0).isSome = true ∧ sm_rd (K (((Rf r0 0).getD 0))) ((5 : Int)) ∧ sm_wt (K (((Rf r0 0).getD 0))) (wr ((1840 + (2 * ((sm_u Z (((Rf r0 0).getD 0)) ((wr (1840 + (2 * (Z (((Rf r0 0).getD 0)) 5)))).toNat) x1) (((Rf r0 0).getD 0)) 5))) + 1)) ∧ (K r0).1 = 11 ∧ (Rf r0 0).isSome = true ∧ sm_rd (K (((Rf r0 0).getD 0))) ((5 : Int)) ∧ sm_wt (K (((Rf r0 0).getD 0))) ((5 : Int)) ∧ (K r0).1 = 11 ∧ (Rf r0 0).isSome = true ∧ sm_rd (K (((Rf r0 0).getD 0))) ((5 : Int)) ∧ Q (some (.inl (((sm_u (sm_u (sm_u Z (((Rf r0 0).getD 0)) ((wr (1840 + (2 * (Z (((Rf r0 0).getD 0)) 5)))).toNat) x1) (((Rf r0 0).getD 0)) ((wr ((1840 + (2 * ((sm_u Z (((Rf r0 0).getD 0)) ((wr (1840 + (2 * (Z (((Rf r0 0).getD 0)) 5)))).toNat) x1) (((Rf r0 0).getD 0)) 5))) + 1)).toNat) x2) (((Rf r0 0).getD 0)) 5 (((sm_u (sm_u Z (((Rf r0 0).getD 0)) ((wr (1840 + (2 * (Z (((Rf r0 0).getD 0)) 5)))).toNat) x1) (((Rf r0 0).getD 0)) ((wr ((1840 + (2 * ((sm_u Z (((Rf r0 0).getD 0)) ((wr (1840 + (2 * (Z (((Rf r0 0).getD 0)) 5)))).toNat) x1) (((Rf r0 0).getD 0)) 5))) + 1)).toNat) x2) (((Rf r0 0).getD 0)) 5) + 1)) (((Rf r0 0).getD 0)) 5) - 1))) (sm_u (sm_u (sm_u Z (((Rf r0 0).getD 0)) ((wr (1840 + (2 * (Z (((Rf r0 0).getD 0)) 5)))).toNat) x1) (((Rf r0 0).getD 0)) ((wr ((1840 + (2 * ((sm_u Z (((Rf r0 0).getD 0)) ((wr (1840 + (2 * (Z (((Rf r0 0).getD 0)) 5)))).toNat) x1) (((Rf r0 0).getD 0)) 5))) + 1)).toNat) x2) (((Rf r0 0).getD 0)) 5 (((sm_u (sm_u Z (((Rf r0 0).getD 0)) ((wr (1840 + (2 * (Z (((Rf r0 0).getD 0)) 5)))).toNat) x1) (((Rf r0 0).getD 0)) ((wr ((1840 + (2 * ((sm_u Z (((Rf r0 0).getD 0)) ((wr (1840 + (2 * (Z (((Rf r0 0).getD 0)) 5)))).toNat) x1) (((Rf r0 0).getD 0)) 5))) + 1)).toNat) x2) (((Rf r0 0).getD 0)) 5) + 1), Rf, K, n, z)) := (w_aload_n t134_22 rfl rfl).trans ((w_getR t134_23 rfl (by decide)).trans (congrArg (And _) (congrArg (And _) ((w_sipush t134_26 rfl).trans ((w_iconst t134_29 rfl).trans ((w_aload_n t134_30 rfl rfl).trans ((w_getR t134_31 rfl (by decide)).trans (congrArg (And _) (congrArg (And _) ((w_iconst t134_34 rfl).trans ((w_iald t134_35 rfl wl_5).trans (congrArg (And _) ((w_imul t134_36 rfl).trans ((w_iadd t134_37 rfl).trans ((w_iload_n t134_38 rfl rfl).trans ((w_iast t134_39 rfl rfl).trans (congrArg (And _) ((w_aload_n t134_40 rfl rfl).trans ((w_getR t134_41 rfl (by decide)).trans (congrArg (And _) (congrArg (And _) ((w_sipush t134_44 rfl).trans ((w_iconst t134_47 rfl).trans ((w_aload_n t134_48 rfl rfl).trans ((w_getR t134_49 rfl (by decide)).trans (congrArg (And _) (congrArg (And _) ((w_iconst t134_52 rfl).trans ((w_iald t134_53 rfl wl_5).trans (congrArg (And _) ((w_imul t134_54 rfl).trans ((w_iadd t134_55 rfl).trans ((w_iconst t134_56 rfl).trans ((w_iadd t134_57 rfl).trans ((w_iload_n t134_58 rfl rfl).trans ((w_iast t134_59 rfl rfl).trans (congrArg (And _) ((w_aload_n t134_60 rfl rfl).trans ((w_getR t134_61 rfl (by decide)).trans (congrArg (And _) (congrArg (And _) ((w_iconst t134_64 rfl).trans ((w_dup2 t134_65 rfl).trans ((w_iald t134_66 rfl wl_5).trans (congrArg (And _) ((w_iconst t134_67 rfl).trans ((w_iadd t134_68 rfl).trans ((w_iast t134_69 rfl wl_5).trans (congrArg (And _) ((w_aload_n t134_70 rfl rfl).trans ((w_getR t134_71 rfl (by decide)).trans (congrArg (And _) (congrArg (And _) ((w_iconst t134_74 rfl).trans ((w_iald t134_75 rfl wl_5).trans (congrArg (And _) ((w_iconst t134_76 rfl).trans ((w_isub t134_77 rfl).trans (w_iret t134_78)))))))))))))))))))))))))))))))))))))))))))))))))))))))))))
theorem t135_0 : sm_at 135 0 = some (1, .aload_n 0, 0, 0, 0) := rfl
theorem t135_1 : sm_at 135 1 = some (1, .iload_n 1, 0, 0, 0) := rfl
theorem t135_2 : sm_at 135 2 = some (1, .iload_n 2, 0, 0, 0) := rfl
theorem t135_3 : sm_at 135 3 = some (3, .invokevirtual 93, 123, 3, 0) := rfl
theorem t135_6 : sm_at 135 6 = some (3, .ifCond .eq 44, 0, 0, 0) := rfl
theorem t135_9 : sm_at 135 9 = some (1, .iload_n 3, 0, 0, 0) := rfl
theorem t135_10 : sm_at 135 10 = some (1, .iconst 0, 0, 0, 0) := rfl
theorem t135_11 : sm_at 135 11 = some (1, .iconst 3, 0, 0, 0) := rfl
theorem t135_12 : sm_at 135 12 = some (3, .invokestatic 75, 120, 3, 0) := rfl
theorem t135_15 : sm_at 135 15 = some (3, .ifCond .eq 35, 0, 0, 0) := rfl
theorem t135_18 : sm_at 135 18 = some (2, .iload 4, 0, 0, 0) := rfl
theorem t135_20 : sm_at 135 20 = some (1, .iconst 0, 0, 0, 0) := rfl
theorem t135_21 : sm_at 135 21 = some (2, .bipush 60, 0, 0, 0) := rfl
theorem t135_23 : sm_at 135 23 = some (3, .invokestatic 75, 120, 3, 0) := rfl
theorem t135_26 : sm_at 135 26 = some (3, .ifCond .eq 24, 0, 0, 0) := rfl
theorem t135_29 : sm_at 135 29 = some (2, .iload 5, 0, 0, 0) := rfl
theorem t135_31 : sm_at 135 31 = some (1, .iconst 0, 0, 0, 0) := rfl
theorem t135_32 : sm_at 135 32 = some (1, .iconst 3, 0, 0, 0) := rfl
theorem t135_33 : sm_at 135 33 = some (3, .invokestatic 75, 120, 3, 0) := rfl
theorem t135_36 : sm_at 135 36 = some (3, .ifCond .eq 14, 0, 0, 0) := rfl
theorem t135_39 : sm_at 135 39 = some (1, .aload_n 0, 0, 0, 0) := rfl
theorem t135_40 : sm_at 135 40 = some (3, .getfield 7, 11, 0, 0) := rfl
theorem t135_43 : sm_at 135 43 = some (1, .iconst 4, 0, 0, 0) := rfl
theorem t135_44 : sm_at 135 44 = some (1, .iaload, 0, 0, 0) := rfl
theorem t135_45 : sm_at 135 45 = some (2, .bipush 8, 0, 0, 0) := rfl
theorem t135_47 : sm_at 135 47 = some (3, .if_icmp .ne 5, 0, 0, 0) := rfl
theorem t135_50 : sm_at 135 50 = some (1, .iconst (-1), 0, 0, 0) := rfl
theorem t135_51 : sm_at 135 51 = some (1, .ireturn, 0, 0, 0) := rfl
theorem t135_52 : sm_at 135 52 = some (3, .sipush 1855, 0, 0, 0) := rfl
theorem t135_55 : sm_at 135 55 = some (1, .iconst 5, 0, 0, 0) := rfl
theorem t135_56 : sm_at 135 56 = some (1, .aload_n 0, 0, 0, 0) := rfl
theorem t135_57 : sm_at 135 57 = some (3, .getfield 7, 11, 0, 0) := rfl
theorem t135_60 : sm_at 135 60 = some (1, .iconst 4, 0, 0, 0) := rfl
theorem t135_61 : sm_at 135 61 = some (1, .iaload, 0, 0, 0) := rfl
theorem t135_62 : sm_at 135 62 = some (1, .imul, 0, 0, 0) := rfl
theorem t135_63 : sm_at 135 63 = some (1, .iadd, 0, 0, 0) := rfl
theorem t135_64 : sm_at 135 64 = some (2, .istore 6, 0, 0, 0) := rfl
theorem t135_66 : sm_at 135 66 = some (1, .aload_n 0, 0, 0, 0) := rfl
theorem t135_67 : sm_at 135 67 = some (3, .getfield 7, 11, 0, 0) := rfl
theorem t135_70 : sm_at 135 70 = some (2, .iload 6, 0, 0, 0) := rfl
theorem t135_72 : sm_at 135 72 = some (1, .iload_n 1, 0, 0, 0) := rfl
theorem t135_73 : sm_at 135 73 = some (1, .iastore, 0, 0, 0) := rfl
theorem t135_74 : sm_at 135 74 = some (1, .aload_n 0, 0, 0, 0) := rfl
theorem t135_75 : sm_at 135 75 = some (3, .getfield 7, 11, 0, 0) := rfl
theorem t135_78 : sm_at 135 78 = some (2, .iload 6, 0, 0, 0) := rfl
theorem t135_80 : sm_at 135 80 = some (1, .iconst 1, 0, 0, 0) := rfl
theorem t135_81 : sm_at 135 81 = some (1, .iadd, 0, 0, 0) := rfl
theorem t135_82 : sm_at 135 82 = some (1, .iload_n 2, 0, 0, 0) := rfl
theorem t135_83 : sm_at 135 83 = some (1, .iastore, 0, 0, 0) := rfl
theorem t135_84 : sm_at 135 84 = some (1, .aload_n 0, 0, 0, 0) := rfl
theorem t135_85 : sm_at 135 85 = some (3, .getfield 7, 11, 0, 0) := rfl
theorem t135_88 : sm_at 135 88 = some (2, .iload 6, 0, 0, 0) := rfl
theorem t135_90 : sm_at 135 90 = some (1, .iconst 2, 0, 0, 0) := rfl
theorem t135_91 : sm_at 135 91 = some (1, .iadd, 0, 0, 0) := rfl
theorem t135_92 : sm_at 135 92 = some (1, .iload_n 3, 0, 0, 0) := rfl
theorem t135_93 : sm_at 135 93 = some (1, .iastore, 0, 0, 0) := rfl
theorem t135_94 : sm_at 135 94 = some (1, .aload_n 0, 0, 0, 0) := rfl
theorem t135_95 : sm_at 135 95 = some (3, .getfield 7, 11, 0, 0) := rfl
theorem t135_98 : sm_at 135 98 = some (2, .iload 6, 0, 0, 0) := rfl
theorem t135_100 : sm_at 135 100 = some (1, .iconst 3, 0, 0, 0) := rfl
set_option maxRecDepth 100000 in
theorem t135_101 : sm_at 135 101 = some (1, .iadd, 0, 0, 0) := rfl
set_option maxRecDepth 100000 in
theorem t135_102 : sm_at 135 102 = some (2, .iload 4, 0, 0, 0) := rfl
set_option maxRecDepth 100000 in
theorem t135_104 : sm_at 135 104 = some (1, .iastore, 0, 0, 0) := rfl
set_option maxRecDepth 100000 in
theorem t135_105 : sm_at 135 105 = some (1, .aload_n 0, 0, 0, 0) := rfl
set_option maxRecDepth 100000 in
theorem t135_106 : sm_at 135 106 = some (3, .getfield 7, 11, 0, 0) := rfl
set_option maxRecDepth 100000 in
theorem t135_109 : sm_at 135 109 = some (2, .iload 6, 0, 0, 0) := rfl
set_option maxRecDepth 100000 in
theorem t135_111 : sm_at 135 111 = some (1, .iconst 4, 0, 0, 0) := rfl
set_option maxRecDepth 100000 in
theorem t135_112 : sm_at 135 112 = some (1, .iadd, 0, 0, 0) := rfl
set_option maxRecDepth 100000 in
theorem t135_113 : sm_at 135 113 = some (2, .iload 5, 0, 0, 0) := rfl
set_option maxRecDepth 100000 in
theorem t135_115 : sm_at 135 115 = some (1, .iastore, 0, 0, 0) := rfl
set_option maxRecDepth 100000 in
theorem t135_116 : sm_at 135 116 = some (1, .aload_n 0, 0, 0, 0) := rfl
set_option maxRecDepth 100000 in
theorem t135_117 : sm_at 135 117 = some (3, .getfield 7, 11, 0, 0) := rfl
set_option maxRecDepth 100000 in
theorem t135_120 : sm_at 135 120 = some (1, .iconst 4, 0, 0, 0) := rfl
set_option maxRecDepth 100000 in
theorem t135_121 : sm_at 135 121 = some (1, .dup2, 0, 0, 0) := rfl
set_option maxRecDepth 100000 in
theorem t135_122 : sm_at 135 122 = some (1, .iaload, 0, 0, 0) := rfl
set_option maxRecDepth 100000 in
theorem t135_123 : sm_at 135 123 = some (1, .iconst 1, 0, 0, 0) := rfl
set_option maxRecDepth 100000 in
theorem t135_124 : sm_at 135 124 = some (1, .iadd, 0, 0, 0) := rfl
set_option maxRecDepth 100000 in
theorem t135_125 : sm_at 135 125 = some (1, .iastore, 0, 0, 0) := rfl
set_option maxRecDepth 100000 in
theorem t135_126 : sm_at 135 126 = some (1, .aload_n 0, 0, 0, 0) := rfl
set_option maxRecDepth 100000 in
theorem t135_127 : sm_at 135 127 = some (3, .getfield 7, 11, 0, 0) := rfl
set_option maxRecDepth 100000 in
theorem t135_130 : sm_at 135 130 = some (1, .iconst 4, 0, 0, 0) := rfl
set_option maxRecDepth 100000 in
theorem t135_131 : sm_at 135 131 = some (1, .iaload, 0, 0, 0) := rfl
set_option maxRecDepth 100000 in
theorem t135_132 : sm_at 135 132 = some (1, .iconst 1, 0, 0, 0) := rfl
set_option maxRecDepth 100000 in
theorem t135_133 : sm_at 135 133 = some (1, .isub, 0, 0, 0) := rfl
set_option maxRecDepth 100000 in
theorem t135_134 : sm_at 135 134 = some (1, .ireturn, 0, 0, 0) := rfl
set_option maxRecDepth 10000 in
theorem b135_0 {d : Nat} {r0 : Nat} {x1 : Int} {x2 : Int} {l3 : Option sm_V} {l4 : Option sm_V} {l5 : Option sm_V} {l6 : Option sm_V} {Z : Nat → Nat → Int} {Rf : Nat → Nat → Option Nat} {K : Nat → Nat × Nat} {n z : Nat} {Q : Option sm_V → sm_S → Prop} : sm_wp (d + 1) 135 0 [some (.inr (some r0)), some (.inl x1), some (.inl x2), l3, l4, l5, l6] [] (Z, Rf, K, n, z) Q = ((K r0).1 = 11 ∧ sm_call d 123 [.inr (some r0), .inl x1, .inl x2] (Z, Rf, K, n, z) (sm_cont (d + 1) 135 6 [some (.inr (some r0)), some (.inl x1), some (.inl x2), l3, l4, l5, l6] [] Q)) := (w_aload_n t135_0 rfl rfl).trans ((w_iload_n t135_1 rfl rfl).trans ((w_iload_n t135_2 rfl rfl).trans (w_callV t135_3 rfl rfl rfl rfl (Nat.le_of_ble_eq_true rfl) (Nat.le_of_ble_eq_true rfl) rfl (by decide))))
set_option maxRecDepth 10000 in
theorem b135_6 {d : Nat} {l0 : Option sm_V} {l1 : Option sm_V} {l2 : Option sm_V} {l3 : Option sm_V} {l4 : Option sm_V} {l5 : Option sm_V} {l6 : Option sm_V} {s0 : Int} {Z : Nat → Nat → Int} {Rf : Nat → Nat → Option Nat} {K : Nat → Nat × Nat} {n z : Nat} {Q : Option sm_V → sm_S → Prop} : sm_wp d 135 6 [l0, l1, l2, l3, l4, l5, l6] [.inl s0] (Z, Rf, K, n, z) Q = (if wr s0 = 0 then sm_wp d 135 50 [l0, l1, l2, l3, l4, l5, l6] [] (Z, Rf, K, n, z) Q else sm_wp d 135 9 [l0, l1, l2, l3, l4, l5, l6] [] (Z, Rf, K, n, z) Q) := w_ifeq t135_6 rfl rfl rfl
set_option maxRecDepth 10000 in
theorem b135_9 {d : Nat} {l0 : Option sm_V} {l1 : Option sm_V} {l2 : Option sm_V} {x3 : Int} {l4 : Option sm_V} {l5 : Option sm_V} {l6 : Option sm_V} {Z : Nat → Nat → Int} {Rf : Nat → Nat → Option Nat} {K : Nat → Nat × Nat} {n z : Nat} {Q : Option sm_V → sm_S → Prop} : sm_wp (d + 1) 135 9 [l0, l1, l2, some (.inl x3), l4, l5, l6] [] (Z, Rf, K, n, z) Q = (sm_call d 120 [.inl x3, .inl 0, .inl 3] (Z, Rf, K, n, z) (sm_cont (d + 1) 135 15 [l0, l1, l2, some (.inl x3), l4, l5, l6] [] Q)) := (w_iload_n t135_9 rfl rfl).trans ((w_iconst t135_10 rfl).trans ((w_iconst t135_11 rfl).trans (w_callS t135_12 rfl rfl rfl rfl (Nat.le_of_ble_eq_true rfl) (Nat.le_of_ble_eq_true rfl) rfl)))
set_option maxRecDepth 10000 in
theorem b135_15 {d : Nat} {l0 : Option sm_V} {l1 : Option sm_V} {l2 : Option sm_V} {l3 : Option sm_V} {l4 : Option sm_V} {l5 : Option sm_V} {l6 : Option sm_V} {s0 : Int} {Z : Nat → Nat → Int} {Rf : Nat → Nat → Option Nat} {K : Nat → Nat × Nat} {n z : Nat} {Q : Option sm_V → sm_S → Prop} : sm_wp d 135 15 [l0, l1, l2, l3, l4, l5, l6] [.inl s0] (Z, Rf, K, n, z) Q = (if wr s0 = 0 then sm_wp d 135 50 [l0, l1, l2, l3, l4, l5, l6] [] (Z, Rf, K, n, z) Q else sm_wp d 135 18 [l0, l1, l2, l3, l4, l5, l6] [] (Z, Rf, K, n, z) Q) := w_ifeq t135_15 rfl rfl rfl
set_option maxRecDepth 10000 in
theorem b135_18 {d : Nat} {l0 : Option sm_V} {l1 : Option sm_V} {l2 : Option sm_V} {l3 : Option sm_V} {x4 : Int} {l5 : Option sm_V} {l6 : Option sm_V} {Z : Nat → Nat → Int} {Rf : Nat → Nat → Option Nat} {K : Nat → Nat × Nat} {n z : Nat} {Q : Option sm_V → sm_S → Prop} : sm_wp (d + 1) 135 18 [l0, l1, l2, l3, some (.inl x4), l5, l6] [] (Z, Rf, K, n, z) Q = (sm_call d 120 [.inl x4, .inl 0, .inl 60] (Z, Rf, K, n, z) (sm_cont (d + 1) 135 26 [l0, l1, l2, l3, some (.inl x4), l5, l6] [] Q)) := (w_iload t135_18 rfl rfl).trans ((w_iconst t135_20 rfl).trans ((w_bipush t135_21 rfl).trans (w_callS t135_23 rfl rfl rfl rfl (Nat.le_of_ble_eq_true rfl) (Nat.le_of_ble_eq_true rfl) rfl)))
set_option maxRecDepth 10000 in
theorem b135_26 {d : Nat} {l0 : Option sm_V} {l1 : Option sm_V} {l2 : Option sm_V} {l3 : Option sm_V} {l4 : Option sm_V} {l5 : Option sm_V} {l6 : Option sm_V} {s0 : Int} {Z : Nat → Nat → Int} {Rf : Nat → Nat → Option Nat} {K : Nat → Nat × Nat} {n z : Nat} {Q : Option sm_V → sm_S → Prop} : sm_wp d 135 26 [l0, l1, l2, l3, l4, l5, l6] [.inl s0] (Z, Rf, K, n, z) Q = (if wr s0 = 0 then sm_wp d 135 50 [l0, l1, l2, l3, l4, l5, l6] [] (Z, Rf, K, n, z) Q else sm_wp d 135 29 [l0, l1, l2, l3, l4, l5, l6] [] (Z, Rf, K, n, z) Q) := w_ifeq t135_26 rfl rfl rfl
set_option maxRecDepth 10000 in
theorem b135_29 {d : Nat} {l0 : Option sm_V} {l1 : Option sm_V} {l2 : Option sm_V} {l3 : Option sm_V} {l4 : Option sm_V} {x5 : Int} {l6 : Option sm_V} {Z : Nat → Nat → Int} {Rf : Nat → Nat → Option Nat} {K : Nat → Nat × Nat} {n z : Nat} {Q : Option sm_V → sm_S → Prop} : sm_wp (d + 1) 135 29 [l0, l1, l2, l3, l4, some (.inl x5), l6] [] (Z, Rf, K, n, z) Q = (sm_call d 120 [.inl x5, .inl 0, .inl 3] (Z, Rf, K, n, z) (sm_cont (d + 1) 135 36 [l0, l1, l2, l3, l4, some (.inl x5), l6] [] Q)) := (w_iload t135_29 rfl rfl).trans ((w_iconst t135_31 rfl).trans ((w_iconst t135_32 rfl).trans (w_callS t135_33 rfl rfl rfl rfl (Nat.le_of_ble_eq_true rfl) (Nat.le_of_ble_eq_true rfl) rfl)))
set_option maxRecDepth 10000 in
theorem b135_36 {d : Nat} {l0 : Option sm_V} {l1 : Option sm_V} {l2 : Option sm_V} {l3 : Option sm_V} {l4 : Option sm_V} {l5 : Option sm_V} {l6 : Option sm_V} {s0 : Int} {Z : Nat → Nat → Int} {Rf : Nat → Nat → Option Nat} {K : Nat → Nat × Nat} {n z : Nat} {Q : Option sm_V → sm_S → Prop} : sm_wp d 135 36 [l0, l1, l2, l3, l4, l5, l6] [.inl s0] (Z, Rf, K, n, z) Q = (if wr s0 = 0 then sm_wp d 135 50 [l0, l1, l2, l3, l4, l5, l6] [] (Z, Rf, K, n, z) Q else sm_wp d 135 39 [l0, l1, l2, l3, l4, l5, l6] [] (Z, Rf, K, n, z) Q) := w_ifeq t135_36 rfl rfl rfl
set_option maxRecDepth 10000 in
theorem b135_39 {d : Nat} {r0 : Nat} {l1 : Option sm_V} {l2 : Option sm_V} {l3 : Option sm_V} {l4 : Option sm_V} {l5 : Option sm_V} {l6 : Option sm_V} {Z : Nat → Nat → Int} {Rf : Nat → Nat → Option Nat} {K : Nat → Nat × Nat} {n z : Nat} {Q : Option sm_V → sm_S → Prop} : sm_wp d 135 39 [some (.inr (some r0)), l1, l2, l3, l4, l5, l6] [] (Z, Rf, K, n, z) Q = ((K r0).1 = 11 ∧ (Rf r0 0).isSome = true ∧ sm_rd (K (((Rf r0 0).getD 0))) ((4 : Int)) ∧ (if wr (Z (((Rf r0 0).getD 0)) 4) = (8 : Int) then sm_wp d 135 50 [some (.inr (some r0)), l1, l2, l3, l4, l5, l6] [] (Z, Rf, K, n, z) Q else sm_wp d 135 52 [some (.inr (some r0)), l1, l2, l3, l4, l5, l6] [] (Z, Rf, K, n, z) Q)) := (w_aload_n t135_39 rfl rfl).trans ((w_getR t135_40 rfl (by decide)).trans (congrArg (And _) (congrArg (And _) ((w_iconst t135_43 rfl).trans ((w_iald t135_44 rfl wl_4).trans (congrArg (And _) ((w_bipush t135_45 rfl).trans (w_icne t135_47 rfl wl_8 rfl rfl))))))))
set_option maxRecDepth 10000 in
theorem b135_50 {d : Nat} {l0 : Option sm_V} {l1 : Option sm_V} {l2 : Option sm_V} {l3 : Option sm_V} {l4 : Option sm_V} {l5 : Option sm_V} {l6 : Option sm_V} {Z : Nat → Nat → Int} {Rf : Nat → Nat → Option Nat} {K : Nat → Nat × Nat} {n z : Nat} {Q : Option sm_V → sm_S → Prop} : sm_wp d 135 50 [l0, l1, l2, l3, l4, l5, l6] [] (Z, Rf, K, n, z) Q = (Q (some (.inl ((-1)))) (Z, Rf, K, n, z)) := (w_iconst t135_50 rfl).trans (w_iret t135_51)
set_option maxRecDepth 10000 in
theorem b135_52 {d : Nat} {r0 : Nat} {x1 : Int} {x2 : Int} {x3 : Int} {x4 : Int} {x5 : Int} {l6 : Option sm_V} {Z : Nat → Nat → Int} {Rf : Nat → Nat → Option Nat} {K : Nat → Nat × Nat} {n z : Nat} {Q : Option sm_V → sm_S → Prop} : sm_wp d 135 52 [some (.inr (some r0)), some (.inl x1), some (.inl x2), some (.inl x3), some (.inl x4), some (.inl x5), l6] [] (Z, Rf, K, n, z) Q = ((K r0).1 = 11 ∧ (Rf r0 0).isSome = true ∧ sm_rd (K (((Rf r0 0).getD 0))) ((4 : Int)) ∧ (K r0).1 = 11 ∧ (Rf r0 0).isSome = true ∧ sm_wt (K (((Rf r0 0).getD 0))) (wr (1855 + (5 * (Z (((Rf r0 0).getD 0)) 4)))) ∧ (K r0).1 = 11 ∧ (Rf r0 0).isSome = true ∧ sm_wt (K (((Rf r0 0).getD 0))) (wr ((1855 + (5 * (Z (((Rf r0 0).getD 0)) 4))) + 1)) ∧ (K r0).1 = 11 ∧ (Rf r0 0).isSome = true ∧ sm_wt (K (((Rf r0 0).getD 0))) (wr ((1855 + (5 * (Z (((Rf r0 0).getD 0)) 4))) + 2)) ∧ (K r0).1 = 11 ∧ (Rf r0 0).isSome = true ∧ sm_wt (K (((Rf r0 0).getD 0))) (wr ((1855 + (5 * (Z (((Rf r0 0).getD 0)) 4))) + 3)) ∧ (K r0).1 = 11 ∧ (Rf r0 0).isSome = true ∧ sm_wt (K (((Rf r0 0).getD 0))) (wr ((1855 + (5 * (Z (((Rf r0 0).getD 0)) 4))) + 4)) ∧ (K r0).1 = 11 ∧ (Rf r0 0).isSome = true ∧ sm_rd (K (((Rf r0 0).getD 0))) ((4 : Int)) ∧ sm_wt (K (((Rf r0 0).getD 0))) ((4 : Int)) ∧ (K r0).1 = 11 ∧ (Rf r0 0).isSome = true ∧ sm_rd (K (((Rf r0 0).getD 0))) ((4 : Int)) ∧ Q (some (.inl (((sm_u (sm_u (sm_u (sm_u (sm_u (sm_u Z (((Rf r0 0).getD 0)) ((wr (1855 + (5 * (Z (((Rf r0 0).getD 0)) 4)))).toNat) x1) (((Rf r0 0).getD 0)) ((wr ((1855 + (5 * (Z (((Rf r0 0).getD 0)) 4))) + 1)).toNat) x2) (((Rf r0 0).getD 0)) ((wr ((1855 + (5 * (Z (((Rf r0 0).getD 0)) 4))) + 2)).toNat) x3) (((Rf r0 0).getD 0)) ((wr ((1855 + (5 * (Z (((Rf r0 0).getD 0)) 4))) + 3)).toNat) x4) (((Rf r0 0).getD 0)) ((wr ((1855 + (5 * (Z (((Rf r0 0).getD 0)) 4))) + 4)).toNat) x5) (((Rf r0 0).getD 0)) 4 (((sm_u (sm_u (sm_u (sm_u (sm_u Z (((Rf r0 0).getD 0)) ((wr (1855 + (5 * (Z (((Rf r0 0).getD 0)) 4)))).toNat) x1) (((Rf r0 0).getD 0)) ((wr ((1855 + (5 * (Z (((Rf r0 0).getD 0)) 4))) + 1)).toNat) x2) (((Rf r0 0).getD 0)) ((wr ((1855 + (5 * (Z (((Rf r0 0).getD 0)) 4))) + 2)).toNat) x3) (((Rf r0 0).getD 0)) ((wr ((1855 + (5 * (Z (((Rf r0 0).getD 0)) 4))) + 3)).toNat) x4) (((Rf r0 0).getD 0)) ((wr ((1855 + (5 * (Z (((Rf r0 0).getD 0)) 4))) + 4)).toNat) x5) (((Rf r0 0).getD 0)) 4) + 1)) (((Rf r0 0).getD 0)) 4) - 1))) (sm_u (sm_u (sm_u (sm_u (sm_u (sm_u Z (((Rf r0 0).getD 0)) ((wr (1855 + (5 * (Z (((Rf r0 0).getD 0)) 4)))).toNat) x1) (((Rf r0 0).getD 0)) ((wr ((1855 + (5 * (Z (((Rf r0 0).getD 0)) 4))) + 1)).toNat) x2) (((Rf r0 0).getD 0)) ((wr ((1855 + (5 * (Z (((Rf r0 0).getD 0)) 4))) + 2)).toNat) x3) (((Rf r0 0).getD 0)) ((wr ((1855 + (5 * (Z (((Rf r0 0).getD 0)) 4))) + 3)).toNat) x4) (((Rf r0 0).getD 0)) ((wr ((1855 + (5 * (Z (((Rf r0 0).getD 0)) 4))) + 4)).toNat) x5) (((Rf r0 0).getD 0)) 4 (((sm_u (sm_u (sm_u (sm_u (sm_u Z (((Rf r0 0).getD 0)) ((wr (1855 + (5 * (Z (((Rf r0 0).getD 0)) 4)))).toNat) x1) (((Rf r0 0).getD 0)) ((wr ((1855 + (5 * (Z (((Rf r0 0).getD 0)) 4))) + 1)).toNat) x2) (((Rf r0 0).getD 0)) ((wr ((1855 + (5 * (Z (((Rf r0 0).getD 0)) 4))) + 2)).toNat) x3) (((Rf r0 0).getD 0)) ((wr ((1855 + (5 * (Z (((Rf r0 0).getD 0)) 4))) + 3)).toNat) x4) (((Rf r0 0).getD 0)) ((wr ((1855 + (5 * (Z (((Rf r0 0).getD 0)) 4))) + 4)).toNat) x5) (((Rf r0 0).getD 0)) 4) + 1), Rf, K, n, z)) := (w_sipush t135_52 rfl).trans ((w_iconst t135_55 rfl).trans ((w_aload_n t135_56 rfl rfl).trans ((w_getR t135_57 rfl (by decide)).trans (congrArg (And _) (congrArg (And _) ((w_iconst t135_60 rfl).trans ((w_iald t135_61 rfl wl_4).trans (congrArg (And _) ((w_imul t135_62 rfl).trans ((w_iadd t135_63 rfl).trans ((w_istore t135_64 rfl (Nat.le_of_ble_eq_true rfl) rfl).trans ((w_aload_n t135_66 rfl rfl).trans ((w_getR t135_67 rfl (by decide)).trans (congrArg (And _) (congrArg (And _) ((w_iload t135_70 rfl rfl).trans ((w_iload_n t135_72 rfl rfl).trans ((w_iast t135_73 rfl rfl).trans (congrArg (And _) ((w_aload_n t135_74 rfl rfl).trans ((w_getR t135_75 rfl (by decide)).trans (congrArg (And _) (congrArg (And _) ((w_iload t135_78 rfl rfl).trans ((w_iconst t135_80 rfl).trans ((w_iadd t135_81 rfl).trans ((w_iload_n t135_82 rfl rfl).trans ((w_iast t135_83 rfl rfl).trans (congrArg (And _) ((w_aload_n t135_84 rfl rfl).trans ((w_getR t135_85 rfl (by decide)).trans (congrArg (And _) (congrArg (And _) ((w_iload t135_88 rfl rfl).trans ((w_iconst t135_90 rfl).trans ((w_iadd t135_91 rfl).trans ((w_iload_n t135_92 rfl rfl).trans ((w_iast t135_93 rfl rfl).trans (congrArg (And _) ((w_aload_n t135_94 rfl rfl).trans ((w_getR t135_95 rfl (by decide)).trans (congrArg (And _) (congrArg (And _) ((w_iload t135_98 rfl rfl).trans ((w_iconst t135_100 rfl).trans ((w_iadd t135_101 rfl).trans ((w_iload t135_102 rfl rfl).trans ((w_iast t135_104 rfl rfl).trans (congrArg (And _) ((w_aload_n t135_105 rfl rfl).trans ((w_getR t135_106 rfl (by decide)).trans (congrArg (And _) (congrArg (And _) ((w_iload t135_109 rfl rfl).trans ((w_iconst t135_111 rfl).trans ((w_iadd t135_112 rfl).trans ((w_iload t135_113 rfl rfl).trans ((w_iast t135_115 rfl rfl).trans (congrArg (And _) ((w_aload_n t135_116 rfl rfl).trans ((w_getR t135_117 rfl (by decide)).trans (congrArg (And _) (congrArg (And _) ((w_iconst t135_120 rfl).trans ((w_dup2 t135_121 rfl).trans ((w_iald t135_122 rfl wl_4).trans (congrArg (And _) ((w_iconst t135_123 rfl).trans ((w_iadd t135_124 rfl).trans ((w_iast t135_125 rfl wl_4).trans (congrArg (And _) ((w_aload_n t135_126 rfl rfl).trans ((w_getR t135_127 rfl (by decide)).trans (congrArg (And _) (congrArg (And _) ((w_iconst t135_130 rfl).trans ((w_iald t135_131 rfl wl_4).trans (congrArg (And _) ((w_iconst t135_132 rfl).trans ((w_isub t135_133 rfl).trans (w_iret t135_134)))))))))))))))))))))))))))))))))))))))))))))))))))))))))))))))))))))))))))))))))
theorem t136_0 : sm_at 136 0 = some (1, .aload_n 0, 0, 0, 0) := rfl
theorem t136_1 : sm_at 136 1 = some (3, .getfield 96, 11, 14, 0) := rfl
theorem t136_4 : sm_at 136 4 = some (2, .bipush 20, 0, 0, 0) := rfl
theorem t136_6 : sm_at 136 6 = some (1, .iadd, 0, 0, 0) := rfl
theorem t136_7 : sm_at 136 7 = some (3, .sipush 400, 0, 0, 0) := rfl
theorem t136_10 : sm_at 136 10 = some (3, .if_icmp .le 5, 0, 0, 0) := rfl
theorem t136_13 : sm_at 136 13 = some (1, .iconst (-1), 0, 0, 0) := rfl
theorem t136_14 : sm_at 136 14 = some (1, .ireturn, 0, 0, 0) := rfl
theorem t136_15 : sm_at 136 15 = some (1, .iconst 0, 0, 0, 0) := rfl
theorem t136_16 : sm_at 136 16 = some (2, .istore 6, 0, 0, 0) := rfl
theorem t136_18 : sm_at 136 18 = some (2, .iload 6, 0, 0, 0) := rfl
theorem t136_20 : sm_at 136 20 = some (2, .bipush 20, 0, 0, 0) := rfl
theorem t136_22 : sm_at 136 22 = some (3, .if_icmp .ge 93, 0, 0, 0) := rfl
theorem t136_25 : sm_at 136 25 = some (2, .iload 6, 0, 0, 0) := rfl
theorem t136_27 : sm_at 136 27 = some (1, .iconst 4, 0, 0, 0) := rfl
theorem t136_28 : sm_at 136 28 = some (3, .if_icmp .ge 7, 0, 0, 0) := rfl
theorem t136_31 : sm_at 136 31 = some (1, .iload_n 1, 0, 0, 0) := rfl
theorem t136_32 : sm_at 136 32 = some (3, .goto 39, 0, 0, 0) := rfl
theorem t136_35 : sm_at 136 35 = some (2, .iload 6, 0, 0, 0) := rfl
theorem t136_37 : sm_at 136 37 = some (2, .bipush 8, 0, 0, 0) := rfl
theorem t136_39 : sm_at 136 39 = some (3, .if_icmp .ge 7, 0, 0, 0) := rfl
theorem t136_42 : sm_at 136 42 = some (1, .iload_n 2, 0, 0, 0) := rfl
theorem t136_43 : sm_at 136 43 = some (3, .goto 28, 0, 0, 0) := rfl
theorem t136_46 : sm_at 136 46 = some (2, .iload 6, 0, 0, 0) := rfl
theorem t136_48 : sm_at 136 48 = some (2, .bipush 12, 0, 0, 0) := rfl
theorem t136_50 : sm_at 136 50 = some (3, .if_icmp .ge 7, 0, 0, 0) := rfl
theorem t136_53 : sm_at 136 53 = some (1, .iload_n 3, 0, 0, 0) := rfl
theorem t136_54 : sm_at 136 54 = some (3, .goto 17, 0, 0, 0) := rfl
theorem t136_57 : sm_at 136 57 = some (2, .iload 6, 0, 0, 0) := rfl
theorem t136_59 : sm_at 136 59 = some (2, .bipush 16, 0, 0, 0) := rfl
theorem t136_61 : sm_at 136 61 = some (3, .if_icmp .ge 8, 0, 0, 0) := rfl
theorem t136_64 : sm_at 136 64 = some (2, .iload 4, 0, 0, 0) := rfl
theorem t136_66 : sm_at 136 66 = some (3, .goto 5, 0, 0, 0) := rfl
theorem t136_69 : sm_at 136 69 = some (2, .iload 5, 0, 0, 0) := rfl
theorem t136_71 : sm_at 136 71 = some (2, .istore 7, 0, 0, 0) := rfl
theorem t136_73 : sm_at 136 73 = some (1, .aload_n 0, 0, 0, 0) := rfl
theorem t136_74 : sm_at 136 74 = some (3, .getfield 28, 11, 9, 0) := rfl
theorem t136_77 : sm_at 136 77 = some (1, .aload_n 0, 0, 0, 0) := rfl
theorem t136_78 : sm_at 136 78 = some (3, .getfield 96, 11, 14, 0) := rfl
theorem t136_81 : sm_at 136 81 = some (2, .iload 7, 0, 0, 0) := rfl
theorem t136_83 : sm_at 136 83 = some (2, .bipush 24, 0, 0, 0) := rfl
theorem t136_85 : sm_at 136 85 = some (2, .bipush 8, 0, 0, 0) := rfl
theorem t136_87 : sm_at 136 87 = some (2, .iload 6, 0, 0, 0) := rfl
theorem t136_89 : sm_at 136 89 = some (1, .iconst 4, 0, 0, 0) := rfl
theorem t136_90 : sm_at 136 90 = some (1, .irem, 0, 0, 0) := rfl
theorem t136_91 : sm_at 136 91 = some (1, .imul, 0, 0, 0) := rfl
theorem t136_92 : sm_at 136 92 = some (1, .isub, 0, 0, 0) := rfl
theorem t136_93 : sm_at 136 93 = some (1, .ishr, 0, 0, 0) := rfl
theorem t136_94 : sm_at 136 94 = some (3, .sipush 255, 0, 0, 0) := rfl
theorem t136_97 : sm_at 136 97 = some (1, .iand, 0, 0, 0) := rfl
theorem t136_98 : sm_at 136 98 = some (1, .iastore, 0, 0, 0) := rfl
theorem t136_99 : sm_at 136 99 = some (1, .aload_n 0, 0, 0, 0) := rfl
theorem t136_100 : sm_at 136 100 = some (1, .dup, 0, 0, 0) := rfl
theorem t136_101 : sm_at 136 101 = some (3, .getfield 96, 11, 14, 0) := rfl
theorem t136_104 : sm_at 136 104 = some (1, .iconst 1, 0, 0, 0) := rfl
theorem t136_105 : sm_at 136 105 = some (1, .iadd, 0, 0, 0) := rfl
theorem t136_106 : sm_at 136 106 = some (3, .putfield 96, 11, 14, 0) := rfl
theorem t136_109 : sm_at 136 109 = some (3, .iinc 6 1, 0, 0, 0) := rfl
theorem t136_112 : sm_at 136 112 = some (3, .goto (-94), 0, 0, 0) := rfl
theorem t136_115 : sm_at 136 115 = some (1, .aload_n 0, 0, 0, 0) := rfl
set_option maxRecDepth 100000 in
theorem t136_116 : sm_at 136 116 = some (3, .getfield 96, 11, 14, 0) := rfl
set_option maxRecDepth 100000 in
theorem t136_119 : sm_at 136 119 = some (1, .ireturn, 0, 0, 0) := rfl
set_option maxRecDepth 10000 in
theorem b136_0 {d : Nat} {r0 : Nat} {l1 : Option sm_V} {l2 : Option sm_V} {l3 : Option sm_V} {l4 : Option sm_V} {l5 : Option sm_V} {l6 : Option sm_V} {l7 : Option sm_V} {Z : Nat → Nat → Int} {Rf : Nat → Nat → Option Nat} {K : Nat → Nat × Nat} {n z : Nat} {Q : Option sm_V → sm_S → Prop} : sm_wp d 136 0 [some (.inr (some r0)), l1, l2, l3, l4, l5, l6, l7] [] (Z, Rf, K, n, z) Q = ((K r0).1 = 11 ∧ (if wr ((Z r0 14) + 20) ≤ (400 : Int) then sm_wp d 136 15 [some (.inr (some r0)), l1, l2, l3, l4, l5, l6, l7] [] (Z, Rf, K, n, z) Q else sm_wp d 136 13 [some (.inr (some r0)), l1, l2, l3, l4, l5, l6, l7] [] (Z, Rf, K, n, z) Q)) := (w_aload_n t136_0 rfl rfl).trans ((w_getI t136_1 rfl (by decide)).trans (congrArg (And _) ((w_bipush t136_4 rfl).trans ((w_iadd t136_6 rfl).trans ((w_sipush t136_7 rfl).trans (w_icle t136_10 rfl wl_400 rfl rfl))))))
set_option maxRecDepth 10000 in
theorem b136_13 {d : Nat} {l0 : Option sm_V} {l1 : Option sm_V} {l2 : Option sm_V} {l3 : Option sm_V} {l4 : Option sm_V} {l5 : Option sm_V} {l6 : Option sm_V} {l7 : Option sm_V} {Z : Nat → Nat → Int} {Rf : Nat → Nat → Option Nat} {K : Nat → Nat × Nat} {n z : Nat} {Q : Option sm_V → sm_S → Prop} : sm_wp d 136 13 [l0, l1, l2, l3, l4, l5, l6, l7] [] (Z, Rf, K, n, z) Q = (Q (some (.inl ((-1)))) (Z, Rf, K, n, z)) := (w_iconst t136_13 rfl).trans (w_iret t136_14)
set_option maxRecDepth 10000 in
theorem b136_15 {d : Nat} {l0 : Option sm_V} {l1 : Option sm_V} {l2 : Option sm_V} {l3 : Option sm_V} {l4 : Option sm_V} {l5 : Option sm_V} {l6 : Option sm_V} {l7 : Option sm_V} {Z : Nat → Nat → Int} {Rf : Nat → Nat → Option Nat} {K : Nat → Nat × Nat} {n z : Nat} {Q : Option sm_V → sm_S → Prop} : sm_wp d 136 15 [l0, l1, l2, l3, l4, l5, l6, l7] [] (Z, Rf, K, n, z) Q = (sm_wp d 136 18 [l0, l1, l2, l3, l4, l5, some (.inl 0), l7] [] (Z, Rf, K, n, z) Q) := (w_iconst t136_15 rfl).trans (w_istore t136_16 rfl (Nat.le_of_ble_eq_true rfl) rfl)
set_option maxRecDepth 10000 in
theorem b136_18 {d : Nat} {l0 : Option sm_V} {l1 : Option sm_V} {l2 : Option sm_V} {l3 : Option sm_V} {l4 : Option sm_V} {l5 : Option sm_V} {x6 : Int} {l7 : Option sm_V} {Z : Nat → Nat → Int} {Rf : Nat → Nat → Option Nat} {K : Nat → Nat × Nat} {n z : Nat} {Q : Option sm_V → sm_S → Prop} : sm_wp d 136 18 [l0, l1, l2, l3, l4, l5, some (.inl x6), l7] [] (Z, Rf, K, n, z) Q = (if (20 : Int) ≤ wr x6 then sm_wp d 136 115 [l0, l1, l2, l3, l4, l5, some (.inl x6), l7] [] (Z, Rf, K, n, z) Q else sm_wp d 136 25 [l0, l1, l2, l3, l4, l5, some (.inl x6), l7] [] (Z, Rf, K, n, z) Q) := (w_iload t136_18 rfl rfl).trans ((w_bipush t136_20 rfl).trans (w_icge t136_22 rfl wl_20 rfl rfl))
set_option maxRecDepth 10000 in
theorem b136_25 {d : Nat} {l0 : Option sm_V} {l1 : Option sm_V} {l2 : Option sm_V} {l3 : Option sm_V} {l4 : Option sm_V} {l5 : Option sm_V} {x6 : Int} {l7 : Option sm_V} {Z : Nat → Nat → Int} {Rf : Nat → Nat → Option Nat} {K : Nat → Nat × Nat} {n z : Nat} {Q : Option sm_V → sm_S → Prop} : sm_wp d 136 25 [l0, l1, l2, l3, l4, l5, some (.inl x6), l7] [] (Z, Rf, K, n, z) Q = (if (4 : Int) ≤ wr x6 then sm_wp d 136 35 [l0, l1, l2, l3, l4, l5, some (.inl x6), l7] [] (Z, Rf, K, n, z) Q else sm_wp d 136 31 [l0, l1, l2, l3, l4, l5, some (.inl x6), l7] [] (Z, Rf, K, n, z) Q) := (w_iload t136_25 rfl rfl).trans ((w_iconst t136_27 rfl).trans (w_icge t136_28 rfl wl_4 rfl rfl))
set_option maxRecDepth 10000 in
theorem b136_31 {d : Nat} {l0 : Option sm_V} {x1 : Int} {l2 : Option sm_V} {l3 : Option sm_V} {l4 : Option sm_V} {l5 : Option sm_V} {l6 : Option sm_V} {l7 : Option sm_V} {Z : Nat → Nat → Int} {Rf : Nat → Nat → Option Nat} {K : Nat → Nat × Nat} {n z : Nat} {Q : Option sm_V → sm_S → Prop} : sm_wp d 136 31 [l0, some (.inl x1), l2, l3, l4, l5, l6, l7] [] (Z, Rf, K, n, z) Q = (sm_wp d 136 71 [l0, some (.inl x1), l2, l3, l4, l5, l6, l7] [.inl x1] (Z, Rf, K, n, z) Q) := (w_iload_n t136_31 rfl rfl).trans (w_goto t136_32 rfl)
set_option maxRecDepth 10000 in
theorem b136_35 {d : Nat} {l0 : Option sm_V} {l1 : Option sm_V} {l2 : Option sm_V} {l3 : Option sm_V} {l4 : Option sm_V} {l5 : Option sm_V} {x6 : Int} {l7 : Option sm_V} {Z : Nat → Nat → Int} {Rf : Nat → Nat → Option Nat} {K : Nat → Nat × Nat} {n z : Nat} {Q : Option sm_V → sm_S → Prop} : sm_wp d 136 35 [l0, l1, l2, l3, l4, l5, some (.inl x6), l7] [] (Z, Rf, K, n, z) Q = (if (8 : Int) ≤ wr x6 then sm_wp d 136 46 [l0, l1, l2, l3, l4, l5, some (.inl x6), l7] [] (Z, Rf, K, n, z) Q else sm_wp d 136 42 [l0, l1, l2, l3, l4, l5, some (.inl x6), l7] [] (Z, Rf, K, n, z) Q) := (w_iload t136_35 rfl rfl).trans ((w_bipush t136_37 rfl).trans (w_icge t136_39 rfl wl_8 rfl rfl))
set_option maxRecDepth 10000 in
theorem b136_42 {d : Nat} {l0 : Option sm_V} {l1 : Option sm_V} {x2 : Int} {l3 : Option sm_V} {l4 : Option sm_V} {l5 : Option sm_V} {l6 : Option sm_V} {l7 : Option sm_V} {Z : Nat → Nat → Int} {Rf : Nat → Nat → Option Nat} {K : Nat → Nat × Nat} {n z : Nat} {Q : Option sm_V → sm_S → Prop} : sm_wp d 136 42 [l0, l1, some (.inl x2), l3, l4, l5, l6, l7] [] (Z, Rf, K, n, z) Q = (sm_wp d 136 71 [l0, l1, some (.inl x2), l3, l4, l5, l6, l7] [.inl x2] (Z, Rf, K, n, z) Q) := (w_iload_n t136_42 rfl rfl).trans (w_goto t136_43 rfl)
set_option maxRecDepth 10000 in
theorem b136_46 {d : Nat} {l0 : Option sm_V} {l1 : Option sm_V} {l2 : Option sm_V} {l3 : Option sm_V} {l4 : Option sm_V} {l5 : Option sm_V} {x6 : Int} {l7 : Option sm_V} {Z : Nat → Nat → Int} {Rf : Nat → Nat → Option Nat} {K : Nat → Nat × Nat} {n z : Nat} {Q : Option sm_V → sm_S → Prop} : sm_wp d 136 46 [l0, l1, l2, l3, l4, l5, some (.inl x6), l7] [] (Z, Rf, K, n, z) Q = (if (12 : Int) ≤ wr x6 then sm_wp d 136 57 [l0, l1, l2, l3, l4, l5, some (.inl x6), l7] [] (Z, Rf, K, n, z) Q else sm_wp d 136 53 [l0, l1, l2, l3, l4, l5, some (.inl x6), l7] [] (Z, Rf, K, n, z) Q) := (w_iload t136_46 rfl rfl).trans ((w_bipush t136_48 rfl).trans (w_icge t136_50 rfl wl_12 rfl rfl))
set_option maxRecDepth 10000 in
theorem b136_53 {d : Nat} {l0 : Option sm_V} {l1 : Option sm_V} {l2 : Option sm_V} {x3 : Int} {l4 : Option sm_V} {l5 : Option sm_V} {l6 : Option sm_V} {l7 : Option sm_V} {Z : Nat → Nat → Int} {Rf : Nat → Nat → Option Nat} {K : Nat → Nat × Nat} {n z : Nat} {Q : Option sm_V → sm_S → Prop} : sm_wp d 136 53 [l0, l1, l2, some (.inl x3), l4, l5, l6, l7] [] (Z, Rf, K, n, z) Q = (sm_wp d 136 71 [l0, l1, l2, some (.inl x3), l4, l5, l6, l7] [.inl x3] (Z, Rf, K, n, z) Q) := (w_iload_n t136_53 rfl rfl).trans (w_goto t136_54 rfl)
set_option maxRecDepth 10000 in
theorem b136_57 {d : Nat} {l0 : Option sm_V} {l1 : Option sm_V} {l2 : Option sm_V} {l3 : Option sm_V} {l4 : Option sm_V} {l5 : Option sm_V} {x6 : Int} {l7 : Option sm_V} {Z : Nat → Nat → Int} {Rf : Nat → Nat → Option Nat} {K : Nat → Nat × Nat} {n z : Nat} {Q : Option sm_V → sm_S → Prop} : sm_wp d 136 57 [l0, l1, l2, l3, l4, l5, some (.inl x6), l7] [] (Z, Rf, K, n, z) Q = (if (16 : Int) ≤ wr x6 then sm_wp d 136 69 [l0, l1, l2, l3, l4, l5, some (.inl x6), l7] [] (Z, Rf, K, n, z) Q else sm_wp d 136 64 [l0, l1, l2, l3, l4, l5, some (.inl x6), l7] [] (Z, Rf, K, n, z) Q) := (w_iload t136_57 rfl rfl).trans ((w_bipush t136_59 rfl).trans (w_icge t136_61 rfl wl_16 rfl rfl))
set_option maxRecDepth 10000 in
theorem b136_64 {d : Nat} {l0 : Option sm_V} {l1 : Option sm_V} {l2 : Option sm_V} {l3 : Option sm_V} {x4 : Int} {l5 : Option sm_V} {l6 : Option sm_V} {l7 : Option sm_V} {Z : Nat → Nat → Int} {Rf : Nat → Nat → Option Nat} {K : Nat → Nat × Nat} {n z : Nat} {Q : Option sm_V → sm_S → Prop} : sm_wp d 136 64 [l0, l1, l2, l3, some (.inl x4), l5, l6, l7] [] (Z, Rf, K, n, z) Q = (sm_wp d 136 71 [l0, l1, l2, l3, some (.inl x4), l5, l6, l7] [.inl x4] (Z, Rf, K, n, z) Q) := (w_iload t136_64 rfl rfl).trans (w_goto t136_66 rfl)
set_option maxRecDepth 10000 in
theorem b136_69 {d : Nat} {l0 : Option sm_V} {l1 : Option sm_V} {l2 : Option sm_V} {l3 : Option sm_V} {l4 : Option sm_V} {x5 : Int} {l6 : Option sm_V} {l7 : Option sm_V} {Z : Nat → Nat → Int} {Rf : Nat → Nat → Option Nat} {K : Nat → Nat × Nat} {n z : Nat} {Q : Option sm_V → sm_S → Prop} : sm_wp d 136 69 [l0, l1, l2, l3, l4, some (.inl x5), l6, l7] [] (Z, Rf, K, n, z) Q = (sm_wp d 136 71 [l0, l1, l2, l3, l4, some (.inl x5), l6, l7] [.inl x5] (Z, Rf, K, n, z) Q) := w_iload t136_69 rfl rfl
set_option maxRecDepth 10000 in
theorem b136_71 {d : Nat} {r0 : Nat} {l1 : Option sm_V} {l2 : Option sm_V} {l3 : Option sm_V} {l4 : Option sm_V} {l5 : Option sm_V} {x6 : Int} {l7 : Option sm_V} {s0 : Int} {Z : Nat → Nat → Int} {Rf : Nat → Nat → Option Nat} {K : Nat → Nat × Nat} {n z : Nat} {Q : Option sm_V → sm_S → Prop} : sm_wp d 136 71 [some (.inr (some r0)), l1, l2, l3, l4, l5, some (.inl x6), l7] [.inl s0] (Z, Rf, K, n, z) Q = ((K r0).1 = 11 ∧ (Rf r0 9).isSome = true ∧ (K r0).1 = 11 ∧ ¬ (4 : Int) = 0 ∧ sm_wt (K (((Rf r0 9).getD 0))) (wr (Z r0 14)) ∧ (K r0).1 = 11 ∧ (K r0).1 = 11 ∧ sm_wp d 136 18 [some (.inr (some r0)), l1, l2, l3, l4, l5, some (.inl (x6 + 1)), some (.inl s0)] [] (sm_u (sm_u Z (((Rf r0 9).getD 0)) ((wr (Z r0 14)).toNat) (sm_and (sm_shr s0 (24 - (8 * (sm_rem x6 4)))) 255)) r0 14 (((sm_u Z (((Rf r0 9).getD 0)) ((wr (Z r0 14)).toNat) (sm_and (sm_shr s0 (24 - (8 * (sm_rem x6 4)))) 255)) r0 14) + 1), Rf, K, n, z) Q) := (w_istore t136_71 rfl (Nat.le_of_ble_eq_true rfl) rfl).trans ((w_aload_n t136_73 rfl rfl).trans ((w_getR t136_74 rfl (by decide)).trans (congrArg (And _) (congrArg (And _) ((w_aload_n t136_77 rfl rfl).trans ((w_getI t136_78 rfl (by decide)).trans (congrArg (And _) ((w_iload t136_81 rfl rfl).trans ((w_bipush t136_83 rfl).trans ((w_bipush t136_85 rfl).trans ((w_iload t136_87 rfl rfl).trans ((w_iconst t136_89 rfl).trans ((w_irem t136_90 rfl wl_4).trans (congrArg (And _) ((w_imul t136_91 rfl).trans ((w_isub t136_92 rfl).trans ((w_ishr t136_93 rfl).trans ((w_sipush t136_94 rfl).trans ((w_iand t136_97 rfl).trans ((w_iast t136_98 rfl rfl).trans (congrArg (And _) ((w_aload_n t136_99 rfl rfl).trans ((w_dup t136_100 rfl).trans ((w_getI t136_101 rfl (by decide)).trans (congrArg (And _) ((w_iconst t136_104 rfl).trans ((w_iadd t136_105 rfl).trans ((w_putI t136_106 rfl (by decide)).trans (congrArg (And _) ((w_iinc t136_109 rfl rfl (Nat.le_of_ble_eq_true rfl) rfl).trans (w_goto t136_112 rfl)))))))))))))))))))))))))))))))
set_option maxRecDepth 10000 in
theorem b136_115 {d : Nat} {r0 : Nat} {l1 : Option sm_V} {l2 : Option sm_V} {l3 : Option sm_V} {l4 : Option sm_V} {l5 : Option sm_V} {l6 : Option sm_V} {l7 : Option sm_V} {Z : Nat → Nat → Int} {Rf : Nat → Nat → Option Nat} {K : Nat → Nat × Nat} {n z : Nat} {Q : Option sm_V → sm_S → Prop} : sm_wp d 136 115 [some (.inr (some r0)), l1, l2, l3, l4, l5, l6, l7] [] (Z, Rf, K, n, z) Q = ((K r0).1 = 11 ∧ Q (some (.inl (Z r0 14))) (Z, Rf, K, n, z)) := (w_aload_n t136_115 rfl rfl).trans ((w_getI t136_116 rfl (by decide)).trans (congrArg (And _) (w_iret t136_119)))
theorem t137_0 : sm_at 137 0 = some (1, .iload_n 1, 0, 0, 0) := rfl
theorem t137_1 : sm_at 137 1 = some (1, .iconst 0, 0, 0, 0) := rfl
theorem t137_2 : sm_at 137 2 = some (1, .aload_n 0, 0, 0, 0) := rfl
theorem t137_3 : sm_at 137 3 = some (3, .getfield 96, 11, 14, 0) := rfl
theorem t137_6 : sm_at 137 6 = some (3, .invokestatic 75, 120, 3, 0) := rfl
theorem t137_9 : sm_at 137 9 = some (3, .ifCond .ne 5, 0, 0, 0) := rfl
theorem t137_12 : sm_at 137 12 = some (1, .iconst 0, 0, 0, 0) := rfl
theorem t137_13 : sm_at 137 13 = some (1, .ireturn, 1, 0, 0) := rfl
theorem t137_14 : sm_at 137 14 = some (1, .aload_n 0, 0, 0, 0) := rfl
theorem t137_15 : sm_at 137 15 = some (1, .iload_n 1, 0, 0, 0) := rfl
theorem t137_16 : sm_at 137 16 = some (3, .putfield 96, 11, 14, 0) := rfl
theorem t137_19 : sm_at 137 19 = some (1, .iconst 1, 0, 0, 0) := rfl
theorem t137_20 : sm_at 137 20 = some (1, .ireturn, 1, 0, 0) := rfl
set_option maxRecDepth 10000 in
theorem b137_0 {d : Nat} {r0 : Nat} {x1 : Int} {Z : Nat → Nat → Int} {Rf : Nat → Nat → Option Nat} {K : Nat → Nat × Nat} {n z : Nat} {Q : Option sm_V → sm_S → Prop} : sm_wp (d + 1) 137 0 [some (.inr (some r0)), some (.inl x1)] [] (Z, Rf, K, n, z) Q = ((K r0).1 = 11 ∧ sm_call d 120 [.inl x1, .inl 0, .inl (Z r0 14)] (Z, Rf, K, n, z) (sm_cont (d + 1) 137 9 [some (.inr (some r0)), some (.inl x1)] [] Q)) := (w_iload_n t137_0 rfl rfl).trans ((w_iconst t137_1 rfl).trans ((w_aload_n t137_2 rfl rfl).trans ((w_getI t137_3 rfl (by decide)).trans (congrArg (And _) (w_callS t137_6 rfl rfl rfl rfl (Nat.le_of_ble_eq_true rfl) (Nat.le_of_ble_eq_true rfl) rfl)))))
set_option maxRecDepth 10000 in
theorem b137_9 {d : Nat} {l0 : Option sm_V} {l1 : Option sm_V} {s0 : Int} {Z : Nat → Nat → Int} {Rf : Nat → Nat → Option Nat} {K : Nat → Nat × Nat} {n z : Nat} {Q : Option sm_V → sm_S → Prop} : sm_wp d 137 9 [l0, l1] [.inl s0] (Z, Rf, K, n, z) Q = (if wr s0 = 0 then sm_wp d 137 12 [l0, l1] [] (Z, Rf, K, n, z) Q else sm_wp d 137 14 [l0, l1] [] (Z, Rf, K, n, z) Q) := w_ifne t137_9 rfl rfl rfl
set_option maxRecDepth 10000 in
theorem b137_12 {d : Nat} {l0 : Option sm_V} {l1 : Option sm_V} {Z : Nat → Nat → Int} {Rf : Nat → Nat → Option Nat} {K : Nat → Nat × Nat} {n z : Nat} {Q : Option sm_V → sm_S → Prop} : sm_wp d 137 12 [l0, l1] [] (Z, Rf, K, n, z) Q = (((0 : Int) = 0 ∨ (0 : Int) = 1) ∧ Q (some (.inl 0)) (Z, Rf, K, n, z)) := (w_iconst t137_12 rfl).trans (w_zret t137_13 wl_0)
set_option maxRecDepth 10000 in
theorem b137_14 {d : Nat} {r0 : Nat} {x1 : Int} {Z : Nat → Nat → Int} {Rf : Nat → Nat → Option Nat} {K : Nat → Nat × Nat} {n z : Nat} {Q : Option sm_V → sm_S → Prop} : sm_wp d 137 14 [some (.inr (some r0)), some (.inl x1)] [] (Z, Rf, K, n, z) Q = ((K r0).1 = 11 ∧ ((1 : Int) = 0 ∨ (1 : Int) = 1) ∧ Q (some (.inl 1)) (sm_u Z r0 14 x1, Rf, K, n, z)) := (w_aload_n t137_14 rfl rfl).trans ((w_iload_n t137_15 rfl rfl).trans ((w_putI t137_16 rfl (by decide)).trans (congrArg (And _) ((w_iconst t137_19 rfl).trans (w_zret t137_20 wl_1)))))
theorem t138_0 : sm_at 138 0 = some (1, .iload_n 1, 0, 0, 0) := rfl
theorem t138_1 : sm_at 138 1 = some (1, .aload_n 0, 0, 0, 0) := rfl
theorem t138_2 : sm_at 138 2 = some (3, .getfield 96, 11, 14, 0) := rfl
theorem t138_5 : sm_at 138 5 = some (3, .if_icmp .ge 12, 0, 0, 0) := rfl
theorem t138_8 : sm_at 138 8 = some (1, .aload_n 0, 0, 0, 0) := rfl
theorem t138_9 : sm_at 138 9 = some (3, .getfield 28, 11, 9, 0) := rfl
theorem t138_12 : sm_at 138 12 = some (1, .iload_n 1, 0, 0, 0) := rfl
theorem t138_13 : sm_at 138 13 = some (1, .iaload, 0, 0, 0) := rfl
theorem t138_14 : sm_at 138 14 = some (3, .goto 4, 0, 0, 0) := rfl
theorem t138_17 : sm_at 138 17 = some (1, .iconst (-1), 0, 0, 0) := rfl
theorem t138_18 : sm_at 138 18 = some (1, .ireturn, 0, 0, 0) := rfl
set_option maxRecDepth 10000 in
theorem b138_0 {d : Nat} {r0 : Nat} {x1 : Int} {Z : Nat → Nat → Int} {Rf : Nat → Nat → Option Nat} {K : Nat → Nat × Nat} {n z : Nat} {Q : Option sm_V → sm_S → Prop} : sm_wp d 138 0 [some (.inr (some r0)), some (.inl x1)] [] (Z, Rf, K, n, z) Q = ((K r0).1 = 11 ∧ (if wr (Z r0 14) ≤ wr x1 then sm_wp d 138 17 [some (.inr (some r0)), some (.inl x1)] [] (Z, Rf, K, n, z) Q else sm_wp d 138 8 [some (.inr (some r0)), some (.inl x1)] [] (Z, Rf, K, n, z) Q)) := (w_iload_n t138_0 rfl rfl).trans ((w_aload_n t138_1 rfl rfl).trans ((w_getI t138_2 rfl (by decide)).trans (congrArg (And _) (w_icge t138_5 rfl rfl rfl rfl))))
set_option maxRecDepth 10000 in
theorem b138_8 {d : Nat} {r0 : Nat} {x1 : Int} {Z : Nat → Nat → Int} {Rf : Nat → Nat → Option Nat} {K : Nat → Nat × Nat} {n z : Nat} {Q : Option sm_V → sm_S → Prop} : sm_wp d 138 8 [some (.inr (some r0)), some (.inl x1)] [] (Z, Rf, K, n, z) Q = ((K r0).1 = 11 ∧ (Rf r0 9).isSome = true ∧ sm_rd (K (((Rf r0 9).getD 0))) (wr x1) ∧ sm_wp d 138 18 [some (.inr (some r0)), some (.inl x1)] [.inl (Z (((Rf r0 9).getD 0)) ((wr x1).toNat))] (Z, Rf, K, n, z) Q) := (w_aload_n t138_8 rfl rfl).trans ((w_getR t138_9 rfl (by decide)).trans (congrArg (And _) (congrArg (And _) ((w_iload_n t138_12 rfl rfl).trans ((w_iald t138_13 rfl rfl).trans (congrArg (And _) (w_goto t138_14 rfl)))))))
set_option maxRecDepth 10000 in
theorem b138_17 {d : Nat} {l0 : Option sm_V} {l1 : Option sm_V} {Z : Nat → Nat → Int} {Rf : Nat → Nat → Option Nat} {K : Nat → Nat × Nat} {n z : Nat} {Q : Option sm_V → sm_S → Prop} : sm_wp d 138 17 [l0, l1] [] (Z, Rf, K, n, z) Q = (sm_wp d 138 18 [l0, l1] [.inl ((-1))] (Z, Rf, K, n, z) Q) := w_iconst t138_17 rfl
set_option maxRecDepth 10000 in
theorem b138_18 {d : Nat} {l0 : Option sm_V} {l1 : Option sm_V} {s0 : Int} {Z : Nat → Nat → Int} {Rf : Nat → Nat → Option Nat} {K : Nat → Nat × Nat} {n z : Nat} {Q : Option sm_V → sm_S → Prop} : sm_wp d 138 18 [l0, l1] [.inl s0] (Z, Rf, K, n, z) Q = (Q (some (.inl s0)) (Z, Rf, K, n, z)) := w_iret t138_18
theorem t139_0 : sm_at 139 0 = some (1, .iload_n 0, 0, 0, 0) := rfl
theorem t139_1 : sm_at 139 1 = some (2, .bipush 97, 0, 0, 0) := rfl
theorem t139_3 : sm_at 139 3 = some (2, .bipush 122, 0, 0, 0) := rfl
theorem t139_5 : sm_at 139 5 = some (3, .invokestatic 75, 120, 3, 0) := rfl
theorem t139_8 : sm_at 139 8 = some (3, .ifCond .ne 14, 0, 0, 0) := rfl
theorem t139_11 : sm_at 139 11 = some (1, .iload_n 0, 0, 0, 0) := rfl
theorem t139_12 : sm_at 139 12 = some (2, .bipush 65, 0, 0, 0) := rfl
theorem t139_14 : sm_at 139 14 = some (2, .bipush 90, 0, 0, 0) := rfl
theorem t139_16 : sm_at 139 16 = some (3, .invokestatic 75, 120, 3, 0) := rfl
theorem t139_19 : sm_at 139 19 = some (3, .ifCond .eq 7, 0, 0, 0) := rfl
theorem t139_22 : sm_at 139 22 = some (1, .iconst 1, 0, 0, 0) := rfl
theorem t139_23 : sm_at 139 23 = some (3, .goto 4, 0, 0, 0) := rfl
theorem t139_26 : sm_at 139 26 = some (1, .iconst 0, 0, 0, 0) := rfl
theorem t139_27 : sm_at 139 27 = some (1, .ireturn, 1, 0, 0) := rfl
set_option maxRecDepth 10000 in
theorem b139_0 {d : Nat} {x0 : Int} {Z : Nat → Nat → Int} {Rf : Nat → Nat → Option Nat} {K : Nat → Nat × Nat} {n z : Nat} {Q : Option sm_V → sm_S → Prop} : sm_wp (d + 1) 139 0 [some (.inl x0)] [] (Z, Rf, K, n, z) Q = (sm_call d 120 [.inl x0, .inl 97, .inl 122] (Z, Rf, K, n, z) (sm_cont (d + 1) 139 8 [some (.inl x0)] [] Q)) := (w_iload_n t139_0 rfl rfl).trans ((w_bipush t139_1 rfl).trans ((w_bipush t139_3 rfl).trans (w_callS t139_5 rfl rfl rfl rfl (Nat.le_of_ble_eq_true rfl) (Nat.le_of_ble_eq_true rfl) rfl)))
set_option maxRecDepth 10000 in
theorem b139_8 {d : Nat} {l0 : Option sm_V} {s0 : Int} {Z : Nat → Nat → Int} {Rf : Nat → Nat → Option Nat} {K : Nat → Nat × Nat} {n z : Nat} {Q : Option sm_V → sm_S → Prop} : sm_wp d 139 8 [l0] [.inl s0] (Z, Rf, K, n, z) Q = (if wr s0 = 0 then sm_wp d 139 11 [l0] [] (Z, Rf, K, n, z) Q else sm_wp d 139 22 [l0] [] (Z, Rf, K, n, z) Q) := w_ifne t139_8 rfl rfl rfl
set_option maxRecDepth 10000 in
theorem b139_11 {d : Nat} {x0 : Int} {Z : Nat → Nat → Int} {Rf : Nat → Nat → Option Nat} {K : Nat → Nat × Nat} {n z : Nat} {Q : Option sm_V → sm_S → Prop} : sm_wp (d + 1) 139 11 [some (.inl x0)] [] (Z, Rf, K, n, z) Q = (sm_call d 120 [.inl x0, .inl 65, .inl 90] (Z, Rf, K, n, z) (sm_cont (d + 1) 139 19 [some (.inl x0)] [] Q)) := (w_iload_n t139_11 rfl rfl).trans ((w_bipush t139_12 rfl).trans ((w_bipush t139_14 rfl).trans (w_callS t139_16 rfl rfl rfl rfl (Nat.le_of_ble_eq_true rfl) (Nat.le_of_ble_eq_true rfl) rfl)))
set_option maxRecDepth 10000 in
theorem b139_19 {d : Nat} {l0 : Option sm_V} {s0 : Int} {Z : Nat → Nat → Int} {Rf : Nat → Nat → Option Nat} {K : Nat → Nat × Nat} {n z : Nat} {Q : Option sm_V → sm_S → Prop} : sm_wp d 139 19 [l0] [.inl s0] (Z, Rf, K, n, z) Q = (if wr s0 = 0 then sm_wp d 139 26 [l0] [] (Z, Rf, K, n, z) Q else sm_wp d 139 22 [l0] [] (Z, Rf, K, n, z) Q) := w_ifeq t139_19 rfl rfl rfl
set_option maxRecDepth 10000 in
theorem b139_22 {d : Nat} {l0 : Option sm_V} {Z : Nat → Nat → Int} {Rf : Nat → Nat → Option Nat} {K : Nat → Nat × Nat} {n z : Nat} {Q : Option sm_V → sm_S → Prop} : sm_wp d 139 22 [l0] [] (Z, Rf, K, n, z) Q = (sm_wp d 139 27 [l0] [.inl 1] (Z, Rf, K, n, z) Q) := (w_iconst t139_22 rfl).trans (w_goto t139_23 rfl)
set_option maxRecDepth 10000 in
theorem b139_26 {d : Nat} {l0 : Option sm_V} {Z : Nat → Nat → Int} {Rf : Nat → Nat → Option Nat} {K : Nat → Nat × Nat} {n z : Nat} {Q : Option sm_V → sm_S → Prop} : sm_wp d 139 26 [l0] [] (Z, Rf, K, n, z) Q = (sm_wp d 139 27 [l0] [.inl 0] (Z, Rf, K, n, z) Q) := w_iconst t139_26 rfl
set_option maxRecDepth 10000 in
theorem b139_27 {d : Nat} {l0 : Option sm_V} {s0 : Int} {Z : Nat → Nat → Int} {Rf : Nat → Nat → Option Nat} {K : Nat → Nat × Nat} {n z : Nat} {Q : Option sm_V → sm_S → Prop} : sm_wp d 139 27 [l0] [.inl s0] (Z, Rf, K, n, z) Q = ((wr s0 = 0 ∨ wr s0 = 1) ∧ Q (some (.inl s0)) (Z, Rf, K, n, z)) := w_zret t139_27 rfl
theorem t140_0 : sm_at 140 0 = some (1, .iload_n 0, 0, 0, 0) := rfl
theorem t140_1 : sm_at 140 1 = some (2, .bipush 48, 0, 0, 0) := rfl
theorem t140_3 : sm_at 140 3 = some (2, .bipush 57, 0, 0, 0) := rfl
theorem t140_5 : sm_at 140 5 = some (3, .invokestatic 75, 120, 3, 0) := rfl
theorem t140_8 : sm_at 140 8 = some (1, .ireturn, 1, 0, 0) := rfl
set_option maxRecDepth 10000 in
theorem b140_0 {d : Nat} {x0 : Int} {Z : Nat → Nat → Int} {Rf : Nat → Nat → Option Nat} {K : Nat → Nat × Nat} {n z : Nat} {Q : Option sm_V → sm_S → Prop} : sm_wp (d + 1) 140 0 [some (.inl x0)] [] (Z, Rf, K, n, z) Q = (sm_call d 120 [.inl x0, .inl 48, .inl 57] (Z, Rf, K, n, z) (sm_cont (d + 1) 140 8 [some (.inl x0)] [] Q)) := (w_iload_n t140_0 rfl rfl).trans ((w_bipush t140_1 rfl).trans ((w_bipush t140_3 rfl).trans (w_callS t140_5 rfl rfl rfl rfl (Nat.le_of_ble_eq_true rfl) (Nat.le_of_ble_eq_true rfl) rfl)))
set_option maxRecDepth 10000 in
theorem b140_8 {d : Nat} {l0 : Option sm_V} {s0 : Int} {Z : Nat → Nat → Int} {Rf : Nat → Nat → Option Nat} {K : Nat → Nat × Nat} {n z : Nat} {Q : Option sm_V → sm_S → Prop} : sm_wp d 140 8 [l0] [.inl s0] (Z, Rf, K, n, z) Q = ((wr s0 = 0 ∨ wr s0 = 1) ∧ Q (some (.inl s0)) (Z, Rf, K, n, z)) := w_zret t140_8 rfl
theorem t141_0 : sm_at 141 0 = some (1, .aload_n 0, 0, 0, 0) := rfl
theorem t141_1 : sm_at 141 1 = some (3, .getfield 99, 11, 15, 0) := rfl
theorem t141_4 : sm_at 141 4 = some (1, .aload_n 0, 0, 0, 0) := rfl
theorem t141_5 : sm_at 141 5 = some (3, .getfield 102, 11, 17, 0) := rfl
theorem t141_8 : sm_at 141 8 = some (1, .isub, 0, 0, 0) := rfl
theorem t141_9 : sm_at 141 9 = some (1, .aload_n 1, 0, 0, 0) := rfl
theorem t141_10 : sm_at 141 10 = some (3, .invokevirtual 105, 199, 1, 0) := rfl
theorem t141_13 : sm_at 141 13 = some (3, .if_icmp .ne 7, 0, 0, 0) := rfl
theorem t141_16 : sm_at 141 16 = some (1, .iconst 1, 0, 0, 0) := rfl
theorem t141_17 : sm_at 141 17 = some (3, .goto 4, 0, 0, 0) := rfl
theorem t141_20 : sm_at 141 20 = some (1, .iconst 0, 0, 0, 0) := rfl
theorem t141_21 : sm_at 141 21 = some (1, .istore_n 2, 0, 0, 0) := rfl
theorem t141_22 : sm_at 141 22 = some (1, .iconst 0, 0, 0, 0) := rfl
theorem t141_23 : sm_at 141 23 = some (1, .istore_n 3, 0, 0, 0) := rfl
theorem t141_24 : sm_at 141 24 = some (1, .iload_n 3, 0, 0, 0) := rfl
theorem t141_25 : sm_at 141 25 = some (1, .aload_n 1, 0, 0, 0) := rfl
theorem t141_26 : sm_at 141 26 = some (3, .invokevirtual 105, 199, 1, 0) := rfl
theorem t141_29 : sm_at 141 29 = some (3, .if_icmp .ge 38, 0, 0, 0) := rfl
theorem t141_32 : sm_at 141 32 = some (1, .iload_n 2, 0, 0, 0) := rfl
theorem t141_33 : sm_at 141 33 = some (3, .ifCond .eq 34, 0, 0, 0) := rfl
theorem t141_36 : sm_at 141 36 = some (1, .aload_n 0, 0, 0, 0) := rfl
theorem t141_37 : sm_at 141 37 = some (3, .getfield 28, 11, 9, 0) := rfl
theorem t141_40 : sm_at 141 40 = some (1, .aload_n 0, 0, 0, 0) := rfl
theorem t141_41 : sm_at 141 41 = some (3, .getfield 102, 11, 17, 0) := rfl
theorem t141_44 : sm_at 141 44 = some (1, .iload_n 3, 0, 0, 0) := rfl
theorem t141_45 : sm_at 141 45 = some (1, .iadd, 0, 0, 0) := rfl
theorem t141_46 : sm_at 141 46 = some (1, .iaload, 0, 0, 0) := rfl
theorem t141_47 : sm_at 141 47 = some (1, .aload_n 1, 0, 0, 0) := rfl
theorem t141_48 : sm_at 141 48 = some (1, .iload_n 3, 0, 0, 0) := rfl
theorem t141_49 : sm_at 141 49 = some (3, .invokevirtual 111, 200, 2, 0) := rfl
theorem t141_52 : sm_at 141 52 = some (3, .if_icmp .ne 7, 0, 0, 0) := rfl
theorem t141_55 : sm_at 141 55 = some (1, .iconst 1, 0, 0, 0) := rfl
theorem t141_56 : sm_at 141 56 = some (3, .goto 4, 0, 0, 0) := rfl
theorem t141_59 : sm_at 141 59 = some (1, .iconst 0, 0, 0, 0) := rfl
theorem t141_60 : sm_at 141 60 = some (1, .istore_n 2, 0, 0, 0) := rfl
theorem t141_61 : sm_at 141 61 = some (3, .iinc 3 1, 0, 0, 0) := rfl
theorem t141_64 : sm_at 141 64 = some (3, .goto (-40), 0, 0, 0) := rfl
theorem t141_67 : sm_at 141 67 = some (1, .iload_n 2, 0, 0, 0) := rfl
theorem t141_68 : sm_at 141 68 = some (1, .ireturn, 1, 0, 0) := rfl
set_option maxRecDepth 10000 in
theorem b141_0 {d : Nat} {r0 : Nat} {r1 : Nat} {l2 : Option sm_V} {l3 : Option sm_V} {Z : Nat → Nat → Int} {Rf : Nat → Nat → Option Nat} {K : Nat → Nat × Nat} {n z : Nat} {Q : Option sm_V → sm_S → Prop} : sm_wp (d + 1) 141 0 [some (.inr (some r0)), some (.inr (some r1)), l2, l3] [] (Z, Rf, K, n, z) Q = ((K r0).1 = 11 ∧ (K r0).1 = 11 ∧ (K r1).1 = 103 ∧ sm_call d 199 [.inr (some r1)] (Z, Rf, K, n, z) (sm_cont (d + 1) 141 13 [some (.inr (some r0)), some (.inr (some r1)), l2, l3] [.inl ((Z r0 15) - (Z r0 17))] Q)) := (w_aload_n t141_0 rfl rfl).trans ((w_getI t141_1 rfl (by decide)).trans (congrArg (And _) ((w_aload_n t141_4 rfl rfl).trans ((w_getI t141_5 rfl (by decide)).trans (congrArg (And _) ((w_isub t141_8 rfl).trans ((w_aload_n t141_9 rfl rfl).trans (w_callV t141_10 rfl rfl rfl rfl (Nat.le_of_ble_eq_true rfl) (Nat.le_of_ble_eq_true rfl) rfl (by decide)))))))))
set_option maxRecDepth 10000 in
theorem b141_13 {d : Nat} {l0 : Option sm_V} {l1 : Option sm_V} {l2 : Option sm_V} {l3 : Option sm_V} {s0 : Int} {s1 : Int} {Z : Nat → Nat → Int} {Rf : Nat → Nat → Option Nat} {K : Nat → Nat × Nat} {n z : Nat} {Q : Option sm_V → sm_S → Prop} : sm_wp d 141 13 [l0, l1, l2, l3] [.inl s1, .inl s0] (Z, Rf, K, n, z) Q = (if wr s0 = wr s1 then sm_wp d 141 16 [l0, l1, l2, l3] [] (Z, Rf, K, n, z) Q else sm_wp d 141 20 [l0, l1, l2, l3] [] (Z, Rf, K, n, z) Q) := w_icne t141_13 rfl rfl rfl rfl
set_option maxRecDepth 10000 in
theorem b141_16 {d : Nat} {l0 : Option sm_V} {l1 : Option sm_V} {l2 : Option sm_V} {l3 : Option sm_V} {Z : Nat → Nat → Int} {Rf : Nat → Nat → Option Nat} {K : Nat → Nat × Nat} {n z : Nat} {Q : Option sm_V → sm_S → Prop} : sm_wp d 141 16 [l0, l1, l2, l3] [] (Z, Rf, K, n, z) Q = (sm_wp d 141 21 [l0, l1, l2, l3] [.inl 1] (Z, Rf, K, n, z) Q) := (w_iconst t141_16 rfl).trans (w_goto t141_17 rfl)
set_option maxRecDepth 10000 in
theorem b141_20 {d : Nat} {l0 : Option sm_V} {l1 : Option sm_V} {l2 : Option sm_V} {l3 : Option sm_V} {Z : Nat → Nat → Int} {Rf : Nat → Nat → Option Nat} {K : Nat → Nat × Nat} {n z : Nat} {Q : Option sm_V → sm_S → Prop} : sm_wp d 141 20 [l0, l1, l2, l3] [] (Z, Rf, K, n, z) Q = (sm_wp d 141 21 [l0, l1, l2, l3] [.inl 0] (Z, Rf, K, n, z) Q) := w_iconst t141_20 rfl
set_option maxRecDepth 10000 in
theorem b141_21 {d : Nat} {l0 : Option sm_V} {l1 : Option sm_V} {l2 : Option sm_V} {l3 : Option sm_V} {s0 : Int} {Z : Nat → Nat → Int} {Rf : Nat → Nat → Option Nat} {K : Nat → Nat × Nat} {n z : Nat} {Q : Option sm_V → sm_S → Prop} : sm_wp d 141 21 [l0, l1, l2, l3] [.inl s0] (Z, Rf, K, n, z) Q = (sm_wp d 141 24 [l0, l1, some (.inl s0), some (.inl 0)] [] (Z, Rf, K, n, z) Q) := (w_istore_n t141_21 rfl (Nat.le_of_ble_eq_true rfl) rfl).trans ((w_iconst t141_22 rfl).trans (w_istore_n t141_23 rfl (Nat.le_of_ble_eq_true rfl) rfl))
set_option maxRecDepth 10000 in
theorem b141_24 {d : Nat} {l0 : Option sm_V} {r1 : Nat} {l2 : Option sm_V} {x3 : Int} {Z : Nat → Nat → Int} {Rf : Nat → Nat → Option Nat} {K : Nat → Nat × Nat} {n z : Nat} {Q : Option sm_V → sm_S → Prop} : sm_wp (d + 1) 141 24 [l0, some (.inr (some r1)), l2, some (.inl x3)] [] (Z, Rf, K, n, z) Q = ((K r1).1 = 103 ∧ sm_call d 199 [.inr (some r1)] (Z, Rf, K, n, z) (sm_cont (d + 1) 141 29 [l0, some (.inr (some r1)), l2, some (.inl x3)] [.inl x3] Q)) := (w_iload_n t141_24 rfl rfl).trans ((w_aload_n t141_25 rfl rfl).trans (w_callV t141_26 rfl rfl rfl rfl (Nat.le_of_ble_eq_true rfl) (Nat.le_of_ble_eq_true rfl) rfl (by decide)))
set_option maxRecDepth 10000 in
theorem b141_29 {d : Nat} {l0 : Option sm_V} {l1 : Option sm_V} {l2 : Option sm_V} {l3 : Option sm_V} {s0 : Int} {s1 : Int} {Z : Nat → Nat → Int} {Rf : Nat → Nat → Option Nat} {K : Nat → Nat × Nat} {n z : Nat} {Q : Option sm_V → sm_S → Prop} : sm_wp d 141 29 [l0, l1, l2, l3] [.inl s1, .inl s0] (Z, Rf, K, n, z) Q = (if wr s1 ≤ wr s0 then sm_wp d 141 67 [l0, l1, l2, l3] [] (Z, Rf, K, n, z) Q else sm_wp d 141 32 [l0, l1, l2, l3] [] (Z, Rf, K, n, z) Q) := w_icge t141_29 rfl rfl rfl rfl
set_option maxRecDepth 10000 in
theorem b141_32 {d : Nat} {l0 : Option sm_V} {l1 : Option sm_V} {x2 : Int} {l3 : Option sm_V} {Z : Nat → Nat → Int} {Rf : Nat → Nat → Option Nat} {K : Nat → Nat × Nat} {n z : Nat} {Q : Option sm_V → sm_S → Prop} : sm_wp d 141 32 [l0, l1, some (.inl x2), l3] [] (Z, Rf, K, n, z) Q = (if wr x2 = 0 then sm_wp d 141 67 [l0, l1, some (.inl x2), l3] [] (Z, Rf, K, n, z) Q else sm_wp d 141 36 [l0, l1, some (.inl x2), l3] [] (Z, Rf, K, n, z) Q) := (w_iload_n t141_32 rfl rfl).trans (w_ifeq t141_33 rfl rfl rfl)
set_option maxRecDepth 10000 in
theorem b141_36 {d : Nat} {r0 : Nat} {r1 : Nat} {l2 : Option sm_V} {x3 : Int} {Z : Nat → Nat → Int} {Rf : Nat → Nat → Option Nat} {K : Nat → Nat × Nat} {n z : Nat} {Q : Option sm_V → sm_S → Prop} : sm_wp (d + 1) 141 36 [some (.inr (some r0)), some (.inr (some r1)), l2, some (.inl x3)] [] (Z, Rf, K, n, z) Q = ((K r0).1 = 11 ∧ (Rf r0 9).isSome = true ∧ (K r0).1 = 11 ∧ sm_rd (K (((Rf r0 9).getD 0))) (wr ((Z r0 17) + x3)) ∧ (K r1).1 = 103 ∧ sm_call d 200 [.inr (some r1), .inl x3] (Z, Rf, K, n, z) (sm_cont (d + 1) 141 52 [some (.inr (some r0)), some (.inr (some r1)), l2, some (.inl x3)] [.inl (Z (((Rf r0 9).getD 0)) ((wr ((Z r0 17) + x3)).toNat))] Q)) := (w_aload_n t141_36 rfl rfl).trans ((w_getR t141_37 rfl (by decide)).trans (congrArg (And _) (congrArg (And _) ((w_aload_n t141_40 rfl rfl).trans ((w_getI t141_41 rfl (by decide)).trans (congrArg (And _) ((w_iload_n t141_44 rfl rfl).trans ((w_iadd t141_45 rfl).trans ((w_iald t141_46 rfl rfl).trans (congrArg (And _) ((w_aload_n t141_47 rfl rfl).trans ((w_iload_n t141_48 rfl rfl).trans (w_callV t141_49 rfl rfl rfl rfl (Nat.le_of_ble_eq_true rfl) (Nat.le_of_ble_eq_true rfl) rfl (by decide))))))))))))))
set_option maxRecDepth 10000 in
theorem b141_52 {d : Nat} {l0 : Option sm_V} {l1 : Option sm_V} {l2 : Option sm_V} {l3 : Option sm_V} {s0 : Int} {s1 : Int} {Z : Nat → Nat → Int} {Rf : Nat → Nat → Option Nat} {K : Nat → Nat × Nat} {n z : Nat} {Q : Option sm_V → sm_S → Prop} : sm_wp d 141 52 [l0, l1, l2, l3] [.inl s1, .inl s0] (Z, Rf, K, n, z) Q = (if wr s0 = wr s1 then sm_wp d 141 55 [l0, l1, l2, l3] [] (Z, Rf, K, n, z) Q else sm_wp d 141 59 [l0, l1, l2, l3] [] (Z, Rf, K, n, z) Q) := w_icne t141_52 rfl rfl rfl rfl
set_option maxRecDepth 10000 in
theorem b141_55 {d : Nat} {l0 : Option sm_V} {l1 : Option sm_V} {l2 : Option sm_V} {l3 : Option sm_V} {Z : Nat → Nat → Int} {Rf : Nat → Nat → Option Nat} {K : Nat → Nat × Nat} {n z : Nat} {Q : Option sm_V → sm_S → Prop} : sm_wp d 141 55 [l0, l1, l2, l3] [] (Z, Rf, K, n, z) Q = (sm_wp d 141 60 [l0, l1, l2, l3] [.inl 1] (Z, Rf, K, n, z) Q) := (w_iconst t141_55 rfl).trans (w_goto t141_56 rfl)
set_option maxRecDepth 10000 in
theorem b141_59 {d : Nat} {l0 : Option sm_V} {l1 : Option sm_V} {l2 : Option sm_V} {l3 : Option sm_V} {Z : Nat → Nat → Int} {Rf : Nat → Nat → Option Nat} {K : Nat → Nat × Nat} {n z : Nat} {Q : Option sm_V → sm_S → Prop} : sm_wp d 141 59 [l0, l1, l2, l3] [] (Z, Rf, K, n, z) Q = (sm_wp d 141 60 [l0, l1, l2, l3] [.inl 0] (Z, Rf, K, n, z) Q) := w_iconst t141_59 rfl
set_option maxRecDepth 10000 in
theorem b141_60 {d : Nat} {l0 : Option sm_V} {l1 : Option sm_V} {l2 : Option sm_V} {x3 : Int} {s0 : Int} {Z : Nat → Nat → Int} {Rf : Nat → Nat → Option Nat} {K : Nat → Nat × Nat} {n z : Nat} {Q : Option sm_V → sm_S → Prop} : sm_wp d 141 60 [l0, l1, l2, some (.inl x3)] [.inl s0] (Z, Rf, K, n, z) Q = (sm_wp d 141 24 [l0, l1, some (.inl s0), some (.inl (x3 + 1))] [] (Z, Rf, K, n, z) Q) := (w_istore_n t141_60 rfl (Nat.le_of_ble_eq_true rfl) rfl).trans ((w_iinc t141_61 rfl rfl (Nat.le_of_ble_eq_true rfl) rfl).trans (w_goto t141_64 rfl))
set_option maxRecDepth 10000 in
theorem b141_67 {d : Nat} {l0 : Option sm_V} {l1 : Option sm_V} {x2 : Int} {l3 : Option sm_V} {Z : Nat → Nat → Int} {Rf : Nat → Nat → Option Nat} {K : Nat → Nat × Nat} {n z : Nat} {Q : Option sm_V → sm_S → Prop} : sm_wp d 141 67 [l0, l1, some (.inl x2), l3] [] (Z, Rf, K, n, z) Q = ((wr x2 = 0 ∨ wr x2 = 1) ∧ Q (some (.inl x2)) (Z, Rf, K, n, z)) := (w_iload_n t141_67 rfl rfl).trans (w_zret t141_68 rfl)
theorem t142_0 : sm_at 142 0 = some (1, .aload_n 0, 0, 0, 0) := rfl
theorem t142_1 : sm_at 142 1 = some (2, .ldc 115, 1, 2000001, 0) := rfl
theorem t142_3 : sm_at 142 3 = some (3, .invokevirtual 117, 141, 2, 0) := rfl
theorem t142_6 : sm_at 142 6 = some (3, .ifCond .eq 6, 0, 0, 0) := rfl
theorem t142_9 : sm_at 142 9 = some (2, .bipush 41, 0, 0, 0) := rfl
theorem t142_11 : sm_at 142 11 = some (1, .ireturn, 0, 0, 0) := rfl
theorem t142_12 : sm_at 142 12 = some (1, .aload_n 0, 0, 0, 0) := rfl
theorem t142_13 : sm_at 142 13 = some (2, .ldc 121, 1, 2000002, 0) := rfl
theorem t142_15 : sm_at 142 15 = some (3, .invokevirtual 117, 141, 2, 0) := rfl
theorem t142_18 : sm_at 142 18 = some (3, .ifCond .eq 6, 0, 0, 0) := rfl
theorem t142_21 : sm_at 142 21 = some (2, .bipush 42, 0, 0, 0) := rfl
theorem t142_23 : sm_at 142 23 = some (1, .ireturn, 0, 0, 0) := rfl
theorem t142_24 : sm_at 142 24 = some (1, .aload_n 0, 0, 0, 0) := rfl
theorem t142_25 : sm_at 142 25 = some (2, .ldc 123, 1, 2000003, 0) := rfl
theorem t142_27 : sm_at 142 27 = some (3, .invokevirtual 117, 141, 2, 0) := rfl
theorem t142_30 : sm_at 142 30 = some (3, .ifCond .eq 6, 0, 0, 0) := rfl
theorem t142_33 : sm_at 142 33 = some (2, .bipush 43, 0, 0, 0) := rfl
theorem t142_35 : sm_at 142 35 = some (1, .ireturn, 0, 0, 0) := rfl
theorem t142_36 : sm_at 142 36 = some (1, .aload_n 0, 0, 0, 0) := rfl
theorem t142_37 : sm_at 142 37 = some (2, .ldc 125, 1, 2000004, 0) := rfl
theorem t142_39 : sm_at 142 39 = some (3, .invokevirtual 117, 141, 2, 0) := rfl
theorem t142_42 : sm_at 142 42 = some (3, .ifCond .eq 6, 0, 0, 0) := rfl
theorem t142_45 : sm_at 142 45 = some (2, .bipush 44, 0, 0, 0) := rfl
theorem t142_47 : sm_at 142 47 = some (1, .ireturn, 0, 0, 0) := rfl
theorem t142_48 : sm_at 142 48 = some (1, .aload_n 0, 0, 0, 0) := rfl
theorem t142_49 : sm_at 142 49 = some (2, .ldc 127, 1, 2000005, 0) := rfl
theorem t142_51 : sm_at 142 51 = some (3, .invokevirtual 117, 141, 2, 0) := rfl
theorem t142_54 : sm_at 142 54 = some (3, .ifCond .eq 6, 0, 0, 0) := rfl
theorem t142_57 : sm_at 142 57 = some (2, .bipush 45, 0, 0, 0) := rfl
theorem t142_59 : sm_at 142 59 = some (1, .ireturn, 0, 0, 0) := rfl
theorem t142_60 : sm_at 142 60 = some (1, .aload_n 0, 0, 0, 0) := rfl
theorem t142_61 : sm_at 142 61 = some (2, .ldc 129, 1, 2000006, 0) := rfl
theorem t142_63 : sm_at 142 63 = some (3, .invokevirtual 117, 141, 2, 0) := rfl
theorem t142_66 : sm_at 142 66 = some (3, .ifCond .eq 6, 0, 0, 0) := rfl
theorem t142_69 : sm_at 142 69 = some (2, .bipush 46, 0, 0, 0) := rfl
theorem t142_71 : sm_at 142 71 = some (1, .ireturn, 0, 0, 0) := rfl
theorem t142_72 : sm_at 142 72 = some (1, .aload_n 0, 0, 0, 0) := rfl
theorem t142_73 : sm_at 142 73 = some (2, .ldc 131, 1, 2000007, 0) := rfl
theorem t142_75 : sm_at 142 75 = some (3, .invokevirtual 117, 141, 2, 0) := rfl
theorem t142_78 : sm_at 142 78 = some (3, .ifCond .eq 6, 0, 0, 0) := rfl
theorem t142_81 : sm_at 142 81 = some (2, .bipush 47, 0, 0, 0) := rfl
theorem t142_83 : sm_at 142 83 = some (1, .ireturn, 0, 0, 0) := rfl
theorem t142_84 : sm_at 142 84 = some (1, .aload_n 0, 0, 0, 0) := rfl
theorem t142_85 : sm_at 142 85 = some (2, .ldc 133, 1, 2000008, 0) := rfl
theorem t142_87 : sm_at 142 87 = some (3, .invokevirtual 117, 141, 2, 0) := rfl
theorem t142_90 : sm_at 142 90 = some (3, .ifCond .eq 6, 0, 0, 0) := rfl
theorem t142_93 : sm_at 142 93 = some (2, .bipush 48, 0, 0, 0) := rfl
theorem t142_95 : sm_at 142 95 = some (1, .ireturn, 0, 0, 0) := rfl
theorem t142_96 : sm_at 142 96 = some (1, .aload_n 0, 0, 0, 0) := rfl
theorem t142_97 : sm_at 142 97 = some (2, .ldc 135, 1, 2000009, 0) := rfl
theorem t142_99 : sm_at 142 99 = some (3, .invokevirtual 117, 141, 2, 0) := rfl
theorem t142_102 : sm_at 142 102 = some (3, .ifCond .eq 8, 0, 0, 0) := rfl
theorem t142_105 : sm_at 142 105 = some (2, .bipush 49, 0, 0, 0) := rfl
theorem t142_107 : sm_at 142 107 = some (3, .goto 4, 0, 0, 0) := rfl
theorem t142_110 : sm_at 142 110 = some (1, .iconst 1, 0, 0, 0) := rfl
theorem t142_111 : sm_at 142 111 = some (1, .ireturn, 0, 0, 0) := rfl
set_option maxRecDepth 10000 in
theorem b142_0 {d : Nat} {r0 : Nat} {Z : Nat → Nat → Int} {Rf : Nat → Nat → Option Nat} {K : Nat → Nat × Nat} {n z : Nat} {Q : Option sm_V → sm_S → Prop} : sm_wp (d + 1) 142 0 [some (.inr (some r0))] [] (Z, Rf, K, n, z) Q = ((K r0).1 = 11 ∧ sm_call d 141 [.inr (some r0), .inr (some 2000001)] (Z, Rf, K, n, z) (sm_cont (d + 1) 142 6 [some (.inr (some r0))] [] Q)) := (w_aload_n t142_0 rfl rfl).trans ((w_ldcs t142_1 rfl).trans (w_callV t142_3 rfl rfl rfl rfl (Nat.le_of_ble_eq_true rfl) (Nat.le_of_ble_eq_true rfl) rfl (by decide)))
set_option maxRecDepth 10000 in
theorem b142_6 {d : Nat} {l0 : Option sm_V} {s0 : Int} {Z : Nat → Nat → Int} {Rf : Nat → Nat → Option Nat} {K : Nat → Nat × Nat} {n z : Nat} {Q : Option sm_V → sm_S → Prop} : sm_wp d 142 6 [l0] [.inl s0] (Z, Rf, K, n, z) Q = (if wr s0 = 0 then sm_wp d 142 12 [l0] [] (Z, Rf, K, n, z) Q else sm_wp d 142 9 [l0] [] (Z, Rf, K, n, z) Q) := w_ifeq t142_6 rfl rfl rfl
set_option maxRecDepth 10000 in
theorem b142_9 {d : Nat} {l0 : Option sm_V} {Z : Nat → Nat → Int} {Rf : Nat → Nat → Option Nat} {K : Nat → Nat × Nat} {n z : Nat} {Q : Option sm_V → sm_S → Prop} : sm_wp d 142 9 [l0] [] (Z, Rf, K, n, z) Q = (Q (some (.inl 41)) (Z, Rf, K, n, z)) := (w_bipush t142_9 rfl).trans (w_iret t142_11)
set_option maxRecDepth 10000 in
theorem b142_12 {d : Nat} {r0 : Nat} {Z : Nat → Nat → Int} {Rf : Nat → Nat → Option Nat} {K : Nat → Nat × Nat} {n z : Nat} {Q : Option sm_V → sm_S → Prop} : sm_wp (d + 1) 142 12 [some (.inr (some r0))] [] (Z, Rf, K, n, z) Q = ((K r0).1 = 11 ∧ sm_call d 141 [.inr (some r0), .inr (some 2000002)] (Z, Rf, K, n, z) (sm_cont (d + 1) 142 18 [some (.inr (some r0))] [] Q)) := (w_aload_n t142_12 rfl rfl).trans ((w_ldcs t142_13 rfl).trans (w_callV t142_15 rfl rfl rfl rfl (Nat.le_of_ble_eq_true rfl) (Nat.le_of_ble_eq_true rfl) rfl (by decide)))
set_option maxRecDepth 10000 in
theorem b142_18 {d : Nat} {l0 : Option sm_V} {s0 : Int} {Z : Nat → Nat → Int} {Rf : Nat → Nat → Option Nat} {K : Nat → Nat × Nat} {n z : Nat} {Q : Option sm_V → sm_S → Prop} : sm_wp d 142 18 [l0] [.inl s0] (Z, Rf, K, n, z) Q = (if wr s0 = 0 then sm_wp d 142 24 [l0] [] (Z, Rf, K, n, z) Q else sm_wp d 142 21 [l0] [] (Z, Rf, K, n, z) Q) := w_ifeq t142_18 rfl rfl rfl
set_option maxRecDepth 10000 in
theorem b142_21 {d : Nat} {l0 : Option sm_V} {Z : Nat → Nat → Int} {Rf : Nat → Nat → Option Nat} {K : Nat → Nat × Nat} {n z : Nat} {Q : Option sm_V → sm_S → Prop} : sm_wp d 142 21 [l0] [] (Z, Rf, K, n, z) Q = (Q (some (.inl 42)) (Z, Rf, K, n, z)) := (w_bipush t142_21 rfl).trans (w_iret t142_23)
set_option maxRecDepth 10000 in
theorem b142_24 {d : Nat} {r0 : Nat} {Z : Nat → Nat → Int} {Rf : Nat → Nat → Option Nat} {K : Nat → Nat × Nat} {n z : Nat} {Q : Option sm_V → sm_S → Prop} : sm_wp (d + 1) 142 24 [some (.inr (some r0))] [] (Z, Rf, K, n, z) Q = ((K r0).1 = 11 ∧ sm_call d 141 [.inr (some r0), .inr (some 2000003)] (Z, Rf, K, n, z) (sm_cont (d + 1) 142 30 [some (.inr (some r0))] [] Q)) := (w_aload_n t142_24 rfl rfl).trans ((w_ldcs t142_25 rfl).trans (w_callV t142_27 rfl rfl rfl rfl (Nat.le_of_ble_eq_true rfl) (Nat.le_of_ble_eq_true rfl) rfl (by decide)))
set_option maxRecDepth 10000 in
theorem b142_30 {d : Nat} {l0 : Option sm_V} {s0 : Int} {Z : Nat → Nat → Int} {Rf : Nat → Nat → Option Nat} {K : Nat → Nat × Nat} {n z : Nat} {Q : Option sm_V → sm_S → Prop} : sm_wp d 142 30 [l0] [.inl s0] (Z, Rf, K, n, z) Q = (if wr s0 = 0 then sm_wp d 142 36 [l0] [] (Z, Rf, K, n, z) Q else sm_wp d 142 33 [l0] [] (Z, Rf, K, n, z) Q) := w_ifeq t142_30 rfl rfl rfl
set_option maxRecDepth 10000 in
theorem b142_33 {d : Nat} {l0 : Option sm_V} {Z : Nat → Nat → Int} {Rf : Nat → Nat → Option Nat} {K : Nat → Nat × Nat} {n z : Nat} {Q : Option sm_V → sm_S → Prop} : sm_wp d 142 33 [l0] [] (Z, Rf, K, n, z) Q = (Q (some (.inl 43)) (Z, Rf, K, n, z)) := (w_bipush t142_33 rfl).trans (w_iret t142_35)
set_option maxRecDepth 10000 in
theorem b142_36 {d : Nat} {r0 : Nat} {Z : Nat → Nat → Int} {Rf : Nat → Nat → Option Nat} {K : Nat → Nat × Nat} {n z : Nat} {Q : Option sm_V → sm_S → Prop} : sm_wp (d + 1) 142 36 [some (.inr (some r0))] [] (Z, Rf, K, n, z) Q = ((K r0).1 = 11 ∧ sm_call d 141 [.inr (some r0), .inr (some 2000004)] (Z, Rf, K, n, z) (sm_cont (d + 1) 142 42 [some (.inr (some r0))] [] Q)) := (w_aload_n t142_36 rfl rfl).trans ((w_ldcs t142_37 rfl).trans (w_callV t142_39 rfl rfl rfl rfl (Nat.le_of_ble_eq_true rfl) (Nat.le_of_ble_eq_true rfl) rfl (by decide)))
set_option maxRecDepth 10000 in
theorem b142_42 {d : Nat} {l0 : Option sm_V} {s0 : Int} {Z : Nat → Nat → Int} {Rf : Nat → Nat → Option Nat} {K : Nat → Nat × Nat} {n z : Nat} {Q : Option sm_V → sm_S → Prop} : sm_wp d 142 42 [l0] [.inl s0] (Z, Rf, K, n, z) Q = (if wr s0 = 0 then sm_wp d 142 48 [l0] [] (Z, Rf, K, n, z) Q else sm_wp d 142 45 [l0] [] (Z, Rf, K, n, z) Q) := w_ifeq t142_42 rfl rfl rfl
set_option maxRecDepth 10000 in
theorem b142_45 {d : Nat} {l0 : Option sm_V} {Z : Nat → Nat → Int} {Rf : Nat → Nat → Option Nat} {K : Nat → Nat × Nat} {n z : Nat} {Q : Option sm_V → sm_S → Prop} : sm_wp d 142 45 [l0] [] (Z, Rf, K, n, z) Q = (Q (some (.inl 44)) (Z, Rf, K, n, z)) := (w_bipush t142_45 rfl).trans (w_iret t142_47)
set_option maxRecDepth 10000 in
theorem b142_48 {d : Nat} {r0 : Nat} {Z : Nat → Nat → Int} {Rf : Nat → Nat → Option Nat} {K : Nat → Nat × Nat} {n z : Nat} {Q : Option sm_V → sm_S → Prop} : sm_wp (d + 1) 142 48 [some (.inr (some r0))] [] (Z, Rf, K, n, z) Q = ((K r0).1 = 11 ∧ sm_call d 141 [.inr (some r0), .inr (some 2000005)] (Z, Rf, K, n, z) (sm_cont (d + 1) 142 54 [some (.inr (some r0))] [] Q)) := (w_aload_n t142_48 rfl rfl).trans ((w_ldcs t142_49 rfl).trans (w_callV t142_51 rfl rfl rfl rfl (Nat.le_of_ble_eq_true rfl) (Nat.le_of_ble_eq_true rfl) rfl (by decide)))
set_option maxRecDepth 10000 in
theorem b142_54 {d : Nat} {l0 : Option sm_V} {s0 : Int} {Z : Nat → Nat → Int} {Rf : Nat → Nat → Option Nat} {K : Nat → Nat × Nat} {n z : Nat} {Q : Option sm_V → sm_S → Prop} : sm_wp d 142 54 [l0] [.inl s0] (Z, Rf, K, n, z) Q = (if wr s0 = 0 then sm_wp d 142 60 [l0] [] (Z, Rf, K, n, z) Q else sm_wp d 142 57 [l0] [] (Z, Rf, K, n, z) Q) := w_ifeq t142_54 rfl rfl rfl
set_option maxRecDepth 10000 in
theorem b142_57 {d : Nat} {l0 : Option sm_V} {Z : Nat → Nat → Int} {Rf : Nat → Nat → Option Nat} {K : Nat → Nat × Nat} {n z : Nat} {Q : Option sm_V → sm_S → Prop} : sm_wp d 142 57 [l0] [] (Z, Rf, K, n, z) Q = (Q (some (.inl 45)) (Z, Rf, K, n, z)) := (w_bipush t142_57 rfl).trans (w_iret t142_59)
set_option maxRecDepth 10000 in
theorem b142_60 {d : Nat} {r0 : Nat} {Z : Nat → Nat → Int} {Rf : Nat → Nat → Option Nat} {K : Nat → Nat × Nat} {n z : Nat} {Q : Option sm_V → sm_S → Prop} : sm_wp (d + 1) 142 60 [some (.inr (some r0))] [] (Z, Rf, K, n, z) Q = ((K r0).1 = 11 ∧ sm_call d 141 [.inr (some r0), .inr (some 2000006)] (Z, Rf, K, n, z) (sm_cont (d + 1) 142 66 [some (.inr (some r0))] [] Q)) := (w_aload_n t142_60 rfl rfl).trans ((w_ldcs t142_61 rfl).trans (w_callV t142_63 rfl rfl rfl rfl (Nat.le_of_ble_eq_true rfl) (Nat.le_of_ble_eq_true rfl) rfl (by decide)))
set_option maxRecDepth 10000 in
theorem b142_66 {d : Nat} {l0 : Option sm_V} {s0 : Int} {Z : Nat → Nat → Int} {Rf : Nat → Nat → Option Nat} {K : Nat → Nat × Nat} {n z : Nat} {Q : Option sm_V → sm_S → Prop} : sm_wp d 142 66 [l0] [.inl s0] (Z, Rf, K, n, z) Q = (if wr s0 = 0 then sm_wp d 142 72 [l0] [] (Z, Rf, K, n, z) Q else sm_wp d 142 69 [l0] [] (Z, Rf, K, n, z) Q) := w_ifeq t142_66 rfl rfl rfl
set_option maxRecDepth 10000 in
theorem b142_69 {d : Nat} {l0 : Option sm_V} {Z : Nat → Nat → Int} {Rf : Nat → Nat → Option Nat} {K : Nat → Nat × Nat} {n z : Nat} {Q : Option sm_V → sm_S → Prop} : sm_wp d 142 69 [l0] [] (Z, Rf, K, n, z) Q = (Q (some (.inl 46)) (Z, Rf, K, n, z)) := (w_bipush t142_69 rfl).trans (w_iret t142_71)
set_option maxRecDepth 10000 in
theorem b142_72 {d : Nat} {r0 : Nat} {Z : Nat → Nat → Int} {Rf : Nat → Nat → Option Nat} {K : Nat → Nat × Nat} {n z : Nat} {Q : Option sm_V → sm_S → Prop} : sm_wp (d + 1) 142 72 [some (.inr (some r0))] [] (Z, Rf, K, n, z) Q = ((K r0).1 = 11 ∧ sm_call d 141 [.inr (some r0), .inr (some 2000007)] (Z, Rf, K, n, z) (sm_cont (d + 1) 142 78 [some (.inr (some r0))] [] Q)) := (w_aload_n t142_72 rfl rfl).trans ((w_ldcs t142_73 rfl).trans (w_callV t142_75 rfl rfl rfl rfl (Nat.le_of_ble_eq_true rfl) (Nat.le_of_ble_eq_true rfl) rfl (by decide)))
set_option maxRecDepth 10000 in
theorem b142_78 {d : Nat} {l0 : Option sm_V} {s0 : Int} {Z : Nat → Nat → Int} {Rf : Nat → Nat → Option Nat} {K : Nat → Nat × Nat} {n z : Nat} {Q : Option sm_V → sm_S → Prop} : sm_wp d 142 78 [l0] [.inl s0] (Z, Rf, K, n, z) Q = (if wr s0 = 0 then sm_wp d 142 84 [l0] [] (Z, Rf, K, n, z) Q else sm_wp d 142 81 [l0] [] (Z, Rf, K, n, z) Q) := w_ifeq t142_78 rfl rfl rfl
set_option maxRecDepth 10000 in
theorem b142_81 {d : Nat} {l0 : Option sm_V} {Z : Nat → Nat → Int} {Rf : Nat → Nat → Option Nat} {K : Nat → Nat × Nat} {n z : Nat} {Q : Option sm_V → sm_S → Prop} : sm_wp d 142 81 [l0] [] (Z, Rf, K, n, z) Q = (Q (some (.inl 47)) (Z, Rf, K, n, z)) := (w_bipush t142_81 rfl).trans (w_iret t142_83)
set_option maxRecDepth 10000 in
theorem b142_84 {d : Nat} {r0 : Nat} {Z : Nat → Nat → Int} {Rf : Nat → Nat → Option Nat} {K : Nat → Nat × Nat} {n z : Nat} {Q : Option sm_V → sm_S → Prop} : sm_wp (d + 1) 142 84 [some (.inr (some r0))] [] (Z, Rf, K, n, z) Q = ((K r0).1 = 11 ∧ sm_call d 141 [.inr (some r0), .inr (some 2000008)] (Z, Rf, K, n, z) (sm_cont (d + 1) 142 90 [some (.inr (some r0))] [] Q)) := (w_aload_n t142_84 rfl rfl).trans ((w_ldcs t142_85 rfl).trans (w_callV t142_87 rfl rfl rfl rfl (Nat.le_of_ble_eq_true rfl) (Nat.le_of_ble_eq_true rfl) rfl (by decide)))
set_option maxRecDepth 10000 in
theorem b142_90 {d : Nat} {l0 : Option sm_V} {s0 : Int} {Z : Nat → Nat → Int} {Rf : Nat → Nat → Option Nat} {K : Nat → Nat × Nat} {n z : Nat} {Q : Option sm_V → sm_S → Prop} : sm_wp d 142 90 [l0] [.inl s0] (Z, Rf, K, n, z) Q = (if wr s0 = 0 then sm_wp d 142 96 [l0] [] (Z, Rf, K, n, z) Q else sm_wp d 142 93 [l0] [] (Z, Rf, K, n, z) Q) := w_ifeq t142_90 rfl rfl rfl
set_option maxRecDepth 10000 in
theorem b142_93 {d : Nat} {l0 : Option sm_V} {Z : Nat → Nat → Int} {Rf : Nat → Nat → Option Nat} {K : Nat → Nat × Nat} {n z : Nat} {Q : Option sm_V → sm_S → Prop} : sm_wp d 142 93 [l0] [] (Z, Rf, K, n, z) Q = (Q (some (.inl 48)) (Z, Rf, K, n, z)) := (w_bipush t142_93 rfl).trans (w_iret t142_95)
set_option maxRecDepth 10000 in
theorem b142_96 {d : Nat} {r0 : Nat} {Z : Nat → Nat → Int} {Rf : Nat → Nat → Option Nat} {K : Nat → Nat × Nat} {n z : Nat} {Q : Option sm_V → sm_S → Prop} : sm_wp (d + 1) 142 96 [some (.inr (some r0))] [] (Z, Rf, K, n, z) Q = ((K r0).1 = 11 ∧ sm_call d 141 [.inr (some r0), .inr (some 2000009)] (Z, Rf, K, n, z) (sm_cont (d + 1) 142 102 [some (.inr (some r0))] [] Q)) := (w_aload_n t142_96 rfl rfl).trans ((w_ldcs t142_97 rfl).trans (w_callV t142_99 rfl rfl rfl rfl (Nat.le_of_ble_eq_true rfl) (Nat.le_of_ble_eq_true rfl) rfl (by decide)))
set_option maxRecDepth 10000 in
theorem b142_102 {d : Nat} {l0 : Option sm_V} {s0 : Int} {Z : Nat → Nat → Int} {Rf : Nat → Nat → Option Nat} {K : Nat → Nat × Nat} {n z : Nat} {Q : Option sm_V → sm_S → Prop} : sm_wp d 142 102 [l0] [.inl s0] (Z, Rf, K, n, z) Q = (if wr s0 = 0 then sm_wp d 142 110 [l0] [] (Z, Rf, K, n, z) Q else sm_wp d 142 105 [l0] [] (Z, Rf, K, n, z) Q) := w_ifeq t142_102 rfl rfl rfl
set_option maxRecDepth 10000 in
theorem b142_105 {d : Nat} {l0 : Option sm_V} {Z : Nat → Nat → Int} {Rf : Nat → Nat → Option Nat} {K : Nat → Nat × Nat} {n z : Nat} {Q : Option sm_V → sm_S → Prop} : sm_wp d 142 105 [l0] [] (Z, Rf, K, n, z) Q = (sm_wp d 142 111 [l0] [.inl 49] (Z, Rf, K, n, z) Q) := (w_bipush t142_105 rfl).trans (w_goto t142_107 rfl)
set_option maxRecDepth 10000 in
theorem b142_110 {d : Nat} {l0 : Option sm_V} {Z : Nat → Nat → Int} {Rf : Nat → Nat → Option Nat} {K : Nat → Nat × Nat} {n z : Nat} {Q : Option sm_V → sm_S → Prop} : sm_wp d 142 110 [l0] [] (Z, Rf, K, n, z) Q = (sm_wp d 142 111 [l0] [.inl 1] (Z, Rf, K, n, z) Q) := w_iconst t142_110 rfl
set_option maxRecDepth 10000 in
theorem b142_111 {d : Nat} {l0 : Option sm_V} {s0 : Int} {Z : Nat → Nat → Int} {Rf : Nat → Nat → Option Nat} {K : Nat → Nat × Nat} {n z : Nat} {Q : Option sm_V → sm_S → Prop} : sm_wp d 142 111 [l0] [.inl s0] (Z, Rf, K, n, z) Q = (Q (some (.inl s0)) (Z, Rf, K, n, z)) := w_iret t142_111
theorem t143_0 : sm_at 143 0 = some (1, .aload_n 0, 0, 0, 0) := rfl
theorem t143_1 : sm_at 143 1 = some (2, .ldc 137, 1, 2000010, 0) := rfl
theorem t143_3 : sm_at 143 3 = some (3, .invokevirtual 117, 141, 2, 0) := rfl
theorem t143_6 : sm_at 143 6 = some (3, .ifCond .eq 5, 0, 0, 0) := rfl
theorem t143_9 : sm_at 143 9 = some (1, .iconst 3, 0, 0, 0) := rfl
theorem t143_10 : sm_at 143 10 = some (1, .ireturn, 0, 0, 0) := rfl
theorem t143_11 : sm_at 143 11 = some (1, .aload_n 0, 0, 0, 0) := rfl
theorem t143_12 : sm_at 143 12 = some (2, .ldc 139, 1, 2000011, 0) := rfl
theorem t143_14 : sm_at 143 14 = some (3, .invokevirtual 117, 141, 2, 0) := rfl
theorem t143_17 : sm_at 143 17 = some (3, .ifCond .eq 5, 0, 0, 0) := rfl
theorem t143_20 : sm_at 143 20 = some (1, .iconst 4, 0, 0, 0) := rfl
theorem t143_21 : sm_at 143 21 = some (1, .ireturn, 0, 0, 0) := rfl
theorem t143_22 : sm_at 143 22 = some (1, .aload_n 0, 0, 0, 0) := rfl
theorem t143_23 : sm_at 143 23 = some (2, .ldc 141, 1, 2000012, 0) := rfl
theorem t143_25 : sm_at 143 25 = some (3, .invokevirtual 117, 141, 2, 0) := rfl
theorem t143_28 : sm_at 143 28 = some (3, .ifCond .eq 5, 0, 0, 0) := rfl
theorem t143_31 : sm_at 143 31 = some (1, .iconst 5, 0, 0, 0) := rfl
theorem t143_32 : sm_at 143 32 = some (1, .ireturn, 0, 0, 0) := rfl
theorem t143_33 : sm_at 143 33 = some (1, .aload_n 0, 0, 0, 0) := rfl
theorem t143_34 : sm_at 143 34 = some (2, .ldc 143, 1, 2000013, 0) := rfl
theorem t143_36 : sm_at 143 36 = some (3, .invokevirtual 117, 141, 2, 0) := rfl
theorem t143_39 : sm_at 143 39 = some (3, .ifCond .eq 6, 0, 0, 0) := rfl
theorem t143_42 : sm_at 143 42 = some (2, .bipush 6, 0, 0, 0) := rfl
theorem t143_44 : sm_at 143 44 = some (1, .ireturn, 0, 0, 0) := rfl
theorem t143_45 : sm_at 143 45 = some (1, .aload_n 0, 0, 0, 0) := rfl
theorem t143_46 : sm_at 143 46 = some (2, .ldc 145, 1, 2000014, 0) := rfl
theorem t143_48 : sm_at 143 48 = some (3, .invokevirtual 117, 141, 2, 0) := rfl
theorem t143_51 : sm_at 143 51 = some (3, .ifCond .eq 6, 0, 0, 0) := rfl
theorem t143_54 : sm_at 143 54 = some (2, .bipush 20, 0, 0, 0) := rfl
theorem t143_56 : sm_at 143 56 = some (1, .ireturn, 0, 0, 0) := rfl
theorem t143_57 : sm_at 143 57 = some (1, .aload_n 0, 0, 0, 0) := rfl
theorem t143_58 : sm_at 143 58 = some (2, .ldc 147, 1, 2000015, 0) := rfl
theorem t143_60 : sm_at 143 60 = some (3, .invokevirtual 117, 141, 2, 0) := rfl
theorem t143_63 : sm_at 143 63 = some (3, .ifCond .eq 6, 0, 0, 0) := rfl
theorem t143_66 : sm_at 143 66 = some (2, .bipush 23, 0, 0, 0) := rfl
theorem t143_68 : sm_at 143 68 = some (1, .ireturn, 0, 0, 0) := rfl
theorem t143_69 : sm_at 143 69 = some (1, .aload_n 0, 0, 0, 0) := rfl
theorem t143_70 : sm_at 143 70 = some (2, .ldc 149, 1, 2000016, 0) := rfl
theorem t143_72 : sm_at 143 72 = some (3, .invokevirtual 117, 141, 2, 0) := rfl
theorem t143_75 : sm_at 143 75 = some (3, .ifCond .eq 6, 0, 0, 0) := rfl
theorem t143_78 : sm_at 143 78 = some (2, .bipush 21, 0, 0, 0) := rfl
theorem t143_80 : sm_at 143 80 = some (1, .ireturn, 0, 0, 0) := rfl
theorem t143_81 : sm_at 143 81 = some (1, .aload_n 0, 0, 0, 0) := rfl
theorem t143_82 : sm_at 143 82 = some (2, .ldc 151, 1, 2000017, 0) := rfl
theorem t143_84 : sm_at 143 84 = some (3, .invokevirtual 117, 141, 2, 0) := rfl
theorem t143_87 : sm_at 143 87 = some (3, .ifCond .eq 6, 0, 0, 0) := rfl
theorem t143_90 : sm_at 143 90 = some (2, .bipush 22, 0, 0, 0) := rfl
theorem t143_92 : sm_at 143 92 = some (1, .ireturn, 0, 0, 0) := rfl
theorem t143_93 : sm_at 143 93 = some (1, .aload_n 0, 0, 0, 0) := rfl
theorem t143_94 : sm_at 143 94 = some (2, .ldc 152, 1, 2000018, 0) := rfl
theorem t143_96 : sm_at 143 96 = some (3, .invokevirtual 117, 141, 2, 0) := rfl
theorem t143_99 : sm_at 143 99 = some (3, .ifCond .eq 8, 0, 0, 0) := rfl
theorem t143_102 : sm_at 143 102 = some (2, .bipush 24, 0, 0, 0) := rfl
theorem t143_104 : sm_at 143 104 = some (3, .goto 7, 0, 0, 0) := rfl
theorem t143_107 : sm_at 143 107 = some (1, .aload_n 0, 0, 0, 0) := rfl
theorem t143_108 : sm_at 143 108 = some (3, .invokevirtual 154, 142, 1, 0) := rfl
theorem t143_111 : sm_at 143 111 = some (1, .ireturn, 0, 0, 0) := rfl
set_option maxRecDepth 10000 in
theorem b143_0 {d : Nat} {r0 : Nat} {Z : Nat → Nat → Int} {Rf : Nat → Nat → Option Nat} {K : Nat → Nat × Nat} {n z : Nat} {Q : Option sm_V → sm_S → Prop} : sm_wp (d + 1) 143 0 [some (.inr (some r0))] [] (Z, Rf, K, n, z) Q = ((K r0).1 = 11 ∧ sm_call d 141 [.inr (some r0), .inr (some 2000010)] (Z, Rf, K, n, z) (sm_cont (d + 1) 143 6 [some (.inr (some r0))] [] Q)) := (w_aload_n t143_0 rfl rfl).trans ((w_ldcs t143_1 rfl).trans (w_callV t143_3 rfl rfl rfl rfl (Nat.le_of_ble_eq_true rfl) (Nat.le_of_ble_eq_true rfl) rfl (by decide)))
set_option maxRecDepth 10000 in
theorem b143_6 {d : Nat} {l0 : Option sm_V} {s0 : Int} {Z : Nat → Nat → Int} {Rf : Nat → Nat → Option Nat} {K : Nat → Nat × Nat} {n z : Nat} {Q : Option sm_V → sm_S → Prop} : sm_wp d 143 6 [l0] [.inl s0] (Z, Rf, K, n, z) Q = (if wr s0 = 0 then sm_wp d 143 11 [l0] [] (Z, Rf, K, n, z) Q else sm_wp d 143 9 [l0] [] (Z, Rf, K, n, z) Q) := w_ifeq t143_6 rfl rfl rfl
set_option maxRecDepth 10000 in
theorem b143_9 {d : Nat} {l0 : Option sm_V} {Z : Nat → Nat → Int} {Rf : Nat → Nat → Option Nat} {K : Nat → Nat × Nat} {n z : Nat} {Q : Option sm_V → sm_S → Prop} : sm_wp d 143 9 [l0] [] (Z, Rf, K, n, z) Q = (Q (some (.inl 3)) (Z, Rf, K, n, z)) := (w_iconst t143_9 rfl).trans (w_iret t143_10)
set_option maxRecDepth 10000 in
theorem b143_11 {d : Nat} {r0 : Nat} {Z : Nat → Nat → Int} {Rf : Nat → Nat → Option Nat} {K : Nat → Nat × Nat} {n z : Nat} {Q : Option sm_V → sm_S → Prop} : sm_wp (d + 1) 143 11 [some (.inr (some r0))] [] (Z, Rf, K, n, z) Q = ((K r0).1 = 11 ∧ sm_call d 141 [.inr (some r0), .inr (some 2000011)] (Z, Rf, K, n, z) (sm_cont (d + 1) 143 17 [some (.inr (some r0))] [] Q)) := (w_aload_n t143_11 rfl rfl).trans ((w_ldcs t143_12 rfl).trans (w_callV t143_14 rfl rfl rfl rfl (Nat.le_of_ble_eq_true rfl) (Nat.le_of_ble_eq_true rfl) rfl (by decide)))
set_option maxRecDepth 10000 in
theorem b143_17 {d : Nat} {l0 : Option sm_V} {s0 : Int} {Z : Nat → Nat → Int} {Rf : Nat → Nat → Option Nat} {K : Nat → Nat × Nat} {n z : Nat} {Q : Option sm_V → sm_S → Prop} : sm_wp d 143 17 [l0] [.inl s0] (Z, Rf, K, n, z) Q = (if wr s0 = 0 then sm_wp d 143 22 [l0] [] (Z, Rf, K, n, z) Q else sm_wp d 143 20 [l0] [] (Z, Rf, K, n, z) Q) := w_ifeq t143_17 rfl rfl rfl
set_option maxRecDepth 10000 in
theorem b143_20 {d : Nat} {l0 : Option sm_V} {Z : Nat → Nat → Int} {Rf : Nat → Nat → Option Nat} {K : Nat → Nat × Nat} {n z : Nat} {Q : Option sm_V → sm_S → Prop} : sm_wp d 143 20 [l0] [] (Z, Rf, K, n, z) Q = (Q (some (.inl 4)) (Z, Rf, K, n, z)) := (w_iconst t143_20 rfl).trans (w_iret t143_21)
set_option maxRecDepth 10000 in
theorem b143_22 {d : Nat} {r0 : Nat} {Z : Nat → Nat → Int} {Rf : Nat → Nat → Option Nat} {K : Nat → Nat × Nat} {n z : Nat} {Q : Option sm_V → sm_S → Prop} : sm_wp (d + 1) 143 22 [some (.inr (some r0))] [] (Z, Rf, K, n, z) Q = ((K r0).1 = 11 ∧ sm_call d 141 [.inr (some r0), .inr (some 2000012)] (Z, Rf, K, n, z) (sm_cont (d + 1) 143 28 [some (.inr (some r0))] [] Q)) := (w_aload_n t143_22 rfl rfl).trans ((w_ldcs t143_23 rfl).trans (w_callV t143_25 rfl rfl rfl rfl (Nat.le_of_ble_eq_true rfl) (Nat.le_of_ble_eq_true rfl) rfl (by decide)))
set_option maxRecDepth 10000 in
theorem b143_28 {d : Nat} {l0 : Option sm_V} {s0 : Int} {Z : Nat → Nat → Int} {Rf : Nat → Nat → Option Nat} {K : Nat → Nat × Nat} {n z : Nat} {Q : Option sm_V → sm_S → Prop} : sm_wp d 143 28 [l0] [.inl s0] (Z, Rf, K, n, z) Q = (if wr s0 = 0 then sm_wp d 143 33 [l0] [] (Z, Rf, K, n, z) Q else sm_wp d 143 31 [l0] [] (Z, Rf, K, n, z) Q) := w_ifeq t143_28 rfl rfl rfl
set_option maxRecDepth 10000 in
theorem b143_31 {d : Nat} {l0 : Option sm_V} {Z : Nat → Nat → Int} {Rf : Nat → Nat → Option Nat} {K : Nat → Nat × Nat} {n z : Nat} {Q : Option sm_V → sm_S → Prop} : sm_wp d 143 31 [l0] [] (Z, Rf, K, n, z) Q = (Q (some (.inl 5)) (Z, Rf, K, n, z)) := (w_iconst t143_31 rfl).trans (w_iret t143_32)
set_option maxRecDepth 10000 in
theorem b143_33 {d : Nat} {r0 : Nat} {Z : Nat → Nat → Int} {Rf : Nat → Nat → Option Nat} {K : Nat → Nat × Nat} {n z : Nat} {Q : Option sm_V → sm_S → Prop} : sm_wp (d + 1) 143 33 [some (.inr (some r0))] [] (Z, Rf, K, n, z) Q = ((K r0).1 = 11 ∧ sm_call d 141 [.inr (some r0), .inr (some 2000013)] (Z, Rf, K, n, z) (sm_cont (d + 1) 143 39 [some (.inr (some r0))] [] Q)) := (w_aload_n t143_33 rfl rfl).trans ((w_ldcs t143_34 rfl).trans (w_callV t143_36 rfl rfl rfl rfl (Nat.le_of_ble_eq_true rfl) (Nat.le_of_ble_eq_true rfl) rfl (by decide)))
set_option maxRecDepth 10000 in
theorem b143_39 {d : Nat} {l0 : Option sm_V} {s0 : Int} {Z : Nat → Nat → Int} {Rf : Nat → Nat → Option Nat} {K : Nat → Nat × Nat} {n z : Nat} {Q : Option sm_V → sm_S → Prop} : sm_wp d 143 39 [l0] [.inl s0] (Z, Rf, K, n, z) Q = (if wr s0 = 0 then sm_wp d 143 45 [l0] [] (Z, Rf, K, n, z) Q else sm_wp d 143 42 [l0] [] (Z, Rf, K, n, z) Q) := w_ifeq t143_39 rfl rfl rfl
set_option maxRecDepth 10000 in
theorem b143_42 {d : Nat} {l0 : Option sm_V} {Z : Nat → Nat → Int} {Rf : Nat → Nat → Option Nat} {K : Nat → Nat × Nat} {n z : Nat} {Q : Option sm_V → sm_S → Prop} : sm_wp d 143 42 [l0] [] (Z, Rf, K, n, z) Q = (Q (some (.inl 6)) (Z, Rf, K, n, z)) := (w_bipush t143_42 rfl).trans (w_iret t143_44)
set_option maxRecDepth 10000 in
theorem b143_45 {d : Nat} {r0 : Nat} {Z : Nat → Nat → Int} {Rf : Nat → Nat → Option Nat} {K : Nat → Nat × Nat} {n z : Nat} {Q : Option sm_V → sm_S → Prop} : sm_wp (d + 1) 143 45 [some (.inr (some r0))] [] (Z, Rf, K, n, z) Q = ((K r0).1 = 11 ∧ sm_call d 141 [.inr (some r0), .inr (some 2000014)] (Z, Rf, K, n, z) (sm_cont (d + 1) 143 51 [some (.inr (some r0))] [] Q)) := (w_aload_n t143_45 rfl rfl).trans ((w_ldcs t143_46 rfl).trans (w_callV t143_48 rfl rfl rfl rfl (Nat.le_of_ble_eq_true rfl) (Nat.le_of_ble_eq_true rfl) rfl (by decide)))
set_option maxRecDepth 10000 in
theorem b143_51 {d : Nat} {l0 : Option sm_V} {s0 : Int} {Z : Nat → Nat → Int} {Rf : Nat → Nat → Option Nat} {K : Nat → Nat × Nat} {n z : Nat} {Q : Option sm_V → sm_S → Prop} : sm_wp d 143 51 [l0] [.inl s0] (Z, Rf, K, n, z) Q = (if wr s0 = 0 then sm_wp d 143 57 [l0] [] (Z, Rf, K, n, z) Q else sm_wp d 143 54 [l0] [] (Z, Rf, K, n, z) Q) := w_ifeq t143_51 rfl rfl rfl
set_option maxRecDepth 10000 in
theorem b143_54 {d : Nat} {l0 : Option sm_V} {Z : Nat → Nat → Int} {Rf : Nat → Nat → Option Nat} {K : Nat → Nat × Nat} {n z : Nat} {Q : Option sm_V → sm_S → Prop} : sm_wp d 143 54 [l0] [] (Z, Rf, K, n, z) Q = (Q (some (.inl 20)) (Z, Rf, K, n, z)) := (w_bipush t143_54 rfl).trans (w_iret t143_56)
set_option maxRecDepth 10000 in
theorem b143_57 {d : Nat} {r0 : Nat} {Z : Nat → Nat → Int} {Rf : Nat → Nat → Option Nat} {K : Nat → Nat × Nat} {n z : Nat} {Q : Option sm_V → sm_S → Prop} : sm_wp (d + 1) 143 57 [some (.inr (some r0))] [] (Z, Rf, K, n, z) Q = ((K r0).1 = 11 ∧ sm_call d 141 [.inr (some r0), .inr (some 2000015)] (Z, Rf, K, n, z) (sm_cont (d + 1) 143 63 [some (.inr (some r0))] [] Q)) := (w_aload_n t143_57 rfl rfl).trans ((w_ldcs t143_58 rfl).trans (w_callV t143_60 rfl rfl rfl rfl (Nat.le_of_ble_eq_true rfl) (Nat.le_of_ble_eq_true rfl) rfl (by decide)))
set_option maxRecDepth 10000 in
theorem b143_63 {d : Nat} {l0 : Option sm_V} {s0 : Int} {Z : Nat → Nat → Int} {Rf : Nat → Nat → Option Nat} {K : Nat → Nat × Nat} {n z : Nat} {Q : Option sm_V → sm_S → Prop} : sm_wp d 143 63 [l0] [.inl s0] (Z, Rf, K, n, z) Q = (if wr s0 = 0 then sm_wp d 143 69 [l0] [] (Z, Rf, K, n, z) Q else sm_wp d 143 66 [l0] [] (Z, Rf, K, n, z) Q) := w_ifeq t143_63 rfl rfl rfl
set_option maxRecDepth 10000 in
theorem b143_66 {d : Nat} {l0 : Option sm_V} {Z : Nat → Nat → Int} {Rf : Nat → Nat → Option Nat} {K : Nat → Nat × Nat} {n z : Nat} {Q : Option sm_V → sm_S → Prop} : sm_wp d 143 66 [l0] [] (Z, Rf, K, n, z) Q = (Q (some (.inl 23)) (Z, Rf, K, n, z)) := (w_bipush t143_66 rfl).trans (w_iret t143_68)
set_option maxRecDepth 10000 in
theorem b143_69 {d : Nat} {r0 : Nat} {Z : Nat → Nat → Int} {Rf : Nat → Nat → Option Nat} {K : Nat → Nat × Nat} {n z : Nat} {Q : Option sm_V → sm_S → Prop} : sm_wp (d + 1) 143 69 [some (.inr (some r0))] [] (Z, Rf, K, n, z) Q = ((K r0).1 = 11 ∧ sm_call d 141 [.inr (some r0), .inr (some 2000016)] (Z, Rf, K, n, z) (sm_cont (d + 1) 143 75 [some (.inr (some r0))] [] Q)) := (w_aload_n t143_69 rfl rfl).trans ((w_ldcs t143_70 rfl).trans (w_callV t143_72 rfl rfl rfl rfl (Nat.le_of_ble_eq_true rfl) (Nat.le_of_ble_eq_true rfl) rfl (by decide)))
set_option maxRecDepth 10000 in
theorem b143_75 {d : Nat} {l0 : Option sm_V} {s0 : Int} {Z : Nat → Nat → Int} {Rf : Nat → Nat → Option Nat} {K : Nat → Nat × Nat} {n z : Nat} {Q : Option sm_V → sm_S → Prop} : sm_wp d 143 75 [l0] [.inl s0] (Z, Rf, K, n, z) Q = (if wr s0 = 0 then sm_wp d 143 81 [l0] [] (Z, Rf, K, n, z) Q else sm_wp d 143 78 [l0] [] (Z, Rf, K, n, z) Q) := w_ifeq t143_75 rfl rfl rfl
set_option maxRecDepth 10000 in
theorem b143_78 {d : Nat} {l0 : Option sm_V} {Z : Nat → Nat → Int} {Rf : Nat → Nat → Option Nat} {K : Nat → Nat × Nat} {n z : Nat} {Q : Option sm_V → sm_S → Prop} : sm_wp d 143 78 [l0] [] (Z, Rf, K, n, z) Q = (Q (some (.inl 21)) (Z, Rf, K, n, z)) := (w_bipush t143_78 rfl).trans (w_iret t143_80)
set_option maxRecDepth 10000 in
theorem b143_81 {d : Nat} {r0 : Nat} {Z : Nat → Nat → Int} {Rf : Nat → Nat → Option Nat} {K : Nat → Nat × Nat} {n z : Nat} {Q : Option sm_V → sm_S → Prop} : sm_wp (d + 1) 143 81 [some (.inr (some r0))] [] (Z, Rf, K, n, z) Q = ((K r0).1 = 11 ∧ sm_call d 141 [.inr (some r0), .inr (some 2000017)] (Z, Rf, K, n, z) (sm_cont (d + 1) 143 87 [some (.inr (some r0))] [] Q)) := (w_aload_n t143_81 rfl rfl).trans ((w_ldcs t143_82 rfl).trans (w_callV t143_84 rfl rfl rfl rfl (Nat.le_of_ble_eq_true rfl) (Nat.le_of_ble_eq_true rfl) rfl (by decide)))
set_option maxRecDepth 10000 in
theorem b143_87 {d : Nat} {l0 : Option sm_V} {s0 : Int} {Z : Nat → Nat → Int} {Rf : Nat → Nat → Option Nat} {K : Nat → Nat × Nat} {n z : Nat} {Q : Option sm_V → sm_S → Prop} : sm_wp d 143 87 [l0] [.inl s0] (Z, Rf, K, n, z) Q = (if wr s0 = 0 then sm_wp d 143 93 [l0] [] (Z, Rf, K, n, z) Q else sm_wp d 143 90 [l0] [] (Z, Rf, K, n, z) Q) := w_ifeq t143_87 rfl rfl rfl
set_option maxRecDepth 10000 in
theorem b143_90 {d : Nat} {l0 : Option sm_V} {Z : Nat → Nat → Int} {Rf : Nat → Nat → Option Nat} {K : Nat → Nat × Nat} {n z : Nat} {Q : Option sm_V → sm_S → Prop} : sm_wp d 143 90 [l0] [] (Z, Rf, K, n, z) Q = (Q (some (.inl 22)) (Z, Rf, K, n, z)) := (w_bipush t143_90 rfl).trans (w_iret t143_92)
set_option maxRecDepth 10000 in
theorem b143_93 {d : Nat} {r0 : Nat} {Z : Nat → Nat → Int} {Rf : Nat → Nat → Option Nat} {K : Nat → Nat × Nat} {n z : Nat} {Q : Option sm_V → sm_S → Prop} : sm_wp (d + 1) 143 93 [some (.inr (some r0))] [] (Z, Rf, K, n, z) Q = ((K r0).1 = 11 ∧ sm_call d 141 [.inr (some r0), .inr (some 2000018)] (Z, Rf, K, n, z) (sm_cont (d + 1) 143 99 [some (.inr (some r0))] [] Q)) := (w_aload_n t143_93 rfl rfl).trans ((w_ldcs t143_94 rfl).trans (w_callV t143_96 rfl rfl rfl rfl (Nat.le_of_ble_eq_true rfl) (Nat.le_of_ble_eq_true rfl) rfl (by decide)))
set_option maxRecDepth 10000 in
theorem b143_99 {d : Nat} {l0 : Option sm_V} {s0 : Int} {Z : Nat → Nat → Int} {Rf : Nat → Nat → Option Nat} {K : Nat → Nat × Nat} {n z : Nat} {Q : Option sm_V → sm_S → Prop} : sm_wp d 143 99 [l0] [.inl s0] (Z, Rf, K, n, z) Q = (if wr s0 = 0 then sm_wp d 143 107 [l0] [] (Z, Rf, K, n, z) Q else sm_wp d 143 102 [l0] [] (Z, Rf, K, n, z) Q) := w_ifeq t143_99 rfl rfl rfl
set_option maxRecDepth 10000 in
theorem b143_102 {d : Nat} {l0 : Option sm_V} {Z : Nat → Nat → Int} {Rf : Nat → Nat → Option Nat} {K : Nat → Nat × Nat} {n z : Nat} {Q : Option sm_V → sm_S → Prop} : sm_wp d 143 102 [l0] [] (Z, Rf, K, n, z) Q = (sm_wp d 143 111 [l0] [.inl 24] (Z, Rf, K, n, z) Q) := (w_bipush t143_102 rfl).trans (w_goto t143_104 rfl)
set_option maxRecDepth 10000 in
theorem b143_107 {d : Nat} {r0 : Nat} {Z : Nat → Nat → Int} {Rf : Nat → Nat → Option Nat} {K : Nat → Nat × Nat} {n z : Nat} {Q : Option sm_V → sm_S → Prop} : sm_wp (d + 1) 143 107 [some (.inr (some r0))] [] (Z, Rf, K, n, z) Q = ((K r0).1 = 11 ∧ sm_call d 142 [.inr (some r0)] (Z, Rf, K, n, z) (sm_cont (d + 1) 143 111 [some (.inr (some r0))] [] Q)) := (w_aload_n t143_107 rfl rfl).trans (w_callV t143_108 rfl rfl rfl rfl (Nat.le_of_ble_eq_true rfl) (Nat.le_of_ble_eq_true rfl) rfl (by decide))
set_option maxRecDepth 10000 in
theorem b143_111 {d : Nat} {l0 : Option sm_V} {s0 : Int} {Z : Nat → Nat → Int} {Rf : Nat → Nat → Option Nat} {K : Nat → Nat × Nat} {n z : Nat} {Q : Option sm_V → sm_S → Prop} : sm_wp d 143 111 [l0] [.inl s0] (Z, Rf, K, n, z) Q = (Q (some (.inl s0)) (Z, Rf, K, n, z)) := w_iret t143_111
theorem t144_0 : sm_at 144 0 = some (1, .aload_n 0, 0, 0, 0) := rfl
theorem t144_1 : sm_at 144 1 = some (1, .aload_n 0, 0, 0, 0) := rfl
theorem t144_2 : sm_at 144 2 = some (3, .getfield 99, 11, 15, 0) := rfl
theorem t144_5 : sm_at 144 5 = some (3, .invokevirtual 157, 138, 2, 0) := rfl
theorem t144_8 : sm_at 144 8 = some (2, .bipush 32, 0, 0, 0) := rfl
theorem t144_10 : sm_at 144 10 = some (3, .if_icmp .eq 16, 0, 0, 0) := rfl
theorem t144_13 : sm_at 144 13 = some (1, .aload_n 0, 0, 0, 0) := rfl
theorem t144_14 : sm_at 144 14 = some (1, .aload_n 0, 0, 0, 0) := rfl
theorem t144_15 : sm_at 144 15 = some (3, .getfield 99, 11, 15, 0) := rfl
theorem t144_18 : sm_at 144 18 = some (3, .invokevirtual 157, 138, 2, 0) := rfl
theorem t144_21 : sm_at 144 21 = some (2, .bipush 10, 0, 0, 0) := rfl
theorem t144_23 : sm_at 144 23 = some (3, .if_icmp .ne 16, 0, 0, 0) := rfl
theorem t144_26 : sm_at 144 26 = some (1, .aload_n 0, 0, 0, 0) := rfl
theorem t144_27 : sm_at 144 27 = some (1, .dup, 0, 0, 0) := rfl
theorem t144_28 : sm_at 144 28 = some (3, .getfield 99, 11, 15, 0) := rfl
theorem t144_31 : sm_at 144 31 = some (1, .iconst 1, 0, 0, 0) := rfl
theorem t144_32 : sm_at 144 32 = some (1, .iadd, 0, 0, 0) := rfl
theorem t144_33 : sm_at 144 33 = some (3, .putfield 99, 11, 15, 0) := rfl
theorem t144_36 : sm_at 144 36 = some (3, .goto (-36), 0, 0, 0) := rfl
theorem t144_39 : sm_at 144 39 = some (1, .aload_n 0, 0, 0, 0) := rfl
theorem t144_40 : sm_at 144 40 = some (1, .aload_n 0, 0, 0, 0) := rfl
theorem t144_41 : sm_at 144 41 = some (3, .getfield 99, 11, 15, 0) := rfl
theorem t144_44 : sm_at 144 44 = some (3, .putfield 102, 11, 17, 0) := rfl
theorem t144_47 : sm_at 144 47 = some (1, .aload_n 0, 0, 0, 0) := rfl
theorem t144_48 : sm_at 144 48 = some (1, .aload_n 0, 0, 0, 0) := rfl
theorem t144_49 : sm_at 144 49 = some (3, .getfield 99, 11, 15, 0) := rfl
theorem t144_52 : sm_at 144 52 = some (3, .invokevirtual 157, 138, 2, 0) := rfl
theorem t144_55 : sm_at 144 55 = some (1, .istore_n 1, 0, 0, 0) := rfl
theorem t144_56 : sm_at 144 56 = some (1, .iload_n 1, 0, 0, 0) := rfl
theorem t144_57 : sm_at 144 57 = some (1, .iconst (-1), 0, 0, 0) := rfl
theorem t144_58 : sm_at 144 58 = some (3, .if_icmp .ne 11, 0, 0, 0) := rfl
theorem t144_61 : sm_at 144 61 = some (1, .aload_n 0, 0, 0, 0) := rfl
theorem t144_62 : sm_at 144 62 = some (1, .iconst 0, 0, 0, 0) := rfl
theorem t144_63 : sm_at 144 63 = some (3, .putfield 161, 11, 16, 0) := rfl
theorem t144_66 : sm_at 144 66 = some (3, .goto 240, 0, 0, 0) := rfl
theorem t144_69 : sm_at 144 69 = some (1, .iload_n 1, 0, 0, 0) := rfl
theorem t144_70 : sm_at 144 70 = some (3, .invokestatic 164, 139, 1, 0) := rfl
theorem t144_73 : sm_at 144 73 = some (3, .ifCond .eq 41, 0, 0, 0) := rfl
theorem t144_76 : sm_at 144 76 = some (1, .aload_n 0, 0, 0, 0) := rfl
theorem t144_77 : sm_at 144 77 = some (1, .aload_n 0, 0, 0, 0) := rfl
theorem t144_78 : sm_at 144 78 = some (3, .getfield 99, 11, 15, 0) := rfl
theorem t144_81 : sm_at 144 81 = some (3, .invokevirtual 157, 138, 2, 0) := rfl
theorem t144_84 : sm_at 144 84 = some (3, .invokestatic 164, 139, 1, 0) := rfl
theorem t144_87 : sm_at 144 87 = some (3, .ifCond .eq 16, 0, 0, 0) := rfl
theorem t144_90 : sm_at 144 90 = some (1, .aload_n 0, 0, 0, 0) := rfl
theorem t144_91 : sm_at 144 91 = some (1, .dup, 0, 0, 0) := rfl
theorem t144_92 : sm_at 144 92 = some (3, .getfield 99, 11, 15, 0) := rfl
theorem t144_95 : sm_at 144 95 = some (1, .iconst 1, 0, 0, 0) := rfl
theorem t144_96 : sm_at 144 96 = some (1, .iadd, 0, 0, 0) := rfl
theorem t144_97 : sm_at 144 97 = some (3, .putfield 99, 11, 15, 0) := rfl
theorem t144_100 : sm_at 144 100 = some (3, .goto (-24), 0, 0, 0) := rfl
theorem t144_103 : sm_at 144 103 = some (1, .aload_n 0, 0, 0, 0) := rfl
theorem t144_104 : sm_at 144 104 = some (1, .aload_n 0, 0, 0, 0) := rfl
theorem t144_105 : sm_at 144 105 = some (3, .invokevirtual 167, 143, 1, 0) := rfl
theorem t144_108 : sm_at 144 108 = some (3, .putfield 161, 11, 16, 0) := rfl
theorem t144_111 : sm_at 144 111 = some (3, .goto 195, 0, 0, 0) := rfl
theorem t144_114 : sm_at 144 114 = some (1, .iload_n 1, 0, 0, 0) := rfl
theorem t144_115 : sm_at 144 115 = some (3, .invokestatic 170, 140, 1, 0) := rfl
theorem t144_118 : sm_at 144 118 = some (3, .ifCond .eq 96, 0, 0, 0) := rfl
theorem t144_121 : sm_at 144 121 = some (1, .aload_n 0, 0, 0, 0) := rfl
set_option maxRecDepth 100000 in
theorem t144_122 : sm_at 144 122 = some (1, .iconst 0, 0, 0, 0) := rfl
set_option maxRecDepth 100000 in
theorem t144_123 : sm_at 144 123 = some (3, .putfield 173, 11, 18, 0) := rfl
set_option maxRecDepth 100000 in
theorem t144_126 : sm_at 144 126 = some (1, .aload_n 0, 0, 0, 0) := rfl
set_option maxRecDepth 100000 in
theorem t144_127 : sm_at 144 127 = some (1, .aload_n 0, 0, 0, 0) := rfl
set_option maxRecDepth 100000 in
theorem t144_128 : sm_at 144 128 = some (3, .getfield 99, 11, 15, 0) := rfl
set_option maxRecDepth 100000 in
theorem t144_131 : sm_at 144 131 = some (3, .invokevirtual 157, 138, 2, 0) := rfl
set_option maxRecDepth 100000 in
theorem t144_134 : sm_at 144 134 = some (3, .invokestatic 170, 140, 1, 0) := rfl
set_option maxRecDepth 100000 in
theorem t144_137 : sm_at 144 137 = some (3, .ifCond .eq 52, 0, 0, 0) := rfl
set_option maxRecDepth 100000 in
theorem t144_140 : sm_at 144 140 = some (1, .aload_n 0, 0, 0, 0) := rfl
set_option maxRecDepth 100000 in
theorem t144_141 : sm_at 144 141 = some (3, .getfield 99, 11, 15, 0) := rfl
set_option maxRecDepth 100000 in
theorem t144_144 : sm_at 144 144 = some (1, .aload_n 0, 0, 0, 0) := rfl
set_option maxRecDepth 100000 in
theorem t144_145 : sm_at 144 145 = some (3, .getfield 102, 11, 17, 0) := rfl
set_option maxRecDepth 100000 in
theorem t144_148 : sm_at 144 148 = some (1, .iconst 4, 0, 0, 0) := rfl
set_option maxRecDepth 100000 in
theorem t144_149 : sm_at 144 149 = some (1, .iadd, 0, 0, 0) := rfl
set_option maxRecDepth 100000 in
theorem t144_150 : sm_at 144 150 = some (3, .if_icmp .ge 26, 0, 0, 0) := rfl
set_option maxRecDepth 100000 in
theorem t144_153 : sm_at 144 153 = some (1, .aload_n 0, 0, 0, 0) := rfl
set_option maxRecDepth 100000 in
theorem t144_154 : sm_at 144 154 = some (2, .bipush 10, 0, 0, 0) := rfl
set_option maxRecDepth 100000 in
theorem t144_156 : sm_at 144 156 = some (1, .aload_n 0, 0, 0, 0) := rfl
set_option maxRecDepth 100000 in
theorem t144_157 : sm_at 144 157 = some (3, .getfield 173, 11, 18, 0) := rfl
set_option maxRecDepth 100000 in
theorem t144_160 : sm_at 144 160 = some (1, .imul, 0, 0, 0) := rfl
set_option maxRecDepth 100000 in
theorem t144_161 : sm_at 144 161 = some (1, .aload_n 0, 0, 0, 0) := rfl
set_option maxRecDepth 100000 in
theorem t144_162 : sm_at 144 162 = some (1, .aload_n 0, 0, 0, 0) := rfl
set_option maxRecDepth 100000 in
theorem t144_163 : sm_at 144 163 = some (3, .getfield 99, 11, 15, 0) := rfl
set_option maxRecDepth 100000 in
theorem t144_166 : sm_at 144 166 = some (3, .invokevirtual 157, 138, 2, 0) := rfl
set_option maxRecDepth 100000 in
theorem t144_169 : sm_at 144 169 = some (1, .iadd, 0, 0, 0) := rfl
set_option maxRecDepth 100000 in
theorem t144_170 : sm_at 144 170 = some (2, .bipush 48, 0, 0, 0) := rfl
set_option maxRecDepth 100000 in
theorem t144_172 : sm_at 144 172 = some (1, .isub, 0, 0, 0) := rfl
set_option maxRecDepth 100000 in
theorem t144_173 : sm_at 144 173 = some (3, .putfield 173, 11, 18, 0) := rfl
set_option maxRecDepth 100000 in
theorem t144_176 : sm_at 144 176 = some (1, .aload_n 0, 0, 0, 0) := rfl
set_option maxRecDepth 100000 in
theorem t144_177 : sm_at 144 177 = some (1, .dup, 0, 0, 0) := rfl
set_option maxRecDepth 100000 in
theorem t144_178 : sm_at 144 178 = some (3, .getfield 99, 11, 15, 0) := rfl
set_option maxRecDepth 100000 in
theorem t144_181 : sm_at 144 181 = some (1, .iconst 1, 0, 0, 0) := rfl
set_option maxRecDepth 100000 in
theorem t144_182 : sm_at 144 182 = some (1, .iadd, 0, 0, 0) := rfl
set_option maxRecDepth 100000 in
theorem t144_183 : sm_at 144 183 = some (3, .putfield 99, 11, 15, 0) := rfl
set_option maxRecDepth 100000 in
theorem t144_186 : sm_at 144 186 = some (3, .goto (-60), 0, 0, 0) := rfl
set_option maxRecDepth 100000 in
theorem t144_189 : sm_at 144 189 = some (1, .aload_n 0, 0, 0, 0) := rfl
set_option maxRecDepth 100000 in
theorem t144_190 : sm_at 144 190 = some (1, .aload_n 0, 0, 0, 0) := rfl
set_option maxRecDepth 100000 in
theorem t144_191 : sm_at 144 191 = some (3, .getfield 99, 11, 15, 0) := rfl
set_option maxRecDepth 100000 in
theorem t144_194 : sm_at 144 194 = some (1, .aload_n 0, 0, 0, 0) := rfl
set_option maxRecDepth 100000 in
theorem t144_195 : sm_at 144 195 = some (3, .getfield 102, 11, 17, 0) := rfl
set_option maxRecDepth 100000 in
theorem t144_198 : sm_at 144 198 = some (1, .isub, 0, 0, 0) := rfl
set_option maxRecDepth 100000 in
theorem t144_199 : sm_at 144 199 = some (1, .iconst 5, 0, 0, 0) := rfl
set_option maxRecDepth 100000 in
theorem t144_200 : sm_at 144 200 = some (3, .if_icmp .ge 7, 0, 0, 0) := rfl
set_option maxRecDepth 100000 in
theorem t144_203 : sm_at 144 203 = some (1, .iconst 2, 0, 0, 0) := rfl
set_option maxRecDepth 100000 in
theorem t144_204 : sm_at 144 204 = some (3, .goto 4, 0, 0, 0) := rfl
set_option maxRecDepth 100000 in
theorem t144_207 : sm_at 144 207 = some (1, .iconst 1, 0, 0, 0) := rfl
set_option maxRecDepth 100000 in
theorem t144_208 : sm_at 144 208 = some (3, .putfield 161, 11, 16, 0) := rfl
set_option maxRecDepth 100000 in
theorem t144_211 : sm_at 144 211 = some (3, .goto 95, 0, 0, 0) := rfl
set_option maxRecDepth 100000 in
theorem t144_214 : sm_at 144 214 = some (1, .aload_n 0, 0, 0, 0) := rfl
set_option maxRecDepth 100000 in
theorem t144_215 : sm_at 144 215 = some (1, .dup, 0, 0, 0) := rfl
set_option maxRecDepth 100000 in
theorem t144_216 : sm_at 144 216 = some (3, .getfield 99, 11, 15, 0) := rfl
set_option maxRecDepth 100000 in
theorem t144_219 : sm_at 144 219 = some (1, .iconst 1, 0, 0, 0) := rfl
set_option maxRecDepth 100000 in
theorem t144_220 : sm_at 144 220 = some (1, .iadd, 0, 0, 0) := rfl
set_option maxRecDepth 100000 in
theorem t144_221 : sm_at 144 221 = some (3, .putfield 99, 11, 15, 0) := rfl
set_option maxRecDepth 100000 in
theorem t144_224 : sm_at 144 224 = some (1, .iload_n 1, 0, 0, 0) := rfl
set_option maxRecDepth 100000 in
theorem t144_225 : sm_at 144 225 = some (2, .bipush 59, 0, 0, 0) := rfl
set_option maxRecDepth 100000 in
theorem t144_227 : sm_at 144 227 = some (3, .if_icmp .eq 57, 0, 0, 0) := rfl
set_option maxRecDepth 100000 in
theorem t144_230 : sm_at 144 230 = some (1, .iload_n 1, 0, 0, 0) := rfl
set_option maxRecDepth 100000 in
theorem t144_231 : sm_at 144 231 = some (2, .bipush 43, 0, 0, 0) := rfl
set_option maxRecDepth 100000 in
theorem t144_233 : sm_at 144 233 = some (3, .if_icmp .eq 51, 0, 0, 0) := rfl
set_option maxRecDepth 100000 in
theorem t144_236 : sm_at 144 236 = some (1, .iload_n 1, 0, 0, 0) := rfl
set_option maxRecDepth 100000 in
theorem t144_237 : sm_at 144 237 = some (2, .bipush 45, 0, 0, 0) := rfl
set_option maxRecDepth 100000 in
theorem t144_239 : sm_at 144 239 = some (3, .if_icmp .eq 45, 0, 0, 0) := rfl
set_option maxRecDepth 100000 in
theorem t144_242 : sm_at 144 242 = some (1, .iload_n 1, 0, 0, 0) := rfl
set_option maxRecDepth 100000 in
theorem t144_243 : sm_at 144 243 = some (2, .bipush 42, 0, 0, 0) := rfl
set_option maxRecDepth 100000 in
theorem t144_245 : sm_at 144 245 = some (3, .if_icmp .eq 39, 0, 0, 0) := rfl
set_option maxRecDepth 100000 in
theorem t144_248 : sm_at 144 248 = some (1, .iload_n 1, 0, 0, 0) := rfl
set_option maxRecDepth 100000 in
theorem t144_249 : sm_at 144 249 = some (2, .bipush 47, 0, 0, 0) := rfl
set_option maxRecDepth 100000 in
theorem t144_251 : sm_at 144 251 = some (3, .if_icmp .eq 33, 0, 0, 0) := rfl
set_option maxRecDepth 100000 in
theorem t144_254 : sm_at 144 254 = some (1, .iload_n 1, 0, 0, 0) := rfl
set_option maxRecDepth 100000 in
theorem t144_255 : sm_at 144 255 = some (2, .bipush 40, 0, 0, 0) := rfl
set_option maxRecDepth 100000 in
theorem t144_257 : sm_at 144 257 = some (3, .if_icmp .eq 27, 0, 0, 0) := rfl
set_option maxRecDepth 100000 in
theorem t144_260 : sm_at 144 260 = some (1, .iload_n 1, 0, 0, 0) := rfl
set_option maxRecDepth 100000 in
theorem t144_261 : sm_at 144 261 = some (2, .bipush 41, 0, 0, 0) := rfl
set_option maxRecDepth 100000 in
theorem t144_263 : sm_at 144 263 = some (3, .if_icmp .eq 21, 0, 0, 0) := rfl
set_option maxRecDepth 100000 in
theorem t144_266 : sm_at 144 266 = some (1, .iload_n 1, 0, 0, 0) := rfl
set_option maxRecDepth 100000 in
theorem t144_267 : sm_at 144 267 = some (2, .bipush 60, 0, 0, 0) := rfl
set_option maxRecDepth 100000 in
theorem t144_269 : sm_at 144 269 = some (3, .if_icmp .eq 15, 0, 0, 0) := rfl
set_option maxRecDepth 100000 in
theorem t144_272 : sm_at 144 272 = some (1, .iload_n 1, 0, 0, 0) := rfl
set_option maxRecDepth 100000 in
theorem t144_273 : sm_at 144 273 = some (2, .bipush 61, 0, 0, 0) := rfl
set_option maxRecDepth 100000 in
theorem t144_275 : sm_at 144 275 = some (3, .if_icmp .eq 9, 0, 0, 0) := rfl
set_option maxRecDepth 100000 in
theorem t144_278 : sm_at 144 278 = some (1, .iload_n 1, 0, 0, 0) := rfl
set_option maxRecDepth 100000 in
theorem t144_279 : sm_at 144 279 = some (2, .bipush 62, 0, 0, 0) := rfl
set_option maxRecDepth 100000 in
theorem t144_281 : sm_at 144 281 = some (3, .if_icmp .ne 7, 0, 0, 0) := rfl
set_option maxRecDepth 100000 in
theorem t144_284 : sm_at 144 284 = some (1, .iconst 1, 0, 0, 0) := rfl
set_option maxRecDepth 100000 in
theorem t144_285 : sm_at 144 285 = some (3, .goto 4, 0, 0, 0) := rfl
set_option maxRecDepth 100000 in
theorem t144_288 : sm_at 144 288 = some (1, .iconst 0, 0, 0, 0) := rfl
set_option maxRecDepth 100000 in
theorem t144_289 : sm_at 144 289 = some (1, .istore_n 2, 0, 0, 0) := rfl
set_option maxRecDepth 100000 in
theorem t144_290 : sm_at 144 290 = some (1, .aload_n 0, 0, 0, 0) := rfl
set_option maxRecDepth 100000 in
theorem t144_291 : sm_at 144 291 = some (1, .iload_n 2, 0, 0, 0) := rfl
set_option maxRecDepth 100000 in
theorem t144_292 : sm_at 144 292 = some (3, .ifCond .eq 10, 0, 0, 0) := rfl
set_option maxRecDepth 100000 in
theorem t144_295 : sm_at 144 295 = some (2, .bipush 100, 0, 0, 0) := rfl
set_option maxRecDepth 100000 in
theorem t144_297 : sm_at 144 297 = some (1, .iload_n 1, 0, 0, 0) := rfl
set_option maxRecDepth 100000 in
theorem t144_298 : sm_at 144 298 = some (1, .iadd, 0, 0, 0) := rfl
set_option maxRecDepth 100000 in
theorem t144_299 : sm_at 144 299 = some (3, .goto 4, 0, 0, 0) := rfl
set_option maxRecDepth 100000 in
theorem t144_302 : sm_at 144 302 = some (1, .iconst 1, 0, 0, 0) := rfl
set_option maxRecDepth 100000 in
theorem t144_303 : sm_at 144 303 = some (3, .putfield 161, 11, 16, 0) := rfl
set_option maxRecDepth 100000 in
theorem t144_306 : sm_at 144 306 = some (1, .return_, 0, 0, 0) := rfl
set_option maxRecDepth 10000 in
theorem b144_0 {d : Nat} {r0 : Nat} {l1 : Option sm_V} {l2 : Option sm_V} {Z : Nat → Nat → Int} {Rf : Nat → Nat → Option Nat} {K : Nat → Nat × Nat} {n z : Nat} {Q : Option sm_V → sm_S → Prop} : sm_wp (d + 1) 144 0 [some (.inr (some r0)), l1, l2] [] (Z, Rf, K, n, z) Q = ((K r0).1 = 11 ∧ (K r0).1 = 11 ∧ sm_call d 138 [.inr (some r0), .inl (Z r0 15)] (Z, Rf, K, n, z) (sm_cont (d + 1) 144 8 [some (.inr (some r0)), l1, l2] [] Q)) := (w_aload_n t144_0 rfl rfl).trans ((w_aload_n t144_1 rfl rfl).trans ((w_getI t144_2 rfl (by decide)).trans (congrArg (And _) (w_callV t144_5 rfl rfl rfl rfl (Nat.le_of_ble_eq_true rfl) (Nat.le_of_ble_eq_true rfl) rfl (by decide)))))
set_option maxRecDepth 10000 in
theorem b144_8 {d : Nat} {l0 : Option sm_V} {l1 : Option sm_V} {l2 : Option sm_V} {s0 : Int} {Z : Nat → Nat → Int} {Rf : Nat → Nat → Option Nat} {K : Nat → Nat × Nat} {n z : Nat} {Q : Option sm_V → sm_S → Prop} : sm_wp d 144 8 [l0, l1, l2] [.inl s0] (Z, Rf, K, n, z) Q = (if wr s0 = (32 : Int) then sm_wp d 144 26 [l0, l1, l2] [] (Z, Rf, K, n, z) Q else sm_wp d 144 13 [l0, l1, l2] [] (Z, Rf, K, n, z) Q) := (w_bipush t144_8 rfl).trans (w_iceq t144_10 rfl wl_32 rfl rfl)
set_option maxRecDepth 10000 in
theorem b144_13 {d : Nat} {r0 : Nat} {l1 : Option sm_V} {l2 : Option sm_V} {Z : Nat → Nat → Int} {Rf : Nat → Nat → Option Nat} {K : Nat → Nat × Nat} {n z : Nat} {Q : Option sm_V → sm_S → Prop} : sm_wp (d + 1) 144 13 [some (.inr (some r0)), l1, l2] [] (Z, Rf, K, n, z) Q = ((K r0).1 = 11 ∧ (K r0).1 = 11 ∧ sm_call d 138 [.inr (some r0), .inl (Z r0 15)] (Z, Rf, K, n, z) (sm_cont (d + 1) 144 21 [some (.inr (some r0)), l1, l2] [] Q)) := (w_aload_n t144_13 rfl rfl).trans ((w_aload_n t144_14 rfl rfl).trans ((w_getI t144_15 rfl (by decide)).trans (congrArg (And _) (w_callV t144_18 rfl rfl rfl rfl (Nat.le_of_ble_eq_true rfl) (Nat.le_of_ble_eq_true rfl) rfl (by decide)))))
set_option maxRecDepth 10000 in
theorem b144_21 {d : Nat} {l0 : Option sm_V} {l1 : Option sm_V} {l2 : Option sm_V} {s0 : Int} {Z : Nat → Nat → Int} {Rf : Nat → Nat → Option Nat} {K : Nat → Nat × Nat} {n z : Nat} {Q : Option sm_V → sm_S → Prop} : sm_wp d 144 21 [l0, l1, l2] [.inl s0] (Z, Rf, K, n, z) Q = (if wr s0 = (10 : Int) then sm_wp d 144 26 [l0, l1, l2] [] (Z, Rf, K, n, z) Q else sm_wp d 144 39 [l0, l1, l2] [] (Z, Rf, K, n, z) Q) := (w_bipush t144_21 rfl).trans (w_icne t144_23 rfl wl_10 rfl rfl)
set_option maxRecDepth 10000 in
theorem b144_26 {d : Nat} {r0 : Nat} {l1 : Option sm_V} {l2 : Option sm_V} {Z : Nat → Nat → Int} {Rf : Nat → Nat → Option Nat} {K : Nat → Nat × Nat} {n z : Nat} {Q : Option sm_V → sm_S → Prop} : sm_wp d 144 26 [some (.inr (some r0)), l1, l2] [] (Z, Rf, K, n, z) Q = ((K r0).1 = 11 ∧ (K r0).1 = 11 ∧ sm_wp d 144 0 [some (.inr (some r0)), l1, l2] [] (sm_u Z r0 15 ((Z r0 15) + 1), Rf, K, n, z) Q) := (w_aload_n t144_26 rfl rfl).trans ((w_dup t144_27 rfl).trans ((w_getI t144_28 rfl (by decide)).trans (congrArg (And _) ((w_iconst t144_31 rfl).trans ((w_iadd t144_32 rfl).trans ((w_putI t144_33 rfl (by decide)).trans (congrArg (And _) (w_goto t144_36 rfl))))))))
set_option maxRecDepth 10000 in
theorem b144_39 {d : Nat} {r0 : Nat} {l1 : Option sm_V} {l2 : Option sm_V} {Z : Nat → Nat → Int} {Rf : Nat → Nat → Option Nat} {K : Nat → Nat × Nat} {n z : Nat} {Q : Option sm_V → sm_S → Prop} : sm_wp (d + 1) 144 39 [some (.inr (some r0)), l1, l2] [] (Z, Rf, K, n, z) Q = ((K r0).1 = 11 ∧ (K r0).1 = 11 ∧ (K r0).1 = 11 ∧ (K r0).1 = 11 ∧ sm_call d 138 [.inr (some r0), .inl ((sm_u Z r0 17 (Z r0 15)) r0 15)] (sm_u Z r0 17 (Z r0 15), Rf, K, n, z) (sm_cont (d + 1) 144 55 [some (.inr (some r0)), l1, l2] [] Q)) := (w_aload_n t144_39 rfl rfl).trans ((w_aload_n t144_40 rfl rfl).trans ((w_getI t144_41 rfl (by decide)).trans (congrArg (And _) ((w_putI t144_44 rfl (by decide)).trans (congrArg (And _) ((w_aload_n t144_47 rfl rfl).trans ((w_aload_n t144_48 rfl rfl).trans ((w_getI t144_49 rfl (by decide)).trans (congrArg (And _) (w_callV t144_52 rfl rfl rfl rfl (Nat.le_of_ble_eq_true rfl) (Nat.le_of_ble_eq_true rfl) rfl (by decide)))))))))))
set_option maxRecDepth 10000 in
theorem b144_55 {d : Nat} {l0 : Option sm_V} {l1 : Option sm_V} {l2 : Option sm_V} {s0 : Int} {Z : Nat → Nat → Int} {Rf : Nat → Nat → Option Nat} {K : Nat → Nat × Nat} {n z : Nat} {Q : Option sm_V → sm_S → Prop} : sm_wp d 144 55 [l0, l1, l2] [.inl s0] (Z, Rf, K, n, z) Q = (if wr s0 = (-1 : Int) then sm_wp d 144 61 [l0, some (.inl s0), l2] [] (Z, Rf, K, n, z) Q else sm_wp d 144 69 [l0, some (.inl s0), l2] [] (Z, Rf, K, n, z) Q) := (w_istore_n t144_55 rfl (Nat.le_of_ble_eq_true rfl) rfl).trans ((w_iload_n t144_56 rfl rfl).trans ((w_iconst t144_57 rfl).trans (w_icne t144_58 rfl wl_m1 rfl rfl)))
set_option maxRecDepth 10000 in
theorem b144_61 {d : Nat} {r0 : Nat} {l1 : Option sm_V} {l2 : Option sm_V} {Z : Nat → Nat → Int} {Rf : Nat → Nat → Option Nat} {K : Nat → Nat × Nat} {n z : Nat} {Q : Option sm_V → sm_S → Prop} : sm_wp d 144 61 [some (.inr (some r0)), l1, l2] [] (Z, Rf, K, n, z) Q = ((K r0).1 = 11 ∧ sm_wp d 144 306 [some (.inr (some r0)), l1, l2] [] (sm_u Z r0 16 0, Rf, K, n, z) Q) := (w_aload_n t144_61 rfl rfl).trans ((w_iconst t144_62 rfl).trans ((w_putI t144_63 rfl (by decide)).trans (congrArg (And _) (w_goto t144_66 rfl))))
set_option maxRecDepth 10000 in
theorem b144_69 {d : Nat} {l0 : Option sm_V} {x1 : Int} {l2 : Option sm_V} {Z : Nat → Nat → Int} {Rf : Nat → Nat → Option Nat} {K : Nat → Nat × Nat} {n z : Nat} {Q : Option sm_V → sm_S → Prop} : sm_wp (d + 1) 144 69 [l0, some (.inl x1), l2] [] (Z, Rf, K, n, z) Q = (sm_call d 139 [.inl x1] (Z, Rf, K, n, z) (sm_cont (d + 1) 144 73 [l0, some (.inl x1), l2] [] Q)) := (w_iload_n t144_69 rfl rfl).trans (w_callS t144_70 rfl rfl rfl rfl (Nat.le_of_ble_eq_true rfl) (Nat.le_of_ble_eq_true rfl) rfl)
set_option maxRecDepth 10000 in
theorem b144_73 {d : Nat} {l0 : Option sm_V} {l1 : Option sm_V} {l2 : Option sm_V} {s0 : Int} {Z : Nat → Nat → Int} {Rf : Nat → Nat → Option Nat} {K : Nat → Nat × Nat} {n z : Nat} {Q : Option sm_V → sm_S → Prop} : sm_wp d 144 73 [l0, l1, l2] [.inl s0] (Z, Rf, K, n, z) Q = (if wr s0 = 0 then sm_wp d 144 114 [l0, l1, l2] [] (Z, Rf, K, n, z) Q else sm_wp d 144 76 [l0, l1, l2] [] (Z, Rf, K, n, z) Q) := w_ifeq t144_73 rfl rfl rfl
set_option maxRecDepth 10000 in
theorem b144_76 {d : Nat} {r0 : Nat} {l1 : Option sm_V} {l2 : Option sm_V} {Z : Nat → Nat → Int} {Rf : Nat → Nat → Option Nat} {K : Nat → Nat × Nat} {n z : Nat} {Q : Option sm_V → sm_S → Prop} : sm_wp (d + 1) 144 76 [some (.inr (some r0)), l1, l2] [] (Z, Rf, K, n, z) Q = ((K r0).1 = 11 ∧ (K r0).1 = 11 ∧ sm_call d 138 [.inr (some r0), .inl (Z r0 15)] (Z, Rf, K, n, z) (sm_cont (d + 1) 144 84 [some (.inr (some r0)), l1, l2] [] Q)) := (w_aload_n t144_76 rfl rfl).trans ((w_aload_n t144_77 rfl rfl).trans ((w_getI t144_78 rfl (by decide)).trans (congrArg (And _) (w_callV t144_81 rfl rfl rfl rfl (Nat.le_of_ble_eq_true rfl) (Nat.le_of_ble_eq_true rfl) rfl (by decide)))))
set_option maxRecDepth 10000 in
theorem b144_84 {d : Nat} {l0 : Option sm_V} {l1 : Option sm_V} {l2 : Option sm_V} {s0 : Int} {Z : Nat → Nat → Int} {Rf : Nat → Nat → Option Nat} {K : Nat → Nat × Nat} {n z : Nat} {Q : Option sm_V → sm_S → Prop} : sm_wp (d + 1) 144 84 [l0, l1, l2] [.inl s0] (Z, Rf, K, n, z) Q = (sm_call d 139 [.inl s0] (Z, Rf, K, n, z) (sm_cont (d + 1) 144 87 [l0, l1, l2] [] Q)) := w_callS t144_84 rfl rfl rfl rfl (Nat.le_of_ble_eq_true rfl) (Nat.le_of_ble_eq_true rfl) rfl
set_option maxRecDepth 10000 in
theorem b144_87 {d : Nat} {l0 : Option sm_V} {l1 : Option sm_V} {l2 : Option sm_V} {s0 : Int} {Z : Nat → Nat → Int} {Rf : Nat → Nat → Option Nat} {K : Nat → Nat × Nat} {n z : Nat} {Q : Option sm_V → sm_S → Prop} : sm_wp d 144 87 [l0, l1, l2] [.inl s0] (Z, Rf, K, n, z) Q = (if wr s0 = 0 then sm_wp d 144 103 [l0, l1, l2] [] (Z, Rf, K, n, z) Q else sm_wp d 144 90 [l0, l1, l2] [] (Z, Rf, K, n, z) Q) := w_ifeq t144_87 rfl rfl rfl
set_option maxRecDepth 10000 in
theorem b144_90 {d : Nat} {r0 : Nat} {l1 : Option sm_V} {l2 : Option sm_V} {Z : Nat → Nat → Int} {Rf : Nat → Nat → Option Nat} {K : Nat → Nat × Nat} {n z : Nat} {Q : Option sm_V → sm_S → Prop} : sm_wp d 144 90 [some (.inr (some r0)), l1, l2] [] (Z, Rf, K, n, z) Q = ((K r0).1 = 11 ∧ (K r0).1 = 11 ∧ sm_wp d 144 76 [some (.inr (some r0)), l1, l2] [] (sm_u Z r0 15 ((Z r0 15) + 1), Rf, K, n, z) Q) := (w_aload_n t144_90 rfl rfl).trans ((w_dup t144_91 rfl).trans ((w_getI t144_92 rfl (by decide)).trans (congrArg (And _) ((w_iconst t144_95 rfl).trans ((w_iadd t144_96 rfl).trans ((w_putI t144_97 rfl (by decide)).trans (congrArg (And _) (w_goto t144_100 rfl))))))))
set_option maxRecDepth 10000 in
theorem b144_103 {d : Nat} {r0 : Nat} {l1 : Option sm_V} {l2 : Option sm_V} {Z : Nat → Nat → Int} {Rf : Nat → Nat → Option Nat} {K : Nat → Nat × Nat} {n z : Nat} {Q : Option sm_V → sm_S → Prop} : sm_wp (d + 1) 144 103 [some (.inr (some r0)), l1, l2] [] (Z, Rf, K, n, z) Q = ((K r0).1 = 11 ∧ sm_call d 143 [.inr (some r0)] (Z, Rf, K, n, z) (sm_cont (d + 1) 144 108 [some (.inr (some r0)), l1, l2] [.inr (some r0)] Q)) := (w_aload_n t144_103 rfl rfl).trans ((w_aload_n t144_104 rfl rfl).trans (w_callV t144_105 rfl rfl rfl rfl (Nat.le_of_ble_eq_true rfl) (Nat.le_of_ble_eq_true rfl) rfl (by decide)))
set_option maxRecDepth 10000 in
theorem b144_108 {d : Nat} {l0 : Option sm_V} {l1 : Option sm_V} {l2 : Option sm_V} {rs0 : Nat} {s1 : Int} {Z : Nat → Nat → Int} {Rf : Nat → Nat → Option Nat} {K : Nat → Nat × Nat} {n z : Nat} {Q : Option sm_V → sm_S → Prop} : sm_wp d 144 108 [l0, l1, l2] [.inl s1, .inr (some rs0)] (Z, Rf, K, n, z) Q = ((K rs0).1 = 11 ∧ sm_wp d 144 306 [l0, l1, l2] [] (sm_u Z rs0 16 s1, Rf, K, n, z) Q) := (w_putI t144_108 rfl (by decide)).trans (congrArg (And _) (w_goto t144_111 rfl))
set_option maxRecDepth 10000 in
theorem b144_114 {d : Nat} {l0 : Option sm_V} {x1 : Int} {l2 : Option sm_V} {Z : Nat → Nat → Int} {Rf : Nat → Nat → Option Nat} {K : Nat → Nat × Nat} {n z : Nat} {Q : Option sm_V → sm_S → Prop} : sm_wp (d + 1) 144 114 [l0, some (.inl x1), l2] [] (Z, Rf, K, n, z) Q = (sm_call d 140 [.inl x1] (Z, Rf, K, n, z) (sm_cont (d + 1) 144 118 [l0, some (.inl x1), l2] [] Q)) := (w_iload_n t144_114 rfl rfl).trans (w_callS t144_115 rfl rfl rfl rfl (Nat.le_of_ble_eq_true rfl) (Nat.le_of_ble_eq_true rfl) rfl)
set_option maxRecDepth 10000 in
theorem b144_118 {d : Nat} {l0 : Option sm_V} {l1 : Option sm_V} {l2 : Option sm_V} {s0 : Int} {Z : Nat → Nat → Int} {Rf : Nat → Nat → Option Nat} {K : Nat → Nat × Nat} {n z : Nat} {Q : Option sm_V → sm_S → Prop} : sm_wp d 144 118 [l0, l1, l2] [.inl s0] (Z, Rf, K, n, z) Q = (if wr s0 = 0 then sm_wp d 144 214 [l0, l1, l2] [] (Z, Rf, K, n, z) Q else sm_wp d 144 121 [l0, l1, l2] [] (Z, Rf, K, n, z) Q) := w_ifeq t144_118 rfl rfl rfl
set_option maxRecDepth 10000 in
theorem b144_121 {d : Nat} {r0 : Nat} {l1 : Option sm_V} {l2 : Option sm_V} {Z : Nat → Nat → Int} {Rf : Nat → Nat → Option Nat} {K : Nat → Nat × Nat} {n z : Nat} {Q : Option sm_V → sm_S → Prop} : sm_wp d 144 121 [some (.inr (some r0)), l1, l2] [] (Z, Rf, K, n, z) Q = ((K r0).1 = 11 ∧ sm_wp d 144 126 [some (.inr (some r0)), l1, l2] [] (sm_u Z r0 18 0, Rf, K, n, z) Q) := (w_aload_n t144_121 rfl rfl).trans ((w_iconst t144_122 rfl).trans ((w_putI t144_123 rfl (by decide)).trans (congrArg (And _) rfl)))
set_option maxRecDepth 10000 in
theorem b144_126 {d : Nat} {r0 : Nat} {l1 : Option sm_V} {l2 : Option sm_V} {Z : Nat → Nat → Int} {Rf : Nat → Nat → Option Nat} {K : Nat → Nat × Nat} {n z : Nat} {Q : Option sm_V → sm_S → Prop} : sm_wp (d + 1) 144 126 [some (.inr (some r0)), l1, l2] [] (Z, Rf, K, n, z) Q = ((K r0).1 = 11 ∧ (K r0).1 = 11 ∧ sm_call d 138 [.inr (some r0), .inl (Z r0 15)] (Z, Rf, K, n, z) (sm_cont (d + 1) 144 134 [some (.inr (some r0)), l1, l2] [] Q)) := (w_aload_n t144_126 rfl rfl).trans ((w_aload_n t144_127 rfl rfl).trans ((w_getI t144_128 rfl (by decide)).trans (congrArg (And _) (w_callV t144_131 rfl rfl rfl rfl (Nat.le_of_ble_eq_true rfl) (Nat.le_of_ble_eq_true rfl) rfl (by decide)))))
set_option maxRecDepth 10000 in
theorem b144_134 {d : Nat} {l0 : Option sm_V} {l1 : Option sm_V} {l2 : Option sm_V} {s0 : Int} {Z : Nat → Nat → Int} {Rf : Nat → Nat → Option Nat} {K : Nat → Nat × Nat} {n z : Nat} {Q : Option sm_V → sm_S → Prop} : sm_wp (d + 1) 144 134 [l0, l1, l2] [.inl s0] (Z, Rf, K, n, z) Q = (sm_call d 140 [.inl s0] (Z, Rf, K, n, z) (sm_cont (d + 1) 144 137 [l0, l1, l2] [] Q)) := w_callS t144_134 rfl rfl rfl rfl (Nat.le_of_ble_eq_true rfl) (Nat.le_of_ble_eq_true rfl) rfl
set_option maxRecDepth 10000 in
theorem b144_137 {d : Nat} {l0 : Option sm_V} {l1 : Option sm_V} {l2 : Option sm_V} {s0 : Int} {Z : Nat → Nat → Int} {Rf : Nat → Nat → Option Nat} {K : Nat → Nat × Nat} {n z : Nat} {Q : Option sm_V → sm_S → Prop} : sm_wp d 144 137 [l0, l1, l2] [.inl s0] (Z, Rf, K, n, z) Q = (if wr s0 = 0 then sm_wp d 144 189 [l0, l1, l2] [] (Z, Rf, K, n, z) Q else sm_wp d 144 140 [l0, l1, l2] [] (Z, Rf, K, n, z) Q) := w_ifeq t144_137 rfl rfl rfl
set_option maxRecDepth 10000 in
theorem b144_140 {d : Nat} {r0 : Nat} {l1 : Option sm_V} {l2 : Option sm_V} {Z : Nat → Nat → Int} {Rf : Nat → Nat → Option Nat} {K : Nat → Nat × Nat} {n z : Nat} {Q : Option sm_V → sm_S → Prop} : sm_wp d 144 140 [some (.inr (some r0)), l1, l2] [] (Z, Rf, K, n, z) Q = ((K r0).1 = 11 ∧ (K r0).1 = 11 ∧ (if wr ((Z r0 17) + 4) ≤ wr (Z r0 15) then sm_wp d 144 176 [some (.inr (some r0)), l1, l2] [] (Z, Rf, K, n, z) Q else sm_wp d 144 153 [some (.inr (some r0)), l1, l2] [] (Z, Rf, K, n, z) Q)) := (w_aload_n t144_140 rfl rfl).trans ((w_getI t144_141 rfl (by decide)).trans (congrArg (And _) ((w_aload_n t144_144 rfl rfl).trans ((w_getI t144_145 rfl (by decide)).trans (congrArg (And _) ((w_iconst t144_148 rfl).trans ((w_iadd t144_149 rfl).trans (w_icge t144_150 rfl rfl rfl rfl))))))))
set_option maxRecDepth 10000 in
theorem b144_153 {d : Nat} {r0 : Nat} {l1 : Option sm_V} {l2 : Option sm_V} {Z : Nat → Nat → Int} {Rf : Nat → Nat → Option Nat} {K : Nat → Nat × Nat} {n z : Nat} {Q : Option sm_V → sm_S → Prop} : sm_wp (d + 1) 144 153 [some (.inr (some r0)), l1, l2] [] (Z, Rf, K, n, z) Q = ((K r0).1 = 11 ∧ (K r0).1 = 11 ∧ (K r0).1 = 11 ∧ sm_call d 138 [.inr (some r0), .inl (Z r0 15)] (Z, Rf, K, n, z) (sm_cont (d + 1) 144 169 [some (.inr (some r0)), l1, l2] [.inl (10 * (Z r0 18)), .inr (some r0)] Q)) := (w_aload_n t144_153 rfl rfl).trans ((w_bipush t144_154 rfl).trans ((w_aload_n t144_156 rfl rfl).trans ((w_getI t144_157 rfl (by decide)).trans (congrArg (And _) ((w_imul t144_160 rfl).trans ((w_aload_n t144_161 rfl rfl).trans ((w_aload_n t144_162 rfl rfl).trans ((w_getI t144_163 rfl (by decide)).trans (congrArg (And _) (w_callV t144_166 rfl rfl rfl rfl (Nat.le_of_ble_eq_true rfl) (Nat.le_of_ble_eq_true rfl) rfl (by decide)))))))))))
set_option maxRecDepth 10000 in
theorem b144_169 {d : Nat} {l0 : Option sm_V} {l1 : Option sm_V} {l2 : Option sm_V} {rs0 : Nat} {s1 : Int} {s2 : Int} {Z : Nat → Nat → Int} {Rf : Nat → Nat → Option Nat} {K : Nat → Nat × Nat} {n z : Nat} {Q : Option sm_V → sm_S → Prop} : sm_wp d 144 169 [l0, l1, l2] [.inl s2, .inl s1, .inr (some rs0)] (Z, Rf, K, n, z) Q = ((K rs0).1 = 11 ∧ sm_wp d 144 176 [l0, l1, l2] [] (sm_u Z rs0 18 ((s1 + s2) - 48), Rf, K, n, z) Q) := (w_iadd t144_169 rfl).trans ((w_bipush t144_170 rfl).trans ((w_isub t144_172 rfl).trans ((w_putI t144_173 rfl (by decide)).trans (congrArg (And _) rfl))))
set_option maxRecDepth 10000 in
theorem b144_176 {d : Nat} {r0 : Nat} {l1 : Option sm_V} {l2 : Option sm_V} {Z : Nat → Nat → Int} {Rf : Nat → Nat → Option Nat} {K : Nat → Nat × Nat} {n z : Nat} {Q : Option sm_V → sm_S → Prop} : sm_wp d 144 176 [some (.inr (some r0)), l1, l2] [] (Z, Rf, K, n, z) Q = ((K r0).1 = 11 ∧ (K r0).1 = 11 ∧ sm_wp d 144 126 [some (.inr (some r0)), l1, l2] [] (sm_u Z r0 15 ((Z r0 15) + 1), Rf, K, n, z) Q) := (w_aload_n t144_176 rfl rfl).trans ((w_dup t144_177 rfl).trans ((w_getI t144_178 rfl (by decide)).trans (congrArg (And _) ((w_iconst t144_181 rfl).trans ((w_iadd t144_182 rfl).trans ((w_putI t144_183 rfl (by decide)).trans (congrArg (And _) (w_goto t144_186 rfl))))))))
set_option maxRecDepth 10000 in
theorem b144_189 {d : Nat} {r0 : Nat} {l1 : Option sm_V} {l2 : Option sm_V} {Z : Nat → Nat → Int} {Rf : Nat → Nat → Option Nat} {K : Nat → Nat × Nat} {n z : Nat} {Q : Option sm_V → sm_S → Prop} : sm_wp d 144 189 [some (.inr (some r0)), l1, l2] [] (Z, Rf, K, n, z) Q = ((K r0).1 = 11 ∧ (K r0).1 = 11 ∧ (if (5 : Int) ≤ wr ((Z r0 15) - (Z r0 17)) then sm_wp d 144 207 [some (.inr (some r0)), l1, l2] [.inr (some r0)] (Z, Rf, K, n, z) Q else sm_wp d 144 203 [some (.inr (some r0)), l1, l2] [.inr (some r0)] (Z, Rf, K, n, z) Q)) := (w_aload_n t144_189 rfl rfl).trans ((w_aload_n t144_190 rfl rfl).trans ((w_getI t144_191 rfl (by decide)).trans (congrArg (And _) ((w_aload_n t144_194 rfl rfl).trans ((w_getI t144_195 rfl (by decide)).trans (congrArg (And _) ((w_isub t144_198 rfl).trans ((w_iconst t144_199 rfl).trans (w_icge t144_200 rfl wl_5 rfl rfl)))))))))
set_option maxRecDepth 10000 in
theorem b144_203 {d : Nat} {l0 : Option sm_V} {l1 : Option sm_V} {l2 : Option sm_V} {qs0 : Option Nat} {Z : Nat → Nat → Int} {Rf : Nat → Nat → Option Nat} {K : Nat → Nat × Nat} {n z : Nat} {Q : Option sm_V → sm_S → Prop} : sm_wp d 144 203 [l0, l1, l2] [.inr qs0] (Z, Rf, K, n, z) Q = (sm_wp d 144 208 [l0, l1, l2] [.inl 2, .inr qs0] (Z, Rf, K, n, z) Q) := (w_iconst t144_203 rfl).trans (w_goto t144_204 rfl)
set_option maxRecDepth 10000 in
theorem b144_207 {d : Nat} {l0 : Option sm_V} {l1 : Option sm_V} {l2 : Option sm_V} {qs0 : Option Nat} {Z : Nat → Nat → Int} {Rf : Nat → Nat → Option Nat} {K : Nat → Nat × Nat} {n z : Nat} {Q : Option sm_V → sm_S → Prop} : sm_wp d 144 207 [l0, l1, l2] [.inr qs0] (Z, Rf, K, n, z) Q = (sm_wp d 144 208 [l0, l1, l2] [.inl 1, .inr qs0] (Z, Rf, K, n, z) Q) := w_iconst t144_207 rfl
set_option maxRecDepth 10000 in
theorem b144_208 {d : Nat} {l0 : Option sm_V} {l1 : Option sm_V} {l2 : Option sm_V} {rs0 : Nat} {s1 : Int} {Z : Nat → Nat → Int} {Rf : Nat → Nat → Option Nat} {K : Nat → Nat × Nat} {n z : Nat} {Q : Option sm_V → sm_S → Prop} : sm_wp d 144 208 [l0, l1, l2] [.inl s1, .inr (some rs0)] (Z, Rf, K, n, z) Q = ((K rs0).1 = 11 ∧ sm_wp d 144 306 [l0, l1, l2] [] (sm_u Z rs0 16 s1, Rf, K, n, z) Q) := (w_putI t144_208 rfl (by decide)).trans (congrArg (And _) (w_goto t144_211 rfl))
set_option maxRecDepth 10000 in
theorem b144_214 {d : Nat} {r0 : Nat} {x1 : Int} {l2 : Option sm_V} {Z : Nat → Nat → Int} {Rf : Nat → Nat → Option Nat} {K : Nat → Nat × Nat} {n z : Nat} {Q : Option sm_V → sm_S → Prop} : sm_wp d 144 214 [some (.inr (some r0)), some (.inl x1), l2] [] (Z, Rf, K, n, z) Q = ((K r0).1 = 11 ∧ (K r0).1 = 11 ∧ (if wr x1 = (59 : Int) then sm_wp d 144 284 [some (.inr (some r0)), some (.inl x1), l2] [] (sm_u Z r0 15 ((Z r0 15) + 1), Rf, K, n, z) Q else sm_wp d 144 230 [some (.inr (some r0)), some (.inl x1), l2] [] (sm_u Z r0 15 ((Z r0 15) + 1), Rf, K, n, z) Q)) := (w_aload_n t144_214 rfl rfl).trans ((w_dup t144_215 rfl).trans ((w_getI t144_216 rfl (by decide)).trans (congrArg (And _) ((w_iconst t144_219 rfl).trans ((w_iadd t144_220 rfl).trans ((w_putI t144_221 rfl (by decide)).trans (congrArg (And _) ((w_iload_n t144_224 rfl rfl).trans ((w_bipush t144_225 rfl).trans (w_iceq t144_227 rfl wl_59 rfl rfl))))))))))
set_option maxRecDepth 10000 in
theorem b144_230 {d : Nat} {l0 : Option sm_V} {x1 : Int} {l2 : Option sm_V} {Z : Nat → Nat → Int} {Rf : Nat → Nat → Option Nat} {K : Nat → Nat × Nat} {n z : Nat} {Q : Option sm_V → sm_S → Prop} : sm_wp d 144 230 [l0, some (.inl x1), l2] [] (Z, Rf, K, n, z) Q = (if wr x1 = (43 : Int) then sm_wp d 144 284 [l0, some (.inl x1), l2] [] (Z, Rf, K, n, z) Q else sm_wp d 144 236 [l0, some (.inl x1), l2] [] (Z, Rf, K, n, z) Q) := (w_iload_n t144_230 rfl rfl).trans ((w_bipush t144_231 rfl).trans (w_iceq t144_233 rfl wl_43 rfl rfl))
set_option maxRecDepth 10000 in
theorem b144_236 {d : Nat} {l0 : Option sm_V} {x1 : Int} {l2 : Option sm_V} {Z : Nat → Nat → Int} {Rf : Nat → Nat → Option Nat} {K : Nat → Nat × Nat} {n z : Nat} {Q : Option sm_V → sm_S → Prop} : sm_wp d 144 236 [l0, some (.inl x1), l2] [] (Z, Rf, K, n, z) Q = (if wr x1 = (45 : Int) then sm_wp d 144 284 [l0, some (.inl x1), l2] [] (Z, Rf, K, n, z) Q else sm_wp d 144 242 [l0, some (.inl x1), l2] [] (Z, Rf, K, n, z) Q) := (w_iload_n t144_236 rfl rfl).trans ((w_bipush t144_237 rfl).trans (w_iceq t144_239 rfl wl_45 rfl rfl))
set_option maxRecDepth 10000 in
theorem b144_242 {d : Nat} {l0 : Option sm_V} {x1 : Int} {l2 : Option sm_V} {Z : Nat → Nat → Int} {Rf : Nat → Nat → Option Nat} {K : Nat → Nat × Nat} {n z : Nat} {Q : Option sm_V → sm_S → Prop} : sm_wp d 144 242 [l0, some (.inl x1), l2] [] (Z, Rf, K, n, z) Q = (if wr x1 = (42 : Int) then sm_wp d 144 284 [l0, some (.inl x1), l2] [] (Z, Rf, K, n, z) Q else sm_wp d 144 248 [l0, some (.inl x1), l2] [] (Z, Rf, K, n, z) Q) := (w_iload_n t144_242 rfl rfl).trans ((w_bipush t144_243 rfl).trans (w_iceq t144_245 rfl wl_42 rfl rfl))
set_option maxRecDepth 10000 in
theorem b144_248 {d : Nat} {l0 : Option sm_V} {x1 : Int} {l2 : Option sm_V} {Z : Nat → Nat → Int} {Rf : Nat → Nat → Option Nat} {K : Nat → Nat × Nat} {n z : Nat} {Q : Option sm_V → sm_S → Prop} : sm_wp d 144 248 [l0, some (.inl x1), l2] [] (Z, Rf, K, n, z) Q = (if wr x1 = (47 : Int) then sm_wp d 144 284 [l0, some (.inl x1), l2] [] (Z, Rf, K, n, z) Q else sm_wp d 144 254 [l0, some (.inl x1), l2] [] (Z, Rf, K, n, z) Q) := (w_iload_n t144_248 rfl rfl).trans ((w_bipush t144_249 rfl).trans (w_iceq t144_251 rfl wl_47 rfl rfl))
set_option maxRecDepth 10000 in
theorem b144_254 {d : Nat} {l0 : Option sm_V} {x1 : Int} {l2 : Option sm_V} {Z : Nat → Nat → Int} {Rf : Nat → Nat → Option Nat} {K : Nat → Nat × Nat} {n z : Nat} {Q : Option sm_V → sm_S → Prop} : sm_wp d 144 254 [l0, some (.inl x1), l2] [] (Z, Rf, K, n, z) Q = (if wr x1 = (40 : Int) then sm_wp d 144 284 [l0, some (.inl x1), l2] [] (Z, Rf, K, n, z) Q else sm_wp d 144 260 [l0, some (.inl x1), l2] [] (Z, Rf, K, n, z) Q) := (w_iload_n t144_254 rfl rfl).trans ((w_bipush t144_255 rfl).trans (w_iceq t144_257 rfl wl_40 rfl rfl))
set_option maxRecDepth 10000 in
theorem b144_260 {d : Nat} {l0 : Option sm_V} {x1 : Int} {l2 : Option sm_V} {Z : Nat → Nat → Int} {Rf : Nat → Nat → Option Nat} {K : Nat → Nat × Nat} {n z : Nat} {Q : Option sm_V → sm_S → Prop} : sm_wp d 144 260 [l0, some (.inl x1), l2] [] (Z, Rf, K, n, z) Q = (if wr x1 = (41 : Int) then sm_wp d 144 284 [l0, some (.inl x1), l2] [] (Z, Rf, K, n, z) Q else sm_wp d 144 266 [l0, some (.inl x1), l2] [] (Z, Rf, K, n, z) Q) := (w_iload_n t144_260 rfl rfl).trans ((w_bipush t144_261 rfl).trans (w_iceq t144_263 rfl wl_41 rfl rfl))
set_option maxRecDepth 10000 in
theorem b144_266 {d : Nat} {l0 : Option sm_V} {x1 : Int} {l2 : Option sm_V} {Z : Nat → Nat → Int} {Rf : Nat → Nat → Option Nat} {K : Nat → Nat × Nat} {n z : Nat} {Q : Option sm_V → sm_S → Prop} : sm_wp d 144 266 [l0, some (.inl x1), l2] [] (Z, Rf, K, n, z) Q = (if wr x1 = (60 : Int) then sm_wp d 144 284 [l0, some (.inl x1), l2] [] (Z, Rf, K, n, z) Q else sm_wp d 144 272 [l0, some (.inl x1), l2] [] (Z, Rf, K, n, z) Q) := (w_iload_n t144_266 rfl rfl).trans ((w_bipush t144_267 rfl).trans (w_iceq t144_269 rfl wl_60 rfl rfl))
set_option maxRecDepth 10000 in
theorem b144_272 {d : Nat} {l0 : Option sm_V} {x1 : Int} {l2 : Option sm_V} {Z : Nat → Nat → Int} {Rf : Nat → Nat → Option Nat} {K : Nat → Nat × Nat} {n z : Nat} {Q : Option sm_V → sm_S → Prop} : sm_wp d 144 272 [l0, some (.inl x1), l2] [] (Z, Rf, K, n, z) Q = (if wr x1 = (61 : Int) then sm_wp d 144 284 [l0, some (.inl x1), l2] [] (Z, Rf, K, n, z) Q else sm_wp d 144 278 [l0, some (.inl x1), l2] [] (Z, Rf, K, n, z) Q) := (w_iload_n t144_272 rfl rfl).trans ((w_bipush t144_273 rfl).trans (w_iceq t144_275 rfl wl_61 rfl rfl))
set_option maxRecDepth 10000 in
theorem b144_278 {d : Nat} {l0 : Option sm_V} {x1 : Int} {l2 : Option sm_V} {Z : Nat → Nat → Int} {Rf : Nat → Nat → Option Nat} {K : Nat → Nat × Nat} {n z : Nat} {Q : Option sm_V → sm_S → Prop} : sm_wp d 144 278 [l0, some (.inl x1), l2] [] (Z, Rf, K, n, z) Q = (if wr x1 = (62 : Int) then sm_wp d 144 284 [l0, some (.inl x1), l2] [] (Z, Rf, K, n, z) Q else sm_wp d 144 288 [l0, some (.inl x1), l2] [] (Z, Rf, K, n, z) Q) := (w_iload_n t144_278 rfl rfl).trans ((w_bipush t144_279 rfl).trans (w_icne t144_281 rfl wl_62 rfl rfl))
set_option maxRecDepth 10000 in
theorem b144_284 {d : Nat} {l0 : Option sm_V} {l1 : Option sm_V} {l2 : Option sm_V} {Z : Nat → Nat → Int} {Rf : Nat → Nat → Option Nat} {K : Nat → Nat × Nat} {n z : Nat} {Q : Option sm_V → sm_S → Prop} : sm_wp d 144 284 [l0, l1, l2] [] (Z, Rf, K, n, z) Q = (sm_wp d 144 289 [l0, l1, l2] [.inl 1] (Z, Rf, K, n, z) Q) := (w_iconst t144_284 rfl).trans (w_goto t144_285 rfl)
set_option maxRecDepth 10000 in
theorem b144_288 {d : Nat} {l0 : Option sm_V} {l1 : Option sm_V} {l2 : Option sm_V} {Z : Nat → Nat → Int} {Rf : Nat → Nat → Option Nat} {K : Nat → Nat × Nat} {n z : Nat} {Q : Option sm_V → sm_S → Prop} : sm_wp d 144 288 [l0, l1, l2] [] (Z, Rf, K, n, z) Q = (sm_wp d 144 289 [l0, l1, l2] [.inl 0] (Z, Rf, K, n, z) Q) := w_iconst t144_288 rfl
set_option maxRecDepth 10000 in
theorem b144_289 {d : Nat} {q0 : Option Nat} {l1 : Option sm_V} {l2 : Option sm_V} {s0 : Int} {Z : Nat → Nat → Int} {Rf : Nat → Nat → Option Nat} {K : Nat → Nat × Nat} {n z : Nat} {Q : Option sm_V → sm_S → Prop} : sm_wp d 144 289 [some (.inr q0), l1, l2] [.inl s0] (Z, Rf, K, n, z) Q = (if wr s0 = 0 then sm_wp d 144 302 [some (.inr q0), l1, some (.inl s0)] [.inr q0] (Z, Rf, K, n, z) Q else sm_wp d 144 295 [some (.inr q0), l1, some (.inl s0)] [.inr q0] (Z, Rf, K, n, z) Q) := (w_istore_n t144_289 rfl (Nat.le_of_ble_eq_true rfl) rfl).trans ((w_aload_n t144_290 rfl rfl).trans ((w_iload_n t144_291 rfl rfl).trans (w_ifeq t144_292 rfl rfl rfl)))
set_option maxRecDepth 10000 in
theorem b144_295 {d : Nat} {l0 : Option sm_V} {x1 : Int} {l2 : Option sm_V} {qs0 : Option Nat} {Z : Nat → Nat → Int} {Rf : Nat → Nat → Option Nat} {K : Nat → Nat × Nat} {n z : Nat} {Q : Option sm_V → sm_S → Prop} : sm_wp d 144 295 [l0, some (.inl x1), l2] [.inr qs0] (Z, Rf, K, n, z) Q = (sm_wp d 144 303 [l0, some (.inl x1), l2] [.inl (100 + x1), .inr qs0] (Z, Rf, K, n, z) Q) := (w_bipush t144_295 rfl).trans ((w_iload_n t144_297 rfl rfl).trans ((w_iadd t144_298 rfl).trans (w_goto t144_299 rfl)))
set_option maxRecDepth 10000 in
theorem b144_302 {d : Nat} {l0 : Option sm_V} {l1 : Option sm_V} {l2 : Option sm_V} {qs0 : Option Nat} {Z : Nat → Nat → Int} {Rf : Nat → Nat → Option Nat} {K : Nat → Nat × Nat} {n z : Nat} {Q : Option sm_V → sm_S → Prop} : sm_wp d 144 302 [l0, l1, l2] [.inr qs0] (Z, Rf, K, n, z) Q = (sm_wp d 144 303 [l0, l1, l2] [.inl 1, .inr qs0] (Z, Rf, K, n, z) Q) := w_iconst t144_302 rfl
set_option maxRecDepth 10000 in
theorem b144_303 {d : Nat} {l0 : Option sm_V} {l1 : Option sm_V} {l2 : Option sm_V} {rs0 : Nat} {s1 : Int} {Z : Nat → Nat → Int} {Rf : Nat → Nat → Option Nat} {K : Nat → Nat × Nat} {n z : Nat} {Q : Option sm_V → sm_S → Prop} : sm_wp d 144 303 [l0, l1, l2] [.inl s1, .inr (some rs0)] (Z, Rf, K, n, z) Q = ((K rs0).1 = 11 ∧ sm_wp d 144 306 [l0, l1, l2] [] (sm_u Z rs0 16 s1, Rf, K, n, z) Q) := (w_putI t144_303 rfl (by decide)).trans (congrArg (And _) rfl)
set_option maxRecDepth 10000 in
theorem b144_306 {d : Nat} {l0 : Option sm_V} {l1 : Option sm_V} {l2 : Option sm_V} {Z : Nat → Nat → Int} {Rf : Nat → Nat → Option Nat} {K : Nat → Nat × Nat} {n z : Nat} {Q : Option sm_V → sm_S → Prop} : sm_wp d 144 306 [l0, l1, l2] [] (Z, Rf, K, n, z) Q = (Q none (Z, Rf, K, n, z)) := w_vret t144_306
theorem t145_0 : sm_at 145 0 = some (1, .aload_n 0, 0, 0, 0) := rfl
theorem t145_1 : sm_at 145 1 = some (1, .iload_n 1, 0, 0, 0) := rfl
theorem t145_2 : sm_at 145 2 = some (3, .putfield 176, 11, 19, 0) := rfl
theorem t145_5 : sm_at 145 5 = some (1, .aload_n 0, 0, 0, 0) := rfl
theorem t145_6 : sm_at 145 6 = some (1, .aload_n 0, 0, 0, 0) := rfl
theorem t145_7 : sm_at 145 7 = some (3, .getfield 102, 11, 17, 0) := rfl
theorem t145_10 : sm_at 145 10 = some (3, .putfield 179, 11, 20, 0) := rfl
theorem t145_13 : sm_at 145 13 = some (1, .iconst 0, 0, 0, 0) := rfl
theorem t145_14 : sm_at 145 14 = some (1, .ireturn, 1, 0, 0) := rfl
set_option maxRecDepth 10000 in
theorem b145_0 {d : Nat} {r0 : Nat} {x1 : Int} {Z : Nat → Nat → Int} {Rf : Nat → Nat → Option Nat} {K : Nat → Nat × Nat} {n z : Nat} {Q : Option sm_V → sm_S → Prop} : sm_wp d 145 0 [some (.inr (some r0)), some (.inl x1)] [] (Z, Rf, K, n, z) Q = ((K r0).1 = 11 ∧ (K r0).1 = 11 ∧ (K r0).1 = 11 ∧ ((0 : Int) = 0 ∨ (0 : Int) = 1) ∧ Q (some (.inl 0)) (sm_u (sm_u Z r0 19 x1) r0 20 ((sm_u Z r0 19 x1) r0 17), Rf, K, n, z)) := (w_aload_n t145_0 rfl rfl).trans ((w_iload_n t145_1 rfl rfl).trans ((w_putI t145_2 rfl (by decide)).trans (congrArg (And _) ((w_aload_n t145_5 rfl rfl).trans ((w_aload_n t145_6 rfl rfl).trans ((w_getI t145_7 rfl (by decide)).trans (congrArg (And _) ((w_putI t145_10 rfl (by decide)).trans (congrArg (And _) ((w_iconst t145_13 rfl).trans (w_zret t145_14 wl_0)))))))))))
theorem t146_0 : sm_at 146 0 = some (1, .aload_n 0, 0, 0, 0) := rfl
theorem t146_1 : sm_at 146 1 = some (3, .getfield 161, 11, 16, 0) := rfl
theorem t146_4 : sm_at 146 4 = some (1, .iload_n 1, 0, 0, 0) := rfl
theorem t146_5 : sm_at 146 5 = some (3, .if_icmp .eq 9, 0, 0, 0) := rfl
theorem t146_8 : sm_at 146 8 = some (1, .aload_n 0, 0, 0, 0) := rfl
theorem t146_9 : sm_at 146 9 = some (1, .iconst 1, 0, 0, 0) := rfl
theorem t146_10 : sm_at 146 10 = some (3, .invokevirtual 182, 145, 2, 0) := rfl
theorem t146_13 : sm_at 146 13 = some (1, .ireturn, 1, 0, 0) := rfl
theorem t146_14 : sm_at 146 14 = some (1, .aload_n 0, 0, 0, 0) := rfl
theorem t146_15 : sm_at 146 15 = some (3, .invokevirtual 185, 144, 1, 0) := rfl
theorem t146_18 : sm_at 146 18 = some (1, .iconst 1, 0, 0, 0) := rfl
theorem t146_19 : sm_at 146 19 = some (1, .ireturn, 1, 0, 0) := rfl
set_option maxRecDepth 10000 in
theorem b146_0 {d : Nat} {r0 : Nat} {x1 : Int} {Z : Nat → Nat → Int} {Rf : Nat → Nat → Option Nat} {K : Nat → Nat × Nat} {n z : Nat} {Q : Option sm_V → sm_S → Prop} : sm_wp d 146 0 [some (.inr (some r0)), some (.inl x1)] [] (Z, Rf, K, n, z) Q = ((K r0).1 = 11 ∧ (if wr (Z r0 16) = wr x1 then sm_wp d 146 14 [some (.inr (some r0)), some (.inl x1)] [] (Z, Rf, K, n, z) Q else sm_wp d 146 8 [some (.inr (some r0)), some (.inl x1)] [] (Z, Rf, K, n, z) Q)) := (w_aload_n t146_0 rfl rfl).trans ((w_getI t146_1 rfl (by decide)).trans (congrArg (And _) ((w_iload_n t146_4 rfl rfl).trans (w_iceq t146_5 rfl rfl rfl rfl))))
set_option maxRecDepth 10000 in
theorem b146_8 {d : Nat} {r0 : Nat} {l1 : Option sm_V} {Z : Nat → Nat → Int} {Rf : Nat → Nat → Option Nat} {K : Nat → Nat × Nat} {n z : Nat} {Q : Option sm_V → sm_S → Prop} : sm_wp (d + 1) 146 8 [some (.inr (some r0)), l1] [] (Z, Rf, K, n, z) Q = ((K r0).1 = 11 ∧ sm_call d 145 [.inr (some r0), .inl 1] (Z, Rf, K, n, z) (sm_cont (d + 1) 146 13 [some (.inr (some r0)), l1] [] Q)) := (w_aload_n t146_8 rfl rfl).trans ((w_iconst t146_9 rfl).trans (w_callV t146_10 rfl rfl rfl rfl (Nat.le_of_ble_eq_true rfl) (Nat.le_of_ble_eq_true rfl) rfl (by decide)))
set_option maxRecDepth 10000 in
theorem b146_13 {d : Nat} {l0 : Option sm_V} {l1 : Option sm_V} {s0 : Int} {Z : Nat → Nat → Int} {Rf : Nat → Nat → Option Nat} {K : Nat → Nat × Nat} {n z : Nat} {Q : Option sm_V → sm_S → Prop} : sm_wp d 146 13 [l0, l1] [.inl s0] (Z, Rf, K, n, z) Q = ((wr s0 = 0 ∨ wr s0 = 1) ∧ Q (some (.inl s0)) (Z, Rf, K, n, z)) := w_zret t146_13 rfl
set_option maxRecDepth 10000 in
theorem b146_14 {d : Nat} {r0 : Nat} {l1 : Option sm_V} {Z : Nat → Nat → Int} {Rf : Nat → Nat → Option Nat} {K : Nat → Nat × Nat} {n z : Nat} {Q : Option sm_V → sm_S → Prop} : sm_wp (d + 1) 146 14 [some (.inr (some r0)), l1] [] (Z, Rf, K, n, z) Q = ((K r0).1 = 11 ∧ sm_call d 144 [.inr (some r0)] (Z, Rf, K, n, z) (sm_cont (d + 1) 146 18 [some (.inr (some r0)), l1] [] Q)) := (w_aload_n t146_14 rfl rfl).trans (w_callV t146_15 rfl rfl rfl rfl (Nat.le_of_ble_eq_true rfl) (Nat.le_of_ble_eq_true rfl) rfl (by decide))
set_option maxRecDepth 10000 in
theorem b146_18 {d : Nat} {l0 : Option sm_V} {l1 : Option sm_V} {Z : Nat → Nat → Int} {Rf : Nat → Nat → Option Nat} {K : Nat → Nat × Nat} {n z : Nat} {Q : Option sm_V → sm_S → Prop} : sm_wp d 146 18 [l0, l1] [] (Z, Rf, K, n, z) Q = (((1 : Int) = 0 ∨ (1 : Int) = 1) ∧ Q (some (.inl 1)) (Z, Rf, K, n, z)) := (w_iconst t146_18 rfl).trans (w_zret t146_19 wl_1)
theorem t147_0 : sm_at 147 0 = some (1, .aload_n 0, 0, 0, 0) := rfl
theorem t147_1 : sm_at 147 1 = some (3, .getfield 25, 11, 8, 0) := rfl
theorem t147_4 : sm_at 147 4 = some (1, .iconst 2, 0, 0, 0) := rfl
theorem t147_5 : sm_at 147 5 = some (1, .aload_n 0, 0, 0, 0) := rfl
theorem t147_6 : sm_at 147 6 = some (3, .getfield 188, 11, 13, 0) := rfl
theorem t147_9 : sm_at 147 9 = some (1, .imul, 0, 0, 0) := rfl
theorem t147_10 : sm_at 147 10 = some (1, .iload_n 1, 0, 0, 0) := rfl
theorem t147_11 : sm_at 147 11 = some (1, .iastore, 0, 0, 0) := rfl
theorem t147_12 : sm_at 147 12 = some (1, .aload_n 0, 0, 0, 0) := rfl
theorem t147_13 : sm_at 147 13 = some (3, .getfield 25, 11, 8, 0) := rfl
theorem t147_16 : sm_at 147 16 = some (1, .iconst 2, 0, 0, 0) := rfl
theorem t147_17 : sm_at 147 17 = some (1, .aload_n 0, 0, 0, 0) := rfl
theorem t147_18 : sm_at 147 18 = some (3, .getfield 188, 11, 13, 0) := rfl
theorem t147_21 : sm_at 147 21 = some (1, .imul, 0, 0, 0) := rfl
theorem t147_22 : sm_at 147 22 = some (1, .iconst 1, 0, 0, 0) := rfl
theorem t147_23 : sm_at 147 23 = some (1, .iadd, 0, 0, 0) := rfl
theorem t147_24 : sm_at 147 24 = some (1, .iload_n 2, 0, 0, 0) := rfl
theorem t147_25 : sm_at 147 25 = some (1, .iastore, 0, 0, 0) := rfl
theorem t147_26 : sm_at 147 26 = some (1, .aload_n 0, 0, 0, 0) := rfl
theorem t147_27 : sm_at 147 27 = some (1, .dup, 0, 0, 0) := rfl
theorem t147_28 : sm_at 147 28 = some (3, .getfield 188, 11, 13, 0) := rfl
theorem t147_31 : sm_at 147 31 = some (1, .iconst 1, 0, 0, 0) := rfl
theorem t147_32 : sm_at 147 32 = some (1, .iadd, 0, 0, 0) := rfl
theorem t147_33 : sm_at 147 33 = some (3, .putfield 188, 11, 13, 0) := rfl
theorem t147_36 : sm_at 147 36 = some (1, .return_, 0, 0, 0) := rfl
set_option maxRecDepth 10000 in
theorem b147_0 {d : Nat} {r0 : Nat} {x1 : Int} {x2 : Int} {Z : Nat → Nat → Int} {Rf : Nat → Nat → Option Nat} {K : Nat → Nat × Nat} {n z : Nat} {Q : Option sm_V → sm_S → Prop} : sm_wp d 147 0 [some (.inr (some r0)), some (.inl x1), some (.inl x2)] [] (Z, Rf, K, n, z) Q = ((K r0).1 = 11 ∧ (Rf r0 8).isSome = true ∧ (K r0).1 = 11 ∧ sm_wt (K (((Rf r0 8).getD 0))) (wr (2 * (Z r0 13))) ∧ (K r0).1 = 11 ∧ (Rf r0 8).isSome = true ∧ (K r0).1 = 11 ∧ sm_wt (K (((Rf r0 8).getD 0))) (wr ((2 * ((sm_u Z (((Rf r0 8).getD 0)) ((wr (2 * (Z r0 13))).toNat) x1) r0 13)) + 1)) ∧ (K r0).1 = 11 ∧ (K r0).1 = 11 ∧ Q none (sm_u (sm_u (sm_u Z (((Rf r0 8).getD 0)) ((wr (2 * (Z r0 13))).toNat) x1) (((Rf r0 8).getD 0)) ((wr ((2 * ((sm_u Z (((Rf r0 8).getD 0)) ((wr (2 * (Z r0 13))).toNat) x1) r0 13)) + 1)).toNat) x2) r0 13 (((sm_u (sm_u Z (((Rf r0 8).getD 0)) ((wr (2 * (Z r0 13))).toNat) x1) (((Rf r0 8).getD 0)) ((wr ((2 * ((sm_u Z (((Rf r0 8).getD 0)) ((wr (2 * (Z r0 13))).toNat) x1) r0 13)) + 1)).toNat) x2) r0 13) + 1), Rf, K, n, z)) := (w_aload_n t147_0 rfl rfl).trans ((w_getR t147_1 rfl (by decide)).trans (congrArg (And _) (congrArg (And _) ((w_iconst t147_4 rfl).trans ((w_aload_n t147_5 rfl rfl).trans ((w_getI t147_6 rfl (by decide)).trans (congrArg (And _) ((w_imul t147_9 rfl).trans ((w_iload_n t147_10 rfl rfl).trans ((w_iast t147_11 rfl rfl).trans (congrArg (And _) ((w_aload_n t147_12 rfl rfl).trans ((w_getR t147_13 rfl (by decide)).trans (congrArg (And _) (congrArg (And _) ((w_iconst t147_16 rfl).trans ((w_aload_n t147_17 rfl rfl).trans ((w_getI t147_18 rfl (by decide)).trans (congrArg (And _) ((w_imul t147_21 rfl).trans ((w_iconst t147_22 rfl).trans ((w_iadd t147_23 rfl).trans ((w_iload_n t147_24 rfl rfl).trans ((w_iast t147_25 rfl rfl).trans (congrArg (And _) ((w_aload_n t147_26 rfl rfl).trans ((w_dup t147_27 rfl).trans ((w_getI t147_28 rfl (by decide)).trans (congrArg (And _) ((w_iconst t147_31 rfl).trans ((w_iadd t147_32 rfl).trans ((w_putI t147_33 rfl (by decide)).trans (congrArg (And _) (w_vret t147_36))))))))))))))))))))))))))))))))))
theorem t148_0 : sm_at 148 0 = some (1, .aload_n 0, 0, 0, 0) := rfl
theorem t148_1 : sm_at 148 1 = some (3, .getfield 191, 11, 22, 0) := rfl
theorem t148_4 : sm_at 148 4 = some (2, .bipush 8, 0, 0, 0) := rfl
theorem t148_6 : sm_at 148 6 = some (3, .if_icmp .ne 9, 0, 0, 0) := rfl
theorem t148_9 : sm_at 148 9 = some (1, .aload_n 0, 0, 0, 0) := rfl
theorem t148_10 : sm_at 148 10 = some (1, .iconst 3, 0, 0, 0) := rfl
theorem t148_11 : sm_at 148 11 = some (3, .invokevirtual 182, 145, 2, 0) := rfl
theorem t148_14 : sm_at 148 14 = some (1, .ireturn, 1, 0, 0) := rfl
theorem t148_15 : sm_at 148 15 = some (1, .aload_n 0, 0, 0, 0) := rfl
theorem t148_16 : sm_at 148 16 = some (1, .dup, 0, 0, 0) := rfl
theorem t148_17 : sm_at 148 17 = some (3, .getfield 191, 11, 22, 0) := rfl
theorem t148_20 : sm_at 148 20 = some (1, .iconst 1, 0, 0, 0) := rfl
theorem t148_21 : sm_at 148 21 = some (1, .iadd, 0, 0, 0) := rfl
theorem t148_22 : sm_at 148 22 = some (3, .putfield 191, 11, 22, 0) := rfl
theorem t148_25 : sm_at 148 25 = some (1, .aload_n 0, 0, 0, 0) := rfl
theorem t148_26 : sm_at 148 26 = some (3, .invokevirtual 185, 144, 1, 0) := rfl
theorem t148_29 : sm_at 148 29 = some (1, .iconst 1, 0, 0, 0) := rfl
theorem t148_30 : sm_at 148 30 = some (1, .ireturn, 1, 0, 0) := rfl
set_option maxRecDepth 10000 in
theorem b148_0 {d : Nat} {r0 : Nat} {Z : Nat → Nat → Int} {Rf : Nat → Nat → Option Nat} {K : Nat → Nat × Nat} {n z : Nat} {Q : Option sm_V → sm_S → Prop} : sm_wp d 148 0 [some (.inr (some r0))] [] (Z, Rf, K, n, z) Q = ((K r0).1 = 11 ∧ (if wr (Z r0 22) = (8 : Int) then sm_wp d 148 9 [some (.inr (some r0))] [] (Z, Rf, K, n, z) Q else sm_wp d 148 15 [some (.inr (some r0))] [] (Z, Rf, K, n, z) Q)) := (w_aload_n t148_0 rfl rfl).trans ((w_getI t148_1 rfl (by decide)).trans (congrArg (And _) ((w_bipush t148_4 rfl).trans (w_icne t148_6 rfl wl_8 rfl rfl))))
set_option maxRecDepth 10000 in
theorem b148_9 {d : Nat} {r0 : Nat} {Z : Nat → Nat → Int} {Rf : Nat → Nat → Option Nat} {K : Nat → Nat × Nat} {n z : Nat} {Q : Option sm_V → sm_S → Prop} : sm_wp (d + 1) 148 9 [some (.inr (some r0))] [] (Z, Rf, K, n, z) Q = ((K r0).1 = 11 ∧ sm_call d 145 [.inr (some r0), .inl 3] (Z, Rf, K, n, z) (sm_cont (d + 1) 148 14 [some (.inr (some r0))] [] Q)) := (w_aload_n t148_9 rfl rfl).trans ((w_iconst t148_10 rfl).trans (w_callV t148_11 rfl rfl rfl rfl (Nat.le_of_ble_eq_true rfl) (Nat.le_of_ble_eq_true rfl) rfl (by decide)))
set_option maxRecDepth 10000 in
theorem b148_14 {d : Nat} {l0 : Option sm_V} {s0 : Int} {Z : Nat → Nat → Int} {Rf : Nat → Nat → Option Nat} {K : Nat → Nat × Nat} {n z : Nat} {Q : Option sm_V → sm_S → Prop} : sm_wp d 148 14 [l0] [.inl s0] (Z, Rf, K, n, z) Q = ((wr s0 = 0 ∨ wr s0 = 1) ∧ Q (some (.inl s0)) (Z, Rf, K, n, z)) := w_zret t148_14 rfl
set_option maxRecDepth 10000 in
theorem b148_15 {d : Nat} {r0 : Nat} {Z : Nat → Nat → Int} {Rf : Nat → Nat → Option Nat} {K : Nat → Nat × Nat} {n z : Nat} {Q : Option sm_V → sm_S → Prop} : sm_wp (d + 1) 148 15 [some (.inr (some r0))] [] (Z, Rf, K, n, z) Q = ((K r0).1 = 11 ∧ (K r0).1 = 11 ∧ (K r0).1 = 11 ∧ sm_call d 144 [.inr (some r0)] (sm_u Z r0 22 ((Z r0 22) + 1), Rf, K, n, z) (sm_cont (d + 1) 148 29 [some (.inr (some r0))] [] Q)) := (w_aload_n t148_15 rfl rfl).trans ((w_dup t148_16 rfl).trans ((w_getI t148_17 rfl (by decide)).trans (congrArg (And _) ((w_iconst t148_20 rfl).trans ((w_iadd t148_21 rfl).trans ((w_putI t148_22 rfl (by decide)).trans (congrArg (And _) ((w_aload_n t148_25 rfl rfl).trans (w_callV t148_26 rfl rfl rfl rfl (Nat.le_of_ble_eq_true rfl) (Nat.le_of_ble_eq_true rfl) rfl (by decide))))))))))
set_option maxRecDepth 10000 in
theorem b148_29 {d : Nat} {l0 : Option sm_V} {Z : Nat → Nat → Int} {Rf : Nat → Nat → Option Nat} {K : Nat → Nat × Nat} {n z : Nat} {Q : Option sm_V → sm_S → Prop} : sm_wp d 148 29 [l0] [] (Z, Rf, K, n, z) Q = (((1 : Int) = 0 ∨ (1 : Int) = 1) ∧ Q (some (.inl 1)) (Z, Rf, K, n, z)) := (w_iconst t148_29 rfl).trans (w_zret t148_30 wl_1)
theorem t149_0 : sm_at 149 0 = some (1, .aload_n 0, 0, 0, 0) := rfl
theorem t149_1 : sm_at 149 1 = some (3, .invokevirtual 194, 150, 1, 0) := rfl
theorem t149_4 : sm_at 149 4 = some (3, .ifCond .ne 5, 0, 0, 0) := rfl
theorem t149_7 : sm_at 149 7 = some (1, .iconst 0, 0, 0, 0) := rfl
theorem t149_8 : sm_at 149 8 = some (1, .ireturn, 1, 0, 0) := rfl
theorem t149_9 : sm_at 149 9 = some (1, .aload_n 0, 0, 0, 0) := rfl
theorem t149_10 : sm_at 149 10 = some (3, .getfield 161, 11, 16, 0) := rfl
theorem t149_13 : sm_at 149 13 = some (3, .sipush 143, 0, 0, 0) := rfl
theorem t149_16 : sm_at 149 16 = some (3, .if_icmp .eq 13, 0, 0, 0) := rfl
theorem t149_19 : sm_at 149 19 = some (1, .aload_n 0, 0, 0, 0) := rfl
theorem t149_20 : sm_at 149 20 = some (3, .getfield 161, 11, 16, 0) := rfl
theorem t149_23 : sm_at 149 23 = some (3, .sipush 145, 0, 0, 0) := rfl
theorem t149_26 : sm_at 149 26 = some (3, .if_icmp .ne 43, 0, 0, 0) := rfl
theorem t149_29 : sm_at 149 29 = some (1, .aload_n 0, 0, 0, 0) := rfl
theorem t149_30 : sm_at 149 30 = some (3, .getfield 161, 11, 16, 0) := rfl
theorem t149_33 : sm_at 149 33 = some (3, .sipush 143, 0, 0, 0) := rfl
theorem t149_36 : sm_at 149 36 = some (3, .if_icmp .ne 8, 0, 0, 0) := rfl
theorem t149_39 : sm_at 149 39 = some (2, .bipush 13, 0, 0, 0) := rfl
theorem t149_41 : sm_at 149 41 = some (3, .goto 5, 0, 0, 0) := rfl
theorem t149_44 : sm_at 149 44 = some (2, .bipush 14, 0, 0, 0) := rfl
theorem t149_46 : sm_at 149 46 = some (1, .istore_n 1, 0, 0, 0) := rfl
theorem t149_47 : sm_at 149 47 = some (1, .aload_n 0, 0, 0, 0) := rfl
theorem t149_48 : sm_at 149 48 = some (3, .invokevirtual 185, 144, 1, 0) := rfl
theorem t149_51 : sm_at 149 51 = some (1, .aload_n 0, 0, 0, 0) := rfl
theorem t149_52 : sm_at 149 52 = some (3, .invokevirtual 194, 150, 1, 0) := rfl
theorem t149_55 : sm_at 149 55 = some (3, .ifCond .ne 5, 0, 0, 0) := rfl
theorem t149_58 : sm_at 149 58 = some (1, .iconst 0, 0, 0, 0) := rfl
theorem t149_59 : sm_at 149 59 = some (1, .ireturn, 1, 0, 0) := rfl
theorem t149_60 : sm_at 149 60 = some (1, .aload_n 0, 0, 0, 0) := rfl
theorem t149_61 : sm_at 149 61 = some (1, .iload_n 1, 0, 0, 0) := rfl
theorem t149_62 : sm_at 149 62 = some (1, .iconst 0, 0, 0, 0) := rfl
theorem t149_63 : sm_at 149 63 = some (3, .invokevirtual 198, 147, 3, 0) := rfl
theorem t149_66 : sm_at 149 66 = some (3, .goto (-57), 0, 0, 0) := rfl
theorem t149_69 : sm_at 149 69 = some (1, .iconst 1, 0, 0, 0) := rfl
theorem t149_70 : sm_at 149 70 = some (1, .ireturn, 1, 0, 0) := rfl
set_option maxRecDepth 10000 in
theorem b149_0 {d : Nat} {r0 : Nat} {l1 : Option sm_V} {Z : Nat → Nat → Int} {Rf : Nat → Nat → Option Nat} {K : Nat → Nat × Nat} {n z : Nat} {Q : Option sm_V → sm_S → Prop} : sm_wp (d + 1) 149 0 [some (.inr (some r0)), l1] [] (Z, Rf, K, n, z) Q = ((K r0).1 = 11 ∧ sm_call d 150 [.inr (some r0)] (Z, Rf, K, n, z) (sm_cont (d + 1) 149 4 [some (.inr (some r0)), l1] [] Q)) := (w_aload_n t149_0 rfl rfl).trans (w_callV t149_1 rfl rfl rfl rfl (Nat.le_of_ble_eq_true rfl) (Nat.le_of_ble_eq_true rfl) rfl (by decide))
set_option maxRecDepth 10000 in
theorem b149_4 {d : Nat} {l0 : Option sm_V} {l1 : Option sm_V} {s0 : Int} {Z : Nat → Nat → Int} {Rf : Nat → Nat → Option Nat} {K : Nat → Nat × Nat} {n z : Nat} {Q : Option sm_V → sm_S → Prop} : sm_wp d 149 4 [l0, l1] [.inl s0] (Z, Rf, K, n, z) Q = (if wr s0 = 0 then sm_wp d 149 7 [l0, l1] [] (Z, Rf, K, n, z) Q else sm_wp d 149 9 [l0, l1] [] (Z, Rf, K, n, z) Q) := w_ifne t149_4 rfl rfl rfl
set_option maxRecDepth 10000 in
theorem b149_7 {d : Nat} {l0 : Option sm_V} {l1 : Option sm_V} {Z : Nat → Nat → Int} {Rf : Nat → Nat → Option Nat} {K : Nat → Nat × Nat} {n z : Nat} {Q : Option sm_V → sm_S → Prop} : sm_wp d 149 7 [l0, l1] [] (Z, Rf, K, n, z) Q = (((0 : Int) = 0 ∨ (0 : Int) = 1) ∧ Q (some (.inl 0)) (Z, Rf, K, n, z)) := (w_iconst t149_7 rfl).trans (w_zret t149_8 wl_0)
set_option maxRecDepth 10000 in
theorem b149_9 {d : Nat} {r0 : Nat} {l1 : Option sm_V} {Z : Nat → Nat → Int} {Rf : Nat → Nat → Option Nat} {K : Nat → Nat × Nat} {n z : Nat} {Q : Option sm_V → sm_S → Prop} : sm_wp d 149 9 [some (.inr (some r0)), l1] [] (Z, Rf, K, n, z) Q = ((K r0).1 = 11 ∧ (if wr (Z r0 16) = (143 : Int) then sm_wp d 149 29 [some (.inr (some r0)), l1] [] (Z, Rf, K, n, z) Q else sm_wp d 149 19 [some (.inr (some r0)), l1] [] (Z, Rf, K, n, z) Q)) := (w_aload_n t149_9 rfl rfl).trans ((w_getI t149_10 rfl (by decide)).trans (congrArg (And _) ((w_sipush t149_13 rfl).trans (w_iceq t149_16 rfl wl_143 rfl rfl))))
set_option maxRecDepth 10000 in
theorem b149_19 {d : Nat} {r0 : Nat} {l1 : Option sm_V} {Z : Nat → Nat → Int} {Rf : Nat → Nat → Option Nat} {K : Nat → Nat × Nat} {n z : Nat} {Q : Option sm_V → sm_S → Prop} : sm_wp d 149 19 [some (.inr (some r0)), l1] [] (Z, Rf, K, n, z) Q = ((K r0).1 = 11 ∧ (if wr (Z r0 16) = (145 : Int) then sm_wp d 149 29 [some (.inr (some r0)), l1] [] (Z, Rf, K, n, z) Q else sm_wp d 149 69 [some (.inr (some r0)), l1] [] (Z, Rf, K, n, z) Q)) := (w_aload_n t149_19 rfl rfl).trans ((w_getI t149_20 rfl (by decide)).trans (congrArg (And _) ((w_sipush t149_23 rfl).trans (w_icne t149_26 rfl wl_145 rfl rfl))))
set_option maxRecDepth 10000 in
theorem b149_29 {d : Nat} {r0 : Nat} {l1 : Option sm_V} {Z : Nat → Nat → Int} {Rf : Nat → Nat → Option Nat} {K : Nat → Nat × Nat} {n z : Nat} {Q : Option sm_V → sm_S → Prop} : sm_wp d 149 29 [some (.inr (some r0)), l1] [] (Z, Rf, K, n, z) Q = ((K r0).1 = 11 ∧ (if wr (Z r0 16) = (143 : Int) then sm_wp d 149 39 [some (.inr (some r0)), l1] [] (Z, Rf, K, n, z) Q else sm_wp d 149 44 [some (.inr (some r0)), l1] [] (Z, Rf, K, n, z) Q)) := (w_aload_n t149_29 rfl rfl).trans ((w_getI t149_30 rfl (by decide)).trans (congrArg (And _) ((w_sipush t149_33 rfl).trans (w_icne t149_36 rfl wl_143 rfl rfl))))
set_option maxRecDepth 10000 in
theorem b149_39 {d : Nat} {l0 : Option sm_V} {l1 : Option sm_V} {Z : Nat → Nat → Int} {Rf : Nat → Nat → Option Nat} {K : Nat → Nat × Nat} {n z : Nat} {Q : Option sm_V → sm_S → Prop} : sm_wp d 149 39 [l0, l1] [] (Z, Rf, K, n, z) Q = (sm_wp d 149 46 [l0, l1] [.inl 13] (Z, Rf, K, n, z) Q) := (w_bipush t149_39 rfl).trans (w_goto t149_41 rfl)
set_option maxRecDepth 10000 in
theorem b149_44 {d : Nat} {l0 : Option sm_V} {l1 : Option sm_V} {Z : Nat → Nat → Int} {Rf : Nat → Nat → Option Nat} {K : Nat → Nat × Nat} {n z : Nat} {Q : Option sm_V → sm_S → Prop} : sm_wp d 149 44 [l0, l1] [] (Z, Rf, K, n, z) Q = (sm_wp d 149 46 [l0, l1] [.inl 14] (Z, Rf, K, n, z) Q) := w_bipush t149_44 rfl
set_option maxRecDepth 10000 in
theorem b149_46 {d : Nat} {r0 : Nat} {l1 : Option sm_V} {s0 : Int} {Z : Nat → Nat → Int} {Rf : Nat → Nat → Option Nat} {K : Nat → Nat × Nat} {n z : Nat} {Q : Option sm_V → sm_S → Prop} : sm_wp (d + 1) 149 46 [some (.inr (some r0)), l1] [.inl s0] (Z, Rf, K, n, z) Q = ((K r0).1 = 11 ∧ sm_call d 144 [.inr (some r0)] (Z, Rf, K, n, z) (sm_cont (d + 1) 149 51 [some (.inr (some r0)), some (.inl s0)] [] Q)) := (w_istore_n t149_46 rfl (Nat.le_of_ble_eq_true rfl) rfl).trans ((w_aload_n t149_47 rfl rfl).trans (w_callV t149_48 rfl rfl rfl rfl (Nat.le_of_ble_eq_true rfl) (Nat.le_of_ble_eq_true rfl) rfl (by decide)))
set_option maxRecDepth 10000 in
theorem b149_51 {d : Nat} {r0 : Nat} {l1 : Option sm_V} {Z : Nat → Nat → Int} {Rf : Nat → Nat → Option Nat} {K : Nat → Nat × Nat} {n z : Nat} {Q : Option sm_V → sm_S → Prop} : sm_wp (d + 1) 149 51 [some (.inr (some r0)), l1] [] (Z, Rf, K, n, z) Q = ((K r0).1 = 11 ∧ sm_call d 150 [.inr (some r0)] (Z, Rf, K, n, z) (sm_cont (d + 1) 149 55 [some (.inr (some r0)), l1] [] Q)) := (w_aload_n t149_51 rfl rfl).trans (w_callV t149_52 rfl rfl rfl rfl (Nat.le_of_ble_eq_true rfl) (Nat.le_of_ble_eq_true rfl) rfl (by decide))
set_option maxRecDepth 10000 in
theorem b149_55 {d : Nat} {l0 : Option sm_V} {l1 : Option sm_V} {s0 : Int} {Z : Nat → Nat → Int} {Rf : Nat → Nat → Option Nat} {K : Nat → Nat × Nat} {n z : Nat} {Q : Option sm_V → sm_S → Prop} : sm_wp d 149 55 [l0, l1] [.inl s0] (Z, Rf, K, n, z) Q = (if wr s0 = 0 then sm_wp d 149 58 [l0, l1] [] (Z, Rf, K, n, z) Q else sm_wp d 149 60 [l0, l1] [] (Z, Rf, K, n, z) Q) := w_ifne t149_55 rfl rfl rfl
set_option maxRecDepth 10000 in
theorem b149_58 {d : Nat} {l0 : Option sm_V} {l1 : Option sm_V} {Z : Nat → Nat → Int} {Rf : Nat → Nat → Option Nat} {K : Nat → Nat × Nat} {n z : Nat} {Q : Option sm_V → sm_S → Prop} : sm_wp d 149 58 [l0, l1] [] (Z, Rf, K, n, z) Q = (((0 : Int) = 0 ∨ (0 : Int) = 1) ∧ Q (some (.inl 0)) (Z, Rf, K, n, z)) := (w_iconst t149_58 rfl).trans (w_zret t149_59 wl_0)
set_option maxRecDepth 10000 in
theorem b149_60 {d : Nat} {r0 : Nat} {x1 : Int} {Z : Nat → Nat → Int} {Rf : Nat → Nat → Option Nat} {K : Nat → Nat × Nat} {n z : Nat} {Q : Option sm_V → sm_S → Prop} : sm_wp (d + 1) 149 60 [some (.inr (some r0)), some (.inl x1)] [] (Z, Rf, K, n, z) Q = ((K r0).1 = 11 ∧ sm_call d 147 [.inr (some r0), .inl x1, .inl 0] (Z, Rf, K, n, z) (sm_cont (d + 1) 149 66 [some (.inr (some r0)), some (.inl x1)] [] Q)) := (w_aload_n t149_60 rfl rfl).trans ((w_iload_n t149_61 rfl rfl).trans ((w_iconst t149_62 rfl).trans (w_callV t149_63 rfl rfl rfl rfl (Nat.le_of_ble_eq_true rfl) (Nat.le_of_ble_eq_true rfl) rfl (by decide))))
set_option maxRecDepth 10000 in
theorem b149_66 {d : Nat} {l0 : Option sm_V} {l1 : Option sm_V} {Z : Nat → Nat → Int} {Rf : Nat → Nat → Option Nat} {K : Nat → Nat × Nat} {n z : Nat} {Q : Option sm_V → sm_S → Prop} : sm_wp d 149 66 [l0, l1] [] (Z, Rf, K, n, z) Q = (sm_wp d 149 9 [l0, l1] [] (Z, Rf, K, n, z) Q) := w_goto t149_66 rfl
set_option maxRecDepth 10000 in
theorem b149_69 {d : Nat} {l0 : Option sm_V} {l1 : Option sm_V} {Z : Nat → Nat → Int} {Rf : Nat → Nat → Option Nat} {K : Nat → Nat × Nat} {n z : Nat} {Q : Option sm_V → sm_S → Prop} : sm_wp d 149 69 [l0, l1] [] (Z, Rf, K, n, z) Q = (((1 : Int) = 0 ∨ (1 : Int) = 1) ∧ Q (some (.inl 1)) (Z, Rf, K, n, z)) := (w_iconst t149_69 rfl).trans (w_zret t149_70 wl_1)
theorem t150_0 : sm_at 150 0 = some (1, .aload_n 0, 0, 0, 0) := rfl
theorem t150_1 : sm_at 150 1 = some (3, .invokevirtual 201, 151, 1, 0) := rfl
theorem t150_4 : sm_at 150 4 = some (3, .ifCond .ne 5, 0, 0, 0) := rfl
theorem t150_7 : sm_at 150 7 = some (1, .iconst 0, 0, 0, 0) := rfl
theorem t150_8 : sm_at 150 8 = some (1, .ireturn, 1, 0, 0) := rfl
theorem t150_9 : sm_at 150 9 = some (1, .aload_n 0, 0, 0, 0) := rfl
theorem t150_10 : sm_at 150 10 = some (3, .getfield 161, 11, 16, 0) := rfl
theorem t150_13 : sm_at 150 13 = some (3, .sipush 142, 0, 0, 0) := rfl
theorem t150_16 : sm_at 150 16 = some (3, .if_icmp .eq 13, 0, 0, 0) := rfl
theorem t150_19 : sm_at 150 19 = some (1, .aload_n 0, 0, 0, 0) := rfl
theorem t150_20 : sm_at 150 20 = some (3, .getfield 161, 11, 16, 0) := rfl
theorem t150_23 : sm_at 150 23 = some (3, .sipush 147, 0, 0, 0) := rfl
theorem t150_26 : sm_at 150 26 = some (3, .if_icmp .ne 89, 0, 0, 0) := rfl
theorem t150_29 : sm_at 150 29 = some (1, .aload_n 0, 0, 0, 0) := rfl
theorem t150_30 : sm_at 150 30 = some (3, .getfield 161, 11, 16, 0) := rfl
theorem t150_33 : sm_at 150 33 = some (3, .sipush 147, 0, 0, 0) := rfl
theorem t150_36 : sm_at 150 36 = some (3, .if_icmp .ne 7, 0, 0, 0) := rfl
theorem t150_39 : sm_at 150 39 = some (1, .iconst 1, 0, 0, 0) := rfl
theorem t150_40 : sm_at 150 40 = some (3, .goto 4, 0, 0, 0) := rfl
theorem t150_43 : sm_at 150 43 = some (1, .iconst 0, 0, 0, 0) := rfl
theorem t150_44 : sm_at 150 44 = some (1, .istore_n 1, 0, 0, 0) := rfl
theorem t150_45 : sm_at 150 45 = some (1, .aload_n 0, 0, 0, 0) := rfl
theorem t150_46 : sm_at 150 46 = some (3, .invokevirtual 185, 144, 1, 0) := rfl
theorem t150_49 : sm_at 150 49 = some (1, .iload_n 1, 0, 0, 0) := rfl
theorem t150_50 : sm_at 150 50 = some (3, .ifCond .eq 46, 0, 0, 0) := rfl
theorem t150_53 : sm_at 150 53 = some (1, .aload_n 0, 0, 0, 0) := rfl
theorem t150_54 : sm_at 150 54 = some (3, .getfield 173, 11, 18, 0) := rfl
theorem t150_57 : sm_at 150 57 = some (1, .istore_n 2, 0, 0, 0) := rfl
theorem t150_58 : sm_at 150 58 = some (1, .aload_n 0, 0, 0, 0) := rfl
theorem t150_59 : sm_at 150 59 = some (3, .getfield 161, 11, 16, 0) := rfl
theorem t150_62 : sm_at 150 62 = some (1, .iconst 2, 0, 0, 0) := rfl
theorem t150_63 : sm_at 150 63 = some (3, .if_icmp .eq 9, 0, 0, 0) := rfl
theorem t150_66 : sm_at 150 66 = some (1, .aload_n 0, 0, 0, 0) := rfl
theorem t150_67 : sm_at 150 67 = some (1, .iconst 1, 0, 0, 0) := rfl
theorem t150_68 : sm_at 150 68 = some (3, .invokevirtual 182, 145, 2, 0) := rfl
theorem t150_71 : sm_at 150 71 = some (1, .ireturn, 1, 0, 0) := rfl
theorem t150_72 : sm_at 150 72 = some (1, .iload_n 2, 0, 0, 0) := rfl
theorem t150_73 : sm_at 150 73 = some (3, .ifCond .ne 9, 0, 0, 0) := rfl
theorem t150_76 : sm_at 150 76 = some (1, .aload_n 0, 0, 0, 0) := rfl
theorem t150_77 : sm_at 150 77 = some (1, .iconst 2, 0, 0, 0) := rfl
theorem t150_78 : sm_at 150 78 = some (3, .invokevirtual 182, 145, 2, 0) := rfl
theorem t150_81 : sm_at 150 81 = some (1, .ireturn, 1, 0, 0) := rfl
theorem t150_82 : sm_at 150 82 = some (1, .aload_n 0, 0, 0, 0) := rfl
theorem t150_83 : sm_at 150 83 = some (3, .invokevirtual 185, 144, 1, 0) := rfl
theorem t150_86 : sm_at 150 86 = some (1, .aload_n 0, 0, 0, 0) := rfl
theorem t150_87 : sm_at 150 87 = some (2, .bipush 16, 0, 0, 0) := rfl
theorem t150_89 : sm_at 150 89 = some (1, .iload_n 2, 0, 0, 0) := rfl
theorem t150_90 : sm_at 150 90 = some (3, .invokevirtual 198, 147, 3, 0) := rfl
theorem t150_93 : sm_at 150 93 = some (3, .goto 19, 0, 0, 0) := rfl
theorem t150_96 : sm_at 150 96 = some (1, .aload_n 0, 0, 0, 0) := rfl
theorem t150_97 : sm_at 150 97 = some (3, .invokevirtual 201, 151, 1, 0) := rfl
theorem t150_100 : sm_at 150 100 = some (3, .ifCond .ne 5, 0, 0, 0) := rfl
theorem t150_103 : sm_at 150 103 = some (1, .iconst 0, 0, 0, 0) := rfl
theorem t150_104 : sm_at 150 104 = some (1, .ireturn, 1, 0, 0) := rfl
theorem t150_105 : sm_at 150 105 = some (1, .aload_n 0, 0, 0, 0) := rfl
theorem t150_106 : sm_at 150 106 = some (2, .bipush 15, 0, 0, 0) := rfl
theorem t150_108 : sm_at 150 108 = some (1, .iconst 0, 0, 0, 0) := rfl
theorem t150_109 : sm_at 150 109 = some (3, .invokevirtual 198, 147, 3, 0) := rfl
theorem t150_112 : sm_at 150 112 = some (3, .goto (-103), 0, 0, 0) := rfl
theorem t150_115 : sm_at 150 115 = some (1, .iconst 1, 0, 0, 0) := rfl
set_option maxRecDepth 100000 in
theorem t150_116 : sm_at 150 116 = some (1, .ireturn, 1, 0, 0) := rfl
set_option maxRecDepth 10000 in
theorem b150_0 {d : Nat} {r0 : Nat} {l1 : Option sm_V} {l2 : Option sm_V} {Z : Nat → Nat → Int} {Rf : Nat → Nat → Option Nat} {K : Nat → Nat × Nat} {n z : Nat} {Q : Option sm_V → sm_S → Prop} : sm_wp (d + 1) 150 0 [some (.inr (some r0)), l1, l2] [] (Z, Rf, K, n, z) Q = ((K r0).1 = 11 ∧ sm_call d 151 [.inr (some r0)] (Z, Rf, K, n, z) (sm_cont (d + 1) 150 4 [some (.inr (some r0)), l1, l2] [] Q)) := (w_aload_n t150_0 rfl rfl).trans (w_callV t150_1 rfl rfl rfl rfl (Nat.le_of_ble_eq_true rfl) (Nat.le_of_ble_eq_true rfl) rfl (by decide))
set_option maxRecDepth 10000 in
theorem b150_4 {d : Nat} {l0 : Option sm_V} {l1 : Option sm_V} {l2 : Option sm_V} {s0 : Int} {Z : Nat → Nat → Int} {Rf : Nat → Nat → Option Nat} {K : Nat → Nat × Nat} {n z : Nat} {Q : Option sm_V → sm_S → Prop} : sm_wp d 150 4 [l0, l1, l2] [.inl s0] (Z, Rf, K, n, z) Q = (if wr s0 = 0 then sm_wp d 150 7 [l0, l1, l2] [] (Z, Rf, K, n, z) Q else sm_wp d 150 9 [l0, l1, l2] [] (Z, Rf, K, n, z) Q) := w_ifne t150_4 rfl rfl rfl
set_option maxRecDepth 10000 in
theorem b150_7 {d : Nat} {l0 : Option sm_V} {l1 : Option sm_V} {l2 : Option sm_V} {Z : Nat → Nat → Int} {Rf : Nat → Nat → Option Nat} {K : Nat → Nat × Nat} {n z : Nat} {Q : Option sm_V → sm_S → Prop} : sm_wp d 150 7 [l0, l1, l2] [] (Z, Rf, K, n, z) Q = (((0 : Int) = 0 ∨ (0 : Int) = 1) ∧ Q (some (.inl 0)) (Z, Rf, K, n, z)) := (w_iconst t150_7 rfl).trans (w_zret t150_8 wl_0)
set_option maxRecDepth 10000 in
theorem b150_9 {d : Nat} {r0 : Nat} {l1 : Option sm_V} {l2 : Option sm_V} {Z : Nat → Nat → Int} {Rf : Nat → Nat → Option Nat} {K : Nat → Nat × Nat} {n z : Nat} {Q : Option sm_V → sm_S → Prop} : sm_wp d 150 9 [some (.inr (some r0)), l1, l2] [] (Z, Rf, K, n, z) Q = ((K r0).1 = 11 ∧ (if wr (Z r0 16) = (142 : Int) then sm_wp d 150 29 [some (.inr (some r0)), l1, l2] [] (Z, Rf, K, n, z) Q else sm_wp d 150 19 [some (.inr (some r0)), l1, l2] [] (Z, Rf, K, n, z) Q)) := (w_aload_n t150_9 rfl rfl).trans ((w_getI t150_10 rfl (by decide)).trans (congrArg (And _) ((w_sipush t150_13 rfl).trans (w_iceq t150_16 rfl wl_142 rfl rfl))))
set_option maxRecDepth 10000 in
theorem b150_19 {d : Nat} {r0 : Nat} {l1 : Option sm_V} {l2 : Option sm_V} {Z : Nat → Nat → Int} {Rf : Nat → Nat → Option Nat} {K : Nat → Nat × Nat} {n z : Nat} {Q : Option sm_V → sm_S → Prop} : sm_wp d 150 19 [some (.inr (some r0)), l1, l2] [] (Z, Rf, K, n, z) Q = ((K r0).1 = 11 ∧ (if wr (Z r0 16) = (147 : Int) then sm_wp d 150 29 [some (.inr (some r0)), l1, l2] [] (Z, Rf, K, n, z) Q else sm_wp d 150 115 [some (.inr (some r0)), l1, l2] [] (Z, Rf, K, n, z) Q)) := (w_aload_n t150_19 rfl rfl).trans ((w_getI t150_20 rfl (by decide)).trans (congrArg (And _) ((w_sipush t150_23 rfl).trans (w_icne t150_26 rfl wl_147 rfl rfl))))
set_option maxRecDepth 10000 in
theorem b150_29 {d : Nat} {r0 : Nat} {l1 : Option sm_V} {l2 : Option sm_V} {Z : Nat → Nat → Int} {Rf : Nat → Nat → Option Nat} {K : Nat → Nat × Nat} {n z : Nat} {Q : Option sm_V → sm_S → Prop} : sm_wp d 150 29 [some (.inr (some r0)), l1, l2] [] (Z, Rf, K, n, z) Q = ((K r0).1 = 11 ∧ (if wr (Z r0 16) = (147 : Int) then sm_wp d 150 39 [some (.inr (some r0)), l1, l2] [] (Z, Rf, K, n, z) Q else sm_wp d 150 43 [some (.inr (some r0)), l1, l2] [] (Z, Rf, K, n, z) Q)) := (w_aload_n t150_29 rfl rfl).trans ((w_getI t150_30 rfl (by decide)).trans (congrArg (And _) ((w_sipush t150_33 rfl).trans (w_icne t150_36 rfl wl_147 rfl rfl))))
set_option maxRecDepth 10000 in
theorem b150_39 {d : Nat} {l0 : Option sm_V} {l1 : Option sm_V} {l2 : Option sm_V} {Z : Nat → Nat → Int} {Rf : Nat → Nat → Option Nat} {K : Nat → Nat × Nat} {n z : Nat} {Q : Option sm_V → sm_S → Prop} : sm_wp d 150 39 [l0, l1, l2] [] (Z, Rf, K, n, z) Q = (sm_wp d 150 44 [l0, l1, l2] [.inl 1] (Z, Rf, K, n, z) Q) := (w_iconst t150_39 rfl).trans (w_goto t150_40 rfl)
set_option maxRecDepth 10000 in
theorem b150_43 {d : Nat} {l0 : Option sm_V} {l1 : Option sm_V} {l2 : Option sm_V} {Z : Nat → Nat → Int} {Rf : Nat → Nat → Option Nat} {K : Nat → Nat × Nat} {n z : Nat} {Q : Option sm_V → sm_S → Prop} : sm_wp d 150 43 [l0, l1, l2] [] (Z, Rf, K, n, z) Q = (sm_wp d 150 44 [l0, l1, l2] [.inl 0] (Z, Rf, K, n, z) Q) := w_iconst t150_43 rfl
set_option maxRecDepth 10000 in
theorem b150_44 {d : Nat} {r0 : Nat} {l1 : Option sm_V} {l2 : Option sm_V} {s0 : Int} {Z : Nat → Nat → Int} {Rf : Nat → Nat → Option Nat} {K : Nat → Nat × Nat} {n z : Nat} {Q : Option sm_V → sm_S → Prop} : sm_wp (d + 1) 150 44 [some (.inr (some r0)), l1, l2] [.inl s0] (Z, Rf, K, n, z) Q = ((K r0).1 = 11 ∧ sm_call d 144 [.inr (some r0)] (Z, Rf, K, n, z) (sm_cont (d + 1) 150 49 [some (.inr (some r0)), some (.inl s0), l2] [] Q)) := (w_istore_n t150_44 rfl (Nat.le_of_ble_eq_true rfl) rfl).trans ((w_aload_n t150_45 rfl rfl).trans (w_callV t150_46 rfl rfl rfl rfl (Nat.le_of_ble_eq_true rfl) (Nat.le_of_ble_eq_true rfl) rfl (by decide)))
set_option maxRecDepth 10000 in
theorem b150_49 {d : Nat} {l0 : Option sm_V} {x1 : Int} {l2 : Option sm_V} {Z : Nat → Nat → Int} {Rf : Nat → Nat → Option Nat} {K : Nat → Nat × Nat} {n z : Nat} {Q : Option sm_V → sm_S → Prop} : sm_wp d 150 49 [l0, some (.inl x1), l2] [] (Z, Rf, K, n, z) Q = (if wr x1 = 0 then sm_wp d 150 96 [l0, some (.inl x1), l2] [] (Z, Rf, K, n, z) Q else sm_wp d 150 53 [l0, some (.inl x1), l2] [] (Z, Rf, K, n, z) Q) := (w_iload_n t150_49 rfl rfl).trans (w_ifeq t150_50 rfl rfl rfl)
set_option maxRecDepth 10000 in
theorem b150_53 {d : Nat} {r0 : Nat} {l1 : Option sm_V} {l2 : Option sm_V} {Z : Nat → Nat → Int} {Rf : Nat → Nat → Option Nat} {K : Nat → Nat × Nat} {n z : Nat} {Q : Option sm_V → sm_S → Prop} : sm_wp d 150 53 [some (.inr (some r0)), l1, l2] [] (Z, Rf, K, n, z) Q = ((K r0).1 = 11 ∧ (K r0).1 = 11 ∧ (if wr (Z r0 16) = (2 : Int) then sm_wp d 150 72 [some (.inr (some r0)), l1, some (.inl (Z r0 18))] [] (Z, Rf, K, n, z) Q else sm_wp d 150 66 [some (.inr (some r0)), l1, some (.inl (Z r0 18))] [] (Z, Rf, K, n, z) Q)) := (w_aload_n t150_53 rfl rfl).trans ((w_getI t150_54 rfl (by decide)).trans (congrArg (And _) ((w_istore_n t150_57 rfl (Nat.le_of_ble_eq_true rfl) rfl).trans ((w_aload_n t150_58 rfl rfl).trans ((w_getI t150_59 rfl (by decide)).trans (congrArg (And _) ((w_iconst t150_62 rfl).trans (w_iceq t150_63 rfl wl_2 rfl rfl))))))))
set_option maxRecDepth 10000 in
theorem b150_66 {d : Nat} {r0 : Nat} {l1 : Option sm_V} {l2 : Option sm_V} {Z : Nat → Nat → Int} {Rf : Nat → Nat → Option Nat} {K : Nat → Nat × Nat} {n z : Nat} {Q : Option sm_V → sm_S → Prop} : sm_wp (d + 1) 150 66 [some (.inr (some r0)), l1, l2] [] (Z, Rf, K, n, z) Q = ((K r0).1 = 11 ∧ sm_call d 145 [.inr (some r0), .inl 1] (Z, Rf, K, n, z) (sm_cont (d + 1) 150 71 [some (.inr (some r0)), l1, l2] [] Q)) := (w_aload_n t150_66 rfl rfl).trans ((w_iconst t150_67 rfl).trans (w_callV t150_68 rfl rfl rfl rfl (Nat.le_of_ble_eq_true rfl) (Nat.le_of_ble_eq_true rfl) rfl (by decide)))
set_option maxRecDepth 10000 in
theorem b150_71 {d : Nat} {l0 : Option sm_V} {l1 : Option sm_V} {l2 : Option sm_V} {s0 : Int} {Z : Nat → Nat → Int} {Rf : Nat → Nat → Option Nat} {K : Nat → Nat × Nat} {n z : Nat} {Q : Option sm_V → sm_S → Prop} : sm_wp d 150 71 [l0, l1, l2] [.inl s0] (Z, Rf, K, n, z) Q = ((wr s0 = 0 ∨ wr s0 = 1) ∧ Q (some (.inl s0)) (Z, Rf, K, n, z)) := w_zret t150_71 rfl
set_option maxRecDepth 10000 in
theorem b150_72 {d : Nat} {l0 : Option sm_V} {l1 : Option sm_V} {x2 : Int} {Z : Nat → Nat → Int} {Rf : Nat → Nat → Option Nat} {K : Nat → Nat × Nat} {n z : Nat} {Q : Option sm_V → sm_S → Prop} : sm_wp d 150 72 [l0, l1, some (.inl x2)] [] (Z, Rf, K, n, z) Q = (if wr x2 = 0 then sm_wp d 150 76 [l0, l1, some (.inl x2)] [] (Z, Rf, K, n, z) Q else sm_wp d 150 82 [l0, l1, some (.inl x2)] [] (Z, Rf, K, n, z) Q) := (w_iload_n t150_72 rfl rfl).trans (w_ifne t150_73 rfl rfl rfl)
set_option maxRecDepth 10000 in
theorem b150_76 {d : Nat} {r0 : Nat} {l1 : Option sm_V} {l2 : Option sm_V} {Z : Nat → Nat → Int} {Rf : Nat → Nat → Option Nat} {K : Nat → Nat × Nat} {n z : Nat} {Q : Option sm_V → sm_S → Prop} : sm_wp (d + 1) 150 76 [some (.inr (some r0)), l1, l2] [] (Z, Rf, K, n, z) Q = ((K r0).1 = 11 ∧ sm_call d 145 [.inr (some r0), .inl 2] (Z, Rf, K, n, z) (sm_cont (d + 1) 150 81 [some (.inr (some r0)), l1, l2] [] Q)) := (w_aload_n t150_76 rfl rfl).trans ((w_iconst t150_77 rfl).trans (w_callV t150_78 rfl rfl rfl rfl (Nat.le_of_ble_eq_true rfl) (Nat.le_of_ble_eq_true rfl) rfl (by decide)))
set_option maxRecDepth 10000 in
theorem b150_81 {d : Nat} {l0 : Option sm_V} {l1 : Option sm_V} {l2 : Option sm_V} {s0 : Int} {Z : Nat → Nat → Int} {Rf : Nat → Nat → Option Nat} {K : Nat → Nat × Nat} {n z : Nat} {Q : Option sm_V → sm_S → Prop} : sm_wp d 150 81 [l0, l1, l2] [.inl s0] (Z, Rf, K, n, z) Q = ((wr s0 = 0 ∨ wr s0 = 1) ∧ Q (some (.inl s0)) (Z, Rf, K, n, z)) := w_zret t150_81 rfl
set_option maxRecDepth 10000 in
theorem b150_82 {d : Nat} {r0 : Nat} {l1 : Option sm_V} {l2 : Option sm_V} {Z : Nat → Nat → Int} {Rf : Nat → Nat → Option Nat} {K : Nat → Nat × Nat} {n z : Nat} {Q : Option sm_V → sm_S → Prop} : sm_wp (d + 1) 150 82 [some (.inr (some r0)), l1, l2] [] (Z, Rf, K, n, z) Q = ((K r0).1 = 11 ∧ sm_call d 144 [.inr (some r0)] (Z, Rf, K, n, z) (sm_cont (d + 1) 150 86 [some (.inr (some r0)), l1, l2] [] Q)) := (w_aload_n t150_82 rfl rfl).trans (w_callV t150_83 rfl rfl rfl rfl (Nat.le_of_ble_eq_true rfl) (Nat.le_of_ble_eq_true rfl) rfl (by decide))
set_option maxRecDepth 10000 in
theorem b150_86 {d : Nat} {r0 : Nat} {l1 : Option sm_V} {x2 : Int} {Z : Nat → Nat → Int} {Rf : Nat → Nat → Option Nat} {K : Nat → Nat × Nat} {n z : Nat} {Q : Option sm_V → sm_S → Prop} : sm_wp (d + 1) 150 86 [some (.inr (some r0)), l1, some (.inl x2)] [] (Z, Rf, K, n, z) Q = ((K r0).1 = 11 ∧ sm_call d 147 [.inr (some r0), .inl 16, .inl x2] (Z, Rf, K, n, z) (sm_cont (d + 1) 150 93 [some (.inr (some r0)), l1, some (.inl x2)] [] Q)) := (w_aload_n t150_86 rfl rfl).trans ((w_bipush t150_87 rfl).trans ((w_iload_n t150_89 rfl rfl).trans (w_callV t150_90 rfl rfl rfl rfl (Nat.le_of_ble_eq_true rfl) (Nat.le_of_ble_eq_true rfl) rfl (by decide))))
set_option maxRecDepth 10000 in
theorem b150_93 {d : Nat} {l0 : Option sm_V} {l1 : Option sm_V} {l2 : Option sm_V} {Z : Nat → Nat → Int} {Rf : Nat → Nat → Option Nat} {K : Nat → Nat × Nat} {n z : Nat} {Q : Option sm_V → sm_S → Prop} : sm_wp d 150 93 [l0, l1, l2] [] (Z, Rf, K, n, z) Q = (sm_wp d 150 112 [l0, l1, l2] [] (Z, Rf, K, n, z) Q) := w_goto t150_93 rfl
set_option maxRecDepth 10000 in
theorem b150_96 {d : Nat} {r0 : Nat} {l1 : Option sm_V} {l2 : Option sm_V} {Z : Nat → Nat → Int} {Rf : Nat → Nat → Option Nat} {K : Nat → Nat × Nat} {n z : Nat} {Q : Option sm_V → sm_S → Prop} : sm_wp (d + 1) 150 96 [some (.inr (some r0)), l1, l2] [] (Z, Rf, K, n, z) Q = ((K r0).1 = 11 ∧ sm_call d 151 [.inr (some r0)] (Z, Rf, K, n, z) (sm_cont (d + 1) 150 100 [some (.inr (some r0)), l1, l2] [] Q)) := (w_aload_n t150_96 rfl rfl).trans (w_callV t150_97 rfl rfl rfl rfl (Nat.le_of_ble_eq_true rfl) (Nat.le_of_ble_eq_true rfl) rfl (by decide))
set_option maxRecDepth 10000 in
theorem b150_100 {d : Nat} {l0 : Option sm_V} {l1 : Option sm_V} {l2 : Option sm_V} {s0 : Int} {Z : Nat → Nat → Int} {Rf : Nat → Nat → Option Nat} {K : Nat → Nat × Nat} {n z : Nat} {Q : Option sm_V → sm_S → Prop} : sm_wp d 150 100 [l0, l1, l2] [.inl s0] (Z, Rf, K, n, z) Q = (if wr s0 = 0 then sm_wp d 150 103 [l0, l1, l2] [] (Z, Rf, K, n, z) Q else sm_wp d 150 105 [l0, l1, l2] [] (Z, Rf, K, n, z) Q) := w_ifne t150_100 rfl rfl rfl
set_option maxRecDepth 10000 in
theorem b150_103 {d : Nat} {l0 : Option sm_V} {l1 : Option sm_V} {l2 : Option sm_V} {Z : Nat → Nat → Int} {Rf : Nat → Nat → Option Nat} {K : Nat → Nat × Nat} {n z : Nat} {Q : Option sm_V → sm_S → Prop} : sm_wp d 150 103 [l0, l1, l2] [] (Z, Rf, K, n, z) Q = (((0 : Int) = 0 ∨ (0 : Int) = 1) ∧ Q (some (.inl 0)) (Z, Rf, K, n, z)) := (w_iconst t150_103 rfl).trans (w_zret t150_104 wl_0)
set_option maxRecDepth 10000 in
theorem b150_105 {d : Nat} {r0 : Nat} {l1 : Option sm_V} {l2 : Option sm_V} {Z : Nat → Nat → Int} {Rf : Nat → Nat → Option Nat} {K : Nat → Nat × Nat} {n z : Nat} {Q : Option sm_V → sm_S → Prop} : sm_wp (d + 1) 150 105 [some (.inr (some r0)), l1, l2] [] (Z, Rf, K, n, z) Q = ((K r0).1 = 11 ∧ sm_call d 147 [.inr (some r0), .inl 15, .inl 0] (Z, Rf, K, n, z) (sm_cont (d + 1) 150 112 [some (.inr (some r0)), l1, l2] [] Q)) := (w_aload_n t150_105 rfl rfl).trans ((w_bipush t150_106 rfl).trans ((w_iconst t150_108 rfl).trans (w_callV t150_109 rfl rfl rfl rfl (Nat.le_of_ble_eq_true rfl) (Nat.le_of_ble_eq_true rfl) rfl (by decide))))
set_option maxRecDepth 10000 in
theorem b150_112 {d : Nat} {l0 : Option sm_V} {l1 : Option sm_V} {l2 : Option sm_V} {Z : Nat → Nat → Int} {Rf : Nat → Nat → Option Nat} {K : Nat → Nat × Nat} {n z : Nat} {Q : Option sm_V → sm_S → Prop} : sm_wp d 150 112 [l0, l1, l2] [] (Z, Rf, K, n, z) Q = (sm_wp d 150 9 [l0, l1, l2] [] (Z, Rf, K, n, z) Q) := w_goto t150_112 rfl
set_option maxRecDepth 10000 in
theorem b150_115 {d : Nat} {l0 : Option sm_V} {l1 : Option sm_V} {l2 : Option sm_V} {Z : Nat → Nat → Int} {Rf : Nat → Nat → Option Nat} {K : Nat → Nat × Nat} {n z : Nat} {Q : Option sm_V → sm_S → Prop} : sm_wp d 150 115 [l0, l1, l2] [] (Z, Rf, K, n, z) Q = (((1 : Int) = 0 ∨ (1 : Int) = 1) ∧ Q (some (.inl 1)) (Z, Rf, K, n, z)) := (w_iconst t150_115 rfl).trans (w_zret t150_116 wl_1)
theorem t151_0 : sm_at 151 0 = some (1, .aload_n 0, 0, 0, 0) := rfl
theorem t151_1 : sm_at 151 1 = some (3, .getfield 161, 11, 16, 0) := rfl
theorem t151_4 : sm_at 151 4 = some (2, .bipush 41, 0, 0, 0) := rfl
theorem t151_6 : sm_at 151 6 = some (2, .bipush 49, 0, 0, 0) := rfl
theorem t151_8 : sm_at 151 8 = some (3, .invokestatic 75, 120, 3, 0) := rfl
theorem t151_11 : sm_at 151 11 = some (1, .istore_n 1, 0, 0, 0) := rfl
theorem t151_12 : sm_at 151 12 = some (1, .aload_n 0, 0, 0, 0) := rfl
theorem t151_13 : sm_at 151 13 = some (3, .getfield 161, 11, 16, 0) := rfl
theorem t151_16 : sm_at 151 16 = some (1, .iconst 2, 0, 0, 0) := rfl
theorem t151_17 : sm_at 151 17 = some (3, .if_icmp .eq 13, 0, 0, 0) := rfl
theorem t151_20 : sm_at 151 20 = some (1, .iload_n 1, 0, 0, 0) := rfl
theorem t151_21 : sm_at 151 21 = some (3, .ifCond .ne 9, 0, 0, 0) := rfl
theorem t151_24 : sm_at 151 24 = some (1, .aload_n 0, 0, 0, 0) := rfl
theorem t151_25 : sm_at 151 25 = some (1, .iconst 1, 0, 0, 0) := rfl
theorem t151_26 : sm_at 151 26 = some (3, .invokevirtual 182, 145, 2, 0) := rfl
theorem t151_29 : sm_at 151 29 = some (1, .ireturn, 1, 0, 0) := rfl
theorem t151_30 : sm_at 151 30 = some (1, .aload_n 0, 0, 0, 0) := rfl
theorem t151_31 : sm_at 151 31 = some (1, .iload_n 1, 0, 0, 0) := rfl
theorem t151_32 : sm_at 151 32 = some (3, .ifCond .eq 13, 0, 0, 0) := rfl
theorem t151_35 : sm_at 151 35 = some (1, .aload_n 0, 0, 0, 0) := rfl
theorem t151_36 : sm_at 151 36 = some (3, .getfield 161, 11, 16, 0) := rfl
theorem t151_39 : sm_at 151 39 = some (2, .bipush 40, 0, 0, 0) := rfl
theorem t151_41 : sm_at 151 41 = some (1, .isub, 0, 0, 0) := rfl
theorem t151_42 : sm_at 151 42 = some (3, .goto 4, 0, 0, 0) := rfl
theorem t151_45 : sm_at 151 45 = some (1, .iconst 0, 0, 0, 0) := rfl
theorem t151_46 : sm_at 151 46 = some (1, .aload_n 0, 0, 0, 0) := rfl
theorem t151_47 : sm_at 151 47 = some (3, .getfield 173, 11, 18, 0) := rfl
theorem t151_50 : sm_at 151 50 = some (3, .invokevirtual 198, 147, 3, 0) := rfl
theorem t151_53 : sm_at 151 53 = some (1, .aload_n 0, 0, 0, 0) := rfl
theorem t151_54 : sm_at 151 54 = some (3, .invokevirtual 185, 144, 1, 0) := rfl
theorem t151_57 : sm_at 151 57 = some (1, .iconst 1, 0, 0, 0) := rfl
theorem t151_58 : sm_at 151 58 = some (1, .ireturn, 1, 0, 0) := rfl
set_option maxRecDepth 10000 in
theorem b151_0 {d : Nat} {r0 : Nat} {l1 : Option sm_V} {Z : Nat → Nat → Int} {Rf : Nat → Nat → Option Nat} {K : Nat → Nat × Nat} {n z : Nat} {Q : Option sm_V → sm_S → Prop} : sm_wp (d + 1) 151 0 [some (.inr (some r0)), l1] [] (Z, Rf, K, n, z) Q = ((K r0).1 = 11 ∧ sm_call d 120 [.inl (Z r0 16), .inl 41, .inl 49] (Z, Rf, K, n, z) (sm_cont (d + 1) 151 11 [some (.inr (some r0)), l1] [] Q)) := (w_aload_n t151_0 rfl rfl).trans ((w_getI t151_1 rfl (by decide)).trans (congrArg (And _) ((w_bipush t151_4 rfl).trans ((w_bipush t151_6 rfl).trans (w_callS t151_8 rfl rfl rfl rfl (Nat.le_of_ble_eq_true rfl) (Nat.le_of_ble_eq_true rfl) rfl)))))
set_option maxRecDepth 10000 in
theorem b151_11 {d : Nat} {r0 : Nat} {l1 : Option sm_V} {s0 : Int} {Z : Nat → Nat → Int} {Rf : Nat → Nat → Option Nat} {K : Nat → Nat × Nat} {n z : Nat} {Q : Option sm_V → sm_S → Prop} : sm_wp d 151 11 [some (.inr (some r0)), l1] [.inl s0] (Z, Rf, K, n, z) Q = ((K r0).1 = 11 ∧ (if wr (Z r0 16) = (2 : Int) then sm_wp d 151 30 [some (.inr (some r0)), some (.inl s0)] [] (Z, Rf, K, n, z) Q else sm_wp d 151 20 [some (.inr (some r0)), some (.inl s0)] [] (Z, Rf, K, n, z) Q)) := (w_istore_n t151_11 rfl (Nat.le_of_ble_eq_true rfl) rfl).trans ((w_aload_n t151_12 rfl rfl).trans ((w_getI t151_13 rfl (by decide)).trans (congrArg (And _) ((w_iconst t151_16 rfl).trans (w_iceq t151_17 rfl wl_2 rfl rfl)))))
set_option maxRecDepth 10000 in
theorem b151_20 {d : Nat} {l0 : Option sm_V} {x1 : Int} {Z : Nat → Nat → Int} {Rf : Nat → Nat → Option Nat} {K : Nat → Nat × Nat} {n z : Nat} {Q : Option sm_V → sm_S → Prop} : sm_wp d 151 20 [l0, some (.inl x1)] [] (Z, Rf, K, n, z) Q = (if wr x1 = 0 then sm_wp d 151 24 [l0, some (.inl x1)] [] (Z, Rf, K, n, z) Q else sm_wp d 151 30 [l0, some (.inl x1)] [] (Z, Rf, K, n, z) Q) := (w_iload_n t151_20 rfl rfl).trans (w_ifne t151_21 rfl rfl rfl)
set_option maxRecDepth 10000 in
theorem b151_24 {d : Nat} {r0 : Nat} {l1 : Option sm_V} {Z : Nat → Nat → Int} {Rf : Nat → Nat → Option Nat} {K : Nat → Nat × Nat} {n z : Nat} {Q : Option sm_V → sm_S → Prop} : sm_wp (d + 1) 151 24 [some (.inr (some r0)), l1] [] (Z, Rf, K, n, z) Q = ((K r0).1 = 11 ∧ sm_call d 145 [.inr (some r0), .inl 1] (Z, Rf, K, n, z) (sm_cont (d + 1) 151 29 [some (.inr (some r0)), l1] [] Q)) := (w_aload_n t151_24 rfl rfl).trans ((w_iconst t151_25 rfl).trans (w_callV t151_26 rfl rfl rfl rfl (Nat.le_of_ble_eq_true rfl) (Nat.le_of_ble_eq_true rfl) rfl (by decide)))
set_option maxRecDepth 10000 in
theorem b151_29 {d : Nat} {l0 : Option sm_V} {l1 : Option sm_V} {s0 : Int} {Z : Nat → Nat → Int} {Rf : Nat → Nat → Option Nat} {K : Nat → Nat × Nat} {n z : Nat} {Q : Option sm_V → sm_S → Prop} : sm_wp d 151 29 [l0, l1] [.inl s0] (Z, Rf, K, n, z) Q = ((wr s0 = 0 ∨ wr s0 = 1) ∧ Q (some (.inl s0)) (Z, Rf, K, n, z)) := w_zret t151_29 rfl
set_option maxRecDepth 10000 in
theorem b151_30 {d : Nat} {q0 : Option Nat} {x1 : Int} {Z : Nat → Nat → Int} {Rf : Nat → Nat → Option Nat} {K : Nat → Nat × Nat} {n z : Nat} {Q : Option sm_V → sm_S → Prop} : sm_wp d 151 30 [some (.inr q0), some (.inl x1)] [] (Z, Rf, K, n, z) Q = (if wr x1 = 0 then sm_wp d 151 45 [some (.inr q0), some (.inl x1)] [.inr q0] (Z, Rf, K, n, z) Q else sm_wp d 151 35 [some (.inr q0), some (.inl x1)] [.inr q0] (Z, Rf, K, n, z) Q) := (w_aload_n t151_30 rfl rfl).trans ((w_iload_n t151_31 rfl rfl).trans (w_ifeq t151_32 rfl rfl rfl))
set_option maxRecDepth 10000 in
theorem b151_35 {d : Nat} {r0 : Nat} {l1 : Option sm_V} {qs0 : Option Nat} {Z : Nat → Nat → Int} {Rf : Nat → Nat → Option Nat} {K : Nat → Nat × Nat} {n z : Nat} {Q : Option sm_V → sm_S → Prop} : sm_wp d 151 35 [some (.inr (some r0)), l1] [.inr qs0] (Z, Rf, K, n, z) Q = ((K r0).1 = 11 ∧ sm_wp d 151 46 [some (.inr (some r0)), l1] [.inl ((Z r0 16) - 40), .inr qs0] (Z, Rf, K, n, z) Q) := (w_aload_n t151_35 rfl rfl).trans ((w_getI t151_36 rfl (by decide)).trans (congrArg (And _) ((w_bipush t151_39 rfl).trans ((w_isub t151_41 rfl).trans (w_goto t151_42 rfl)))))
set_option maxRecDepth 10000 in
theorem b151_45 {d : Nat} {l0 : Option sm_V} {l1 : Option sm_V} {qs0 : Option Nat} {Z : Nat → Nat → Int} {Rf : Nat → Nat → Option Nat} {K : Nat → Nat × Nat} {n z : Nat} {Q : Option sm_V → sm_S → Prop} : sm_wp d 151 45 [l0, l1] [.inr qs0] (Z, Rf, K, n, z) Q = (sm_wp d 151 46 [l0, l1] [.inl 0, .inr qs0] (Z, Rf, K, n, z) Q) := w_iconst t151_45 rfl
set_option maxRecDepth 10000 in
theorem b151_46 {d : Nat} {r0 : Nat} {l1 : Option sm_V} {rs0 : Nat} {s1 : Int} {Z : Nat → Nat → Int} {Rf : Nat → Nat → Option Nat} {K : Nat → Nat × Nat} {n z : Nat} {Q : Option sm_V → sm_S → Prop} : sm_wp (d + 1) 151 46 [some (.inr (some r0)), l1] [.inl s1, .inr (some rs0)] (Z, Rf, K, n, z) Q = ((K r0).1 = 11 ∧ (K rs0).1 = 11 ∧ sm_call d 147 [.inr (some rs0), .inl s1, .inl (Z r0 18)] (Z, Rf, K, n, z) (sm_cont (d + 1) 151 53 [some (.inr (some r0)), l1] [] Q)) := (w_aload_n t151_46 rfl rfl).trans ((w_getI t151_47 rfl (by decide)).trans (congrArg (And _) (w_callV t151_50 rfl rfl rfl rfl (Nat.le_of_ble_eq_true rfl) (Nat.le_of_ble_eq_true rfl) rfl (by decide))))
set_option maxRecDepth 10000 in
theorem b151_53 {d : Nat} {r0 : Nat} {l1 : Option sm_V} {Z : Nat → Nat → Int} {Rf : Nat → Nat → Option Nat} {K : Nat → Nat × Nat} {n z : Nat} {Q : Option sm_V → sm_S → Prop} : sm_wp (d + 1) 151 53 [some (.inr (some r0)), l1] [] (Z, Rf, K, n, z) Q = ((K r0).1 = 11 ∧ sm_call d 144 [.inr (some r0)] (Z, Rf, K, n, z) (sm_cont (d + 1) 151 57 [some (.inr (some r0)), l1] [] Q)) := (w_aload_n t151_53 rfl rfl).trans (w_callV t151_54 rfl rfl rfl rfl (Nat.le_of_ble_eq_true rfl) (Nat.le_of_ble_eq_true rfl) rfl (by decide))
set_option maxRecDepth 10000 in
theorem b151_57 {d : Nat} {l0 : Option sm_V} {l1 : Option sm_V} {Z : Nat → Nat → Int} {Rf : Nat → Nat → Option Nat} {K : Nat → Nat × Nat} {n z : Nat} {Q : Option sm_V → sm_S → Prop} : sm_wp d 151 57 [l0, l1] [] (Z, Rf, K, n, z) Q = (((1 : Int) = 0 ∨ (1 : Int) = 1) ∧ Q (some (.inl 1)) (Z, Rf, K, n, z)) := (w_iconst t151_57 rfl).trans (w_zret t151_58 wl_1)
theorem t152_0 : sm_at 152 0 = some (1, .aload_n 0, 0, 0, 0) := rfl
theorem t152_1 : sm_at 152 1 = some (3, .invokevirtual 204, 153, 1, 0) := rfl
theorem t152_4 : sm_at 152 4 = some (3, .ifCond .ne 5, 0, 0, 0) := rfl
theorem t152_7 : sm_at 152 7 = some (1, .iconst 0, 0, 0, 0) := rfl
theorem t152_8 : sm_at 152 8 = some (1, .ireturn, 1, 0, 0) := rfl
theorem t152_9 : sm_at 152 9 = some (1, .aload_n 0, 0, 0, 0) := rfl
theorem t152_10 : sm_at 152 10 = some (3, .getfield 161, 11, 16, 0) := rfl
theorem t152_13 : sm_at 152 13 = some (1, .iconst 4, 0, 0, 0) := rfl
theorem t152_14 : sm_at 152 14 = some (3, .if_icmp .ne 26, 0, 0, 0) := rfl
theorem t152_17 : sm_at 152 17 = some (1, .aload_n 0, 0, 0, 0) := rfl
theorem t152_18 : sm_at 152 18 = some (3, .invokevirtual 185, 144, 1, 0) := rfl
theorem t152_21 : sm_at 152 21 = some (1, .aload_n 0, 0, 0, 0) := rfl
theorem t152_22 : sm_at 152 22 = some (3, .invokevirtual 204, 153, 1, 0) := rfl
theorem t152_25 : sm_at 152 25 = some (3, .ifCond .ne 5, 0, 0, 0) := rfl
theorem t152_28 : sm_at 152 28 = some (1, .iconst 0, 0, 0, 0) := rfl
theorem t152_29 : sm_at 152 29 = some (1, .ireturn, 1, 0, 0) := rfl
theorem t152_30 : sm_at 152 30 = some (1, .aload_n 0, 0, 0, 0) := rfl
theorem t152_31 : sm_at 152 31 = some (2, .bipush 22, 0, 0, 0) := rfl
theorem t152_33 : sm_at 152 33 = some (1, .iconst 0, 0, 0, 0) := rfl
theorem t152_34 : sm_at 152 34 = some (3, .invokevirtual 198, 147, 3, 0) := rfl
theorem t152_37 : sm_at 152 37 = some (3, .goto (-28), 0, 0, 0) := rfl
theorem t152_40 : sm_at 152 40 = some (1, .iconst 1, 0, 0, 0) := rfl
theorem t152_41 : sm_at 152 41 = some (1, .ireturn, 1, 0, 0) := rfl
set_option maxRecDepth 10000 in
theorem b152_0 {d : Nat} {r0 : Nat} {Z : Nat → Nat → Int} {Rf : Nat → Nat → Option Nat} {K : Nat → Nat × Nat} {n z : Nat} {Q : Option sm_V → sm_S → Prop} : sm_wp (d + 1) 152 0 [some (.inr (some r0))] [] (Z, Rf, K, n, z) Q = ((K r0).1 = 11 ∧ sm_call d 153 [.inr (some r0)] (Z, Rf, K, n, z) (sm_cont (d + 1) 152 4 [some (.inr (some r0))] [] Q)) := (w_aload_n t152_0 rfl rfl).trans (w_callV t152_1 rfl rfl rfl rfl (Nat.le_of_ble_eq_true rfl) (Nat.le_of_ble_eq_true rfl) rfl (by decide))
set_option maxRecDepth 10000 in
theorem b152_4 {d : Nat} {l0 : Option sm_V} {s0 : Int} {Z : Nat → Nat → Int} {Rf : Nat → Nat → Option Nat} {K : Nat → Nat × Nat} {n z : Nat} {Q : Option sm_V → sm_S → Prop} : sm_wp d 152 4 [l0] [.inl s0] (Z, Rf, K, n, z) Q = (if wr s0 = 0 then sm_wp d 152 7 [l0] [] (Z, Rf, K, n, z) Q else sm_wp d 152 9 [l0] [] (Z, Rf, K, n, z) Q) := w_ifne t152_4 rfl rfl rfl
set_option maxRecDepth 10000 in
theorem b152_7 {d : Nat} {l0 : Option sm_V} {Z : Nat → Nat → Int} {Rf : Nat → Nat → Option Nat} {K : Nat → Nat × Nat} {n z : Nat} {Q : Option sm_V → sm_S → Prop} : sm_wp d 152 7 [l0] [] (Z, Rf, K, n, z) Q = (((0 : Int) = 0 ∨ (0 : Int) = 1) ∧ Q (some (.inl 0)) (Z, Rf, K, n, z)) := (w_iconst t152_7 rfl).trans (w_zret t152_8 wl_0)
set_option maxRecDepth 10000 in
theorem b152_9 {d : Nat} {r0 : Nat} {Z : Nat → Nat → Int} {Rf : Nat → Nat → Option Nat} {K : Nat → Nat × Nat} {n z : Nat} {Q : Option sm_V → sm_S → Prop} : sm_wp d 152 9 [some (.inr (some r0))] [] (Z, Rf, K, n, z) Q = ((K r0).1 = 11 ∧ (if wr (Z r0 16) = (4 : Int) then sm_wp d 152 17 [some (.inr (some r0))] [] (Z, Rf, K, n, z) Q else sm_wp d 152 40 [some (.inr (some r0))] [] (Z, Rf, K, n, z) Q)) := (w_aload_n t152_9 rfl rfl).trans ((w_getI t152_10 rfl (by decide)).trans (congrArg (And _) ((w_iconst t152_13 rfl).trans (w_icne t152_14 rfl wl_4 rfl rfl))))
set_option maxRecDepth 10000 in
theorem b152_17 {d : Nat} {r0 : Nat} {Z : Nat → Nat → Int} {Rf : Nat → Nat → Option Nat} {K : Nat → Nat × Nat} {n z : Nat} {Q : Option sm_V → sm_S → Prop} : sm_wp (d + 1) 152 17 [some (.inr (some r0))] [] (Z, Rf, K, n, z) Q = ((K r0).1 = 11 ∧ sm_call d 144 [.inr (some r0)] (Z, Rf, K, n, z) (sm_cont (d + 1) 152 21 [some (.inr (some r0))] [] Q)) := (w_aload_n t152_17 rfl rfl).trans (w_callV t152_18 rfl rfl rfl rfl (Nat.le_of_ble_eq_true rfl) (Nat.le_of_ble_eq_true rfl) rfl (by decide))
set_option maxRecDepth 10000 in
theorem b152_21 {d : Nat} {r0 : Nat} {Z : Nat → Nat → Int} {Rf : Nat → Nat → Option Nat} {K : Nat → Nat × Nat} {n z : Nat} {Q : Option sm_V → sm_S → Prop} : sm_wp (d + 1) 152 21 [some (.inr (some r0))] [] (Z, Rf, K, n, z) Q = ((K r0).1 = 11 ∧ sm_call d 153 [.inr (some r0)] (Z, Rf, K, n, z) (sm_cont (d + 1) 152 25 [some (.inr (some r0))] [] Q)) := (w_aload_n t152_21 rfl rfl).trans (w_callV t152_22 rfl rfl rfl rfl (Nat.le_of_ble_eq_true rfl) (Nat.le_of_ble_eq_true rfl) rfl (by decide))
set_option maxRecDepth 10000 in
theorem b152_25 {d : Nat} {l0 : Option sm_V} {s0 : Int} {Z : Nat → Nat → Int} {Rf : Nat → Nat → Option Nat} {K : Nat → Nat × Nat} {n z : Nat} {Q : Option sm_V → sm_S → Prop} : sm_wp d 152 25 [l0] [.inl s0] (Z, Rf, K, n, z) Q = (if wr s0 = 0 then sm_wp d 152 28 [l0] [] (Z, Rf, K, n, z) Q else sm_wp d 152 30 [l0] [] (Z, Rf, K, n, z) Q) := w_ifne t152_25 rfl rfl rfl
set_option maxRecDepth 10000 in
theorem b152_28 {d : Nat} {l0 : Option sm_V} {Z : Nat → Nat → Int} {Rf : Nat → Nat → Option Nat} {K : Nat → Nat × Nat} {n z : Nat} {Q : Option sm_V → sm_S → Prop} : sm_wp d 152 28 [l0] [] (Z, Rf, K, n, z) Q = (((0 : Int) = 0 ∨ (0 : Int) = 1) ∧ Q (some (.inl 0)) (Z, Rf, K, n, z)) := (w_iconst t152_28 rfl).trans (w_zret t152_29 wl_0)
set_option maxRecDepth 10000 in
theorem b152_30 {d : Nat} {r0 : Nat} {Z : Nat → Nat → Int} {Rf : Nat → Nat → Option Nat} {K : Nat → Nat × Nat} {n z : Nat} {Q : Option sm_V → sm_S → Prop} : sm_wp (d + 1) 152 30 [some (.inr (some r0))] [] (Z, Rf, K, n, z) Q = ((K r0).1 = 11 ∧ sm_call d 147 [.inr (some r0), .inl 22, .inl 0] (Z, Rf, K, n, z) (sm_cont (d + 1) 152 37 [some (.inr (some r0))] [] Q)) := (w_aload_n t152_30 rfl rfl).trans ((w_bipush t152_31 rfl).trans ((w_iconst t152_33 rfl).trans (w_callV t152_34 rfl rfl rfl rfl (Nat.le_of_ble_eq_true rfl) (Nat.le_of_ble_eq_true rfl) rfl (by decide))))
set_option maxRecDepth 10000 in
theorem b152_37 {d : Nat} {l0 : Option sm_V} {Z : Nat → Nat → Int} {Rf : Nat → Nat → Option Nat} {K : Nat → Nat × Nat} {n z : Nat} {Q : Option sm_V → sm_S → Prop} : sm_wp d 152 37 [l0] [] (Z, Rf, K, n, z) Q = (sm_wp d 152 9 [l0] [] (Z, Rf, K, n, z) Q) := w_goto t152_37 rfl
set_option maxRecDepth 10000 in
theorem b152_40 {d : Nat} {l0 : Option sm_V} {Z : Nat → Nat → Int} {Rf : Nat → Nat → Option Nat} {K : Nat → Nat × Nat} {n z : Nat} {Q : Option sm_V → sm_S → Prop} : sm_wp d 152 40 [l0] [] (Z, Rf, K, n, z) Q = (((1 : Int) = 0 ∨ (1 : Int) = 1) ∧ Q (some (.inl 1)) (Z, Rf, K, n, z)) := (w_iconst t152_40 rfl).trans (w_zret t152_41 wl_1)
theorem t153_0 : sm_at 153 0 = some (1, .aload_n 0, 0, 0, 0) := rfl
theorem t153_1 : sm_at 153 1 = some (3, .invokevirtual 207, 154, 1, 0) := rfl
theorem t153_4 : sm_at 153 4 = some (3, .ifCond .ne 5, 0, 0, 0) := rfl
theorem t153_7 : sm_at 153 7 = some (1, .iconst 0, 0, 0, 0) := rfl
theorem t153_8 : sm_at 153 8 = some (1, .ireturn, 1, 0, 0) := rfl
theorem t153_9 : sm_at 153 9 = some (1, .aload_n 0, 0, 0, 0) := rfl
theorem t153_10 : sm_at 153 10 = some (3, .getfield 161, 11, 16, 0) := rfl
theorem t153_13 : sm_at 153 13 = some (1, .iconst 5, 0, 0, 0) := rfl
theorem t153_14 : sm_at 153 14 = some (3, .if_icmp .ne 26, 0, 0, 0) := rfl
theorem t153_17 : sm_at 153 17 = some (1, .aload_n 0, 0, 0, 0) := rfl
theorem t153_18 : sm_at 153 18 = some (3, .invokevirtual 185, 144, 1, 0) := rfl
theorem t153_21 : sm_at 153 21 = some (1, .aload_n 0, 0, 0, 0) := rfl
theorem t153_22 : sm_at 153 22 = some (3, .invokevirtual 207, 154, 1, 0) := rfl
theorem t153_25 : sm_at 153 25 = some (3, .ifCond .ne 5, 0, 0, 0) := rfl
theorem t153_28 : sm_at 153 28 = some (1, .iconst 0, 0, 0, 0) := rfl
theorem t153_29 : sm_at 153 29 = some (1, .ireturn, 1, 0, 0) := rfl
theorem t153_30 : sm_at 153 30 = some (1, .aload_n 0, 0, 0, 0) := rfl
theorem t153_31 : sm_at 153 31 = some (2, .bipush 21, 0, 0, 0) := rfl
theorem t153_33 : sm_at 153 33 = some (1, .iconst 0, 0, 0, 0) := rfl
theorem t153_34 : sm_at 153 34 = some (3, .invokevirtual 198, 147, 3, 0) := rfl
theorem t153_37 : sm_at 153 37 = some (3, .goto (-28), 0, 0, 0) := rfl
theorem t153_40 : sm_at 153 40 = some (1, .iconst 1, 0, 0, 0) := rfl
theorem t153_41 : sm_at 153 41 = some (1, .ireturn, 1, 0, 0) := rfl
set_option maxRecDepth 10000 in
theorem b153_0 {d : Nat} {r0 : Nat} {Z : Nat → Nat → Int} {Rf : Nat → Nat → Option Nat} {K : Nat → Nat × Nat} {n z : Nat} {Q : Option sm_V → sm_S → Prop} : sm_wp (d + 1) 153 0 [some (.inr (some r0))] [] (Z, Rf, K, n, z) Q = ((K r0).1 = 11 ∧ sm_call d 154 [.inr (some r0)] (Z, Rf, K, n, z) (sm_cont (d + 1) 153 4 [some (.inr (some r0))] [] Q)) := (w_aload_n t153_0 rfl rfl).trans (w_callV t153_1 rfl rfl rfl rfl (Nat.le_of_ble_eq_true rfl) (Nat.le_of_ble_eq_true rfl) rfl (by decide))
set_option maxRecDepth 10000 in
theorem b153_4 {d : Nat} {l0 : Option sm_V} {s0 : Int} {Z : Nat → Nat → Int} {Rf : Nat → Nat → Option Nat} {K : Nat → Nat × Nat} {n z : Nat} {Q : Option sm_V → sm_S → Prop} : sm_wp d 153 4 [l0] [.inl s0] (Z, Rf, K, n, z) Q = (if wr s0 = 0 then sm_wp d 153 7 [l0] [] (Z, Rf, K, n, z) Q else sm_wp d 153 9 [l0] [] (Z, Rf, K, n, z) Q) := w_ifne t153_4 rfl rfl rfl
set_option maxRecDepth 10000 in
theorem b153_7 {d : Nat} {l0 : Option sm_V} {Z : Nat → Nat → Int} {Rf : Nat → Nat → Option Nat} {K : Nat → Nat × Nat} {n z : Nat} {Q : Option sm_V → sm_S → Prop} : sm_wp d 153 7 [l0] [] (Z, Rf, K, n, z) Q = (((0 : Int) = 0 ∨ (0 : Int) = 1) ∧ Q (some (.inl 0)) (Z, Rf, K, n, z)) := (w_iconst t153_7 rfl).trans (w_zret t153_8 wl_0)
set_option maxRecDepth 10000 in
theorem b153_9 {d : Nat} {r0 : Nat} {Z : Nat → Nat → Int} {Rf : Nat → Nat → Option Nat} {K : Nat → Nat × Nat} {n z : Nat} {Q : Option sm_V → sm_S → Prop} : sm_wp d 153 9 [some (.inr (some r0))] [] (Z, Rf, K, n, z) Q = ((K r0).1 = 11 ∧ (if wr (Z r0 16) = (5 : Int) then sm_wp d 153 17 [some (.inr (some r0))] [] (Z, Rf, K, n, z) Q else sm_wp d 153 40 [some (.inr (some r0))] [] (Z, Rf, K, n, z) Q)) := (w_aload_n t153_9 rfl rfl).trans ((w_getI t153_10 rfl (by decide)).trans (congrArg (And _) ((w_iconst t153_13 rfl).trans (w_icne t153_14 rfl wl_5 rfl rfl))))
set_option maxRecDepth 10000 in
theorem b153_17 {d : Nat} {r0 : Nat} {Z : Nat → Nat → Int} {Rf : Nat → Nat → Option Nat} {K : Nat → Nat × Nat} {n z : Nat} {Q : Option sm_V → sm_S → Prop} : sm_wp (d + 1) 153 17 [some (.inr (some r0))] [] (Z, Rf, K, n, z) Q = ((K r0).1 = 11 ∧ sm_call d 144 [.inr (some r0)] (Z, Rf, K, n, z) (sm_cont (d + 1) 153 21 [some (.inr (some r0))] [] Q)) := (w_aload_n t153_17 rfl rfl).trans (w_callV t153_18 rfl rfl rfl rfl (Nat.le_of_ble_eq_true rfl) (Nat.le_of_ble_eq_true rfl) rfl (by decide))
set_option maxRecDepth 10000 in
theorem b153_21 {d : Nat} {r0 : Nat} {Z : Nat → Nat → Int} {Rf : Nat → Nat → Option Nat} {K : Nat → Nat × Nat} {n z : Nat} {Q : Option sm_V → sm_S → Prop} : sm_wp (d + 1) 153 21 [some (.inr (some r0))] [] (Z, Rf, K, n, z) Q = ((K r0).1 = 11 ∧ sm_call d 154 [.inr (some r0)] (Z, Rf, K, n, z) (sm_cont (d + 1) 153 25 [some (.inr (some r0))] [] Q)) := (w_aload_n t153_21 rfl rfl).trans (w_callV t153_22 rfl rfl rfl rfl (Nat.le_of_ble_eq_true rfl) (Nat.le_of_ble_eq_true rfl) rfl (by decide))
set_option maxRecDepth 10000 in
theorem b153_25 {d : Nat} {l0 : Option sm_V} {s0 : Int} {Z : Nat → Nat → Int} {Rf : Nat → Nat → Option Nat} {K : Nat → Nat × Nat} {n z : Nat} {Q : Option sm_V → sm_S → Prop} : sm_wp d 153 25 [l0] [.inl s0] (Z, Rf, K, n, z) Q = (if wr s0 = 0 then sm_wp d 153 28 [l0] [] (Z, Rf, K, n, z) Q else sm_wp d 153 30 [l0] [] (Z, Rf, K, n, z) Q) := w_ifne t153_25 rfl rfl rfl
set_option maxRecDepth 10000 in
theorem b153_28 {d : Nat} {l0 : Option sm_V} {Z : Nat → Nat → Int} {Rf : Nat → Nat → Option Nat} {K : Nat → Nat × Nat} {n z : Nat} {Q : Option sm_V → sm_S → Prop} : sm_wp d 153 28 [l0] [] (Z, Rf, K, n, z) Q = (((0 : Int) = 0 ∨ (0 : Int) = 1) ∧ Q (some (.inl 0)) (Z, Rf, K, n, z)) := (w_iconst t153_28 rfl).trans (w_zret t153_29 wl_0)
set_option maxRecDepth 10000 in
theorem b153_30 {d : Nat} {r0 : Nat} {Z : Nat → Nat → Int} {Rf : Nat → Nat → Option Nat} {K : Nat → Nat × Nat} {n z : Nat} {Q : Option sm_V → sm_S → Prop} : sm_wp (d + 1) 153 30 [some (.inr (some r0))] [] (Z, Rf, K, n, z) Q = ((K r0).1 = 11 ∧ sm_call d 147 [.inr (some r0), .inl 21, .inl 0] (Z, Rf, K, n, z) (sm_cont (d + 1) 153 37 [some (.inr (some r0))] [] Q)) := (w_aload_n t153_30 rfl rfl).trans ((w_bipush t153_31 rfl).trans ((w_iconst t153_33 rfl).trans (w_callV t153_34 rfl rfl rfl rfl (Nat.le_of_ble_eq_true rfl) (Nat.le_of_ble_eq_true rfl) rfl (by decide))))
set_option maxRecDepth 10000 in
theorem b153_37 {d : Nat} {l0 : Option sm_V} {Z : Nat → Nat → Int} {Rf : Nat → Nat → Option Nat} {K : Nat → Nat × Nat} {n z : Nat} {Q : Option sm_V → sm_S → Prop} : sm_wp d 153 37 [l0] [] (Z, Rf, K, n, z) Q = (sm_wp d 153 9 [l0] [] (Z, Rf, K, n, z) Q) := w_goto t153_37 rfl
set_option maxRecDepth 10000 in
theorem b153_40 {d : Nat} {l0 : Option sm_V} {Z : Nat → Nat → Int} {Rf : Nat → Nat → Option Nat} {K : Nat → Nat × Nat} {n z : Nat} {Q : Option sm_V → sm_S → Prop} : sm_wp d 153 40 [l0] [] (Z, Rf, K, n, z) Q = (((1 : Int) = 0 ∨ (1 : Int) = 1) ∧ Q (some (.inl 1)) (Z, Rf, K, n, z)) := (w_iconst t153_40 rfl).trans (w_zret t153_41 wl_1)
theorem t154_0 : sm_at 154 0 = some (1, .aload_n 0, 0, 0, 0) := rfl
theorem t154_1 : sm_at 154 1 = some (3, .getfield 161, 11, 16, 0) := rfl
theorem t154_4 : sm_at 154 4 = some (2, .bipush 6, 0, 0, 0) := rfl
theorem t154_6 : sm_at 154 6 = some (3, .if_icmp .ne 38, 0, 0, 0) := rfl
theorem t154_9 : sm_at 154 9 = some (1, .aload_n 0, 0, 0, 0) := rfl
theorem t154_10 : sm_at 154 10 = some (3, .invokevirtual 210, 148, 1, 0) := rfl
theorem t154_13 : sm_at 154 13 = some (3, .ifCond .eq 10, 0, 0, 0) := rfl
theorem t154_16 : sm_at 154 16 = some (1, .aload_n 0, 0, 0, 0) := rfl
theorem t154_17 : sm_at 154 17 = some (3, .invokevirtual 207, 154, 1, 0) := rfl
theorem t154_20 : sm_at 154 20 = some (3, .ifCond .ne 5, 0, 0, 0) := rfl
theorem t154_23 : sm_at 154 23 = some (1, .iconst 0, 0, 0, 0) := rfl
theorem t154_24 : sm_at 154 24 = some (1, .ireturn, 1, 0, 0) := rfl
theorem t154_25 : sm_at 154 25 = some (1, .aload_n 0, 0, 0, 0) := rfl
theorem t154_26 : sm_at 154 26 = some (1, .dup, 0, 0, 0) := rfl
theorem t154_27 : sm_at 154 27 = some (3, .getfield 191, 11, 22, 0) := rfl
theorem t154_30 : sm_at 154 30 = some (1, .iconst 1, 0, 0, 0) := rfl
theorem t154_31 : sm_at 154 31 = some (1, .isub, 0, 0, 0) := rfl
theorem t154_32 : sm_at 154 32 = some (3, .putfield 191, 11, 22, 0) := rfl
theorem t154_35 : sm_at 154 35 = some (1, .aload_n 0, 0, 0, 0) := rfl
theorem t154_36 : sm_at 154 36 = some (2, .bipush 20, 0, 0, 0) := rfl
theorem t154_38 : sm_at 154 38 = some (1, .iconst 0, 0, 0, 0) := rfl
theorem t154_39 : sm_at 154 39 = some (3, .invokevirtual 198, 147, 3, 0) := rfl
theorem t154_42 : sm_at 154 42 = some (1, .iconst 1, 0, 0, 0) := rfl
theorem t154_43 : sm_at 154 43 = some (1, .ireturn, 1, 0, 0) := rfl
theorem t154_44 : sm_at 154 44 = some (1, .aload_n 0, 0, 0, 0) := rfl
theorem t154_45 : sm_at 154 45 = some (3, .getfield 161, 11, 16, 0) := rfl
theorem t154_48 : sm_at 154 48 = some (3, .sipush 140, 0, 0, 0) := rfl
theorem t154_51 : sm_at 154 51 = some (3, .if_icmp .ne 41, 0, 0, 0) := rfl
theorem t154_54 : sm_at 154 54 = some (1, .aload_n 0, 0, 0, 0) := rfl
theorem t154_55 : sm_at 154 55 = some (3, .invokevirtual 210, 148, 1, 0) := rfl
theorem t154_58 : sm_at 154 58 = some (3, .ifCond .eq 20, 0, 0, 0) := rfl
theorem t154_61 : sm_at 154 61 = some (1, .aload_n 0, 0, 0, 0) := rfl
theorem t154_62 : sm_at 154 62 = some (3, .invokevirtual 213, 152, 1, 0) := rfl
theorem t154_65 : sm_at 154 65 = some (3, .ifCond .eq 13, 0, 0, 0) := rfl
theorem t154_68 : sm_at 154 68 = some (1, .aload_n 0, 0, 0, 0) := rfl
theorem t154_69 : sm_at 154 69 = some (3, .sipush 141, 0, 0, 0) := rfl
theorem t154_72 : sm_at 154 72 = some (3, .invokevirtual 216, 146, 2, 0) := rfl
theorem t154_75 : sm_at 154 75 = some (3, .ifCond .ne 5, 0, 0, 0) := rfl
theorem t154_78 : sm_at 154 78 = some (1, .iconst 0, 0, 0, 0) := rfl
theorem t154_79 : sm_at 154 79 = some (1, .ireturn, 1, 0, 0) := rfl
theorem t154_80 : sm_at 154 80 = some (1, .aload_n 0, 0, 0, 0) := rfl
theorem t154_81 : sm_at 154 81 = some (1, .dup, 0, 0, 0) := rfl
theorem t154_82 : sm_at 154 82 = some (3, .getfield 191, 11, 22, 0) := rfl
theorem t154_85 : sm_at 154 85 = some (1, .iconst 1, 0, 0, 0) := rfl
theorem t154_86 : sm_at 154 86 = some (1, .isub, 0, 0, 0) := rfl
theorem t154_87 : sm_at 154 87 = some (3, .putfield 191, 11, 22, 0) := rfl
theorem t154_90 : sm_at 154 90 = some (1, .iconst 1, 0, 0, 0) := rfl
theorem t154_91 : sm_at 154 91 = some (1, .ireturn, 1, 0, 0) := rfl
theorem t154_92 : sm_at 154 92 = some (1, .aload_n 0, 0, 0, 0) := rfl
theorem t154_93 : sm_at 154 93 = some (3, .invokevirtual 219, 149, 1, 0) := rfl
theorem t154_96 : sm_at 154 96 = some (3, .ifCond .ne 5, 0, 0, 0) := rfl
theorem t154_99 : sm_at 154 99 = some (1, .iconst 0, 0, 0, 0) := rfl
theorem t154_100 : sm_at 154 100 = some (1, .ireturn, 1, 0, 0) := rfl
theorem t154_101 : sm_at 154 101 = some (1, .aload_n 0, 0, 0, 0) := rfl
theorem t154_102 : sm_at 154 102 = some (3, .getfield 161, 11, 16, 0) := rfl
theorem t154_105 : sm_at 154 105 = some (3, .sipush 160, 0, 0, 0) := rfl
theorem t154_108 : sm_at 154 108 = some (3, .if_icmp .ne 8, 0, 0, 0) := rfl
theorem t154_111 : sm_at 154 111 = some (2, .bipush 17, 0, 0, 0) := rfl
theorem t154_113 : sm_at 154 113 = some (3, .goto 34, 0, 0, 0) := rfl
theorem t154_116 : sm_at 154 116 = some (1, .aload_n 0, 0, 0, 0) := rfl
set_option maxRecDepth 100000 in
theorem t154_117 : sm_at 154 117 = some (3, .getfield 161, 11, 16, 0) := rfl
set_option maxRecDepth 100000 in
theorem t154_120 : sm_at 154 120 = some (3, .sipush 161, 0, 0, 0) := rfl
set_option maxRecDepth 100000 in
theorem t154_123 : sm_at 154 123 = some (3, .if_icmp .ne 8, 0, 0, 0) := rfl
set_option maxRecDepth 100000 in
theorem t154_126 : sm_at 154 126 = some (2, .bipush 18, 0, 0, 0) := rfl
set_option maxRecDepth 100000 in
theorem t154_128 : sm_at 154 128 = some (3, .goto 19, 0, 0, 0) := rfl
set_option maxRecDepth 100000 in
theorem t154_131 : sm_at 154 131 = some (1, .aload_n 0, 0, 0, 0) := rfl
set_option maxRecDepth 100000 in
theorem t154_132 : sm_at 154 132 = some (3, .getfield 161, 11, 16, 0) := rfl
set_option maxRecDepth 100000 in
theorem t154_135 : sm_at 154 135 = some (3, .sipush 162, 0, 0, 0) := rfl
set_option maxRecDepth 100000 in
theorem t154_138 : sm_at 154 138 = some (3, .if_icmp .ne 8, 0, 0, 0) := rfl
set_option maxRecDepth 100000 in
theorem t154_141 : sm_at 154 141 = some (2, .bipush 19, 0, 0, 0) := rfl
set_option maxRecDepth 100000 in
theorem t154_143 : sm_at 154 143 = some (3, .goto 4, 0, 0, 0) := rfl
set_option maxRecDepth 100000 in
theorem t154_146 : sm_at 154 146 = some (1, .iconst (-1), 0, 0, 0) := rfl
set_option maxRecDepth 100000 in
theorem t154_147 : sm_at 154 147 = some (1, .istore_n 1, 0, 0, 0) := rfl
set_option maxRecDepth 100000 in
theorem t154_148 : sm_at 154 148 = some (1, .iload_n 1, 0, 0, 0) := rfl
set_option maxRecDepth 100000 in
theorem t154_149 : sm_at 154 149 = some (1, .iconst (-1), 0, 0, 0) := rfl
set_option maxRecDepth 100000 in
theorem t154_150 : sm_at 154 150 = some (3, .if_icmp .ne 9, 0, 0, 0) := rfl
set_option maxRecDepth 100000 in
theorem t154_153 : sm_at 154 153 = some (1, .aload_n 0, 0, 0, 0) := rfl
set_option maxRecDepth 100000 in
theorem t154_154 : sm_at 154 154 = some (1, .iconst 1, 0, 0, 0) := rfl
set_option maxRecDepth 100000 in
theorem t154_155 : sm_at 154 155 = some (3, .invokevirtual 182, 145, 2, 0) := rfl
set_option maxRecDepth 100000 in
theorem t154_158 : sm_at 154 158 = some (1, .ireturn, 1, 0, 0) := rfl
set_option maxRecDepth 100000 in
theorem t154_159 : sm_at 154 159 = some (1, .aload_n 0, 0, 0, 0) := rfl
set_option maxRecDepth 100000 in
theorem t154_160 : sm_at 154 160 = some (3, .invokevirtual 185, 144, 1, 0) := rfl
set_option maxRecDepth 100000 in
theorem t154_163 : sm_at 154 163 = some (1, .aload_n 0, 0, 0, 0) := rfl
set_option maxRecDepth 100000 in
theorem t154_164 : sm_at 154 164 = some (3, .invokevirtual 219, 149, 1, 0) := rfl
set_option maxRecDepth 100000 in
theorem t154_167 : sm_at 154 167 = some (3, .ifCond .ne 5, 0, 0, 0) := rfl
set_option maxRecDepth 100000 in
theorem t154_170 : sm_at 154 170 = some (1, .iconst 0, 0, 0, 0) := rfl
set_option maxRecDepth 100000 in
theorem t154_171 : sm_at 154 171 = some (1, .ireturn, 1, 0, 0) := rfl
set_option maxRecDepth 100000 in
theorem t154_172 : sm_at 154 172 = some (1, .aload_n 0, 0, 0, 0) := rfl
set_option maxRecDepth 100000 in
theorem t154_173 : sm_at 154 173 = some (1, .iload_n 1, 0, 0, 0) := rfl
set_option maxRecDepth 100000 in
theorem t154_174 : sm_at 154 174 = some (1, .iconst 0, 0, 0, 0) := rfl
set_option maxRecDepth 100000 in
theorem t154_175 : sm_at 154 175 = some (3, .invokevirtual 198, 147, 3, 0) := rfl
set_option maxRecDepth 100000 in
theorem t154_178 : sm_at 154 178 = some (1, .iconst 1, 0, 0, 0) := rfl
set_option maxRecDepth 100000 in
theorem t154_179 : sm_at 154 179 = some (1, .ireturn, 1, 0, 0) := rfl
set_option maxRecDepth 10000 in
theorem b154_0 {d : Nat} {r0 : Nat} {l1 : Option sm_V} {Z : Nat → Nat → Int} {Rf : Nat → Nat → Option Nat} {K : Nat → Nat × Nat} {n z : Nat} {Q : Option sm_V → sm_S → Prop} : sm_wp d 154 0 [some (.inr (some r0)), l1] [] (Z, Rf, K, n, z) Q = ((K r0).1 = 11 ∧ (if wr (Z r0 16) = (6 : Int) then sm_wp d 154 9 [some (.inr (some r0)), l1] [] (Z, Rf, K, n, z) Q else sm_wp d 154 44 [some (.inr (some r0)), l1] [] (Z, Rf, K, n, z) Q)) := (w_aload_n t154_0 rfl rfl).trans ((w_getI t154_1 rfl (by decide)).trans (congrArg (And _) ((w_bipush t154_4 rfl).trans (w_icne t154_6 rfl wl_6 rfl rfl))))
set_option maxRecDepth 10000 in
theorem b154_9 {d : Nat} {r0 : Nat} {l1 : Option sm_V} {Z : Nat → Nat → Int} {Rf : Nat → Nat → Option Nat} {K : Nat → Nat × Nat} {n z : Nat} {Q : Option sm_V → sm_S → Prop} : sm_wp (d + 1) 154 9 [some (.inr (some r0)), l1] [] (Z, Rf, K, n, z) Q = ((K r0).1 = 11 ∧ sm_call d 148 [.inr (some r0)] (Z, Rf, K, n, z) (sm_cont (d + 1) 154 13 [some (.inr (some r0)), l1] [] Q)) := (w_aload_n t154_9 rfl rfl).trans (w_callV t154_10 rfl rfl rfl rfl (Nat.le_of_ble_eq_true rfl) (Nat.le_of_ble_eq_true rfl) rfl (by decide))
set_option maxRecDepth 10000 in
theorem b154_13 {d : Nat} {l0 : Option sm_V} {l1 : Option sm_V} {s0 : Int} {Z : Nat → Nat → Int} {Rf : Nat → Nat → Option Nat} {K : Nat → Nat × Nat} {n z : Nat} {Q : Option sm_V → sm_S → Prop} : sm_wp d 154 13 [l0, l1] [.inl s0] (Z, Rf, K, n, z) Q = (if wr s0 = 0 then sm_wp d 154 23 [l0, l1] [] (Z, Rf, K, n, z) Q else sm_wp d 154 16 [l0, l1] [] (Z, Rf, K, n, z) Q) := w_ifeq t154_13 rfl rfl rfl
set_option maxRecDepth 10000 in
theorem b154_16 {d : Nat} {r0 : Nat} {l1 : Option sm_V} {Z : Nat → Nat → Int} {Rf : Nat → Nat → Option Nat} {K : Nat → Nat × Nat} {n z : Nat} {Q : Option sm_V → sm_S → Prop} : sm_wp (d + 1) 154 16 [some (.inr (some r0)), l1] [] (Z, Rf, K, n, z) Q = ((K r0).1 = 11 ∧ sm_call d 154 [.inr (some r0)] (Z, Rf, K, n, z) (sm_cont (d + 1) 154 20 [some (.inr (some r0)), l1] [] Q)) := (w_aload_n t154_16 rfl rfl).trans (w_callV t154_17 rfl rfl rfl rfl (Nat.le_of_ble_eq_true rfl) (Nat.le_of_ble_eq_true rfl) rfl (by decide))
set_option maxRecDepth 10000 in
theorem b154_20 {d : Nat} {l0 : Option sm_V} {l1 : Option sm_V} {s0 : Int} {Z : Nat → Nat → Int} {Rf : Nat → Nat → Option Nat} {K : Nat → Nat × Nat} {n z : Nat} {Q : Option sm_V → sm_S → Prop} : sm_wp d 154 20 [l0, l1] [.inl s0] (Z, Rf, K, n, z) Q = (if wr s0 = 0 then sm_wp d 154 23 [l0, l1] [] (Z, Rf, K, n, z) Q else sm_wp d 154 25 [l0, l1] [] (Z, Rf, K, n, z) Q) := w_ifne t154_20 rfl rfl rfl
set_option maxRecDepth 10000 in
theorem b154_23 {d : Nat} {l0 : Option sm_V} {l1 : Option sm_V} {Z : Nat → Nat → Int} {Rf : Nat → Nat → Option Nat} {K : Nat → Nat × Nat} {n z : Nat} {Q : Option sm_V → sm_S → Prop} : sm_wp d 154 23 [l0, l1] [] (Z, Rf, K, n, z) Q = (((0 : Int) = 0 ∨ (0 : Int) = 1) ∧ Q (some (.inl 0)) (Z, Rf, K, n, z)) := (w_iconst t154_23 rfl).trans (w_zret t154_24 wl_0)
set_option maxRecDepth 10000 in
theorem b154_25 {d : Nat} {r0 : Nat} {l1 : Option sm_V} {Z : Nat → Nat → Int} {Rf : Nat → Nat → Option Nat} {K : Nat → Nat × Nat} {n z : Nat} {Q : Option sm_V → sm_S → Prop} : sm_wp (d + 1) 154 25 [some (.inr (some r0)), l1] [] (Z, Rf, K, n, z) Q = ((K r0).1 = 11 ∧ (K r0).1 = 11 ∧ (K r0).1 = 11 ∧ sm_call d 147 [.inr (some r0), .inl 20, .inl 0] (sm_u Z r0 22 ((Z r0 22) - 1), Rf, K, n, z) (sm_cont (d + 1) 154 42 [some (.inr (some r0)), l1] [] Q)) := (w_aload_n t154_25 rfl rfl).trans ((w_dup t154_26 rfl).trans ((w_getI t154_27 rfl (by decide)).trans (congrArg (And _) ((w_iconst t154_30 rfl).trans ((w_isub t154_31 rfl).trans ((w_putI t154_32 rfl (by decide)).trans (congrArg (And _) ((w_aload_n t154_35 rfl rfl).trans ((w_bipush t154_36 rfl).trans ((w_iconst t154_38 rfl).trans (w_callV t154_39 rfl rfl rfl rfl (Nat.le_of_ble_eq_true rfl) (Nat.le_of_ble_eq_true rfl) rfl (by decide))))))))))))
set_option maxRecDepth 10000 in
theorem b154_42 {d : Nat} {l0 : Option sm_V} {l1 : Option sm_V} {Z : Nat → Nat → Int} {Rf : Nat → Nat → Option Nat} {K : Nat → Nat × Nat} {n z : Nat} {Q : Option sm_V → sm_S → Prop} : sm_wp d 154 42 [l0, l1] [] (Z, Rf, K, n, z) Q = (((1 : Int) = 0 ∨ (1 : Int) = 1) ∧ Q (some (.inl 1)) (Z, Rf, K, n, z)) := (w_iconst t154_42 rfl).trans (w_zret t154_43 wl_1)
set_option maxRecDepth 10000 in
theorem b154_44 {d : Nat} {r0 : Nat} {l1 : Option sm_V} {Z : Nat → Nat → Int} {Rf : Nat → Nat → Option Nat} {K : Nat → Nat × Nat} {n z : Nat} {Q : Option sm_V → sm_S → Prop} : sm_wp d 154 44 [some (.inr (some r0)), l1] [] (Z, Rf, K, n, z) Q = ((K r0).1 = 11 ∧ (if wr (Z r0 16) = (140 : Int) then sm_wp d 154 54 [some (.inr (some r0)), l1] [] (Z, Rf, K, n, z) Q else sm_wp d 154 92 [some (.inr (some r0)), l1] [] (Z, Rf, K, n, z) Q)) := (w_aload_n t154_44 rfl rfl).trans ((w_getI t154_45 rfl (by decide)).trans (congrArg (And _) ((w_sipush t154_48 rfl).trans (w_icne t154_51 rfl wl_140 rfl rfl))))
set_option maxRecDepth 10000 in
theorem b154_54 {d : Nat} {r0 : Nat} {l1 : Option sm_V} {Z : Nat → Nat → Int} {Rf : Nat → Nat → Option Nat} {K : Nat → Nat × Nat} {n z : Nat} {Q : Option sm_V → sm_S → Prop} : sm_wp (d + 1) 154 54 [some (.inr (some r0)), l1] [] (Z, Rf, K, n, z) Q = ((K r0).1 = 11 ∧ sm_call d 148 [.inr (some r0)] (Z, Rf, K, n, z) (sm_cont (d + 1) 154 58 [some (.inr (some r0)), l1] [] Q)) := (w_aload_n t154_54 rfl rfl).trans (w_callV t154_55 rfl rfl rfl rfl (Nat.le_of_ble_eq_true rfl) (Nat.le_of_ble_eq_true rfl) rfl (by decide))
set_option maxRecDepth 10000 in
theorem b154_58 {d : Nat} {l0 : Option sm_V} {l1 : Option sm_V} {s0 : Int} {Z : Nat → Nat → Int} {Rf : Nat → Nat → Option Nat} {K : Nat → Nat × Nat} {n z : Nat} {Q : Option sm_V → sm_S → Prop} : sm_wp d 154 58 [l0, l1] [.inl s0] (Z, Rf, K, n, z) Q = (if wr s0 = 0 then sm_wp d 154 78 [l0, l1] [] (Z, Rf, K, n, z) Q else sm_wp d 154 61 [l0, l1] [] (Z, Rf, K, n, z) Q) := w_ifeq t154_58 rfl rfl rfl
set_option maxRecDepth 10000 in
theorem b154_61 {d : Nat} {r0 : Nat} {l1 : Option sm_V} {Z : Nat → Nat → Int} {Rf : Nat → Nat → Option Nat} {K : Nat → Nat × Nat} {n z : Nat} {Q : Option sm_V → sm_S → Prop} : sm_wp (d + 1) 154 61 [some (.inr (some r0)), l1] [] (Z, Rf, K, n, z) Q = ((K r0).1 = 11 ∧ sm_call d 152 [.inr (some r0)] (Z, Rf, K, n, z) (sm_cont (d + 1) 154 65 [some (.inr (some r0)), l1] [] Q)) := (w_aload_n t154_61 rfl rfl).trans (w_callV t154_62 rfl rfl rfl rfl (Nat.le_of_ble_eq_true rfl) (Nat.le_of_ble_eq_true rfl) rfl (by decide))
set_option maxRecDepth 10000 in
theorem b154_65 {d : Nat} {l0 : Option sm_V} {l1 : Option sm_V} {s0 : Int} {Z : Nat → Nat → Int} {Rf : Nat → Nat → Option Nat} {K : Nat → Nat × Nat} {n z : Nat} {Q : Option sm_V → sm_S → Prop} : sm_wp d 154 65 [l0, l1] [.inl s0] (Z, Rf, K, n, z) Q = (if wr s0 = 0 then sm_wp d 154 78 [l0, l1] [] (Z, Rf, K, n, z) Q else sm_wp d 154 68 [l0, l1] [] (Z, Rf, K, n, z) Q) := w_ifeq t154_65 rfl rfl rfl
set_option maxRecDepth 10000 in
theorem b154_68 {d : Nat} {r0 : Nat} {l1 : Option sm_V} {Z : Nat → Nat → Int} {Rf : Nat → Nat → Option Nat} {K : Nat → Nat × Nat} {n z : Nat} {Q : Option sm_V → sm_S → Prop} : sm_wp (d + 1) 154 68 [some (.inr (some r0)), l1] [] (Z, Rf, K, n, z) Q = ((K r0).1 = 11 ∧ sm_call d 146 [.inr (some r0), .inl 141] (Z, Rf, K, n, z) (sm_cont (d + 1) 154 75 [some (.inr (some r0)), l1] [] Q)) := (w_aload_n t154_68 rfl rfl).trans ((w_sipush t154_69 rfl).trans (w_callV t154_72 rfl rfl rfl rfl (Nat.le_of_ble_eq_true rfl) (Nat.le_of_ble_eq_true rfl) rfl (by decide)))
set_option maxRecDepth 10000 in
theorem b154_75 {d : Nat} {l0 : Option sm_V} {l1 : Option sm_V} {s0 : Int} {Z : Nat → Nat → Int} {Rf : Nat → Nat → Option Nat} {K : Nat → Nat × Nat} {n z : Nat} {Q : Option sm_V → sm_S → Prop} : sm_wp d 154 75 [l0, l1] [.inl s0] (Z, Rf, K, n, z) Q = (if wr s0 = 0 then sm_wp d 154 78 [l0, l1] [] (Z, Rf, K, n, z) Q else sm_wp d 154 80 [l0, l1] [] (Z, Rf, K, n, z) Q) := w_ifne t154_75 rfl rfl rfl
set_option maxRecDepth 10000 in
theorem b154_78 {d : Nat} {l0 : Option sm_V} {l1 : Option sm_V} {Z : Nat → Nat → Int} {Rf : Nat → Nat → Option Nat} {K : Nat → Nat × Nat} {n z : Nat} {Q : Option sm_V → sm_S → Prop} : sm_wp d 154 78 [l0, l1] [] (Z, Rf, K, n, z) Q = (((0 : Int) = 0 ∨ (0 : Int) = 1) ∧ Q (some (.inl 0)) (Z, Rf, K, n, z)) := (w_iconst t154_78 rfl).trans (w_zret t154_79 wl_0)
set_option maxRecDepth 10000 in
theorem b154_80 {d : Nat} {r0 : Nat} {l1 : Option sm_V} {Z : Nat → Nat → Int} {Rf : Nat → Nat → Option Nat} {K : Nat → Nat × Nat} {n z : Nat} {Q : Option sm_V → sm_S → Prop} : sm_wp d 154 80 [some (.inr (some r0)), l1] [] (Z, Rf, K, n, z) Q = ((K r0).1 = 11 ∧ (K r0).1 = 11 ∧ ((1 : Int) = 0 ∨ (1 : Int) = 1) ∧ Q (some (.inl 1)) (sm_u Z r0 22 ((Z r0 22) - 1), Rf, K, n, z)) := (w_aload_n t154_80 rfl rfl).trans ((w_dup t154_81 rfl).trans ((w_getI t154_82 rfl (by decide)).trans (congrArg (And _) ((w_iconst t154_85 rfl).trans ((w_isub t154_86 rfl).trans ((w_putI t154_87 rfl (by decide)).trans (congrArg (And _) ((w_iconst t154_90 rfl).trans (w_zret t154_91 wl_1)))))))))
set_option maxRecDepth 10000 in
theorem b154_92 {d : Nat} {r0 : Nat} {l1 : Option sm_V} {Z : Nat → Nat → Int} {Rf : Nat → Nat → Option Nat} {K : Nat → Nat × Nat} {n z : Nat} {Q : Option sm_V → sm_S → Prop} : sm_wp (d + 1) 154 92 [some (.inr (some r0)), l1] [] (Z, Rf, K, n, z) Q = ((K r0).1 = 11 ∧ sm_call d 149 [.inr (some r0)] (Z, Rf, K, n, z) (sm_cont (d + 1) 154 96 [some (.inr (some r0)), l1] [] Q)) := (w_aload_n t154_92 rfl rfl).trans (w_callV t154_93 rfl rfl rfl rfl (Nat.le_of_ble_eq_true rfl) (Nat.le_of_ble_eq_true rfl) rfl (by decide))
set_option maxRecDepth 10000 in
theorem b154_96 {d : Nat} {l0 : Option sm_V} {l1 : Option sm_V} {s0 : Int} {Z : Nat → Nat → Int} {Rf : Nat → Nat → Option Nat} {K : Nat → Nat × Nat} {n z : Nat} {Q : Option sm_V → sm_S → Prop} : sm_wp d 154 96 [l0, l1] [.inl s0] (Z, Rf, K, n, z) Q = (if wr s0 = 0 then sm_wp d 154 99 [l0, l1] [] (Z, Rf, K, n, z) Q else sm_wp d 154 101 [l0, l1] [] (Z, Rf, K, n, z) Q) := w_ifne t154_96 rfl rfl rfl
set_option maxRecDepth 10000 in
theorem b154_99 {d : Nat} {l0 : Option sm_V} {l1 : Option sm_V} {Z : Nat → Nat → Int} {Rf : Nat → Nat → Option Nat} {K : Nat → Nat × Nat} {n z : Nat} {Q : Option sm_V → sm_S → Prop} : sm_wp d 154 99 [l0, l1] [] (Z, Rf, K, n, z) Q = (((0 : Int) = 0 ∨ (0 : Int) = 1) ∧ Q (some (.inl 0)) (Z, Rf, K, n, z)) := (w_iconst t154_99 rfl).trans (w_zret t154_100 wl_0)
set_option maxRecDepth 10000 in
theorem b154_101 {d : Nat} {r0 : Nat} {l1 : Option sm_V} {Z : Nat → Nat → Int} {Rf : Nat → Nat → Option Nat} {K : Nat → Nat × Nat} {n z : Nat} {Q : Option sm_V → sm_S → Prop} : sm_wp d 154 101 [some (.inr (some r0)), l1] [] (Z, Rf, K, n, z) Q = ((K r0).1 = 11 ∧ (if wr (Z r0 16) = (160 : Int) then sm_wp d 154 111 [some (.inr (some r0)), l1] [] (Z, Rf, K, n, z) Q else sm_wp d 154 116 [some (.inr (some r0)), l1] [] (Z, Rf, K, n, z) Q)) := (w_aload_n t154_101 rfl rfl).trans ((w_getI t154_102 rfl (by decide)).trans (congrArg (And _) ((w_sipush t154_105 rfl).trans (w_icne t154_108 rfl wl_160 rfl rfl))))
set_option maxRecDepth 10000 in
theorem b154_111 {d : Nat} {l0 : Option sm_V} {l1 : Option sm_V} {Z : Nat → Nat → Int} {Rf : Nat → Nat → Option Nat} {K : Nat → Nat × Nat} {n z : Nat} {Q : Option sm_V → sm_S → Prop} : sm_wp d 154 111 [l0, l1] [] (Z, Rf, K, n, z) Q = (sm_wp d 154 147 [l0, l1] [.inl 17] (Z, Rf, K, n, z) Q) := (w_bipush t154_111 rfl).trans (w_goto t154_113 rfl)
set_option maxRecDepth 10000 in
theorem b154_116 {d : Nat} {r0 : Nat} {l1 : Option sm_V} {Z : Nat → Nat → Int} {Rf : Nat → Nat → Option Nat} {K : Nat → Nat × Nat} {n z : Nat} {Q : Option sm_V → sm_S → Prop} : sm_wp d 154 116 [some (.inr (some r0)), l1] [] (Z, Rf, K, n, z) Q = ((K r0).1 = 11 ∧ (if wr (Z r0 16) = (161 : Int) then sm_wp d 154 126 [some (.inr (some r0)), l1] [] (Z, Rf, K, n, z) Q else sm_wp d 154 131 [some (.inr (some r0)), l1] [] (Z, Rf, K, n, z) Q)) := (w_aload_n t154_116 rfl rfl).trans ((w_getI t154_117 rfl (by decide)).trans (congrArg (And _) ((w_sipush t154_120 rfl).trans (w_icne t154_123 rfl wl_161 rfl rfl))))
set_option maxRecDepth 10000 in
theorem b154_126 {d : Nat} {l0 : Option sm_V} {l1 : Option sm_V} {Z : Nat → Nat → Int} {Rf : Nat → Nat → Option Nat} {K : Nat → Nat × Nat} {n z : Nat} {Q : Option sm_V → sm_S → Prop} : sm_wp d 154 126 [l0, l1] [] (Z, Rf, K, n, z) Q = (sm_wp d 154 147 [l0, l1] [.inl 18] (Z, Rf, K, n, z) Q) := (w_bipush t154_126 rfl).trans (w_goto t154_128 rfl)
set_option maxRecDepth 10000 in
theorem b154_131 {d : Nat} {r0 : Nat} {l1 : Option sm_V} {Z : Nat → Nat → Int} {Rf : Nat → Nat → Option Nat} {K : Nat → Nat × Nat} {n z : Nat} {Q : Option sm_V → sm_S → Prop} : sm_wp d 154 131 [some (.inr (some r0)), l1] [] (Z, Rf, K, n, z) Q = ((K r0).1 = 11 ∧ (if wr (Z r0 16) = (162 : Int) then sm_wp d 154 141 [some (.inr (some r0)), l1] [] (Z, Rf, K, n, z) Q else sm_wp d 154 146 [some (.inr (some r0)), l1] [] (Z, Rf, K, n, z) Q)) := (w_aload_n t154_131 rfl rfl).trans ((w_getI t154_132 rfl (by decide)).trans (congrArg (And _) ((w_sipush t154_135 rfl).trans (w_icne t154_138 rfl wl_162 rfl rfl))))
set_option maxRecDepth 10000 in
theorem b154_141 {d : Nat} {l0 : Option sm_V} {l1 : Option sm_V} {Z : Nat → Nat → Int} {Rf : Nat → Nat → Option Nat} {K : Nat → Nat × Nat} {n z : Nat} {Q : Option sm_V → sm_S → Prop} : sm_wp d 154 141 [l0, l1] [] (Z, Rf, K, n, z) Q = (sm_wp d 154 147 [l0, l1] [.inl 19] (Z, Rf, K, n, z) Q) := (w_bipush t154_141 rfl).trans (w_goto t154_143 rfl)
set_option maxRecDepth 10000 in
theorem b154_146 {d : Nat} {l0 : Option sm_V} {l1 : Option sm_V} {Z : Nat → Nat → Int} {Rf : Nat → Nat → Option Nat} {K : Nat → Nat × Nat} {n z : Nat} {Q : Option sm_V → sm_S → Prop} : sm_wp d 154 146 [l0, l1] [] (Z, Rf, K, n, z) Q = (sm_wp d 154 147 [l0, l1] [.inl ((-1))] (Z, Rf, K, n, z) Q) := w_iconst t154_146 rfl
set_option maxRecDepth 10000 in
theorem b154_147 {d : Nat} {l0 : Option sm_V} {l1 : Option sm_V} {s0 : Int} {Z : Nat → Nat → Int} {Rf : Nat → Nat → Option Nat} {K : Nat → Nat × Nat} {n z : Nat} {Q : Option sm_V → sm_S → Prop} : sm_wp d 154 147 [l0, l1] [.inl s0] (Z, Rf, K, n, z) Q = (if wr s0 = (-1 : Int) then sm_wp d 154 153 [l0, some (.inl s0)] [] (Z, Rf, K, n, z) Q else sm_wp d 154 159 [l0, some (.inl s0)] [] (Z, Rf, K, n, z) Q) := (w_istore_n t154_147 rfl (Nat.le_of_ble_eq_true rfl) rfl).trans ((w_iload_n t154_148 rfl rfl).trans ((w_iconst t154_149 rfl).trans (w_icne t154_150 rfl wl_m1 rfl rfl)))
set_option maxRecDepth 10000 in
theorem b154_153 {d : Nat} {r0 : Nat} {l1 : Option sm_V} {Z : Nat → Nat → Int} {Rf : Nat → Nat → Option Nat} {K : Nat → Nat × Nat} {n z : Nat} {Q : Option sm_V → sm_S → Prop} : sm_wp (d + 1) 154 153 [some (.inr (some r0)), l1] [] (Z, Rf, K, n, z) Q = ((K r0).1 = 11 ∧ sm_call d 145 [.inr (some r0), .inl 1] (Z, Rf, K, n, z) (sm_cont (d + 1) 154 158 [some (.inr (some r0)), l1] [] Q)) := (w_aload_n t154_153 rfl rfl).trans ((w_iconst t154_154 rfl).trans (w_callV t154_155 rfl rfl rfl rfl (Nat.le_of_ble_eq_true rfl) (Nat.le_of_ble_eq_true rfl) rfl (by decide)))
set_option maxRecDepth 10000 in
theorem b154_158 {d : Nat} {l0 : Option sm_V} {l1 : Option sm_V} {s0 : Int} {Z : Nat → Nat → Int} {Rf : Nat → Nat → Option Nat} {K : Nat → Nat × Nat} {n z : Nat} {Q : Option sm_V → sm_S → Prop} : sm_wp d 154 158 [l0, l1] [.inl s0] (Z, Rf, K, n, z) Q = ((wr s0 = 0 ∨ wr s0 = 1) ∧ Q (some (.inl s0)) (Z, Rf, K, n, z)) := w_zret t154_158 rfl
set_option maxRecDepth 10000 in
theorem b154_159 {d : Nat} {r0 : Nat} {l1 : Option sm_V} {Z : Nat → Nat → Int} {Rf : Nat → Nat → Option Nat} {K : Nat → Nat × Nat} {n z : Nat} {Q : Option sm_V → sm_S → Prop} : sm_wp (d + 1) 154 159 [some (.inr (some r0)), l1] [] (Z, Rf, K, n, z) Q = ((K r0).1 = 11 ∧ sm_call d 144 [.inr (some r0)] (Z, Rf, K, n, z) (sm_cont (d + 1) 154 163 [some (.inr (some r0)), l1] [] Q)) := (w_aload_n t154_159 rfl rfl).trans (w_callV t154_160 rfl rfl rfl rfl (Nat.le_of_ble_eq_true rfl) (Nat.le_of_ble_eq_true rfl) rfl (by decide))
set_option maxRecDepth 10000 in
theorem b154_163 {d : Nat} {r0 : Nat} {l1 : Option sm_V} {Z : Nat → Nat → Int} {Rf : Nat → Nat → Option Nat} {K : Nat → Nat × Nat} {n z : Nat} {Q : Option sm_V → sm_S → Prop} : sm_wp (d + 1) 154 163 [some (.inr (some r0)), l1] [] (Z, Rf, K, n, z) Q = ((K r0).1 = 11 ∧ sm_call d 149 [.inr (some r0)] (Z, Rf, K, n, z) (sm_cont (d + 1) 154 167 [some (.inr (some r0)), l1] [] Q)) := (w_aload_n t154_163 rfl rfl).trans (w_callV t154_164 rfl rfl rfl rfl (Nat.le_of_ble_eq_true rfl) (Nat.le_of_ble_eq_true rfl) rfl (by decide))
set_option maxRecDepth 10000 in
theorem b154_167 {d : Nat} {l0 : Option sm_V} {l1 : Option sm_V} {s0 : Int} {Z : Nat → Nat → Int} {Rf : Nat → Nat → Option Nat} {K : Nat → Nat × Nat} {n z : Nat} {Q : Option sm_V → sm_S → Prop} : sm_wp d 154 167 [l0, l1] [.inl s0] (Z, Rf, K, n, z) Q = (if wr s0 = 0 then sm_wp d 154 170 [l0, l1] [] (Z, Rf, K, n, z) Q else sm_wp d 154 172 [l0, l1] [] (Z, Rf, K, n, z) Q) := w_ifne t154_167 rfl rfl rfl
set_option maxRecDepth 10000 in
theorem b154_170 {d : Nat} {l0 : Option sm_V} {l1 : Option sm_V} {Z : Nat → Nat → Int} {Rf : Nat → Nat → Option Nat} {K : Nat → Nat × Nat} {n z : Nat} {Q : Option sm_V → sm_S → Prop} : sm_wp d 154 170 [l0, l1] [] (Z, Rf, K, n, z) Q = (((0 : Int) = 0 ∨ (0 : Int) = 1) ∧ Q (some (.inl 0)) (Z, Rf, K, n, z)) := (w_iconst t154_170 rfl).trans (w_zret t154_171 wl_0)
set_option maxRecDepth 10000 in
theorem b154_172 {d : Nat} {r0 : Nat} {x1 : Int} {Z : Nat → Nat → Int} {Rf : Nat → Nat → Option Nat} {K : Nat → Nat × Nat} {n z : Nat} {Q : Option sm_V → sm_S → Prop} : sm_wp (d + 1) 154 172 [some (.inr (some r0)), some (.inl x1)] [] (Z, Rf, K, n, z) Q = ((K r0).1 = 11 ∧ sm_call d 147 [.inr (some r0), .inl x1, .inl 0] (Z, Rf, K, n, z) (sm_cont (d + 1) 154 178 [some (.inr (some r0)), some (.inl x1)] [] Q)) := (w_aload_n t154_172 rfl rfl).trans ((w_iload_n t154_173 rfl rfl).trans ((w_iconst t154_174 rfl).trans (w_callV t154_175 rfl rfl rfl rfl (Nat.le_of_ble_eq_true rfl) (Nat.le_of_ble_eq_true rfl) rfl (by decide))))
set_option maxRecDepth 10000 in
theorem b154_178 {d : Nat} {l0 : Option sm_V} {l1 : Option sm_V} {Z : Nat → Nat → Int} {Rf : Nat → Nat → Option Nat} {K : Nat → Nat × Nat} {n z : Nat} {Q : Option sm_V → sm_S → Prop} : sm_wp d 154 178 [l0, l1] [] (Z, Rf, K, n, z) Q = (((1 : Int) = 0 ∨ (1 : Int) = 1) ∧ Q (some (.inl 1)) (Z, Rf, K, n, z)) := (w_iconst t154_178 rfl).trans (w_zret t154_179 wl_1)
theorem t155_0 : sm_at 155 0 = some (1, .aload_n 0, 0, 0, 0) := rfl
theorem t155_1 : sm_at 155 1 = some (3, .getfield 161, 11, 16, 0) := rfl
theorem t155_4 : sm_at 155 4 = some (2, .bipush 20, 0, 0, 0) := rfl
theorem t155_6 : sm_at 155 6 = some (2, .bipush 24, 0, 0, 0) := rfl
theorem t155_8 : sm_at 155 8 = some (3, .invokestatic 75, 120, 3, 0) := rfl
theorem t155_11 : sm_at 155 11 = some (3, .ifCond .ne 9, 0, 0, 0) := rfl
theorem t155_14 : sm_at 155 14 = some (1, .aload_n 0, 0, 0, 0) := rfl
theorem t155_15 : sm_at 155 15 = some (1, .iconst 1, 0, 0, 0) := rfl
theorem t155_16 : sm_at 155 16 = some (3, .invokevirtual 182, 145, 2, 0) := rfl
theorem t155_19 : sm_at 155 19 = some (1, .ireturn, 1, 0, 0) := rfl
theorem t155_20 : sm_at 155 20 = some (1, .aload_n 0, 0, 0, 0) := rfl
theorem t155_21 : sm_at 155 21 = some (3, .getfield 222, 11, 12, 0) := rfl
theorem t155_24 : sm_at 155 24 = some (2, .bipush 16, 0, 0, 0) := rfl
theorem t155_26 : sm_at 155 26 = some (3, .if_icmp .ne 9, 0, 0, 0) := rfl
theorem t155_29 : sm_at 155 29 = some (1, .aload_n 0, 0, 0, 0) := rfl
theorem t155_30 : sm_at 155 30 = some (1, .iconst 3, 0, 0, 0) := rfl
theorem t155_31 : sm_at 155 31 = some (3, .invokevirtual 182, 145, 2, 0) := rfl
theorem t155_34 : sm_at 155 34 = some (1, .ireturn, 1, 0, 0) := rfl
theorem t155_35 : sm_at 155 35 = some (1, .aload_n 0, 0, 0, 0) := rfl
theorem t155_36 : sm_at 155 36 = some (3, .getfield 22, 11, 7, 0) := rfl
theorem t155_39 : sm_at 155 39 = some (1, .iconst 3, 0, 0, 0) := rfl
theorem t155_40 : sm_at 155 40 = some (1, .aload_n 0, 0, 0, 0) := rfl
theorem t155_41 : sm_at 155 41 = some (3, .getfield 222, 11, 12, 0) := rfl
theorem t155_44 : sm_at 155 44 = some (1, .imul, 0, 0, 0) := rfl
theorem t155_45 : sm_at 155 45 = some (1, .aload_n 0, 0, 0, 0) := rfl
theorem t155_46 : sm_at 155 46 = some (3, .getfield 161, 11, 16, 0) := rfl
theorem t155_49 : sm_at 155 49 = some (2, .bipush 20, 0, 0, 0) := rfl
theorem t155_51 : sm_at 155 51 = some (1, .isub, 0, 0, 0) := rfl
theorem t155_52 : sm_at 155 52 = some (1, .iastore, 0, 0, 0) := rfl
theorem t155_53 : sm_at 155 53 = some (1, .aload_n 0, 0, 0, 0) := rfl
theorem t155_54 : sm_at 155 54 = some (1, .iconst 0, 0, 0, 0) := rfl
theorem t155_55 : sm_at 155 55 = some (3, .putfield 191, 11, 22, 0) := rfl
theorem t155_58 : sm_at 155 58 = some (1, .aload_n 0, 0, 0, 0) := rfl
theorem t155_59 : sm_at 155 59 = some (3, .invokevirtual 185, 144, 1, 0) := rfl
theorem t155_62 : sm_at 155 62 = some (1, .aload_n 0, 0, 0, 0) := rfl
theorem t155_63 : sm_at 155 63 = some (3, .getfield 22, 11, 7, 0) := rfl
theorem t155_66 : sm_at 155 66 = some (1, .iconst 3, 0, 0, 0) := rfl
theorem t155_67 : sm_at 155 67 = some (1, .aload_n 0, 0, 0, 0) := rfl
theorem t155_68 : sm_at 155 68 = some (3, .getfield 222, 11, 12, 0) := rfl
theorem t155_71 : sm_at 155 71 = some (1, .imul, 0, 0, 0) := rfl
theorem t155_72 : sm_at 155 72 = some (1, .iconst 1, 0, 0, 0) := rfl
theorem t155_73 : sm_at 155 73 = some (1, .iadd, 0, 0, 0) := rfl
theorem t155_74 : sm_at 155 74 = some (1, .aload_n 0, 0, 0, 0) := rfl
theorem t155_75 : sm_at 155 75 = some (3, .getfield 188, 11, 13, 0) := rfl
theorem t155_78 : sm_at 155 78 = some (1, .iastore, 0, 0, 0) := rfl
theorem t155_79 : sm_at 155 79 = some (1, .aload_n 0, 0, 0, 0) := rfl
theorem t155_80 : sm_at 155 80 = some (3, .getfield 161, 11, 16, 0) := rfl
theorem t155_83 : sm_at 155 83 = some (1, .iconst 3, 0, 0, 0) := rfl
theorem t155_84 : sm_at 155 84 = some (3, .if_icmp .ne 16, 0, 0, 0) := rfl
theorem t155_87 : sm_at 155 87 = some (1, .aload_n 0, 0, 0, 0) := rfl
theorem t155_88 : sm_at 155 88 = some (3, .invokevirtual 185, 144, 1, 0) := rfl
theorem t155_91 : sm_at 155 91 = some (1, .aload_n 0, 0, 0, 0) := rfl
theorem t155_92 : sm_at 155 92 = some (3, .invokevirtual 213, 152, 1, 0) := rfl
theorem t155_95 : sm_at 155 95 = some (3, .ifCond .ne 5, 0, 0, 0) := rfl
theorem t155_98 : sm_at 155 98 = some (1, .iconst 0, 0, 0, 0) := rfl
theorem t155_99 : sm_at 155 99 = some (1, .ireturn, 1, 0, 0) := rfl
theorem t155_100 : sm_at 155 100 = some (1, .aload_n 0, 0, 0, 0) := rfl
theorem t155_101 : sm_at 155 101 = some (3, .getfield 22, 11, 7, 0) := rfl
theorem t155_104 : sm_at 155 104 = some (1, .iconst 3, 0, 0, 0) := rfl
theorem t155_105 : sm_at 155 105 = some (1, .aload_n 0, 0, 0, 0) := rfl
set_option maxRecDepth 100000 in
theorem t155_106 : sm_at 155 106 = some (3, .getfield 222, 11, 12, 0) := rfl
set_option maxRecDepth 100000 in
theorem t155_109 : sm_at 155 109 = some (1, .imul, 0, 0, 0) := rfl
set_option maxRecDepth 100000 in
theorem t155_110 : sm_at 155 110 = some (1, .iconst 2, 0, 0, 0) := rfl
set_option maxRecDepth 100000 in
theorem t155_111 : sm_at 155 111 = some (1, .iadd, 0, 0, 0) := rfl
set_option maxRecDepth 100000 in
theorem t155_112 : sm_at 155 112 = some (1, .aload_n 0, 0, 0, 0) := rfl
set_option maxRecDepth 100000 in
theorem t155_113 : sm_at 155 113 = some (3, .getfield 188, 11, 13, 0) := rfl
set_option maxRecDepth 100000 in
theorem t155_116 : sm_at 155 116 = some (1, .iastore, 0, 0, 0) := rfl
set_option maxRecDepth 100000 in
theorem t155_117 : sm_at 155 117 = some (1, .aload_n 0, 0, 0, 0) := rfl
set_option maxRecDepth 100000 in
theorem t155_118 : sm_at 155 118 = some (3, .sipush 159, 0, 0, 0) := rfl
set_option maxRecDepth 100000 in
theorem t155_121 : sm_at 155 121 = some (3, .invokevirtual 216, 146, 2, 0) := rfl
set_option maxRecDepth 100000 in
theorem t155_124 : sm_at 155 124 = some (1, .ireturn, 1, 0, 0) := rfl
set_option maxRecDepth 10000 in
theorem b155_0 {d : Nat} {r0 : Nat} {Z : Nat → Nat → Int} {Rf : Nat → Nat → Option Nat} {K : Nat → Nat × Nat} {n z : Nat} {Q : Option sm_V → sm_S → Prop} : sm_wp (d + 1) 155 0 [some (.inr (some r0))] [] (Z, Rf, K, n, z) Q = ((K r0).1 = 11 ∧ sm_call d 120 [.inl (Z r0 16), .inl 20, .inl 24] (Z, Rf, K, n, z) (sm_cont (d + 1) 155 11 [some (.inr (some r0))] [] Q)) := (w_aload_n t155_0 rfl rfl).trans ((w_getI t155_1 rfl (by decide)).trans (congrArg (And _) ((w_bipush t155_4 rfl).trans ((w_bipush t155_6 rfl).trans (w_callS t155_8 rfl rfl rfl rfl (Nat.le_of_ble_eq_true rfl) (Nat.le_of_ble_eq_true rfl) rfl)))))
set_option maxRecDepth 10000 in
theorem b155_11 {d : Nat} {l0 : Option sm_V} {s0 : Int} {Z : Nat → Nat → Int} {Rf : Nat → Nat → Option Nat} {K : Nat → Nat × Nat} {n z : Nat} {Q : Option sm_V → sm_S → Prop} : sm_wp d 155 11 [l0] [.inl s0] (Z, Rf, K, n, z) Q = (if wr s0 = 0 then sm_wp d 155 14 [l0] [] (Z, Rf, K, n, z) Q else sm_wp d 155 20 [l0] [] (Z, Rf, K, n, z) Q) := w_ifne t155_11 rfl rfl rfl
set_option maxRecDepth 10000 in
theorem b155_14 {d : Nat} {r0 : Nat} {Z : Nat → Nat → Int} {Rf : Nat → Nat → Option Nat} {K : Nat → Nat × Nat} {n z : Nat} {Q : Option sm_V → sm_S → Prop} : sm_wp (d + 1) 155 14 [some (.inr (some r0))] [] (Z, Rf, K, n, z) Q = ((K r0).1 = 11 ∧ sm_call d 145 [.inr (some r0), .inl 1] (Z, Rf, K, n, z) (sm_cont (d + 1) 155 19 [some (.inr (some r0))] [] Q)) := (w_aload_n t155_14 rfl rfl).trans ((w_iconst t155_15 rfl).trans (w_callV t155_16 rfl rfl rfl rfl (Nat.le_of_ble_eq_true rfl) (Nat.le_of_ble_eq_true rfl) rfl (by decide)))
set_option maxRecDepth 10000 in
theorem b155_19 {d : Nat} {l0 : Option sm_V} {s0 : Int} {Z : Nat → Nat → Int} {Rf : Nat → Nat → Option Nat} {K : Nat → Nat × Nat} {n z : Nat} {Q : Option sm_V → sm_S → Prop} : sm_wp d 155 19 [l0] [.inl s0] (Z, Rf, K, n, z) Q = ((wr s0 = 0 ∨ wr s0 = 1) ∧ Q (some (.inl s0)) (Z, Rf, K, n, z)) := w_zret t155_19 rfl
set_option maxRecDepth 10000 in
theorem b155_20 {d : Nat} {r0 : Nat} {Z : Nat → Nat → Int} {Rf : Nat → Nat → Option Nat} {K : Nat → Nat × Nat} {n z : Nat} {Q : Option sm_V → sm_S → Prop} : sm_wp d 155 20 [some (.inr (some r0))] [] (Z, Rf, K, n, z) Q = ((K r0).1 = 11 ∧ (if wr (Z r0 12) = (16 : Int) then sm_wp d 155 29 [some (.inr (some r0))] [] (Z, Rf, K, n, z) Q else sm_wp d 155 35 [some (.inr (some r0))] [] (Z, Rf, K, n, z) Q)) := (w_aload_n t155_20 rfl rfl).trans ((w_getI t155_21 rfl (by decide)).trans (congrArg (And _) ((w_bipush t155_24 rfl).trans (w_icne t155_26 rfl wl_16 rfl rfl))))
set_option maxRecDepth 10000 in
theorem b155_29 {d : Nat} {r0 : Nat} {Z : Nat → Nat → Int} {Rf : Nat → Nat → Option Nat} {K : Nat → Nat × Nat} {n z : Nat} {Q : Option sm_V → sm_S → Prop} : sm_wp (d + 1) 155 29 [some (.inr (some r0))] [] (Z, Rf, K, n, z) Q = ((K r0).1 = 11 ∧ sm_call d 145 [.inr (some r0), .inl 3] (Z, Rf, K, n, z) (sm_cont (d + 1) 155 34 [some (.inr (some r0))] [] Q)) := (w_aload_n t155_29 rfl rfl).trans ((w_iconst t155_30 rfl).trans (w_callV t155_31 rfl rfl rfl rfl (Nat.le_of_ble_eq_true rfl) (Nat.le_of_ble_eq_true rfl) rfl (by decide)))
set_option maxRecDepth 10000 in
theorem b155_34 {d : Nat} {l0 : Option sm_V} {s0 : Int} {Z : Nat → Nat → Int} {Rf : Nat → Nat → Option Nat} {K : Nat → Nat × Nat} {n z : Nat} {Q : Option sm_V → sm_S → Prop} : sm_wp d 155 34 [l0] [.inl s0] (Z, Rf, K, n, z) Q = ((wr s0 = 0 ∨ wr s0 = 1) ∧ Q (some (.inl s0)) (Z, Rf, K, n, z)) := w_zret t155_34 rfl
set_option maxRecDepth 10000 in
theorem b155_35 {d : Nat} {r0 : Nat} {Z : Nat → Nat → Int} {Rf : Nat → Nat → Option Nat} {K : Nat → Nat × Nat} {n z : Nat} {Q : Option sm_V → sm_S → Prop} : sm_wp (d + 1) 155 35 [some (.inr (some r0))] [] (Z, Rf, K, n, z) Q = ((K r0).1 = 11 ∧ (Rf r0 7).isSome = true ∧ (K r0).1 = 11 ∧ (K r0).1 = 11 ∧ sm_wt (K (((Rf r0 7).getD 0))) (wr (3 * (Z r0 12))) ∧ (K r0).1 = 11 ∧ (K r0).1 = 11 ∧ sm_call d 144 [.inr (some r0)] (sm_u (sm_u Z (((Rf r0 7).getD 0)) ((wr (3 * (Z r0 12))).toNat) ((Z r0 16) - 20)) r0 22 0, Rf, K, n, z) (sm_cont (d + 1) 155 62 [some (.inr (some r0))] [] Q)) := (w_aload_n t155_35 rfl rfl).trans ((w_getR t155_36 rfl (by decide)).trans (congrArg (And _) (congrArg (And _) ((w_iconst t155_39 rfl).trans ((w_aload_n t155_40 rfl rfl).trans ((w_getI t155_41 rfl (by decide)).trans (congrArg (And _) ((w_imul t155_44 rfl).trans ((w_aload_n t155_45 rfl rfl).trans ((w_getI t155_46 rfl (by decide)).trans (congrArg (And _) ((w_bipush t155_49 rfl).trans ((w_isub t155_51 rfl).trans ((w_iast t155_52 rfl rfl).trans (congrArg (And _) ((w_aload_n t155_53 rfl rfl).trans ((w_iconst t155_54 rfl).trans ((w_putI t155_55 rfl (by decide)).trans (congrArg (And _) ((w_aload_n t155_58 rfl rfl).trans (w_callV t155_59 rfl rfl rfl rfl (Nat.le_of_ble_eq_true rfl) (Nat.le_of_ble_eq_true rfl) rfl (by decide))))))))))))))))))))))
set_option maxRecDepth 10000 in
theorem b155_62 {d : Nat} {r0 : Nat} {Z : Nat → Nat → Int} {Rf : Nat → Nat → Option Nat} {K : Nat → Nat × Nat} {n z : Nat} {Q : Option sm_V → sm_S → Prop} : sm_wp d 155 62 [some (.inr (some r0))] [] (Z, Rf, K, n, z) Q = ((K r0).1 = 11 ∧ (Rf r0 7).isSome = true ∧ (K r0).1 = 11 ∧ (K r0).1 = 11 ∧ sm_wt (K (((Rf r0 7).getD 0))) (wr ((3 * (Z r0 12)) + 1)) ∧ (K r0).1 = 11 ∧ (if wr ((sm_u Z (((Rf r0 7).getD 0)) ((wr ((3 * (Z r0 12)) + 1)).toNat) (Z r0 13)) r0 16) = (3 : Int) then sm_wp d 155 87 [some (.inr (some r0))] [] (sm_u Z (((Rf r0 7).getD 0)) ((wr ((3 * (Z r0 12)) + 1)).toNat) (Z r0 13), Rf, K, n, z) Q else sm_wp d 155 100 [some (.inr (some r0))] [] (sm_u Z (((Rf r0 7).getD 0)) ((wr ((3 * (Z r0 12)) + 1)).toNat) (Z r0 13), Rf, K, n, z) Q)) := (w_aload_n t155_62 rfl rfl).trans ((w_getR t155_63 rfl (by decide)).trans (congrArg (And _) (congrArg (And _) ((w_iconst t155_66 rfl).trans ((w_aload_n t155_67 rfl rfl).trans ((w_getI t155_68 rfl (by decide)).trans (congrArg (And _) ((w_imul t155_71 rfl).trans ((w_iconst t155_72 rfl).trans ((w_iadd t155_73 rfl).trans ((w_aload_n t155_74 rfl rfl).trans ((w_getI t155_75 rfl (by decide)).trans (congrArg (And _) ((w_iast t155_78 rfl rfl).trans (congrArg (And _) ((w_aload_n t155_79 rfl rfl).trans ((w_getI t155_80 rfl (by decide)).trans (congrArg (And _) ((w_iconst t155_83 rfl).trans (w_icne t155_84 rfl wl_3 rfl rfl))))))))))))))))))))
set_option maxRecDepth 10000 in
theorem b155_87 {d : Nat} {r0 : Nat} {Z : Nat → Nat → Int} {Rf : Nat → Nat → Option Nat} {K : Nat → Nat × Nat} {n z : Nat} {Q : Option sm_V → sm_S → Prop} : sm_wp (d + 1) 155 87 [some (.inr (some r0))] [] (Z, Rf, K, n, z) Q = ((K r0).1 = 11 ∧ sm_call d 144 [.inr (some r0)] (Z, Rf, K, n, z) (sm_cont (d + 1) 155 91 [some (.inr (some r0))] [] Q)) := (w_aload_n t155_87 rfl rfl).trans (w_callV t155_88 rfl rfl rfl rfl (Nat.le_of_ble_eq_true rfl) (Nat.le_of_ble_eq_true rfl) rfl (by decide))
set_option maxRecDepth 10000 in
theorem b155_91 {d : Nat} {r0 : Nat} {Z : Nat → Nat → Int} {Rf : Nat → Nat → Option Nat} {K : Nat → Nat × Nat} {n z : Nat} {Q : Option sm_V → sm_S → Prop} : sm_wp (d + 1) 155 91 [some (.inr (some r0))] [] (Z, Rf, K, n, z) Q = ((K r0).1 = 11 ∧ sm_call d 152 [.inr (some r0)] (Z, Rf, K, n, z) (sm_cont (d + 1) 155 95 [some (.inr (some r0))] [] Q)) := (w_aload_n t155_91 rfl rfl).trans (w_callV t155_92 rfl rfl rfl rfl (Nat.le_of_ble_eq_true rfl) (Nat.le_of_ble_eq_true rfl) rfl (by decide))
set_option maxRecDepth 10000 in
theorem b155_95 {d : Nat} {l0 : Option sm_V} {s0 : Int} {Z : Nat → Nat → Int} {Rf : Nat → Nat → Option Nat} {K : Nat → Nat × Nat} {n z : Nat} {Q : Option sm_V → sm_S → Prop} : sm_wp d 155 95 [l0] [.inl s0] (Z, Rf, K, n, z) Q = (if wr s0 = 0 then sm_wp d 155 98 [l0] [] (Z, Rf, K, n, z) Q else sm_wp d 155 100 [l0] [] (Z, Rf, K, n, z) Q) := w_ifne t155_95 rfl rfl rfl
set_option maxRecDepth 10000 in
theorem b155_98 {d : Nat} {l0 : Option sm_V} {Z : Nat → Nat → Int} {Rf : Nat → Nat → Option Nat} {K : Nat → Nat × Nat} {n z : Nat} {Q : Option sm_V → sm_S → Prop} : sm_wp d 155 98 [l0] [] (Z, Rf, K, n, z) Q = (((0 : Int) = 0 ∨ (0 : Int) = 1) ∧ Q (some (.inl 0)) (Z, Rf, K, n, z)) := (w_iconst t155_98 rfl).trans (w_zret t155_99 wl_0)
set_option maxRecDepth 10000 in
theorem b155_100 {d : Nat} {r0 : Nat} {Z : Nat → Nat → Int} {Rf : Nat → Nat → Option Nat} {K : Nat → Nat × Nat} {n z : Nat} {Q : Option sm_V → sm_S → Prop} : sm_wp (d + 1) 155 100 [some (.inr (some r0))] [] (Z, Rf, K, n, z) Q = ((K r0).1 = 11 ∧ (Rf r0 7).isSome = true ∧ (K r0).1 = 11 ∧ (K r0).1 = 11 ∧ sm_wt (K (((Rf r0 7).getD 0))) (wr ((3 * (Z r0 12)) + 2)) ∧ (K r0).1 = 11 ∧ sm_call d 146 [.inr (some r0), .inl 159] (sm_u Z (((Rf r0 7).getD 0)) ((wr ((3 * (Z r0 12)) + 2)).toNat) (Z r0 13), Rf, K, n, z) (sm_cont (d + 1) 155 124 [some (.inr (some r0))] [] Q)) := (w_aload_n t155_100 rfl rfl).trans ((w_getR t155_101 rfl (by decide)).trans (congrArg (And _) (congrArg (And _) ((w_iconst t155_104 rfl).trans ((w_aload_n t155_105 rfl rfl).trans ((w_getI t155_106 rfl (by decide)).trans (congrArg (And _) ((w_imul t155_109 rfl).trans ((w_iconst t155_110 rfl).trans ((w_iadd t155_111 rfl).trans ((w_aload_n t155_112 rfl rfl).trans ((w_getI t155_113 rfl (by decide)).trans (congrArg (And _) ((w_iast t155_116 rfl rfl).trans (congrArg (And _) ((w_aload_n t155_117 rfl rfl).trans ((w_sipush t155_118 rfl).trans (w_callV t155_121 rfl rfl rfl rfl (Nat.le_of_ble_eq_true rfl) (Nat.le_of_ble_eq_true rfl) rfl (by decide)))))))))))))))))))
set_option maxRecDepth 10000 in
theorem b155_124 {d : Nat} {l0 : Option sm_V} {s0 : Int} {Z : Nat → Nat → Int} {Rf : Nat → Nat → Option Nat} {K : Nat → Nat × Nat} {n z : Nat} {Q : Option sm_V → sm_S → Prop} : sm_wp d 155 124 [l0] [.inl s0] (Z, Rf, K, n, z) Q = ((wr s0 = 0 ∨ wr s0 = 1) ∧ Q (some (.inl s0)) (Z, Rf, K, n, z)) := w_zret t155_124 rfl
theorem t156_0 : sm_at 156 0 = some (1, .aload_n 0, 0, 0, 0) := rfl
theorem t156_1 : sm_at 156 1 = some (1, .iconst 0, 0, 0, 0) := rfl
theorem t156_2 : sm_at 156 2 = some (3, .putfield 176, 11, 19, 0) := rfl
theorem t156_5 : sm_at 156 5 = some (1, .iload_n 1, 0, 0, 0) := rfl
theorem t156_6 : sm_at 156 6 = some (1, .iconst 0, 0, 0, 0) := rfl
theorem t156_7 : sm_at 156 7 = some (1, .iconst 3, 0, 0, 0) := rfl
theorem t156_8 : sm_at 156 8 = some (3, .invokestatic 75, 120, 3, 0) := rfl
theorem t156_11 : sm_at 156 11 = some (3, .ifCond .ne 20, 0, 0, 0) := rfl
theorem t156_14 : sm_at 156 14 = some (1, .aload_n 0, 0, 0, 0) := rfl
theorem t156_15 : sm_at 156 15 = some (1, .iconst 0, 0, 0, 0) := rfl
theorem t156_16 : sm_at 156 16 = some (3, .putfield 96, 11, 14, 0) := rfl
theorem t156_19 : sm_at 156 19 = some (1, .aload_n 0, 0, 0, 0) := rfl
theorem t156_20 : sm_at 156 20 = some (1, .iconst 0, 0, 0, 0) := rfl
theorem t156_21 : sm_at 156 21 = some (3, .putfield 225, 11, 21, 0) := rfl
theorem t156_24 : sm_at 156 24 = some (1, .aload_n 0, 0, 0, 0) := rfl
theorem t156_25 : sm_at 156 25 = some (1, .iconst (-1), 0, 0, 0) := rfl
theorem t156_26 : sm_at 156 26 = some (3, .putfield 37, 11, 23, 0) := rfl
theorem t156_29 : sm_at 156 29 = some (1, .iconst (-1), 0, 0, 0) := rfl
theorem t156_30 : sm_at 156 30 = some (1, .ireturn, 0, 0, 0) := rfl
theorem t156_31 : sm_at 156 31 = some (1, .aload_n 0, 0, 0, 0) := rfl
theorem t156_32 : sm_at 156 32 = some (1, .iconst 0, 0, 0, 0) := rfl
theorem t156_33 : sm_at 156 33 = some (3, .putfield 99, 11, 15, 0) := rfl
theorem t156_36 : sm_at 156 36 = some (1, .aload_n 0, 0, 0, 0) := rfl
theorem t156_37 : sm_at 156 37 = some (1, .iconst 0, 0, 0, 0) := rfl
theorem t156_38 : sm_at 156 38 = some (3, .putfield 222, 11, 12, 0) := rfl
theorem t156_41 : sm_at 156 41 = some (1, .aload_n 0, 0, 0, 0) := rfl
theorem t156_42 : sm_at 156 42 = some (1, .iconst 0, 0, 0, 0) := rfl
theorem t156_43 : sm_at 156 43 = some (3, .putfield 188, 11, 13, 0) := rfl
theorem t156_46 : sm_at 156 46 = some (1, .aload_n 0, 0, 0, 0) := rfl
theorem t156_47 : sm_at 156 47 = some (3, .invokevirtual 185, 144, 1, 0) := rfl
theorem t156_50 : sm_at 156 50 = some (1, .iconst 1, 0, 0, 0) := rfl
theorem t156_51 : sm_at 156 51 = some (1, .istore_n 2, 0, 0, 0) := rfl
theorem t156_52 : sm_at 156 52 = some (1, .iload_n 2, 0, 0, 0) := rfl
theorem t156_53 : sm_at 156 53 = some (3, .ifCond .eq 36, 0, 0, 0) := rfl
theorem t156_56 : sm_at 156 56 = some (1, .aload_n 0, 0, 0, 0) := rfl
theorem t156_57 : sm_at 156 57 = some (3, .getfield 161, 11, 16, 0) := rfl
theorem t156_60 : sm_at 156 60 = some (3, .ifCond .eq 29, 0, 0, 0) := rfl
theorem t156_63 : sm_at 156 63 = some (1, .aload_n 0, 0, 0, 0) := rfl
theorem t156_64 : sm_at 156 64 = some (3, .invokevirtual 228, 155, 1, 0) := rfl
theorem t156_67 : sm_at 156 67 = some (1, .istore_n 2, 0, 0, 0) := rfl
theorem t156_68 : sm_at 156 68 = some (1, .aload_n 0, 0, 0, 0) := rfl
theorem t156_69 : sm_at 156 69 = some (1, .dup, 0, 0, 0) := rfl
theorem t156_70 : sm_at 156 70 = some (3, .getfield 222, 11, 12, 0) := rfl
theorem t156_73 : sm_at 156 73 = some (1, .iload_n 2, 0, 0, 0) := rfl
theorem t156_74 : sm_at 156 74 = some (3, .ifCond .eq 7, 0, 0, 0) := rfl
theorem t156_77 : sm_at 156 77 = some (1, .iconst 1, 0, 0, 0) := rfl
theorem t156_78 : sm_at 156 78 = some (3, .goto 4, 0, 0, 0) := rfl
theorem t156_81 : sm_at 156 81 = some (1, .iconst 0, 0, 0, 0) := rfl
theorem t156_82 : sm_at 156 82 = some (1, .iadd, 0, 0, 0) := rfl
theorem t156_83 : sm_at 156 83 = some (3, .putfield 222, 11, 12, 0) := rfl
theorem t156_86 : sm_at 156 86 = some (3, .goto (-34), 0, 0, 0) := rfl
theorem t156_89 : sm_at 156 89 = some (1, .aload_n 0, 0, 0, 0) := rfl
theorem t156_90 : sm_at 156 90 = some (1, .iconst 0, 0, 0, 0) := rfl
theorem t156_91 : sm_at 156 91 = some (3, .putfield 96, 11, 14, 0) := rfl
theorem t156_94 : sm_at 156 94 = some (1, .aload_n 0, 0, 0, 0) := rfl
theorem t156_95 : sm_at 156 95 = some (1, .aload_n 0, 0, 0, 0) := rfl
theorem t156_96 : sm_at 156 96 = some (3, .getfield 176, 11, 19, 0) := rfl
theorem t156_99 : sm_at 156 99 = some (3, .putfield 225, 11, 21, 0) := rfl
theorem t156_102 : sm_at 156 102 = some (1, .aload_n 0, 0, 0, 0) := rfl
theorem t156_103 : sm_at 156 103 = some (1, .iload_n 2, 0, 0, 0) := rfl
set_option maxRecDepth 100000 in
theorem t156_104 : sm_at 156 104 = some (3, .ifCond .eq 7, 0, 0, 0) := rfl
set_option maxRecDepth 100000 in
theorem t156_107 : sm_at 156 107 = some (1, .iconst (-1), 0, 0, 0) := rfl
set_option maxRecDepth 100000 in
theorem t156_108 : sm_at 156 108 = some (3, .goto 7, 0, 0, 0) := rfl
set_option maxRecDepth 100000 in
theorem t156_111 : sm_at 156 111 = some (1, .aload_n 0, 0, 0, 0) := rfl
set_option maxRecDepth 100000 in
theorem t156_112 : sm_at 156 112 = some (3, .getfield 179, 11, 20, 0) := rfl
set_option maxRecDepth 100000 in
theorem t156_115 : sm_at 156 115 = some (3, .putfield 37, 11, 23, 0) := rfl
set_option maxRecDepth 100000 in
theorem t156_118 : sm_at 156 118 = some (1, .iload_n 2, 0, 0, 0) := rfl
set_option maxRecDepth 100000 in
theorem t156_119 : sm_at 156 119 = some (3, .ifCond .ne 5, 0, 0, 0) := rfl
set_option maxRecDepth 100000 in
theorem t156_122 : sm_at 156 122 = some (1, .iconst (-1), 0, 0, 0) := rfl
set_option maxRecDepth 100000 in
theorem t156_123 : sm_at 156 123 = some (1, .ireturn, 0, 0, 0) := rfl
set_option maxRecDepth 100000 in
theorem t156_124 : sm_at 156 124 = some (1, .aload_n 0, 0, 0, 0) := rfl
set_option maxRecDepth 100000 in
theorem t156_125 : sm_at 156 125 = some (3, .getfield 7, 11, 0, 0) := rfl
set_option maxRecDepth 100000 in
theorem t156_128 : sm_at 156 128 = some (3, .sipush 1985, 0, 0, 0) := rfl
set_option maxRecDepth 100000 in
theorem t156_131 : sm_at 156 131 = some (1, .iload_n 1, 0, 0, 0) := rfl
set_option maxRecDepth 100000 in
theorem t156_132 : sm_at 156 132 = some (1, .iadd, 0, 0, 0) := rfl
set_option maxRecDepth 100000 in
theorem t156_133 : sm_at 156 133 = some (1, .aload_n 0, 0, 0, 0) := rfl
set_option maxRecDepth 100000 in
theorem t156_134 : sm_at 156 134 = some (3, .getfield 222, 11, 12, 0) := rfl
set_option maxRecDepth 100000 in
theorem t156_137 : sm_at 156 137 = some (1, .iastore, 0, 0, 0) := rfl
set_option maxRecDepth 100000 in
theorem t156_138 : sm_at 156 138 = some (1, .iconst 0, 0, 0, 0) := rfl
set_option maxRecDepth 100000 in
theorem t156_139 : sm_at 156 139 = some (1, .istore_n 3, 0, 0, 0) := rfl
set_option maxRecDepth 100000 in
theorem t156_140 : sm_at 156 140 = some (1, .iload_n 3, 0, 0, 0) := rfl
set_option maxRecDepth 100000 in
theorem t156_141 : sm_at 156 141 = some (1, .aload_n 0, 0, 0, 0) := rfl
set_option maxRecDepth 100000 in
theorem t156_142 : sm_at 156 142 = some (3, .getfield 222, 11, 12, 0) := rfl
set_option maxRecDepth 100000 in
theorem t156_145 : sm_at 156 145 = some (3, .if_icmp .ge 82, 0, 0, 0) := rfl
set_option maxRecDepth 100000 in
theorem t156_148 : sm_at 156 148 = some (1, .aload_n 0, 0, 0, 0) := rfl
set_option maxRecDepth 100000 in
theorem t156_149 : sm_at 156 149 = some (3, .getfield 7, 11, 0, 0) := rfl
set_option maxRecDepth 100000 in
theorem t156_152 : sm_at 156 152 = some (3, .sipush 1990, 0, 0, 0) := rfl
set_option maxRecDepth 100000 in
theorem t156_155 : sm_at 156 155 = some (2, .bipush 16, 0, 0, 0) := rfl
set_option maxRecDepth 100000 in
theorem t156_157 : sm_at 156 157 = some (1, .iload_n 1, 0, 0, 0) := rfl
set_option maxRecDepth 100000 in
theorem t156_158 : sm_at 156 158 = some (1, .imul, 0, 0, 0) := rfl
set_option maxRecDepth 100000 in
theorem t156_159 : sm_at 156 159 = some (1, .iadd, 0, 0, 0) := rfl
set_option maxRecDepth 100000 in
theorem t156_160 : sm_at 156 160 = some (1, .iload_n 3, 0, 0, 0) := rfl
set_option maxRecDepth 100000 in
theorem t156_161 : sm_at 156 161 = some (1, .iadd, 0, 0, 0) := rfl
set_option maxRecDepth 100000 in
theorem t156_162 : sm_at 156 162 = some (1, .aload_n 0, 0, 0, 0) := rfl
set_option maxRecDepth 100000 in
theorem t156_163 : sm_at 156 163 = some (3, .getfield 22, 11, 7, 0) := rfl
set_option maxRecDepth 100000 in
theorem t156_166 : sm_at 156 166 = some (1, .iconst 3, 0, 0, 0) := rfl
set_option maxRecDepth 100000 in
theorem t156_167 : sm_at 156 167 = some (1, .iload_n 3, 0, 0, 0) := rfl
set_option maxRecDepth 100000 in
theorem t156_168 : sm_at 156 168 = some (1, .imul, 0, 0, 0) := rfl
set_option maxRecDepth 100000 in
theorem t156_169 : sm_at 156 169 = some (1, .iaload, 0, 0, 0) := rfl
set_option maxRecDepth 100000 in
theorem t156_170 : sm_at 156 170 = some (1, .iastore, 0, 0, 0) := rfl
set_option maxRecDepth 100000 in
theorem t156_171 : sm_at 156 171 = some (1, .aload_n 0, 0, 0, 0) := rfl
set_option maxRecDepth 100000 in
theorem t156_172 : sm_at 156 172 = some (3, .getfield 7, 11, 0, 0) := rfl
set_option maxRecDepth 100000 in
theorem t156_175 : sm_at 156 175 = some (3, .sipush 2060, 0, 0, 0) := rfl
set_option maxRecDepth 100000 in
theorem t156_178 : sm_at 156 178 = some (2, .bipush 16, 0, 0, 0) := rfl
set_option maxRecDepth 100000 in
theorem t156_180 : sm_at 156 180 = some (1, .iload_n 1, 0, 0, 0) := rfl
set_option maxRecDepth 100000 in
theorem t156_181 : sm_at 156 181 = some (1, .imul, 0, 0, 0) := rfl
set_option maxRecDepth 100000 in
theorem t156_182 : sm_at 156 182 = some (1, .iadd, 0, 0, 0) := rfl
set_option maxRecDepth 100000 in
theorem t156_183 : sm_at 156 183 = some (1, .iload_n 3, 0, 0, 0) := rfl
set_option maxRecDepth 100000 in
theorem t156_184 : sm_at 156 184 = some (1, .iadd, 0, 0, 0) := rfl
set_option maxRecDepth 100000 in
theorem t156_185 : sm_at 156 185 = some (1, .aload_n 0, 0, 0, 0) := rfl
set_option maxRecDepth 100000 in
theorem t156_186 : sm_at 156 186 = some (3, .getfield 22, 11, 7, 0) := rfl
set_option maxRecDepth 100000 in
theorem t156_189 : sm_at 156 189 = some (1, .iconst 3, 0, 0, 0) := rfl
set_option maxRecDepth 100000 in
theorem t156_190 : sm_at 156 190 = some (1, .iload_n 3, 0, 0, 0) := rfl
set_option maxRecDepth 100000 in
theorem t156_191 : sm_at 156 191 = some (1, .imul, 0, 0, 0) := rfl
set_option maxRecDepth 100000 in
theorem t156_192 : sm_at 156 192 = some (1, .iconst 1, 0, 0, 0) := rfl
set_option maxRecDepth 100000 in
theorem t156_193 : sm_at 156 193 = some (1, .iadd, 0, 0, 0) := rfl
set_option maxRecDepth 100000 in
theorem t156_194 : sm_at 156 194 = some (1, .iaload, 0, 0, 0) := rfl
set_option maxRecDepth 100000 in
theorem t156_195 : sm_at 156 195 = some (1, .iastore, 0, 0, 0) := rfl
set_option maxRecDepth 100000 in
theorem t156_196 : sm_at 156 196 = some (1, .aload_n 0, 0, 0, 0) := rfl
set_option maxRecDepth 100000 in
theorem t156_197 : sm_at 156 197 = some (3, .getfield 7, 11, 0, 0) := rfl
set_option maxRecDepth 100000 in
theorem t156_200 : sm_at 156 200 = some (3, .sipush 2130, 0, 0, 0) := rfl
set_option maxRecDepth 100000 in
theorem t156_203 : sm_at 156 203 = some (2, .bipush 16, 0, 0, 0) := rfl
set_option maxRecDepth 100000 in
theorem t156_205 : sm_at 156 205 = some (1, .iload_n 1, 0, 0, 0) := rfl
set_option maxRecDepth 100000 in
theorem t156_206 : sm_at 156 206 = some (1, .imul, 0, 0, 0) := rfl
set_option maxRecDepth 100000 in
theorem t156_207 : sm_at 156 207 = some (1, .iadd, 0, 0, 0) := rfl
set_option maxRecDepth 100000 in
theorem t156_208 : sm_at 156 208 = some (1, .iload_n 3, 0, 0, 0) := rfl
set_option maxRecDepth 100000 in
theorem t156_209 : sm_at 156 209 = some (1, .iadd, 0, 0, 0) := rfl
set_option maxRecDepth 100000 in
theorem t156_210 : sm_at 156 210 = some (1, .aload_n 0, 0, 0, 0) := rfl
set_option maxRecDepth 100000 in
theorem t156_211 : sm_at 156 211 = some (3, .getfield 22, 11, 7, 0) := rfl
set_option maxRecDepth 100000 in
theorem t156_214 : sm_at 156 214 = some (1, .iconst 3, 0, 0, 0) := rfl
set_option maxRecDepth 100000 in
theorem t156_215 : sm_at 156 215 = some (1, .iload_n 3, 0, 0, 0) := rfl
set_option maxRecDepth 100000 in
theorem t156_216 : sm_at 156 216 = some (1, .imul, 0, 0, 0) := rfl
set_option maxRecDepth 100000 in
theorem t156_217 : sm_at 156 217 = some (1, .iconst 2, 0, 0, 0) := rfl
set_option maxRecDepth 100000 in
theorem t156_218 : sm_at 156 218 = some (1, .iadd, 0, 0, 0) := rfl
set_option maxRecDepth 100000 in
theorem t156_219 : sm_at 156 219 = some (1, .iaload, 0, 0, 0) := rfl
set_option maxRecDepth 100000 in
theorem t156_220 : sm_at 156 220 = some (1, .iastore, 0, 0, 0) := rfl
set_option maxRecDepth 100000 in
theorem t156_221 : sm_at 156 221 = some (3, .iinc 3 1, 0, 0, 0) := rfl
set_option maxRecDepth 100000 in
theorem t156_224 : sm_at 156 224 = some (3, .goto (-84), 0, 0, 0) := rfl
set_option maxRecDepth 100000 in
theorem t156_227 : sm_at 156 227 = some (1, .iconst 0, 0, 0, 0) := rfl
set_option maxRecDepth 100000 in
theorem t156_228 : sm_at 156 228 = some (1, .istore_n 3, 0, 0, 0) := rfl
set_option maxRecDepth 100000 in
theorem t156_229 : sm_at 156 229 = some (1, .iload_n 3, 0, 0, 0) := rfl
set_option maxRecDepth 100000 in
theorem t156_230 : sm_at 156 230 = some (1, .iconst 2, 0, 0, 0) := rfl
set_option maxRecDepth 100000 in
theorem t156_231 : sm_at 156 231 = some (1, .aload_n 0, 0, 0, 0) := rfl
set_option maxRecDepth 100000 in
theorem t156_232 : sm_at 156 232 = some (3, .getfield 188, 11, 13, 0) := rfl
set_option maxRecDepth 100000 in
theorem t156_235 : sm_at 156 235 = some (1, .imul, 0, 0, 0) := rfl
set_option maxRecDepth 100000 in
theorem t156_236 : sm_at 156 236 = some (3, .if_icmp .ge 31, 0, 0, 0) := rfl
set_option maxRecDepth 100000 in
theorem t156_239 : sm_at 156 239 = some (1, .aload_n 0, 0, 0, 0) := rfl
set_option maxRecDepth 100000 in
theorem t156_240 : sm_at 156 240 = some (3, .getfield 7, 11, 0, 0) := rfl
set_option maxRecDepth 100000 in
theorem t156_243 : sm_at 156 243 = some (3, .sipush 2200, 0, 0, 0) := rfl
set_option maxRecDepth 100000 in
theorem t156_246 : sm_at 156 246 = some (3, .sipush 820, 0, 0, 0) := rfl
set_option maxRecDepth 100000 in
theorem t156_249 : sm_at 156 249 = some (1, .iload_n 1, 0, 0, 0) := rfl
set_option maxRecDepth 100000 in
theorem t156_250 : sm_at 156 250 = some (1, .imul, 0, 0, 0) := rfl
set_option maxRecDepth 100000 in
theorem t156_251 : sm_at 156 251 = some (1, .iadd, 0, 0, 0) := rfl
set_option maxRecDepth 100000 in
theorem t156_252 : sm_at 156 252 = some (1, .iload_n 3, 0, 0, 0) := rfl
set_option maxRecDepth 100000 in
theorem t156_253 : sm_at 156 253 = some (1, .iadd, 0, 0, 0) := rfl
set_option maxRecDepth 100000 in
theorem t156_254 : sm_at 156 254 = some (1, .aload_n 0, 0, 0, 0) := rfl
set_option maxRecDepth 100000 in
theorem t156_255 : sm_at 156 255 = some (3, .getfield 25, 11, 8, 0) := rfl
set_option maxRecDepth 100000 in
theorem t156_258 : sm_at 156 258 = some (1, .iload_n 3, 0, 0, 0) := rfl
set_option maxRecDepth 100000 in
theorem t156_259 : sm_at 156 259 = some (1, .iaload, 0, 0, 0) := rfl
set_option maxRecDepth 100000 in
theorem t156_260 : sm_at 156 260 = some (1, .iastore, 0, 0, 0) := rfl
set_option maxRecDepth 100000 in
theorem t156_261 : sm_at 156 261 = some (3, .iinc 3 1, 0, 0, 0) := rfl
set_option maxRecDepth 100000 in
theorem t156_264 : sm_at 156 264 = some (3, .goto (-35), 0, 0, 0) := rfl
set_option maxRecDepth 100000 in
theorem t156_267 : sm_at 156 267 = some (1, .aload_n 0, 0, 0, 0) := rfl
set_option maxRecDepth 100000 in
theorem t156_268 : sm_at 156 268 = some (3, .getfield 222, 11, 12, 0) := rfl
set_option maxRecDepth 100000 in
theorem t156_271 : sm_at 156 271 = some (1, .ireturn, 0, 0, 0) := rfl
set_option maxRecDepth 10000 in
theorem b156_0 {d : Nat} {r0 : Nat} {x1 : Int} {l2 : Option sm_V} {l3 : Option sm_V} {Z : Nat → Nat → Int} {Rf : Nat → Nat → Option Nat} {K : Nat → Nat × Nat} {n z : Nat} {Q : Option sm_V → sm_S → Prop} : sm_wp (d + 1) 156 0 [some (.inr (some r0)), some (.inl x1), l2, l3] [] (Z, Rf, K, n, z) Q = ((K r0).1 = 11 ∧ sm_call d 120 [.inl x1, .inl 0, .inl 3] (sm_u Z r0 19 0, Rf, K, n, z) (sm_cont (d + 1) 156 11 [some (.inr (some r0)), some (.inl x1), l2, l3] [] Q)) := (w_aload_n t156_0 rfl rfl).trans ((w_iconst t156_1 rfl).trans ((w_putI t156_2 rfl (by decide)).trans (congrArg (And _) ((w_iload_n t156_5 rfl rfl).trans ((w_iconst t156_6 rfl).trans ((w_iconst t156_7 rfl).trans (w_callS t156_8 rfl rfl rfl rfl (Nat.le_of_ble_eq_true rfl) (Nat.le_of_ble_eq_true rfl) rfl)))))))
set_option maxRecDepth 10000 in
theorem b156_11 {d : Nat} {l0 : Option sm_V} {l1 : Option sm_V} {l2 : Option sm_V} {l3 : Option sm_V} {s0 : Int} {Z : Nat → Nat → Int} {Rf : Nat → Nat → Option Nat} {K : Nat → Nat × Nat} {n z : Nat} {Q : Option sm_V → sm_S → Prop} : sm_wp d 156 11 [l0, l1, l2, l3] [.inl s0] (Z, Rf, K, n, z) Q = (if wr s0 = 0 then sm_wp d 156 14 [l0, l1, l2, l3] [] (Z, Rf, K, n, z) Q else sm_wp d 156 31 [l0, l1, l2, l3] [] (Z, Rf, K, n, z) Q) := w_ifne t156_11 rfl rfl rfl
set_option maxRecDepth 10000 in
theorem b156_14 {d : Nat} {r0 : Nat} {l1 : Option sm_V} {l2 : Option sm_V} {l3 : Option sm_V} {Z : Nat → Nat → Int} {Rf : Nat → Nat → Option Nat} {K : Nat → Nat × Nat} {n z : Nat} {Q : Option sm_V → sm_S → Prop} : sm_wp d 156 14 [some (.inr (some r0)), l1, l2, l3] [] (Z, Rf, K, n, z) Q = ((K r0).1 = 11 ∧ (K r0).1 = 11 ∧ (K r0).1 = 11 ∧ Q (some (.inl ((-1)))) (sm_u (sm_u (sm_u Z r0 14 0) r0 21 0) r0 23 ((-1)), Rf, K, n, z)) := (w_aload_n t156_14 rfl rfl).trans ((w_iconst t156_15 rfl).trans ((w_putI t156_16 rfl (by decide)).trans (congrArg (And _) ((w_aload_n t156_19 rfl rfl).trans ((w_iconst t156_20 rfl).trans ((w_putI t156_21 rfl (by decide)).trans (congrArg (And _) ((w_aload_n t156_24 rfl rfl).trans ((w_iconst t156_25 rfl).trans ((w_putI t156_26 rfl (by decide)).trans (congrArg (And _) ((w_iconst t156_29 rfl).trans (w_iret t156_30)))))))))))))
set_option maxRecDepth 10000 in
theorem b156_31 {d : Nat} {r0 : Nat} {l1 : Option sm_V} {l2 : Option sm_V} {l3 : Option sm_V} {Z : Nat → Nat → Int} {Rf : Nat → Nat → Option Nat} {K : Nat → Nat × Nat} {n z : Nat} {Q : Option sm_V → sm_S → Prop} : sm_wp (d + 1) 156 31 [some (.inr (some r0)), l1, l2, l3] [] (Z, Rf, K, n, z) Q = ((K r0).1 = 11 ∧ (K r0).1 = 11 ∧ (K r0).1 = 11 ∧ (K r0).1 = 11 ∧ sm_call d 144 [.inr (some r0)] (sm_u (sm_u (sm_u Z r0 15 0) r0 12 0) r0 13 0, Rf, K, n, z) (sm_cont (d + 1) 156 50 [some (.inr (some r0)), l1, l2, l3] [] Q)) := (w_aload_n t156_31 rfl rfl).trans ((w_iconst t156_32 rfl).trans ((w_putI t156_33 rfl (by decide)).trans (congrArg (And _) ((w_aload_n t156_36 rfl rfl).trans ((w_iconst t156_37 rfl).trans ((w_putI t156_38 rfl (by decide)).trans (congrArg (And _) ((w_aload_n t156_41 rfl rfl).trans ((w_iconst t156_42 rfl).trans ((w_putI t156_43 rfl (by decide)).trans (congrArg (And _) ((w_aload_n t156_46 rfl rfl).trans (w_callV t156_47 rfl rfl rfl rfl (Nat.le_of_ble_eq_true rfl) (Nat.le_of_ble_eq_true rfl) rfl (by decide))))))))))))))
set_option maxRecDepth 10000 in
theorem b156_50 {d : Nat} {l0 : Option sm_V} {l1 : Option sm_V} {l2 : Option sm_V} {l3 : Option sm_V} {Z : Nat → Nat → Int} {Rf : Nat → Nat → Option Nat} {K : Nat → Nat × Nat} {n z : Nat} {Q : Option sm_V → sm_S → Prop} : sm_wp d 156 50 [l0, l1, l2, l3] [] (Z, Rf, K, n, z) Q = (sm_wp d 156 52 [l0, l1, some (.inl 1), l3] [] (Z, Rf, K, n, z) Q) := (w_iconst t156_50 rfl).trans (w_istore_n t156_51 rfl (Nat.le_of_ble_eq_true rfl) rfl)
set_option maxRecDepth 10000 in
theorem b156_52 {d : Nat} {l0 : Option sm_V} {l1 : Option sm_V} {x2 : Int} {l3 : Option sm_V} {Z : Nat → Nat → Int} {Rf : Nat → Nat → Option Nat} {K : Nat → Nat × Nat} {n z : Nat} {Q : Option sm_V → sm_S → Prop} : sm_wp d 156 52 [l0, l1, some (.inl x2), l3] [] (Z, Rf, K, n, z) Q = (if wr x2 = 0 then sm_wp d 156 89 [l0, l1, some (.inl x2), l3] [] (Z, Rf, K, n, z) Q else sm_wp d 156 56 [l0, l1, some (.inl x2), l3] [] (Z, Rf, K, n, z) Q) := (w_iload_n t156_52 rfl rfl).trans (w_ifeq t156_53 rfl rfl rfl)
set_option maxRecDepth 10000 in
theorem b156_56 {d : Nat} {r0 : Nat} {l1 : Option sm_V} {l2 : Option sm_V} {l3 : Option sm_V} {Z : Nat → Nat → Int} {Rf : Nat → Nat → Option Nat} {K : Nat → Nat × Nat} {n z : Nat} {Q : Option sm_V → sm_S → Prop} : sm_wp d 156 56 [some (.inr (some r0)), l1, l2, l3] [] (Z, Rf, K, n, z) Q = ((K r0).1 = 11 ∧ (if wr (Z r0 16) = 0 then sm_wp d 156 89 [some (.inr (some r0)), l1, l2, l3] [] (Z, Rf, K, n, z) Q else sm_wp d 156 63 [some (.inr (some r0)), l1, l2, l3] [] (Z, Rf, K, n, z) Q)) := (w_aload_n t156_56 rfl rfl).trans ((w_getI t156_57 rfl (by decide)).trans (congrArg (And _) (w_ifeq t156_60 rfl rfl rfl)))
set_option maxRecDepth 10000 in
theorem b156_63 {d : Nat} {r0 : Nat} {l1 : Option sm_V} {l2 : Option sm_V} {l3 : Option sm_V} {Z : Nat → Nat → Int} {Rf : Nat → Nat → Option Nat} {K : Nat → Nat × Nat} {n z : Nat} {Q : Option sm_V → sm_S → Prop} : sm_wp (d + 1) 156 63 [some (.inr (some r0)), l1, l2, l3] [] (Z, Rf, K, n, z) Q = ((K r0).1 = 11 ∧ sm_call d 155 [.inr (some r0)] (Z, Rf, K, n, z) (sm_cont (d + 1) 156 67 [some (.inr (some r0)), l1, l2, l3] [] Q)) := (w_aload_n t156_63 rfl rfl).trans (w_callV t156_64 rfl rfl rfl rfl (Nat.le_of_ble_eq_true rfl) (Nat.le_of_ble_eq_true rfl) rfl (by decide))
set_option maxRecDepth 10000 in
theorem b156_67 {d : Nat} {r0 : Nat} {l1 : Option sm_V} {l2 : Option sm_V} {l3 : Option sm_V} {s0 : Int} {Z : Nat → Nat → Int} {Rf : Nat → Nat → Option Nat} {K : Nat → Nat × Nat} {n z : Nat} {Q : Option sm_V → sm_S → Prop} : sm_wp d 156 67 [some (.inr (some r0)), l1, l2, l3] [.inl s0] (Z, Rf, K, n, z) Q = ((K r0).1 = 11 ∧ (if wr s0 = 0 then sm_wp d 156 81 [some (.inr (some r0)), l1, some (.inl s0), l3] [.inl (Z r0 12), .inr (some r0)] (Z, Rf, K, n, z) Q else sm_wp d 156 77 [some (.inr (some r0)), l1, some (.inl s0), l3] [.inl (Z r0 12), .inr (some r0)] (Z, Rf, K, n, z) Q)) := (w_istore_n t156_67 rfl (Nat.le_of_ble_eq_true rfl) rfl).trans ((w_aload_n t156_68 rfl rfl).trans ((w_dup t156_69 rfl).trans ((w_getI t156_70 rfl (by decide)).trans (congrArg (And _) ((w_iload_n t156_73 rfl rfl).trans (w_ifeq t156_74 rfl rfl rfl))))))
set_option maxRecDepth 10000 in
theorem b156_77 {d : Nat} {l0 : Option sm_V} {l1 : Option sm_V} {l2 : Option sm_V} {l3 : Option sm_V} {qs0 : Option Nat} {s1 : Int} {Z : Nat → Nat → Int} {Rf : Nat → Nat → Option Nat} {K : Nat → Nat × Nat} {n z : Nat} {Q : Option sm_V → sm_S → Prop} : sm_wp d 156 77 [l0, l1, l2, l3] [.inl s1, .inr qs0] (Z, Rf, K, n, z) Q = (sm_wp d 156 82 [l0, l1, l2, l3] [.inl 1, .inl s1, .inr qs0] (Z, Rf, K, n, z) Q) := (w_iconst t156_77 rfl).trans (w_goto t156_78 rfl)
set_option maxRecDepth 10000 in
theorem b156_81 {d : Nat} {l0 : Option sm_V} {l1 : Option sm_V} {l2 : Option sm_V} {l3 : Option sm_V} {qs0 : Option Nat} {s1 : Int} {Z : Nat → Nat → Int} {Rf : Nat → Nat → Option Nat} {K : Nat → Nat × Nat} {n z : Nat} {Q : Option sm_V → sm_S → Prop} : sm_wp d 156 81 [l0, l1, l2, l3] [.inl s1, .inr qs0] (Z, Rf, K, n, z) Q = (sm_wp d 156 82 [l0, l1, l2, l3] [.inl 0, .inl s1, .inr qs0] (Z, Rf, K, n, z) Q) := w_iconst t156_81 rfl
set_option maxRecDepth 10000 in
theorem b156_82 {d : Nat} {l0 : Option sm_V} {l1 : Option sm_V} {l2 : Option sm_V} {l3 : Option sm_V} {rs0 : Nat} {s1 : Int} {s2 : Int} {Z : Nat → Nat → Int} {Rf : Nat → Nat → Option Nat} {K : Nat → Nat × Nat} {n z : Nat} {Q : Option sm_V → sm_S → Prop} : sm_wp d 156 82 [l0, l1, l2, l3] [.inl s2, .inl s1, .inr (some rs0)] (Z, Rf, K, n, z) Q = ((K rs0).1 = 11 ∧ sm_wp d 156 52 [l0, l1, l2, l3] [] (sm_u Z rs0 12 (s1 + s2), Rf, K, n, z) Q) := (w_iadd t156_82 rfl).trans ((w_putI t156_83 rfl (by decide)).trans (congrArg (And _) (w_goto t156_86 rfl)))
set_option maxRecDepth 10000 in
theorem b156_89 {d : Nat} {r0 : Nat} {l1 : Option sm_V} {x2 : Int} {l3 : Option sm_V} {Z : Nat → Nat → Int} {Rf : Nat → Nat → Option Nat} {K : Nat → Nat × Nat} {n z : Nat} {Q : Option sm_V → sm_S → Prop} : sm_wp d 156 89 [some (.inr (some r0)), l1, some (.inl x2), l3] [] (Z, Rf, K, n, z) Q = ((K r0).1 = 11 ∧ (K r0).1 = 11 ∧ (K r0).1 = 11 ∧ (if wr x2 = 0 then sm_wp d 156 111 [some (.inr (some r0)), l1, some (.inl x2), l3] [.inr (some r0)] (sm_u (sm_u Z r0 14 0) r0 21 ((sm_u Z r0 14 0) r0 19), Rf, K, n, z) Q else sm_wp d 156 107 [some (.inr (some r0)), l1, some (.inl x2), l3] [.inr (some r0)] (sm_u (sm_u Z r0 14 0) r0 21 ((sm_u Z r0 14 0) r0 19), Rf, K, n, z) Q)) := (w_aload_n t156_89 rfl rfl).trans ((w_iconst t156_90 rfl).trans ((w_putI t156_91 rfl (by decide)).trans (congrArg (And _) ((w_aload_n t156_94 rfl rfl).trans ((w_aload_n t156_95 rfl rfl).trans ((w_getI t156_96 rfl (by decide)).trans (congrArg (And _) ((w_putI t156_99 rfl (by decide)).trans (congrArg (And _) ((w_aload_n t156_102 rfl rfl).trans ((w_iload_n t156_103 rfl rfl).trans (w_ifeq t156_104 rfl rfl rfl))))))))))))
set_option maxRecDepth 10000 in
theorem b156_107 {d : Nat} {l0 : Option sm_V} {l1 : Option sm_V} {l2 : Option sm_V} {l3 : Option sm_V} {qs0 : Option Nat} {Z : Nat → Nat → Int} {Rf : Nat → Nat → Option Nat} {K : Nat → Nat × Nat} {n z : Nat} {Q : Option sm_V → sm_S → Prop} : sm_wp d 156 107 [l0, l1, l2, l3] [.inr qs0] (Z, Rf, K, n, z) Q = (sm_wp d 156 115 [l0, l1, l2, l3] [.inl ((-1)), .inr qs0] (Z, Rf, K, n, z) Q) := (w_iconst t156_107 rfl).trans (w_goto t156_108 rfl)
set_option maxRecDepth 10000 in
theorem b156_111 {d : Nat} {r0 : Nat} {l1 : Option sm_V} {l2 : Option sm_V} {l3 : Option sm_V} {qs0 : Option Nat} {Z : Nat → Nat → Int} {Rf : Nat → Nat → Option Nat} {K : Nat → Nat × Nat} {n z : Nat} {Q : Option sm_V → sm_S → Prop} : sm_wp d 156 111 [some (.inr (some r0)), l1, l2, l3] [.inr qs0] (Z, Rf, K, n, z) Q = ((K r0).1 = 11 ∧ sm_wp d 156 115 [some (.inr (some r0)), l1, l2, l3] [.inl (Z r0 20), .inr qs0] (Z, Rf, K, n, z) Q) := (w_aload_n t156_111 rfl rfl).trans ((w_getI t156_112 rfl (by decide)).trans (congrArg (And _) rfl))
set_option maxRecDepth 10000 in
theorem b156_115 {d : Nat} {l0 : Option sm_V} {l1 : Option sm_V} {x2 : Int} {l3 : Option sm_V} {rs0 : Nat} {s1 : Int} {Z : Nat → Nat → Int} {Rf : Nat → Nat → Option Nat} {K : Nat → Nat × Nat} {n z : Nat} {Q : Option sm_V → sm_S → Prop} : sm_wp d 156 115 [l0, l1, some (.inl x2), l3] [.inl s1, .inr (some rs0)] (Z, Rf, K, n, z) Q = ((K rs0).1 = 11 ∧ (if wr x2 = 0 then sm_wp d 156 122 [l0, l1, some (.inl x2), l3] [] (sm_u Z rs0 23 s1, Rf, K, n, z) Q else sm_wp d 156 124 [l0, l1, some (.inl x2), l3] [] (sm_u Z rs0 23 s1, Rf, K, n, z) Q)) := (w_putI t156_115 rfl (by decide)).trans (congrArg (And _) ((w_iload_n t156_118 rfl rfl).trans (w_ifne t156_119 rfl rfl rfl)))
set_option maxRecDepth 10000 in
theorem b156_122 {d : Nat} {l0 : Option sm_V} {l1 : Option sm_V} {l2 : Option sm_V} {l3 : Option sm_V} {Z : Nat → Nat → Int} {Rf : Nat → Nat → Option Nat} {K : Nat → Nat × Nat} {n z : Nat} {Q : Option sm_V → sm_S → Prop} : sm_wp d 156 122 [l0, l1, l2, l3] [] (Z, Rf, K, n, z) Q = (Q (some (.inl ((-1)))) (Z, Rf, K, n, z)) := (w_iconst t156_122 rfl).trans (w_iret t156_123)
set_option maxRecDepth 10000 in
theorem b156_124 {d : Nat} {r0 : Nat} {x1 : Int} {l2 : Option sm_V} {l3 : Option sm_V} {Z : Nat → Nat → Int} {Rf : Nat → Nat → Option Nat} {K : Nat → Nat × Nat} {n z : Nat} {Q : Option sm_V → sm_S → Prop} : sm_wp d 156 124 [some (.inr (some r0)), some (.inl x1), l2, l3] [] (Z, Rf, K, n, z) Q = ((K r0).1 = 11 ∧ (Rf r0 0).isSome = true ∧ (K r0).1 = 11 ∧ sm_wt (K (((Rf r0 0).getD 0))) (wr (1985 + x1)) ∧ sm_wp d 156 140 [some (.inr (some r0)), some (.inl x1), l2, some (.inl 0)] [] (sm_u Z (((Rf r0 0).getD 0)) ((wr (1985 + x1)).toNat) (Z r0 12), Rf, K, n, z) Q) := (w_aload_n t156_124 rfl rfl).trans ((w_getR t156_125 rfl (by decide)).trans (congrArg (And _) (congrArg (And _) ((w_sipush t156_128 rfl).trans ((w_iload_n t156_131 rfl rfl).trans ((w_iadd t156_132 rfl).trans ((w_aload_n t156_133 rfl rfl).trans ((w_getI t156_134 rfl (by decide)).trans (congrArg (And _) ((w_iast t156_137 rfl rfl).trans (congrArg (And _) ((w_iconst t156_138 rfl).trans (w_istore_n t156_139 rfl (Nat.le_of_ble_eq_true rfl) rfl)))))))))))))
set_option maxRecDepth 10000 in
theorem b156_140 {d : Nat} {r0 : Nat} {l1 : Option sm_V} {l2 : Option sm_V} {x3 : Int} {Z : Nat → Nat → Int} {Rf : Nat → Nat → Option Nat} {K : Nat → Nat × Nat} {n z : Nat} {Q : Option sm_V → sm_S → Prop} : sm_wp d 156 140 [some (.inr (some r0)), l1, l2, some (.inl x3)] [] (Z, Rf, K, n, z) Q = ((K r0).1 = 11 ∧ (if wr (Z r0 12) ≤ wr x3 then sm_wp d 156 227 [some (.inr (some r0)), l1, l2, some (.inl x3)] [] (Z, Rf, K, n, z) Q else sm_wp d 156 148 [some (.inr (some r0)), l1, l2, some (.inl x3)] [] (Z, Rf, K, n, z) Q)) := (w_iload_n t156_140 rfl rfl).trans ((w_aload_n t156_141 rfl rfl).trans ((w_getI t156_142 rfl (by decide)).trans (congrArg (And _) (w_icge t156_145 rfl rfl rfl rfl))))
set_option maxRecDepth 10000 in
theorem b156_148 {d : Nat} {r0 : Nat} {x1 : Int} {l2 : Option sm_V} {x3 : Int} {Z : Nat → Nat → Int} {Rf : Nat → Nat → Option Nat} {K : Nat → Nat × Nat} {n z : Nat} {Q : Option sm_V → sm_S → Prop} : sm_wp d 156 148 [some (.inr (some r0)), some (.inl x1), l2, some (.inl x3)] [] (Z, Rf, K, n, z) Q = ((K r0).1 = 11 ∧ (Rf r0 0).isSome = true ∧ (K r0).1 = 11 ∧ (Rf r0 7).isSome = true ∧ sm_rd (K (((Rf r0 7).getD 0))) (wr (3 * x3)) ∧ sm_wt (K (((Rf r0 0).getD 0))) (wr ((1990 + (16 * x1)) + x3)) ∧ (K r0).1 = 11 ∧ (Rf r0 0).isSome = true ∧ (K r0).1 = 11 ∧ (Rf r0 7).isSome = true ∧ sm_rd (K (((Rf r0 7).getD 0))) (wr ((3 * x3) + 1)) ∧ sm_wt (K (((Rf r0 0).getD 0))) (wr ((2060 + (16 * x1)) + x3)) ∧ (K r0).1 = 11 ∧ (Rf r0 0).isSome = true ∧ (K r0).1 = 11 ∧ (Rf r0 7).isSome = true ∧ sm_rd (K (((Rf r0 7).getD 0))) (wr ((3 * x3) + 2)) ∧ sm_wt (K (((Rf r0 0).getD 0))) (wr ((2130 + (16 * x1)) + x3)) ∧ sm_wp d 156 140 [some (.inr (some r0)), some (.inl x1), l2, some (.inl (x3 + 1))] [] (sm_u (sm_u (sm_u Z (((Rf r0 0).getD 0)) ((wr ((1990 + (16 * x1)) + x3)).toNat) (Z (((Rf r0 7).getD 0)) ((wr (3 * x3)).toNat))) (((Rf r0 0).getD 0)) ((wr ((2060 + (16 * x1)) + x3)).toNat) ((sm_u Z (((Rf r0 0).getD 0)) ((wr ((1990 + (16 * x1)) + x3)).toNat) (Z (((Rf r0 7).getD 0)) ((wr (3 * x3)).toNat))) (((Rf r0 7).getD 0)) ((wr ((3 * x3) + 1)).toNat))) (((Rf r0 0).getD 0)) ((wr ((2130 + (16 * x1)) + x3)).toNat) ((sm_u (sm_u Z (((Rf r0 0).getD 0)) ((wr ((1990 + (16 * x1)) + x3)).toNat) (Z (((Rf r0 7).getD 0)) ((wr (3 * x3)).toNat))) (((Rf r0 0).getD 0)) ((wr ((2060 + (16 * x1)) + x3)).toNat) ((sm_u Z (((Rf r0 0).getD 0)) ((wr ((1990 + (16 * x1)) + x3)).toNat) (Z (((Rf r0 7).getD 0)) ((wr (3 * x3)).toNat))) (((Rf r0 7).getD 0)) ((wr ((3 * x3) + 1)).toNat))) (((Rf r0 7).getD 0)) ((wr ((3 * x3) + 2)).toNat)), Rf, K, n, z) Q) := (w_aload_n t156_148 rfl rfl).trans ((w_getR t156_149 rfl (by decide)).trans (congrArg (And _) (congrArg (And _) ((w_sipush t156_152 rfl).trans ((w_bipush t156_155 rfl).trans ((w_iload_n t156_157 rfl rfl).trans ((w_imul t156_158 rfl).trans ((w_iadd t156_159 rfl).trans ((w_iload_n t156_160 rfl rfl).trans ((w_iadd t156_161 rfl).trans ((w_aload_n t156_162 rfl rfl).trans ((w_getR t156_163 rfl (by decide)).trans (congrArg (And _) (congrArg (And _) ((w_iconst t156_166 rfl).trans ((w_iload_n t156_167 rfl rfl).trans ((w_imul t156_168 rfl).trans ((w_iald t156_169 rfl rfl).trans (congrArg (And _) ((w_iast t156_170 rfl rfl).trans (congrArg (And _) ((w_aload_n t156_171 rfl rfl).trans ((w_getR t156_172 rfl (by decide)).trans (congrArg (And _) (congrArg (And _) ((w_sipush t156_175 rfl).trans ((w_bipush t156_178 rfl).trans ((w_iload_n t156_180 rfl rfl).trans ((w_imul t156_181 rfl).trans ((w_iadd t156_182 rfl).trans ((w_iload_n t156_183 rfl rfl).trans ((w_iadd t156_184 rfl).trans ((w_aload_n t156_185 rfl rfl).trans ((w_getR t156_186 rfl (by decide)).trans (congrArg (And _) (congrArg (And _) ((w_iconst t156_189 rfl).trans ((w_iload_n t156_190 rfl rfl).trans ((w_imul t156_191 rfl).trans ((w_iconst t156_192 rfl).trans ((w_iadd t156_193 rfl).trans ((w_iald t156_194 rfl rfl).trans (congrArg (And _) ((w_iast t156_195 rfl rfl).trans (congrArg (And _) ((w_aload_n t156_196 rfl rfl).trans ((w_getR t156_197 rfl (by decide)).trans (congrArg (And _) (congrArg (And _) ((w_sipush t156_200 rfl).trans ((w_bipush t156_203 rfl).trans ((w_iload_n t156_205 rfl rfl).trans ((w_imul t156_206 rfl).trans ((w_iadd t156_207 rfl).trans ((w_iload_n t156_208 rfl rfl).trans ((w_iadd t156_209 rfl).trans ((w_aload_n t156_210 rfl rfl).trans ((w_getR t156_211 rfl (by decide)).trans (congrArg (And _) (congrArg (And _) ((w_iconst t156_214 rfl).trans ((w_iload_n t156_215 rfl rfl).trans ((w_imul t156_216 rfl).trans ((w_iconst t156_217 rfl).trans ((w_iadd t156_218 rfl).trans ((w_iald t156_219 rfl rfl).trans (congrArg (And _) ((w_iast t156_220 rfl rfl).trans (congrArg (And _) ((w_iinc t156_221 rfl rfl (Nat.le_of_ble_eq_true rfl) rfl).trans (w_goto t156_224 rfl)))))))))))))))))))))))))))))))))))))))))))))))))))))))))))))))))))))))
set_option maxRecDepth 10000 in
theorem b156_227 {d : Nat} {l0 : Option sm_V} {l1 : Option sm_V} {l2 : Option sm_V} {l3 : Option sm_V} {Z : Nat → Nat → Int} {Rf : Nat → Nat → Option Nat} {K : Nat → Nat × Nat} {n z : Nat} {Q : Option sm_V → sm_S → Prop} : sm_wp d 156 227 [l0, l1, l2, l3] [] (Z, Rf, K, n, z) Q = (sm_wp d 156 229 [l0, l1, l2, some (.inl 0)] [] (Z, Rf, K, n, z) Q) := (w_iconst t156_227 rfl).trans (w_istore_n t156_228 rfl (Nat.le_of_ble_eq_true rfl) rfl)
set_option maxRecDepth 10000 in
theorem b156_229 {d : Nat} {r0 : Nat} {l1 : Option sm_V} {l2 : Option sm_V} {x3 : Int} {Z : Nat → Nat → Int} {Rf : Nat → Nat → Option Nat} {K : Nat → Nat × Nat} {n z : Nat} {Q : Option sm_V → sm_S → Prop} : sm_wp d 156 229 [some (.inr (some r0)), l1, l2, some (.inl x3)] [] (Z, Rf, K, n, z) Q = ((K r0).1 = 11 ∧ (if wr (2 * (Z r0 13)) ≤ wr x3 then sm_wp d 156 267 [some (.inr (some r0)), l1, l2, some (.inl x3)] [] (Z, Rf, K, n, z) Q else sm_wp d 156 239 [some (.inr (some r0)), l1, l2, some (.inl x3)] [] (Z, Rf, K, n, z) Q)) := (w_iload_n t156_229 rfl rfl).trans ((w_iconst t156_230 rfl).trans ((w_aload_n t156_231 rfl rfl).trans ((w_getI t156_232 rfl (by decide)).trans (congrArg (And _) ((w_imul t156_235 rfl).trans (w_icge t156_236 rfl rfl rfl rfl))))))
set_option maxRecDepth 10000 in
theorem b156_239 {d : Nat} {r0 : Nat} {x1 : Int} {l2 : Option sm_V} {x3 : Int} {Z : Nat → Nat → Int} {Rf : Nat → Nat → Option Nat} {K : Nat → Nat × Nat} {n z : Nat} {Q : Option sm_V → sm_S → Prop} : sm_wp d 156 239 [some (.inr (some r0)), some (.inl x1), l2, some (.inl x3)] [] (Z, Rf, K, n, z) Q = ((K r0).1 = 11 ∧ (Rf r0 0).isSome = true ∧ (K r0).1 = 11 ∧ (Rf r0 8).isSome = true ∧ sm_rd (K (((Rf r0 8).getD 0))) (wr x3) ∧ sm_wt (K (((Rf r0 0).getD 0))) (wr ((2200 + (820 * x1)) + x3)) ∧ sm_wp d 156 229 [some (.inr (some r0)), some (.inl x1), l2, some (.inl (x3 + 1))] [] (sm_u Z (((Rf r0 0).getD 0)) ((wr ((2200 + (820 * x1)) + x3)).toNat) (Z (((Rf r0 8).getD 0)) ((wr x3).toNat)), Rf, K, n, z) Q) := (w_aload_n t156_239 rfl rfl).trans ((w_getR t156_240 rfl (by decide)).trans (congrArg (And _) (congrArg (And _) ((w_sipush t156_243 rfl).trans ((w_sipush t156_246 rfl).trans ((w_iload_n t156_249 rfl rfl).trans ((w_imul t156_250 rfl).trans ((w_iadd t156_251 rfl).trans ((w_iload_n t156_252 rfl rfl).trans ((w_iadd t156_253 rfl).trans ((w_aload_n t156_254 rfl rfl).trans ((w_getR t156_255 rfl (by decide)).trans (congrArg (And _) (congrArg (And _) ((w_iload_n t156_258 rfl rfl).trans ((w_iald t156_259 rfl rfl).trans (congrArg (And _) ((w_iast t156_260 rfl rfl).trans (congrArg (And _) ((w_iinc t156_261 rfl rfl (Nat.le_of_ble_eq_true rfl) rfl).trans (w_goto t156_264 rfl)))))))))))))))))))))
set_option maxRecDepth 10000 in
theorem b156_267 {d : Nat} {r0 : Nat} {l1 : Option sm_V} {l2 : Option sm_V} {l3 : Option sm_V} {Z : Nat → Nat → Int} {Rf : Nat → Nat → Option Nat} {K : Nat → Nat × Nat} {n z : Nat} {Q : Option sm_V → sm_S → Prop} : sm_wp d 156 267 [some (.inr (some r0)), l1, l2, l3] [] (Z, Rf, K, n, z) Q = ((K r0).1 = 11 ∧ Q (some (.inl (Z r0 12))) (Z, Rf, K, n, z)) := (w_aload_n t156_267 rfl rfl).trans ((w_getI t156_268 rfl (by decide)).trans (congrArg (And _) (w_iret t156_271)))
theorem t157_0 : sm_at 157 0 = some (1, .iload_n 1, 0, 0, 0) := rfl
theorem t157_1 : sm_at 157 1 = some (3, .ifCond .ne 10, 0, 0, 0) := rfl
theorem t157_4 : sm_at 157 4 = some (1, .aload_n 0, 0, 0, 0) := rfl
theorem t157_5 : sm_at 157 5 = some (3, .getfield 225, 11, 21, 0) := rfl
theorem t157_8 : sm_at 157 8 = some (3, .goto 16, 0, 0, 0) := rfl
theorem t157_11 : sm_at 157 11 = some (1, .iload_n 1, 0, 0, 0) := rfl
theorem t157_12 : sm_at 157 12 = some (1, .iconst 1, 0, 0, 0) := rfl
theorem t157_13 : sm_at 157 13 = some (3, .if_icmp .ne 10, 0, 0, 0) := rfl
theorem t157_16 : sm_at 157 16 = some (1, .aload_n 0, 0, 0, 0) := rfl
theorem t157_17 : sm_at 157 17 = some (3, .getfield 37, 11, 23, 0) := rfl
theorem t157_20 : sm_at 157 20 = some (3, .goto 4, 0, 0, 0) := rfl
theorem t157_23 : sm_at 157 23 = some (1, .iconst (-1), 0, 0, 0) := rfl
theorem t157_24 : sm_at 157 24 = some (1, .ireturn, 0, 0, 0) := rfl
set_option maxRecDepth 10000 in
theorem b157_0 {d : Nat} {l0 : Option sm_V} {x1 : Int} {Z : Nat → Nat → Int} {Rf : Nat → Nat → Option Nat} {K : Nat → Nat × Nat} {n z : Nat} {Q : Option sm_V → sm_S → Prop} : sm_wp d 157 0 [l0, some (.inl x1)] [] (Z, Rf, K, n, z) Q = (if wr x1 = 0 then sm_wp d 157 4 [l0, some (.inl x1)] [] (Z, Rf, K, n, z) Q else sm_wp d 157 11 [l0, some (.inl x1)] [] (Z, Rf, K, n, z) Q) := (w_iload_n t157_0 rfl rfl).trans (w_ifne t157_1 rfl rfl rfl)
set_option maxRecDepth 10000 in
theorem b157_4 {d : Nat} {r0 : Nat} {l1 : Option sm_V} {Z : Nat → Nat → Int} {Rf : Nat → Nat → Option Nat} {K : Nat → Nat × Nat} {n z : Nat} {Q : Option sm_V → sm_S → Prop} : sm_wp d 157 4 [some (.inr (some r0)), l1] [] (Z, Rf, K, n, z) Q = ((K r0).1 = 11 ∧ sm_wp d 157 24 [some (.inr (some r0)), l1] [.inl (Z r0 21)] (Z, Rf, K, n, z) Q) := (w_aload_n t157_4 rfl rfl).trans ((w_getI t157_5 rfl (by decide)).trans (congrArg (And _) (w_goto t157_8 rfl)))
set_option maxRecDepth 10000 in
theorem b157_11 {d : Nat} {l0 : Option sm_V} {x1 : Int} {Z : Nat → Nat → Int} {Rf : Nat → Nat → Option Nat} {K : Nat → Nat × Nat} {n z : Nat} {Q : Option sm_V → sm_S → Prop} : sm_wp d 157 11 [l0, some (.inl x1)] [] (Z, Rf, K, n, z) Q = (if wr x1 = (1 : Int) then sm_wp d 157 16 [l0, some (.inl x1)] [] (Z, Rf, K, n, z) Q else sm_wp d 157 23 [l0, some (.inl x1)] [] (Z, Rf, K, n, z) Q) := (w_iload_n t157_11 rfl rfl).trans ((w_iconst t157_12 rfl).trans (w_icne t157_13 rfl wl_1 rfl rfl))
set_option maxRecDepth 10000 in
theorem b157_16 {d : Nat} {r0 : Nat} {l1 : Option sm_V} {Z : Nat → Nat → Int} {Rf : Nat → Nat → Option Nat} {K : Nat → Nat × Nat} {n z : Nat} {Q : Option sm_V → sm_S → Prop} : sm_wp d 157 16 [some (.inr (some r0)), l1] [] (Z, Rf, K, n, z) Q = ((K r0).1 = 11 ∧ sm_wp d 157 24 [some (.inr (some r0)), l1] [.inl (Z r0 23)] (Z, Rf, K, n, z) Q) := (w_aload_n t157_16 rfl rfl).trans ((w_getI t157_17 rfl (by decide)).trans (congrArg (And _) (w_goto t157_20 rfl)))
set_option maxRecDepth 10000 in
theorem b157_23 {d : Nat} {l0 : Option sm_V} {l1 : Option sm_V} {Z : Nat → Nat → Int} {Rf : Nat → Nat → Option Nat} {K : Nat → Nat × Nat} {n z : Nat} {Q : Option sm_V → sm_S → Prop} : sm_wp d 157 23 [l0, l1] [] (Z, Rf, K, n, z) Q = (sm_wp d 157 24 [l0, l1] [.inl ((-1))] (Z, Rf, K, n, z) Q) := w_iconst t157_23 rfl
set_option maxRecDepth 10000 in
theorem b157_24 {d : Nat} {l0 : Option sm_V} {l1 : Option sm_V} {s0 : Int} {Z : Nat → Nat → Int} {Rf : Nat → Nat → Option Nat} {K : Nat → Nat × Nat} {n z : Nat} {Q : Option sm_V → sm_S → Prop} : sm_wp d 157 24 [l0, l1] [.inl s0] (Z, Rf, K, n, z) Q = (Q (some (.inl s0)) (Z, Rf, K, n, z)) := w_iret t157_24
theorem t158_0 : sm_at 158 0 = some (1, .iload_n 0, 0, 0, 0) := rfl
theorem t158_1 : sm_at 158 1 = some (51, .tableswitch 100 13 21 #[51, 55, 59, 100, 63, 74, 85, 100, 96], 0, 0, 0) := rfl
theorem t158_52 : sm_at 158 52 = some (1, .iload_n 1, 0, 0, 0) := rfl
theorem t158_53 : sm_at 158 53 = some (1, .iload_n 2, 0, 0, 0) := rfl
theorem t158_54 : sm_at 158 54 = some (1, .iadd, 0, 0, 0) := rfl
theorem t158_55 : sm_at 158 55 = some (1, .ireturn, 0, 0, 0) := rfl
theorem t158_56 : sm_at 158 56 = some (1, .iload_n 1, 0, 0, 0) := rfl
theorem t158_57 : sm_at 158 57 = some (1, .iload_n 2, 0, 0, 0) := rfl
theorem t158_58 : sm_at 158 58 = some (1, .isub, 0, 0, 0) := rfl
theorem t158_59 : sm_at 158 59 = some (1, .ireturn, 0, 0, 0) := rfl
theorem t158_60 : sm_at 158 60 = some (1, .iload_n 1, 0, 0, 0) := rfl
theorem t158_61 : sm_at 158 61 = some (1, .iload_n 2, 0, 0, 0) := rfl
theorem t158_62 : sm_at 158 62 = some (1, .imul, 0, 0, 0) := rfl
theorem t158_63 : sm_at 158 63 = some (1, .ireturn, 0, 0, 0) := rfl
theorem t158_64 : sm_at 158 64 = some (1, .iload_n 1, 0, 0, 0) := rfl
theorem t158_65 : sm_at 158 65 = some (1, .iload_n 2, 0, 0, 0) := rfl
theorem t158_66 : sm_at 158 66 = some (3, .if_icmp .ge 7, 0, 0, 0) := rfl
theorem t158_69 : sm_at 158 69 = some (1, .iconst 1, 0, 0, 0) := rfl
theorem t158_70 : sm_at 158 70 = some (3, .goto 4, 0, 0, 0) := rfl
theorem t158_73 : sm_at 158 73 = some (1, .iconst 0, 0, 0, 0) := rfl
theorem t158_74 : sm_at 158 74 = some (1, .ireturn, 0, 0, 0) := rfl
theorem t158_75 : sm_at 158 75 = some (1, .iload_n 1, 0, 0, 0) := rfl
theorem t158_76 : sm_at 158 76 = some (1, .iload_n 2, 0, 0, 0) := rfl
theorem t158_77 : sm_at 158 77 = some (3, .if_icmp .ne 7, 0, 0, 0) := rfl
theorem t158_80 : sm_at 158 80 = some (1, .iconst 1, 0, 0, 0) := rfl
theorem t158_81 : sm_at 158 81 = some (3, .goto 4, 0, 0, 0) := rfl
theorem t158_84 : sm_at 158 84 = some (1, .iconst 0, 0, 0, 0) := rfl
theorem t158_85 : sm_at 158 85 = some (1, .ireturn, 0, 0, 0) := rfl
theorem t158_86 : sm_at 158 86 = some (1, .iload_n 1, 0, 0, 0) := rfl
theorem t158_87 : sm_at 158 87 = some (1, .iload_n 2, 0, 0, 0) := rfl
theorem t158_88 : sm_at 158 88 = some (3, .if_icmp .le 7, 0, 0, 0) := rfl
theorem t158_91 : sm_at 158 91 = some (1, .iconst 1, 0, 0, 0) := rfl
theorem t158_92 : sm_at 158 92 = some (3, .goto 4, 0, 0, 0) := rfl
theorem t158_95 : sm_at 158 95 = some (1, .iconst 0, 0, 0, 0) := rfl
theorem t158_96 : sm_at 158 96 = some (1, .ireturn, 0, 0, 0) := rfl
theorem t158_97 : sm_at 158 97 = some (1, .iload_n 1, 0, 0, 0) := rfl
theorem t158_98 : sm_at 158 98 = some (1, .iload_n 2, 0, 0, 0) := rfl
theorem t158_99 : sm_at 158 99 = some (1, .iand, 0, 0, 0) := rfl
theorem t158_100 : sm_at 158 100 = some (1, .ireturn, 0, 0, 0) := rfl
theorem t158_101 : sm_at 158 101 = some (1, .iload_n 1, 0, 0, 0) := rfl
theorem t158_102 : sm_at 158 102 = some (1, .iload_n 2, 0, 0, 0) := rfl
theorem t158_103 : sm_at 158 103 = some (1, .ior, 0, 0, 0) := rfl
theorem t158_104 : sm_at 158 104 = some (1, .ireturn, 0, 0, 0) := rfl
set_option maxRecDepth 10000 in
theorem b158_0 {d : Nat} {x0 : Int} {l1 : Option sm_V} {l2 : Option sm_V} {Z : Nat → Nat → Int} {Rf : Nat → Nat → Option Nat} {K : Nat → Nat × Nat} {n z : Nat} {Q : Option sm_V → sm_S → Prop} : sm_wp d 158 0 [some (.inl x0), l1, l2] [] (Z, Rf, K, n, z) Q = (sm_wp d 158 (sm_sel (wr x0) 101 [(13, 52), (14, 56), (15, 60), (16, 101), (17, 64), (18, 75), (19, 86), (20, 101), (21, 97)]) [some (.inl x0), l1, l2] [] (Z, Rf, K, n, z) Q) := (w_iload_n t158_0 rfl rfl).trans (w_tsw t158_1 rfl rfl rfl (by decide))
set_option maxRecDepth 10000 in
theorem b158_52 {d : Nat} {l0 : Option sm_V} {x1 : Int} {x2 : Int} {Z : Nat → Nat → Int} {Rf : Nat → Nat → Option Nat} {K : Nat → Nat × Nat} {n z : Nat} {Q : Option sm_V → sm_S → Prop} : sm_wp d 158 52 [l0, some (.inl x1), some (.inl x2)] [] (Z, Rf, K, n, z) Q = (Q (some (.inl (x1 + x2))) (Z, Rf, K, n, z)) := (w_iload_n t158_52 rfl rfl).trans ((w_iload_n t158_53 rfl rfl).trans ((w_iadd t158_54 rfl).trans (w_iret t158_55)))
set_option maxRecDepth 10000 in
theorem b158_56 {d : Nat} {l0 : Option sm_V} {x1 : Int} {x2 : Int} {Z : Nat → Nat → Int} {Rf : Nat → Nat → Option Nat} {K : Nat → Nat × Nat} {n z : Nat} {Q : Option sm_V → sm_S → Prop} : sm_wp d 158 56 [l0, some (.inl x1), some (.inl x2)] [] (Z, Rf, K, n, z) Q = (Q (some (.inl (x1 - x2))) (Z, Rf, K, n, z)) := (w_iload_n t158_56 rfl rfl).trans ((w_iload_n t158_57 rfl rfl).trans ((w_isub t158_58 rfl).trans (w_iret t158_59)))
set_option maxRecDepth 10000 in
theorem b158_60 {d : Nat} {l0 : Option sm_V} {x1 : Int} {x2 : Int} {Z : Nat → Nat → Int} {Rf : Nat → Nat → Option Nat} {K : Nat → Nat × Nat} {n z : Nat} {Q : Option sm_V → sm_S → Prop} : sm_wp d 158 60 [l0, some (.inl x1), some (.inl x2)] [] (Z, Rf, K, n, z) Q = (Q (some (.inl (x1 * x2))) (Z, Rf, K, n, z)) := (w_iload_n t158_60 rfl rfl).trans ((w_iload_n t158_61 rfl rfl).trans ((w_imul t158_62 rfl).trans (w_iret t158_63)))
set_option maxRecDepth 10000 in
theorem b158_64 {d : Nat} {l0 : Option sm_V} {x1 : Int} {x2 : Int} {Z : Nat → Nat → Int} {Rf : Nat → Nat → Option Nat} {K : Nat → Nat × Nat} {n z : Nat} {Q : Option sm_V → sm_S → Prop} : sm_wp d 158 64 [l0, some (.inl x1), some (.inl x2)] [] (Z, Rf, K, n, z) Q = (if wr x2 ≤ wr x1 then sm_wp d 158 73 [l0, some (.inl x1), some (.inl x2)] [] (Z, Rf, K, n, z) Q else sm_wp d 158 69 [l0, some (.inl x1), some (.inl x2)] [] (Z, Rf, K, n, z) Q) := (w_iload_n t158_64 rfl rfl).trans ((w_iload_n t158_65 rfl rfl).trans (w_icge t158_66 rfl rfl rfl rfl))
set_option maxRecDepth 10000 in
theorem b158_69 {d : Nat} {l0 : Option sm_V} {l1 : Option sm_V} {l2 : Option sm_V} {Z : Nat → Nat → Int} {Rf : Nat → Nat → Option Nat} {K : Nat → Nat × Nat} {n z : Nat} {Q : Option sm_V → sm_S → Prop} : sm_wp d 158 69 [l0, l1, l2] [] (Z, Rf, K, n, z) Q = (sm_wp d 158 74 [l0, l1, l2] [.inl 1] (Z, Rf, K, n, z) Q) := (w_iconst t158_69 rfl).trans (w_goto t158_70 rfl)
set_option maxRecDepth 10000 in
theorem b158_73 {d : Nat} {l0 : Option sm_V} {l1 : Option sm_V} {l2 : Option sm_V} {Z : Nat → Nat → Int} {Rf : Nat → Nat → Option Nat} {K : Nat → Nat × Nat} {n z : Nat} {Q : Option sm_V → sm_S → Prop} : sm_wp d 158 73 [l0, l1, l2] [] (Z, Rf, K, n, z) Q = (sm_wp d 158 74 [l0, l1, l2] [.inl 0] (Z, Rf, K, n, z) Q) := w_iconst t158_73 rfl
set_option maxRecDepth 10000 in
theorem b158_74 {d : Nat} {l0 : Option sm_V} {l1 : Option sm_V} {l2 : Option sm_V} {s0 : Int} {Z : Nat → Nat → Int} {Rf : Nat → Nat → Option Nat} {K : Nat → Nat × Nat} {n z : Nat} {Q : Option sm_V → sm_S → Prop} : sm_wp d 158 74 [l0, l1, l2] [.inl s0] (Z, Rf, K, n, z) Q = (Q (some (.inl s0)) (Z, Rf, K, n, z)) := w_iret t158_74
set_option maxRecDepth 10000 in
theorem b158_75 {d : Nat} {l0 : Option sm_V} {x1 : Int} {x2 : Int} {Z : Nat → Nat → Int} {Rf : Nat → Nat → Option Nat} {K : Nat → Nat × Nat} {n z : Nat} {Q : Option sm_V → sm_S → Prop} : sm_wp d 158 75 [l0, some (.inl x1), some (.inl x2)] [] (Z, Rf, K, n, z) Q = (if wr x1 = wr x2 then sm_wp d 158 80 [l0, some (.inl x1), some (.inl x2)] [] (Z, Rf, K, n, z) Q else sm_wp d 158 84 [l0, some (.inl x1), some (.inl x2)] [] (Z, Rf, K, n, z) Q) := (w_iload_n t158_75 rfl rfl).trans ((w_iload_n t158_76 rfl rfl).trans (w_icne t158_77 rfl rfl rfl rfl))
set_option maxRecDepth 10000 in
theorem b158_80 {d : Nat} {l0 : Option sm_V} {l1 : Option sm_V} {l2 : Option sm_V} {Z : Nat → Nat → Int} {Rf : Nat → Nat → Option Nat} {K : Nat → Nat × Nat} {n z : Nat} {Q : Option sm_V → sm_S → Prop} : sm_wp d 158 80 [l0, l1, l2] [] (Z, Rf, K, n, z) Q = (sm_wp d 158 85 [l0, l1, l2] [.inl 1] (Z, Rf, K, n, z) Q) := (w_iconst t158_80 rfl).trans (w_goto t158_81 rfl)
set_option maxRecDepth 10000 in
theorem b158_84 {d : Nat} {l0 : Option sm_V} {l1 : Option sm_V} {l2 : Option sm_V} {Z : Nat → Nat → Int} {Rf : Nat → Nat → Option Nat} {K : Nat → Nat × Nat} {n z : Nat} {Q : Option sm_V → sm_S → Prop} : sm_wp d 158 84 [l0, l1, l2] [] (Z, Rf, K, n, z) Q = (sm_wp d 158 85 [l0, l1, l2] [.inl 0] (Z, Rf, K, n, z) Q) := w_iconst t158_84 rfl
set_option maxRecDepth 10000 in
theorem b158_85 {d : Nat} {l0 : Option sm_V} {l1 : Option sm_V} {l2 : Option sm_V} {s0 : Int} {Z : Nat → Nat → Int} {Rf : Nat → Nat → Option Nat} {K : Nat → Nat × Nat} {n z : Nat} {Q : Option sm_V → sm_S → Prop} : sm_wp d 158 85 [l0, l1, l2] [.inl s0] (Z, Rf, K, n, z) Q = (Q (some (.inl s0)) (Z, Rf, K, n, z)) := w_iret t158_85
set_option maxRecDepth 10000 in
theorem b158_86 {d : Nat} {l0 : Option sm_V} {x1 : Int} {x2 : Int} {Z : Nat → Nat → Int} {Rf : Nat → Nat → Option Nat} {K : Nat → Nat × Nat} {n z : Nat} {Q : Option sm_V → sm_S → Prop} : sm_wp d 158 86 [l0, some (.inl x1), some (.inl x2)] [] (Z, Rf, K, n, z) Q = (if wr x1 ≤ wr x2 then sm_wp d 158 95 [l0, some (.inl x1), some (.inl x2)] [] (Z, Rf, K, n, z) Q else sm_wp d 158 91 [l0, some (.inl x1), some (.inl x2)] [] (Z, Rf, K, n, z) Q) := (w_iload_n t158_86 rfl rfl).trans ((w_iload_n t158_87 rfl rfl).trans (w_icle t158_88 rfl rfl rfl rfl))
set_option maxRecDepth 10000 in
theorem b158_91 {d : Nat} {l0 : Option sm_V} {l1 : Option sm_V} {l2 : Option sm_V} {Z : Nat → Nat → Int} {Rf : Nat → Nat → Option Nat} {K : Nat → Nat × Nat} {n z : Nat} {Q : Option sm_V → sm_S → Prop} : sm_wp d 158 91 [l0, l1, l2] [] (Z, Rf, K, n, z) Q = (sm_wp d 158 96 [l0, l1, l2] [.inl 1] (Z, Rf, K, n, z) Q) := (w_iconst t158_91 rfl).trans (w_goto t158_92 rfl)
set_option maxRecDepth 10000 in
theorem b158_95 {d : Nat} {l0 : Option sm_V} {l1 : Option sm_V} {l2 : Option sm_V} {Z : Nat → Nat → Int} {Rf : Nat → Nat → Option Nat} {K : Nat → Nat × Nat} {n z : Nat} {Q : Option sm_V → sm_S → Prop} : sm_wp d 158 95 [l0, l1, l2] [] (Z, Rf, K, n, z) Q = (sm_wp d 158 96 [l0, l1, l2] [.inl 0] (Z, Rf, K, n, z) Q) := w_iconst t158_95 rfl
set_option maxRecDepth 10000 in
theorem b158_96 {d : Nat} {l0 : Option sm_V} {l1 : Option sm_V} {l2 : Option sm_V} {s0 : Int} {Z : Nat → Nat → Int} {Rf : Nat → Nat → Option Nat} {K : Nat → Nat × Nat} {n z : Nat} {Q : Option sm_V → sm_S → Prop} : sm_wp d 158 96 [l0, l1, l2] [.inl s0] (Z, Rf, K, n, z) Q = (Q (some (.inl s0)) (Z, Rf, K, n, z)) := w_iret t158_96
set_option maxRecDepth 10000 in
theorem b158_97 {d : Nat} {l0 : Option sm_V} {x1 : Int} {x2 : Int} {Z : Nat → Nat → Int} {Rf : Nat → Nat → Option Nat} {K : Nat → Nat × Nat} {n z : Nat} {Q : Option sm_V → sm_S → Prop} : sm_wp d 158 97 [l0, some (.inl x1), some (.inl x2)] [] (Z, Rf, K, n, z) Q = (Q (some (.inl (sm_and x1 x2))) (Z, Rf, K, n, z)) := (w_iload_n t158_97 rfl rfl).trans ((w_iload_n t158_98 rfl rfl).trans ((w_iand t158_99 rfl).trans (w_iret t158_100)))
set_option maxRecDepth 10000 in
theorem b158_101 {d : Nat} {l0 : Option sm_V} {x1 : Int} {x2 : Int} {Z : Nat → Nat → Int} {Rf : Nat → Nat → Option Nat} {K : Nat → Nat × Nat} {n z : Nat} {Q : Option sm_V → sm_S → Prop} : sm_wp d 158 101 [l0, some (.inl x1), some (.inl x2)] [] (Z, Rf, K, n, z) Q = (Q (some (.inl (sm_or x1 x2))) (Z, Rf, K, n, z)) := (w_iload_n t158_101 rfl rfl).trans ((w_iload_n t158_102 rfl rfl).trans ((w_ior t158_103 rfl).trans (w_iret t158_104)))
theorem t159_0 : sm_at 159 0 = some (1, .iconst 0, 0, 0, 0) := rfl
theorem t159_1 : sm_at 159 1 = some (2, .istore 4, 0, 0, 0) := rfl
theorem t159_3 : sm_at 159 3 = some (1, .iload_n 2, 0, 0, 0) := rfl
theorem t159_4 : sm_at 159 4 = some (2, .istore 5, 0, 0, 0) := rfl
theorem t159_6 : sm_at 159 6 = some (2, .iload 5, 0, 0, 0) := rfl
theorem t159_8 : sm_at 159 8 = some (1, .iload_n 3, 0, 0, 0) := rfl
theorem t159_9 : sm_at 159 9 = some (3, .if_icmp .ge 177, 0, 0, 0) := rfl
theorem t159_12 : sm_at 159 12 = some (1, .aload_n 0, 0, 0, 0) := rfl
theorem t159_13 : sm_at 159 13 = some (3, .getfield 7, 11, 0, 0) := rfl
theorem t159_16 : sm_at 159 16 = some (3, .sipush 2200, 0, 0, 0) := rfl
theorem t159_19 : sm_at 159 19 = some (3, .sipush 820, 0, 0, 0) := rfl
theorem t159_22 : sm_at 159 22 = some (1, .iload_n 1, 0, 0, 0) := rfl
theorem t159_23 : sm_at 159 23 = some (1, .imul, 0, 0, 0) := rfl
theorem t159_24 : sm_at 159 24 = some (1, .iadd, 0, 0, 0) := rfl
theorem t159_25 : sm_at 159 25 = some (1, .iconst 2, 0, 0, 0) := rfl
theorem t159_26 : sm_at 159 26 = some (2, .iload 5, 0, 0, 0) := rfl
theorem t159_28 : sm_at 159 28 = some (1, .imul, 0, 0, 0) := rfl
theorem t159_29 : sm_at 159 29 = some (1, .iadd, 0, 0, 0) := rfl
theorem t159_30 : sm_at 159 30 = some (1, .iaload, 0, 0, 0) := rfl
theorem t159_31 : sm_at 159 31 = some (2, .istore 6, 0, 0, 0) := rfl
theorem t159_33 : sm_at 159 33 = some (1, .aload_n 0, 0, 0, 0) := rfl
theorem t159_34 : sm_at 159 34 = some (3, .getfield 7, 11, 0, 0) := rfl
theorem t159_37 : sm_at 159 37 = some (3, .sipush 2200, 0, 0, 0) := rfl
theorem t159_40 : sm_at 159 40 = some (3, .sipush 820, 0, 0, 0) := rfl
theorem t159_43 : sm_at 159 43 = some (1, .iload_n 1, 0, 0, 0) := rfl
theorem t159_44 : sm_at 159 44 = some (1, .imul, 0, 0, 0) := rfl
theorem t159_45 : sm_at 159 45 = some (1, .iadd, 0, 0, 0) := rfl
theorem t159_46 : sm_at 159 46 = some (1, .iconst 2, 0, 0, 0) := rfl
theorem t159_47 : sm_at 159 47 = some (2, .iload 5, 0, 0, 0) := rfl
theorem t159_49 : sm_at 159 49 = some (1, .imul, 0, 0, 0) := rfl
theorem t159_50 : sm_at 159 50 = some (1, .iadd, 0, 0, 0) := rfl
theorem t159_51 : sm_at 159 51 = some (1, .iconst 1, 0, 0, 0) := rfl
theorem t159_52 : sm_at 159 52 = some (1, .iadd, 0, 0, 0) := rfl
theorem t159_53 : sm_at 159 53 = some (1, .iaload, 0, 0, 0) := rfl
theorem t159_54 : sm_at 159 54 = some (2, .istore 7, 0, 0, 0) := rfl
theorem t159_56 : sm_at 159 56 = some (2, .iload 6, 0, 0, 0) := rfl
theorem t159_58 : sm_at 159 58 = some (2, .bipush 13, 0, 0, 0) := rfl
theorem t159_60 : sm_at 159 60 = some (3, .if_icmp .ge 33, 0, 0, 0) := rfl
theorem t159_63 : sm_at 159 63 = some (1, .aload_n 0, 0, 0, 0) := rfl
theorem t159_64 : sm_at 159 64 = some (3, .getfield 31, 11, 10, 0) := rfl
theorem t159_67 : sm_at 159 67 = some (2, .iload 4, 0, 0, 0) := rfl
theorem t159_69 : sm_at 159 69 = some (2, .iload 6, 0, 0, 0) := rfl
theorem t159_71 : sm_at 159 71 = some (3, .ifCond .ne 8, 0, 0, 0) := rfl
theorem t159_74 : sm_at 159 74 = some (2, .iload 7, 0, 0, 0) := rfl
theorem t159_76 : sm_at 159 76 = some (3, .goto 10, 0, 0, 0) := rfl
theorem t159_79 : sm_at 159 79 = some (1, .aload_n 0, 0, 0, 0) := rfl
theorem t159_80 : sm_at 159 80 = some (3, .getfield 34, 11, 11, 0) := rfl
theorem t159_83 : sm_at 159 83 = some (2, .iload 6, 0, 0, 0) := rfl
theorem t159_85 : sm_at 159 85 = some (1, .iaload, 0, 0, 0) := rfl
theorem t159_86 : sm_at 159 86 = some (1, .iastore, 0, 0, 0) := rfl
theorem t159_87 : sm_at 159 87 = some (3, .iinc 4 1, 0, 0, 0) := rfl
theorem t159_90 : sm_at 159 90 = some (3, .goto 90, 0, 0, 0) := rfl
theorem t159_93 : sm_at 159 93 = some (2, .iload 6, 0, 0, 0) := rfl
theorem t159_95 : sm_at 159 95 = some (2, .bipush 16, 0, 0, 0) := rfl
theorem t159_97 : sm_at 159 97 = some (3, .if_icmp .ne 20, 0, 0, 0) := rfl
theorem t159_100 : sm_at 159 100 = some (1, .aload_n 0, 0, 0, 0) := rfl
theorem t159_101 : sm_at 159 101 = some (3, .getfield 31, 11, 10, 0) := rfl
theorem t159_104 : sm_at 159 104 = some (2, .iload 4, 0, 0, 0) := rfl
theorem t159_106 : sm_at 159 106 = some (1, .iconst 1, 0, 0, 0) := rfl
theorem t159_107 : sm_at 159 107 = some (1, .isub, 0, 0, 0) := rfl
set_option maxRecDepth 100000 in
theorem t159_108 : sm_at 159 108 = some (1, .dup2, 0, 0, 0) := rfl
set_option maxRecDepth 100000 in
theorem t159_109 : sm_at 159 109 = some (1, .iaload, 0, 0, 0) := rfl
set_option maxRecDepth 100000 in
theorem t159_110 : sm_at 159 110 = some (2, .iload 7, 0, 0, 0) := rfl
set_option maxRecDepth 100000 in
theorem t159_112 : sm_at 159 112 = some (1, .idiv, 0, 0, 0) := rfl
set_option maxRecDepth 100000 in
theorem t159_113 : sm_at 159 113 = some (1, .iastore, 0, 0, 0) := rfl
set_option maxRecDepth 100000 in
theorem t159_114 : sm_at 159 114 = some (3, .goto 66, 0, 0, 0) := rfl
set_option maxRecDepth 100000 in
theorem t159_117 : sm_at 159 117 = some (2, .iload 6, 0, 0, 0) := rfl
set_option maxRecDepth 100000 in
theorem t159_119 : sm_at 159 119 = some (2, .bipush 20, 0, 0, 0) := rfl
set_option maxRecDepth 100000 in
theorem t159_121 : sm_at 159 121 = some (3, .if_icmp .ne 26, 0, 0, 0) := rfl
set_option maxRecDepth 100000 in
theorem t159_124 : sm_at 159 124 = some (1, .aload_n 0, 0, 0, 0) := rfl
set_option maxRecDepth 100000 in
theorem t159_125 : sm_at 159 125 = some (3, .getfield 31, 11, 10, 0) := rfl
set_option maxRecDepth 100000 in
theorem t159_128 : sm_at 159 128 = some (2, .iload 4, 0, 0, 0) := rfl
set_option maxRecDepth 100000 in
theorem t159_130 : sm_at 159 130 = some (1, .iconst 1, 0, 0, 0) := rfl
set_option maxRecDepth 100000 in
theorem t159_131 : sm_at 159 131 = some (1, .isub, 0, 0, 0) := rfl
set_option maxRecDepth 100000 in
theorem t159_132 : sm_at 159 132 = some (1, .iconst 1, 0, 0, 0) := rfl
set_option maxRecDepth 100000 in
theorem t159_133 : sm_at 159 133 = some (1, .aload_n 0, 0, 0, 0) := rfl
set_option maxRecDepth 100000 in
theorem t159_134 : sm_at 159 134 = some (3, .getfield 31, 11, 10, 0) := rfl
set_option maxRecDepth 100000 in
theorem t159_137 : sm_at 159 137 = some (2, .iload 4, 0, 0, 0) := rfl
set_option maxRecDepth 100000 in
theorem t159_139 : sm_at 159 139 = some (1, .iconst 1, 0, 0, 0) := rfl
set_option maxRecDepth 100000 in
theorem t159_140 : sm_at 159 140 = some (1, .isub, 0, 0, 0) := rfl
set_option maxRecDepth 100000 in
theorem t159_141 : sm_at 159 141 = some (1, .iaload, 0, 0, 0) := rfl
set_option maxRecDepth 100000 in
theorem t159_142 : sm_at 159 142 = some (1, .isub, 0, 0, 0) := rfl
set_option maxRecDepth 100000 in
theorem t159_143 : sm_at 159 143 = some (1, .iastore, 0, 0, 0) := rfl
set_option maxRecDepth 100000 in
theorem t159_144 : sm_at 159 144 = some (3, .goto 36, 0, 0, 0) := rfl
set_option maxRecDepth 100000 in
theorem t159_147 : sm_at 159 147 = some (3, .iinc 4 (-1), 0, 0, 0) := rfl
set_option maxRecDepth 100000 in
theorem t159_150 : sm_at 159 150 = some (1, .aload_n 0, 0, 0, 0) := rfl
set_option maxRecDepth 100000 in
theorem t159_151 : sm_at 159 151 = some (3, .getfield 31, 11, 10, 0) := rfl
set_option maxRecDepth 100000 in
theorem t159_154 : sm_at 159 154 = some (2, .iload 4, 0, 0, 0) := rfl
set_option maxRecDepth 100000 in
theorem t159_156 : sm_at 159 156 = some (1, .iconst 1, 0, 0, 0) := rfl
set_option maxRecDepth 100000 in
theorem t159_157 : sm_at 159 157 = some (1, .isub, 0, 0, 0) := rfl
set_option maxRecDepth 100000 in
theorem t159_158 : sm_at 159 158 = some (2, .iload 6, 0, 0, 0) := rfl
set_option maxRecDepth 100000 in
theorem t159_160 : sm_at 159 160 = some (1, .aload_n 0, 0, 0, 0) := rfl
set_option maxRecDepth 100000 in
theorem t159_161 : sm_at 159 161 = some (3, .getfield 31, 11, 10, 0) := rfl
set_option maxRecDepth 100000 in
theorem t159_164 : sm_at 159 164 = some (2, .iload 4, 0, 0, 0) := rfl
set_option maxRecDepth 100000 in
theorem t159_166 : sm_at 159 166 = some (1, .iconst 1, 0, 0, 0) := rfl
set_option maxRecDepth 100000 in
theorem t159_167 : sm_at 159 167 = some (1, .isub, 0, 0, 0) := rfl
set_option maxRecDepth 100000 in
theorem t159_168 : sm_at 159 168 = some (1, .iaload, 0, 0, 0) := rfl
set_option maxRecDepth 100000 in
theorem t159_169 : sm_at 159 169 = some (1, .aload_n 0, 0, 0, 0) := rfl
set_option maxRecDepth 100000 in
theorem t159_170 : sm_at 159 170 = some (3, .getfield 31, 11, 10, 0) := rfl
set_option maxRecDepth 100000 in
theorem t159_173 : sm_at 159 173 = some (2, .iload 4, 0, 0, 0) := rfl
set_option maxRecDepth 100000 in
theorem t159_175 : sm_at 159 175 = some (1, .iaload, 0, 0, 0) := rfl
set_option maxRecDepth 100000 in
theorem t159_176 : sm_at 159 176 = some (3, .invokestatic 231, 158, 3, 0) := rfl
set_option maxRecDepth 100000 in
theorem t159_179 : sm_at 159 179 = some (1, .iastore, 0, 0, 0) := rfl
set_option maxRecDepth 100000 in
theorem t159_180 : sm_at 159 180 = some (3, .iinc 5 1, 0, 0, 0) := rfl
set_option maxRecDepth 100000 in
theorem t159_183 : sm_at 159 183 = some (3, .goto (-177), 0, 0, 0) := rfl
set_option maxRecDepth 100000 in
theorem t159_186 : sm_at 159 186 = some (1, .aload_n 0, 0, 0, 0) := rfl
set_option maxRecDepth 100000 in
theorem t159_187 : sm_at 159 187 = some (3, .getfield 31, 11, 10, 0) := rfl
set_option maxRecDepth 100000 in
theorem t159_190 : sm_at 159 190 = some (1, .iconst 0, 0, 0, 0) := rfl
set_option maxRecDepth 100000 in
theorem t159_191 : sm_at 159 191 = some (1, .iaload, 0, 0, 0) := rfl
set_option maxRecDepth 100000 in
theorem t159_192 : sm_at 159 192 = some (1, .ireturn, 0, 0, 0) := rfl
set_option maxRecDepth 10000 in
theorem b159_0 {d : Nat} {l0 : Option sm_V} {l1 : Option sm_V} {x2 : Int} {l3 : Option sm_V} {l4 : Option sm_V} {l5 : Option sm_V} {l6 : Option sm_V} {l7 : Option sm_V} {Z : Nat → Nat → Int} {Rf : Nat → Nat → Option Nat} {K : Nat → Nat × Nat} {n z : Nat} {Q : Option sm_V → sm_S → Prop} : sm_wp d 159 0 [l0, l1, some (.inl x2), l3, l4, l5, l6, l7] [] (Z, Rf, K, n, z) Q = (sm_wp d 159 6 [l0, l1, some (.inl x2), l3, some (.inl 0), some (.inl x2), l6, l7] [] (Z, Rf, K, n, z) Q) := (w_iconst t159_0 rfl).trans ((w_istore t159_1 rfl (Nat.le_of_ble_eq_true rfl) rfl).trans ((w_iload_n t159_3 rfl rfl).trans (w_istore t159_4 rfl (Nat.le_of_ble_eq_true rfl) rfl)))
set_option maxRecDepth 10000 in
theorem b159_6 {d : Nat} {l0 : Option sm_V} {l1 : Option sm_V} {l2 : Option sm_V} {x3 : Int} {l4 : Option sm_V} {x5 : Int} {l6 : Option sm_V} {l7 : Option sm_V} {Z : Nat → Nat → Int} {Rf : Nat → Nat → Option Nat} {K : Nat → Nat × Nat} {n z : Nat} {Q : Option sm_V → sm_S → Prop} : sm_wp d 159 6 [l0, l1, l2, some (.inl x3), l4, some (.inl x5), l6, l7] [] (Z, Rf, K, n, z) Q = (if wr x3 ≤ wr x5 then sm_wp d 159 186 [l0, l1, l2, some (.inl x3), l4, some (.inl x5), l6, l7] [] (Z, Rf, K, n, z) Q else sm_wp d 159 12 [l0, l1, l2, some (.inl x3), l4, some (.inl x5), l6, l7] [] (Z, Rf, K, n, z) Q) := (w_iload t159_6 rfl rfl).trans ((w_iload_n t159_8 rfl rfl).trans (w_icge t159_9 rfl rfl rfl rfl))
set_option maxRecDepth 10000 in
theorem b159_12 {d : Nat} {r0 : Nat} {x1 : Int} {l2 : Option sm_V} {l3 : Option sm_V} {l4 : Option sm_V} {x5 : Int} {l6 : Option sm_V} {l7 : Option sm_V} {Z : Nat → Nat → Int} {Rf : Nat → Nat → Option Nat} {K : Nat → Nat × Nat} {n z : Nat} {Q : Option sm_V → sm_S → Prop} : sm_wp d 159 12 [some (.inr (some r0)), some (.inl x1), l2, l3, l4, some (.inl x5), l6, l7] [] (Z, Rf, K, n, z) Q = ((K r0).1 = 11 ∧ (Rf r0 0).isSome = true ∧ sm_rd (K (((Rf r0 0).getD 0))) (wr ((2200 + (820 * x1)) + (2 * x5))) ∧ (K r0).1 = 11 ∧ (Rf r0 0).isSome = true ∧ sm_rd (K (((Rf r0 0).getD 0))) (wr (((2200 + (820 * x1)) + (2 * x5)) + 1)) ∧ (if (13 : Int) ≤ wr (Z (((Rf r0 0).getD 0)) ((wr ((2200 + (820 * x1)) + (2 * x5))).toNat)) then sm_wp d 159 93 [some (.inr (some r0)), some (.inl x1), l2, l3, l4, some (.inl x5), some (.inl (Z (((Rf r0 0).getD 0)) ((wr ((2200 + (820 * x1)) + (2 * x5))).toNat))), some (.inl (Z (((Rf r0 0).getD 0)) ((wr (((2200 + (820 * x1)) + (2 * x5)) + 1)).toNat)))] [] (Z, Rf, K, n, z) Q else sm_wp d 159 63 [some (.inr (some r0)), some (.inl x1), l2, l3, l4, some (.inl x5), some (.inl (Z (((Rf r0 0).getD 0)) ((wr ((2200 + (820 * x1)) + (2 * x5))).toNat))), some (.inl (Z (((Rf r0 0).getD 0)) ((wr (((2200 + (820 * x1)) + (2 * x5)) + 1)).toNat)))] [] (Z, Rf, K, n, z) Q)) := (w_aload_n t159_12 rfl rfl).trans ((w_getR t159_13 rfl (by decide)).trans (congrArg (And _) (congrArg (And _) ((w_sipush t159_16 rfl).trans ((w_sipush t159_19 rfl).trans ((w_iload_n t159_22 rfl rfl).trans ((w_imul t159_23 rfl).trans ((w_iadd t159_24 rfl).trans ((w_iconst t159_25 rfl).trans ((w_iload t159_26 rfl rfl).trans ((w_imul t159_28 rfl).trans ((w_iadd t159_29 rfl).trans ((w_iald t159_30 rfl rfl).trans (congrArg (And _) ((w_istore t159_31 rfl (Nat.le_of_ble_eq_true rfl) rfl).trans ((w_aload_n t159_33 rfl rfl).trans ((w_getR t159_34 rfl (by decide)).trans (congrArg (And _) (congrArg (And _) ((w_sipush t159_37 rfl).trans ((w_sipush t159_40 rfl).trans ((w_iload_n t159_43 rfl rfl).trans ((w_imul t159_44 rfl).trans ((w_iadd t159_45 rfl).trans ((w_iconst t159_46 rfl).trans ((w_iload t159_47 rfl rfl).trans ((w_imul t159_49 rfl).trans ((w_iadd t159_50 rfl).trans ((w_iconst t159_51 rfl).trans ((w_iadd t159_52 rfl).trans ((w_iald t159_53 rfl rfl).trans (congrArg (And _) ((w_istore t159_54 rfl (Nat.le_of_ble_eq_true rfl) rfl).trans ((w_iload t159_56 rfl rfl).trans ((w_bipush t159_58 rfl).trans (w_icge t159_60 rfl wl_13 rfl rfl))))))))))))))))))))))))))))))))))))
set_option maxRecDepth 10000 in
theorem b159_63 {d : Nat} {r0 : Nat} {l1 : Option sm_V} {l2 : Option sm_V} {l3 : Option sm_V} {x4 : Int} {l5 : Option sm_V} {x6 : Int} {l7 : Option sm_V} {Z : Nat → Nat → Int} {Rf : Nat → Nat → Option Nat} {K : Nat → Nat × Nat} {n z : Nat} {Q : Option sm_V → sm_S → Prop} : sm_wp d 159 63 [some (.inr (some r0)), l1, l2, l3, some (.inl x4), l5, some (.inl x6), l7] [] (Z, Rf, K, n, z) Q = ((K r0).1 = 11 ∧ (Rf r0 10).isSome = true ∧ (if wr x6 = 0 then sm_wp d 159 74 [some (.inr (some r0)), l1, l2, l3, some (.inl x4), l5, some (.inl x6), l7] [.inl x4, .inr (some ((Rf r0 10).getD 0))] (Z, Rf, K, n, z) Q else sm_wp d 159 79 [some (.inr (some r0)), l1, l2, l3, some (.inl x4), l5, some (.inl x6), l7] [.inl x4, .inr (some ((Rf r0 10).getD 0))] (Z, Rf, K, n, z) Q)) := (w_aload_n t159_63 rfl rfl).trans ((w_getR t159_64 rfl (by decide)).trans (congrArg (And _) (congrArg (And _) ((w_iload t159_67 rfl rfl).trans ((w_iload t159_69 rfl rfl).trans (w_ifne t159_71 rfl rfl rfl))))))
set_option maxRecDepth 10000 in
theorem b159_74 {d : Nat} {l0 : Option sm_V} {l1 : Option sm_V} {l2 : Option sm_V} {l3 : Option sm_V} {l4 : Option sm_V} {l5 : Option sm_V} {l6 : Option sm_V} {x7 : Int} {qs0 : Option Nat} {s1 : Int} {Z : Nat → Nat → Int} {Rf : Nat → Nat → Option Nat} {K : Nat → Nat × Nat} {n z : Nat} {Q : Option sm_V → sm_S → Prop} : sm_wp d 159 74 [l0, l1, l2, l3, l4, l5, l6, some (.inl x7)] [.inl s1, .inr qs0] (Z, Rf, K, n, z) Q = (sm_wp d 159 86 [l0, l1, l2, l3, l4, l5, l6, some (.inl x7)] [.inl x7, .inl s1, .inr qs0] (Z, Rf, K, n, z) Q) := (w_iload t159_74 rfl rfl).trans (w_goto t159_76 rfl)
set_option maxRecDepth 10000 in
theorem b159_79 {d : Nat} {r0 : Nat} {l1 : Option sm_V} {l2 : Option sm_V} {l3 : Option sm_V} {l4 : Option sm_V} {l5 : Option sm_V} {x6 : Int} {l7 : Option sm_V} {qs0 : Option Nat} {s1 : Int} {Z : Nat → Nat → Int} {Rf : Nat → Nat → Option Nat} {K : Nat → Nat × Nat} {n z : Nat} {Q : Option sm_V → sm_S → Prop} : sm_wp d 159 79 [some (.inr (some r0)), l1, l2, l3, l4, l5, some (.inl x6), l7] [.inl s1, .inr qs0] (Z, Rf, K, n, z) Q = ((K r0).1 = 11 ∧ (Rf r0 11).isSome = true ∧ sm_rd (K (((Rf r0 11).getD 0))) (wr x6) ∧ sm_wp d 159 86 [some (.inr (some r0)), l1, l2, l3, l4, l5, some (.inl x6), l7] [.inl (Z (((Rf r0 11).getD 0)) ((wr x6).toNat)), .inl s1, .inr qs0] (Z, Rf, K, n, z) Q) := (w_aload_n t159_79 rfl rfl).trans ((w_getR t159_80 rfl (by decide)).trans (congrArg (And _) (congrArg (And _) ((w_iload t159_83 rfl rfl).trans ((w_iald t159_85 rfl rfl).trans (congrArg (And _) rfl))))))
set_option maxRecDepth 10000 in
theorem b159_86 {d : Nat} {l0 : Option sm_V} {l1 : Option sm_V} {l2 : Option sm_V} {l3 : Option sm_V} {x4 : Int} {l5 : Option sm_V} {l6 : Option sm_V} {l7 : Option sm_V} {rs0 : Nat} {s1 : Int} {s2 : Int} {Z : Nat → Nat → Int} {Rf : Nat → Nat → Option Nat} {K : Nat → Nat × Nat} {n z : Nat} {Q : Option sm_V → sm_S → Prop} : sm_wp d 159 86 [l0, l1, l2, l3, some (.inl x4), l5, l6, l7] [.inl s2, .inl s1, .inr (some rs0)] (Z, Rf, K, n, z) Q = (sm_wt (K rs0) (wr s1) ∧ sm_wp d 159 180 [l0, l1, l2, l3, some (.inl (x4 + 1)), l5, l6, l7] [] (sm_u Z rs0 ((wr s1).toNat) s2, Rf, K, n, z) Q) := (w_iast t159_86 rfl rfl).trans (congrArg (And _) ((w_iinc t159_87 rfl rfl (Nat.le_of_ble_eq_true rfl) rfl).trans (w_goto t159_90 rfl)))
set_option maxRecDepth 10000 in
theorem b159_93 {d : Nat} {l0 : Option sm_V} {l1 : Option sm_V} {l2 : Option sm_V} {l3 : Option sm_V} {l4 : Option sm_V} {l5 : Option sm_V} {x6 : Int} {l7 : Option sm_V} {Z : Nat → Nat → Int} {Rf : Nat → Nat → Option Nat} {K : Nat → Nat × Nat} {n z : Nat} {Q : Option sm_V → sm_S → Prop} : sm_wp d 159 93 [l0, l1, l2, l3, l4, l5, some (.inl x6), l7] [] (Z, Rf, K, n, z) Q = (if wr x6 = (16 : Int) then sm_wp d 159 100 [l0, l1, l2, l3, l4, l5, some (.inl x6), l7] [] (Z, Rf, K, n, z) Q else sm_wp d 159 117 [l0, l1, l2, l3, l4, l5, some (.inl x6), l7] [] (Z, Rf, K, n, z) Q) := (w_iload t159_93 rfl rfl).trans ((w_bipush t159_95 rfl).trans (w_icne t159_97 rfl wl_16 rfl rfl))
set_option maxRecDepth 10000 in
theorem b159_100 {d : Nat} {r0 : Nat} {l1 : Option sm_V} {l2 : Option sm_V} {l3 : Option sm_V} {x4 : Int} {l5 : Option sm_V} {l6 : Option sm_V} {x7 : Int} {Z : Nat → Nat → Int} {Rf : Nat → Nat → Option Nat} {K : Nat → Nat × Nat} {n z : Nat} {Q : Option sm_V → sm_S → Prop} : sm_wp d 159 100 [some (.inr (some r0)), l1, l2, l3, some (.inl x4), l5, l6, some (.inl x7)] [] (Z, Rf, K, n, z) Q = ((K r0).1 = 11 ∧ (Rf r0 10).isSome = true ∧ sm_rd (K (((Rf r0 10).getD 0))) (wr (x4 - 1)) ∧ ¬ wr x7 = 0 ∧ sm_wt (K (((Rf r0 10).getD 0))) (wr (x4 - 1)) ∧ sm_wp d 159 180 [some (.inr (some r0)), l1, l2, l3, some (.inl x4), l5, l6, some (.inl x7)] [] (sm_u Z (((Rf r0 10).getD 0)) ((wr (x4 - 1)).toNat) (sm_div (Z (((Rf r0 10).getD 0)) ((wr (x4 - 1)).toNat)) x7), Rf, K, n, z) Q) := (w_aload_n t159_100 rfl rfl).trans ((w_getR t159_101 rfl (by decide)).trans (congrArg (And _) (congrArg (And _) ((w_iload t159_104 rfl rfl).trans ((w_iconst t159_106 rfl).trans ((w_isub t159_107 rfl).trans ((w_dup2 t159_108 rfl).trans ((w_iald t159_109 rfl rfl).trans (congrArg (And _) ((w_iload t159_110 rfl rfl).trans ((w_idiv t159_112 rfl rfl).trans (congrArg (And _) ((w_iast t159_113 rfl rfl).trans (congrArg (And _) (w_goto t159_114 rfl)))))))))))))))
set_option maxRecDepth 10000 in
theorem b159_117 {d : Nat} {l0 : Option sm_V} {l1 : Option sm_V} {l2 : Option sm_V} {l3 : Option sm_V} {l4 : Option sm_V} {l5 : Option sm_V} {x6 : Int} {l7 : Option sm_V} {Z : Nat → Nat → Int} {Rf : Nat → Nat → Option Nat} {K : Nat → Nat × Nat} {n z : Nat} {Q : Option sm_V → sm_S → Prop} : sm_wp d 159 117 [l0, l1, l2, l3, l4, l5, some (.inl x6), l7] [] (Z, Rf, K, n, z) Q = (if wr x6 = (20 : Int) then sm_wp d 159 124 [l0, l1, l2, l3, l4, l5, some (.inl x6), l7] [] (Z, Rf, K, n, z) Q else sm_wp d 159 147 [l0, l1, l2, l3, l4, l5, some (.inl x6), l7] [] (Z, Rf, K, n, z) Q) := (w_iload t159_117 rfl rfl).trans ((w_bipush t159_119 rfl).trans (w_icne t159_121 rfl wl_20 rfl rfl))
set_option maxRecDepth 10000 in
theorem b159_124 {d : Nat} {r0 : Nat} {l1 : Option sm_V} {l2 : Option sm_V} {l3 : Option sm_V} {x4 : Int} {l5 : Option sm_V} {l6 : Option sm_V} {l7 : Option sm_V} {Z : Nat → Nat → Int} {Rf : Nat → Nat → Option Nat} {K : Nat → Nat × Nat} {n z : Nat} {Q : Option sm_V → sm_S → Prop} : sm_wp d 159 124 [some (.inr (some r0)), l1, l2, l3, some (.inl x4), l5, l6, l7] [] (Z, Rf, K, n, z) Q = ((K r0).1 = 11 ∧ (Rf r0 10).isSome = true ∧ (K r0).1 = 11 ∧ (Rf r0 10).isSome = true ∧ sm_rd (K (((Rf r0 10).getD 0))) (wr (x4 - 1)) ∧ sm_wt (K (((Rf r0 10).getD 0))) (wr (x4 - 1)) ∧ sm_wp d 159 180 [some (.inr (some r0)), l1, l2, l3, some (.inl x4), l5, l6, l7] [] (sm_u Z (((Rf r0 10).getD 0)) ((wr (x4 - 1)).toNat) (1 - (Z (((Rf r0 10).getD 0)) ((wr (x4 - 1)).toNat))), Rf, K, n, z) Q) := (w_aload_n t159_124 rfl rfl).trans ((w_getR t159_125 rfl (by decide)).trans (congrArg (And _) (congrArg (And _) ((w_iload t159_128 rfl rfl).trans ((w_iconst t159_130 rfl).trans ((w_isub t159_131 rfl).trans ((w_iconst t159_132 rfl).trans ((w_aload_n t159_133 rfl rfl).trans ((w_getR t159_134 rfl (by decide)).trans (congrArg (And _) (congrArg (And _) ((w_iload t159_137 rfl rfl).trans ((w_iconst t159_139 rfl).trans ((w_isub t159_140 rfl).trans ((w_iald t159_141 rfl rfl).trans (congrArg (And _) ((w_isub t159_142 rfl).trans ((w_iast t159_143 rfl rfl).trans (congrArg (And _) (w_goto t159_144 rfl))))))))))))))))))))
set_option maxRecDepth 10000 in
theorem b159_147 {d : Nat} {r0 : Nat} {l1 : Option sm_V} {l2 : Option sm_V} {l3 : Option sm_V} {x4 : Int} {l5 : Option sm_V} {x6 : Int} {l7 : Option sm_V} {Z : Nat → Nat → Int} {Rf : Nat → Nat → Option Nat} {K : Nat → Nat × Nat} {n z : Nat} {Q : Option sm_V → sm_S → Prop} : sm_wp (d + 1) 159 147 [some (.inr (some r0)), l1, l2, l3, some (.inl x4), l5, some (.inl x6), l7] [] (Z, Rf, K, n, z) Q = ((K r0).1 = 11 ∧ (Rf r0 10).isSome = true ∧ (K r0).1 = 11 ∧ (Rf r0 10).isSome = true ∧ sm_rd (K (((Rf r0 10).getD 0))) (wr ((x4 + (-1)) - 1)) ∧ (K r0).1 = 11 ∧ (Rf r0 10).isSome = true ∧ sm_rd (K (((Rf r0 10).getD 0))) (wr (x4 + (-1))) ∧ sm_call d 158 [.inl x6, .inl (Z (((Rf r0 10).getD 0)) ((wr ((x4 + (-1)) - 1)).toNat)), .inl (Z (((Rf r0 10).getD 0)) ((wr (x4 + (-1))).toNat))] (Z, Rf, K, n, z) (sm_cont (d + 1) 159 179 [some (.inr (some r0)), l1, l2, l3, some (.inl (x4 + (-1))), l5, some (.inl x6), l7] [.inl ((x4 + (-1)) - 1), .inr (some ((Rf r0 10).getD 0))] Q)) := (w_iinc t159_147 rfl rfl (Nat.le_of_ble_eq_true rfl) rfl).trans ((w_aload_n t159_150 rfl rfl).trans ((w_getR t159_151 rfl (by decide)).trans (congrArg (And _) (congrArg (And _) ((w_iload t159_154 rfl rfl).trans ((w_iconst t159_156 rfl).trans ((w_isub t159_157 rfl).trans ((w_iload t159_158 rfl rfl).trans ((w_aload_n t159_160 rfl rfl).trans ((w_getR t159_161 rfl (by decide)).trans (congrArg (And _) (congrArg (And _) ((w_iload t159_164 rfl rfl).trans ((w_iconst t159_166 rfl).trans ((w_isub t159_167 rfl).trans ((w_iald t159_168 rfl rfl).trans (congrArg (And _) ((w_aload_n t159_169 rfl rfl).trans ((w_getR t159_170 rfl (by decide)).trans (congrArg (And _) (congrArg (And _) ((w_iload t159_173 rfl rfl).trans ((w_iald t159_175 rfl rfl).trans (congrArg (And _) (w_callS t159_176 rfl rfl rfl rfl (Nat.le_of_ble_eq_true rfl) (Nat.le_of_ble_eq_true rfl) rfl)))))))))))))))))))))))))
set_option maxRecDepth 10000 in
theorem b159_179 {d : Nat} {l0 : Option sm_V} {l1 : Option sm_V} {l2 : Option sm_V} {l3 : Option sm_V} {l4 : Option sm_V} {l5 : Option sm_V} {l6 : Option sm_V} {l7 : Option sm_V} {rs0 : Nat} {s1 : Int} {s2 : Int} {Z : Nat → Nat → Int} {Rf : Nat → Nat → Option Nat} {K : Nat → Nat × Nat} {n z : Nat} {Q : Option sm_V → sm_S → Prop} : sm_wp d 159 179 [l0, l1, l2, l3, l4, l5, l6, l7] [.inl s2, .inl s1, .inr (some rs0)] (Z, Rf, K, n, z) Q = (sm_wt (K rs0) (wr s1) ∧ sm_wp d 159 180 [l0, l1, l2, l3, l4, l5, l6, l7] [] (sm_u Z rs0 ((wr s1).toNat) s2, Rf, K, n, z) Q) := (w_iast t159_179 rfl rfl).trans (congrArg (And _) rfl)
set_option maxRecDepth 10000 in
theorem b159_180 {d : Nat} {l0 : Option sm_V} {l1 : Option sm_V} {l2 : Option sm_V} {l3 : Option sm_V} {l4 : Option sm_V} {x5 : Int} {l6 : Option sm_V} {l7 : Option sm_V} {Z : Nat → Nat → Int} {Rf : Nat → Nat → Option Nat} {K : Nat → Nat × Nat} {n z : Nat} {Q : Option sm_V → sm_S → Prop} : sm_wp d 159 180 [l0, l1, l2, l3, l4, some (.inl x5), l6, l7] [] (Z, Rf, K, n, z) Q = (sm_wp d 159 6 [l0, l1, l2, l3, l4, some (.inl (x5 + 1)), l6, l7] [] (Z, Rf, K, n, z) Q) := (w_iinc t159_180 rfl rfl (Nat.le_of_ble_eq_true rfl) rfl).trans (w_goto t159_183 rfl)
set_option maxRecDepth 10000 in
theorem b159_186 {d : Nat} {r0 : Nat} {l1 : Option sm_V} {l2 : Option sm_V} {l3 : Option sm_V} {l4 : Option sm_V} {l5 : Option sm_V} {l6 : Option sm_V} {l7 : Option sm_V} {Z : Nat → Nat → Int} {Rf : Nat → Nat → Option Nat} {K : Nat → Nat × Nat} {n z : Nat} {Q : Option sm_V → sm_S → Prop} : sm_wp d 159 186 [some (.inr (some r0)), l1, l2, l3, l4, l5, l6, l7] [] (Z, Rf, K, n, z) Q = ((K r0).1 = 11 ∧ (Rf r0 10).isSome = true ∧ sm_rd (K (((Rf r0 10).getD 0))) ((0 : Int)) ∧ Q (some (.inl (Z (((Rf r0 10).getD 0)) 0))) (Z, Rf, K, n, z)) := (w_aload_n t159_186 rfl rfl).trans ((w_getR t159_187 rfl (by decide)).trans (congrArg (And _) (congrArg (And _) ((w_iconst t159_190 rfl).trans ((w_iald t159_191 rfl wl_0).trans (congrArg (And _) (w_iret t159_192)))))))
theorem t160_0 : sm_at 160 0 = some (1, .iload_n 0, 0, 0, 0) := rfl
theorem t160_1 : sm_at 160 1 = some (1, .iconst 1, 0, 0, 0) := rfl
theorem t160_2 : sm_at 160 2 = some (3, .if_icmp .ne 7, 0, 0, 0) := rfl
theorem t160_5 : sm_at 160 5 = some (1, .iconst 1, 0, 0, 0) := rfl
theorem t160_6 : sm_at 160 6 = some (3, .goto 13, 0, 0, 0) := rfl
theorem t160_9 : sm_at 160 9 = some (1, .iload_n 0, 0, 0, 0) := rfl
theorem t160_10 : sm_at 160 10 = some (1, .iconst 3, 0, 0, 0) := rfl
theorem t160_11 : sm_at 160 11 = some (3, .if_icmp .ne 7, 0, 0, 0) := rfl
theorem t160_14 : sm_at 160 14 = some (1, .iconst (-1), 0, 0, 0) := rfl
theorem t160_15 : sm_at 160 15 = some (3, .goto 4, 0, 0, 0) := rfl
theorem t160_18 : sm_at 160 18 = some (1, .iconst 0, 0, 0, 0) := rfl
theorem t160_19 : sm_at 160 19 = some (1, .ireturn, 0, 0, 0) := rfl
set_option maxRecDepth 10000 in
theorem b160_0 {d : Nat} {x0 : Int} {Z : Nat → Nat → Int} {Rf : Nat → Nat → Option Nat} {K : Nat → Nat × Nat} {n z : Nat} {Q : Option sm_V → sm_S → Prop} : sm_wp d 160 0 [some (.inl x0)] [] (Z, Rf, K, n, z) Q = (if wr x0 = (1 : Int) then sm_wp d 160 5 [some (.inl x0)] [] (Z, Rf, K, n, z) Q else sm_wp d 160 9 [some (.inl x0)] [] (Z, Rf, K, n, z) Q) := (w_iload_n t160_0 rfl rfl).trans ((w_iconst t160_1 rfl).trans (w_icne t160_2 rfl wl_1 rfl rfl))
set_option maxRecDepth 10000 in
theorem b160_5 {d : Nat} {l0 : Option sm_V} {Z : Nat → Nat → Int} {Rf : Nat → Nat → Option Nat} {K : Nat → Nat × Nat} {n z : Nat} {Q : Option sm_V → sm_S → Prop} : sm_wp d 160 5 [l0] [] (Z, Rf, K, n, z) Q = (sm_wp d 160 19 [l0] [.inl 1] (Z, Rf, K, n, z) Q) := (w_iconst t160_5 rfl).trans (w_goto t160_6 rfl)
set_option maxRecDepth 10000 in
theorem b160_9 {d : Nat} {x0 : Int} {Z : Nat → Nat → Int} {Rf : Nat → Nat → Option Nat} {K : Nat → Nat × Nat} {n z : Nat} {Q : Option sm_V → sm_S → Prop} : sm_wp d 160 9 [some (.inl x0)] [] (Z, Rf, K, n, z) Q = (if wr x0 = (3 : Int) then sm_wp d 160 14 [some (.inl x0)] [] (Z, Rf, K, n, z) Q else sm_wp d 160 18 [some (.inl x0)] [] (Z, Rf, K, n, z) Q) := (w_iload_n t160_9 rfl rfl).trans ((w_iconst t160_10 rfl).trans (w_icne t160_11 rfl wl_3 rfl rfl))
set_option maxRecDepth 10000 in
theorem b160_14 {d : Nat} {l0 : Option sm_V} {Z : Nat → Nat → Int} {Rf : Nat → Nat → Option Nat} {K : Nat → Nat × Nat} {n z : Nat} {Q : Option sm_V → sm_S → Prop} : sm_wp d 160 14 [l0] [] (Z, Rf, K, n, z) Q = (sm_wp d 160 19 [l0] [.inl ((-1))] (Z, Rf, K, n, z) Q) := (w_iconst t160_14 rfl).trans (w_goto t160_15 rfl)
set_option maxRecDepth 10000 in
theorem b160_18 {d : Nat} {l0 : Option sm_V} {Z : Nat → Nat → Int} {Rf : Nat → Nat → Option Nat} {K : Nat → Nat × Nat} {n z : Nat} {Q : Option sm_V → sm_S → Prop} : sm_wp d 160 18 [l0] [] (Z, Rf, K, n, z) Q = (sm_wp d 160 19 [l0] [.inl 0] (Z, Rf, K, n, z) Q) := w_iconst t160_18 rfl
set_option maxRecDepth 10000 in
theorem b160_19 {d : Nat} {l0 : Option sm_V} {s0 : Int} {Z : Nat → Nat → Int} {Rf : Nat → Nat → Option Nat} {K : Nat → Nat × Nat} {n z : Nat} {Q : Option sm_V → sm_S → Prop} : sm_wp d 160 19 [l0] [.inl s0] (Z, Rf, K, n, z) Q = (Q (some (.inl s0)) (Z, Rf, K, n, z)) := w_iret t160_19
theorem t161_0 : sm_at 161 0 = some (1, .iload_n 0, 0, 0, 0) := rfl
theorem t161_1 : sm_at 161 1 = some (3, .ifCond .ne 7, 0, 0, 0) := rfl
theorem t161_4 : sm_at 161 4 = some (1, .iconst (-1), 0, 0, 0) := rfl
theorem t161_5 : sm_at 161 5 = some (3, .goto 13, 0, 0, 0) := rfl
theorem t161_8 : sm_at 161 8 = some (1, .iload_n 0, 0, 0, 0) := rfl
theorem t161_9 : sm_at 161 9 = some (1, .iconst 2, 0, 0, 0) := rfl
theorem t161_10 : sm_at 161 10 = some (3, .if_icmp .ne 7, 0, 0, 0) := rfl
theorem t161_13 : sm_at 161 13 = some (1, .iconst 1, 0, 0, 0) := rfl
theorem t161_14 : sm_at 161 14 = some (3, .goto 4, 0, 0, 0) := rfl
theorem t161_17 : sm_at 161 17 = some (1, .iconst 0, 0, 0, 0) := rfl
theorem t161_18 : sm_at 161 18 = some (1, .ireturn, 0, 0, 0) := rfl
set_option maxRecDepth 10000 in
theorem b161_0 {d : Nat} {x0 : Int} {Z : Nat → Nat → Int} {Rf : Nat → Nat → Option Nat} {K : Nat → Nat × Nat} {n z : Nat} {Q : Option sm_V → sm_S → Prop} : sm_wp d 161 0 [some (.inl x0)] [] (Z, Rf, K, n, z) Q = (if wr x0 = 0 then sm_wp d 161 4 [some (.inl x0)] [] (Z, Rf, K, n, z) Q else sm_wp d 161 8 [some (.inl x0)] [] (Z, Rf, K, n, z) Q) := (w_iload_n t161_0 rfl rfl).trans (w_ifne t161_1 rfl rfl rfl)
set_option maxRecDepth 10000 in
theorem b161_4 {d : Nat} {l0 : Option sm_V} {Z : Nat → Nat → Int} {Rf : Nat → Nat → Option Nat} {K : Nat → Nat × Nat} {n z : Nat} {Q : Option sm_V → sm_S → Prop} : sm_wp d 161 4 [l0] [] (Z, Rf, K, n, z) Q = (sm_wp d 161 18 [l0] [.inl ((-1))] (Z, Rf, K, n, z) Q) := (w_iconst t161_4 rfl).trans (w_goto t161_5 rfl)
set_option maxRecDepth 10000 in
theorem b161_8 {d : Nat} {x0 : Int} {Z : Nat → Nat → Int} {Rf : Nat → Nat → Option Nat} {K : Nat → Nat × Nat} {n z : Nat} {Q : Option sm_V → sm_S → Prop} : sm_wp d 161 8 [some (.inl x0)] [] (Z, Rf, K, n, z) Q = (if wr x0 = (2 : Int) then sm_wp d 161 13 [some (.inl x0)] [] (Z, Rf, K, n, z) Q else sm_wp d 161 17 [some (.inl x0)] [] (Z, Rf, K, n, z) Q) := (w_iload_n t161_8 rfl rfl).trans ((w_iconst t161_9 rfl).trans (w_icne t161_10 rfl wl_2 rfl rfl))
set_option maxRecDepth 10000 in
theorem b161_13 {d : Nat} {l0 : Option sm_V} {Z : Nat → Nat → Int} {Rf : Nat → Nat → Option Nat} {K : Nat → Nat × Nat} {n z : Nat} {Q : Option sm_V → sm_S → Prop} : sm_wp d 161 13 [l0] [] (Z, Rf, K, n, z) Q = (sm_wp d 161 18 [l0] [.inl 1] (Z, Rf, K, n, z) Q) := (w_iconst t161_13 rfl).trans (w_goto t161_14 rfl)
set_option maxRecDepth 10000 in
theorem b161_17 {d : Nat} {l0 : Option sm_V} {Z : Nat → Nat → Int} {Rf : Nat → Nat → Option Nat} {K : Nat → Nat × Nat} {n z : Nat} {Q : Option sm_V → sm_S → Prop} : sm_wp d 161 17 [l0] [] (Z, Rf, K, n, z) Q = (sm_wp d 161 18 [l0] [.inl 0] (Z, Rf, K, n, z) Q) := w_iconst t161_17 rfl
set_option maxRecDepth 10000 in
theorem b161_18 {d : Nat} {l0 : Option sm_V} {s0 : Int} {Z : Nat → Nat → Int} {Rf : Nat → Nat → Option Nat} {K : Nat → Nat × Nat} {n z : Nat} {Q : Option sm_V → sm_S → Prop} : sm_wp d 161 18 [l0] [.inl s0] (Z, Rf, K, n, z) Q = (Q (some (.inl s0)) (Z, Rf, K, n, z)) := w_iret t161_18
theorem t162_0 : sm_at 162 0 = some (1, .iload_n 2, 0, 0, 0) := rfl
theorem t162_1 : sm_at 162 1 = some (1, .iconst 3, 0, 0, 0) := rfl
theorem t162_2 : sm_at 162 2 = some (3, .if_icmp .ne 9, 0, 0, 0) := rfl
theorem t162_5 : sm_at 162 5 = some (1, .iload_n 0, 0, 0, 0) := rfl
theorem t162_6 : sm_at 162 6 = some (1, .iconst 1, 0, 0, 0) := rfl
theorem t162_7 : sm_at 162 7 = some (1, .isub, 0, 0, 0) := rfl
theorem t162_8 : sm_at 162 8 = some (3, .goto 4, 0, 0, 0) := rfl
theorem t162_11 : sm_at 162 11 = some (1, .iload_n 0, 0, 0, 0) := rfl
theorem t162_12 : sm_at 162 12 = some (1, .istore_n 3, 0, 0, 0) := rfl
theorem t162_13 : sm_at 162 13 = some (1, .iload_n 2, 0, 0, 0) := rfl
theorem t162_14 : sm_at 162 14 = some (3, .ifCond .ne 9, 0, 0, 0) := rfl
theorem t162_17 : sm_at 162 17 = some (1, .iload_n 1, 0, 0, 0) := rfl
theorem t162_18 : sm_at 162 18 = some (1, .iconst 1, 0, 0, 0) := rfl
theorem t162_19 : sm_at 162 19 = some (1, .isub, 0, 0, 0) := rfl
theorem t162_20 : sm_at 162 20 = some (3, .goto 4, 0, 0, 0) := rfl
theorem t162_23 : sm_at 162 23 = some (1, .iload_n 1, 0, 0, 0) := rfl
theorem t162_24 : sm_at 162 24 = some (2, .istore 4, 0, 0, 0) := rfl
theorem t162_26 : sm_at 162 26 = some (1, .iconst 2, 0, 0, 0) := rfl
theorem t162_27 : sm_at 162 27 = some (2, .bipush 11, 0, 0, 0) := rfl
theorem t162_29 : sm_at 162 29 = some (2, .iload 4, 0, 0, 0) := rfl
theorem t162_31 : sm_at 162 31 = some (1, .imul, 0, 0, 0) := rfl
theorem t162_32 : sm_at 162 32 = some (1, .iload_n 3, 0, 0, 0) := rfl
theorem t162_33 : sm_at 162 33 = some (1, .iadd, 0, 0, 0) := rfl
theorem t162_34 : sm_at 162 34 = some (1, .imul, 0, 0, 0) := rfl
theorem t162_35 : sm_at 162 35 = some (1, .iload_n 2, 0, 0, 0) := rfl
theorem t162_36 : sm_at 162 36 = some (1, .iconst 2, 0, 0, 0) := rfl
theorem t162_37 : sm_at 162 37 = some (1, .irem, 0, 0, 0) := rfl
theorem t162_38 : sm_at 162 38 = some (1, .iconst 1, 0, 0, 0) := rfl
theorem t162_39 : sm_at 162 39 = some (3, .if_icmp .ne 7, 0, 0, 0) := rfl
theorem t162_42 : sm_at 162 42 = some (1, .iconst 0, 0, 0, 0) := rfl
theorem t162_43 : sm_at 162 43 = some (3, .goto 4, 0, 0, 0) := rfl
theorem t162_46 : sm_at 162 46 = some (1, .iconst 1, 0, 0, 0) := rfl
theorem t162_47 : sm_at 162 47 = some (1, .iadd, 0, 0, 0) := rfl
theorem t162_48 : sm_at 162 48 = some (1, .ireturn, 0, 0, 0) := rfl
set_option maxRecDepth 10000 in
theorem b162_0 {d : Nat} {l0 : Option sm_V} {l1 : Option sm_V} {x2 : Int} {l3 : Option sm_V} {l4 : Option sm_V} {Z : Nat → Nat → Int} {Rf : Nat → Nat → Option Nat} {K : Nat → Nat × Nat} {n z : Nat} {Q : Option sm_V → sm_S → Prop} : sm_wp d 162 0 [l0, l1, some (.inl x2), l3, l4] [] (Z, Rf, K, n, z) Q = (if wr x2 = (3 : Int) then sm_wp d 162 5 [l0, l1, some (.inl x2), l3, l4] [] (Z, Rf, K, n, z) Q else sm_wp d 162 11 [l0, l1, some (.inl x2), l3, l4] [] (Z, Rf, K, n, z) Q) := (w_iload_n t162_0 rfl rfl).trans ((w_iconst t162_1 rfl).trans (w_icne t162_2 rfl wl_3 rfl rfl))
set_option maxRecDepth 10000 in
theorem b162_5 {d : Nat} {x0 : Int} {l1 : Option sm_V} {l2 : Option sm_V} {l3 : Option sm_V} {l4 : Option sm_V} {Z : Nat → Nat → Int} {Rf : Nat → Nat → Option Nat} {K : Nat → Nat × Nat} {n z : Nat} {Q : Option sm_V → sm_S → Prop} : sm_wp d 162 5 [some (.inl x0), l1, l2, l3, l4] [] (Z, Rf, K, n, z) Q = (sm_wp d 162 12 [some (.inl x0), l1, l2, l3, l4] [.inl (x0 - 1)] (Z, Rf, K, n, z) Q) := (w_iload_n t162_5 rfl rfl).trans ((w_iconst t162_6 rfl).trans ((w_isub t162_7 rfl).trans (w_goto t162_8 rfl)))
set_option maxRecDepth 10000 in
theorem b162_11 {d : Nat} {x0 : Int} {l1 : Option sm_V} {l2 : Option sm_V} {l3 : Option sm_V} {l4 : Option sm_V} {Z : Nat → Nat → Int} {Rf : Nat → Nat → Option Nat} {K : Nat → Nat × Nat} {n z : Nat} {Q : Option sm_V → sm_S → Prop} : sm_wp d 162 11 [some (.inl x0), l1, l2, l3, l4] [] (Z, Rf, K, n, z) Q = (sm_wp d 162 12 [some (.inl x0), l1, l2, l3, l4] [.inl x0] (Z, Rf, K, n, z) Q) := w_iload_n t162_11 rfl rfl
set_option maxRecDepth 10000 in
theorem b162_12 {d : Nat} {l0 : Option sm_V} {l1 : Option sm_V} {x2 : Int} {l3 : Option sm_V} {l4 : Option sm_V} {s0 : Int} {Z : Nat → Nat → Int} {Rf : Nat → Nat → Option Nat} {K : Nat → Nat × Nat} {n z : Nat} {Q : Option sm_V → sm_S → Prop} : sm_wp d 162 12 [l0, l1, some (.inl x2), l3, l4] [.inl s0] (Z, Rf, K, n, z) Q = (if wr x2 = 0 then sm_wp d 162 17 [l0, l1, some (.inl x2), some (.inl s0), l4] [] (Z, Rf, K, n, z) Q else sm_wp d 162 23 [l0, l1, some (.inl x2), some (.inl s0), l4] [] (Z, Rf, K, n, z) Q) := (w_istore_n t162_12 rfl (Nat.le_of_ble_eq_true rfl) rfl).trans ((w_iload_n t162_13 rfl rfl).trans (w_ifne t162_14 rfl rfl rfl))
set_option maxRecDepth 10000 in
theorem b162_17 {d : Nat} {l0 : Option sm_V} {x1 : Int} {l2 : Option sm_V} {l3 : Option sm_V} {l4 : Option sm_V} {Z : Nat → Nat → Int} {Rf : Nat → Nat → Option Nat} {K : Nat → Nat × Nat} {n z : Nat} {Q : Option sm_V → sm_S → Prop} : sm_wp d 162 17 [l0, some (.inl x1), l2, l3, l4] [] (Z, Rf, K, n, z) Q = (sm_wp d 162 24 [l0, some (.inl x1), l2, l3, l4] [.inl (x1 - 1)] (Z, Rf, K, n, z) Q) := (w_iload_n t162_17 rfl rfl).trans ((w_iconst t162_18 rfl).trans ((w_isub t162_19 rfl).trans (w_goto t162_20 rfl)))
set_option maxRecDepth 10000 in
theorem b162_23 {d : Nat} {l0 : Option sm_V} {x1 : Int} {l2 : Option sm_V} {l3 : Option sm_V} {l4 : Option sm_V} {Z : Nat → Nat → Int} {Rf : Nat → Nat → Option Nat} {K : Nat → Nat × Nat} {n z : Nat} {Q : Option sm_V → sm_S → Prop} : sm_wp d 162 23 [l0, some (.inl x1), l2, l3, l4] [] (Z, Rf, K, n, z) Q = (sm_wp d 162 24 [l0, some (.inl x1), l2, l3, l4] [.inl x1] (Z, Rf, K, n, z) Q) := w_iload_n t162_23 rfl rfl
set_option maxRecDepth 10000 in
theorem b162_24 {d : Nat} {l0 : Option sm_V} {l1 : Option sm_V} {x2 : Int} {x3 : Int} {l4 : Option sm_V} {s0 : Int} {Z : Nat → Nat → Int} {Rf : Nat → Nat → Option Nat} {K : Nat → Nat × Nat} {n z : Nat} {Q : Option sm_V → sm_S → Prop} : sm_wp d 162 24 [l0, l1, some (.inl x2), some (.inl x3), l4] [.inl s0] (Z, Rf, K, n, z) Q = (¬ (2 : Int) = 0 ∧ (if wr (sm_rem x2 2) = (1 : Int) then sm_wp d 162 42 [l0, l1, some (.inl x2), some (.inl x3), some (.inl s0)] [.inl (2 * ((11 * s0) + x3))] (Z, Rf, K, n, z) Q else sm_wp d 162 46 [l0, l1, some (.inl x2), some (.inl x3), some (.inl s0)] [.inl (2 * ((11 * s0) + x3))] (Z, Rf, K, n, z) Q)) := (w_istore t162_24 rfl (Nat.le_of_ble_eq_true rfl) rfl).trans ((w_iconst t162_26 rfl).trans ((w_bipush t162_27 rfl).trans ((w_iload t162_29 rfl rfl).trans ((w_imul t162_31 rfl).trans ((w_iload_n t162_32 rfl rfl).trans ((w_iadd t162_33 rfl).trans ((w_imul t162_34 rfl).trans ((w_iload_n t162_35 rfl rfl).trans ((w_iconst t162_36 rfl).trans ((w_irem t162_37 rfl wl_2).trans (congrArg (And _) ((w_iconst t162_38 rfl).trans (w_icne t162_39 rfl wl_1 rfl rfl)))))))))))))
set_option maxRecDepth 10000 in
theorem b162_42 {d : Nat} {l0 : Option sm_V} {l1 : Option sm_V} {l2 : Option sm_V} {l3 : Option sm_V} {l4 : Option sm_V} {s0 : Int} {Z : Nat → Nat → Int} {Rf : Nat → Nat → Option Nat} {K : Nat → Nat × Nat} {n z : Nat} {Q : Option sm_V → sm_S → Prop} : sm_wp d 162 42 [l0, l1, l2, l3, l4] [.inl s0] (Z, Rf, K, n, z) Q = (sm_wp d 162 47 [l0, l1, l2, l3, l4] [.inl 0, .inl s0] (Z, Rf, K, n, z) Q) := (w_iconst t162_42 rfl).trans (w_goto t162_43 rfl)
set_option maxRecDepth 10000 in
theorem b162_46 {d : Nat} {l0 : Option sm_V} {l1 : Option sm_V} {l2 : Option sm_V} {l3 : Option sm_V} {l4 : Option sm_V} {s0 : Int} {Z : Nat → Nat → Int} {Rf : Nat → Nat → Option Nat} {K : Nat → Nat × Nat} {n z : Nat} {Q : Option sm_V → sm_S → Prop} : sm_wp d 162 46 [l0, l1, l2, l3, l4] [.inl s0] (Z, Rf, K, n, z) Q = (sm_wp d 162 47 [l0, l1, l2, l3, l4] [.inl 1, .inl s0] (Z, Rf, K, n, z) Q) := w_iconst t162_46 rfl
set_option maxRecDepth 10000 in
theorem b162_47 {d : Nat} {l0 : Option sm_V} {l1 : Option sm_V} {l2 : Option sm_V} {l3 : Option sm_V} {l4 : Option sm_V} {s0 : Int} {s1 : Int} {Z : Nat → Nat → Int} {Rf : Nat → Nat → Option Nat} {K : Nat → Nat × Nat} {n z : Nat} {Q : Option sm_V → sm_S → Prop} : sm_wp d 162 47 [l0, l1, l2, l3, l4] [.inl s1, .inl s0] (Z, Rf, K, n, z) Q = (Q (some (.inl (s0 + s1))) (Z, Rf, K, n, z)) := (w_iadd t162_47 rfl).trans (w_iret t162_48)
theorem t163_0 : sm_at 163 0 = some (1, .aload_n 0, 0, 0, 0) := rfl
theorem t163_1 : sm_at 163 1 = some (1, .iload_n 1, 0, 0, 0) := rfl
theorem t163_2 : sm_at 163 2 = some (1, .iload_n 2, 0, 0, 0) := rfl
theorem t163_3 : sm_at 163 3 = some (3, .invokevirtual 79, 121, 3, 0) := rfl
theorem t163_6 : sm_at 163 6 = some (3, .ifCond .eq 20, 0, 0, 0) := rfl
theorem t163_9 : sm_at 163 9 = some (1, .aload_n 0, 0, 0, 0) := rfl
theorem t163_10 : sm_at 163 10 = some (3, .getfield 7, 11, 0, 0) := rfl
theorem t163_13 : sm_at 163 13 = some (2, .bipush 120, 0, 0, 0) := rfl
theorem t163_15 : sm_at 163 15 = some (2, .bipush 10, 0, 0, 0) := rfl
theorem t163_17 : sm_at 163 17 = some (1, .iload_n 2, 0, 0, 0) := rfl
theorem t163_18 : sm_at 163 18 = some (1, .imul, 0, 0, 0) := rfl
theorem t163_19 : sm_at 163 19 = some (1, .iadd, 0, 0, 0) := rfl
theorem t163_20 : sm_at 163 20 = some (1, .iload_n 1, 0, 0, 0) := rfl
theorem t163_21 : sm_at 163 21 = some (1, .iadd, 0, 0, 0) := rfl
theorem t163_22 : sm_at 163 22 = some (1, .iaload, 0, 0, 0) := rfl
theorem t163_23 : sm_at 163 23 = some (3, .goto 4, 0, 0, 0) := rfl
theorem t163_26 : sm_at 163 26 = some (1, .iconst 0, 0, 0, 0) := rfl
theorem t163_27 : sm_at 163 27 = some (1, .ireturn, 0, 0, 0) := rfl
set_option maxRecDepth 10000 in
theorem b163_0 {d : Nat} {r0 : Nat} {x1 : Int} {x2 : Int} {Z : Nat → Nat → Int} {Rf : Nat → Nat → Option Nat} {K : Nat → Nat × Nat} {n z : Nat} {Q : Option sm_V → sm_S → Prop} : sm_wp (d + 1) 163 0 [some (.inr (some r0)), some (.inl x1), some (.inl x2)] [] (Z, Rf, K, n, z) Q = ((K r0).1 = 11 ∧ sm_call d 121 [.inr (some r0), .inl x1, .inl x2] (Z, Rf, K, n, z) (sm_cont (d + 1) 163 6 [some (.inr (some r0)), some (.inl x1), some (.inl x2)] [] Q)) := (w_aload_n t163_0 rfl rfl).trans ((w_iload_n t163_1 rfl rfl).trans ((w_iload_n t163_2 rfl rfl).trans (w_callV t163_3 rfl rfl rfl rfl (Nat.le_of_ble_eq_true rfl) (Nat.le_of_ble_eq_true rfl) rfl (by decide))))
set_option maxRecDepth 10000 in
theorem b163_6 {d : Nat} {l0 : Option sm_V} {l1 : Option sm_V} {l2 : Option sm_V} {s0 : Int} {Z : Nat → Nat → Int} {Rf : Nat → Nat → Option Nat} {K : Nat → Nat × Nat} {n z : Nat} {Q : Option sm_V → sm_S → Prop} : sm_wp d 163 6 [l0, l1, l2] [.inl s0] (Z, Rf, K, n, z) Q = (if wr s0 = 0 then sm_wp d 163 26 [l0, l1, l2] [] (Z, Rf, K, n, z) Q else sm_wp d 163 9 [l0, l1, l2] [] (Z, Rf, K, n, z) Q) := w_ifeq t163_6 rfl rfl rfl
set_option maxRecDepth 10000 in
theorem b163_9 {d : Nat} {r0 : Nat} {x1 : Int} {x2 : Int} {Z : Nat → Nat → Int} {Rf : Nat → Nat → Option Nat} {K : Nat → Nat × Nat} {n z : Nat} {Q : Option sm_V → sm_S → Prop} : sm_wp d 163 9 [some (.inr (some r0)), some (.inl x1), some (.inl x2)] [] (Z, Rf, K, n, z) Q = ((K r0).1 = 11 ∧ (Rf r0 0).isSome = true ∧ sm_rd (K (((Rf r0 0).getD 0))) (wr ((120 + (10 * x2)) + x1)) ∧ sm_wp d 163 27 [some (.inr (some r0)), some (.inl x1), some (.inl x2)] [.inl (Z (((Rf r0 0).getD 0)) ((wr ((120 + (10 * x2)) + x1)).toNat))] (Z, Rf, K, n, z) Q) := (w_aload_n t163_9 rfl rfl).trans ((w_getR t163_10 rfl (by decide)).trans (congrArg (And _) (congrArg (And _) ((w_bipush t163_13 rfl).trans ((w_bipush t163_15 rfl).trans ((w_iload_n t163_17 rfl rfl).trans ((w_imul t163_18 rfl).trans ((w_iadd t163_19 rfl).trans ((w_iload_n t163_20 rfl rfl).trans ((w_iadd t163_21 rfl).trans ((w_iald t163_22 rfl rfl).trans (congrArg (And _) (w_goto t163_23 rfl)))))))))))))
set_option maxRecDepth 10000 in
theorem b163_26 {d : Nat} {l0 : Option sm_V} {l1 : Option sm_V} {l2 : Option sm_V} {Z : Nat → Nat → Int} {Rf : Nat → Nat → Option Nat} {K : Nat → Nat × Nat} {n z : Nat} {Q : Option sm_V → sm_S → Prop} : sm_wp d 163 26 [l0, l1, l2] [] (Z, Rf, K, n, z) Q = (sm_wp d 163 27 [l0, l1, l2] [.inl 0] (Z, Rf, K, n, z) Q) := w_iconst t163_26 rfl
set_option maxRecDepth 10000 in
theorem b163_27 {d : Nat} {l0 : Option sm_V} {l1 : Option sm_V} {l2 : Option sm_V} {s0 : Int} {Z : Nat → Nat → Int} {Rf : Nat → Nat → Option Nat} {K : Nat → Nat × Nat} {n z : Nat} {Q : Option sm_V → sm_S → Prop} : sm_wp d 163 27 [l0, l1, l2] [.inl s0] (Z, Rf, K, n, z) Q = (Q (some (.inl s0)) (Z, Rf, K, n, z)) := w_iret t163_27
theorem t164_0 : sm_at 164 0 = some (1, .aload_n 0, 0, 0, 0) := rfl
theorem t164_1 : sm_at 164 1 = some (1, .iload_n 1, 0, 0, 0) := rfl
theorem t164_2 : sm_at 164 2 = some (1, .iload_n 2, 0, 0, 0) := rfl
theorem t164_3 : sm_at 164 3 = some (3, .invokevirtual 79, 121, 3, 0) := rfl
theorem t164_6 : sm_at 164 6 = some (3, .ifCond .ne 5, 0, 0, 0) := rfl
theorem t164_9 : sm_at 164 9 = some (1, .iconst 0, 0, 0, 0) := rfl
theorem t164_10 : sm_at 164 10 = some (1, .ireturn, 0, 0, 0) := rfl
theorem t164_11 : sm_at 164 11 = some (1, .aload_n 0, 0, 0, 0) := rfl
theorem t164_12 : sm_at 164 12 = some (3, .getfield 7, 11, 0, 0) := rfl
theorem t164_15 : sm_at 164 15 = some (2, .bipush 20, 0, 0, 0) := rfl
theorem t164_17 : sm_at 164 17 = some (2, .bipush 10, 0, 0, 0) := rfl
theorem t164_19 : sm_at 164 19 = some (1, .iload_n 2, 0, 0, 0) := rfl
theorem t164_20 : sm_at 164 20 = some (1, .imul, 0, 0, 0) := rfl
theorem t164_21 : sm_at 164 21 = some (1, .iadd, 0, 0, 0) := rfl
theorem t164_22 : sm_at 164 22 = some (1, .iload_n 1, 0, 0, 0) := rfl
theorem t164_23 : sm_at 164 23 = some (1, .iadd, 0, 0, 0) := rfl
theorem t164_24 : sm_at 164 24 = some (1, .iaload, 0, 0, 0) := rfl
theorem t164_25 : sm_at 164 25 = some (2, .bipush 20, 0, 0, 0) := rfl
theorem t164_27 : sm_at 164 27 = some (1, .aload_n 0, 0, 0, 0) := rfl
theorem t164_28 : sm_at 164 28 = some (1, .iload_n 1, 0, 0, 0) := rfl
theorem t164_29 : sm_at 164 29 = some (1, .iload_n 2, 0, 0, 0) := rfl
theorem t164_30 : sm_at 164 30 = some (3, .invokevirtual 235, 163, 3, 0) := rfl
theorem t164_33 : sm_at 164 33 = some (1, .imul, 0, 0, 0) := rfl
theorem t164_34 : sm_at 164 34 = some (1, .iadd, 0, 0, 0) := rfl
theorem t164_35 : sm_at 164 35 = some (1, .iconst 5, 0, 0, 0) := rfl
theorem t164_36 : sm_at 164 36 = some (1, .aload_n 0, 0, 0, 0) := rfl
theorem t164_37 : sm_at 164 37 = some (1, .iload_n 1, 0, 0, 0) := rfl
theorem t164_38 : sm_at 164 38 = some (1, .iload_n 2, 0, 0, 0) := rfl
theorem t164_39 : sm_at 164 39 = some (1, .iconst 1, 0, 0, 0) := rfl
theorem t164_40 : sm_at 164 40 = some (1, .isub, 0, 0, 0) := rfl
theorem t164_41 : sm_at 164 41 = some (3, .invokevirtual 235, 163, 3, 0) := rfl
theorem t164_44 : sm_at 164 44 = some (1, .aload_n 0, 0, 0, 0) := rfl
theorem t164_45 : sm_at 164 45 = some (1, .iload_n 1, 0, 0, 0) := rfl
theorem t164_46 : sm_at 164 46 = some (1, .iconst 1, 0, 0, 0) := rfl
theorem t164_47 : sm_at 164 47 = some (1, .iadd, 0, 0, 0) := rfl
theorem t164_48 : sm_at 164 48 = some (1, .iload_n 2, 0, 0, 0) := rfl
theorem t164_49 : sm_at 164 49 = some (3, .invokevirtual 235, 163, 3, 0) := rfl
theorem t164_52 : sm_at 164 52 = some (1, .iadd, 0, 0, 0) := rfl
theorem t164_53 : sm_at 164 53 = some (1, .aload_n 0, 0, 0, 0) := rfl
theorem t164_54 : sm_at 164 54 = some (1, .iload_n 1, 0, 0, 0) := rfl
theorem t164_55 : sm_at 164 55 = some (1, .iload_n 2, 0, 0, 0) := rfl
theorem t164_56 : sm_at 164 56 = some (1, .iconst 1, 0, 0, 0) := rfl
theorem t164_57 : sm_at 164 57 = some (1, .iadd, 0, 0, 0) := rfl
theorem t164_58 : sm_at 164 58 = some (3, .invokevirtual 235, 163, 3, 0) := rfl
theorem t164_61 : sm_at 164 61 = some (1, .iadd, 0, 0, 0) := rfl
theorem t164_62 : sm_at 164 62 = some (1, .aload_n 0, 0, 0, 0) := rfl
theorem t164_63 : sm_at 164 63 = some (1, .iload_n 1, 0, 0, 0) := rfl
theorem t164_64 : sm_at 164 64 = some (1, .iconst 1, 0, 0, 0) := rfl
theorem t164_65 : sm_at 164 65 = some (1, .isub, 0, 0, 0) := rfl
theorem t164_66 : sm_at 164 66 = some (1, .iload_n 2, 0, 0, 0) := rfl
theorem t164_67 : sm_at 164 67 = some (3, .invokevirtual 235, 163, 3, 0) := rfl
theorem t164_70 : sm_at 164 70 = some (1, .iadd, 0, 0, 0) := rfl
theorem t164_71 : sm_at 164 71 = some (1, .imul, 0, 0, 0) := rfl
theorem t164_72 : sm_at 164 72 = some (1, .iadd, 0, 0, 0) := rfl
theorem t164_73 : sm_at 164 73 = some (1, .ireturn, 0, 0, 0) := rfl
set_option maxRecDepth 10000 in
theorem b164_0 {d : Nat} {r0 : Nat} {x1 : Int} {x2 : Int} {Z : Nat → Nat → Int} {Rf : Nat → Nat → Option Nat} {K : Nat → Nat × Nat} {n z : Nat} {Q : Option sm_V → sm_S → Prop} : sm_wp (d + 1) 164 0 [some (.inr (some r0)), some (.inl x1), some (.inl x2)] [] (Z, Rf, K, n, z) Q = ((K r0).1 = 11 ∧ sm_call d 121 [.inr (some r0), .inl x1, .inl x2] (Z, Rf, K, n, z) (sm_cont (d + 1) 164 6 [some (.inr (some r0)), some (.inl x1), some (.inl x2)] [] Q)) := (w_aload_n t164_0 rfl rfl).trans ((w_iload_n t164_1 rfl rfl).trans ((w_iload_n t164_2 rfl rfl).trans (w_callV t164_3 rfl rfl rfl rfl (Nat.le_of_ble_eq_true rfl) (Nat.le_of_ble_eq_true rfl) rfl (by decide))))
set_option maxRecDepth 10000 in
theorem b164_6 {d : Nat} {l0 : Option sm_V} {l1 : Option sm_V} {l2 : Option sm_V} {s0 : Int} {Z : Nat → Nat → Int} {Rf : Nat → Nat → Option Nat} {K : Nat → Nat × Nat} {n z : Nat} {Q : Option sm_V → sm_S → Prop} : sm_wp d 164 6 [l0, l1, l2] [.inl s0] (Z, Rf, K, n, z) Q = (if wr s0 = 0 then sm_wp d 164 9 [l0, l1, l2] [] (Z, Rf, K, n, z) Q else sm_wp d 164 11 [l0, l1, l2] [] (Z, Rf, K, n, z) Q) := w_ifne t164_6 rfl rfl rfl
set_option maxRecDepth 10000 in
theorem b164_9 {d : Nat} {l0 : Option sm_V} {l1 : Option sm_V} {l2 : Option sm_V} {Z : Nat → Nat → Int} {Rf : Nat → Nat → Option Nat} {K : Nat → Nat × Nat} {n z : Nat} {Q : Option sm_V → sm_S → Prop} : sm_wp d 164 9 [l0, l1, l2] [] (Z, Rf, K, n, z) Q = (Q (some (.inl 0)) (Z, Rf, K, n, z)) := (w_iconst t164_9 rfl).trans (w_iret t164_10)
set_option maxRecDepth 10000 in
theorem b164_11 {d : Nat} {r0 : Nat} {x1 : Int} {x2 : Int} {Z : Nat → Nat → Int} {Rf : Nat → Nat → Option Nat} {K : Nat → Nat × Nat} {n z : Nat} {Q : Option sm_V → sm_S → Prop} : sm_wp (d + 1) 164 11 [some (.inr (some r0)), some (.inl x1), some (.inl x2)] [] (Z, Rf, K, n, z) Q = ((K r0).1 = 11 ∧ (Rf r0 0).isSome = true ∧ sm_rd (K (((Rf r0 0).getD 0))) (wr ((20 + (10 * x2)) + x1)) ∧ (K r0).1 = 11 ∧ sm_call d 163 [.inr (some r0), .inl x1, .inl x2] (Z, Rf, K, n, z) (sm_cont (d + 1) 164 33 [some (.inr (some r0)), some (.inl x1), some (.inl x2)] [.inl 20, .inl (Z (((Rf r0 0).getD 0)) ((wr ((20 + (10 * x2)) + x1)).toNat))] Q)) := (w_aload_n t164_11 rfl rfl).trans ((w_getR t164_12 rfl (by decide)).trans (congrArg (And _) (congrArg (And _) ((w_bipush t164_15 rfl).trans ((w_bipush t164_17 rfl).trans ((w_iload_n t164_19 rfl rfl).trans ((w_imul t164_20 rfl).trans ((w_iadd t164_21 rfl).trans ((w_iload_n t164_22 rfl rfl).trans ((w_iadd t164_23 rfl).trans ((w_iald t164_24 rfl rfl).trans (congrArg (And _) ((w_bipush t164_25 rfl).trans ((w_aload_n t164_27 rfl rfl).trans ((w_iload_n t164_28 rfl rfl).trans ((w_iload_n t164_29 rfl rfl).trans (w_callV t164_30 rfl rfl rfl rfl (Nat.le_of_ble_eq_true rfl) (Nat.le_of_ble_eq_true rfl) rfl (by decide))))))))))))))))))
set_option maxRecDepth 10000 in
theorem b164_33 {d : Nat} {r0 : Nat} {x1 : Int} {x2 : Int} {s0 : Int} {s1 : Int} {s2 : Int} {Z : Nat → Nat → Int} {Rf : Nat → Nat → Option Nat} {K : Nat → Nat × Nat} {n z : Nat} {Q : Option sm_V → sm_S → Prop} : sm_wp (d + 1) 164 33 [some (.inr (some r0)), some (.inl x1), some (.inl x2)] [.inl s2, .inl s1, .inl s0] (Z, Rf, K, n, z) Q = ((K r0).1 = 11 ∧ sm_call d 163 [.inr (some r0), .inl x1, .inl (x2 - 1)] (Z, Rf, K, n, z) (sm_cont (d + 1) 164 44 [some (.inr (some r0)), some (.inl x1), some (.inl x2)] [.inl 5, .inl (s0 + (s1 * s2))] Q)) := (w_imul t164_33 rfl).trans ((w_iadd t164_34 rfl).trans ((w_iconst t164_35 rfl).trans ((w_aload_n t164_36 rfl rfl).trans ((w_iload_n t164_37 rfl rfl).trans ((w_iload_n t164_38 rfl rfl).trans ((w_iconst t164_39 rfl).trans ((w_isub t164_40 rfl).trans (w_callV t164_41 rfl rfl rfl rfl (Nat.le_of_ble_eq_true rfl) (Nat.le_of_ble_eq_true rfl) rfl (by decide)))))))))
set_option maxRecDepth 10000 in
theorem b164_44 {d : Nat} {r0 : Nat} {x1 : Int} {x2 : Int} {s0 : Int} {s1 : Int} {s2 : Int} {Z : Nat → Nat → Int} {Rf : Nat → Nat → Option Nat} {K : Nat → Nat × Nat} {n z : Nat} {Q : Option sm_V → sm_S → Prop} : sm_wp (d + 1) 164 44 [some (.inr (some r0)), some (.inl x1), some (.inl x2)] [.inl s2, .inl s1, .inl s0] (Z, Rf, K, n, z) Q = ((K r0).1 = 11 ∧ sm_call d 163 [.inr (some r0), .inl (x1 + 1), .inl x2] (Z, Rf, K, n, z) (sm_cont (d + 1) 164 52 [some (.inr (some r0)), some (.inl x1), some (.inl x2)] [.inl s2, .inl s1, .inl s0] Q)) := (w_aload_n t164_44 rfl rfl).trans ((w_iload_n t164_45 rfl rfl).trans ((w_iconst t164_46 rfl).trans ((w_iadd t164_47 rfl).trans ((w_iload_n t164_48 rfl rfl).trans (w_callV t164_49 rfl rfl rfl rfl (Nat.le_of_ble_eq_true rfl) (Nat.le_of_ble_eq_true rfl) rfl (by decide))))))
set_option maxRecDepth 10000 in
theorem b164_52 {d : Nat} {r0 : Nat} {x1 : Int} {x2 : Int} {s0 : Int} {s1 : Int} {s2 : Int} {s3 : Int} {Z : Nat → Nat → Int} {Rf : Nat → Nat → Option Nat} {K : Nat → Nat × Nat} {n z : Nat} {Q : Option sm_V → sm_S → Prop} : sm_wp (d + 1) 164 52 [some (.inr (some r0)), some (.inl x1), some (.inl x2)] [.inl s3, .inl s2, .inl s1, .inl s0] (Z, Rf, K, n, z) Q = ((K r0).1 = 11 ∧ sm_call d 163 [.inr (some r0), .inl x1, .inl (x2 + 1)] (Z, Rf, K, n, z) (sm_cont (d + 1) 164 61 [some (.inr (some r0)), some (.inl x1), some (.inl x2)] [.inl (s2 + s3), .inl s1, .inl s0] Q)) := (w_iadd t164_52 rfl).trans ((w_aload_n t164_53 rfl rfl).trans ((w_iload_n t164_54 rfl rfl).trans ((w_iload_n t164_55 rfl rfl).trans ((w_iconst t164_56 rfl).trans ((w_iadd t164_57 rfl).trans (w_callV t164_58 rfl rfl rfl rfl (Nat.le_of_ble_eq_true rfl) (Nat.le_of_ble_eq_true rfl) rfl (by decide)))))))
set_option maxRecDepth 10000 in
theorem b164_61 {d : Nat} {r0 : Nat} {x1 : Int} {x2 : Int} {s0 : Int} {s1 : Int} {s2 : Int} {s3 : Int} {Z : Nat → Nat → Int} {Rf : Nat → Nat → Option Nat} {K : Nat → Nat × Nat} {n z : Nat} {Q : Option sm_V → sm_S → Prop} : sm_wp (d + 1) 164 61 [some (.inr (some r0)), some (.inl x1), some (.inl x2)] [.inl s3, .inl s2, .inl s1, .inl s0] (Z, Rf, K, n, z) Q = ((K r0).1 = 11 ∧ sm_call d 163 [.inr (some r0), .inl (x1 - 1), .inl x2] (Z, Rf, K, n, z) (sm_cont (d + 1) 164 70 [some (.inr (some r0)), some (.inl x1), some (.inl x2)] [.inl (s2 + s3), .inl s1, .inl s0] Q)) := (w_iadd t164_61 rfl).trans ((w_aload_n t164_62 rfl rfl).trans ((w_iload_n t164_63 rfl rfl).trans ((w_iconst t164_64 rfl).trans ((w_isub t164_65 rfl).trans ((w_iload_n t164_66 rfl rfl).trans (w_callV t164_67 rfl rfl rfl rfl (Nat.le_of_ble_eq_true rfl) (Nat.le_of_ble_eq_true rfl) rfl (by decide)))))))
set_option maxRecDepth 10000 in
theorem b164_70 {d : Nat} {l0 : Option sm_V} {l1 : Option sm_V} {l2 : Option sm_V} {s0 : Int} {s1 : Int} {s2 : Int} {s3 : Int} {Z : Nat → Nat → Int} {Rf : Nat → Nat → Option Nat} {K : Nat → Nat × Nat} {n z : Nat} {Q : Option sm_V → sm_S → Prop} : sm_wp d 164 70 [l0, l1, l2] [.inl s3, .inl s2, .inl s1, .inl s0] (Z, Rf, K, n, z) Q = (Q (some (.inl (s0 + (s1 * (s2 + s3))))) (Z, Rf, K, n, z)) := (w_iadd t164_70 rfl).trans ((w_imul t164_71 rfl).trans ((w_iadd t164_72 rfl).trans (w_iret t164_73)))
theorem t165_0 : sm_at 165 0 = some (1, .aload_n 0, 0, 0, 0) := rfl
theorem t165_1 : sm_at 165 1 = some (1, .iload_n 1, 0, 0, 0) := rfl
theorem t165_2 : sm_at 165 2 = some (1, .iload_n 3, 0, 0, 0) := rfl
theorem t165_3 : sm_at 165 3 = some (3, .invokestatic 239, 160, 1, 0) := rfl
theorem t165_6 : sm_at 165 6 = some (1, .iadd, 0, 0, 0) := rfl
theorem t165_7 : sm_at 165 7 = some (1, .iload_n 2, 0, 0, 0) := rfl
theorem t165_8 : sm_at 165 8 = some (1, .iload_n 3, 0, 0, 0) := rfl
theorem t165_9 : sm_at 165 9 = some (3, .invokestatic 242, 161, 1, 0) := rfl
theorem t165_12 : sm_at 165 12 = some (1, .iadd, 0, 0, 0) := rfl
theorem t165_13 : sm_at 165 13 = some (3, .invokevirtual 93, 123, 3, 0) := rfl
theorem t165_16 : sm_at 165 16 = some (3, .ifCond .ne 7, 0, 0, 0) := rfl
theorem t165_19 : sm_at 165 19 = some (1, .iconst 1, 0, 0, 0) := rfl
theorem t165_20 : sm_at 165 20 = some (3, .goto 4, 0, 0, 0) := rfl
theorem t165_23 : sm_at 165 23 = some (1, .iconst 0, 0, 0, 0) := rfl
theorem t165_24 : sm_at 165 24 = some (2, .istore 4, 0, 0, 0) := rfl
theorem t165_26 : sm_at 165 26 = some (1, .iload_n 3, 0, 0, 0) := rfl
theorem t165_27 : sm_at 165 27 = some (3, .ifCond .eq 8, 0, 0, 0) := rfl
theorem t165_30 : sm_at 165 30 = some (1, .iload_n 3, 0, 0, 0) := rfl
theorem t165_31 : sm_at 165 31 = some (1, .iconst 3, 0, 0, 0) := rfl
theorem t165_32 : sm_at 165 32 = some (3, .if_icmp .ne 9, 0, 0, 0) := rfl
theorem t165_35 : sm_at 165 35 = some (1, .iload_n 1, 0, 0, 0) := rfl
theorem t165_36 : sm_at 165 36 = some (1, .iconst 1, 0, 0, 0) := rfl
theorem t165_37 : sm_at 165 37 = some (1, .isub, 0, 0, 0) := rfl
theorem t165_38 : sm_at 165 38 = some (3, .goto 4, 0, 0, 0) := rfl
theorem t165_41 : sm_at 165 41 = some (1, .iload_n 1, 0, 0, 0) := rfl
theorem t165_42 : sm_at 165 42 = some (2, .istore 5, 0, 0, 0) := rfl
theorem t165_44 : sm_at 165 44 = some (1, .iload_n 3, 0, 0, 0) := rfl
theorem t165_45 : sm_at 165 45 = some (3, .ifCond .eq 8, 0, 0, 0) := rfl
theorem t165_48 : sm_at 165 48 = some (1, .iload_n 3, 0, 0, 0) := rfl
theorem t165_49 : sm_at 165 49 = some (1, .iconst 1, 0, 0, 0) := rfl
theorem t165_50 : sm_at 165 50 = some (3, .if_icmp .ne 9, 0, 0, 0) := rfl
theorem t165_53 : sm_at 165 53 = some (1, .iload_n 2, 0, 0, 0) := rfl
theorem t165_54 : sm_at 165 54 = some (1, .iconst 1, 0, 0, 0) := rfl
theorem t165_55 : sm_at 165 55 = some (1, .isub, 0, 0, 0) := rfl
theorem t165_56 : sm_at 165 56 = some (3, .goto 4, 0, 0, 0) := rfl
theorem t165_59 : sm_at 165 59 = some (1, .iload_n 2, 0, 0, 0) := rfl
theorem t165_60 : sm_at 165 60 = some (2, .istore 6, 0, 0, 0) := rfl
theorem t165_62 : sm_at 165 62 = some (1, .iload_n 3, 0, 0, 0) := rfl
theorem t165_63 : sm_at 165 63 = some (1, .iconst 2, 0, 0, 0) := rfl
theorem t165_64 : sm_at 165 64 = some (3, .if_icmp .eq 8, 0, 0, 0) := rfl
theorem t165_67 : sm_at 165 67 = some (1, .iload_n 3, 0, 0, 0) := rfl
theorem t165_68 : sm_at 165 68 = some (1, .iconst 3, 0, 0, 0) := rfl
theorem t165_69 : sm_at 165 69 = some (3, .if_icmp .ne 9, 0, 0, 0) := rfl
theorem t165_72 : sm_at 165 72 = some (1, .iload_n 1, 0, 0, 0) := rfl
theorem t165_73 : sm_at 165 73 = some (1, .iconst 1, 0, 0, 0) := rfl
theorem t165_74 : sm_at 165 74 = some (1, .isub, 0, 0, 0) := rfl
theorem t165_75 : sm_at 165 75 = some (3, .goto 4, 0, 0, 0) := rfl
theorem t165_78 : sm_at 165 78 = some (1, .iload_n 1, 0, 0, 0) := rfl
theorem t165_79 : sm_at 165 79 = some (2, .istore 7, 0, 0, 0) := rfl
theorem t165_81 : sm_at 165 81 = some (1, .iload_n 3, 0, 0, 0) := rfl
theorem t165_82 : sm_at 165 82 = some (3, .ifCond .eq 8, 0, 0, 0) := rfl
theorem t165_85 : sm_at 165 85 = some (1, .iload_n 3, 0, 0, 0) := rfl
theorem t165_86 : sm_at 165 86 = some (1, .iconst 3, 0, 0, 0) := rfl
theorem t165_87 : sm_at 165 87 = some (3, .if_icmp .ne 9, 0, 0, 0) := rfl
theorem t165_90 : sm_at 165 90 = some (1, .iload_n 2, 0, 0, 0) := rfl
theorem t165_91 : sm_at 165 91 = some (1, .iconst 1, 0, 0, 0) := rfl
theorem t165_92 : sm_at 165 92 = some (1, .isub, 0, 0, 0) := rfl
theorem t165_93 : sm_at 165 93 = some (3, .goto 4, 0, 0, 0) := rfl
theorem t165_96 : sm_at 165 96 = some (1, .iload_n 2, 0, 0, 0) := rfl
theorem t165_97 : sm_at 165 97 = some (2, .istore 8, 0, 0, 0) := rfl
set_option maxRecDepth 100000 in
theorem t165_99 : sm_at 165 99 = some (1, .aload_n 0, 0, 0, 0) := rfl
set_option maxRecDepth 100000 in
theorem t165_100 : sm_at 165 100 = some (3, .getfield 34, 11, 11, 0) := rfl
set_option maxRecDepth 100000 in
theorem t165_103 : sm_at 165 103 = some (1, .iconst 1, 0, 0, 0) := rfl
set_option maxRecDepth 100000 in
theorem t165_104 : sm_at 165 104 = some (2, .iload 4, 0, 0, 0) := rfl
set_option maxRecDepth 100000 in
theorem t165_106 : sm_at 165 106 = some (3, .ifCond .eq 7, 0, 0, 0) := rfl
set_option maxRecDepth 100000 in
theorem t165_109 : sm_at 165 109 = some (1, .iconst 0, 0, 0, 0) := rfl
set_option maxRecDepth 100000 in
theorem t165_110 : sm_at 165 110 = some (3, .goto 11, 0, 0, 0) := rfl
set_option maxRecDepth 100000 in
theorem t165_113 : sm_at 165 113 = some (1, .aload_n 0, 0, 0, 0) := rfl
set_option maxRecDepth 100000 in
theorem t165_114 : sm_at 165 114 = some (2, .iload 5, 0, 0, 0) := rfl
set_option maxRecDepth 100000 in
theorem t165_116 : sm_at 165 116 = some (2, .iload 6, 0, 0, 0) := rfl
set_option maxRecDepth 100000 in
theorem t165_118 : sm_at 165 118 = some (3, .invokevirtual 245, 164, 3, 0) := rfl
set_option maxRecDepth 100000 in
theorem t165_121 : sm_at 165 121 = some (1, .iastore, 0, 0, 0) := rfl
set_option maxRecDepth 100000 in
theorem t165_122 : sm_at 165 122 = some (1, .aload_n 0, 0, 0, 0) := rfl
set_option maxRecDepth 100000 in
theorem t165_123 : sm_at 165 123 = some (3, .getfield 34, 11, 11, 0) := rfl
set_option maxRecDepth 100000 in
theorem t165_126 : sm_at 165 126 = some (1, .iconst 2, 0, 0, 0) := rfl
set_option maxRecDepth 100000 in
theorem t165_127 : sm_at 165 127 = some (2, .iload 4, 0, 0, 0) := rfl
set_option maxRecDepth 100000 in
theorem t165_129 : sm_at 165 129 = some (3, .ifCond .eq 7, 0, 0, 0) := rfl
set_option maxRecDepth 100000 in
theorem t165_132 : sm_at 165 132 = some (1, .iconst 0, 0, 0, 0) := rfl
set_option maxRecDepth 100000 in
theorem t165_133 : sm_at 165 133 = some (3, .goto 11, 0, 0, 0) := rfl
set_option maxRecDepth 100000 in
theorem t165_136 : sm_at 165 136 = some (1, .aload_n 0, 0, 0, 0) := rfl
set_option maxRecDepth 100000 in
theorem t165_137 : sm_at 165 137 = some (2, .iload 7, 0, 0, 0) := rfl
set_option maxRecDepth 100000 in
theorem t165_139 : sm_at 165 139 = some (2, .iload 8, 0, 0, 0) := rfl
set_option maxRecDepth 100000 in
theorem t165_141 : sm_at 165 141 = some (3, .invokevirtual 245, 164, 3, 0) := rfl
set_option maxRecDepth 100000 in
theorem t165_144 : sm_at 165 144 = some (1, .iastore, 0, 0, 0) := rfl
set_option maxRecDepth 100000 in
theorem t165_145 : sm_at 165 145 = some (1, .aload_n 0, 0, 0, 0) := rfl
set_option maxRecDepth 100000 in
theorem t165_146 : sm_at 165 146 = some (3, .getfield 34, 11, 11, 0) := rfl
set_option maxRecDepth 100000 in
theorem t165_149 : sm_at 165 149 = some (1, .iconst 3, 0, 0, 0) := rfl
set_option maxRecDepth 100000 in
theorem t165_150 : sm_at 165 150 = some (2, .iload 4, 0, 0, 0) := rfl
set_option maxRecDepth 100000 in
theorem t165_152 : sm_at 165 152 = some (3, .ifCond .eq 7, 0, 0, 0) := rfl
set_option maxRecDepth 100000 in
theorem t165_155 : sm_at 165 155 = some (1, .iconst 0, 0, 0, 0) := rfl
set_option maxRecDepth 100000 in
theorem t165_156 : sm_at 165 156 = some (3, .goto 11, 0, 0, 0) := rfl
set_option maxRecDepth 100000 in
theorem t165_159 : sm_at 165 159 = some (1, .aload_n 0, 0, 0, 0) := rfl
set_option maxRecDepth 100000 in
theorem t165_160 : sm_at 165 160 = some (2, .iload 5, 0, 0, 0) := rfl
set_option maxRecDepth 100000 in
theorem t165_162 : sm_at 165 162 = some (2, .iload 6, 0, 0, 0) := rfl
set_option maxRecDepth 100000 in
theorem t165_164 : sm_at 165 164 = some (3, .invokevirtual 235, 163, 3, 0) := rfl
set_option maxRecDepth 100000 in
theorem t165_167 : sm_at 165 167 = some (1, .iastore, 0, 0, 0) := rfl
set_option maxRecDepth 100000 in
theorem t165_168 : sm_at 165 168 = some (1, .aload_n 0, 0, 0, 0) := rfl
set_option maxRecDepth 100000 in
theorem t165_169 : sm_at 165 169 = some (3, .getfield 34, 11, 11, 0) := rfl
set_option maxRecDepth 100000 in
theorem t165_172 : sm_at 165 172 = some (1, .iconst 4, 0, 0, 0) := rfl
set_option maxRecDepth 100000 in
theorem t165_173 : sm_at 165 173 = some (2, .iload 4, 0, 0, 0) := rfl
set_option maxRecDepth 100000 in
theorem t165_175 : sm_at 165 175 = some (3, .ifCond .eq 7, 0, 0, 0) := rfl
set_option maxRecDepth 100000 in
theorem t165_178 : sm_at 165 178 = some (1, .iconst 0, 0, 0, 0) := rfl
set_option maxRecDepth 100000 in
theorem t165_179 : sm_at 165 179 = some (3, .goto 11, 0, 0, 0) := rfl
set_option maxRecDepth 100000 in
theorem t165_182 : sm_at 165 182 = some (1, .aload_n 0, 0, 0, 0) := rfl
set_option maxRecDepth 100000 in
theorem t165_183 : sm_at 165 183 = some (2, .iload 7, 0, 0, 0) := rfl
set_option maxRecDepth 100000 in
theorem t165_185 : sm_at 165 185 = some (2, .iload 8, 0, 0, 0) := rfl
set_option maxRecDepth 100000 in
theorem t165_187 : sm_at 165 187 = some (3, .invokevirtual 235, 163, 3, 0) := rfl
set_option maxRecDepth 100000 in
theorem t165_190 : sm_at 165 190 = some (1, .iastore, 0, 0, 0) := rfl
set_option maxRecDepth 100000 in
theorem t165_191 : sm_at 165 191 = some (1, .aload_n 0, 0, 0, 0) := rfl
set_option maxRecDepth 100000 in
theorem t165_192 : sm_at 165 192 = some (3, .getfield 34, 11, 11, 0) := rfl
set_option maxRecDepth 100000 in
theorem t165_195 : sm_at 165 195 = some (1, .iconst 5, 0, 0, 0) := rfl
set_option maxRecDepth 100000 in
theorem t165_196 : sm_at 165 196 = some (2, .iload 4, 0, 0, 0) := rfl
set_option maxRecDepth 100000 in
theorem t165_198 : sm_at 165 198 = some (3, .ifCond .ne 22, 0, 0, 0) := rfl
set_option maxRecDepth 100000 in
theorem t165_201 : sm_at 165 201 = some (1, .aload_n 0, 0, 0, 0) := rfl
set_option maxRecDepth 100000 in
theorem t165_202 : sm_at 165 202 = some (3, .getfield 7, 11, 0, 0) := rfl
set_option maxRecDepth 100000 in
theorem t165_205 : sm_at 165 205 = some (3, .sipush 850, 0, 0, 0) := rfl
set_option maxRecDepth 100000 in
theorem t165_208 : sm_at 165 208 = some (1, .iload_n 1, 0, 0, 0) := rfl
set_option maxRecDepth 100000 in
theorem t165_209 : sm_at 165 209 = some (1, .iload_n 2, 0, 0, 0) := rfl
set_option maxRecDepth 100000 in
theorem t165_210 : sm_at 165 210 = some (1, .iload_n 3, 0, 0, 0) := rfl
set_option maxRecDepth 100000 in
theorem t165_211 : sm_at 165 211 = some (3, .invokestatic 248, 162, 3, 0) := rfl
set_option maxRecDepth 100000 in
theorem t165_214 : sm_at 165 214 = some (1, .iadd, 0, 0, 0) := rfl
set_option maxRecDepth 100000 in
theorem t165_215 : sm_at 165 215 = some (1, .iaload, 0, 0, 0) := rfl
set_option maxRecDepth 100000 in
theorem t165_216 : sm_at 165 216 = some (1, .iconst (-1), 0, 0, 0) := rfl
set_option maxRecDepth 100000 in
theorem t165_217 : sm_at 165 217 = some (3, .if_icmp .ne 7, 0, 0, 0) := rfl
set_option maxRecDepth 100000 in
theorem t165_220 : sm_at 165 220 = some (1, .iconst 0, 0, 0, 0) := rfl
set_option maxRecDepth 100000 in
theorem t165_221 : sm_at 165 221 = some (3, .goto 4, 0, 0, 0) := rfl
set_option maxRecDepth 100000 in
theorem t165_224 : sm_at 165 224 = some (1, .iconst 1, 0, 0, 0) := rfl
set_option maxRecDepth 100000 in
theorem t165_225 : sm_at 165 225 = some (1, .iastore, 0, 0, 0) := rfl
set_option maxRecDepth 100000 in
theorem t165_226 : sm_at 165 226 = some (1, .aload_n 0, 0, 0, 0) := rfl
set_option maxRecDepth 100000 in
theorem t165_227 : sm_at 165 227 = some (3, .getfield 34, 11, 11, 0) := rfl
set_option maxRecDepth 100000 in
theorem t165_230 : sm_at 165 230 = some (2, .bipush 6, 0, 0, 0) := rfl
set_option maxRecDepth 100000 in
theorem t165_232 : sm_at 165 232 = some (2, .iload 4, 0, 0, 0) := rfl
set_option maxRecDepth 100000 in
theorem t165_234 : sm_at 165 234 = some (3, .ifCond .eq 7, 0, 0, 0) := rfl
set_option maxRecDepth 100000 in
theorem t165_237 : sm_at 165 237 = some (1, .iconst 1, 0, 0, 0) := rfl
set_option maxRecDepth 100000 in
theorem t165_238 : sm_at 165 238 = some (3, .goto 4, 0, 0, 0) := rfl
set_option maxRecDepth 100000 in
theorem t165_241 : sm_at 165 241 = some (1, .iconst 0, 0, 0, 0) := rfl
set_option maxRecDepth 100000 in
theorem t165_242 : sm_at 165 242 = some (1, .iastore, 0, 0, 0) := rfl
set_option maxRecDepth 100000 in
theorem t165_243 : sm_at 165 243 = some (1, .return_, 0, 0, 0) := rfl
set_option maxRecDepth 10000 in
theorem b165_0 {d : Nat} {q0 : Option Nat} {x1 : Int} {l2 : Option sm_V} {x3 : Int} {l4 : Option sm_V} {l5 : Option sm_V} {l6 : Option sm_V} {l7 : Option sm_V} {l8 : Option sm_V} {Z : Nat → Nat → Int} {Rf : Nat → Nat → Option Nat} {K : Nat → Nat × Nat} {n z : Nat} {Q : Option sm_V → sm_S → Prop} : sm_wp (d + 1) 165 0 [some (.inr q0), some (.inl x1), l2, some (.inl x3), l4, l5, l6, l7, l8] [] (Z, Rf, K, n, z) Q = (sm_call d 160 [.inl x3] (Z, Rf, K, n, z) (sm_cont (d + 1) 165 6 [some (.inr q0), some (.inl x1), l2, some (.inl x3), l4, l5, l6, l7, l8] [.inl x1, .inr q0] Q)) := (w_aload_n t165_0 rfl rfl).trans ((w_iload_n t165_1 rfl rfl).trans ((w_iload_n t165_2 rfl rfl).trans (w_callS t165_3 rfl rfl rfl rfl (Nat.le_of_ble_eq_true rfl) (Nat.le_of_ble_eq_true rfl) rfl)))
set_option maxRecDepth 10000 in
theorem b165_6 {d : Nat} {l0 : Option sm_V} {l1 : Option sm_V} {x2 : Int} {x3 : Int} {l4 : Option sm_V} {l5 : Option sm_V} {l6 : Option sm_V} {l7 : Option sm_V} {l8 : Option sm_V} {qs0 : Option Nat} {s1 : Int} {s2 : Int} {Z : Nat → Nat → Int} {Rf : Nat → Nat → Option Nat} {K : Nat → Nat × Nat} {n z : Nat} {Q : Option sm_V → sm_S → Prop} : sm_wp (d + 1) 165 6 [l0, l1, some (.inl x2), some (.inl x3), l4, l5, l6, l7, l8] [.inl s2, .inl s1, .inr qs0] (Z, Rf, K, n, z) Q = (sm_call d 161 [.inl x3] (Z, Rf, K, n, z) (sm_cont (d + 1) 165 12 [l0, l1, some (.inl x2), some (.inl x3), l4, l5, l6, l7, l8] [.inl x2, .inl (s1 + s2), .inr qs0] Q)) := (w_iadd t165_6 rfl).trans ((w_iload_n t165_7 rfl rfl).trans ((w_iload_n t165_8 rfl rfl).trans (w_callS t165_9 rfl rfl rfl rfl (Nat.le_of_ble_eq_true rfl) (Nat.le_of_ble_eq_true rfl) rfl)))
set_option maxRecDepth 10000 in
theorem b165_12 {d : Nat} {l0 : Option sm_V} {l1 : Option sm_V} {l2 : Option sm_V} {l3 : Option sm_V} {l4 : Option sm_V} {l5 : Option sm_V} {l6 : Option sm_V} {l7 : Option sm_V} {l8 : Option sm_V} {rs0 : Nat} {s1 : Int} {s2 : Int} {s3 : Int} {Z : Nat → Nat → Int} {Rf : Nat → Nat → Option Nat} {K : Nat → Nat × Nat} {n z : Nat} {Q : Option sm_V → sm_S → Prop} : sm_wp (d + 1) 165 12 [l0, l1, l2, l3, l4, l5, l6, l7, l8] [.inl s3, .inl s2, .inl s1, .inr (some rs0)] (Z, Rf, K, n, z) Q = ((K rs0).1 = 11 ∧ sm_call d 123 [.inr (some rs0), .inl s1, .inl (s2 + s3)] (Z, Rf, K, n, z) (sm_cont (d + 1) 165 16 [l0, l1, l2, l3, l4, l5, l6, l7, l8] [] Q)) := (w_iadd t165_12 rfl).trans (w_callV t165_13 rfl rfl rfl rfl (Nat.le_of_ble_eq_true rfl) (Nat.le_of_ble_eq_true rfl) rfl (by decide))
set_option maxRecDepth 10000 in
theorem b165_16 {d : Nat} {l0 : Option sm_V} {l1 : Option sm_V} {l2 : Option sm_V} {l3 : Option sm_V} {l4 : Option sm_V} {l5 : Option sm_V} {l6 : Option sm_V} {l7 : Option sm_V} {l8 : Option sm_V} {s0 : Int} {Z : Nat → Nat → Int} {Rf : Nat → Nat → Option Nat} {K : Nat → Nat × Nat} {n z : Nat} {Q : Option sm_V → sm_S → Prop} : sm_wp d 165 16 [l0, l1, l2, l3, l4, l5, l6, l7, l8] [.inl s0] (Z, Rf, K, n, z) Q = (if wr s0 = 0 then sm_wp d 165 19 [l0, l1, l2, l3, l4, l5, l6, l7, l8] [] (Z, Rf, K, n, z) Q else sm_wp d 165 23 [l0, l1, l2, l3, l4, l5, l6, l7, l8] [] (Z, Rf, K, n, z) Q) := w_ifne t165_16 rfl rfl rfl
set_option maxRecDepth 10000 in
theorem b165_19 {d : Nat} {l0 : Option sm_V} {l1 : Option sm_V} {l2 : Option sm_V} {l3 : Option sm_V} {l4 : Option sm_V} {l5 : Option sm_V} {l6 : Option sm_V} {l7 : Option sm_V} {l8 : Option sm_V} {Z : Nat → Nat → Int} {Rf : Nat → Nat → Option Nat} {K : Nat → Nat × Nat} {n z : Nat} {Q : Option sm_V → sm_S → Prop} : sm_wp d 165 19 [l0, l1, l2, l3, l4, l5, l6, l7, l8] [] (Z, Rf, K, n, z) Q = (sm_wp d 165 24 [l0, l1, l2, l3, l4, l5, l6, l7, l8] [.inl 1] (Z, Rf, K, n, z) Q) := (w_iconst t165_19 rfl).trans (w_goto t165_20 rfl)
set_option maxRecDepth 10000 in
theorem b165_23 {d : Nat} {l0 : Option sm_V} {l1 : Option sm_V} {l2 : Option sm_V} {l3 : Option sm_V} {l4 : Option sm_V} {l5 : Option sm_V} {l6 : Option sm_V} {l7 : Option sm_V} {l8 : Option sm_V} {Z : Nat → Nat → Int} {Rf : Nat → Nat → Option Nat} {K : Nat → Nat × Nat} {n z : Nat} {Q : Option sm_V → sm_S → Prop} : sm_wp d 165 23 [l0, l1, l2, l3, l4, l5, l6, l7, l8] [] (Z, Rf, K, n, z) Q = (sm_wp d 165 24 [l0, l1, l2, l3, l4, l5, l6, l7, l8] [.inl 0] (Z, Rf, K, n, z) Q) := w_iconst t165_23 rfl
set_option maxRecDepth 10000 in
theorem b165_24 {d : Nat} {l0 : Option sm_V} {l1 : Option sm_V} {l2 : Option sm_V} {x3 : Int} {l4 : Option sm_V} {l5 : Option sm_V} {l6 : Option sm_V} {l7 : Option sm_V} {l8 : Option sm_V} {s0 : Int} {Z : Nat → Nat → Int} {Rf : Nat → Nat → Option Nat} {K : Nat → Nat × Nat} {n z : Nat} {Q : Option sm_V → sm_S → Prop} : sm_wp d 165 24 [l0, l1, l2, some (.inl x3), l4, l5, l6, l7, l8] [.inl s0] (Z, Rf, K, n, z) Q = (if wr x3 = 0 then sm_wp d 165 35 [l0, l1, l2, some (.inl x3), some (.inl s0), l5, l6, l7, l8] [] (Z, Rf, K, n, z) Q else sm_wp d 165 30 [l0, l1, l2, some (.inl x3), some (.inl s0), l5, l6, l7, l8] [] (Z, Rf, K, n, z) Q) := (w_istore t165_24 rfl (Nat.le_of_ble_eq_true rfl) rfl).trans ((w_iload_n t165_26 rfl rfl).trans (w_ifeq t165_27 rfl rfl rfl))
set_option maxRecDepth 10000 in
theorem b165_30 {d : Nat} {l0 : Option sm_V} {l1 : Option sm_V} {l2 : Option sm_V} {x3 : Int} {l4 : Option sm_V} {l5 : Option sm_V} {l6 : Option sm_V} {l7 : Option sm_V} {l8 : Option sm_V} {Z : Nat → Nat → Int} {Rf : Nat → Nat → Option Nat} {K : Nat → Nat × Nat} {n z : Nat} {Q : Option sm_V → sm_S → Prop} : sm_wp d 165 30 [l0, l1, l2, some (.inl x3), l4, l5, l6, l7, l8] [] (Z, Rf, K, n, z) Q = (if wr x3 = (3 : Int) then sm_wp d 165 35 [l0, l1, l2, some (.inl x3), l4, l5, l6, l7, l8] [] (Z, Rf, K, n, z) Q else sm_wp d 165 41 [l0, l1, l2, some (.inl x3), l4, l5, l6, l7, l8] [] (Z, Rf, K, n, z) Q) := (w_iload_n t165_30 rfl rfl).trans ((w_iconst t165_31 rfl).trans (w_icne t165_32 rfl wl_3 rfl rfl))
set_option maxRecDepth 10000 in
theorem b165_35 {d : Nat} {l0 : Option sm_V} {x1 : Int} {l2 : Option sm_V} {l3 : Option sm_V} {l4 : Option sm_V} {l5 : Option sm_V} {l6 : Option sm_V} {l7 : Option sm_V} {l8 : Option sm_V} {Z : Nat → Nat → Int} {Rf : Nat → Nat → Option Nat} {K : Nat → Nat × Nat} {n z : Nat} {Q : Option sm_V → sm_S → Prop} : sm_wp d 165 35 [l0, some (.inl x1), l2, l3, l4, l5, l6, l7, l8] [] (Z, Rf, K, n, z) Q = (sm_wp d 165 42 [l0, some (.inl x1), l2, l3, l4, l5, l6, l7, l8] [.inl (x1 - 1)] (Z, Rf, K, n, z) Q) := (w_iload_n t165_35 rfl rfl).trans ((w_iconst t165_36 rfl).trans ((w_isub t165_37 rfl).trans (w_goto t165_38 rfl)))
set_option maxRecDepth 10000 in
theorem b165_41 {d : Nat} {l0 : Option sm_V} {x1 : Int} {l2 : Option sm_V} {l3 : Option sm_V} {l4 : Option sm_V} {l5 : Option sm_V} {l6 : Option sm_V} {l7 : Option sm_V} {l8 : Option sm_V} {Z : Nat → Nat → Int} {Rf : Nat → Nat → Option Nat} {K : Nat → Nat × Nat} {n z : Nat} {Q : Option sm_V → sm_S → Prop} : sm_wp d 165 41 [l0, some (.inl x1), l2, l3, l4, l5, l6, l7, l8] [] (Z, Rf, K, n, z) Q = (sm_wp d 165 42 [l0, some (.inl x1), l2, l3, l4, l5, l6, l7, l8] [.inl x1] (Z, Rf, K, n, z) Q) := w_iload_n t165_41 rfl rfl
set_option maxRecDepth 10000 in
theorem b165_42 {d : Nat} {l0 : Option sm_V} {l1 : Option sm_V} {l2 : Option sm_V} {x3 : Int} {l4 : Option sm_V} {l5 : Option sm_V} {l6 : Option sm_V} {l7 : Option sm_V} {l8 : Option sm_V} {s0 : Int} {Z : Nat → Nat → Int} {Rf : Nat → Nat → Option Nat} {K : Nat → Nat × Nat} {n z : Nat} {Q : Option sm_V → sm_S → Prop} : sm_wp d 165 42 [l0, l1, l2, some (.inl x3), l4, l5, l6, l7, l8] [.inl s0] (Z, Rf, K, n, z) Q = (if wr x3 = 0 then sm_wp d 165 53 [l0, l1, l2, some (.inl x3), l4, some (.inl s0), l6, l7, l8] [] (Z, Rf, K, n, z) Q else sm_wp d 165 48 [l0, l1, l2, some (.inl x3), l4, some (.inl s0), l6, l7, l8] [] (Z, Rf, K, n, z) Q) := (w_istore t165_42 rfl (Nat.le_of_ble_eq_true rfl) rfl).trans ((w_iload_n t165_44 rfl rfl).trans (w_ifeq t165_45 rfl rfl rfl))
set_option maxRecDepth 10000 in
theorem b165_48 {d : Nat} {l0 : Option sm_V} {l1 : Option sm_V} {l2 : Option sm_V} {x3 : Int} {l4 : Option sm_V} {l5 : Option sm_V} {l6 : Option sm_V} {l7 : Option sm_V} {l8 : Option sm_V} {Z : Nat → Nat → Int} {Rf : Nat → Nat → Option Nat} {K : Nat → Nat × Nat} {n z : Nat} {Q : Option sm_V → sm_S → Prop} : sm_wp d 165 48 [l0, l1, l2, some (.inl x3), l4, l5, l6, l7, l8] [] (Z, Rf, K, n, z) Q = (if wr x3 = (1 : Int) then sm_wp d 165 53 [l0, l1, l2, some (.inl x3), l4, l5, l6, l7, l8] [] (Z, Rf, K, n, z) Q else sm_wp d 165 59 [l0, l1, l2, some (.inl x3), l4, l5, l6, l7, l8] [] (Z, Rf, K, n, z) Q) := (w_iload_n t165_48 rfl rfl).trans ((w_iconst t165_49 rfl).trans (w_icne t165_50 rfl wl_1 rfl rfl))
set_option maxRecDepth 10000 in
theorem b165_53 {d : Nat} {l0 : Option sm_V} {l1 : Option sm_V} {x2 : Int} {l3 : Option sm_V} {l4 : Option sm_V} {l5 : Option sm_V} {l6 : Option sm_V} {l7 : Option sm_V} {l8 : Option sm_V} {Z : Nat → Nat → Int} {Rf : Nat → Nat → Option Nat} {K : Nat → Nat × Nat} {n z : Nat} {Q : Option sm_V → sm_S → Prop} : sm_wp d 165 53 [l0, l1, some (.inl x2), l3, l4, l5, l6, l7, l8] [] (Z, Rf, K, n, z) Q = (sm_wp d 165 60 [l0, l1, some (.inl x2), l3, l4, l5, l6, l7, l8] [.inl (x2 - 1)] (Z, Rf, K, n, z) Q) := (w_iload_n t165_53 rfl rfl).trans ((w_iconst t165_54 rfl).trans ((w_isub t165_55 rfl).trans (w_goto t165_56 rfl)))
set_option maxRecDepth 10000 in
theorem b165_59 {d : Nat} {l0 : Option sm_V} {l1 : Option sm_V} {x2 : Int} {l3 : Option sm_V} {l4 : Option sm_V} {l5 : Option sm_V} {l6 : Option sm_V} {l7 : Option sm_V} {l8 : Option sm_V} {Z : Nat → Nat → Int} {Rf : Nat → Nat → Option Nat} {K : Nat → Nat × Nat} {n z : Nat} {Q : Option sm_V → sm_S → Prop} : sm_wp d 165 59 [l0, l1, some (.inl x2), l3, l4, l5, l6, l7, l8] [] (Z, Rf, K, n, z) Q = (sm_wp d 165 60 [l0, l1, some (.inl x2), l3, l4, l5, l6, l7, l8] [.inl x2] (Z, Rf, K, n, z) Q) := w_iload_n t165_59 rfl rfl
set_option maxRecDepth 10000 in
theorem b165_60 {d : Nat} {l0 : Option sm_V} {l1 : Option sm_V} {l2 : Option sm_V} {x3 : Int} {l4 : Option sm_V} {l5 : Option sm_V} {l6 : Option sm_V} {l7 : Option sm_V} {l8 : Option sm_V} {s0 : Int} {Z : Nat → Nat → Int} {Rf : Nat → Nat → Option Nat} {K : Nat → Nat × Nat} {n z : Nat} {Q : Option sm_V → sm_S → Prop} : sm_wp d 165 60 [l0, l1, l2, some (.inl x3), l4, l5, l6, l7, l8] [.inl s0] (Z, Rf, K, n, z) Q = (if wr x3 = (2 : Int) then sm_wp d 165 72 [l0, l1, l2, some (.inl x3), l4, l5, some (.inl s0), l7, l8] [] (Z, Rf, K, n, z) Q else sm_wp d 165 67 [l0, l1, l2, some (.inl x3), l4, l5, some (.inl s0), l7, l8] [] (Z, Rf, K, n, z) Q) := (w_istore t165_60 rfl (Nat.le_of_ble_eq_true rfl) rfl).trans ((w_iload_n t165_62 rfl rfl).trans ((w_iconst t165_63 rfl).trans (w_iceq t165_64 rfl wl_2 rfl rfl)))
set_option maxRecDepth 10000 in
theorem b165_67 {d : Nat} {l0 : Option sm_V} {l1 : Option sm_V} {l2 : Option sm_V} {x3 : Int} {l4 : Option sm_V} {l5 : Option sm_V} {l6 : Option sm_V} {l7 : Option sm_V} {l8 : Option sm_V} {Z : Nat → Nat → Int} {Rf : Nat → Nat → Option Nat} {K : Nat → Nat × Nat} {n z : Nat} {Q : Option sm_V → sm_S → Prop} : sm_wp d 165 67 [l0, l1, l2, some (.inl x3), l4, l5, l6, l7, l8] [] (Z, Rf, K, n, z) Q = (if wr x3 = (3 : Int) then sm_wp d 165 72 [l0, l1, l2, some (.inl x3), l4, l5, l6, l7, l8] [] (Z, Rf, K, n, z) Q else sm_wp d 165 78 [l0, l1, l2, some (.inl x3), l4, l5, l6, l7, l8] [] (Z, Rf, K, n, z) Q) := (w_iload_n t165_67 rfl rfl).trans ((w_iconst t165_68 rfl).trans (w_icne t165_69 rfl wl_3 rfl rfl))
set_option maxRecDepth 10000 in
theorem b165_72 {d : Nat} {l0 : Option sm_V} {x1 : Int} {l2 : Option sm_V} {l3 : Option sm_V} {l4 : Option sm_V} {l5 : Option sm_V} {l6 : Option sm_V} {l7 : Option sm_V} {l8 : Option sm_V} {Z : Nat → Nat → Int} {Rf : Nat → Nat → Option Nat} {K : Nat → Nat × Nat} {n z : Nat} {Q : Option sm_V → sm_S → Prop} : sm_wp d 165 72 [l0, some (.inl x1), l2, l3, l4, l5, l6, l7, l8] [] (Z, Rf, K, n, z) Q = (sm_wp d 165 79 [l0, some (.inl x1), l2, l3, l4, l5, l6, l7, l8] [.inl (x1 - 1)] (Z, Rf, K, n, z) Q) := (w_iload_n t165_72 rfl rfl).trans ((w_iconst t165_73 rfl).trans ((w_isub t165_74 rfl).trans (w_goto t165_75 rfl)))
set_option maxRecDepth 10000 in
theorem b165_78 {d : Nat} {l0 : Option sm_V} {x1 : Int} {l2 : Option sm_V} {l3 : Option sm_V} {l4 : Option sm_V} {l5 : Option sm_V} {l6 : Option sm_V} {l7 : Option sm_V} {l8 : Option sm_V} {Z : Nat → Nat → Int} {Rf : Nat → Nat → Option Nat} {K : Nat → Nat × Nat} {n z : Nat} {Q : Option sm_V → sm_S → Prop} : sm_wp d 165 78 [l0, some (.inl x1), l2, l3, l4, l5, l6, l7, l8] [] (Z, Rf, K, n, z) Q = (sm_wp d 165 79 [l0, some (.inl x1), l2, l3, l4, l5, l6, l7, l8] [.inl x1] (Z, Rf, K, n, z) Q) := w_iload_n t165_78 rfl rfl
set_option maxRecDepth 10000 in
theorem b165_79 {d : Nat} {l0 : Option sm_V} {l1 : Option sm_V} {l2 : Option sm_V} {x3 : Int} {l4 : Option sm_V} {l5 : Option sm_V} {l6 : Option sm_V} {l7 : Option sm_V} {l8 : Option sm_V} {s0 : Int} {Z : Nat → Nat → Int} {Rf : Nat → Nat → Option Nat} {K : Nat → Nat × Nat} {n z : Nat} {Q : Option sm_V → sm_S → Prop} : sm_wp d 165 79 [l0, l1, l2, some (.inl x3), l4, l5, l6, l7, l8] [.inl s0] (Z, Rf, K, n, z) Q = (if wr x3 = 0 then sm_wp d 165 90 [l0, l1, l2, some (.inl x3), l4, l5, l6, some (.inl s0), l8] [] (Z, Rf, K, n, z) Q else sm_wp d 165 85 [l0, l1, l2, some (.inl x3), l4, l5, l6, some (.inl s0), l8] [] (Z, Rf, K, n, z) Q) := (w_istore t165_79 rfl (Nat.le_of_ble_eq_true rfl) rfl).trans ((w_iload_n t165_81 rfl rfl).trans (w_ifeq t165_82 rfl rfl rfl))
set_option maxRecDepth 10000 in
theorem b165_85 {d : Nat} {l0 : Option sm_V} {l1 : Option sm_V} {l2 : Option sm_V} {x3 : Int} {l4 : Option sm_V} {l5 : Option sm_V} {l6 : Option sm_V} {l7 : Option sm_V} {l8 : Option sm_V} {Z : Nat → Nat → Int} {Rf : Nat → Nat → Option Nat} {K : Nat → Nat × Nat} {n z : Nat} {Q : Option sm_V → sm_S → Prop} : sm_wp d 165 85 [l0, l1, l2, some (.inl x3), l4, l5, l6, l7, l8] [] (Z, Rf, K, n, z) Q = (if wr x3 = (3 : Int) then sm_wp d 165 90 [l0, l1, l2, some (.inl x3), l4, l5, l6, l7, l8] [] (Z, Rf, K, n, z) Q else sm_wp d 165 96 [l0, l1, l2, some (.inl x3), l4, l5, l6, l7, l8] [] (Z, Rf, K, n, z) Q) := (w_iload_n t165_85 rfl rfl).trans ((w_iconst t165_86 rfl).trans (w_icne t165_87 rfl wl_3 rfl rfl))
set_option maxRecDepth 10000 in
theorem b165_90 {d : Nat} {l0 : Option sm_V} {l1 : Option sm_V} {x2 : Int} {l3 : Option sm_V} {l4 : Option sm_V} {l5 : Option sm_V} {l6 : Option sm_V} {l7 : Option sm_V} {l8 : Option sm_V} {Z : Nat → Nat → Int} {Rf : Nat → Nat → Option Nat} {K : Nat → Nat × Nat} {n z : Nat} {Q : Option sm_V → sm_S → Prop} : sm_wp d 165 90 [l0, l1, some (.inl x2), l3, l4, l5, l6, l7, l8] [] (Z, Rf, K, n, z) Q = (sm_wp d 165 97 [l0, l1, some (.inl x2), l3, l4, l5, l6, l7, l8] [.inl (x2 - 1)] (Z, Rf, K, n, z) Q) := (w_iload_n t165_90 rfl rfl).trans ((w_iconst t165_91 rfl).trans ((w_isub t165_92 rfl).trans (w_goto t165_93 rfl)))
set_option maxRecDepth 10000 in
theorem b165_96 {d : Nat} {l0 : Option sm_V} {l1 : Option sm_V} {x2 : Int} {l3 : Option sm_V} {l4 : Option sm_V} {l5 : Option sm_V} {l6 : Option sm_V} {l7 : Option sm_V} {l8 : Option sm_V} {Z : Nat → Nat → Int} {Rf : Nat → Nat → Option Nat} {K : Nat → Nat × Nat} {n z : Nat} {Q : Option sm_V → sm_S → Prop} : sm_wp d 165 96 [l0, l1, some (.inl x2), l3, l4, l5, l6, l7, l8] [] (Z, Rf, K, n, z) Q = (sm_wp d 165 97 [l0, l1, some (.inl x2), l3, l4, l5, l6, l7, l8] [.inl x2] (Z, Rf, K, n, z) Q) := w_iload_n t165_96 rfl rfl
set_option maxRecDepth 10000 in
theorem b165_97 {d : Nat} {r0 : Nat} {l1 : Option sm_V} {l2 : Option sm_V} {l3 : Option sm_V} {x4 : Int} {l5 : Option sm_V} {l6 : Option sm_V} {l7 : Option sm_V} {l8 : Option sm_V} {s0 : Int} {Z : Nat → Nat → Int} {Rf : Nat → Nat → Option Nat} {K : Nat → Nat × Nat} {n z : Nat} {Q : Option sm_V → sm_S → Prop} : sm_wp d 165 97 [some (.inr (some r0)), l1, l2, l3, some (.inl x4), l5, l6, l7, l8] [.inl s0] (Z, Rf, K, n, z) Q = ((K r0).1 = 11 ∧ (Rf r0 11).isSome = true ∧ (if wr x4 = 0 then sm_wp d 165 113 [some (.inr (some r0)), l1, l2, l3, some (.inl x4), l5, l6, l7, some (.inl s0)] [.inl 1, .inr (some ((Rf r0 11).getD 0))] (Z, Rf, K, n, z) Q else sm_wp d 165 109 [some (.inr (some r0)), l1, l2, l3, some (.inl x4), l5, l6, l7, some (.inl s0)] [.inl 1, .inr (some ((Rf r0 11).getD 0))] (Z, Rf, K, n, z) Q)) := (w_istore t165_97 rfl (Nat.le_of_ble_eq_true rfl) rfl).trans ((w_aload_n t165_99 rfl rfl).trans ((w_getR t165_100 rfl (by decide)).trans (congrArg (And _) (congrArg (And _) ((w_iconst t165_103 rfl).trans ((w_iload t165_104 rfl rfl).trans (w_ifeq t165_106 rfl rfl rfl)))))))
set_option maxRecDepth 10000 in
theorem b165_109 {d : Nat} {l0 : Option sm_V} {l1 : Option sm_V} {l2 : Option sm_V} {l3 : Option sm_V} {l4 : Option sm_V} {l5 : Option sm_V} {l6 : Option sm_V} {l7 : Option sm_V} {l8 : Option sm_V} {qs0 : Option Nat} {s1 : Int} {Z : Nat → Nat → Int} {Rf : Nat → Nat → Option Nat} {K : Nat → Nat × Nat} {n z : Nat} {Q : Option sm_V → sm_S → Prop} : sm_wp d 165 109 [l0, l1, l2, l3, l4, l5, l6, l7, l8] [.inl s1, .inr qs0] (Z, Rf, K, n, z) Q = (sm_wp d 165 121 [l0, l1, l2, l3, l4, l5, l6, l7, l8] [.inl 0, .inl s1, .inr qs0] (Z, Rf, K, n, z) Q) := (w_iconst t165_109 rfl).trans (w_goto t165_110 rfl)
set_option maxRecDepth 10000 in
theorem b165_113 {d : Nat} {r0 : Nat} {l1 : Option sm_V} {l2 : Option sm_V} {l3 : Option sm_V} {l4 : Option sm_V} {x5 : Int} {x6 : Int} {l7 : Option sm_V} {l8 : Option sm_V} {qs0 : Option Nat} {s1 : Int} {Z : Nat → Nat → Int} {Rf : Nat → Nat → Option Nat} {K : Nat → Nat × Nat} {n z : Nat} {Q : Option sm_V → sm_S → Prop} : sm_wp (d + 1) 165 113 [some (.inr (some r0)), l1, l2, l3, l4, some (.inl x5), some (.inl x6), l7, l8] [.inl s1, .inr qs0] (Z, Rf, K, n, z) Q = ((K r0).1 = 11 ∧ sm_call d 164 [.inr (some r0), .inl x5, .inl x6] (Z, Rf, K, n, z) (sm_cont (d + 1) 165 121 [some (.inr (some r0)), l1, l2, l3, l4, some (.inl x5), some (.inl x6), l7, l8] [.inl s1, .inr qs0] Q)) := (w_aload_n t165_113 rfl rfl).trans ((w_iload t165_114 rfl rfl).trans ((w_iload t165_116 rfl rfl).trans (w_callV t165_118 rfl rfl rfl rfl (Nat.le_of_ble_eq_true rfl) (Nat.le_of_ble_eq_true rfl) rfl (by decide))))
set_option maxRecDepth 10000 in
theorem b165_121 {d : Nat} {r0 : Nat} {l1 : Option sm_V} {l2 : Option sm_V} {l3 : Option sm_V} {x4 : Int} {l5 : Option sm_V} {l6 : Option sm_V} {l7 : Option sm_V} {l8 : Option sm_V} {rs0 : Nat} {s1 : Int} {s2 : Int} {Z : Nat → Nat → Int} {Rf : Nat → Nat → Option Nat} {K : Nat → Nat × Nat} {n z : Nat} {Q : Option sm_V → sm_S → Prop} : sm_wp d 165 121 [some (.inr (some r0)), l1, l2, l3, some (.inl x4), l5, l6, l7, l8] [.inl s2, .inl s1, .inr (some rs0)] (Z, Rf, K, n, z) Q = (sm_wt (K rs0) (wr s1) ∧ (K r0).1 = 11 ∧ (Rf r0 11).isSome = true ∧ (if wr x4 = 0 then sm_wp d 165 136 [some (.inr (some r0)), l1, l2, l3, some (.inl x4), l5, l6, l7, l8] [.inl 2, .inr (some ((Rf r0 11).getD 0))] (sm_u Z rs0 ((wr s1).toNat) s2, Rf, K, n, z) Q else sm_wp d 165 132 [some (.inr (some r0)), l1, l2, l3, some (.inl x4), l5, l6, l7, l8] [.inl 2, .inr (some ((Rf r0 11).getD 0))] (sm_u Z rs0 ((wr s1).toNat) s2, Rf, K, n, z) Q)) := (w_iast t165_121 rfl rfl).trans (congrArg (And _) ((w_aload_n t165_122 rfl rfl).trans ((w_getR t165_123 rfl (by decide)).trans (congrArg (And _) (congrArg (And _) ((w_iconst t165_126 rfl).trans ((w_iload t165_127 rfl rfl).trans (w_ifeq t165_129 rfl rfl rfl))))))))
set_option maxRecDepth 10000 in
theorem b165_132 {d : Nat} {l0 : Option sm_V} {l1 : Option sm_V} {l2 : Option sm_V} {l3 : Option sm_V} {l4 : Option sm_V} {l5 : Option sm_V} {l6 : Option sm_V} {l7 : Option sm_V} {l8 : Option sm_V} {qs0 : Option Nat} {s1 : Int} {Z : Nat → Nat → Int} {Rf : Nat → Nat → Option Nat} {K : Nat → Nat × Nat} {n z : Nat} {Q : Option sm_V → sm_S → Prop} : sm_wp d 165 132 [l0, l1, l2, l3, l4, l5, l6, l7, l8] [.inl s1, .inr qs0] (Z, Rf, K, n, z) Q = (sm_wp d 165 144 [l0, l1, l2, l3, l4, l5, l6, l7, l8] [.inl 0, .inl s1, .inr qs0] (Z, Rf, K, n, z) Q) := (w_iconst t165_132 rfl).trans (w_goto t165_133 rfl)
set_option maxRecDepth 10000 in
theorem b165_136 {d : Nat} {r0 : Nat} {l1 : Option sm_V} {l2 : Option sm_V} {l3 : Option sm_V} {l4 : Option sm_V} {l5 : Option sm_V} {l6 : Option sm_V} {x7 : Int} {x8 : Int} {qs0 : Option Nat} {s1 : Int} {Z : Nat → Nat → Int} {Rf : Nat → Nat → Option Nat} {K : Nat → Nat × Nat} {n z : Nat} {Q : Option sm_V → sm_S → Prop} : sm_wp (d + 1) 165 136 [some (.inr (some r0)), l1, l2, l3, l4, l5, l6, some (.inl x7), some (.inl x8)] [.inl s1, .inr qs0] (Z, Rf, K, n, z) Q = ((K r0).1 = 11 ∧ sm_call d 164 [.inr (some r0), .inl x7, .inl x8] (Z, Rf, K, n, z) (sm_cont (d + 1) 165 144 [some (.inr (some r0)), l1, l2, l3, l4, l5, l6, some (.inl x7), some (.inl x8)] [.inl s1, .inr qs0] Q)) := (w_aload_n t165_136 rfl rfl).trans ((w_iload t165_137 rfl rfl).trans ((w_iload t165_139 rfl rfl).trans (w_callV t165_141 rfl rfl rfl rfl (Nat.le_of_ble_eq_true rfl) (Nat.le_of_ble_eq_true rfl) rfl (by decide))))
set_option maxRecDepth 10000 in
theorem b165_144 {d : Nat} {r0 : Nat} {l1 : Option sm_V} {l2 : Option sm_V} {l3 : Option sm_V} {x4 : Int} {l5 : Option sm_V} {l6 : Option sm_V} {l7 : Option sm_V} {l8 : Option sm_V} {rs0 : Nat} {s1 : Int} {s2 : Int} {Z : Nat → Nat → Int} {Rf : Nat → Nat → Option Nat} {K : Nat → Nat × Nat} {n z : Nat} {Q : Option sm_V → sm_S → Prop} : sm_wp d 165 144 [some (.inr (some r0)), l1, l2, l3, some (.inl x4), l5, l6, l7, l8] [.inl s2, .inl s1, .inr (some rs0)] (Z, Rf, K, n, z) Q = (sm_wt (K rs0) (wr s1) ∧ (K r0).1 = 11 ∧ (Rf r0 11).isSome = true ∧ (if wr x4 = 0 then sm_wp d 165 159 [some (.inr (some r0)), l1, l2, l3, some (.inl x4), l5, l6, l7, l8] [.inl 3, .inr (some ((Rf r0 11).getD 0))] (sm_u Z rs0 ((wr s1).toNat) s2, Rf, K, n, z) Q else sm_wp d 165 155 [some (.inr (some r0)), l1, l2, l3, some (.inl x4), l5, l6, l7, l8] [.inl 3, .inr (some ((Rf r0 11).getD 0))] (sm_u Z rs0 ((wr s1).toNat) s2, Rf, K, n, z) Q)) := (w_iast t165_144 rfl rfl).trans (congrArg (And _) ((w_aload_n t165_145 rfl rfl).trans ((w_getR t165_146 rfl (by decide)).trans (congrArg (And _) (congrArg (And _) ((w_iconst t165_149 rfl).trans ((w_iload t165_150 rfl rfl).trans (w_ifeq t165_152 rfl rfl rfl))))))))
set_option maxRecDepth 10000 in
theorem b165_155 {d : Nat} {l0 : Option sm_V} {l1 : Option sm_V} {l2 : Option sm_V} {l3 : Option sm_V} {l4 : Option sm_V} {l5 : Option sm_V} {l6 : Option sm_V} {l7 : Option sm_V} {l8 : Option sm_V} {qs0 : Option Nat} {s1 : Int} {Z : Nat → Nat → Int} {Rf : Nat → Nat → Option Nat} {K : Nat → Nat × Nat} {n z : Nat} {Q : Option sm_V → sm_S → Prop} : sm_wp d 165 155 [l0, l1, l2, l3, l4, l5, l6, l7, l8] [.inl s1, .inr qs0] (Z, Rf, K, n, z) Q = (sm_wp d 165 167 [l0, l1, l2, l3, l4, l5, l6, l7, l8] [.inl 0, .inl s1, .inr qs0] (Z, Rf, K, n, z) Q) := (w_iconst t165_155 rfl).trans (w_goto t165_156 rfl)
set_option maxRecDepth 10000 in
theorem b165_159 {d : Nat} {r0 : Nat} {l1 : Option sm_V} {l2 : Option sm_V} {l3 : Option sm_V} {l4 : Option sm_V} {x5 : Int} {x6 : Int} {l7 : Option sm_V} {l8 : Option sm_V} {qs0 : Option Nat} {s1 : Int} {Z : Nat → Nat → Int} {Rf : Nat → Nat → Option Nat} {K : Nat → Nat × Nat} {n z : Nat} {Q : Option sm_V → sm_S → Prop} : sm_wp (d + 1) 165 159 [some (.inr (some r0)), l1, l2, l3, l4, some (.inl x5), some (.inl x6), l7, l8] [.inl s1, .inr qs0] (Z, Rf, K, n, z) Q = ((K r0).1 = 11 ∧ sm_call d 163 [.inr (some r0), .inl x5, .inl x6] (Z, Rf, K, n, z) (sm_cont (d + 1) 165 167 [some (.inr (some r0)), l1, l2, l3, l4, some (.inl x5), some (.inl x6), l7, l8] [.inl s1, .inr qs0] Q)) := (w_aload_n t165_159 rfl rfl).trans ((w_iload t165_160 rfl rfl).trans ((w_iload t165_162 rfl rfl).trans (w_callV t165_164 rfl rfl rfl rfl (Nat.le_of_ble_eq_true rfl) (Nat.le_of_ble_eq_true rfl) rfl (by decide))))
set_option maxRecDepth 10000 in
theorem b165_167 {d : Nat} {r0 : Nat} {l1 : Option sm_V} {l2 : Option sm_V} {l3 : Option sm_V} {x4 : Int} {l5 : Option sm_V} {l6 : Option sm_V} {l7 : Option sm_V} {l8 : Option sm_V} {rs0 : Nat} {s1 : Int} {s2 : Int} {Z : Nat → Nat → Int} {Rf : Nat → Nat → Option Nat} {K : Nat → Nat × Nat} {n z : Nat} {Q : Option sm_V → sm_S → Prop} : sm_wp d 165 167 [some (.inr (some r0)), l1, l2, l3, some (.inl x4), l5, l6, l7, l8] [.inl s2, .inl s1, .inr (some rs0)] (Z, Rf, K, n, z) Q = (sm_wt (K rs0) (wr s1) ∧ (K r0).1 = 11 ∧ (Rf r0 11).isSome = true ∧ (if wr x4 = 0 then sm_wp d 165 182 [some (.inr (some r0)), l1, l2, l3, some (.inl x4), l5, l6, l7, l8] [.inl 4, .inr (some ((Rf r0 11).getD 0))] (sm_u Z rs0 ((wr s1).toNat) s2, Rf, K, n, z) Q else sm_wp d 165 178 [some (.inr (some r0)), l1, l2, l3, some (.inl x4), l5, l6, l7, l8] [.inl 4, .inr (some ((Rf r0 11).getD 0))] (sm_u Z rs0 ((wr s1).toNat) s2, Rf, K, n, z) Q)) := (w_iast t165_167 rfl rfl).trans (congrArg (And _) ((w_aload_n t165_168 rfl rfl).trans ((w_getR t165_169 rfl (by decide)).trans (congrArg (And _) (congrArg (And _) ((w_iconst t165_172 rfl).trans ((w_iload t165_173 rfl rfl).trans (w_ifeq t165_175 rfl rfl rfl))))))))
set_option maxRecDepth 10000 in
theorem b165_178 {d : Nat} {l0 : Option sm_V} {l1 : Option sm_V} {l2 : Option sm_V} {l3 : Option sm_V} {l4 : Option sm_V} {l5 : Option sm_V} {l6 : Option sm_V} {l7 : Option sm_V} {l8 : Option sm_V} {qs0 : Option Nat} {s1 : Int} {Z : Nat → Nat → Int} {Rf : Nat → Nat → Option Nat} {K : Nat → Nat × Nat} {n z : Nat} {Q : Option sm_V → sm_S → Prop} : sm_wp d 165 178 [l0, l1, l2, l3, l4, l5, l6, l7, l8] [.inl s1, .inr qs0] (Z, Rf, K, n, z) Q = (sm_wp d 165 190 [l0, l1, l2, l3, l4, l5, l6, l7, l8] [.inl 0, .inl s1, .inr qs0] (Z, Rf, K, n, z) Q) := (w_iconst t165_178 rfl).trans (w_goto t165_179 rfl)
set_option maxRecDepth 10000 in
theorem b165_182 {d : Nat} {r0 : Nat} {l1 : Option sm_V} {l2 : Option sm_V} {l3 : Option sm_V} {l4 : Option sm_V} {l5 : Option sm_V} {l6 : Option sm_V} {x7 : Int} {x8 : Int} {qs0 : Option Nat} {s1 : Int} {Z : Nat → Nat → Int} {Rf : Nat → Nat → Option Nat} {K : Nat → Nat × Nat} {n z : Nat} {Q : Option sm_V → sm_S → Prop} : sm_wp (d + 1) 165 182 [some (.inr (some r0)), l1, l2, l3, l4, l5, l6, some (.inl x7), some (.inl x8)] [.inl s1, .inr qs0] (Z, Rf, K, n, z) Q = ((K r0).1 = 11 ∧ sm_call d 163 [.inr (some r0), .inl x7, .inl x8] (Z, Rf, K, n, z) (sm_cont (d + 1) 165 190 [some (.inr (some r0)), l1, l2, l3, l4, l5, l6, some (.inl x7), some (.inl x8)] [.inl s1, .inr qs0] Q)) := (w_aload_n t165_182 rfl rfl).trans ((w_iload t165_183 rfl rfl).trans ((w_iload t165_185 rfl rfl).trans (w_callV t165_187 rfl rfl rfl rfl (Nat.le_of_ble_eq_true rfl) (Nat.le_of_ble_eq_true rfl) rfl (by decide))))
set_option maxRecDepth 10000 in
theorem b165_190 {d : Nat} {r0 : Nat} {l1 : Option sm_V} {l2 : Option sm_V} {l3 : Option sm_V} {x4 : Int} {l5 : Option sm_V} {l6 : Option sm_V} {l7 : Option sm_V} {l8 : Option sm_V} {rs0 : Nat} {s1 : Int} {s2 : Int} {Z : Nat → Nat → Int} {Rf : Nat → Nat → Option Nat} {K : Nat → Nat × Nat} {n z : Nat} {Q : Option sm_V → sm_S → Prop} : sm_wp d 165 190 [some (.inr (some r0)), l1, l2, l3, some (.inl x4), l5, l6, l7, l8] [.inl s2, .inl s1, .inr (some rs0)] (Z, Rf, K, n, z) Q = (sm_wt (K rs0) (wr s1) ∧ (K r0).1 = 11 ∧ (Rf r0 11).isSome = true ∧ (if wr x4 = 0 then sm_wp d 165 201 [some (.inr (some r0)), l1, l2, l3, some (.inl x4), l5, l6, l7, l8] [.inl 5, .inr (some ((Rf r0 11).getD 0))] (sm_u Z rs0 ((wr s1).toNat) s2, Rf, K, n, z) Q else sm_wp d 165 220 [some (.inr (some r0)), l1, l2, l3, some (.inl x4), l5, l6, l7, l8] [.inl 5, .inr (some ((Rf r0 11).getD 0))] (sm_u Z rs0 ((wr s1).toNat) s2, Rf, K, n, z) Q)) := (w_iast t165_190 rfl rfl).trans (congrArg (And _) ((w_aload_n t165_191 rfl rfl).trans ((w_getR t165_192 rfl (by decide)).trans (congrArg (And _) (congrArg (And _) ((w_iconst t165_195 rfl).trans ((w_iload t165_196 rfl rfl).trans (w_ifne t165_198 rfl rfl rfl))))))))
set_option maxRecDepth 10000 in
theorem b165_201 {d : Nat} {r0 : Nat} {x1 : Int} {x2 : Int} {x3 : Int} {l4 : Option sm_V} {l5 : Option sm_V} {l6 : Option sm_V} {l7 : Option sm_V} {l8 : Option sm_V} {qs0 : Option Nat} {s1 : Int} {Z : Nat → Nat → Int} {Rf : Nat → Nat → Option Nat} {K : Nat → Nat × Nat} {n z : Nat} {Q : Option sm_V → sm_S → Prop} : sm_wp (d + 1) 165 201 [some (.inr (some r0)), some (.inl x1), some (.inl x2), some (.inl x3), l4, l5, l6, l7, l8] [.inl s1, .inr qs0] (Z, Rf, K, n, z) Q = ((K r0).1 = 11 ∧ (Rf r0 0).isSome = true ∧ sm_call d 162 [.inl x1, .inl x2, .inl x3] (Z, Rf, K, n, z) (sm_cont (d + 1) 165 214 [some (.inr (some r0)), some (.inl x1), some (.inl x2), some (.inl x3), l4, l5, l6, l7, l8] [.inl 850, .inr (some ((Rf r0 0).getD 0)), .inl s1, .inr qs0] Q)) := (w_aload_n t165_201 rfl rfl).trans ((w_getR t165_202 rfl (by decide)).trans (congrArg (And _) (congrArg (And _) ((w_sipush t165_205 rfl).trans ((w_iload_n t165_208 rfl rfl).trans ((w_iload_n t165_209 rfl rfl).trans ((w_iload_n t165_210 rfl rfl).trans (w_callS t165_211 rfl rfl rfl rfl (Nat.le_of_ble_eq_true rfl) (Nat.le_of_ble_eq_true rfl) rfl))))))))
set_option maxRecDepth 10000 in
theorem b165_214 {d : Nat} {l0 : Option sm_V} {l1 : Option sm_V} {l2 : Option sm_V} {l3 : Option sm_V} {l4 : Option sm_V} {l5 : Option sm_V} {l6 : Option sm_V} {l7 : Option sm_V} {l8 : Option sm_V} {qs0 : Option Nat} {s1 : Int} {rs2 : Nat} {s3 : Int} {s4 : Int} {Z : Nat → Nat → Int} {Rf : Nat → Nat → Option Nat} {K : Nat → Nat × Nat} {n z : Nat} {Q : Option sm_V → sm_S → Prop} : sm_wp d 165 214 [l0, l1, l2, l3, l4, l5, l6, l7, l8] [.inl s4, .inl s3, .inr (some rs2), .inl s1, .inr qs0] (Z, Rf, K, n, z) Q = (sm_rd (K rs2) (wr (s3 + s4)) ∧ (if wr (Z rs2 ((wr (s3 + s4)).toNat)) = (-1 : Int) then sm_wp d 165 220 [l0, l1, l2, l3, l4, l5, l6, l7, l8] [.inl s1, .inr qs0] (Z, Rf, K, n, z) Q else sm_wp d 165 224 [l0, l1, l2, l3, l4, l5, l6, l7, l8] [.inl s1, .inr qs0] (Z, Rf, K, n, z) Q)) := (w_iadd t165_214 rfl).trans ((w_iald t165_215 rfl rfl).trans (congrArg (And _) ((w_iconst t165_216 rfl).trans (w_icne t165_217 rfl wl_m1 rfl rfl))))
set_option maxRecDepth 10000 in
theorem b165_220 {d : Nat} {l0 : Option sm_V} {l1 : Option sm_V} {l2 : Option sm_V} {l3 : Option sm_V} {l4 : Option sm_V} {l5 : Option sm_V} {l6 : Option sm_V} {l7 : Option sm_V} {l8 : Option sm_V} {qs0 : Option Nat} {s1 : Int} {Z : Nat → Nat → Int} {Rf : Nat → Nat → Option Nat} {K : Nat → Nat × Nat} {n z : Nat} {Q : Option sm_V → sm_S → Prop} : sm_wp d 165 220 [l0, l1, l2, l3, l4, l5, l6, l7, l8] [.inl s1, .inr qs0] (Z, Rf, K, n, z) Q = (sm_wp d 165 225 [l0, l1, l2, l3, l4, l5, l6, l7, l8] [.inl 0, .inl s1, .inr qs0] (Z, Rf, K, n, z) Q) := (w_iconst t165_220 rfl).trans (w_goto t165_221 rfl)
set_option maxRecDepth 10000 in
theorem b165_224 {d : Nat} {l0 : Option sm_V} {l1 : Option sm_V} {l2 : Option sm_V} {l3 : Option sm_V} {l4 : Option sm_V} {l5 : Option sm_V} {l6 : Option sm_V} {l7 : Option sm_V} {l8 : Option sm_V} {qs0 : Option Nat} {s1 : Int} {Z : Nat → Nat → Int} {Rf : Nat → Nat → Option Nat} {K : Nat → Nat × Nat} {n z : Nat} {Q : Option sm_V → sm_S → Prop} : sm_wp d 165 224 [l0, l1, l2, l3, l4, l5, l6, l7, l8] [.inl s1, .inr qs0] (Z, Rf, K, n, z) Q = (sm_wp d 165 225 [l0, l1, l2, l3, l4, l5, l6, l7, l8] [.inl 1, .inl s1, .inr qs0] (Z, Rf, K, n, z) Q) := w_iconst t165_224 rfl
set_option maxRecDepth 10000 in
theorem b165_225 {d : Nat} {r0 : Nat} {l1 : Option sm_V} {l2 : Option sm_V} {l3 : Option sm_V} {x4 : Int} {l5 : Option sm_V} {l6 : Option sm_V} {l7 : Option sm_V} {l8 : Option sm_V} {rs0 : Nat} {s1 : Int} {s2 : Int} {Z : Nat → Nat → Int} {Rf : Nat → Nat → Option Nat} {K : Nat → Nat × Nat} {n z : Nat} {Q : Option sm_V → sm_S → Prop} : sm_wp d 165 225 [some (.inr (some r0)), l1, l2, l3, some (.inl x4), l5, l6, l7, l8] [.inl s2, .inl s1, .inr (some rs0)] (Z, Rf, K, n, z) Q = (sm_wt (K rs0) (wr s1) ∧ (K r0).1 = 11 ∧ (Rf r0 11).isSome = true ∧ (if wr x4 = 0 then sm_wp d 165 241 [some (.inr (some r0)), l1, l2, l3, some (.inl x4), l5, l6, l7, l8] [.inl 6, .inr (some ((Rf r0 11).getD 0))] (sm_u Z rs0 ((wr s1).toNat) s2, Rf, K, n, z) Q else sm_wp d 165 237 [some (.inr (some r0)), l1, l2, l3, some (.inl x4), l5, l6, l7, l8] [.inl 6, .inr (some ((Rf r0 11).getD 0))] (sm_u Z rs0 ((wr s1).toNat) s2, Rf, K, n, z) Q)) := (w_iast t165_225 rfl rfl).trans (congrArg (And _) ((w_aload_n t165_226 rfl rfl).trans ((w_getR t165_227 rfl (by decide)).trans (congrArg (And _) (congrArg (And _) ((w_bipush t165_230 rfl).trans ((w_iload t165_232 rfl rfl).trans (w_ifeq t165_234 rfl rfl rfl))))))))
set_option maxRecDepth 10000 in
theorem b165_237 {d : Nat} {l0 : Option sm_V} {l1 : Option sm_V} {l2 : Option sm_V} {l3 : Option sm_V} {l4 : Option sm_V} {l5 : Option sm_V} {l6 : Option sm_V} {l7 : Option sm_V} {l8 : Option sm_V} {qs0 : Option Nat} {s1 : Int} {Z : Nat → Nat → Int} {Rf : Nat → Nat → Option Nat} {K : Nat → Nat × Nat} {n z : Nat} {Q : Option sm_V → sm_S → Prop} : sm_wp d 165 237 [l0, l1, l2, l3, l4, l5, l6, l7, l8] [.inl s1, .inr qs0] (Z, Rf, K, n, z) Q = (sm_wp d 165 242 [l0, l1, l2, l3, l4, l5, l6, l7, l8] [.inl 1, .inl s1, .inr qs0] (Z, Rf, K, n, z) Q) := (w_iconst t165_237 rfl).trans (w_goto t165_238 rfl)
set_option maxRecDepth 10000 in
theorem b165_241 {d : Nat} {l0 : Option sm_V} {l1 : Option sm_V} {l2 : Option sm_V} {l3 : Option sm_V} {l4 : Option sm_V} {l5 : Option sm_V} {l6 : Option sm_V} {l7 : Option sm_V} {l8 : Option sm_V} {qs0 : Option Nat} {s1 : Int} {Z : Nat → Nat → Int} {Rf : Nat → Nat → Option Nat} {K : Nat → Nat × Nat} {n z : Nat} {Q : Option sm_V → sm_S → Prop} : sm_wp d 165 241 [l0, l1, l2, l3, l4, l5, l6, l7, l8] [.inl s1, .inr qs0] (Z, Rf, K, n, z) Q = (sm_wp d 165 242 [l0, l1, l2, l3, l4, l5, l6, l7, l8] [.inl 0, .inl s1, .inr qs0] (Z, Rf, K, n, z) Q) := w_iconst t165_241 rfl
set_option maxRecDepth 10000 in
theorem b165_242 {d : Nat} {l0 : Option sm_V} {l1 : Option sm_V} {l2 : Option sm_V} {l3 : Option sm_V} {l4 : Option sm_V} {l5 : Option sm_V} {l6 : Option sm_V} {l7 : Option sm_V} {l8 : Option sm_V} {rs0 : Nat} {s1 : Int} {s2 : Int} {Z : Nat → Nat → Int} {Rf : Nat → Nat → Option Nat} {K : Nat → Nat × Nat} {n z : Nat} {Q : Option sm_V → sm_S → Prop} : sm_wp d 165 242 [l0, l1, l2, l3, l4, l5, l6, l7, l8] [.inl s2, .inl s1, .inr (some rs0)] (Z, Rf, K, n, z) Q = (sm_wt (K rs0) (wr s1) ∧ Q none (sm_u Z rs0 ((wr s1).toNat) s2, Rf, K, n, z)) := (w_iast t165_242 rfl rfl).trans (congrArg (And _) (w_vret t165_243))
