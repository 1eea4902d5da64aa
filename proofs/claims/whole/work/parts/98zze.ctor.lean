theorem ctX8_9 : Sp yX8_init YX8_init 1 [.ref 9, .ref 2] (SS.take 10) (cqM 130) (cqL 0) (cqQ 8) 0 0 (cqS 10 131 9 0) := by
  refine Sp.of (by decide +kernel) rfl (fun _ => rfl) (Nat.le_of_ble_eq_true rfl) ?_
  intro w G
  show WP w YX8_init (1, SS.take 10, 0, 0) G _ 0 [(0, .ref 9), (1, .ref 2)] [] (SS.take 10) (cqM 130) (cqL 0) (cqQ 8)
  refine wp_aload_n (k := 0) dX8_init_0 0 rfl rfl ?_
  refine wp_objInit dX8_init_1 zl_RX8_3 (by decide) (by decide) rfl ?_
  refine wp_aload_n (k := 0) dX8_init_4 0 rfl rfl ?_
  refine wp_iconst (v := nI 0) dX8_init_5 (by decide) rfl ?_
  refine st_putZ (i' := 131) dX8_init_6 zf_RX8_9 rfl (by decide) zsh_9 (by decide) (by decide +kernel) rfl rfl ?_
  refine wp_aload_n (k := 0) dX8_init_9 0 rfl rfl ?_
  refine wp_aload_n (k := 1) dX8_init_10 1 rfl rfl ?_
  refine st_putRF (r' := 9) dX8_init_11 zf_RX8_15 rfl zsh_9 (by decide) (by decide +kernel) rfl (by decide) rfl rfl ?_
  exact wp_return dX8_init_14 rfl ⟨rfl, rfl, rfl, rfl, rfl⟩ (by decide +kernel) (by decide +kernel)
theorem ctX0_18 : Sp yX0_init YX0_init 1 [.ref 18] (SS.take 19) (cqM 137) (cqL 0) (cqQ 17) 2 1664 (cqS 21 138 19 0) := by
  refine Sp.of (by decide +kernel) rfl (fun _ => rfl) (Nat.le_of_ble_eq_true rfl) ?_
  intro w G
  show WP w YX0_init (1, SS.take 19, 2, 1664) G _ 0 [(0, .ref 18)] [] (SS.take 19) (cqM 137) (cqL 0) (cqQ 17)
  refine wp_aload_n (k := 0) dX0_init_0 0 rfl rfl ?_
  refine wp_objInit dX0_init_1 zl_RX0_3 (by decide) (by decide) rfl ?_
  refine wp_aload_n (k := 0) dX0_init_4 0 rfl rfl ?_
  refine wp_sipush (v := nI 1600) dX0_init_5 (by decide) rfl ?_
  refine st_newaI (N := 1600) (n' := 20) dX0_init_8 rfl zsh_19 (by decide) (by decide) (by decide +kernel) rfl (by decide +kernel) (by decide +kernel) rfl ?_
  refine st_putRF (r' := 18) dX0_init_10 zf_RX0_9 rfl zsh_18 (by decide) (by decide +kernel) rfl (by decide) rfl rfl ?_
  refine wp_aload_n (k := 0) dX0_init_13 0 rfl rfl ?_
  refine wp_bipush (v := nI 64) dX0_init_14 (by decide) rfl ?_
  refine st_newaI (N := 64) (n' := 21) dX0_init_16 rfl zsh_20 (by decide) (by decide) (by decide +kernel) rfl (by decide +kernel) (by decide +kernel) rfl ?_
  refine st_putRF (r' := 19) dX0_init_18 zf_RX0_15 rfl zsh_18 (by decide) (by decide +kernel) rfl (by decide) rfl rfl ?_
  refine wp_aload_n (k := 0) dX0_init_21 0 rfl rfl ?_
  refine wp_iconst (v := nI 0) dX0_init_22 (by decide) rfl ?_
  refine st_putI (i' := 138) dX0_init_23 zf_RX0_18 rfl zsh_18 (by decide) (by decide +kernel) rfl rfl ?_
  exact wp_return dX0_init_26 rfl ⟨rfl, rfl, rfl, rfl, rfl⟩ (by decide +kernel) (by decide +kernel)
theorem ctX0_21 : Sp yX0_init YX0_init 1 [.ref 21] (SS.take 22) (cqM 138) (cqL 0) (cqQ 20) 2 1664 (cqS 24 139 22 0) := by
  refine Sp.of (by decide +kernel) rfl (fun _ => rfl) (Nat.le_of_ble_eq_true rfl) ?_
  intro w G
  show WP w YX0_init (1, SS.take 22, 2, 1664) G _ 0 [(0, .ref 21)] [] (SS.take 22) (cqM 138) (cqL 0) (cqQ 20)
  refine wp_aload_n (k := 0) dX0_init_0 0 rfl rfl ?_
  refine wp_objInit dX0_init_1 zl_RX0_3 (by decide) (by decide) rfl ?_
  refine wp_aload_n (k := 0) dX0_init_4 0 rfl rfl ?_
  refine wp_sipush (v := nI 1600) dX0_init_5 (by decide) rfl ?_
  refine st_newaI (N := 1600) (n' := 23) dX0_init_8 rfl zsh_22 (by decide) (by decide) (by decide +kernel) rfl (by decide +kernel) (by decide +kernel) rfl ?_
  refine st_putRF (r' := 21) dX0_init_10 zf_RX0_9 rfl zsh_21 (by decide) (by decide +kernel) rfl (by decide) rfl rfl ?_
  refine wp_aload_n (k := 0) dX0_init_13 0 rfl rfl ?_
  refine wp_bipush (v := nI 64) dX0_init_14 (by decide) rfl ?_
  refine st_newaI (N := 64) (n' := 24) dX0_init_16 rfl zsh_23 (by decide) (by decide) (by decide +kernel) rfl (by decide +kernel) (by decide +kernel) rfl ?_
  refine st_putRF (r' := 22) dX0_init_18 zf_RX0_15 rfl zsh_21 (by decide) (by decide +kernel) rfl (by decide) rfl rfl ?_
  refine wp_aload_n (k := 0) dX0_init_21 0 rfl rfl ?_
  refine wp_iconst (v := nI 0) dX0_init_22 (by decide) rfl ?_
  refine st_putI (i' := 139) dX0_init_23 zf_RX0_18 rfl zsh_21 (by decide) (by decide +kernel) rfl rfl ?_
  exact wp_return dX0_init_26 rfl ⟨rfl, rfl, rfl, rfl, rfl⟩ (by decide +kernel) (by decide +kernel)
theorem ctX9_10 : Sp yX9_init YX9_init 2 [.ref 10] (SS.take 11) (cqM 131) (cqL 0) (cqQ 10) 13 3406 (cqS 24 139 23 0) := by
  refine Sp.of (by decide +kernel) rfl (fun _ => rfl) (Nat.le_of_ble_eq_true rfl) ?_
  intro w G
  show WP w YX9_init (2, SS.take 11, 13, 3406) G _ 0 [(0, .ref 10)] [] (SS.take 11) (cqM 131) (cqL 0) (cqQ 10)
  refine wp_aload_n (k := 0) dX9_init_0 0 rfl rfl ?_
  refine wp_objInit dX9_init_1 zl_RX9_3 (by decide) (by decide) rfl ?_
  refine wp_aload_n (k := 0) dX9_init_4 0 rfl rfl ?_
  refine wp_iconst (v := nI 0) dX9_init_5 (by decide) rfl ?_
  refine st_putI (i' := 132) dX9_init_6 zf_RX9_9 rfl zsh_10 (by decide) (by decide +kernel) rfl rfl ?_
  refine wp_aload_n (k := 0) dX9_init_9 0 rfl rfl ?_
  refine wp_iconst (v := nI 0) dX9_init_10 (by decide) rfl ?_
  refine st_putI (i' := 133) dX9_init_11 zf_RX9_15 rfl zsh_10 (by decide) (by decide +kernel) rfl rfl ?_
  refine wp_aload_n (k := 0) dX9_init_14 0 rfl rfl ?_
  refine wp_bipush (v := nI 8) dX9_init_15 (by decide) rfl ?_
  refine st_newaI (N := 8) (n' := 12) dX9_init_17 rfl zsh_11 (by decide) (by decide) (by decide +kernel) rfl (by decide +kernel) (by decide +kernel) rfl ?_
  refine st_putRF (r' := 11) dX9_init_19 zf_RX9_18 rfl zsh_10 (by decide) (by decide +kernel) rfl (by decide) rfl rfl ?_
  refine wp_aload_n (k := 0) dX9_init_22 0 rfl rfl ?_
  refine wp_bipush (v := nI 16) dX9_init_23 (by decide) rfl ?_
  refine st_newaI (N := 16) (n' := 13) dX9_init_25 rfl zsh_12 (by decide) (by decide) (by decide +kernel) rfl (by decide +kernel) (by decide +kernel) rfl ?_
  refine st_putRF (r' := 12) dX9_init_27 zf_RX9_22 rfl zsh_10 (by decide) (by decide +kernel) rfl (by decide) rfl rfl ?_
  refine wp_aload_n (k := 0) dX9_init_30 0 rfl rfl ?_
  refine wp_bipush (v := nI 16) dX9_init_31 (by decide) rfl ?_
  refine st_newaI (N := 16) (n' := 14) dX9_init_33 rfl zsh_13 (by decide) (by decide) (by decide +kernel) rfl (by decide +kernel) (by decide +kernel) rfl ?_
  refine st_putRF (r' := 13) dX9_init_35 zf_RX9_25 rfl zsh_10 (by decide) (by decide +kernel) rfl (by decide) rfl rfl ?_
  refine wp_aload_n (k := 0) dX9_init_38 0 rfl rfl ?_
  refine wp_bipush (v := nI 16) dX9_init_39 (by decide) rfl ?_
  refine st_newaI (N := 16) (n' := 15) dX9_init_41 rfl zsh_14 (by decide) (by decide) (by decide +kernel) rfl (by decide +kernel) (by decide +kernel) rfl ?_
  refine st_putRF (r' := 14) dX9_init_43 zf_RX9_28 rfl zsh_10 (by decide) (by decide +kernel) rfl (by decide) rfl rfl ?_
  refine wp_aload_n (k := 0) dX9_init_46 0 rfl rfl ?_
  refine wp_bipush (v := nI 8) dX9_init_47 (by decide) rfl ?_
  refine st_newaI (N := 8) (n' := 16) dX9_init_49 rfl zsh_15 (by decide) (by decide) (by decide +kernel) rfl (by decide +kernel) (by decide +kernel) rfl ?_
  refine st_putRF (r' := 15) dX9_init_51 zf_RX9_31 rfl zsh_10 (by decide) (by decide +kernel) rfl (by decide) rfl rfl ?_
  refine wp_aload_n (k := 0) dX9_init_54 0 rfl rfl ?_
  refine wp_iconst (v := nI 0) dX9_init_55 (by decide) rfl ?_
  refine st_putI (i' := 134) dX9_init_56 zf_RX9_34 rfl zsh_10 (by decide) (by decide +kernel) rfl rfl ?_
  refine wp_aload_n (k := 0) dX9_init_59 0 rfl rfl ?_
  refine wp_iconst (v := nI 4) dX9_init_60 (by decide) rfl ?_
  refine st_newaI (N := 4) (n' := 17) dX9_init_61 rfl zsh_16 (by decide) (by decide) (by decide +kernel) rfl (by decide +kernel) (by decide +kernel) rfl ?_
  refine st_putRF (r' := 16) dX9_init_63 zf_RX9_37 rfl zsh_10 (by decide) (by decide +kernel) rfl (by decide) rfl rfl ?_
  refine wp_aload_n (k := 0) dX9_init_66 0 rfl rfl ?_
  refine wp_iconst (v := nI 4) dX9_init_67 (by decide) rfl ?_
  refine st_newaI (N := 4) (n' := 18) dX9_init_68 rfl zsh_17 (by decide) (by decide) (by decide +kernel) rfl (by decide +kernel) (by decide +kernel) rfl ?_
  refine st_putRF (r' := 17) dX9_init_70 zf_RX9_40 rfl zsh_10 (by decide) (by decide +kernel) rfl (by decide) rfl rfl ?_
  refine wp_aload_n (k := 0) dX9_init_73 0 rfl rfl ?_
  refine wp_bipush (v := nI 100) dX9_init_74 (by decide) rfl ?_
  refine st_putI (i' := 135) dX9_init_76 zf_RX9_43 rfl zsh_10 (by decide) (by decide +kernel) rfl rfl ?_
  refine wp_aload_n (k := 0) dX9_init_79 0 rfl rfl ?_
  refine wp_iconst (v := nI 0) dX9_init_80 (by decide) rfl ?_
  refine st_putZ (i' := 136) dX9_init_81 zf_RX9_46 rfl (by decide) zsh_10 (by decide) (by decide +kernel) rfl rfl ?_
  refine wp_aload_n (k := 0) dX9_init_84 0 rfl rfl ?_
  refine wp_iconst (v := nI 0) dX9_init_85 (by decide) rfl ?_
  refine st_putZ (i' := 137) dX9_init_86 zf_RX9_50 rfl (by decide) zsh_10 (by decide) (by decide +kernel) rfl rfl ?_
  refine wp_aload_n (k := 0) dX9_init_89 0 rfl rfl ?_
  refine st_new (n' := 19) dX9_init_90 zn_RX9_53 zsh_18 (by decide) (by decide +kernel) rfl (by decide +kernel) (by decide +kernel) rfl ?_
  refine wp_dup dX9_init_93 rfl rfl ?_
  refine st_callI (as := []) (o := 18) ctX0_18 zm_X0_init zl_RX9_55 dX9_init_94 rfl (by decide) (by decide) (by decide +kernel) (by decide +kernel) rfl ?_
  refine st_putRF (r' := 20) dX9_init_97 zf_RX9_56 rfl zsh_10 (by decide) (by decide +kernel) rfl (by decide) rfl rfl ?_
  refine wp_aload_n (k := 0) dX9_init_100 0 rfl rfl ?_
  refine st_new (n' := 22) dX9_init_101 zn_RX9_53 zsh_21 (by decide) (by decide +kernel) rfl (by decide +kernel) (by decide +kernel) rfl ?_
  refine wp_dup dX9_init_104 rfl rfl ?_
  refine st_callI (as := []) (o := 21) ctX0_21 zm_X0_init zl_RX9_55 dX9_init_105 rfl (by decide) (by decide) (by decide +kernel) (by decide +kernel) rfl ?_
  refine st_putRF (r' := 23) dX9_init_108 zf_RX9_60 rfl zsh_10 (by decide) (by decide +kernel) rfl (by decide) rfl rfl ?_
  exact wp_return dX9_init_111 rfl ⟨rfl, rfl, rfl, rfl, rfl⟩ (by decide +kernel) (by decide +kernel)
theorem ctX0_32 : Sp yX0_init YX0_init 1 [.ref 32] (SS.take 33) (cqM 145) (cqL 0) (cqQ 31) 2 1664 (cqS 35 146 33 0) := by
  refine Sp.of (by decide +kernel) rfl (fun _ => rfl) (Nat.le_of_ble_eq_true rfl) ?_
  intro w G
  show WP w YX0_init (1, SS.take 33, 2, 1664) G _ 0 [(0, .ref 32)] [] (SS.take 33) (cqM 145) (cqL 0) (cqQ 31)
  refine wp_aload_n (k := 0) dX0_init_0 0 rfl rfl ?_
  refine wp_objInit dX0_init_1 zl_RX0_3 (by decide) (by decide) rfl ?_
  refine wp_aload_n (k := 0) dX0_init_4 0 rfl rfl ?_
  refine wp_sipush (v := nI 1600) dX0_init_5 (by decide) rfl ?_
  refine st_newaI (N := 1600) (n' := 34) dX0_init_8 rfl zsh_33 (by decide) (by decide) (by decide +kernel) rfl (by decide +kernel) (by decide +kernel) rfl ?_
  refine st_putRF (r' := 32) dX0_init_10 zf_RX0_9 rfl zsh_32 (by decide) (by decide +kernel) rfl (by decide) rfl rfl ?_
  refine wp_aload_n (k := 0) dX0_init_13 0 rfl rfl ?_
  refine wp_bipush (v := nI 64) dX0_init_14 (by decide) rfl ?_
  refine st_newaI (N := 64) (n' := 35) dX0_init_16 rfl zsh_34 (by decide) (by decide) (by decide +kernel) rfl (by decide +kernel) (by decide +kernel) rfl ?_
  refine st_putRF (r' := 33) dX0_init_18 zf_RX0_15 rfl zsh_32 (by decide) (by decide +kernel) rfl (by decide) rfl rfl ?_
  refine wp_aload_n (k := 0) dX0_init_21 0 rfl rfl ?_
  refine wp_iconst (v := nI 0) dX0_init_22 (by decide) rfl ?_
  refine st_putI (i' := 146) dX0_init_23 zf_RX0_18 rfl zsh_32 (by decide) (by decide +kernel) rfl rfl ?_
  exact wp_return dX0_init_26 rfl ⟨rfl, rfl, rfl, rfl, rfl⟩ (by decide +kernel) (by decide +kernel)
theorem ctX0_35 : Sp yX0_init YX0_init 1 [.ref 35] (SS.take 36) (cqM 146) (cqL 0) (cqQ 34) 2 1664 (cqS 38 147 36 0) := by
  refine Sp.of (by decide +kernel) rfl (fun _ => rfl) (Nat.le_of_ble_eq_true rfl) ?_
  intro w G
  show WP w YX0_init (1, SS.take 36, 2, 1664) G _ 0 [(0, .ref 35)] [] (SS.take 36) (cqM 146) (cqL 0) (cqQ 34)
  refine wp_aload_n (k := 0) dX0_init_0 0 rfl rfl ?_
  refine wp_objInit dX0_init_1 zl_RX0_3 (by decide) (by decide) rfl ?_
  refine wp_aload_n (k := 0) dX0_init_4 0 rfl rfl ?_
  refine wp_sipush (v := nI 1600) dX0_init_5 (by decide) rfl ?_
  refine st_newaI (N := 1600) (n' := 37) dX0_init_8 rfl zsh_36 (by decide) (by decide) (by decide +kernel) rfl (by decide +kernel) (by decide +kernel) rfl ?_
  refine st_putRF (r' := 35) dX0_init_10 zf_RX0_9 rfl zsh_35 (by decide) (by decide +kernel) rfl (by decide) rfl rfl ?_
  refine wp_aload_n (k := 0) dX0_init_13 0 rfl rfl ?_
  refine wp_bipush (v := nI 64) dX0_init_14 (by decide) rfl ?_
  refine st_newaI (N := 64) (n' := 38) dX0_init_16 rfl zsh_37 (by decide) (by decide) (by decide +kernel) rfl (by decide +kernel) (by decide +kernel) rfl ?_
  refine st_putRF (r' := 36) dX0_init_18 zf_RX0_15 rfl zsh_35 (by decide) (by decide +kernel) rfl (by decide) rfl rfl ?_
  refine wp_aload_n (k := 0) dX0_init_21 0 rfl rfl ?_
  refine wp_iconst (v := nI 0) dX0_init_22 (by decide) rfl ?_
  refine st_putI (i' := 147) dX0_init_23 zf_RX0_18 rfl zsh_35 (by decide) (by decide +kernel) rfl rfl ?_
  exact wp_return dX0_init_26 rfl ⟨rfl, rfl, rfl, rfl, rfl⟩ (by decide +kernel) (by decide +kernel)
theorem ctX9_24 : Sp yX9_init YX9_init 2 [.ref 24] (SS.take 25) (cqM 139) (cqL 0) (cqQ 24) 13 3406 (cqS 38 147 37 0) := by
  refine Sp.of (by decide +kernel) rfl (fun _ => rfl) (Nat.le_of_ble_eq_true rfl) ?_
  intro w G
  show WP w YX9_init (2, SS.take 25, 13, 3406) G _ 0 [(0, .ref 24)] [] (SS.take 25) (cqM 139) (cqL 0) (cqQ 24)
  refine wp_aload_n (k := 0) dX9_init_0 0 rfl rfl ?_
  refine wp_objInit dX9_init_1 zl_RX9_3 (by decide) (by decide) rfl ?_
  refine wp_aload_n (k := 0) dX9_init_4 0 rfl rfl ?_
  refine wp_iconst (v := nI 0) dX9_init_5 (by decide) rfl ?_
  refine st_putI (i' := 140) dX9_init_6 zf_RX9_9 rfl zsh_24 (by decide) (by decide +kernel) rfl rfl ?_
  refine wp_aload_n (k := 0) dX9_init_9 0 rfl rfl ?_
  refine wp_iconst (v := nI 0) dX9_init_10 (by decide) rfl ?_
  refine st_putI (i' := 141) dX9_init_11 zf_RX9_15 rfl zsh_24 (by decide) (by decide +kernel) rfl rfl ?_
  refine wp_aload_n (k := 0) dX9_init_14 0 rfl rfl ?_
  refine wp_bipush (v := nI 8) dX9_init_15 (by decide) rfl ?_
  refine st_newaI (N := 8) (n' := 26) dX9_init_17 rfl zsh_25 (by decide) (by decide) (by decide +kernel) rfl (by decide +kernel) (by decide +kernel) rfl ?_
  refine st_putRF (r' := 25) dX9_init_19 zf_RX9_18 rfl zsh_24 (by decide) (by decide +kernel) rfl (by decide) rfl rfl ?_
  refine wp_aload_n (k := 0) dX9_init_22 0 rfl rfl ?_
  refine wp_bipush (v := nI 16) dX9_init_23 (by decide) rfl ?_
  refine st_newaI (N := 16) (n' := 27) dX9_init_25 rfl zsh_26 (by decide) (by decide) (by decide +kernel) rfl (by decide +kernel) (by decide +kernel) rfl ?_
  refine st_putRF (r' := 26) dX9_init_27 zf_RX9_22 rfl zsh_24 (by decide) (by decide +kernel) rfl (by decide) rfl rfl ?_
  refine wp_aload_n (k := 0) dX9_init_30 0 rfl rfl ?_
  refine wp_bipush (v := nI 16) dX9_init_31 (by decide) rfl ?_
  refine st_newaI (N := 16) (n' := 28) dX9_init_33 rfl zsh_27 (by decide) (by decide) (by decide +kernel) rfl (by decide +kernel) (by decide +kernel) rfl ?_
  refine st_putRF (r' := 27) dX9_init_35 zf_RX9_25 rfl zsh_24 (by decide) (by decide +kernel) rfl (by decide) rfl rfl ?_
  refine wp_aload_n (k := 0) dX9_init_38 0 rfl rfl ?_
  refine wp_bipush (v := nI 16) dX9_init_39 (by decide) rfl ?_
  refine st_newaI (N := 16) (n' := 29) dX9_init_41 rfl zsh_28 (by decide) (by decide) (by decide +kernel) rfl (by decide +kernel) (by decide +kernel) rfl ?_
  refine st_putRF (r' := 28) dX9_init_43 zf_RX9_28 rfl zsh_24 (by decide) (by decide +kernel) rfl (by decide) rfl rfl ?_
  refine wp_aload_n (k := 0) dX9_init_46 0 rfl rfl ?_
  refine wp_bipush (v := nI 8) dX9_init_47 (by decide) rfl ?_
  refine st_newaI (N := 8) (n' := 30) dX9_init_49 rfl zsh_29 (by decide) (by decide) (by decide +kernel) rfl (by decide +kernel) (by decide +kernel) rfl ?_
  refine st_putRF (r' := 29) dX9_init_51 zf_RX9_31 rfl zsh_24 (by decide) (by decide +kernel) rfl (by decide) rfl rfl ?_
  refine wp_aload_n (k := 0) dX9_init_54 0 rfl rfl ?_
  refine wp_iconst (v := nI 0) dX9_init_55 (by decide) rfl ?_
  refine st_putI (i' := 142) dX9_init_56 zf_RX9_34 rfl zsh_24 (by decide) (by decide +kernel) rfl rfl ?_
  refine wp_aload_n (k := 0) dX9_init_59 0 rfl rfl ?_
  refine wp_iconst (v := nI 4) dX9_init_60 (by decide) rfl ?_
  refine st_newaI (N := 4) (n' := 31) dX9_init_61 rfl zsh_30 (by decide) (by decide) (by decide +kernel) rfl (by decide +kernel) (by decide +kernel) rfl ?_
  refine st_putRF (r' := 30) dX9_init_63 zf_RX9_37 rfl zsh_24 (by decide) (by decide +kernel) rfl (by decide) rfl rfl ?_
  refine wp_aload_n (k := 0) dX9_init_66 0 rfl rfl ?_
  refine wp_iconst (v := nI 4) dX9_init_67 (by decide) rfl ?_
  refine st_newaI (N := 4) (n' := 32) dX9_init_68 rfl zsh_31 (by decide) (by decide) (by decide +kernel) rfl (by decide +kernel) (by decide +kernel) rfl ?_
  refine st_putRF (r' := 31) dX9_init_70 zf_RX9_40 rfl zsh_24 (by decide) (by decide +kernel) rfl (by decide) rfl rfl ?_
  refine wp_aload_n (k := 0) dX9_init_73 0 rfl rfl ?_
  refine wp_bipush (v := nI 100) dX9_init_74 (by decide) rfl ?_
  refine st_putI (i' := 143) dX9_init_76 zf_RX9_43 rfl zsh_24 (by decide) (by decide +kernel) rfl rfl ?_
  refine wp_aload_n (k := 0) dX9_init_79 0 rfl rfl ?_
  refine wp_iconst (v := nI 0) dX9_init_80 (by decide) rfl ?_
  refine st_putZ (i' := 144) dX9_init_81 zf_RX9_46 rfl (by decide) zsh_24 (by decide) (by decide +kernel) rfl rfl ?_
  refine wp_aload_n (k := 0) dX9_init_84 0 rfl rfl ?_
  refine wp_iconst (v := nI 0) dX9_init_85 (by decide) rfl ?_
  refine st_putZ (i' := 145) dX9_init_86 zf_RX9_50 rfl (by decide) zsh_24 (by decide) (by decide +kernel) rfl rfl ?_
  refine wp_aload_n (k := 0) dX9_init_89 0 rfl rfl ?_
  refine st_new (n' := 33) dX9_init_90 zn_RX9_53 zsh_32 (by decide) (by decide +kernel) rfl (by decide +kernel) (by decide +kernel) rfl ?_
  refine wp_dup dX9_init_93 rfl rfl ?_
  refine st_callI (as := []) (o := 32) ctX0_32 zm_X0_init zl_RX9_55 dX9_init_94 rfl (by decide) (by decide) (by decide +kernel) (by decide +kernel) rfl ?_
  refine st_putRF (r' := 34) dX9_init_97 zf_RX9_56 rfl zsh_24 (by decide) (by decide +kernel) rfl (by decide) rfl rfl ?_
  refine wp_aload_n (k := 0) dX9_init_100 0 rfl rfl ?_
  refine st_new (n' := 36) dX9_init_101 zn_RX9_53 zsh_35 (by decide) (by decide +kernel) rfl (by decide +kernel) (by decide +kernel) rfl ?_
  refine wp_dup dX9_init_104 rfl rfl ?_
  refine st_callI (as := []) (o := 35) ctX0_35 zm_X0_init zl_RX9_55 dX9_init_105 rfl (by decide) (by decide) (by decide +kernel) (by decide +kernel) rfl ?_
  refine st_putRF (r' := 37) dX9_init_108 zf_RX9_60 rfl zsh_24 (by decide) (by decide +kernel) rfl (by decide) rfl rfl ?_
  exact wp_return dX9_init_111 rfl ⟨rfl, rfl, rfl, rfl, rfl⟩ (by decide +kernel) (by decide +kernel)
theorem ctX0_39 : Sp yX0_init YX0_init 1 [.ref 39] (SS.take 40) (cqM 147) (cqL 0) (cqQ 38) 2 1664 (cqS 42 148 40 0) := by
  refine Sp.of (by decide +kernel) rfl (fun _ => rfl) (Nat.le_of_ble_eq_true rfl) ?_
  intro w G
  show WP w YX0_init (1, SS.take 40, 2, 1664) G _ 0 [(0, .ref 39)] [] (SS.take 40) (cqM 147) (cqL 0) (cqQ 38)
  refine wp_aload_n (k := 0) dX0_init_0 0 rfl rfl ?_
  refine wp_objInit dX0_init_1 zl_RX0_3 (by decide) (by decide) rfl ?_
  refine wp_aload_n (k := 0) dX0_init_4 0 rfl rfl ?_
  refine wp_sipush (v := nI 1600) dX0_init_5 (by decide) rfl ?_
  refine st_newaI (N := 1600) (n' := 41) dX0_init_8 rfl zsh_40 (by decide) (by decide) (by decide +kernel) rfl (by decide +kernel) (by decide +kernel) rfl ?_
  refine st_putRF (r' := 39) dX0_init_10 zf_RX0_9 rfl zsh_39 (by decide) (by decide +kernel) rfl (by decide) rfl rfl ?_
  refine wp_aload_n (k := 0) dX0_init_13 0 rfl rfl ?_
  refine wp_bipush (v := nI 64) dX0_init_14 (by decide) rfl ?_
  refine st_newaI (N := 64) (n' := 42) dX0_init_16 rfl zsh_41 (by decide) (by decide) (by decide +kernel) rfl (by decide +kernel) (by decide +kernel) rfl ?_
  refine st_putRF (r' := 40) dX0_init_18 zf_RX0_15 rfl zsh_39 (by decide) (by decide +kernel) rfl (by decide) rfl rfl ?_
  refine wp_aload_n (k := 0) dX0_init_21 0 rfl rfl ?_
  refine wp_iconst (v := nI 0) dX0_init_22 (by decide) rfl ?_
  refine st_putI (i' := 148) dX0_init_23 zf_RX0_18 rfl zsh_39 (by decide) (by decide +kernel) rfl rfl ?_
  exact wp_return dX0_init_26 rfl ⟨rfl, rfl, rfl, rfl, rfl⟩ (by decide +kernel) (by decide +kernel)
theorem ctX5_38 : Sp yX5_init YX5_init 2 [.ref 38, .ref 2, .ref 9] (SS.take 39) (cqM 147) (cqL 0) (cqQ 38) 4 1676 (cqS 43 149 44 0) := by
  refine Sp.of (by decide +kernel) rfl (fun _ => rfl) (Nat.le_of_ble_eq_true rfl) ?_
  intro w G
  show WP w YX5_init (2, SS.take 39, 4, 1676) G _ 0 [(0, .ref 38), (1, .ref 2), (2, .ref 9)] [] (SS.take 39) (cqM 147) (cqL 0) (cqQ 38)
  refine wp_aload_n (k := 0) dX5_init_0 0 rfl rfl ?_
  refine wp_objInit dX5_init_1 zl_RX5_3 (by decide) (by decide) rfl ?_
  refine wp_aload_n (k := 0) dX5_init_4 0 rfl rfl ?_
  refine st_new (n' := 40) dX5_init_5 zn_RX5_9 zsh_39 (by decide) (by decide +kernel) rfl (by decide +kernel) (by decide +kernel) rfl ?_
  refine wp_dup dX5_init_8 rfl rfl ?_
  refine st_callI (as := []) (o := 39) ctX0_39 zm_X0_init zl_RX5_11 dX5_init_9 rfl (by decide) (by decide) (by decide +kernel) (by decide +kernel) rfl ?_
  refine st_putRF (r' := 41) dX5_init_12 zf_RX5_12 rfl zsh_38 (by decide) (by decide +kernel) rfl (by decide) rfl rfl ?_
  refine wp_aload_n (k := 0) dX5_init_15 0 rfl rfl ?_
  refine wp_bipush (v := nI 9) dX5_init_16 (by decide) rfl ?_
  refine st_newaI (N := 9) (n' := 43) dX5_init_18 rfl zsh_42 (by decide) (by decide) (by decide +kernel) rfl (by decide +kernel) (by decide +kernel) rfl ?_
  refine st_putRF (r' := 42) dX5_init_20 zf_RX5_18 rfl zsh_38 (by decide) (by decide +kernel) rfl (by decide) rfl rfl ?_
  refine wp_aload_n (k := 0) dX5_init_23 0 rfl rfl ?_
  refine wp_iconst (v := (-1)) dX5_init_24 (by decide) rfl ?_
  refine st_putI (i' := 149) dX5_init_25 zf_RX5_22 rfl zsh_38 (by decide) (by decide +kernel) rfl rfl ?_
  refine wp_aload_n (k := 0) dX5_init_28 0 rfl rfl ?_
  refine wp_aload_n (k := 1) dX5_init_29 1 rfl rfl ?_
  refine st_putRF (r' := 43) dX5_init_30 zf_RX5_26 rfl zsh_38 (by decide) (by decide +kernel) rfl (by decide) rfl rfl ?_
  refine wp_aload_n (k := 0) dX5_init_33 0 rfl rfl ?_
  refine wp_aload_n (k := 2) dX5_init_34 2 rfl rfl ?_
  refine st_putRF (r' := 44) dX5_init_35 zf_RX5_30 rfl zsh_38 (by decide) (by decide +kernel) rfl (by decide) rfl rfl ?_
  exact wp_return dX5_init_38 rfl ⟨rfl, rfl, rfl, rfl, rfl⟩ (by decide +kernel) (by decide +kernel)
theorem ctX7_43 : Sp yX7_init YX7_init 1 [.ref 43] (SS.take 44) (cqM 149) (cqL 0) (cqQ 45) 4 48 (cqS 48 153 49 0) := by
  refine Sp.of (by decide +kernel) rfl (fun _ => rfl) (Nat.le_of_ble_eq_true rfl) ?_
  intro w G
  show WP w YX7_init (1, SS.take 44, 4, 48) G _ 0 [(0, .ref 43)] [] (SS.take 44) (cqM 149) (cqL 0) (cqQ 45)
  refine wp_aload_n (k := 0) dX7_init_0 0 rfl rfl ?_
  refine wp_objInit dX7_init_1 zl_RX7_3 (by decide) (by decide) rfl ?_
  refine wp_aload_n (k := 0) dX7_init_4 0 rfl rfl ?_
  refine wp_iconst (v := nI 0) dX7_init_5 (by decide) rfl ?_
  refine st_putI (i' := 150) dX7_init_6 zf_RX7_9 rfl zsh_43 (by decide) (by decide +kernel) rfl rfl ?_
  refine wp_aload_n (k := 0) dX7_init_9 0 rfl rfl ?_
  refine wp_iconst (v := nI 0) dX7_init_10 (by decide) rfl ?_
  refine st_putI (i' := 151) dX7_init_11 zf_RX7_15 rfl zsh_43 (by decide) (by decide +kernel) rfl rfl ?_
  refine wp_aload_n (k := 0) dX7_init_14 0 rfl rfl ?_
  refine wp_iconst (v := nI 0) dX7_init_15 (by decide) rfl ?_
  refine st_putI (i' := 152) dX7_init_16 zf_RX7_18 rfl zsh_43 (by decide) (by decide +kernel) rfl rfl ?_
  refine wp_aload_n (k := 0) dX7_init_19 0 rfl rfl ?_
  refine wp_iconst (v := nI 0) dX7_init_20 (by decide) rfl ?_
  refine st_putI (i' := 153) dX7_init_21 zf_RX7_21 rfl zsh_43 (by decide) (by decide +kernel) rfl rfl ?_
  refine wp_aload_n (k := 0) dX7_init_24 0 rfl rfl ?_
  refine wp_bipush (v := nI 8) dX7_init_25 (by decide) rfl ?_
  refine st_newaI (N := 8) (n' := 45) dX7_init_27 rfl zsh_44 (by decide) (by decide) (by decide +kernel) rfl (by decide +kernel) (by decide +kernel) rfl ?_
  refine st_putRF (r' := 46) dX7_init_29 zf_RX7_24 rfl zsh_43 (by decide) (by decide +kernel) rfl (by decide) rfl rfl ?_
  refine wp_aload_n (k := 0) dX7_init_32 0 rfl rfl ?_
  refine wp_bipush (v := nI 8) dX7_init_33 (by decide) rfl ?_
  refine st_newaI (N := 8) (n' := 46) dX7_init_35 rfl zsh_45 (by decide) (by decide) (by decide +kernel) rfl (by decide +kernel) (by decide +kernel) rfl ?_
  refine st_putRF (r' := 47) dX7_init_37 zf_RX7_28 rfl zsh_43 (by decide) (by decide +kernel) rfl (by decide) rfl rfl ?_
  refine wp_aload_n (k := 0) dX7_init_40 0 rfl rfl ?_
  refine wp_bipush (v := nI 16) dX7_init_41 (by decide) rfl ?_
  refine st_newaI (N := 16) (n' := 47) dX7_init_43 rfl zsh_46 (by decide) (by decide) (by decide +kernel) rfl (by decide +kernel) (by decide +kernel) rfl ?_
  refine st_putRF (r' := 48) dX7_init_45 zf_RX7_31 rfl zsh_43 (by decide) (by decide +kernel) rfl (by decide) rfl rfl ?_
  refine wp_aload_n (k := 0) dX7_init_48 0 rfl rfl ?_
  refine wp_bipush (v := nI 16) dX7_init_49 (by decide) rfl ?_
  refine st_newaI (N := 16) (n' := 48) dX7_init_51 rfl zsh_47 (by decide) (by decide) (by decide +kernel) rfl (by decide +kernel) (by decide +kernel) rfl ?_
  refine st_putRF (r' := 49) dX7_init_53 zf_RX7_34 rfl zsh_43 (by decide) (by decide +kernel) rfl (by decide) rfl rfl ?_
  exact wp_return dX7_init_56 rfl ⟨rfl, rfl, rfl, rfl, rfl⟩ (by decide +kernel) (by decide +kernel)
theorem ctX7_50 : Sp yX7_init YX7_init 1 [.ref 50] (SS.take 51) (cqM 155) (cqL 0) (cqQ 51) 4 48 (cqS 55 159 55 0) := by
  refine Sp.of (by decide +kernel) rfl (fun _ => rfl) (Nat.le_of_ble_eq_true rfl) ?_
  intro w G
  show WP w YX7_init (1, SS.take 51, 4, 48) G _ 0 [(0, .ref 50)] [] (SS.take 51) (cqM 155) (cqL 0) (cqQ 51)
  refine wp_aload_n (k := 0) dX7_init_0 0 rfl rfl ?_
  refine wp_objInit dX7_init_1 zl_RX7_3 (by decide) (by decide) rfl ?_
  refine wp_aload_n (k := 0) dX7_init_4 0 rfl rfl ?_
  refine wp_iconst (v := nI 0) dX7_init_5 (by decide) rfl ?_
  refine st_putI (i' := 156) dX7_init_6 zf_RX7_9 rfl zsh_50 (by decide) (by decide +kernel) rfl rfl ?_
  refine wp_aload_n (k := 0) dX7_init_9 0 rfl rfl ?_
  refine wp_iconst (v := nI 0) dX7_init_10 (by decide) rfl ?_
  refine st_putI (i' := 157) dX7_init_11 zf_RX7_15 rfl zsh_50 (by decide) (by decide +kernel) rfl rfl ?_
  refine wp_aload_n (k := 0) dX7_init_14 0 rfl rfl ?_
  refine wp_iconst (v := nI 0) dX7_init_15 (by decide) rfl ?_
  refine st_putI (i' := 158) dX7_init_16 zf_RX7_18 rfl zsh_50 (by decide) (by decide +kernel) rfl rfl ?_
  refine wp_aload_n (k := 0) dX7_init_19 0 rfl rfl ?_
  refine wp_iconst (v := nI 0) dX7_init_20 (by decide) rfl ?_
  refine st_putI (i' := 159) dX7_init_21 zf_RX7_21 rfl zsh_50 (by decide) (by decide +kernel) rfl rfl ?_
  refine wp_aload_n (k := 0) dX7_init_24 0 rfl rfl ?_
  refine wp_bipush (v := nI 8) dX7_init_25 (by decide) rfl ?_
  refine st_newaI (N := 8) (n' := 52) dX7_init_27 rfl zsh_51 (by decide) (by decide) (by decide +kernel) rfl (by decide +kernel) (by decide +kernel) rfl ?_
  refine st_putRF (r' := 52) dX7_init_29 zf_RX7_24 rfl zsh_50 (by decide) (by decide +kernel) rfl (by decide) rfl rfl ?_
  refine wp_aload_n (k := 0) dX7_init_32 0 rfl rfl ?_
  refine wp_bipush (v := nI 8) dX7_init_33 (by decide) rfl ?_
  refine st_newaI (N := 8) (n' := 53) dX7_init_35 rfl zsh_52 (by decide) (by decide) (by decide +kernel) rfl (by decide +kernel) (by decide +kernel) rfl ?_
  refine st_putRF (r' := 53) dX7_init_37 zf_RX7_28 rfl zsh_50 (by decide) (by decide +kernel) rfl (by decide) rfl rfl ?_
  refine wp_aload_n (k := 0) dX7_init_40 0 rfl rfl ?_
  refine wp_bipush (v := nI 16) dX7_init_41 (by decide) rfl ?_
  refine st_newaI (N := 16) (n' := 54) dX7_init_43 rfl zsh_53 (by decide) (by decide) (by decide +kernel) rfl (by decide +kernel) (by decide +kernel) rfl ?_
  refine st_putRF (r' := 54) dX7_init_45 zf_RX7_31 rfl zsh_50 (by decide) (by decide +kernel) rfl (by decide) rfl rfl ?_
  refine wp_aload_n (k := 0) dX7_init_48 0 rfl rfl ?_
  refine wp_bipush (v := nI 16) dX7_init_49 (by decide) rfl ?_
  refine st_newaI (N := 16) (n' := 55) dX7_init_51 rfl zsh_54 (by decide) (by decide) (by decide +kernel) rfl (by decide +kernel) (by decide +kernel) rfl ?_
  refine st_putRF (r' := 55) dX7_init_53 zf_RX7_34 rfl zsh_50 (by decide) (by decide +kernel) rfl (by decide) rfl rfl ?_
  exact wp_return dX7_init_56 rfl ⟨rfl, rfl, rfl, rfl, rfl⟩ (by decide +kernel) (by decide +kernel)
theorem ctX7_55 : Sp yX7_init YX7_init 1 [.ref 55] (SS.take 56) (cqM 159) (cqL 0) (cqQ 56) 4 48 (cqS 60 163 60 0) := by
  refine Sp.of (by decide +kernel) rfl (fun _ => rfl) (Nat.le_of_ble_eq_true rfl) ?_
  intro w G
  show WP w YX7_init (1, SS.take 56, 4, 48) G _ 0 [(0, .ref 55)] [] (SS.take 56) (cqM 159) (cqL 0) (cqQ 56)
  refine wp_aload_n (k := 0) dX7_init_0 0 rfl rfl ?_
  refine wp_objInit dX7_init_1 zl_RX7_3 (by decide) (by decide) rfl ?_
  refine wp_aload_n (k := 0) dX7_init_4 0 rfl rfl ?_
  refine wp_iconst (v := nI 0) dX7_init_5 (by decide) rfl ?_
  refine st_putI (i' := 160) dX7_init_6 zf_RX7_9 rfl zsh_55 (by decide) (by decide +kernel) rfl rfl ?_
  refine wp_aload_n (k := 0) dX7_init_9 0 rfl rfl ?_
  refine wp_iconst (v := nI 0) dX7_init_10 (by decide) rfl ?_
  refine st_putI (i' := 161) dX7_init_11 zf_RX7_15 rfl zsh_55 (by decide) (by decide +kernel) rfl rfl ?_
  refine wp_aload_n (k := 0) dX7_init_14 0 rfl rfl ?_
  refine wp_iconst (v := nI 0) dX7_init_15 (by decide) rfl ?_
  refine st_putI (i' := 162) dX7_init_16 zf_RX7_18 rfl zsh_55 (by decide) (by decide +kernel) rfl rfl ?_
  refine wp_aload_n (k := 0) dX7_init_19 0 rfl rfl ?_
  refine wp_iconst (v := nI 0) dX7_init_20 (by decide) rfl ?_
  refine st_putI (i' := 163) dX7_init_21 zf_RX7_21 rfl zsh_55 (by decide) (by decide +kernel) rfl rfl ?_
  refine wp_aload_n (k := 0) dX7_init_24 0 rfl rfl ?_
  refine wp_bipush (v := nI 8) dX7_init_25 (by decide) rfl ?_
  refine st_newaI (N := 8) (n' := 57) dX7_init_27 rfl zsh_56 (by decide) (by decide) (by decide +kernel) rfl (by decide +kernel) (by decide +kernel) rfl ?_
  refine st_putRF (r' := 57) dX7_init_29 zf_RX7_24 rfl zsh_55 (by decide) (by decide +kernel) rfl (by decide) rfl rfl ?_
  refine wp_aload_n (k := 0) dX7_init_32 0 rfl rfl ?_
  refine wp_bipush (v := nI 8) dX7_init_33 (by decide) rfl ?_
  refine st_newaI (N := 8) (n' := 58) dX7_init_35 rfl zsh_57 (by decide) (by decide) (by decide +kernel) rfl (by decide +kernel) (by decide +kernel) rfl ?_
  refine st_putRF (r' := 58) dX7_init_37 zf_RX7_28 rfl zsh_55 (by decide) (by decide +kernel) rfl (by decide) rfl rfl ?_
  refine wp_aload_n (k := 0) dX7_init_40 0 rfl rfl ?_
  refine wp_bipush (v := nI 16) dX7_init_41 (by decide) rfl ?_
  refine st_newaI (N := 16) (n' := 59) dX7_init_43 rfl zsh_58 (by decide) (by decide) (by decide +kernel) rfl (by decide +kernel) (by decide +kernel) rfl ?_
  refine st_putRF (r' := 59) dX7_init_45 zf_RX7_31 rfl zsh_55 (by decide) (by decide +kernel) rfl (by decide) rfl rfl ?_
  refine wp_aload_n (k := 0) dX7_init_48 0 rfl rfl ?_
  refine wp_bipush (v := nI 16) dX7_init_49 (by decide) rfl ?_
  refine st_newaI (N := 16) (n' := 60) dX7_init_51 rfl zsh_59 (by decide) (by decide) (by decide +kernel) rfl (by decide +kernel) (by decide +kernel) rfl ?_
  refine st_putRF (r' := 60) dX7_init_53 zf_RX7_34 rfl zsh_55 (by decide) (by decide +kernel) rfl (by decide) rfl rfl ?_
  exact wp_return dX7_init_56 rfl ⟨rfl, rfl, rfl, rfl, rfl⟩ (by decide +kernel) (by decide +kernel)
theorem ctX7_60 : Sp yX7_init YX7_init 1 [.ref 60] (SS.take 61) (cqM 163) (cqL 0) (cqQ 61) 4 48 (cqS 65 167 65 0) := by
  refine Sp.of (by decide +kernel) rfl (fun _ => rfl) (Nat.le_of_ble_eq_true rfl) ?_
  intro w G
  show WP w YX7_init (1, SS.take 61, 4, 48) G _ 0 [(0, .ref 60)] [] (SS.take 61) (cqM 163) (cqL 0) (cqQ 61)
  refine wp_aload_n (k := 0) dX7_init_0 0 rfl rfl ?_
  refine wp_objInit dX7_init_1 zl_RX7_3 (by decide) (by decide) rfl ?_
  refine wp_aload_n (k := 0) dX7_init_4 0 rfl rfl ?_
  refine wp_iconst (v := nI 0) dX7_init_5 (by decide) rfl ?_
  refine st_putI (i' := 164) dX7_init_6 zf_RX7_9 rfl zsh_60 (by decide) (by decide +kernel) rfl rfl ?_
  refine wp_aload_n (k := 0) dX7_init_9 0 rfl rfl ?_
  refine wp_iconst (v := nI 0) dX7_init_10 (by decide) rfl ?_
  refine st_putI (i' := 165) dX7_init_11 zf_RX7_15 rfl zsh_60 (by decide) (by decide +kernel) rfl rfl ?_
  refine wp_aload_n (k := 0) dX7_init_14 0 rfl rfl ?_
  refine wp_iconst (v := nI 0) dX7_init_15 (by decide) rfl ?_
  refine st_putI (i' := 166) dX7_init_16 zf_RX7_18 rfl zsh_60 (by decide) (by decide +kernel) rfl rfl ?_
  refine wp_aload_n (k := 0) dX7_init_19 0 rfl rfl ?_
  refine wp_iconst (v := nI 0) dX7_init_20 (by decide) rfl ?_
  refine st_putI (i' := 167) dX7_init_21 zf_RX7_21 rfl zsh_60 (by decide) (by decide +kernel) rfl rfl ?_
  refine wp_aload_n (k := 0) dX7_init_24 0 rfl rfl ?_
  refine wp_bipush (v := nI 8) dX7_init_25 (by decide) rfl ?_
  refine st_newaI (N := 8) (n' := 62) dX7_init_27 rfl zsh_61 (by decide) (by decide) (by decide +kernel) rfl (by decide +kernel) (by decide +kernel) rfl ?_
  refine st_putRF (r' := 62) dX7_init_29 zf_RX7_24 rfl zsh_60 (by decide) (by decide +kernel) rfl (by decide) rfl rfl ?_
  refine wp_aload_n (k := 0) dX7_init_32 0 rfl rfl ?_
  refine wp_bipush (v := nI 8) dX7_init_33 (by decide) rfl ?_
  refine st_newaI (N := 8) (n' := 63) dX7_init_35 rfl zsh_62 (by decide) (by decide) (by decide +kernel) rfl (by decide +kernel) (by decide +kernel) rfl ?_
  refine st_putRF (r' := 63) dX7_init_37 zf_RX7_28 rfl zsh_60 (by decide) (by decide +kernel) rfl (by decide) rfl rfl ?_
  refine wp_aload_n (k := 0) dX7_init_40 0 rfl rfl ?_
  refine wp_bipush (v := nI 16) dX7_init_41 (by decide) rfl ?_
  refine st_newaI (N := 16) (n' := 64) dX7_init_43 rfl zsh_63 (by decide) (by decide) (by decide +kernel) rfl (by decide +kernel) (by decide +kernel) rfl ?_
  refine st_putRF (r' := 64) dX7_init_45 zf_RX7_31 rfl zsh_60 (by decide) (by decide +kernel) rfl (by decide) rfl rfl ?_
  refine wp_aload_n (k := 0) dX7_init_48 0 rfl rfl ?_
  refine wp_bipush (v := nI 16) dX7_init_49 (by decide) rfl ?_
  refine st_newaI (N := 16) (n' := 65) dX7_init_51 rfl zsh_64 (by decide) (by decide) (by decide +kernel) rfl (by decide +kernel) (by decide +kernel) rfl ?_
  refine st_putRF (r' := 65) dX7_init_53 zf_RX7_34 rfl zsh_60 (by decide) (by decide +kernel) rfl (by decide) rfl rfl ?_
  exact wp_return dX7_init_56 rfl ⟨rfl, rfl, rfl, rfl, rfl⟩ (by decide +kernel) (by decide +kernel)
theorem ctX7_65 : Sp yX7_init YX7_init 1 [.ref 65] (SS.take 66) (cqM 167) (cqL 0) (cqQ 66) 4 48 (cqS 70 171 70 0) := by
  refine Sp.of (by decide +kernel) rfl (fun _ => rfl) (Nat.le_of_ble_eq_true rfl) ?_
  intro w G
  show WP w YX7_init (1, SS.take 66, 4, 48) G _ 0 [(0, .ref 65)] [] (SS.take 66) (cqM 167) (cqL 0) (cqQ 66)
  refine wp_aload_n (k := 0) dX7_init_0 0 rfl rfl ?_
  refine wp_objInit dX7_init_1 zl_RX7_3 (by decide) (by decide) rfl ?_
  refine wp_aload_n (k := 0) dX7_init_4 0 rfl rfl ?_
  refine wp_iconst (v := nI 0) dX7_init_5 (by decide) rfl ?_
  refine st_putI (i' := 168) dX7_init_6 zf_RX7_9 rfl zsh_65 (by decide) (by decide +kernel) rfl rfl ?_
  refine wp_aload_n (k := 0) dX7_init_9 0 rfl rfl ?_
  refine wp_iconst (v := nI 0) dX7_init_10 (by decide) rfl ?_
  refine st_putI (i' := 169) dX7_init_11 zf_RX7_15 rfl zsh_65 (by decide) (by decide +kernel) rfl rfl ?_
  refine wp_aload_n (k := 0) dX7_init_14 0 rfl rfl ?_
  refine wp_iconst (v := nI 0) dX7_init_15 (by decide) rfl ?_
  refine st_putI (i' := 170) dX7_init_16 zf_RX7_18 rfl zsh_65 (by decide) (by decide +kernel) rfl rfl ?_
  refine wp_aload_n (k := 0) dX7_init_19 0 rfl rfl ?_
  refine wp_iconst (v := nI 0) dX7_init_20 (by decide) rfl ?_
  refine st_putI (i' := 171) dX7_init_21 zf_RX7_21 rfl zsh_65 (by decide) (by decide +kernel) rfl rfl ?_
  refine wp_aload_n (k := 0) dX7_init_24 0 rfl rfl ?_
  refine wp_bipush (v := nI 8) dX7_init_25 (by decide) rfl ?_
  refine st_newaI (N := 8) (n' := 67) dX7_init_27 rfl zsh_66 (by decide) (by decide) (by decide +kernel) rfl (by decide +kernel) (by decide +kernel) rfl ?_
  refine st_putRF (r' := 67) dX7_init_29 zf_RX7_24 rfl zsh_65 (by decide) (by decide +kernel) rfl (by decide) rfl rfl ?_
  refine wp_aload_n (k := 0) dX7_init_32 0 rfl rfl ?_
  refine wp_bipush (v := nI 8) dX7_init_33 (by decide) rfl ?_
  refine st_newaI (N := 8) (n' := 68) dX7_init_35 rfl zsh_67 (by decide) (by decide) (by decide +kernel) rfl (by decide +kernel) (by decide +kernel) rfl ?_
  refine st_putRF (r' := 68) dX7_init_37 zf_RX7_28 rfl zsh_65 (by decide) (by decide +kernel) rfl (by decide) rfl rfl ?_
  refine wp_aload_n (k := 0) dX7_init_40 0 rfl rfl ?_
  refine wp_bipush (v := nI 16) dX7_init_41 (by decide) rfl ?_
  refine st_newaI (N := 16) (n' := 69) dX7_init_43 rfl zsh_68 (by decide) (by decide) (by decide +kernel) rfl (by decide +kernel) (by decide +kernel) rfl ?_
  refine st_putRF (r' := 69) dX7_init_45 zf_RX7_31 rfl zsh_65 (by decide) (by decide +kernel) rfl (by decide) rfl rfl ?_
  refine wp_aload_n (k := 0) dX7_init_48 0 rfl rfl ?_
  refine wp_bipush (v := nI 16) dX7_init_49 (by decide) rfl ?_
  refine st_newaI (N := 16) (n' := 70) dX7_init_51 rfl zsh_69 (by decide) (by decide) (by decide +kernel) rfl (by decide +kernel) (by decide +kernel) rfl ?_
  refine st_putRF (r' := 70) dX7_init_53 zf_RX7_34 rfl zsh_65 (by decide) (by decide +kernel) rfl (by decide) rfl rfl ?_
  exact wp_return dX7_init_56 rfl ⟨rfl, rfl, rfl, rfl, rfl⟩ (by decide +kernel) (by decide +kernel)
theorem ctX7_70 : Sp yX7_init YX7_init 1 [.ref 70] (SS.take 71) (cqM 171) (cqL 0) (cqQ 71) 4 48 (cqS 75 175 75 0) := by
  refine Sp.of (by decide +kernel) rfl (fun _ => rfl) (Nat.le_of_ble_eq_true rfl) ?_
  intro w G
  show WP w YX7_init (1, SS.take 71, 4, 48) G _ 0 [(0, .ref 70)] [] (SS.take 71) (cqM 171) (cqL 0) (cqQ 71)
  refine wp_aload_n (k := 0) dX7_init_0 0 rfl rfl ?_
  refine wp_objInit dX7_init_1 zl_RX7_3 (by decide) (by decide) rfl ?_
  refine wp_aload_n (k := 0) dX7_init_4 0 rfl rfl ?_
  refine wp_iconst (v := nI 0) dX7_init_5 (by decide) rfl ?_
  refine st_putI (i' := 172) dX7_init_6 zf_RX7_9 rfl zsh_70 (by decide) (by decide +kernel) rfl rfl ?_
  refine wp_aload_n (k := 0) dX7_init_9 0 rfl rfl ?_
  refine wp_iconst (v := nI 0) dX7_init_10 (by decide) rfl ?_
  refine st_putI (i' := 173) dX7_init_11 zf_RX7_15 rfl zsh_70 (by decide) (by decide +kernel) rfl rfl ?_
  refine wp_aload_n (k := 0) dX7_init_14 0 rfl rfl ?_
  refine wp_iconst (v := nI 0) dX7_init_15 (by decide) rfl ?_
  refine st_putI (i' := 174) dX7_init_16 zf_RX7_18 rfl zsh_70 (by decide) (by decide +kernel) rfl rfl ?_
  refine wp_aload_n (k := 0) dX7_init_19 0 rfl rfl ?_
  refine wp_iconst (v := nI 0) dX7_init_20 (by decide) rfl ?_
  refine st_putI (i' := 175) dX7_init_21 zf_RX7_21 rfl zsh_70 (by decide) (by decide +kernel) rfl rfl ?_
  refine wp_aload_n (k := 0) dX7_init_24 0 rfl rfl ?_
  refine wp_bipush (v := nI 8) dX7_init_25 (by decide) rfl ?_
  refine st_newaI (N := 8) (n' := 72) dX7_init_27 rfl zsh_71 (by decide) (by decide) (by decide +kernel) rfl (by decide +kernel) (by decide +kernel) rfl ?_
  refine st_putRF (r' := 72) dX7_init_29 zf_RX7_24 rfl zsh_70 (by decide) (by decide +kernel) rfl (by decide) rfl rfl ?_
  refine wp_aload_n (k := 0) dX7_init_32 0 rfl rfl ?_
  refine wp_bipush (v := nI 8) dX7_init_33 (by decide) rfl ?_
  refine st_newaI (N := 8) (n' := 73) dX7_init_35 rfl zsh_72 (by decide) (by decide) (by decide +kernel) rfl (by decide +kernel) (by decide +kernel) rfl ?_
  refine st_putRF (r' := 73) dX7_init_37 zf_RX7_28 rfl zsh_70 (by decide) (by decide +kernel) rfl (by decide) rfl rfl ?_
  refine wp_aload_n (k := 0) dX7_init_40 0 rfl rfl ?_
  refine wp_bipush (v := nI 16) dX7_init_41 (by decide) rfl ?_
  refine st_newaI (N := 16) (n' := 74) dX7_init_43 rfl zsh_73 (by decide) (by decide) (by decide +kernel) rfl (by decide +kernel) (by decide +kernel) rfl ?_
  refine st_putRF (r' := 74) dX7_init_45 zf_RX7_31 rfl zsh_70 (by decide) (by decide +kernel) rfl (by decide) rfl rfl ?_
  refine wp_aload_n (k := 0) dX7_init_48 0 rfl rfl ?_
  refine wp_bipush (v := nI 16) dX7_init_49 (by decide) rfl ?_
  refine st_newaI (N := 16) (n' := 75) dX7_init_51 rfl zsh_74 (by decide) (by decide) (by decide +kernel) rfl (by decide +kernel) (by decide +kernel) rfl ?_
  refine st_putRF (r' := 75) dX7_init_53 zf_RX7_34 rfl zsh_70 (by decide) (by decide +kernel) rfl (by decide) rfl rfl ?_
  exact wp_return dX7_init_56 rfl ⟨rfl, rfl, rfl, rfl, rfl⟩ (by decide +kernel) (by decide +kernel)
theorem ctX7_75 : Sp yX7_init YX7_init 1 [.ref 75] (SS.take 76) (cqM 175) (cqL 0) (cqQ 76) 4 48 (cqS 80 179 80 0) := by
  refine Sp.of (by decide +kernel) rfl (fun _ => rfl) (Nat.le_of_ble_eq_true rfl) ?_
  intro w G
  show WP w YX7_init (1, SS.take 76, 4, 48) G _ 0 [(0, .ref 75)] [] (SS.take 76) (cqM 175) (cqL 0) (cqQ 76)
  refine wp_aload_n (k := 0) dX7_init_0 0 rfl rfl ?_
  refine wp_objInit dX7_init_1 zl_RX7_3 (by decide) (by decide) rfl ?_
  refine wp_aload_n (k := 0) dX7_init_4 0 rfl rfl ?_
  refine wp_iconst (v := nI 0) dX7_init_5 (by decide) rfl ?_
  refine st_putI (i' := 176) dX7_init_6 zf_RX7_9 rfl zsh_75 (by decide) (by decide +kernel) rfl rfl ?_
  refine wp_aload_n (k := 0) dX7_init_9 0 rfl rfl ?_
  refine wp_iconst (v := nI 0) dX7_init_10 (by decide) rfl ?_
  refine st_putI (i' := 177) dX7_init_11 zf_RX7_15 rfl zsh_75 (by decide) (by decide +kernel) rfl rfl ?_
  refine wp_aload_n (k := 0) dX7_init_14 0 rfl rfl ?_
  refine wp_iconst (v := nI 0) dX7_init_15 (by decide) rfl ?_
  refine st_putI (i' := 178) dX7_init_16 zf_RX7_18 rfl zsh_75 (by decide) (by decide +kernel) rfl rfl ?_
  refine wp_aload_n (k := 0) dX7_init_19 0 rfl rfl ?_
  refine wp_iconst (v := nI 0) dX7_init_20 (by decide) rfl ?_
  refine st_putI (i' := 179) dX7_init_21 zf_RX7_21 rfl zsh_75 (by decide) (by decide +kernel) rfl rfl ?_
  refine wp_aload_n (k := 0) dX7_init_24 0 rfl rfl ?_
  refine wp_bipush (v := nI 8) dX7_init_25 (by decide) rfl ?_
  refine st_newaI (N := 8) (n' := 77) dX7_init_27 rfl zsh_76 (by decide) (by decide) (by decide +kernel) rfl (by decide +kernel) (by decide +kernel) rfl ?_
  refine st_putRF (r' := 77) dX7_init_29 zf_RX7_24 rfl zsh_75 (by decide) (by decide +kernel) rfl (by decide) rfl rfl ?_
  refine wp_aload_n (k := 0) dX7_init_32 0 rfl rfl ?_
  refine wp_bipush (v := nI 8) dX7_init_33 (by decide) rfl ?_
  refine st_newaI (N := 8) (n' := 78) dX7_init_35 rfl zsh_77 (by decide) (by decide) (by decide +kernel) rfl (by decide +kernel) (by decide +kernel) rfl ?_
  refine st_putRF (r' := 78) dX7_init_37 zf_RX7_28 rfl zsh_75 (by decide) (by decide +kernel) rfl (by decide) rfl rfl ?_
  refine wp_aload_n (k := 0) dX7_init_40 0 rfl rfl ?_
  refine wp_bipush (v := nI 16) dX7_init_41 (by decide) rfl ?_
  refine st_newaI (N := 16) (n' := 79) dX7_init_43 rfl zsh_78 (by decide) (by decide) (by decide +kernel) rfl (by decide +kernel) (by decide +kernel) rfl ?_
  refine st_putRF (r' := 79) dX7_init_45 zf_RX7_31 rfl zsh_75 (by decide) (by decide +kernel) rfl (by decide) rfl rfl ?_
  refine wp_aload_n (k := 0) dX7_init_48 0 rfl rfl ?_
  refine wp_bipush (v := nI 16) dX7_init_49 (by decide) rfl ?_
  refine st_newaI (N := 16) (n' := 80) dX7_init_51 rfl zsh_79 (by decide) (by decide) (by decide +kernel) rfl (by decide +kernel) (by decide +kernel) rfl ?_
  refine st_putRF (r' := 80) dX7_init_53 zf_RX7_34 rfl zsh_75 (by decide) (by decide +kernel) rfl (by decide) rfl rfl ?_
  exact wp_return dX7_init_56 rfl ⟨rfl, rfl, rfl, rfl, rfl⟩ (by decide +kernel) (by decide +kernel)
theorem ctX7_80 : Sp yX7_init YX7_init 1 [.ref 80] (SS.take 81) (cqM 179) (cqL 0) (cqQ 81) 4 48 (cqS 85 183 85 0) := by
  refine Sp.of (by decide +kernel) rfl (fun _ => rfl) (Nat.le_of_ble_eq_true rfl) ?_
  intro w G
  show WP w YX7_init (1, SS.take 81, 4, 48) G _ 0 [(0, .ref 80)] [] (SS.take 81) (cqM 179) (cqL 0) (cqQ 81)
  refine wp_aload_n (k := 0) dX7_init_0 0 rfl rfl ?_
  refine wp_objInit dX7_init_1 zl_RX7_3 (by decide) (by decide) rfl ?_
  refine wp_aload_n (k := 0) dX7_init_4 0 rfl rfl ?_
  refine wp_iconst (v := nI 0) dX7_init_5 (by decide) rfl ?_
  refine st_putI (i' := 180) dX7_init_6 zf_RX7_9 rfl zsh_80 (by decide) (by decide +kernel) rfl rfl ?_
  refine wp_aload_n (k := 0) dX7_init_9 0 rfl rfl ?_
  refine wp_iconst (v := nI 0) dX7_init_10 (by decide) rfl ?_
  refine st_putI (i' := 181) dX7_init_11 zf_RX7_15 rfl zsh_80 (by decide) (by decide +kernel) rfl rfl ?_
  refine wp_aload_n (k := 0) dX7_init_14 0 rfl rfl ?_
  refine wp_iconst (v := nI 0) dX7_init_15 (by decide) rfl ?_
  refine st_putI (i' := 182) dX7_init_16 zf_RX7_18 rfl zsh_80 (by decide) (by decide +kernel) rfl rfl ?_
  refine wp_aload_n (k := 0) dX7_init_19 0 rfl rfl ?_
  refine wp_iconst (v := nI 0) dX7_init_20 (by decide) rfl ?_
  refine st_putI (i' := 183) dX7_init_21 zf_RX7_21 rfl zsh_80 (by decide) (by decide +kernel) rfl rfl ?_
  refine wp_aload_n (k := 0) dX7_init_24 0 rfl rfl ?_
  refine wp_bipush (v := nI 8) dX7_init_25 (by decide) rfl ?_
  refine st_newaI (N := 8) (n' := 82) dX7_init_27 rfl zsh_81 (by decide) (by decide) (by decide +kernel) rfl (by decide +kernel) (by decide +kernel) rfl ?_
  refine st_putRF (r' := 82) dX7_init_29 zf_RX7_24 rfl zsh_80 (by decide) (by decide +kernel) rfl (by decide) rfl rfl ?_
  refine wp_aload_n (k := 0) dX7_init_32 0 rfl rfl ?_
  refine wp_bipush (v := nI 8) dX7_init_33 (by decide) rfl ?_
  refine st_newaI (N := 8) (n' := 83) dX7_init_35 rfl zsh_82 (by decide) (by decide) (by decide +kernel) rfl (by decide +kernel) (by decide +kernel) rfl ?_
  refine st_putRF (r' := 83) dX7_init_37 zf_RX7_28 rfl zsh_80 (by decide) (by decide +kernel) rfl (by decide) rfl rfl ?_
  refine wp_aload_n (k := 0) dX7_init_40 0 rfl rfl ?_
  refine wp_bipush (v := nI 16) dX7_init_41 (by decide) rfl ?_
  refine st_newaI (N := 16) (n' := 84) dX7_init_43 rfl zsh_83 (by decide) (by decide) (by decide +kernel) rfl (by decide +kernel) (by decide +kernel) rfl ?_
  refine st_putRF (r' := 84) dX7_init_45 zf_RX7_31 rfl zsh_80 (by decide) (by decide +kernel) rfl (by decide) rfl rfl ?_
  refine wp_aload_n (k := 0) dX7_init_48 0 rfl rfl ?_
  refine wp_bipush (v := nI 16) dX7_init_49 (by decide) rfl ?_
  refine st_newaI (N := 16) (n' := 85) dX7_init_51 rfl zsh_84 (by decide) (by decide) (by decide +kernel) rfl (by decide +kernel) (by decide +kernel) rfl ?_
  refine st_putRF (r' := 85) dX7_init_53 zf_RX7_34 rfl zsh_80 (by decide) (by decide +kernel) rfl (by decide) rfl rfl ?_
  exact wp_return dX7_init_56 rfl ⟨rfl, rfl, rfl, rfl, rfl⟩ (by decide +kernel) (by decide +kernel)
theorem ctX7_85 : Sp yX7_init YX7_init 1 [.ref 85] (SS.take 86) (cqM 183) (cqL 0) (cqQ 86) 4 48 (cqS 90 187 90 0) := by
  refine Sp.of (by decide +kernel) rfl (fun _ => rfl) (Nat.le_of_ble_eq_true rfl) ?_
  intro w G
  show WP w YX7_init (1, SS.take 86, 4, 48) G _ 0 [(0, .ref 85)] [] (SS.take 86) (cqM 183) (cqL 0) (cqQ 86)
  refine wp_aload_n (k := 0) dX7_init_0 0 rfl rfl ?_
  refine wp_objInit dX7_init_1 zl_RX7_3 (by decide) (by decide) rfl ?_
  refine wp_aload_n (k := 0) dX7_init_4 0 rfl rfl ?_
  refine wp_iconst (v := nI 0) dX7_init_5 (by decide) rfl ?_
  refine st_putI (i' := 184) dX7_init_6 zf_RX7_9 rfl zsh_85 (by decide) (by decide +kernel) rfl rfl ?_
  refine wp_aload_n (k := 0) dX7_init_9 0 rfl rfl ?_
  refine wp_iconst (v := nI 0) dX7_init_10 (by decide) rfl ?_
  refine st_putI (i' := 185) dX7_init_11 zf_RX7_15 rfl zsh_85 (by decide) (by decide +kernel) rfl rfl ?_
  refine wp_aload_n (k := 0) dX7_init_14 0 rfl rfl ?_
  refine wp_iconst (v := nI 0) dX7_init_15 (by decide) rfl ?_
  refine st_putI (i' := 186) dX7_init_16 zf_RX7_18 rfl zsh_85 (by decide) (by decide +kernel) rfl rfl ?_
  refine wp_aload_n (k := 0) dX7_init_19 0 rfl rfl ?_
  refine wp_iconst (v := nI 0) dX7_init_20 (by decide) rfl ?_
  refine st_putI (i' := 187) dX7_init_21 zf_RX7_21 rfl zsh_85 (by decide) (by decide +kernel) rfl rfl ?_
  refine wp_aload_n (k := 0) dX7_init_24 0 rfl rfl ?_
  refine wp_bipush (v := nI 8) dX7_init_25 (by decide) rfl ?_
  refine st_newaI (N := 8) (n' := 87) dX7_init_27 rfl zsh_86 (by decide) (by decide) (by decide +kernel) rfl (by decide +kernel) (by decide +kernel) rfl ?_
  refine st_putRF (r' := 87) dX7_init_29 zf_RX7_24 rfl zsh_85 (by decide) (by decide +kernel) rfl (by decide) rfl rfl ?_
  refine wp_aload_n (k := 0) dX7_init_32 0 rfl rfl ?_
  refine wp_bipush (v := nI 8) dX7_init_33 (by decide) rfl ?_
  refine st_newaI (N := 8) (n' := 88) dX7_init_35 rfl zsh_87 (by decide) (by decide) (by decide +kernel) rfl (by decide +kernel) (by decide +kernel) rfl ?_
  refine st_putRF (r' := 88) dX7_init_37 zf_RX7_28 rfl zsh_85 (by decide) (by decide +kernel) rfl (by decide) rfl rfl ?_
  refine wp_aload_n (k := 0) dX7_init_40 0 rfl rfl ?_
  refine wp_bipush (v := nI 16) dX7_init_41 (by decide) rfl ?_
  refine st_newaI (N := 16) (n' := 89) dX7_init_43 rfl zsh_88 (by decide) (by decide) (by decide +kernel) rfl (by decide +kernel) (by decide +kernel) rfl ?_
  refine st_putRF (r' := 89) dX7_init_45 zf_RX7_31 rfl zsh_85 (by decide) (by decide +kernel) rfl (by decide) rfl rfl ?_
  refine wp_aload_n (k := 0) dX7_init_48 0 rfl rfl ?_
  refine wp_bipush (v := nI 16) dX7_init_49 (by decide) rfl ?_
  refine st_newaI (N := 16) (n' := 90) dX7_init_51 rfl zsh_89 (by decide) (by decide) (by decide +kernel) rfl (by decide +kernel) (by decide +kernel) rfl ?_
  refine st_putRF (r' := 90) dX7_init_53 zf_RX7_34 rfl zsh_85 (by decide) (by decide +kernel) rfl (by decide) rfl rfl ?_
  exact wp_return dX7_init_56 rfl ⟨rfl, rfl, rfl, rfl, rfl⟩ (by decide +kernel) (by decide +kernel)
theorem ctX7_90 : Sp yX7_init YX7_init 1 [.ref 90] (SS.take 91) (cqM 187) (cqL 0) (cqQ 91) 4 48 (cqS 95 191 95 0) := by
  refine Sp.of (by decide +kernel) rfl (fun _ => rfl) (Nat.le_of_ble_eq_true rfl) ?_
  intro w G
  show WP w YX7_init (1, SS.take 91, 4, 48) G _ 0 [(0, .ref 90)] [] (SS.take 91) (cqM 187) (cqL 0) (cqQ 91)
  refine wp_aload_n (k := 0) dX7_init_0 0 rfl rfl ?_
  refine wp_objInit dX7_init_1 zl_RX7_3 (by decide) (by decide) rfl ?_
  refine wp_aload_n (k := 0) dX7_init_4 0 rfl rfl ?_
  refine wp_iconst (v := nI 0) dX7_init_5 (by decide) rfl ?_
  refine st_putI (i' := 188) dX7_init_6 zf_RX7_9 rfl zsh_90 (by decide) (by decide +kernel) rfl rfl ?_
  refine wp_aload_n (k := 0) dX7_init_9 0 rfl rfl ?_
  refine wp_iconst (v := nI 0) dX7_init_10 (by decide) rfl ?_
  refine st_putI (i' := 189) dX7_init_11 zf_RX7_15 rfl zsh_90 (by decide) (by decide +kernel) rfl rfl ?_
  refine wp_aload_n (k := 0) dX7_init_14 0 rfl rfl ?_
  refine wp_iconst (v := nI 0) dX7_init_15 (by decide) rfl ?_
  refine st_putI (i' := 190) dX7_init_16 zf_RX7_18 rfl zsh_90 (by decide) (by decide +kernel) rfl rfl ?_
  refine wp_aload_n (k := 0) dX7_init_19 0 rfl rfl ?_
  refine wp_iconst (v := nI 0) dX7_init_20 (by decide) rfl ?_
  refine st_putI (i' := 191) dX7_init_21 zf_RX7_21 rfl zsh_90 (by decide) (by decide +kernel) rfl rfl ?_
  refine wp_aload_n (k := 0) dX7_init_24 0 rfl rfl ?_
  refine wp_bipush (v := nI 8) dX7_init_25 (by decide) rfl ?_
  refine st_newaI (N := 8) (n' := 92) dX7_init_27 rfl zsh_91 (by decide) (by decide) (by decide +kernel) rfl (by decide +kernel) (by decide +kernel) rfl ?_
  refine st_putRF (r' := 92) dX7_init_29 zf_RX7_24 rfl zsh_90 (by decide) (by decide +kernel) rfl (by decide) rfl rfl ?_
  refine wp_aload_n (k := 0) dX7_init_32 0 rfl rfl ?_
  refine wp_bipush (v := nI 8) dX7_init_33 (by decide) rfl ?_
  refine st_newaI (N := 8) (n' := 93) dX7_init_35 rfl zsh_92 (by decide) (by decide) (by decide +kernel) rfl (by decide +kernel) (by decide +kernel) rfl ?_
  refine st_putRF (r' := 93) dX7_init_37 zf_RX7_28 rfl zsh_90 (by decide) (by decide +kernel) rfl (by decide) rfl rfl ?_
  refine wp_aload_n (k := 0) dX7_init_40 0 rfl rfl ?_
  refine wp_bipush (v := nI 16) dX7_init_41 (by decide) rfl ?_
  refine st_newaI (N := 16) (n' := 94) dX7_init_43 rfl zsh_93 (by decide) (by decide) (by decide +kernel) rfl (by decide +kernel) (by decide +kernel) rfl ?_
  refine st_putRF (r' := 94) dX7_init_45 zf_RX7_31 rfl zsh_90 (by decide) (by decide +kernel) rfl (by decide) rfl rfl ?_
  refine wp_aload_n (k := 0) dX7_init_48 0 rfl rfl ?_
  refine wp_bipush (v := nI 16) dX7_init_49 (by decide) rfl ?_
  refine st_newaI (N := 16) (n' := 95) dX7_init_51 rfl zsh_94 (by decide) (by decide) (by decide +kernel) rfl (by decide +kernel) (by decide +kernel) rfl ?_
  refine st_putRF (r' := 95) dX7_init_53 zf_RX7_34 rfl zsh_90 (by decide) (by decide +kernel) rfl (by decide) rfl rfl ?_
  exact wp_return dX7_init_56 rfl ⟨rfl, rfl, rfl, rfl, rfl⟩ (by decide +kernel) (by decide +kernel)
theorem ctX7_95 : Sp yX7_init YX7_init 1 [.ref 95] (SS.take 96) (cqM 191) (cqL 0) (cqQ 96) 4 48 (cqS 100 195 100 0) := by
  refine Sp.of (by decide +kernel) rfl (fun _ => rfl) (Nat.le_of_ble_eq_true rfl) ?_
  intro w G
  show WP w YX7_init (1, SS.take 96, 4, 48) G _ 0 [(0, .ref 95)] [] (SS.take 96) (cqM 191) (cqL 0) (cqQ 96)
  refine wp_aload_n (k := 0) dX7_init_0 0 rfl rfl ?_
  refine wp_objInit dX7_init_1 zl_RX7_3 (by decide) (by decide) rfl ?_
  refine wp_aload_n (k := 0) dX7_init_4 0 rfl rfl ?_
  refine wp_iconst (v := nI 0) dX7_init_5 (by decide) rfl ?_
  refine st_putI (i' := 192) dX7_init_6 zf_RX7_9 rfl zsh_95 (by decide) (by decide +kernel) rfl rfl ?_
  refine wp_aload_n (k := 0) dX7_init_9 0 rfl rfl ?_
  refine wp_iconst (v := nI 0) dX7_init_10 (by decide) rfl ?_
  refine st_putI (i' := 193) dX7_init_11 zf_RX7_15 rfl zsh_95 (by decide) (by decide +kernel) rfl rfl ?_
  refine wp_aload_n (k := 0) dX7_init_14 0 rfl rfl ?_
  refine wp_iconst (v := nI 0) dX7_init_15 (by decide) rfl ?_
  refine st_putI (i' := 194) dX7_init_16 zf_RX7_18 rfl zsh_95 (by decide) (by decide +kernel) rfl rfl ?_
  refine wp_aload_n (k := 0) dX7_init_19 0 rfl rfl ?_
  refine wp_iconst (v := nI 0) dX7_init_20 (by decide) rfl ?_
  refine st_putI (i' := 195) dX7_init_21 zf_RX7_21 rfl zsh_95 (by decide) (by decide +kernel) rfl rfl ?_
  refine wp_aload_n (k := 0) dX7_init_24 0 rfl rfl ?_
  refine wp_bipush (v := nI 8) dX7_init_25 (by decide) rfl ?_
  refine st_newaI (N := 8) (n' := 97) dX7_init_27 rfl zsh_96 (by decide) (by decide) (by decide +kernel) rfl (by decide +kernel) (by decide +kernel) rfl ?_
  refine st_putRF (r' := 97) dX7_init_29 zf_RX7_24 rfl zsh_95 (by decide) (by decide +kernel) rfl (by decide) rfl rfl ?_
  refine wp_aload_n (k := 0) dX7_init_32 0 rfl rfl ?_
  refine wp_bipush (v := nI 8) dX7_init_33 (by decide) rfl ?_
  refine st_newaI (N := 8) (n' := 98) dX7_init_35 rfl zsh_97 (by decide) (by decide) (by decide +kernel) rfl (by decide +kernel) (by decide +kernel) rfl ?_
  refine st_putRF (r' := 98) dX7_init_37 zf_RX7_28 rfl zsh_95 (by decide) (by decide +kernel) rfl (by decide) rfl rfl ?_
  refine wp_aload_n (k := 0) dX7_init_40 0 rfl rfl ?_
  refine wp_bipush (v := nI 16) dX7_init_41 (by decide) rfl ?_
  refine st_newaI (N := 16) (n' := 99) dX7_init_43 rfl zsh_98 (by decide) (by decide) (by decide +kernel) rfl (by decide +kernel) (by decide +kernel) rfl ?_
  refine st_putRF (r' := 99) dX7_init_45 zf_RX7_31 rfl zsh_95 (by decide) (by decide +kernel) rfl (by decide) rfl rfl ?_
  refine wp_aload_n (k := 0) dX7_init_48 0 rfl rfl ?_
  refine wp_bipush (v := nI 16) dX7_init_49 (by decide) rfl ?_
  refine st_newaI (N := 16) (n' := 100) dX7_init_51 rfl zsh_99 (by decide) (by decide) (by decide +kernel) rfl (by decide +kernel) (by decide +kernel) rfl ?_
  refine st_putRF (r' := 100) dX7_init_53 zf_RX7_34 rfl zsh_95 (by decide) (by decide +kernel) rfl (by decide) rfl rfl ?_
  exact wp_return dX7_init_56 rfl ⟨rfl, rfl, rfl, rfl, rfl⟩ (by decide +kernel) (by decide +kernel)
theorem ctX7_100 : Sp yX7_init YX7_init 1 [.ref 100] (SS.take 101) (cqM 195) (cqL 0) (cqQ 101) 4 48 (cqS 105 199 105 0) := by
  refine Sp.of (by decide +kernel) rfl (fun _ => rfl) (Nat.le_of_ble_eq_true rfl) ?_
  intro w G
  show WP w YX7_init (1, SS.take 101, 4, 48) G _ 0 [(0, .ref 100)] [] (SS.take 101) (cqM 195) (cqL 0) (cqQ 101)
  refine wp_aload_n (k := 0) dX7_init_0 0 rfl rfl ?_
  refine wp_objInit dX7_init_1 zl_RX7_3 (by decide) (by decide) rfl ?_
  refine wp_aload_n (k := 0) dX7_init_4 0 rfl rfl ?_
  refine wp_iconst (v := nI 0) dX7_init_5 (by decide) rfl ?_
  refine st_putI (i' := 196) dX7_init_6 zf_RX7_9 rfl zsh_100 (by decide) (by decide +kernel) rfl rfl ?_
  refine wp_aload_n (k := 0) dX7_init_9 0 rfl rfl ?_
  refine wp_iconst (v := nI 0) dX7_init_10 (by decide) rfl ?_
  refine st_putI (i' := 197) dX7_init_11 zf_RX7_15 rfl zsh_100 (by decide) (by decide +kernel) rfl rfl ?_
  refine wp_aload_n (k := 0) dX7_init_14 0 rfl rfl ?_
  refine wp_iconst (v := nI 0) dX7_init_15 (by decide) rfl ?_
  refine st_putI (i' := 198) dX7_init_16 zf_RX7_18 rfl zsh_100 (by decide) (by decide +kernel) rfl rfl ?_
  refine wp_aload_n (k := 0) dX7_init_19 0 rfl rfl ?_
  refine wp_iconst (v := nI 0) dX7_init_20 (by decide) rfl ?_
  refine st_putI (i' := 199) dX7_init_21 zf_RX7_21 rfl zsh_100 (by decide) (by decide +kernel) rfl rfl ?_
  refine wp_aload_n (k := 0) dX7_init_24 0 rfl rfl ?_
  refine wp_bipush (v := nI 8) dX7_init_25 (by decide) rfl ?_
  refine st_newaI (N := 8) (n' := 102) dX7_init_27 rfl zsh_101 (by decide) (by decide) (by decide +kernel) rfl (by decide +kernel) (by decide +kernel) rfl ?_
  refine st_putRF (r' := 102) dX7_init_29 zf_RX7_24 rfl zsh_100 (by decide) (by decide +kernel) rfl (by decide) rfl rfl ?_
  refine wp_aload_n (k := 0) dX7_init_32 0 rfl rfl ?_
  refine wp_bipush (v := nI 8) dX7_init_33 (by decide) rfl ?_
  refine st_newaI (N := 8) (n' := 103) dX7_init_35 rfl zsh_102 (by decide) (by decide) (by decide +kernel) rfl (by decide +kernel) (by decide +kernel) rfl ?_
  refine st_putRF (r' := 103) dX7_init_37 zf_RX7_28 rfl zsh_100 (by decide) (by decide +kernel) rfl (by decide) rfl rfl ?_
  refine wp_aload_n (k := 0) dX7_init_40 0 rfl rfl ?_
  refine wp_bipush (v := nI 16) dX7_init_41 (by decide) rfl ?_
  refine st_newaI (N := 16) (n' := 104) dX7_init_43 rfl zsh_103 (by decide) (by decide) (by decide +kernel) rfl (by decide +kernel) (by decide +kernel) rfl ?_
  refine st_putRF (r' := 104) dX7_init_45 zf_RX7_31 rfl zsh_100 (by decide) (by decide +kernel) rfl (by decide) rfl rfl ?_
  refine wp_aload_n (k := 0) dX7_init_48 0 rfl rfl ?_
  refine wp_bipush (v := nI 16) dX7_init_49 (by decide) rfl ?_
  refine st_newaI (N := 16) (n' := 105) dX7_init_51 rfl zsh_104 (by decide) (by decide) (by decide +kernel) rfl (by decide +kernel) (by decide +kernel) rfl ?_
  refine st_putRF (r' := 105) dX7_init_53 zf_RX7_34 rfl zsh_100 (by decide) (by decide +kernel) rfl (by decide) rfl rfl ?_
  exact wp_return dX7_init_56 rfl ⟨rfl, rfl, rfl, rfl, rfl⟩ (by decide +kernel) (by decide +kernel)
theorem ctX7_105 : Sp yX7_init YX7_init 1 [.ref 105] (SS.take 106) (cqM 199) (cqL 0) (cqQ 106) 4 48 (cqS 110 203 110 0) := by
  refine Sp.of (by decide +kernel) rfl (fun _ => rfl) (Nat.le_of_ble_eq_true rfl) ?_
  intro w G
  show WP w YX7_init (1, SS.take 106, 4, 48) G _ 0 [(0, .ref 105)] [] (SS.take 106) (cqM 199) (cqL 0) (cqQ 106)
  refine wp_aload_n (k := 0) dX7_init_0 0 rfl rfl ?_
  refine wp_objInit dX7_init_1 zl_RX7_3 (by decide) (by decide) rfl ?_
  refine wp_aload_n (k := 0) dX7_init_4 0 rfl rfl ?_
  refine wp_iconst (v := nI 0) dX7_init_5 (by decide) rfl ?_
  refine st_putI (i' := 200) dX7_init_6 zf_RX7_9 rfl zsh_105 (by decide) (by decide +kernel) rfl rfl ?_
  refine wp_aload_n (k := 0) dX7_init_9 0 rfl rfl ?_
  refine wp_iconst (v := nI 0) dX7_init_10 (by decide) rfl ?_
  refine st_putI (i' := 201) dX7_init_11 zf_RX7_15 rfl zsh_105 (by decide) (by decide +kernel) rfl rfl ?_
  refine wp_aload_n (k := 0) dX7_init_14 0 rfl rfl ?_
  refine wp_iconst (v := nI 0) dX7_init_15 (by decide) rfl ?_
  refine st_putI (i' := 202) dX7_init_16 zf_RX7_18 rfl zsh_105 (by decide) (by decide +kernel) rfl rfl ?_
  refine wp_aload_n (k := 0) dX7_init_19 0 rfl rfl ?_
  refine wp_iconst (v := nI 0) dX7_init_20 (by decide) rfl ?_
  refine st_putI (i' := 203) dX7_init_21 zf_RX7_21 rfl zsh_105 (by decide) (by decide +kernel) rfl rfl ?_
  refine wp_aload_n (k := 0) dX7_init_24 0 rfl rfl ?_
  refine wp_bipush (v := nI 8) dX7_init_25 (by decide) rfl ?_
  refine st_newaI (N := 8) (n' := 107) dX7_init_27 rfl zsh_106 (by decide) (by decide) (by decide +kernel) rfl (by decide +kernel) (by decide +kernel) rfl ?_
  refine st_putRF (r' := 107) dX7_init_29 zf_RX7_24 rfl zsh_105 (by decide) (by decide +kernel) rfl (by decide) rfl rfl ?_
  refine wp_aload_n (k := 0) dX7_init_32 0 rfl rfl ?_
  refine wp_bipush (v := nI 8) dX7_init_33 (by decide) rfl ?_
  refine st_newaI (N := 8) (n' := 108) dX7_init_35 rfl zsh_107 (by decide) (by decide) (by decide +kernel) rfl (by decide +kernel) (by decide +kernel) rfl ?_
  refine st_putRF (r' := 108) dX7_init_37 zf_RX7_28 rfl zsh_105 (by decide) (by decide +kernel) rfl (by decide) rfl rfl ?_
  refine wp_aload_n (k := 0) dX7_init_40 0 rfl rfl ?_
  refine wp_bipush (v := nI 16) dX7_init_41 (by decide) rfl ?_
  refine st_newaI (N := 16) (n' := 109) dX7_init_43 rfl zsh_108 (by decide) (by decide) (by decide +kernel) rfl (by decide +kernel) (by decide +kernel) rfl ?_
  refine st_putRF (r' := 109) dX7_init_45 zf_RX7_31 rfl zsh_105 (by decide) (by decide +kernel) rfl (by decide) rfl rfl ?_
  refine wp_aload_n (k := 0) dX7_init_48 0 rfl rfl ?_
  refine wp_bipush (v := nI 16) dX7_init_49 (by decide) rfl ?_
  refine st_newaI (N := 16) (n' := 110) dX7_init_51 rfl zsh_109 (by decide) (by decide) (by decide +kernel) rfl (by decide +kernel) (by decide +kernel) rfl ?_
  refine st_putRF (r' := 110) dX7_init_53 zf_RX7_34 rfl zsh_105 (by decide) (by decide +kernel) rfl (by decide) rfl rfl ?_
  exact wp_return dX7_init_56 rfl ⟨rfl, rfl, rfl, rfl, rfl⟩ (by decide +kernel) (by decide +kernel)
theorem ctX7_110 : Sp yX7_init YX7_init 1 [.ref 110] (SS.take 111) (cqM 203) (cqL 0) (cqQ 111) 4 48 (cqS 115 207 115 0) := by
  refine Sp.of (by decide +kernel) rfl (fun _ => rfl) (Nat.le_of_ble_eq_true rfl) ?_
  intro w G
  show WP w YX7_init (1, SS.take 111, 4, 48) G _ 0 [(0, .ref 110)] [] (SS.take 111) (cqM 203) (cqL 0) (cqQ 111)
  refine wp_aload_n (k := 0) dX7_init_0 0 rfl rfl ?_
  refine wp_objInit dX7_init_1 zl_RX7_3 (by decide) (by decide) rfl ?_
  refine wp_aload_n (k := 0) dX7_init_4 0 rfl rfl ?_
  refine wp_iconst (v := nI 0) dX7_init_5 (by decide) rfl ?_
  refine st_putI (i' := 204) dX7_init_6 zf_RX7_9 rfl zsh_110 (by decide) (by decide +kernel) rfl rfl ?_
  refine wp_aload_n (k := 0) dX7_init_9 0 rfl rfl ?_
  refine wp_iconst (v := nI 0) dX7_init_10 (by decide) rfl ?_
  refine st_putI (i' := 205) dX7_init_11 zf_RX7_15 rfl zsh_110 (by decide) (by decide +kernel) rfl rfl ?_
  refine wp_aload_n (k := 0) dX7_init_14 0 rfl rfl ?_
  refine wp_iconst (v := nI 0) dX7_init_15 (by decide) rfl ?_
  refine st_putI (i' := 206) dX7_init_16 zf_RX7_18 rfl zsh_110 (by decide) (by decide +kernel) rfl rfl ?_
  refine wp_aload_n (k := 0) dX7_init_19 0 rfl rfl ?_
  refine wp_iconst (v := nI 0) dX7_init_20 (by decide) rfl ?_
  refine st_putI (i' := 207) dX7_init_21 zf_RX7_21 rfl zsh_110 (by decide) (by decide +kernel) rfl rfl ?_
  refine wp_aload_n (k := 0) dX7_init_24 0 rfl rfl ?_
  refine wp_bipush (v := nI 8) dX7_init_25 (by decide) rfl ?_
  refine st_newaI (N := 8) (n' := 112) dX7_init_27 rfl zsh_111 (by decide) (by decide) (by decide +kernel) rfl (by decide +kernel) (by decide +kernel) rfl ?_
  refine st_putRF (r' := 112) dX7_init_29 zf_RX7_24 rfl zsh_110 (by decide) (by decide +kernel) rfl (by decide) rfl rfl ?_
  refine wp_aload_n (k := 0) dX7_init_32 0 rfl rfl ?_
  refine wp_bipush (v := nI 8) dX7_init_33 (by decide) rfl ?_
  refine st_newaI (N := 8) (n' := 113) dX7_init_35 rfl zsh_112 (by decide) (by decide) (by decide +kernel) rfl (by decide +kernel) (by decide +kernel) rfl ?_
  refine st_putRF (r' := 113) dX7_init_37 zf_RX7_28 rfl zsh_110 (by decide) (by decide +kernel) rfl (by decide) rfl rfl ?_
  refine wp_aload_n (k := 0) dX7_init_40 0 rfl rfl ?_
  refine wp_bipush (v := nI 16) dX7_init_41 (by decide) rfl ?_
  refine st_newaI (N := 16) (n' := 114) dX7_init_43 rfl zsh_113 (by decide) (by decide) (by decide +kernel) rfl (by decide +kernel) (by decide +kernel) rfl ?_
  refine st_putRF (r' := 114) dX7_init_45 zf_RX7_31 rfl zsh_110 (by decide) (by decide +kernel) rfl (by decide) rfl rfl ?_
  refine wp_aload_n (k := 0) dX7_init_48 0 rfl rfl ?_
  refine wp_bipush (v := nI 16) dX7_init_49 (by decide) rfl ?_
  refine st_newaI (N := 16) (n' := 115) dX7_init_51 rfl zsh_114 (by decide) (by decide) (by decide +kernel) rfl (by decide +kernel) (by decide +kernel) rfl ?_
  refine st_putRF (r' := 115) dX7_init_53 zf_RX7_34 rfl zsh_110 (by decide) (by decide +kernel) rfl (by decide) rfl rfl ?_
  exact wp_return dX7_init_56 rfl ⟨rfl, rfl, rfl, rfl, rfl⟩ (by decide +kernel) (by decide +kernel)
theorem ctX7_115 : Sp yX7_init YX7_init 1 [.ref 115] (SS.take 116) (cqM 207) (cqL 0) (cqQ 116) 4 48 (cqS 120 211 120 0) := by
  refine Sp.of (by decide +kernel) rfl (fun _ => rfl) (Nat.le_of_ble_eq_true rfl) ?_
  intro w G
  show WP w YX7_init (1, SS.take 116, 4, 48) G _ 0 [(0, .ref 115)] [] (SS.take 116) (cqM 207) (cqL 0) (cqQ 116)
  refine wp_aload_n (k := 0) dX7_init_0 0 rfl rfl ?_
  refine wp_objInit dX7_init_1 zl_RX7_3 (by decide) (by decide) rfl ?_
  refine wp_aload_n (k := 0) dX7_init_4 0 rfl rfl ?_
  refine wp_iconst (v := nI 0) dX7_init_5 (by decide) rfl ?_
  refine st_putI (i' := 208) dX7_init_6 zf_RX7_9 rfl zsh_115 (by decide) (by decide +kernel) rfl rfl ?_
  refine wp_aload_n (k := 0) dX7_init_9 0 rfl rfl ?_
  refine wp_iconst (v := nI 0) dX7_init_10 (by decide) rfl ?_
  refine st_putI (i' := 209) dX7_init_11 zf_RX7_15 rfl zsh_115 (by decide) (by decide +kernel) rfl rfl ?_
  refine wp_aload_n (k := 0) dX7_init_14 0 rfl rfl ?_
  refine wp_iconst (v := nI 0) dX7_init_15 (by decide) rfl ?_
  refine st_putI (i' := 210) dX7_init_16 zf_RX7_18 rfl zsh_115 (by decide) (by decide +kernel) rfl rfl ?_
  refine wp_aload_n (k := 0) dX7_init_19 0 rfl rfl ?_
  refine wp_iconst (v := nI 0) dX7_init_20 (by decide) rfl ?_
  refine st_putI (i' := 211) dX7_init_21 zf_RX7_21 rfl zsh_115 (by decide) (by decide +kernel) rfl rfl ?_
  refine wp_aload_n (k := 0) dX7_init_24 0 rfl rfl ?_
  refine wp_bipush (v := nI 8) dX7_init_25 (by decide) rfl ?_
  refine st_newaI (N := 8) (n' := 117) dX7_init_27 rfl zsh_116 (by decide) (by decide) (by decide +kernel) rfl (by decide +kernel) (by decide +kernel) rfl ?_
  refine st_putRF (r' := 117) dX7_init_29 zf_RX7_24 rfl zsh_115 (by decide) (by decide +kernel) rfl (by decide) rfl rfl ?_
  refine wp_aload_n (k := 0) dX7_init_32 0 rfl rfl ?_
  refine wp_bipush (v := nI 8) dX7_init_33 (by decide) rfl ?_
  refine st_newaI (N := 8) (n' := 118) dX7_init_35 rfl zsh_117 (by decide) (by decide) (by decide +kernel) rfl (by decide +kernel) (by decide +kernel) rfl ?_
  refine st_putRF (r' := 118) dX7_init_37 zf_RX7_28 rfl zsh_115 (by decide) (by decide +kernel) rfl (by decide) rfl rfl ?_
  refine wp_aload_n (k := 0) dX7_init_40 0 rfl rfl ?_
  refine wp_bipush (v := nI 16) dX7_init_41 (by decide) rfl ?_
  refine st_newaI (N := 16) (n' := 119) dX7_init_43 rfl zsh_118 (by decide) (by decide) (by decide +kernel) rfl (by decide +kernel) (by decide +kernel) rfl ?_
  refine st_putRF (r' := 119) dX7_init_45 zf_RX7_31 rfl zsh_115 (by decide) (by decide +kernel) rfl (by decide) rfl rfl ?_
  refine wp_aload_n (k := 0) dX7_init_48 0 rfl rfl ?_
  refine wp_bipush (v := nI 16) dX7_init_49 (by decide) rfl ?_
  refine st_newaI (N := 16) (n' := 120) dX7_init_51 rfl zsh_119 (by decide) (by decide) (by decide +kernel) rfl (by decide +kernel) (by decide +kernel) rfl ?_
  refine st_putRF (r' := 120) dX7_init_53 zf_RX7_34 rfl zsh_115 (by decide) (by decide +kernel) rfl (by decide) rfl rfl ?_
  exact wp_return dX7_init_56 rfl ⟨rfl, rfl, rfl, rfl, rfl⟩ (by decide +kernel) (by decide +kernel)
theorem ctX7_120 : Sp yX7_init YX7_init 1 [.ref 120] (SS.take 121) (cqM 211) (cqL 0) (cqQ 121) 4 48 (cqS 125 215 125 0) := by
  refine Sp.of (by decide +kernel) rfl (fun _ => rfl) (Nat.le_of_ble_eq_true rfl) ?_
  intro w G
  show WP w YX7_init (1, SS.take 121, 4, 48) G _ 0 [(0, .ref 120)] [] (SS.take 121) (cqM 211) (cqL 0) (cqQ 121)
  refine wp_aload_n (k := 0) dX7_init_0 0 rfl rfl ?_
  refine wp_objInit dX7_init_1 zl_RX7_3 (by decide) (by decide) rfl ?_
  refine wp_aload_n (k := 0) dX7_init_4 0 rfl rfl ?_
  refine wp_iconst (v := nI 0) dX7_init_5 (by decide) rfl ?_
  refine st_putI (i' := 212) dX7_init_6 zf_RX7_9 rfl zsh_120 (by decide) (by decide +kernel) rfl rfl ?_
  refine wp_aload_n (k := 0) dX7_init_9 0 rfl rfl ?_
  refine wp_iconst (v := nI 0) dX7_init_10 (by decide) rfl ?_
  refine st_putI (i' := 213) dX7_init_11 zf_RX7_15 rfl zsh_120 (by decide) (by decide +kernel) rfl rfl ?_
  refine wp_aload_n (k := 0) dX7_init_14 0 rfl rfl ?_
  refine wp_iconst (v := nI 0) dX7_init_15 (by decide) rfl ?_
  refine st_putI (i' := 214) dX7_init_16 zf_RX7_18 rfl zsh_120 (by decide) (by decide +kernel) rfl rfl ?_
  refine wp_aload_n (k := 0) dX7_init_19 0 rfl rfl ?_
  refine wp_iconst (v := nI 0) dX7_init_20 (by decide) rfl ?_
  refine st_putI (i' := 215) dX7_init_21 zf_RX7_21 rfl zsh_120 (by decide) (by decide +kernel) rfl rfl ?_
  refine wp_aload_n (k := 0) dX7_init_24 0 rfl rfl ?_
  refine wp_bipush (v := nI 8) dX7_init_25 (by decide) rfl ?_
  refine st_newaI (N := 8) (n' := 122) dX7_init_27 rfl zsh_121 (by decide) (by decide) (by decide +kernel) rfl (by decide +kernel) (by decide +kernel) rfl ?_
  refine st_putRF (r' := 122) dX7_init_29 zf_RX7_24 rfl zsh_120 (by decide) (by decide +kernel) rfl (by decide) rfl rfl ?_
  refine wp_aload_n (k := 0) dX7_init_32 0 rfl rfl ?_
  refine wp_bipush (v := nI 8) dX7_init_33 (by decide) rfl ?_
  refine st_newaI (N := 8) (n' := 123) dX7_init_35 rfl zsh_122 (by decide) (by decide) (by decide +kernel) rfl (by decide +kernel) (by decide +kernel) rfl ?_
  refine st_putRF (r' := 123) dX7_init_37 zf_RX7_28 rfl zsh_120 (by decide) (by decide +kernel) rfl (by decide) rfl rfl ?_
  refine wp_aload_n (k := 0) dX7_init_40 0 rfl rfl ?_
  refine wp_bipush (v := nI 16) dX7_init_41 (by decide) rfl ?_
  refine st_newaI (N := 16) (n' := 124) dX7_init_43 rfl zsh_123 (by decide) (by decide) (by decide +kernel) rfl (by decide +kernel) (by decide +kernel) rfl ?_
  refine st_putRF (r' := 124) dX7_init_45 zf_RX7_31 rfl zsh_120 (by decide) (by decide +kernel) rfl (by decide) rfl rfl ?_
  refine wp_aload_n (k := 0) dX7_init_48 0 rfl rfl ?_
  refine wp_bipush (v := nI 16) dX7_init_49 (by decide) rfl ?_
  refine st_newaI (N := 16) (n' := 125) dX7_init_51 rfl zsh_124 (by decide) (by decide) (by decide +kernel) rfl (by decide +kernel) (by decide +kernel) rfl ?_
  refine st_putRF (r' := 125) dX7_init_53 zf_RX7_34 rfl zsh_120 (by decide) (by decide +kernel) rfl (by decide) rfl rfl ?_
  exact wp_return dX7_init_56 rfl ⟨rfl, rfl, rfl, rfl, rfl⟩ (by decide +kernel) (by decide +kernel)
theorem ctX7_125 : Sp yX7_init YX7_init 1 [.ref 125] (SS.take 126) (cqM 215) (cqL 0) (cqQ 126) 4 48 (cqS 130 219 130 0) := by
  refine Sp.of (by decide +kernel) rfl (fun _ => rfl) (Nat.le_of_ble_eq_true rfl) ?_
  intro w G
  show WP w YX7_init (1, SS.take 126, 4, 48) G _ 0 [(0, .ref 125)] [] (SS.take 126) (cqM 215) (cqL 0) (cqQ 126)
  refine wp_aload_n (k := 0) dX7_init_0 0 rfl rfl ?_
  refine wp_objInit dX7_init_1 zl_RX7_3 (by decide) (by decide) rfl ?_
  refine wp_aload_n (k := 0) dX7_init_4 0 rfl rfl ?_
  refine wp_iconst (v := nI 0) dX7_init_5 (by decide) rfl ?_
  refine st_putI (i' := 216) dX7_init_6 zf_RX7_9 rfl zsh_125 (by decide) (by decide +kernel) rfl rfl ?_
  refine wp_aload_n (k := 0) dX7_init_9 0 rfl rfl ?_
  refine wp_iconst (v := nI 0) dX7_init_10 (by decide) rfl ?_
  refine st_putI (i' := 217) dX7_init_11 zf_RX7_15 rfl zsh_125 (by decide) (by decide +kernel) rfl rfl ?_
  refine wp_aload_n (k := 0) dX7_init_14 0 rfl rfl ?_
  refine wp_iconst (v := nI 0) dX7_init_15 (by decide) rfl ?_
  refine st_putI (i' := 218) dX7_init_16 zf_RX7_18 rfl zsh_125 (by decide) (by decide +kernel) rfl rfl ?_
  refine wp_aload_n (k := 0) dX7_init_19 0 rfl rfl ?_
  refine wp_iconst (v := nI 0) dX7_init_20 (by decide) rfl ?_
  refine st_putI (i' := 219) dX7_init_21 zf_RX7_21 rfl zsh_125 (by decide) (by decide +kernel) rfl rfl ?_
  refine wp_aload_n (k := 0) dX7_init_24 0 rfl rfl ?_
  refine wp_bipush (v := nI 8) dX7_init_25 (by decide) rfl ?_
  refine st_newaI (N := 8) (n' := 127) dX7_init_27 rfl zsh_126 (by decide) (by decide) (by decide +kernel) rfl (by decide +kernel) (by decide +kernel) rfl ?_
  refine st_putRF (r' := 127) dX7_init_29 zf_RX7_24 rfl zsh_125 (by decide) (by decide +kernel) rfl (by decide) rfl rfl ?_
  refine wp_aload_n (k := 0) dX7_init_32 0 rfl rfl ?_
  refine wp_bipush (v := nI 8) dX7_init_33 (by decide) rfl ?_
  refine st_newaI (N := 8) (n' := 128) dX7_init_35 rfl zsh_127 (by decide) (by decide) (by decide +kernel) rfl (by decide +kernel) (by decide +kernel) rfl ?_
  refine st_putRF (r' := 128) dX7_init_37 zf_RX7_28 rfl zsh_125 (by decide) (by decide +kernel) rfl (by decide) rfl rfl ?_
  refine wp_aload_n (k := 0) dX7_init_40 0 rfl rfl ?_
  refine wp_bipush (v := nI 16) dX7_init_41 (by decide) rfl ?_
  refine st_newaI (N := 16) (n' := 129) dX7_init_43 rfl zsh_128 (by decide) (by decide) (by decide +kernel) rfl (by decide +kernel) (by decide +kernel) rfl ?_
  refine st_putRF (r' := 129) dX7_init_45 zf_RX7_31 rfl zsh_125 (by decide) (by decide +kernel) rfl (by decide) rfl rfl ?_
  refine wp_aload_n (k := 0) dX7_init_48 0 rfl rfl ?_
  refine wp_bipush (v := nI 16) dX7_init_49 (by decide) rfl ?_
  refine st_newaI (N := 16) (n' := 130) dX7_init_51 rfl zsh_129 (by decide) (by decide) (by decide +kernel) rfl (by decide +kernel) (by decide +kernel) rfl ?_
  refine st_putRF (r' := 130) dX7_init_53 zf_RX7_34 rfl zsh_125 (by decide) (by decide +kernel) rfl (by decide) rfl rfl ?_
  exact wp_return dX7_init_56 rfl ⟨rfl, rfl, rfl, rfl, rfl⟩ (by decide +kernel) (by decide +kernel)
theorem ctX7_130 : Sp yX7_init YX7_init 1 [.ref 130] (SS.take 131) (cqM 219) (cqL 0) (cqQ 131) 4 48 (cqS 135 223 135 0) := by
  refine Sp.of (by decide +kernel) rfl (fun _ => rfl) (Nat.le_of_ble_eq_true rfl) ?_
  intro w G
  show WP w YX7_init (1, SS.take 131, 4, 48) G _ 0 [(0, .ref 130)] [] (SS.take 131) (cqM 219) (cqL 0) (cqQ 131)
  refine wp_aload_n (k := 0) dX7_init_0 0 rfl rfl ?_
  refine wp_objInit dX7_init_1 zl_RX7_3 (by decide) (by decide) rfl ?_
  refine wp_aload_n (k := 0) dX7_init_4 0 rfl rfl ?_
  refine wp_iconst (v := nI 0) dX7_init_5 (by decide) rfl ?_
  refine st_putI (i' := 220) dX7_init_6 zf_RX7_9 rfl zsh_130 (by decide) (by decide +kernel) rfl rfl ?_
  refine wp_aload_n (k := 0) dX7_init_9 0 rfl rfl ?_
  refine wp_iconst (v := nI 0) dX7_init_10 (by decide) rfl ?_
  refine st_putI (i' := 221) dX7_init_11 zf_RX7_15 rfl zsh_130 (by decide) (by decide +kernel) rfl rfl ?_
  refine wp_aload_n (k := 0) dX7_init_14 0 rfl rfl ?_
  refine wp_iconst (v := nI 0) dX7_init_15 (by decide) rfl ?_
  refine st_putI (i' := 222) dX7_init_16 zf_RX7_18 rfl zsh_130 (by decide) (by decide +kernel) rfl rfl ?_
  refine wp_aload_n (k := 0) dX7_init_19 0 rfl rfl ?_
  refine wp_iconst (v := nI 0) dX7_init_20 (by decide) rfl ?_
  refine st_putI (i' := 223) dX7_init_21 zf_RX7_21 rfl zsh_130 (by decide) (by decide +kernel) rfl rfl ?_
  refine wp_aload_n (k := 0) dX7_init_24 0 rfl rfl ?_
  refine wp_bipush (v := nI 8) dX7_init_25 (by decide) rfl ?_
  refine st_newaI (N := 8) (n' := 132) dX7_init_27 rfl zsh_131 (by decide) (by decide) (by decide +kernel) rfl (by decide +kernel) (by decide +kernel) rfl ?_
  refine st_putRF (r' := 132) dX7_init_29 zf_RX7_24 rfl zsh_130 (by decide) (by decide +kernel) rfl (by decide) rfl rfl ?_
  refine wp_aload_n (k := 0) dX7_init_32 0 rfl rfl ?_
  refine wp_bipush (v := nI 8) dX7_init_33 (by decide) rfl ?_
  refine st_newaI (N := 8) (n' := 133) dX7_init_35 rfl zsh_132 (by decide) (by decide) (by decide +kernel) rfl (by decide +kernel) (by decide +kernel) rfl ?_
  refine st_putRF (r' := 133) dX7_init_37 zf_RX7_28 rfl zsh_130 (by decide) (by decide +kernel) rfl (by decide) rfl rfl ?_
  refine wp_aload_n (k := 0) dX7_init_40 0 rfl rfl ?_
  refine wp_bipush (v := nI 16) dX7_init_41 (by decide) rfl ?_
  refine st_newaI (N := 16) (n' := 134) dX7_init_43 rfl zsh_133 (by decide) (by decide) (by decide +kernel) rfl (by decide +kernel) (by decide +kernel) rfl ?_
  refine st_putRF (r' := 134) dX7_init_45 zf_RX7_31 rfl zsh_130 (by decide) (by decide +kernel) rfl (by decide) rfl rfl ?_
  refine wp_aload_n (k := 0) dX7_init_48 0 rfl rfl ?_
  refine wp_bipush (v := nI 16) dX7_init_49 (by decide) rfl ?_
  refine st_newaI (N := 16) (n' := 135) dX7_init_51 rfl zsh_134 (by decide) (by decide) (by decide +kernel) rfl (by decide +kernel) (by decide +kernel) rfl ?_
  refine st_putRF (r' := 135) dX7_init_53 zf_RX7_34 rfl zsh_130 (by decide) (by decide +kernel) rfl (by decide) rfl rfl ?_
  exact wp_return dX7_init_56 rfl ⟨rfl, rfl, rfl, rfl, rfl⟩ (by decide +kernel) (by decide +kernel)
theorem ctX7_135 : Sp yX7_init YX7_init 1 [.ref 135] (SS.take 136) (cqM 223) (cqL 0) (cqQ 136) 4 48 (cqS 140 227 140 0) := by
  refine Sp.of (by decide +kernel) rfl (fun _ => rfl) (Nat.le_of_ble_eq_true rfl) ?_
  intro w G
  show WP w YX7_init (1, SS.take 136, 4, 48) G _ 0 [(0, .ref 135)] [] (SS.take 136) (cqM 223) (cqL 0) (cqQ 136)
  refine wp_aload_n (k := 0) dX7_init_0 0 rfl rfl ?_
  refine wp_objInit dX7_init_1 zl_RX7_3 (by decide) (by decide) rfl ?_
  refine wp_aload_n (k := 0) dX7_init_4 0 rfl rfl ?_
  refine wp_iconst (v := nI 0) dX7_init_5 (by decide) rfl ?_
  refine st_putI (i' := 224) dX7_init_6 zf_RX7_9 rfl zsh_135 (by decide) (by decide +kernel) rfl rfl ?_
  refine wp_aload_n (k := 0) dX7_init_9 0 rfl rfl ?_
  refine wp_iconst (v := nI 0) dX7_init_10 (by decide) rfl ?_
  refine st_putI (i' := 225) dX7_init_11 zf_RX7_15 rfl zsh_135 (by decide) (by decide +kernel) rfl rfl ?_
  refine wp_aload_n (k := 0) dX7_init_14 0 rfl rfl ?_
  refine wp_iconst (v := nI 0) dX7_init_15 (by decide) rfl ?_
  refine st_putI (i' := 226) dX7_init_16 zf_RX7_18 rfl zsh_135 (by decide) (by decide +kernel) rfl rfl ?_
  refine wp_aload_n (k := 0) dX7_init_19 0 rfl rfl ?_
  refine wp_iconst (v := nI 0) dX7_init_20 (by decide) rfl ?_
  refine st_putI (i' := 227) dX7_init_21 zf_RX7_21 rfl zsh_135 (by decide) (by decide +kernel) rfl rfl ?_
  refine wp_aload_n (k := 0) dX7_init_24 0 rfl rfl ?_
  refine wp_bipush (v := nI 8) dX7_init_25 (by decide) rfl ?_
  refine st_newaI (N := 8) (n' := 137) dX7_init_27 rfl zsh_136 (by decide) (by decide) (by decide +kernel) rfl (by decide +kernel) (by decide +kernel) rfl ?_
  refine st_putRF (r' := 137) dX7_init_29 zf_RX7_24 rfl zsh_135 (by decide) (by decide +kernel) rfl (by decide) rfl rfl ?_
  refine wp_aload_n (k := 0) dX7_init_32 0 rfl rfl ?_
  refine wp_bipush (v := nI 8) dX7_init_33 (by decide) rfl ?_
  refine st_newaI (N := 8) (n' := 138) dX7_init_35 rfl zsh_137 (by decide) (by decide) (by decide +kernel) rfl (by decide +kernel) (by decide +kernel) rfl ?_
  refine st_putRF (r' := 138) dX7_init_37 zf_RX7_28 rfl zsh_135 (by decide) (by decide +kernel) rfl (by decide) rfl rfl ?_
  refine wp_aload_n (k := 0) dX7_init_40 0 rfl rfl ?_
  refine wp_bipush (v := nI 16) dX7_init_41 (by decide) rfl ?_
  refine st_newaI (N := 16) (n' := 139) dX7_init_43 rfl zsh_138 (by decide) (by decide) (by decide +kernel) rfl (by decide +kernel) (by decide +kernel) rfl ?_
  refine st_putRF (r' := 139) dX7_init_45 zf_RX7_31 rfl zsh_135 (by decide) (by decide +kernel) rfl (by decide) rfl rfl ?_
  refine wp_aload_n (k := 0) dX7_init_48 0 rfl rfl ?_
  refine wp_bipush (v := nI 16) dX7_init_49 (by decide) rfl ?_
  refine st_newaI (N := 16) (n' := 140) dX7_init_51 rfl zsh_139 (by decide) (by decide) (by decide +kernel) rfl (by decide +kernel) (by decide +kernel) rfl ?_
  refine st_putRF (r' := 140) dX7_init_53 zf_RX7_34 rfl zsh_135 (by decide) (by decide +kernel) rfl (by decide) rfl rfl ?_
  exact wp_return dX7_init_56 rfl ⟨rfl, rfl, rfl, rfl, rfl⟩ (by decide +kernel) (by decide +kernel)
theorem ctX7_140 : Sp yX7_init YX7_init 1 [.ref 140] (SS.take 141) (cqM 227) (cqL 0) (cqQ 141) 4 48 (cqS 145 231 145 0) := by
  refine Sp.of (by decide +kernel) rfl (fun _ => rfl) (Nat.le_of_ble_eq_true rfl) ?_
  intro w G
  show WP w YX7_init (1, SS.take 141, 4, 48) G _ 0 [(0, .ref 140)] [] (SS.take 141) (cqM 227) (cqL 0) (cqQ 141)
  refine wp_aload_n (k := 0) dX7_init_0 0 rfl rfl ?_
  refine wp_objInit dX7_init_1 zl_RX7_3 (by decide) (by decide) rfl ?_
  refine wp_aload_n (k := 0) dX7_init_4 0 rfl rfl ?_
  refine wp_iconst (v := nI 0) dX7_init_5 (by decide) rfl ?_
  refine st_putI (i' := 228) dX7_init_6 zf_RX7_9 rfl zsh_140 (by decide) (by decide +kernel) rfl rfl ?_
  refine wp_aload_n (k := 0) dX7_init_9 0 rfl rfl ?_
  refine wp_iconst (v := nI 0) dX7_init_10 (by decide) rfl ?_
  refine st_putI (i' := 229) dX7_init_11 zf_RX7_15 rfl zsh_140 (by decide) (by decide +kernel) rfl rfl ?_
  refine wp_aload_n (k := 0) dX7_init_14 0 rfl rfl ?_
  refine wp_iconst (v := nI 0) dX7_init_15 (by decide) rfl ?_
  refine st_putI (i' := 230) dX7_init_16 zf_RX7_18 rfl zsh_140 (by decide) (by decide +kernel) rfl rfl ?_
  refine wp_aload_n (k := 0) dX7_init_19 0 rfl rfl ?_
  refine wp_iconst (v := nI 0) dX7_init_20 (by decide) rfl ?_
  refine st_putI (i' := 231) dX7_init_21 zf_RX7_21 rfl zsh_140 (by decide) (by decide +kernel) rfl rfl ?_
  refine wp_aload_n (k := 0) dX7_init_24 0 rfl rfl ?_
  refine wp_bipush (v := nI 8) dX7_init_25 (by decide) rfl ?_
  refine st_newaI (N := 8) (n' := 142) dX7_init_27 rfl zsh_141 (by decide) (by decide) (by decide +kernel) rfl (by decide +kernel) (by decide +kernel) rfl ?_
  refine st_putRF (r' := 142) dX7_init_29 zf_RX7_24 rfl zsh_140 (by decide) (by decide +kernel) rfl (by decide) rfl rfl ?_
  refine wp_aload_n (k := 0) dX7_init_32 0 rfl rfl ?_
  refine wp_bipush (v := nI 8) dX7_init_33 (by decide) rfl ?_
  refine st_newaI (N := 8) (n' := 143) dX7_init_35 rfl zsh_142 (by decide) (by decide) (by decide +kernel) rfl (by decide +kernel) (by decide +kernel) rfl ?_
  refine st_putRF (r' := 143) dX7_init_37 zf_RX7_28 rfl zsh_140 (by decide) (by decide +kernel) rfl (by decide) rfl rfl ?_
  refine wp_aload_n (k := 0) dX7_init_40 0 rfl rfl ?_
  refine wp_bipush (v := nI 16) dX7_init_41 (by decide) rfl ?_
  refine st_newaI (N := 16) (n' := 144) dX7_init_43 rfl zsh_143 (by decide) (by decide) (by decide +kernel) rfl (by decide +kernel) (by decide +kernel) rfl ?_
  refine st_putRF (r' := 144) dX7_init_45 zf_RX7_31 rfl zsh_140 (by decide) (by decide +kernel) rfl (by decide) rfl rfl ?_
  refine wp_aload_n (k := 0) dX7_init_48 0 rfl rfl ?_
  refine wp_bipush (v := nI 16) dX7_init_49 (by decide) rfl ?_
  refine st_newaI (N := 16) (n' := 145) dX7_init_51 rfl zsh_144 (by decide) (by decide) (by decide +kernel) rfl (by decide +kernel) (by decide +kernel) rfl ?_
  refine st_putRF (r' := 145) dX7_init_53 zf_RX7_34 rfl zsh_140 (by decide) (by decide +kernel) rfl (by decide) rfl rfl ?_
  exact wp_return dX7_init_56 rfl ⟨rfl, rfl, rfl, rfl, rfl⟩ (by decide +kernel) (by decide +kernel)
theorem ctX7_145 : Sp yX7_init YX7_init 1 [.ref 145] (SS.take 146) (cqM 231) (cqL 0) (cqQ 146) 4 48 (cqS 150 235 150 0) := by
  refine Sp.of (by decide +kernel) rfl (fun _ => rfl) (Nat.le_of_ble_eq_true rfl) ?_
  intro w G
  show WP w YX7_init (1, SS.take 146, 4, 48) G _ 0 [(0, .ref 145)] [] (SS.take 146) (cqM 231) (cqL 0) (cqQ 146)
  refine wp_aload_n (k := 0) dX7_init_0 0 rfl rfl ?_
  refine wp_objInit dX7_init_1 zl_RX7_3 (by decide) (by decide) rfl ?_
  refine wp_aload_n (k := 0) dX7_init_4 0 rfl rfl ?_
  refine wp_iconst (v := nI 0) dX7_init_5 (by decide) rfl ?_
  refine st_putI (i' := 232) dX7_init_6 zf_RX7_9 rfl zsh_145 (by decide) (by decide +kernel) rfl rfl ?_
  refine wp_aload_n (k := 0) dX7_init_9 0 rfl rfl ?_
  refine wp_iconst (v := nI 0) dX7_init_10 (by decide) rfl ?_
  refine st_putI (i' := 233) dX7_init_11 zf_RX7_15 rfl zsh_145 (by decide) (by decide +kernel) rfl rfl ?_
  refine wp_aload_n (k := 0) dX7_init_14 0 rfl rfl ?_
  refine wp_iconst (v := nI 0) dX7_init_15 (by decide) rfl ?_
  refine st_putI (i' := 234) dX7_init_16 zf_RX7_18 rfl zsh_145 (by decide) (by decide +kernel) rfl rfl ?_
  refine wp_aload_n (k := 0) dX7_init_19 0 rfl rfl ?_
  refine wp_iconst (v := nI 0) dX7_init_20 (by decide) rfl ?_
  refine st_putI (i' := 235) dX7_init_21 zf_RX7_21 rfl zsh_145 (by decide) (by decide +kernel) rfl rfl ?_
  refine wp_aload_n (k := 0) dX7_init_24 0 rfl rfl ?_
  refine wp_bipush (v := nI 8) dX7_init_25 (by decide) rfl ?_
  refine st_newaI (N := 8) (n' := 147) dX7_init_27 rfl zsh_146 (by decide) (by decide) (by decide +kernel) rfl (by decide +kernel) (by decide +kernel) rfl ?_
  refine st_putRF (r' := 147) dX7_init_29 zf_RX7_24 rfl zsh_145 (by decide) (by decide +kernel) rfl (by decide) rfl rfl ?_
  refine wp_aload_n (k := 0) dX7_init_32 0 rfl rfl ?_
  refine wp_bipush (v := nI 8) dX7_init_33 (by decide) rfl ?_
  refine st_newaI (N := 8) (n' := 148) dX7_init_35 rfl zsh_147 (by decide) (by decide) (by decide +kernel) rfl (by decide +kernel) (by decide +kernel) rfl ?_
  refine st_putRF (r' := 148) dX7_init_37 zf_RX7_28 rfl zsh_145 (by decide) (by decide +kernel) rfl (by decide) rfl rfl ?_
  refine wp_aload_n (k := 0) dX7_init_40 0 rfl rfl ?_
  refine wp_bipush (v := nI 16) dX7_init_41 (by decide) rfl ?_
  refine st_newaI (N := 16) (n' := 149) dX7_init_43 rfl zsh_148 (by decide) (by decide) (by decide +kernel) rfl (by decide +kernel) (by decide +kernel) rfl ?_
  refine st_putRF (r' := 149) dX7_init_45 zf_RX7_31 rfl zsh_145 (by decide) (by decide +kernel) rfl (by decide) rfl rfl ?_
  refine wp_aload_n (k := 0) dX7_init_48 0 rfl rfl ?_
  refine wp_bipush (v := nI 16) dX7_init_49 (by decide) rfl ?_
  refine st_newaI (N := 16) (n' := 150) dX7_init_51 rfl zsh_149 (by decide) (by decide) (by decide +kernel) rfl (by decide +kernel) (by decide +kernel) rfl ?_
  refine st_putRF (r' := 150) dX7_init_53 zf_RX7_34 rfl zsh_145 (by decide) (by decide +kernel) rfl (by decide) rfl rfl ?_
  exact wp_return dX7_init_56 rfl ⟨rfl, rfl, rfl, rfl, rfl⟩ (by decide +kernel) (by decide +kernel)
theorem ctX2_48 : Sp yX2_init YX2_init 2 [.ref 48] (SS.take 49) (cqM 153) (cqL 0) (cqQ 50) 101 1140 (cqS 150 235 151 0) := by
  refine Sp.of (by decide +kernel) rfl (fun _ => rfl) (Nat.le_of_ble_eq_true rfl) ?_
  intro w G
  show WP w YX2_init (2, SS.take 49, 101, 1140) G _ 0 [(0, .ref 48)] [] (SS.take 49) (cqM 153) (cqL 0) (cqQ 50)
  refine wp_aload_n (k := 0) dX2_init_0 0 rfl rfl ?_
  refine wp_objInit dX2_init_1 zl_RX2_3 (by decide) (by decide) rfl ?_
  refine wp_aload_n (k := 0) dX2_init_4 0 rfl rfl ?_
  refine wp_bipush (v := nI 20) dX2_init_5 (by decide) rfl ?_
  refine st_anewa (N := 20) (n' := 50) dX2_init_7 zc_RX2_9 rfl zsh_49 (by decide) (by decide) (by decide +kernel) rfl (by decide +kernel) (by decide +kernel) rfl ?_
  refine st_putRF (r' := 51) dX2_init_10 zf_RX2_11 rfl zsh_48 (by decide) (by decide +kernel) rfl (by decide) rfl rfl ?_
  refine wp_aload_n (k := 0) dX2_init_13 0 rfl rfl ?_
  refine wp_iconst (v := nI 0) dX2_init_14 (by decide) rfl ?_
  refine st_putI (i' := 154) dX2_init_15 zf_RX2_17 rfl zsh_48 (by decide) (by decide +kernel) rfl rfl ?_
  refine wp_aload_n (k := 0) dX2_init_18 0 rfl rfl ?_
  refine wp_iconst (v := nI 0) dX2_init_19 (by decide) rfl ?_
  refine st_putI (i' := 155) dX2_init_20 zf_RX2_21 rfl zsh_48 (by decide) (by decide +kernel) rfl rfl ?_
  refine wp_iconst (v := nI 0) dX2_init_23 (by decide) rfl ?_
  refine wp_istore_n (k := 1) (i := 1) (loc' := [(1, .int (nI 0)), (0, .ref 48)]) dX2_init_24 rfl (by decide) rfl rfl ?_
  refine wp_iload_n (k := 1) dX2_init_25 0 rfl rfl ?_
  refine wp_bipush (v := nI 20) dX2_init_26 (by decide) rfl ?_
  refine wp_icmp_geN (tgt := 50) dX2_init_28 rfl rfl (by decide) (by decide) (fun h => absurd h (by decide)) (fun _ => ?_)
  refine wp_aload_n (k := 0) dX2_init_31 1 rfl rfl ?_
  refine st_getR (v := 49) dX2_init_32 zf_RX2_11 rfl zsh_48 (by decide) (by decide +kernel) rfl ?_
  refine wp_iload_n (k := 1) dX2_init_35 0 rfl rfl ?_
  refine st_new (n' := 51) dX2_init_36 zn_RX2_9 zsh_50 (by decide) (by decide +kernel) rfl (by decide +kernel) (by decide +kernel) rfl ?_
  refine wp_dup dX2_init_39 rfl rfl ?_
  refine st_callI (as := []) (o := 50) ctX7_50 zm_X7_init zl_RX2_24 dX2_init_40 rfl (by decide) (by decide) (by decide +kernel) (by decide +kernel) rfl ?_
  refine st_aast (j := 0) (r' := 56) dX2_init_43 zsh_49 (by decide) (by decide) rfl (by decide) zsh_50 (by decide) (by decide +kernel) rfl rfl ?_
  refine wp_iinc (v := nI 1) (loc' := [(1, .int (nI 1)), (0, .ref 48)]) dX2_init_44 0 rfl (by decide) (by decide) rfl rfl ?_
  refine wp_goto (tgt := 25) dX2_init_47 rfl ?_
  refine wp_iload_n (k := 1) dX2_init_25 0 rfl rfl ?_
  refine wp_bipush (v := nI 20) dX2_init_26 (by decide) rfl ?_
  refine wp_icmp_geN (tgt := 50) dX2_init_28 rfl rfl (by decide) (by decide) (fun h => absurd h (by decide)) (fun _ => ?_)
  refine wp_aload_n (k := 0) dX2_init_31 1 rfl rfl ?_
  refine st_getR (v := 49) dX2_init_32 zf_RX2_11 rfl zsh_48 (by decide) (by decide +kernel) rfl ?_
  refine wp_iload_n (k := 1) dX2_init_35 0 rfl rfl ?_
  refine st_new (n' := 56) dX2_init_36 zn_RX2_9 zsh_55 (by decide) (by decide +kernel) rfl (by decide +kernel) (by decide +kernel) rfl ?_
  refine wp_dup dX2_init_39 rfl rfl ?_
  refine st_callI (as := []) (o := 55) ctX7_55 zm_X7_init zl_RX2_24 dX2_init_40 rfl (by decide) (by decide) (by decide +kernel) (by decide +kernel) rfl ?_
  refine st_aast (j := 1) (r' := 61) dX2_init_43 zsh_49 (by decide) (by decide) rfl (by decide) zsh_55 (by decide) (by decide +kernel) rfl rfl ?_
  refine wp_iinc (v := nI 2) (loc' := [(1, .int (nI 2)), (0, .ref 48)]) dX2_init_44 0 rfl (by decide) (by decide) rfl rfl ?_
  refine wp_goto (tgt := 25) dX2_init_47 rfl ?_
  refine wp_iload_n (k := 1) dX2_init_25 0 rfl rfl ?_
  refine wp_bipush (v := nI 20) dX2_init_26 (by decide) rfl ?_
  refine wp_icmp_geN (tgt := 50) dX2_init_28 rfl rfl (by decide) (by decide) (fun h => absurd h (by decide)) (fun _ => ?_)
  refine wp_aload_n (k := 0) dX2_init_31 1 rfl rfl ?_
  refine st_getR (v := 49) dX2_init_32 zf_RX2_11 rfl zsh_48 (by decide) (by decide +kernel) rfl ?_
  refine wp_iload_n (k := 1) dX2_init_35 0 rfl rfl ?_
  refine st_new (n' := 61) dX2_init_36 zn_RX2_9 zsh_60 (by decide) (by decide +kernel) rfl (by decide +kernel) (by decide +kernel) rfl ?_
  refine wp_dup dX2_init_39 rfl rfl ?_
  refine st_callI (as := []) (o := 60) ctX7_60 zm_X7_init zl_RX2_24 dX2_init_40 rfl (by decide) (by decide) (by decide +kernel) (by decide +kernel) rfl ?_
  refine st_aast (j := 2) (r' := 66) dX2_init_43 zsh_49 (by decide) (by decide) rfl (by decide) zsh_60 (by decide) (by decide +kernel) rfl rfl ?_
  refine wp_iinc (v := nI 3) (loc' := [(1, .int (nI 3)), (0, .ref 48)]) dX2_init_44 0 rfl (by decide) (by decide) rfl rfl ?_
  refine wp_goto (tgt := 25) dX2_init_47 rfl ?_
  refine wp_iload_n (k := 1) dX2_init_25 0 rfl rfl ?_
  refine wp_bipush (v := nI 20) dX2_init_26 (by decide) rfl ?_
  refine wp_icmp_geN (tgt := 50) dX2_init_28 rfl rfl (by decide) (by decide) (fun h => absurd h (by decide)) (fun _ => ?_)
  refine wp_aload_n (k := 0) dX2_init_31 1 rfl rfl ?_
  refine st_getR (v := 49) dX2_init_32 zf_RX2_11 rfl zsh_48 (by decide) (by decide +kernel) rfl ?_
  refine wp_iload_n (k := 1) dX2_init_35 0 rfl rfl ?_
  refine st_new (n' := 66) dX2_init_36 zn_RX2_9 zsh_65 (by decide) (by decide +kernel) rfl (by decide +kernel) (by decide +kernel) rfl ?_
  refine wp_dup dX2_init_39 rfl rfl ?_
  refine st_callI (as := []) (o := 65) ctX7_65 zm_X7_init zl_RX2_24 dX2_init_40 rfl (by decide) (by decide) (by decide +kernel) (by decide +kernel) rfl ?_
  refine st_aast (j := 3) (r' := 71) dX2_init_43 zsh_49 (by decide) (by decide) rfl (by decide) zsh_65 (by decide) (by decide +kernel) rfl rfl ?_
  refine wp_iinc (v := nI 4) (loc' := [(1, .int (nI 4)), (0, .ref 48)]) dX2_init_44 0 rfl (by decide) (by decide) rfl rfl ?_
  refine wp_goto (tgt := 25) dX2_init_47 rfl ?_
  refine wp_iload_n (k := 1) dX2_init_25 0 rfl rfl ?_
  refine wp_bipush (v := nI 20) dX2_init_26 (by decide) rfl ?_
  refine wp_icmp_geN (tgt := 50) dX2_init_28 rfl rfl (by decide) (by decide) (fun h => absurd h (by decide)) (fun _ => ?_)
  refine wp_aload_n (k := 0) dX2_init_31 1 rfl rfl ?_
  refine st_getR (v := 49) dX2_init_32 zf_RX2_11 rfl zsh_48 (by decide) (by decide +kernel) rfl ?_
  refine wp_iload_n (k := 1) dX2_init_35 0 rfl rfl ?_
  refine st_new (n' := 71) dX2_init_36 zn_RX2_9 zsh_70 (by decide) (by decide +kernel) rfl (by decide +kernel) (by decide +kernel) rfl ?_
  refine wp_dup dX2_init_39 rfl rfl ?_
  refine st_callI (as := []) (o := 70) ctX7_70 zm_X7_init zl_RX2_24 dX2_init_40 rfl (by decide) (by decide) (by decide +kernel) (by decide +kernel) rfl ?_
  refine st_aast (j := 4) (r' := 76) dX2_init_43 zsh_49 (by decide) (by decide) rfl (by decide) zsh_70 (by decide) (by decide +kernel) rfl rfl ?_
  refine wp_iinc (v := nI 5) (loc' := [(1, .int (nI 5)), (0, .ref 48)]) dX2_init_44 0 rfl (by decide) (by decide) rfl rfl ?_
  refine wp_goto (tgt := 25) dX2_init_47 rfl ?_
  refine wp_iload_n (k := 1) dX2_init_25 0 rfl rfl ?_
  refine wp_bipush (v := nI 20) dX2_init_26 (by decide) rfl ?_
  refine wp_icmp_geN (tgt := 50) dX2_init_28 rfl rfl (by decide) (by decide) (fun h => absurd h (by decide)) (fun _ => ?_)
  refine wp_aload_n (k := 0) dX2_init_31 1 rfl rfl ?_
  refine st_getR (v := 49) dX2_init_32 zf_RX2_11 rfl zsh_48 (by decide) (by decide +kernel) rfl ?_
  refine wp_iload_n (k := 1) dX2_init_35 0 rfl rfl ?_
  refine st_new (n' := 76) dX2_init_36 zn_RX2_9 zsh_75 (by decide) (by decide +kernel) rfl (by decide +kernel) (by decide +kernel) rfl ?_
  refine wp_dup dX2_init_39 rfl rfl ?_
  refine st_callI (as := []) (o := 75) ctX7_75 zm_X7_init zl_RX2_24 dX2_init_40 rfl (by decide) (by decide) (by decide +kernel) (by decide +kernel) rfl ?_
  refine st_aast (j := 5) (r' := 81) dX2_init_43 zsh_49 (by decide) (by decide) rfl (by decide) zsh_75 (by decide) (by decide +kernel) rfl rfl ?_
  refine wp_iinc (v := nI 6) (loc' := [(1, .int (nI 6)), (0, .ref 48)]) dX2_init_44 0 rfl (by decide) (by decide) rfl rfl ?_
  refine wp_goto (tgt := 25) dX2_init_47 rfl ?_
  refine wp_iload_n (k := 1) dX2_init_25 0 rfl rfl ?_
  refine wp_bipush (v := nI 20) dX2_init_26 (by decide) rfl ?_
  refine wp_icmp_geN (tgt := 50) dX2_init_28 rfl rfl (by decide) (by decide) (fun h => absurd h (by decide)) (fun _ => ?_)
  refine wp_aload_n (k := 0) dX2_init_31 1 rfl rfl ?_
  refine st_getR (v := 49) dX2_init_32 zf_RX2_11 rfl zsh_48 (by decide) (by decide +kernel) rfl ?_
  refine wp_iload_n (k := 1) dX2_init_35 0 rfl rfl ?_
  refine st_new (n' := 81) dX2_init_36 zn_RX2_9 zsh_80 (by decide) (by decide +kernel) rfl (by decide +kernel) (by decide +kernel) rfl ?_
  refine wp_dup dX2_init_39 rfl rfl ?_
  refine st_callI (as := []) (o := 80) ctX7_80 zm_X7_init zl_RX2_24 dX2_init_40 rfl (by decide) (by decide) (by decide +kernel) (by decide +kernel) rfl ?_
  refine st_aast (j := 6) (r' := 86) dX2_init_43 zsh_49 (by decide) (by decide) rfl (by decide) zsh_80 (by decide) (by decide +kernel) rfl rfl ?_
  refine wp_iinc (v := nI 7) (loc' := [(1, .int (nI 7)), (0, .ref 48)]) dX2_init_44 0 rfl (by decide) (by decide) rfl rfl ?_
  refine wp_goto (tgt := 25) dX2_init_47 rfl ?_
  refine wp_iload_n (k := 1) dX2_init_25 0 rfl rfl ?_
  refine wp_bipush (v := nI 20) dX2_init_26 (by decide) rfl ?_
  refine wp_icmp_geN (tgt := 50) dX2_init_28 rfl rfl (by decide) (by decide) (fun h => absurd h (by decide)) (fun _ => ?_)
  refine wp_aload_n (k := 0) dX2_init_31 1 rfl rfl ?_
  refine st_getR (v := 49) dX2_init_32 zf_RX2_11 rfl zsh_48 (by decide) (by decide +kernel) rfl ?_
  refine wp_iload_n (k := 1) dX2_init_35 0 rfl rfl ?_
  refine st_new (n' := 86) dX2_init_36 zn_RX2_9 zsh_85 (by decide) (by decide +kernel) rfl (by decide +kernel) (by decide +kernel) rfl ?_
  refine wp_dup dX2_init_39 rfl rfl ?_
  refine st_callI (as := []) (o := 85) ctX7_85 zm_X7_init zl_RX2_24 dX2_init_40 rfl (by decide) (by decide) (by decide +kernel) (by decide +kernel) rfl ?_
  refine st_aast (j := 7) (r' := 91) dX2_init_43 zsh_49 (by decide) (by decide) rfl (by decide) zsh_85 (by decide) (by decide +kernel) rfl rfl ?_
  refine wp_iinc (v := nI 8) (loc' := [(1, .int (nI 8)), (0, .ref 48)]) dX2_init_44 0 rfl (by decide) (by decide) rfl rfl ?_
  refine wp_goto (tgt := 25) dX2_init_47 rfl ?_
  refine wp_iload_n (k := 1) dX2_init_25 0 rfl rfl ?_
  refine wp_bipush (v := nI 20) dX2_init_26 (by decide) rfl ?_
  refine wp_icmp_geN (tgt := 50) dX2_init_28 rfl rfl (by decide) (by decide) (fun h => absurd h (by decide)) (fun _ => ?_)
  refine wp_aload_n (k := 0) dX2_init_31 1 rfl rfl ?_
  refine st_getR (v := 49) dX2_init_32 zf_RX2_11 rfl zsh_48 (by decide) (by decide +kernel) rfl ?_
  refine wp_iload_n (k := 1) dX2_init_35 0 rfl rfl ?_
  refine st_new (n' := 91) dX2_init_36 zn_RX2_9 zsh_90 (by decide) (by decide +kernel) rfl (by decide +kernel) (by decide +kernel) rfl ?_
  refine wp_dup dX2_init_39 rfl rfl ?_
  refine st_callI (as := []) (o := 90) ctX7_90 zm_X7_init zl_RX2_24 dX2_init_40 rfl (by decide) (by decide) (by decide +kernel) (by decide +kernel) rfl ?_
  refine st_aast (j := 8) (r' := 96) dX2_init_43 zsh_49 (by decide) (by decide) rfl (by decide) zsh_90 (by decide) (by decide +kernel) rfl rfl ?_
  refine wp_iinc (v := nI 9) (loc' := [(1, .int (nI 9)), (0, .ref 48)]) dX2_init_44 0 rfl (by decide) (by decide) rfl rfl ?_
  refine wp_goto (tgt := 25) dX2_init_47 rfl ?_
  refine wp_iload_n (k := 1) dX2_init_25 0 rfl rfl ?_
  refine wp_bipush (v := nI 20) dX2_init_26 (by decide) rfl ?_
  refine wp_icmp_geN (tgt := 50) dX2_init_28 rfl rfl (by decide) (by decide) (fun h => absurd h (by decide)) (fun _ => ?_)
  refine wp_aload_n (k := 0) dX2_init_31 1 rfl rfl ?_
  refine st_getR (v := 49) dX2_init_32 zf_RX2_11 rfl zsh_48 (by decide) (by decide +kernel) rfl ?_
  refine wp_iload_n (k := 1) dX2_init_35 0 rfl rfl ?_
  refine st_new (n' := 96) dX2_init_36 zn_RX2_9 zsh_95 (by decide) (by decide +kernel) rfl (by decide +kernel) (by decide +kernel) rfl ?_
  refine wp_dup dX2_init_39 rfl rfl ?_
  refine st_callI (as := []) (o := 95) ctX7_95 zm_X7_init zl_RX2_24 dX2_init_40 rfl (by decide) (by decide) (by decide +kernel) (by decide +kernel) rfl ?_
  refine st_aast (j := 9) (r' := 101) dX2_init_43 zsh_49 (by decide) (by decide) rfl (by decide) zsh_95 (by decide) (by decide +kernel) rfl rfl ?_
  refine wp_iinc (v := nI 10) (loc' := [(1, .int (nI 10)), (0, .ref 48)]) dX2_init_44 0 rfl (by decide) (by decide) rfl rfl ?_
  refine wp_goto (tgt := 25) dX2_init_47 rfl ?_
  refine wp_iload_n (k := 1) dX2_init_25 0 rfl rfl ?_
  refine wp_bipush (v := nI 20) dX2_init_26 (by decide) rfl ?_
  refine wp_icmp_geN (tgt := 50) dX2_init_28 rfl rfl (by decide) (by decide) (fun h => absurd h (by decide)) (fun _ => ?_)
  refine wp_aload_n (k := 0) dX2_init_31 1 rfl rfl ?_
  refine st_getR (v := 49) dX2_init_32 zf_RX2_11 rfl zsh_48 (by decide) (by decide +kernel) rfl ?_
  refine wp_iload_n (k := 1) dX2_init_35 0 rfl rfl ?_
  refine st_new (n' := 101) dX2_init_36 zn_RX2_9 zsh_100 (by decide) (by decide +kernel) rfl (by decide +kernel) (by decide +kernel) rfl ?_
  refine wp_dup dX2_init_39 rfl rfl ?_
  refine st_callI (as := []) (o := 100) ctX7_100 zm_X7_init zl_RX2_24 dX2_init_40 rfl (by decide) (by decide) (by decide +kernel) (by decide +kernel) rfl ?_
  refine st_aast (j := 10) (r' := 106) dX2_init_43 zsh_49 (by decide) (by decide) rfl (by decide) zsh_100 (by decide) (by decide +kernel) rfl rfl ?_
  refine wp_iinc (v := nI 11) (loc' := [(1, .int (nI 11)), (0, .ref 48)]) dX2_init_44 0 rfl (by decide) (by decide) rfl rfl ?_
  refine wp_goto (tgt := 25) dX2_init_47 rfl ?_
  refine wp_iload_n (k := 1) dX2_init_25 0 rfl rfl ?_
  refine wp_bipush (v := nI 20) dX2_init_26 (by decide) rfl ?_
  refine wp_icmp_geN (tgt := 50) dX2_init_28 rfl rfl (by decide) (by decide) (fun h => absurd h (by decide)) (fun _ => ?_)
  refine wp_aload_n (k := 0) dX2_init_31 1 rfl rfl ?_
  refine st_getR (v := 49) dX2_init_32 zf_RX2_11 rfl zsh_48 (by decide) (by decide +kernel) rfl ?_
  refine wp_iload_n (k := 1) dX2_init_35 0 rfl rfl ?_
  refine st_new (n' := 106) dX2_init_36 zn_RX2_9 zsh_105 (by decide) (by decide +kernel) rfl (by decide +kernel) (by decide +kernel) rfl ?_
  refine wp_dup dX2_init_39 rfl rfl ?_
  refine st_callI (as := []) (o := 105) ctX7_105 zm_X7_init zl_RX2_24 dX2_init_40 rfl (by decide) (by decide) (by decide +kernel) (by decide +kernel) rfl ?_
  refine st_aast (j := 11) (r' := 111) dX2_init_43 zsh_49 (by decide) (by decide) rfl (by decide) zsh_105 (by decide) (by decide +kernel) rfl rfl ?_
  refine wp_iinc (v := nI 12) (loc' := [(1, .int (nI 12)), (0, .ref 48)]) dX2_init_44 0 rfl (by decide) (by decide) rfl rfl ?_
  refine wp_goto (tgt := 25) dX2_init_47 rfl ?_
  refine wp_iload_n (k := 1) dX2_init_25 0 rfl rfl ?_
  refine wp_bipush (v := nI 20) dX2_init_26 (by decide) rfl ?_
  refine wp_icmp_geN (tgt := 50) dX2_init_28 rfl rfl (by decide) (by decide) (fun h => absurd h (by decide)) (fun _ => ?_)
  refine wp_aload_n (k := 0) dX2_init_31 1 rfl rfl ?_
  refine st_getR (v := 49) dX2_init_32 zf_RX2_11 rfl zsh_48 (by decide) (by decide +kernel) rfl ?_
  refine wp_iload_n (k := 1) dX2_init_35 0 rfl rfl ?_
  refine st_new (n' := 111) dX2_init_36 zn_RX2_9 zsh_110 (by decide) (by decide +kernel) rfl (by decide +kernel) (by decide +kernel) rfl ?_
  refine wp_dup dX2_init_39 rfl rfl ?_
  refine st_callI (as := []) (o := 110) ctX7_110 zm_X7_init zl_RX2_24 dX2_init_40 rfl (by decide) (by decide) (by decide +kernel) (by decide +kernel) rfl ?_
  refine st_aast (j := 12) (r' := 116) dX2_init_43 zsh_49 (by decide) (by decide) rfl (by decide) zsh_110 (by decide) (by decide +kernel) rfl rfl ?_
  refine wp_iinc (v := nI 13) (loc' := [(1, .int (nI 13)), (0, .ref 48)]) dX2_init_44 0 rfl (by decide) (by decide) rfl rfl ?_
  refine wp_goto (tgt := 25) dX2_init_47 rfl ?_
  refine wp_iload_n (k := 1) dX2_init_25 0 rfl rfl ?_
  refine wp_bipush (v := nI 20) dX2_init_26 (by decide) rfl ?_
  refine wp_icmp_geN (tgt := 50) dX2_init_28 rfl rfl (by decide) (by decide) (fun h => absurd h (by decide)) (fun _ => ?_)
  refine wp_aload_n (k := 0) dX2_init_31 1 rfl rfl ?_
  refine st_getR (v := 49) dX2_init_32 zf_RX2_11 rfl zsh_48 (by decide) (by decide +kernel) rfl ?_
  refine wp_iload_n (k := 1) dX2_init_35 0 rfl rfl ?_
  refine st_new (n' := 116) dX2_init_36 zn_RX2_9 zsh_115 (by decide) (by decide +kernel) rfl (by decide +kernel) (by decide +kernel) rfl ?_
  refine wp_dup dX2_init_39 rfl rfl ?_
  refine st_callI (as := []) (o := 115) ctX7_115 zm_X7_init zl_RX2_24 dX2_init_40 rfl (by decide) (by decide) (by decide +kernel) (by decide +kernel) rfl ?_
  refine st_aast (j := 13) (r' := 121) dX2_init_43 zsh_49 (by decide) (by decide) rfl (by decide) zsh_115 (by decide) (by decide +kernel) rfl rfl ?_
  refine wp_iinc (v := nI 14) (loc' := [(1, .int (nI 14)), (0, .ref 48)]) dX2_init_44 0 rfl (by decide) (by decide) rfl rfl ?_
  refine wp_goto (tgt := 25) dX2_init_47 rfl ?_
  refine wp_iload_n (k := 1) dX2_init_25 0 rfl rfl ?_
  refine wp_bipush (v := nI 20) dX2_init_26 (by decide) rfl ?_
  refine wp_icmp_geN (tgt := 50) dX2_init_28 rfl rfl (by decide) (by decide) (fun h => absurd h (by decide)) (fun _ => ?_)
  refine wp_aload_n (k := 0) dX2_init_31 1 rfl rfl ?_
  refine st_getR (v := 49) dX2_init_32 zf_RX2_11 rfl zsh_48 (by decide) (by decide +kernel) rfl ?_
  refine wp_iload_n (k := 1) dX2_init_35 0 rfl rfl ?_
  refine st_new (n' := 121) dX2_init_36 zn_RX2_9 zsh_120 (by decide) (by decide +kernel) rfl (by decide +kernel) (by decide +kernel) rfl ?_
  refine wp_dup dX2_init_39 rfl rfl ?_
  refine st_callI (as := []) (o := 120) ctX7_120 zm_X7_init zl_RX2_24 dX2_init_40 rfl (by decide) (by decide) (by decide +kernel) (by decide +kernel) rfl ?_
  refine st_aast (j := 14) (r' := 126) dX2_init_43 zsh_49 (by decide) (by decide) rfl (by decide) zsh_120 (by decide) (by decide +kernel) rfl rfl ?_
  refine wp_iinc (v := nI 15) (loc' := [(1, .int (nI 15)), (0, .ref 48)]) dX2_init_44 0 rfl (by decide) (by decide) rfl rfl ?_
  refine wp_goto (tgt := 25) dX2_init_47 rfl ?_
  refine wp_iload_n (k := 1) dX2_init_25 0 rfl rfl ?_
  refine wp_bipush (v := nI 20) dX2_init_26 (by decide) rfl ?_
  refine wp_icmp_geN (tgt := 50) dX2_init_28 rfl rfl (by decide) (by decide) (fun h => absurd h (by decide)) (fun _ => ?_)
  refine wp_aload_n (k := 0) dX2_init_31 1 rfl rfl ?_
  refine st_getR (v := 49) dX2_init_32 zf_RX2_11 rfl zsh_48 (by decide) (by decide +kernel) rfl ?_
  refine wp_iload_n (k := 1) dX2_init_35 0 rfl rfl ?_
  refine st_new (n' := 126) dX2_init_36 zn_RX2_9 zsh_125 (by decide) (by decide +kernel) rfl (by decide +kernel) (by decide +kernel) rfl ?_
  refine wp_dup dX2_init_39 rfl rfl ?_
  refine st_callI (as := []) (o := 125) ctX7_125 zm_X7_init zl_RX2_24 dX2_init_40 rfl (by decide) (by decide) (by decide +kernel) (by decide +kernel) rfl ?_
  refine st_aast (j := 15) (r' := 131) dX2_init_43 zsh_49 (by decide) (by decide) rfl (by decide) zsh_125 (by decide) (by decide +kernel) rfl rfl ?_
  refine wp_iinc (v := nI 16) (loc' := [(1, .int (nI 16)), (0, .ref 48)]) dX2_init_44 0 rfl (by decide) (by decide) rfl rfl ?_
  refine wp_goto (tgt := 25) dX2_init_47 rfl ?_
  refine wp_iload_n (k := 1) dX2_init_25 0 rfl rfl ?_
  refine wp_bipush (v := nI 20) dX2_init_26 (by decide) rfl ?_
  refine wp_icmp_geN (tgt := 50) dX2_init_28 rfl rfl (by decide) (by decide) (fun h => absurd h (by decide)) (fun _ => ?_)
  refine wp_aload_n (k := 0) dX2_init_31 1 rfl rfl ?_
  refine st_getR (v := 49) dX2_init_32 zf_RX2_11 rfl zsh_48 (by decide) (by decide +kernel) rfl ?_
  refine wp_iload_n (k := 1) dX2_init_35 0 rfl rfl ?_
  refine st_new (n' := 131) dX2_init_36 zn_RX2_9 zsh_130 (by decide) (by decide +kernel) rfl (by decide +kernel) (by decide +kernel) rfl ?_
  refine wp_dup dX2_init_39 rfl rfl ?_
  refine st_callI (as := []) (o := 130) ctX7_130 zm_X7_init zl_RX2_24 dX2_init_40 rfl (by decide) (by decide) (by decide +kernel) (by decide +kernel) rfl ?_
  refine st_aast (j := 16) (r' := 136) dX2_init_43 zsh_49 (by decide) (by decide) rfl (by decide) zsh_130 (by decide) (by decide +kernel) rfl rfl ?_
  refine wp_iinc (v := nI 17) (loc' := [(1, .int (nI 17)), (0, .ref 48)]) dX2_init_44 0 rfl (by decide) (by decide) rfl rfl ?_
  refine wp_goto (tgt := 25) dX2_init_47 rfl ?_
  refine wp_iload_n (k := 1) dX2_init_25 0 rfl rfl ?_
  refine wp_bipush (v := nI 20) dX2_init_26 (by decide) rfl ?_
  refine wp_icmp_geN (tgt := 50) dX2_init_28 rfl rfl (by decide) (by decide) (fun h => absurd h (by decide)) (fun _ => ?_)
  refine wp_aload_n (k := 0) dX2_init_31 1 rfl rfl ?_
  refine st_getR (v := 49) dX2_init_32 zf_RX2_11 rfl zsh_48 (by decide) (by decide +kernel) rfl ?_
  refine wp_iload_n (k := 1) dX2_init_35 0 rfl rfl ?_
  refine st_new (n' := 136) dX2_init_36 zn_RX2_9 zsh_135 (by decide) (by decide +kernel) rfl (by decide +kernel) (by decide +kernel) rfl ?_
  refine wp_dup dX2_init_39 rfl rfl ?_
  refine st_callI (as := []) (o := 135) ctX7_135 zm_X7_init zl_RX2_24 dX2_init_40 rfl (by decide) (by decide) (by decide +kernel) (by decide +kernel) rfl ?_
  refine st_aast (j := 17) (r' := 141) dX2_init_43 zsh_49 (by decide) (by decide) rfl (by decide) zsh_135 (by decide) (by decide +kernel) rfl rfl ?_
  refine wp_iinc (v := nI 18) (loc' := [(1, .int (nI 18)), (0, .ref 48)]) dX2_init_44 0 rfl (by decide) (by decide) rfl rfl ?_
  refine wp_goto (tgt := 25) dX2_init_47 rfl ?_
  refine wp_iload_n (k := 1) dX2_init_25 0 rfl rfl ?_
  refine wp_bipush (v := nI 20) dX2_init_26 (by decide) rfl ?_
  refine wp_icmp_geN (tgt := 50) dX2_init_28 rfl rfl (by decide) (by decide) (fun h => absurd h (by decide)) (fun _ => ?_)
  refine wp_aload_n (k := 0) dX2_init_31 1 rfl rfl ?_
  refine st_getR (v := 49) dX2_init_32 zf_RX2_11 rfl zsh_48 (by decide) (by decide +kernel) rfl ?_
  refine wp_iload_n (k := 1) dX2_init_35 0 rfl rfl ?_
  refine st_new (n' := 141) dX2_init_36 zn_RX2_9 zsh_140 (by decide) (by decide +kernel) rfl (by decide +kernel) (by decide +kernel) rfl ?_
  refine wp_dup dX2_init_39 rfl rfl ?_
  refine st_callI (as := []) (o := 140) ctX7_140 zm_X7_init zl_RX2_24 dX2_init_40 rfl (by decide) (by decide) (by decide +kernel) (by decide +kernel) rfl ?_
  refine st_aast (j := 18) (r' := 146) dX2_init_43 zsh_49 (by decide) (by decide) rfl (by decide) zsh_140 (by decide) (by decide +kernel) rfl rfl ?_
  refine wp_iinc (v := nI 19) (loc' := [(1, .int (nI 19)), (0, .ref 48)]) dX2_init_44 0 rfl (by decide) (by decide) rfl rfl ?_
  refine wp_goto (tgt := 25) dX2_init_47 rfl ?_
  refine wp_iload_n (k := 1) dX2_init_25 0 rfl rfl ?_
  refine wp_bipush (v := nI 20) dX2_init_26 (by decide) rfl ?_
  refine wp_icmp_geN (tgt := 50) dX2_init_28 rfl rfl (by decide) (by decide) (fun h => absurd h (by decide)) (fun _ => ?_)
  refine wp_aload_n (k := 0) dX2_init_31 1 rfl rfl ?_
  refine st_getR (v := 49) dX2_init_32 zf_RX2_11 rfl zsh_48 (by decide) (by decide +kernel) rfl ?_
  refine wp_iload_n (k := 1) dX2_init_35 0 rfl rfl ?_
  refine st_new (n' := 146) dX2_init_36 zn_RX2_9 zsh_145 (by decide) (by decide +kernel) rfl (by decide +kernel) (by decide +kernel) rfl ?_
  refine wp_dup dX2_init_39 rfl rfl ?_
  refine st_callI (as := []) (o := 145) ctX7_145 zm_X7_init zl_RX2_24 dX2_init_40 rfl (by decide) (by decide) (by decide +kernel) (by decide +kernel) rfl ?_
  refine st_aast (j := 19) (r' := 151) dX2_init_43 zsh_49 (by decide) (by decide) rfl (by decide) zsh_145 (by decide) (by decide +kernel) rfl rfl ?_
  refine wp_iinc (v := nI 20) (loc' := [(1, .int (nI 20)), (0, .ref 48)]) dX2_init_44 0 rfl (by decide) (by decide) rfl rfl ?_
  refine wp_goto (tgt := 25) dX2_init_47 rfl ?_
  refine wp_iload_n (k := 1) dX2_init_25 0 rfl rfl ?_
  refine wp_bipush (v := nI 20) dX2_init_26 (by decide) rfl ?_
  refine wp_icmp_geN (tgt := 50) dX2_init_28 rfl rfl (by decide) (by decide) (fun _ => ?_) (fun h => absurd h (by decide))
  exact wp_return dX2_init_50 rfl ⟨rfl, rfl, rfl, rfl, rfl⟩ (by decide +kernel) (by decide +kernel)
theorem ctX4_150 : Sp yX4_init YX4_init 1 [.ref 150, .ref 10] (SS.take 151) (cqM 235) (cqL 0) (cqQ 152) 5 40 (cqS 156 235 158 0) := by
  refine Sp.of (by decide +kernel) rfl (fun _ => rfl) (Nat.le_of_ble_eq_true rfl) ?_
  intro w G
  show WP w YX4_init (1, SS.take 151, 5, 40) G _ 0 [(0, .ref 150), (1, .ref 10)] [] (SS.take 151) (cqM 235) (cqL 0) (cqQ 152)
  refine wp_aload_n (k := 0) dX4_init_0 0 rfl rfl ?_
  refine wp_objInit dX4_init_1 zl_RX4_3 (by decide) (by decide) rfl ?_
  refine wp_aload_n (k := 0) dX4_init_4 0 rfl rfl ?_
  refine wp_bipush (v := nI 9) dX4_init_5 (by decide) rfl ?_
  refine st_newaI (N := 9) (n' := 152) dX4_init_7 rfl zsh_151 (by decide) (by decide) (by decide +kernel) rfl (by decide +kernel) (by decide +kernel) rfl ?_
  refine st_putRF (r' := 153) dX4_init_9 zf_RX4_9 rfl zsh_150 (by decide) (by decide +kernel) rfl (by decide) rfl rfl ?_
  refine wp_aload_n (k := 0) dX4_init_12 0 rfl rfl ?_
  refine wp_bipush (v := nI 7) dX4_init_13 (by decide) rfl ?_
  refine st_newaI (N := 7) (n' := 153) dX4_init_15 rfl zsh_152 (by decide) (by decide) (by decide +kernel) rfl (by decide +kernel) (by decide +kernel) rfl ?_
  refine st_putRF (r' := 154) dX4_init_17 zf_RX4_15 rfl zsh_150 (by decide) (by decide +kernel) rfl (by decide) rfl rfl ?_
  refine wp_aload_n (k := 0) dX4_init_20 0 rfl rfl ?_
  refine wp_bipush (v := nI 8) dX4_init_21 (by decide) rfl ?_
  refine st_newaI (N := 8) (n' := 154) dX4_init_23 rfl zsh_153 (by decide) (by decide) (by decide +kernel) rfl (by decide +kernel) (by decide +kernel) rfl ?_
  refine st_putRF (r' := 155) dX4_init_25 zf_RX4_18 rfl zsh_150 (by decide) (by decide +kernel) rfl (by decide) rfl rfl ?_
  refine wp_aload_n (k := 0) dX4_init_28 0 rfl rfl ?_
  refine wp_bipush (v := nI 8) dX4_init_29 (by decide) rfl ?_
  refine st_newaI (N := 8) (n' := 155) dX4_init_31 rfl zsh_154 (by decide) (by decide) (by decide +kernel) rfl (by decide +kernel) (by decide +kernel) rfl ?_
  refine st_putRF (r' := 156) dX4_init_33 zf_RX4_21 rfl zsh_150 (by decide) (by decide +kernel) rfl (by decide) rfl rfl ?_
  refine wp_aload_n (k := 0) dX4_init_36 0 rfl rfl ?_
  refine wp_bipush (v := nI 8) dX4_init_37 (by decide) rfl ?_
  refine st_newaI (N := 8) (n' := 156) dX4_init_39 rfl zsh_155 (by decide) (by decide) (by decide +kernel) rfl (by decide +kernel) (by decide +kernel) rfl ?_
  refine st_putRF (r' := 157) dX4_init_41 zf_RX4_24 rfl zsh_150 (by decide) (by decide +kernel) rfl (by decide) rfl rfl ?_
  refine wp_aload_n (k := 0) dX4_init_44 0 rfl rfl ?_
  refine wp_aload_n (k := 1) dX4_init_45 1 rfl rfl ?_
  refine st_putR (r' := 158) dX4_init_46 zf_RX4_27 rfl zsh_150 (by decide) (by decide +kernel) rfl rfl ?_
  exact wp_return dX4_init_49 rfl ⟨rfl, rfl, rfl, rfl, rfl⟩ (by decide +kernel) (by decide +kernel)
theorem ctX7_157 : Sp yX7_init YX7_init 1 [.ref 157] (SS.take 158) (cqM 235) (cqL 0) (cqQ 159) 4 48 (cqS 162 239 163 0) := by
  refine Sp.of (by decide +kernel) rfl (fun _ => rfl) (Nat.le_of_ble_eq_true rfl) ?_
  intro w G
  show WP w YX7_init (1, SS.take 158, 4, 48) G _ 0 [(0, .ref 157)] [] (SS.take 158) (cqM 235) (cqL 0) (cqQ 159)
  refine wp_aload_n (k := 0) dX7_init_0 0 rfl rfl ?_
  refine wp_objInit dX7_init_1 zl_RX7_3 (by decide) (by decide) rfl ?_
  refine wp_aload_n (k := 0) dX7_init_4 0 rfl rfl ?_
  refine wp_iconst (v := nI 0) dX7_init_5 (by decide) rfl ?_
  refine st_putI (i' := 236) dX7_init_6 zf_RX7_9 rfl zsh_157 (by decide) (by decide +kernel) rfl rfl ?_
  refine wp_aload_n (k := 0) dX7_init_9 0 rfl rfl ?_
  refine wp_iconst (v := nI 0) dX7_init_10 (by decide) rfl ?_
  refine st_putI (i' := 237) dX7_init_11 zf_RX7_15 rfl zsh_157 (by decide) (by decide +kernel) rfl rfl ?_
  refine wp_aload_n (k := 0) dX7_init_14 0 rfl rfl ?_
  refine wp_iconst (v := nI 0) dX7_init_15 (by decide) rfl ?_
  refine st_putI (i' := 238) dX7_init_16 zf_RX7_18 rfl zsh_157 (by decide) (by decide +kernel) rfl rfl ?_
  refine wp_aload_n (k := 0) dX7_init_19 0 rfl rfl ?_
  refine wp_iconst (v := nI 0) dX7_init_20 (by decide) rfl ?_
  refine st_putI (i' := 239) dX7_init_21 zf_RX7_21 rfl zsh_157 (by decide) (by decide +kernel) rfl rfl ?_
  refine wp_aload_n (k := 0) dX7_init_24 0 rfl rfl ?_
  refine wp_bipush (v := nI 8) dX7_init_25 (by decide) rfl ?_
  refine st_newaI (N := 8) (n' := 159) dX7_init_27 rfl zsh_158 (by decide) (by decide) (by decide +kernel) rfl (by decide +kernel) (by decide +kernel) rfl ?_
  refine st_putRF (r' := 160) dX7_init_29 zf_RX7_24 rfl zsh_157 (by decide) (by decide +kernel) rfl (by decide) rfl rfl ?_
  refine wp_aload_n (k := 0) dX7_init_32 0 rfl rfl ?_
  refine wp_bipush (v := nI 8) dX7_init_33 (by decide) rfl ?_
  refine st_newaI (N := 8) (n' := 160) dX7_init_35 rfl zsh_159 (by decide) (by decide) (by decide +kernel) rfl (by decide +kernel) (by decide +kernel) rfl ?_
  refine st_putRF (r' := 161) dX7_init_37 zf_RX7_28 rfl zsh_157 (by decide) (by decide +kernel) rfl (by decide) rfl rfl ?_
  refine wp_aload_n (k := 0) dX7_init_40 0 rfl rfl ?_
  refine wp_bipush (v := nI 16) dX7_init_41 (by decide) rfl ?_
  refine st_newaI (N := 16) (n' := 161) dX7_init_43 rfl zsh_160 (by decide) (by decide) (by decide +kernel) rfl (by decide +kernel) (by decide +kernel) rfl ?_
  refine st_putRF (r' := 162) dX7_init_45 zf_RX7_31 rfl zsh_157 (by decide) (by decide +kernel) rfl (by decide) rfl rfl ?_
  refine wp_aload_n (k := 0) dX7_init_48 0 rfl rfl ?_
  refine wp_bipush (v := nI 16) dX7_init_49 (by decide) rfl ?_
  refine st_newaI (N := 16) (n' := 162) dX7_init_51 rfl zsh_161 (by decide) (by decide) (by decide +kernel) rfl (by decide +kernel) (by decide +kernel) rfl ?_
  refine st_putRF (r' := 163) dX7_init_53 zf_RX7_34 rfl zsh_157 (by decide) (by decide +kernel) rfl (by decide) rfl rfl ?_
  exact wp_return dX7_init_56 rfl ⟨rfl, rfl, rfl, rfl, rfl⟩ (by decide +kernel) (by decide +kernel)
theorem ctX7_162 : Sp yX7_init YX7_init 1 [.ref 162] (SS.take 163) (cqM 239) (cqL 0) (cqQ 164) 4 48 (cqS 167 243 168 0) := by
  refine Sp.of (by decide +kernel) rfl (fun _ => rfl) (Nat.le_of_ble_eq_true rfl) ?_
  intro w G
  show WP w YX7_init (1, SS.take 163, 4, 48) G _ 0 [(0, .ref 162)] [] (SS.take 163) (cqM 239) (cqL 0) (cqQ 164)
  refine wp_aload_n (k := 0) dX7_init_0 0 rfl rfl ?_
  refine wp_objInit dX7_init_1 zl_RX7_3 (by decide) (by decide) rfl ?_
  refine wp_aload_n (k := 0) dX7_init_4 0 rfl rfl ?_
  refine wp_iconst (v := nI 0) dX7_init_5 (by decide) rfl ?_
  refine st_putI (i' := 240) dX7_init_6 zf_RX7_9 rfl zsh_162 (by decide) (by decide +kernel) rfl rfl ?_
  refine wp_aload_n (k := 0) dX7_init_9 0 rfl rfl ?_
  refine wp_iconst (v := nI 0) dX7_init_10 (by decide) rfl ?_
  refine st_putI (i' := 241) dX7_init_11 zf_RX7_15 rfl zsh_162 (by decide) (by decide +kernel) rfl rfl ?_
  refine wp_aload_n (k := 0) dX7_init_14 0 rfl rfl ?_
  refine wp_iconst (v := nI 0) dX7_init_15 (by decide) rfl ?_
  refine st_putI (i' := 242) dX7_init_16 zf_RX7_18 rfl zsh_162 (by decide) (by decide +kernel) rfl rfl ?_
  refine wp_aload_n (k := 0) dX7_init_19 0 rfl rfl ?_
  refine wp_iconst (v := nI 0) dX7_init_20 (by decide) rfl ?_
  refine st_putI (i' := 243) dX7_init_21 zf_RX7_21 rfl zsh_162 (by decide) (by decide +kernel) rfl rfl ?_
  refine wp_aload_n (k := 0) dX7_init_24 0 rfl rfl ?_
  refine wp_bipush (v := nI 8) dX7_init_25 (by decide) rfl ?_
  refine st_newaI (N := 8) (n' := 164) dX7_init_27 rfl zsh_163 (by decide) (by decide) (by decide +kernel) rfl (by decide +kernel) (by decide +kernel) rfl ?_
  refine st_putRF (r' := 165) dX7_init_29 zf_RX7_24 rfl zsh_162 (by decide) (by decide +kernel) rfl (by decide) rfl rfl ?_
  refine wp_aload_n (k := 0) dX7_init_32 0 rfl rfl ?_
  refine wp_bipush (v := nI 8) dX7_init_33 (by decide) rfl ?_
  refine st_newaI (N := 8) (n' := 165) dX7_init_35 rfl zsh_164 (by decide) (by decide) (by decide +kernel) rfl (by decide +kernel) (by decide +kernel) rfl ?_
  refine st_putRF (r' := 166) dX7_init_37 zf_RX7_28 rfl zsh_162 (by decide) (by decide +kernel) rfl (by decide) rfl rfl ?_
  refine wp_aload_n (k := 0) dX7_init_40 0 rfl rfl ?_
  refine wp_bipush (v := nI 16) dX7_init_41 (by decide) rfl ?_
  refine st_newaI (N := 16) (n' := 166) dX7_init_43 rfl zsh_165 (by decide) (by decide) (by decide +kernel) rfl (by decide +kernel) (by decide +kernel) rfl ?_
  refine st_putRF (r' := 167) dX7_init_45 zf_RX7_31 rfl zsh_162 (by decide) (by decide +kernel) rfl (by decide) rfl rfl ?_
  refine wp_aload_n (k := 0) dX7_init_48 0 rfl rfl ?_
  refine wp_bipush (v := nI 16) dX7_init_49 (by decide) rfl ?_
  refine st_newaI (N := 16) (n' := 167) dX7_init_51 rfl zsh_166 (by decide) (by decide) (by decide +kernel) rfl (by decide +kernel) (by decide +kernel) rfl ?_
  refine st_putRF (r' := 168) dX7_init_53 zf_RX7_34 rfl zsh_162 (by decide) (by decide +kernel) rfl (by decide) rfl rfl ?_
  exact wp_return dX7_init_56 rfl ⟨rfl, rfl, rfl, rfl, rfl⟩ (by decide +kernel) (by decide +kernel)
theorem ctX3_156 : Sp yX3_init YX3_init 2 [.ref 156, .ref 150] (SS.take 157) (cqM 235) (cqL 0) (cqQ 159) 10 112 (cqS 167 248 170 0) := by
  refine Sp.of (by decide +kernel) rfl (fun _ => rfl) (Nat.le_of_ble_eq_true rfl) ?_
  intro w G
  show WP w YX3_init (2, SS.take 157, 10, 112) G _ 0 [(0, .ref 156), (1, .ref 150)] [] (SS.take 157) (cqM 235) (cqL 0) (cqQ 159)
  refine wp_aload_n (k := 0) dX3_init_0 0 rfl rfl ?_
  refine wp_objInit dX3_init_1 zl_RX3_3 (by decide) (by decide) rfl ?_
  refine wp_aload_n (k := 0) dX3_init_4 0 rfl rfl ?_
  refine st_new (n' := 158) dX3_init_5 zn_RX3_9 zsh_157 (by decide) (by decide +kernel) rfl (by decide +kernel) (by decide +kernel) rfl ?_
  refine wp_dup dX3_init_8 rfl rfl ?_
  refine st_callI (as := []) (o := 157) ctX7_157 zm_X7_init zl_RX3_11 dX3_init_9 rfl (by decide) (by decide) (by decide +kernel) (by decide +kernel) rfl ?_
  refine st_putRF (r' := 164) dX3_init_12 zf_RX3_12 rfl zsh_156 (by decide) (by decide +kernel) rfl (by decide) rfl rfl ?_
  refine wp_aload_n (k := 0) dX3_init_15 0 rfl rfl ?_
  refine st_new (n' := 163) dX3_init_16 zn_RX3_9 zsh_162 (by decide) (by decide +kernel) rfl (by decide +kernel) (by decide +kernel) rfl ?_
  refine wp_dup dX3_init_19 rfl rfl ?_
  refine st_callI (as := []) (o := 162) ctX7_162 zm_X7_init zl_RX3_11 dX3_init_20 rfl (by decide) (by decide) (by decide +kernel) (by decide +kernel) rfl ?_
  refine st_putRF (r' := 169) dX3_init_23 zf_RX3_18 rfl zsh_156 (by decide) (by decide +kernel) rfl (by decide) rfl rfl ?_
  refine wp_aload_n (k := 0) dX3_init_26 0 rfl rfl ?_
  refine wp_iconst (v := nI 0) dX3_init_27 (by decide) rfl ?_
  refine st_putZ (i' := 244) dX3_init_28 zf_RX3_21 rfl (by decide) zsh_156 (by decide) (by decide +kernel) rfl rfl ?_
  refine wp_aload_n (k := 0) dX3_init_31 0 rfl rfl ?_
  refine wp_iconst (v := nI 0) dX3_init_32 (by decide) rfl ?_
  refine st_putI (i' := 245) dX3_init_33 zf_RX3_25 rfl zsh_156 (by decide) (by decide +kernel) rfl rfl ?_
  refine wp_aload_n (k := 0) dX3_init_36 0 rfl rfl ?_
  refine wp_iconst (v := nI 0) dX3_init_37 (by decide) rfl ?_
  refine st_putI (i' := 246) dX3_init_38 zf_RX3_29 rfl zsh_156 (by decide) (by decide +kernel) rfl rfl ?_
  refine wp_aload_n (k := 0) dX3_init_41 0 rfl rfl ?_
  refine wp_iconst (v := nI 0) dX3_init_42 (by decide) rfl ?_
  refine st_putI (i' := 247) dX3_init_43 zf_RX3_32 rfl zsh_156 (by decide) (by decide +kernel) rfl rfl ?_
  refine wp_aload_n (k := 0) dX3_init_46 0 rfl rfl ?_
  refine wp_iconst (v := nI 0) dX3_init_47 (by decide) rfl ?_
  refine st_putI (i' := 248) dX3_init_48 zf_RX3_35 rfl zsh_156 (by decide) (by decide +kernel) rfl rfl ?_
  refine wp_aload_n (k := 0) dX3_init_51 0 rfl rfl ?_
  refine wp_aload_n (k := 1) dX3_init_52 1 rfl rfl ?_
  refine st_putRF (r' := 170) dX3_init_53 zf_RX3_38 rfl zsh_156 (by decide) (by decide +kernel) rfl (by decide) rfl rfl ?_
  exact wp_return dX3_init_56 rfl ⟨rfl, rfl, rfl, rfl, rfl⟩ (by decide +kernel) (by decide +kernel)
theorem ctX6_167 : Sp yX6_init YX6_init 1 [.ref 167, .ref 150] (SS.take 168) (cqM 248) (cqL 0) (cqQ 171) 4 144 (cqS 172 250 176 0) := by
  refine Sp.of (by decide +kernel) rfl (fun _ => rfl) (Nat.le_of_ble_eq_true rfl) ?_
  intro w G
  show WP w YX6_init (1, SS.take 168, 4, 144) G _ 0 [(0, .ref 167), (1, .ref 150)] [] (SS.take 168) (cqM 248) (cqL 0) (cqQ 171)
  refine wp_aload_n (k := 0) dX6_init_0 0 rfl rfl ?_
  refine wp_objInit dX6_init_1 zl_RX6_3 (by decide) (by decide) rfl ?_
  refine wp_aload_n (k := 0) dX6_init_4 0 rfl rfl ?_
  refine wp_bipush (v := nI 64) dX6_init_5 (by decide) rfl ?_
  refine st_newaI (N := 64) (n' := 169) dX6_init_7 rfl zsh_168 (by decide) (by decide) (by decide +kernel) rfl (by decide +kernel) (by decide +kernel) rfl ?_
  refine st_putRF (r' := 172) dX6_init_9 zf_RX6_9 rfl zsh_167 (by decide) (by decide +kernel) rfl (by decide) rfl rfl ?_
  refine wp_aload_n (k := 0) dX6_init_12 0 rfl rfl ?_
  refine wp_bipush (v := nI 64) dX6_init_13 (by decide) rfl ?_
  refine st_newaI (N := 64) (n' := 170) dX6_init_15 rfl zsh_169 (by decide) (by decide) (by decide +kernel) rfl (by decide +kernel) (by decide +kernel) rfl ?_
  refine st_putRF (r' := 173) dX6_init_17 zf_RX6_15 rfl zsh_167 (by decide) (by decide +kernel) rfl (by decide) rfl rfl ?_
  refine wp_aload_n (k := 0) dX6_init_20 0 rfl rfl ?_
  refine wp_bipush (v := nI 8) dX6_init_21 (by decide) rfl ?_
  refine st_newaI (N := 8) (n' := 171) dX6_init_23 rfl zsh_170 (by decide) (by decide) (by decide +kernel) rfl (by decide +kernel) (by decide +kernel) rfl ?_
  refine st_putRF (r' := 174) dX6_init_25 zf_RX6_18 rfl zsh_167 (by decide) (by decide +kernel) rfl (by decide) rfl rfl ?_
  refine wp_aload_n (k := 0) dX6_init_28 0 rfl rfl ?_
  refine wp_iconst (v := nI 0) dX6_init_29 (by decide) rfl ?_
  refine st_putI (i' := 249) dX6_init_30 zf_RX6_21 rfl zsh_167 (by decide) (by decide +kernel) rfl rfl ?_
  refine wp_aload_n (k := 0) dX6_init_33 0 rfl rfl ?_
  refine wp_bipush (v := nI 8) dX6_init_34 (by decide) rfl ?_
  refine st_newaI (N := 8) (n' := 172) dX6_init_36 rfl zsh_171 (by decide) (by decide) (by decide +kernel) rfl (by decide +kernel) (by decide +kernel) rfl ?_
  refine st_putRF (r' := 175) dX6_init_38 zf_RX6_25 rfl zsh_167 (by decide) (by decide +kernel) rfl (by decide) rfl rfl ?_
  refine wp_aload_n (k := 0) dX6_init_41 0 rfl rfl ?_
  refine wp_lconst (v := 0) dX6_init_42 rfl rfl ?_
  refine st_putL dX6_init_43 zf_RX6_28 rfl zsh_167 (by decide) rfl ?_
  refine wp_aload_n (k := 0) dX6_init_46 0 rfl rfl ?_
  refine wp_iconst (v := nI 0) dX6_init_47 (by decide) rfl ?_
  refine st_putZ (i' := 250) dX6_init_48 zf_RX6_32 rfl (by decide) zsh_167 (by decide) (by decide +kernel) rfl rfl ?_
  refine wp_aload_n (k := 0) dX6_init_51 0 rfl rfl ?_
  refine wp_aload_n (k := 1) dX6_init_52 1 rfl rfl ?_
  refine st_putRF (r' := 176) dX6_init_53 zf_RX6_36 rfl zsh_167 (by decide) (by decide +kernel) rfl (by decide) rfl rfl ?_
  exact wp_return dX6_init_56 rfl ⟨rfl, rfl, rfl, rfl, rfl⟩ (by decide +kernel) (by decide +kernel)
theorem ctX1_172 : Sp yX1_init YX1_init 1 [.ref 172] (SS.take 173) (cqM 250) (cqL 0) (cqQ 177) 2 34 (cqS 175 250 179 0) := by
  refine Sp.of (by decide +kernel) rfl (fun _ => rfl) (Nat.le_of_ble_eq_true rfl) ?_
  intro w G
  show WP w YX1_init (1, SS.take 173, 2, 34) G _ 0 [(0, .ref 172)] [] (SS.take 173) (cqM 250) (cqL 0) (cqQ 177)
  refine wp_aload_n (k := 0) dX1_init_0 0 rfl rfl ?_
  refine wp_objInit dX1_init_1 zl_RX1_3 (by decide) (by decide) rfl ?_
  refine wp_aload_n (k := 0) dX1_init_4 0 rfl rfl ?_
  refine wp_bipush (v := nI 17) dX1_init_5 (by decide) rfl ?_
  refine st_newaI (N := 17) (n' := 174) dX1_init_7 rfl zsh_173 (by decide) (by decide) (by decide +kernel) rfl (by decide +kernel) (by decide +kernel) rfl ?_
  refine st_putRF (r' := 178) dX1_init_9 zf_RX1_9 rfl zsh_172 (by decide) (by decide +kernel) rfl (by decide) rfl rfl ?_
  refine wp_aload_n (k := 0) dX1_init_12 0 rfl rfl ?_
  refine wp_bipush (v := nI 17) dX1_init_13 (by decide) rfl ?_
  refine st_newaI (N := 17) (n' := 175) dX1_init_15 rfl zsh_174 (by decide) (by decide) (by decide +kernel) rfl (by decide +kernel) (by decide +kernel) rfl ?_
  refine st_putRF (r' := 179) dX1_init_17 zf_RX1_15 rfl zsh_172 (by decide) (by decide +kernel) rfl (by decide) rfl rfl ?_
  exact wp_return dX1_init_20 rfl ⟨rfl, rfl, rfl, rfl, rfl⟩ (by decide +kernel) (by decide +kernel)

