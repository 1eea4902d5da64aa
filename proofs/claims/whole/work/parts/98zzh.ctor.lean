theorem ctX10_2 : Spx yX10_init YX10_init 6 [.ref 2] (SS.take 3) (cqM 1) (cqL 0) (cqQ 1) 6 8035 (cqS 9 130 7 0) := by
  refine Spx.of (by decide +kernel) rfl (fun _ => rfl) (Nat.le_of_ble_eq_true rfl) ?_
  intro w G hX
  show WP w YX10_init (6, SS.take 3, 6, 8035) G _ 0 [(0, .ref 2)] [] (SS.take 3) (cqM 1) (cqL 0) (cqQ 1)
  have hB : xB (6, SS.take 3, 6, 8035) := ⟨by decide, by decide +kernel, by decide +kernel⟩
  refine wp_aload_n (k := 0) dX10_init_0 0 rfl rfl ?_
  refine wp_objInit dX10_init_1 zl_RX10_3 (by decide) (by decide) rfl ?_
  refine wp_aload_n (k := 0) dX10_init_4 0 rfl rfl ?_
  refine wp_sipush (v := nI 1601) dX10_init_5 (by decide) rfl ?_
  refine st_newaI (N := 1601) (n' := 4) dX10_init_8 rfl zsh_3 (by decide) (by decide) (by decide +kernel) rfl (by decide +kernel) (by decide +kernel) rfl ?_
  refine st_putRF (r' := 2) dX10_init_10 zf_RX10_9 rfl zsh_2 (by decide) (by decide +kernel) rfl (by decide) rfl rfl ?_
  refine wp_aload_n (k := 0) dX10_init_13 0 rfl rfl ?_
  refine wp_sipush (v := nI 1601) dX10_init_14 (by decide) rfl ?_
  refine st_newaI (N := 1601) (n' := 5) dX10_init_17 rfl zsh_4 (by decide) (by decide) (by decide +kernel) rfl (by decide +kernel) (by decide +kernel) rfl ?_
  refine st_putRF (r' := 3) dX10_init_19 zf_RX10_15 rfl zsh_2 (by decide) (by decide +kernel) rfl (by decide) rfl rfl ?_
  refine wp_aload_n (k := 0) dX10_init_22 0 rfl rfl ?_
  refine wp_sipush (v := nI 1601) dX10_init_23 (by decide) rfl ?_
  refine st_newaI (N := 1601) (n' := 6) dX10_init_26 rfl zsh_5 (by decide) (by decide) (by decide +kernel) rfl (by decide +kernel) (by decide +kernel) rfl ?_
  refine st_putRF (r' := 4) dX10_init_28 zf_RX10_18 rfl zsh_2 (by decide) (by decide +kernel) rfl (by decide) rfl rfl ?_
  refine wp_aload_n (k := 0) dX10_init_31 0 rfl rfl ?_
  refine wp_sipush (v := nI 1601) dX10_init_32 (by decide) rfl ?_
  refine st_newaI (N := 1601) (n' := 7) dX10_init_35 rfl zsh_6 (by decide) (by decide) (by decide +kernel) rfl (by decide +kernel) (by decide +kernel) rfl ?_
  refine st_putRF (r' := 5) dX10_init_37 zf_RX10_21 rfl zsh_2 (by decide) (by decide +kernel) rfl (by decide) rfl rfl ?_
  refine wp_aload_n (k := 0) dX10_init_40 0 rfl rfl ?_
  refine wp_sipush (v := nI 1601) dX10_init_41 (by decide) rfl ?_
  refine st_newaI (N := 1601) (n' := 8) dX10_init_44 rfl zsh_7 (by decide) (by decide) (by decide +kernel) rfl (by decide +kernel) (by decide +kernel) rfl ?_
  refine st_putRF (r' := 6) dX10_init_46 zf_RX10_24 rfl zsh_2 (by decide) (by decide +kernel) rfl (by decide) rfl rfl ?_
  refine wp_aload_n (k := 0) dX10_init_49 0 rfl rfl ?_
  refine wp_bipush (v := nI 30) dX10_init_50 (by decide) rfl ?_
  refine st_newaI (N := 30) (n' := 9) dX10_init_52 rfl zsh_8 (by decide) (by decide) (by decide +kernel) rfl (by decide +kernel) (by decide +kernel) rfl ?_
  refine st_putRF (r' := 7) dX10_init_54 zf_RX10_27 rfl zsh_2 (by decide) (by decide +kernel) rfl (by decide) rfl rfl ?_
  refine wp_aload_n (k := 0) dX10_init_57 0 rfl rfl ?_
  refine wp_iconst (v := nI 0) dX10_init_58 (by decide) rfl ?_
  refine st_putI (i' := 2) dX10_init_59 zf_RX10_30 rfl zsh_2 (by decide) (by decide +kernel) rfl rfl ?_
  refine wp_aload_n (k := 0) dX10_init_62 0 rfl rfl ?_
  refine wp_iconst (v := nI 3) dX10_init_63 (by decide) rfl ?_
  refine st_putI (i' := 3) dX10_init_64 zf_RX10_34 rfl zsh_2 (by decide) (by decide +kernel) rfl rfl ?_
  refine wp_aload_n (k := 0) dX10_init_67 0 rfl rfl ?_
  refine wp_iconst (v := nI 0) dX10_init_68 (by decide) rfl ?_
  refine st_putI (i' := 4) dX10_init_69 zf_RX10_37 rfl zsh_2 (by decide) (by decide +kernel) rfl rfl ?_
  refine wp_aload_n (k := 0) dX10_init_72 0 rfl rfl ?_
  refine wp_iconst (v := nI 0) dX10_init_73 (by decide) rfl ?_
  refine st_putI (i' := 5) dX10_init_74 zf_RX10_40 rfl zsh_2 (by decide) (by decide +kernel) rfl rfl ?_
  refine wp_aload_n (k := 0) dX10_init_77 0 rfl rfl ?_
  refine wp_iconst (v := nI 0) dX10_init_78 (by decide) rfl ?_
  refine st_putI (i' := 6) dX10_init_79 zf_RX10_43 rfl zsh_2 (by decide) (by decide +kernel) rfl rfl ?_
  refine wp_aload_n (k := 0) dX10_init_82 0 rfl rfl ?_
  refine wp_iconst (v := (-1)) dX10_init_83 (by decide) rfl ?_
  refine st_putI (i' := 7) dX10_init_84 zf_RX10_46 rfl zsh_2 (by decide) (by decide +kernel) rfl rfl ?_
  refine wp_iconst (v := nI 0) dX10_init_87 (by decide) rfl ?_
  refine wp_istore_n (k := 1) (i := 1) (loc' := [(1, .int (nI 0)), (0, .ref 2)]) dX10_init_88 rfl (by decide) rfl rfl ?_
  refine wp_iconst (v := nI 0) dX10_init_89 (by decide) rfl ?_
  refine wp_istore_n (k := 2) (i := 2) (loc' := [(2, .int (nI 0)), (1, .int (nI 0)), (0, .ref 2)]) dX10_init_90 rfl (by decide) rfl rfl ?_
  refine wp_iconst (v := nI 0) dX10_init_91 (by decide) rfl ?_
  refine wp_istore_n (k := 3) (i := 3) (loc' := [(3, .int (nI 0)), (2, .int (nI 0)), (1, .int (nI 0)), (0, .ref 2)]) dX10_init_92 rfl (by decide) rfl rfl ?_
  refine x10_let (k := 0) (p := 0) (wd := 0) (i' := 8) (v := 0) (v' := 16) hX hB (by decide) (by decide) (by decide) (by decide) (by decide +kernel) (by decide +kernel) (by decide +kernel) rfl ?_
  refine x10_let (k := 1) (p := 1) (wd := 0) (i' := 9) (v := 16) (v' := 151) hX hB (by decide) (by decide) (by decide) (by decide) (by decide +kernel) (by decide +kernel) (by decide +kernel) rfl ?_
  refine x10_let (k := 2) (p := 2) (wd := 0) (i' := 10) (v := 151) (v' := 13273) hX hB (by decide) (by decide) (by decide) (by decide) (by decide +kernel) (by decide +kernel) (by decide +kernel) rfl ?_
  refine x10_let (k := 3) (p := 3) (wd := 0) (i' := 11) (v := 13273) (v' := 387250) hX hB (by decide) (by decide) (by decide) (by decide) (by decide +kernel) (by decide +kernel) (by decide +kernel) rfl ?_
  refine x10_let (k := 4) (p := 4) (wd := 0) (i' := 12) (v := 387250) (v' := 8358865) hX hB (by decide) (by decide) (by decide) (by decide) (by decide +kernel) (by decide +kernel) (by decide +kernel) rfl ?_
  refine x10_let (k := 5) (p := 5) (wd := 0) (i' := 13) (v := 8358865) (v' := 209243563) hX hB (by decide) (by decide) (by decide) (by decide) (by decide +kernel) (by decide +kernel) (by decide +kernel) rfl ?_
  refine x10_sp (k := 6) (p := 6) (wd := 0) hX hB (by decide) (by decide) (by decide) ?_
  refine x10_let (k := 7) (p := 0) (wd := 1) (i' := 14) (v := 0) (v' := 18) hX hB (by decide) (by decide) (by decide) (by decide) (by decide +kernel) (by decide +kernel) (by decide +kernel) rfl ?_
  refine x10_let (k := 8) (p := 1) (wd := 1) (i' := 15) (v := 18) (v' := 261) hX hB (by decide) (by decide) (by decide) (by decide) (by decide +kernel) (by decide +kernel) (by decide +kernel) rfl ?_
  refine x10_let (k := 9) (p := 2) (wd := 1) (i' := 16) (v := 261) (v' := 5364) hX hB (by decide) (by decide) (by decide) (by decide) (by decide +kernel) (by decide +kernel) (by decide +kernel) rfl ?_
  refine x10_let (k := 10) (p := 3) (wd := 1) (i' := 17) (v := 5364) (v' := 162828) hX hB (by decide) (by decide) (by decide) (by decide) (by decide +kernel) (by decide +kernel) (by decide +kernel) rfl ?_
  refine x10_let (k := 11) (p := 4) (wd := 1) (i' := 18) (v := 162828) (v' := 10791648) hX hB (by decide) (by decide) (by decide) (by decide) (by decide +kernel) (by decide +kernel) (by decide +kernel) rfl ?_
  refine x10_sp (k := 12) (p := 5) (wd := 1) hX hB (by decide) (by decide) (by decide) ?_
  refine x10_let (k := 13) (p := 0) (wd := 2) (i' := 19) (v := 0) (v' := 12) hX hB (by decide) (by decide) (by decide) (by decide) (by decide +kernel) (by decide +kernel) (by decide +kernel) rfl ?_
  refine x10_let (k := 14) (p := 1) (wd := 2) (i' := 20) (v := 12) (v' := 147) hX hB (by decide) (by decide) (by decide) (by decide) (by decide +kernel) (by decide +kernel) (by decide +kernel) rfl ?_
  refine x10_let (k := 15) (p := 2) (wd := 2) (i' := 21) (v := 147) (v' := 4521) hX hB (by decide) (by decide) (by decide) (by decide) (by decide +kernel) (by decide +kernel) (by decide +kernel) rfl ?_
  refine x10_let (k := 16) (p := 3) (wd := 2) (i' := 22) (v := 4521) (v' := 398181) hX hB (by decide) (by decide) (by decide) (by decide) (by decide +kernel) (by decide +kernel) (by decide +kernel) rfl ?_
  refine x10_sp (k := 17) (p := 4) (wd := 2) hX hB (by decide) (by decide) (by decide) ?_
  refine x10_let (k := 18) (p := 0) (wd := 3) (i' := 23) (v := 0) (v' := 8) hX hB (by decide) (by decide) (by decide) (by decide) (by decide +kernel) (by decide +kernel) (by decide +kernel) rfl ?_
  refine x10_let (k := 19) (p := 1) (wd := 3) (i' := 24) (v := 8) (v' := 413) hX hB (by decide) (by decide) (by decide) (by decide) (by decide +kernel) (by decide +kernel) (by decide +kernel) rfl ?_
  refine x10_let (k := 20) (p := 2) (wd := 3) (i' := 25) (v := 413) (v' := 9161) hX hB (by decide) (by decide) (by decide) (by decide) (by decide +kernel) (by decide +kernel) (by decide +kernel) rfl ?_
  refine x10_let (k := 21) (p := 3) (wd := 3) (i' := 26) (v := 9161) (v' := 87893) hX hB (by decide) (by decide) (by decide) (by decide) (by decide +kernel) (by decide +kernel) (by decide +kernel) rfl ?_
  refine x10_let (k := 22) (p := 4) (wd := 3) (i' := 27) (v := 87893) (v' := 10185272) hX hB (by decide) (by decide) (by decide) (by decide) (by decide +kernel) (by decide +kernel) (by decide +kernel) rfl ?_
  refine x10_sp (k := 23) (p := 5) (wd := 3) hX hB (by decide) (by decide) (by decide) ?_
  refine x10_let (k := 24) (p := 0) (wd := 4) (i' := 28) (v := 0) (v' := 19) hX hB (by decide) (by decide) (by decide) (by decide) (by decide +kernel) (by decide +kernel) (by decide +kernel) rfl ?_
  refine x10_let (k := 25) (p := 1) (wd := 4) (i' := 29) (v := 19) (v' := 154) hX hB (by decide) (by decide) (by decide) (by decide) (by decide +kernel) (by decide +kernel) (by decide +kernel) rfl ?_
  refine x10_let (k := 26) (p := 2) (wd := 4) (i' := 30) (v := 154) (v' := 883) hX hB (by decide) (by decide) (by decide) (by decide) (by decide +kernel) (by decide +kernel) (by decide +kernel) rfl ?_
  refine x10_let (k := 27) (p := 3) (wd := 4) (i' := 31) (v := 883) (v' := 256762) hX hB (by decide) (by decide) (by decide) (by decide) (by decide +kernel) (by decide +kernel) (by decide +kernel) rfl ?_
  refine x10_sp (k := 28) (p := 4) (wd := 4) hX hB (by decide) (by decide) (by decide) ?_
  refine x10_let (k := 29) (p := 0) (wd := 5) (i' := 32) (v := 0) (v' := 16) hX hB (by decide) (by decide) (by decide) (by decide) (by decide +kernel) (by decide +kernel) (by decide +kernel) rfl ?_
  refine x10_let (k := 30) (p := 1) (wd := 5) (i' := 33) (v := 16) (v' := 43) hX hB (by decide) (by decide) (by decide) (by decide) (by decide +kernel) (by decide +kernel) (by decide +kernel) rfl ?_
  refine x10_let (k := 31) (p := 2) (wd := 5) (i' := 34) (v := 43) (v' := 11707) hX hB (by decide) (by decide) (by decide) (by decide) (by decide +kernel) (by decide +kernel) (by decide +kernel) rfl ?_
  refine x10_let (k := 32) (p := 3) (wd := 5) (i' := 35) (v := 11707) (v' := 110122) hX hB (by decide) (by decide) (by decide) (by decide) (by decide +kernel) (by decide +kernel) (by decide +kernel) rfl ?_
  refine x10_let (k := 33) (p := 4) (wd := 5) (i' := 36) (v := 110122) (v' := 9676060) hX hB (by decide) (by decide) (by decide) (by decide) (by decide +kernel) (by decide +kernel) (by decide +kernel) rfl ?_
  refine x10_sp (k := 34) (p := 5) (wd := 5) hX hB (by decide) (by decide) (by decide) ?_
  refine x10_let (k := 35) (p := 0) (wd := 6) (i' := 37) (v := 0) (v' := 20) hX hB (by decide) (by decide) (by decide) (by decide) (by decide +kernel) (by decide +kernel) (by decide +kernel) rfl ?_
  refine x10_let (k := 36) (p := 1) (wd := 6) (i' := 38) (v := 20) (v' := 236) hX hB (by decide) (by decide) (by decide) (by decide) (by decide +kernel) (by decide +kernel) (by decide +kernel) rfl ?_
  refine x10_let (k := 37) (p := 2) (wd := 6) (i' := 39) (v := 236) (v' := 15545) hX hB (by decide) (by decide) (by decide) (by decide) (by decide +kernel) (by decide +kernel) (by decide +kernel) rfl ?_
  refine x10_let (k := 38) (p := 3) (wd := 6) (i' := 40) (v := 15545) (v' := 271424) hX hB (by decide) (by decide) (by decide) (by decide) (by decide +kernel) (by decide +kernel) (by decide +kernel) rfl ?_
  refine x10_let (k := 39) (p := 4) (wd := 6) (i' := 41) (v := 271424) (v' := 1334306) hX hB (by decide) (by decide) (by decide) (by decide) (by decide +kernel) (by decide +kernel) (by decide +kernel) rfl ?_
  refine x10_sp (k := 40) (p := 5) (wd := 6) hX hB (by decide) (by decide) (by decide) ?_
  refine x10_let (k := 41) (p := 0) (wd := 7) (i' := 42) (v := 0) (v' := 2) hX hB (by decide) (by decide) (by decide) (by decide) (by decide +kernel) (by decide +kernel) (by decide +kernel) rfl ?_
  refine x10_let (k := 42) (p := 1) (wd := 7) (i' := 43) (v := 2) (v' := 407) hX hB (by decide) (by decide) (by decide) (by decide) (by decide +kernel) (by decide +kernel) (by decide +kernel) rfl ?_
  refine x10_let (k := 43) (p := 2) (wd := 7) (i' := 44) (v := 407) (v' := 17903) hX hB (by decide) (by decide) (by decide) (by decide) (by decide +kernel) (by decide +kernel) (by decide +kernel) rfl ?_
  refine x10_sp (k := 44) (p := 3) (wd := 7) hX hB (by decide) (by decide) (by decide) ?_
  refine x10_let (k := 45) (p := 0) (wd := 8) (i' := 45) (v := 0) (v' := 4) hX hB (by decide) (by decide) (by decide) (by decide) (by decide +kernel) (by decide +kernel) (by decide +kernel) rfl ?_
  refine x10_let (k := 46) (p := 1) (wd := 8) (i' := 46) (v := 4) (v' := 571) hX hB (by decide) (by decide) (by decide) (by decide) (by decide +kernel) (by decide +kernel) (by decide +kernel) rfl ?_
  refine x10_let (k := 47) (p := 2) (wd := 8) (i' := 47) (v := 571) (v' := 3487) hX hB (by decide) (by decide) (by decide) (by decide) (by decide +kernel) (by decide +kernel) (by decide +kernel) rfl ?_
  refine x10_let (k := 48) (p := 3) (wd := 8) (i' := 48) (v := 3487) (v' := 377464) hX hB (by decide) (by decide) (by decide) (by decide) (by decide +kernel) (by decide +kernel) (by decide +kernel) rfl ?_
  refine x10_sp (k := 49) (p := 4) (wd := 8) hX hB (by decide) (by decide) (by decide) ?_
  refine x10_let (k := 50) (p := 0) (wd := 9) (i' := 49) (v := 0) (v' := 8) hX hB (by decide) (by decide) (by decide) (by decide) (by decide +kernel) (by decide +kernel) (by decide +kernel) rfl ?_
  refine x10_let (k := 51) (p := 1) (wd := 9) (i' := 50) (v := 8) (v' := 35) hX hB (by decide) (by decide) (by decide) (by decide) (by decide +kernel) (by decide +kernel) (by decide +kernel) rfl ?_
  refine x10_let (k := 52) (p := 2) (wd := 9) (i' := 51) (v := 35) (v' := 14615) hX hB (by decide) (by decide) (by decide) (by decide) (by decide +kernel) (by decide +kernel) (by decide +kernel) rfl ?_
  refine x10_let (k := 53) (p := 3) (wd := 9) (i' := 52) (v := 14615) (v' := 388592) hX hB (by decide) (by decide) (by decide) (by decide) (by decide +kernel) (by decide +kernel) (by decide +kernel) rfl ?_
  refine x10_sp (k := 54) (p := 4) (wd := 9) hX hB (by decide) (by decide) (by decide) ?_
  refine x10_let (k := 55) (p := 0) (wd := 10) (i' := 53) (v := 0) (v' := 16) hX hB (by decide) (by decide) (by decide) (by decide) (by decide +kernel) (by decide +kernel) (by decide +kernel) rfl ?_
  refine x10_let (k := 56) (p := 1) (wd := 10) (i' := 54) (v := 16) (v' := 583) hX hB (by decide) (by decide) (by decide) (by decide) (by decide +kernel) (by decide +kernel) (by decide +kernel) rfl ?_
  refine x10_let (k := 57) (p := 2) (wd := 10) (i' := 55) (v := 583) (v' := 9331) hX hB (by decide) (by decide) (by decide) (by decide) (by decide +kernel) (by decide +kernel) (by decide +kernel) rfl ?_
  refine x10_let (k := 58) (p := 3) (wd := 10) (i' := 56) (v := 9331) (v' := 245527) hX hB (by decide) (by decide) (by decide) (by decide) (by decide +kernel) (by decide +kernel) (by decide +kernel) rfl ?_
  refine x10_sp (k := 59) (p := 4) (wd := 10) hX hB (by decide) (by decide) (by decide) ?_
  refine x10_let (k := 60) (p := 0) (wd := 11) (i' := 57) (v := 0) (v' := 19) hX hB (by decide) (by decide) (by decide) (by decide) (by decide +kernel) (by decide +kernel) (by decide +kernel) rfl ?_
  refine x10_let (k := 61) (p := 1) (wd := 11) (i' := 58) (v := 19) (v' := 343) hX hB (by decide) (by decide) (by decide) (by decide) (by decide +kernel) (by decide +kernel) (by decide +kernel) rfl ?_
  refine x10_let (k := 62) (p := 2) (wd := 11) (i' := 59) (v := 343) (v' := 6904) hX hB (by decide) (by decide) (by decide) (by decide) (by decide +kernel) (by decide +kernel) (by decide +kernel) rfl ?_
  refine x10_let (k := 63) (p := 3) (wd := 11) (i' := 60) (v := 6904) (v' := 321832) hX hB (by decide) (by decide) (by decide) (by decide) (by decide +kernel) (by decide +kernel) (by decide +kernel) rfl ?_
  refine x10_sp (k := 64) (p := 4) (wd := 11) hX hB (by decide) (by decide) (by decide) ?_
  refine x10_let (k := 65) (p := 0) (wd := 12) (i' := 61) (v := 0) (v' := 2) hX hB (by decide) (by decide) (by decide) (by decide) (by decide +kernel) (by decide +kernel) (by decide +kernel) rfl ?_
  refine x10_let (k := 66) (p := 1) (wd := 12) (i' := 62) (v := 2) (v' := 29) hX hB (by decide) (by decide) (by decide) (by decide) (by decide +kernel) (by decide +kernel) (by decide +kernel) rfl ?_
  refine x10_let (k := 67) (p := 2) (wd := 12) (i' := 63) (v := 29) (v' := 10235) hX hB (by decide) (by decide) (by decide) (by decide) (by decide +kernel) (by decide +kernel) (by decide +kernel) rfl ?_
  refine x10_let (k := 68) (p := 3) (wd := 12) (i' := 64) (v := 10235) (v' := 148016) hX hB (by decide) (by decide) (by decide) (by decide) (by decide +kernel) (by decide +kernel) (by decide +kernel) rfl ?_
  refine x10_sp (k := 69) (p := 4) (wd := 12) hX hB (by decide) (by decide) (by decide) ?_
  refine x10_let (k := 70) (p := 0) (wd := 13) (i' := 65) (v := 0) (v' := 1) hX hB (by decide) (by decide) (by decide) (by decide) (by decide +kernel) (by decide +kernel) (by decide +kernel) rfl ?_
  refine x10_let (k := 71) (p := 1) (wd := 13) (i' := 66) (v := 1) (v' := 487) hX hB (by decide) (by decide) (by decide) (by decide) (by decide +kernel) (by decide +kernel) (by decide +kernel) rfl ?_
  refine x10_let (k := 72) (p := 2) (wd := 13) (i' := 67) (v := 487) (v' := 9964) hX hB (by decide) (by decide) (by decide) (by decide) (by decide +kernel) (by decide +kernel) (by decide +kernel) rfl ?_
  refine x10_sp (k := 73) (p := 3) (wd := 13) hX hB (by decide) (by decide) (by decide) ?_
  refine x10_let (k := 74) (p := 0) (wd := 14) (i' := 68) (v := 0) (v' := 12) hX hB (by decide) (by decide) (by decide) (by decide) (by decide +kernel) (by decide +kernel) (by decide +kernel) rfl ?_
  refine x10_let (k := 75) (p := 1) (wd := 14) (i' := 69) (v := 12) (v' := 417) hX hB (by decide) (by decide) (by decide) (by decide) (by decide +kernel) (by decide +kernel) (by decide +kernel) rfl ?_
  refine x10_let (k := 76) (p := 2) (wd := 14) (i' := 70) (v := 417) (v' := 17184) hX hB (by decide) (by decide) (by decide) (by decide) (by decide +kernel) (by decide +kernel) (by decide +kernel) rfl ?_
  refine x10_sp (k := 77) (p := 3) (wd := 14) hX hB (by decide) (by decide) (by decide) ?_
  refine x10_let (k := 78) (p := 0) (wd := 15) (i' := 71) (v := 0) (v' := 15) hX hB (by decide) (by decide) (by decide) (by decide) (by decide +kernel) (by decide +kernel) (by decide +kernel) rfl ?_
  refine x10_let (k := 79) (p := 1) (wd := 15) (i' := 72) (v := 15) (v' := 555) hX hB (by decide) (by decide) (by decide) (by decide) (by decide +kernel) (by decide +kernel) (by decide +kernel) rfl ?_
  refine x10_let (k := 80) (p := 2) (wd := 15) (i' := 73) (v := 555) (v' := 6387) hX hB (by decide) (by decide) (by decide) (by decide) (by decide +kernel) (by decide +kernel) (by decide +kernel) rfl ?_
  refine x10_let (k := 81) (p := 3) (wd := 15) (i' := 74) (v := 6387) (v' := 104802) hX hB (by decide) (by decide) (by decide) (by decide) (by decide +kernel) (by decide +kernel) (by decide +kernel) rfl ?_
  refine x10_let (k := 82) (p := 4) (wd := 15) (i' := 75) (v := 104802) (v' := 9670740) hX hB (by decide) (by decide) (by decide) (by decide) (by decide +kernel) (by decide +kernel) (by decide +kernel) rfl ?_
  refine x10_sp (k := 83) (p := 5) (wd := 15) hX hB (by decide) (by decide) (by decide) ?_
  refine x10_let (k := 84) (p := 0) (wd := 16) (i' := 76) (v := 0) (v' := 14) hX hB (by decide) (by decide) (by decide) (by decide) (by decide +kernel) (by decide +kernel) (by decide +kernel) rfl ?_
  refine x10_let (k := 85) (p := 1) (wd := 16) (i' := 77) (v := 14) (v' := 581) hX hB (by decide) (by decide) (by decide) (by decide) (by decide +kernel) (by decide +kernel) (by decide +kernel) rfl ?_
  refine x10_let (k := 86) (p := 2) (wd := 16) (i' := 78) (v := 581) (v' := 10058) hX hB (by decide) (by decide) (by decide) (by decide) (by decide +kernel) (by decide +kernel) (by decide +kernel) rfl ?_
  refine x10_let (k := 87) (p := 3) (wd := 16) (i' := 79) (v := 10058) (v' := 49424) hX hB (by decide) (by decide) (by decide) (by decide) (by decide +kernel) (by decide +kernel) (by decide +kernel) rfl ?_
  refine x10_let (k := 88) (p := 4) (wd := 16) (i' := 80) (v := 49424) (v' := 2706629) hX hB (by decide) (by decide) (by decide) (by decide) (by decide +kernel) (by decide +kernel) (by decide +kernel) rfl ?_
  refine x10_let (k := 89) (p := 5) (wd := 16) (i' := 81) (v := 2706629) (v' := 260986955) hX hB (by decide) (by decide) (by decide) (by decide) (by decide +kernel) (by decide +kernel) (by decide +kernel) rfl ?_
  refine x10_sp (k := 90) (p := 6) (wd := 16) hX hB (by decide) (by decide) (by decide) ?_
  refine x10_let (k := 91) (p := 0) (wd := 17) (i' := 82) (v := 0) (v' := 23) hX hB (by decide) (by decide) (by decide) (by decide) (by decide +kernel) (by decide +kernel) (by decide +kernel) rfl ?_
  refine x10_let (k := 92) (p := 1) (wd := 17) (i' := 83) (v := 23) (v' := 266) hX hB (by decide) (by decide) (by decide) (by decide) (by decide +kernel) (by decide +kernel) (by decide +kernel) rfl ?_
  refine x10_let (k := 93) (p := 2) (wd := 17) (i' := 84) (v := 266) (v' := 10472) hX hB (by decide) (by decide) (by decide) (by decide) (by decide +kernel) (by decide +kernel) (by decide +kernel) rfl ?_
  refine x10_let (k := 94) (p := 3) (wd := 17) (i' := 85) (v := 10472) (v' := 384449) hX hB (by decide) (by decide) (by decide) (by decide) (by decide +kernel) (by decide +kernel) (by decide +kernel) rfl ?_
  refine x10_sp (k := 95) (p := 4) (wd := 17) hX hB (by decide) (by decide) (by decide) ?_
  refine x10_let (k := 96) (p := 0) (wd := 18) (i' := 86) (v := 0) (v' := 15) hX hB (by decide) (by decide) (by decide) (by decide) (by decide +kernel) (by decide +kernel) (by decide +kernel) rfl ?_
  refine x10_let (k := 97) (p := 1) (wd := 18) (i' := 87) (v := 15) (v' := 501) hX hB (by decide) (by decide) (by decide) (by decide) (by decide +kernel) (by decide +kernel) (by decide +kernel) rfl ?_
  refine x10_sp (k := 98) (p := 2) (wd := 18) hX hB (by decide) (by decide) (by decide) ?_
  refine x10_let (k := 99) (p := 0) (wd := 19) (i' := 88) (v := 0) (v' := 1) hX hB (by decide) (by decide) (by decide) (by decide) (by decide +kernel) (by decide +kernel) (by decide +kernel) rfl ?_
  refine x10_let (k := 100) (p := 1) (wd := 19) (i' := 89) (v := 1) (v' := 379) hX hB (by decide) (by decide) (by decide) (by decide) (by decide +kernel) (by decide +kernel) (by decide +kernel) rfl ?_
  refine x10_let (k := 101) (p := 2) (wd := 19) (i' := 90) (v := 379) (v' := 3295) hX hB (by decide) (by decide) (by decide) (by decide) (by decide +kernel) (by decide +kernel) (by decide +kernel) rfl ?_
  refine x10_sp (k := 102) (p := 3) (wd := 19) hX hB (by decide) (by decide) (by decide) ?_
  refine x10_let (k := 103) (p := 0) (wd := 20) (i' := 91) (v := 0) (v' := 14) hX hB (by decide) (by decide) (by decide) (by decide) (by decide +kernel) (by decide +kernel) (by decide +kernel) rfl ?_
  refine x10_let (k := 104) (p := 1) (wd := 20) (i' := 92) (v := 14) (v' := 419) hX hB (by decide) (by decide) (by decide) (by decide) (by decide +kernel) (by decide +kernel) (by decide +kernel) rfl ?_
  refine x10_let (k := 105) (p := 2) (wd := 20) (i' := 93) (v := 419) (v' := 14999) hX hB (by decide) (by decide) (by decide) (by decide) (by decide +kernel) (by decide +kernel) (by decide +kernel) rfl ?_
  refine x10_sp (k := 106) (p := 3) (wd := 20) hX hB (by decide) (by decide) (by decide) ?_
  refine x10_let (k := 107) (p := 0) (wd := 21) (i' := 94) (v := 0) (v' := 1) hX hB (by decide) (by decide) (by decide) (by decide) (by decide +kernel) (by decide +kernel) (by decide +kernel) rfl ?_
  refine x10_let (k := 108) (p := 1) (wd := 21) (i' := 95) (v := 1) (v' := 325) hX hB (by decide) (by decide) (by decide) (by decide) (by decide +kernel) (by decide +kernel) (by decide +kernel) rfl ?_
  refine x10_let (k := 109) (p := 2) (wd := 21) (i' := 96) (v := 325) (v' := 9073) hX hB (by decide) (by decide) (by decide) (by decide) (by decide +kernel) (by decide +kernel) (by decide +kernel) rfl ?_
  refine x10_sp (k := 110) (p := 3) (wd := 21) hX hB (by decide) (by decide) (by decide) ?_
  refine x10_let (k := 111) (p := 0) (wd := 22) (i' := 97) (v := 0) (v' := 13) hX hB (by decide) (by decide) (by decide) (by decide) (by decide +kernel) (by decide +kernel) (by decide +kernel) rfl ?_
  refine x10_let (k := 112) (p := 1) (wd := 22) (i' := 98) (v := 13) (v' := 256) hX hB (by decide) (by decide) (by decide) (by decide) (by decide +kernel) (by decide +kernel) (by decide +kernel) rfl ?_
  refine x10_let (k := 113) (p := 2) (wd := 22) (i' := 99) (v := 256) (v' := 10462) hX hB (by decide) (by decide) (by decide) (by decide) (by decide +kernel) (by decide +kernel) (by decide +kernel) rfl ?_
  refine x10_sp (k := 114) (p := 3) (wd := 22) hX hB (by decide) (by decide) (by decide) ?_
  refine x10_let (k := 115) (p := 0) (wd := 23) (i' := 100) (v := 0) (v' := 13) hX hB (by decide) (by decide) (by decide) (by decide) (by decide +kernel) (by decide +kernel) (by decide +kernel) rfl ?_
  refine x10_let (k := 116) (p := 1) (wd := 23) (i' := 101) (v := 13) (v' := 40) hX hB (by decide) (by decide) (by decide) (by decide) (by decide +kernel) (by decide +kernel) (by decide +kernel) rfl ?_
  refine x10_let (k := 117) (p := 2) (wd := 23) (i' := 102) (v := 40) (v' := 17536) hX hB (by decide) (by decide) (by decide) (by decide) (by decide +kernel) (by decide +kernel) (by decide +kernel) rfl ?_
  refine x10_sp (k := 118) (p := 3) (wd := 23) hX hB (by decide) (by decide) (by decide) ?_
  refine x10_let (k := 119) (p := 0) (wd := 24) (i' := 103) (v := 0) (v' := 6) hX hB (by decide) (by decide) (by decide) (by decide) (by decide +kernel) (by decide +kernel) (by decide +kernel) rfl ?_
  refine x10_let (k := 120) (p := 1) (wd := 24) (i' := 104) (v := 6) (v' := 249) hX hB (by decide) (by decide) (by decide) (by decide) (by decide +kernel) (by decide +kernel) (by decide +kernel) rfl ?_
  refine x10_let (k := 121) (p := 2) (wd := 24) (i' := 105) (v := 249) (v' := 13371) hX hB (by decide) (by decide) (by decide) (by decide) (by decide +kernel) (by decide +kernel) (by decide +kernel) rfl ?_
  refine x10_let (k := 122) (p := 3) (wd := 24) (i' := 106) (v := 13371) (v' := 387348) hX hB (by decide) (by decide) (by decide) (by decide) (by decide +kernel) (by decide +kernel) (by decide +kernel) rfl ?_
  refine x10_let (k := 123) (p := 4) (wd := 24) (i' := 107) (v := 387348) (v' := 11016168) hX hB (by decide) (by decide) (by decide) (by decide) (by decide +kernel) (by decide +kernel) (by decide +kernel) rfl ?_
  refine x10_sp (k := 124) (p := 5) (wd := 24) hX hB (by decide) (by decide) (by decide) ?_
  refine x10_let (k := 125) (p := 0) (wd := 25) (i' := 108) (v := 0) (v' := 12) hX hB (by decide) (by decide) (by decide) (by decide) (by decide +kernel) (by decide +kernel) (by decide +kernel) rfl ?_
  refine x10_let (k := 126) (p := 1) (wd := 25) (i' := 109) (v := 12) (v' := 39) hX hB (by decide) (by decide) (by decide) (by decide) (by decide +kernel) (by decide +kernel) (by decide +kernel) rfl ?_
  refine x10_let (k := 127) (p := 2) (wd := 25) (i' := 110) (v := 39) (v' := 13890) hX hB (by decide) (by decide) (by decide) (by decide) (by decide +kernel) (by decide +kernel) (by decide +kernel) rfl ?_
  refine x10_let (k := 128) (p := 3) (wd := 25) (i' := 111) (v := 13890) (v' := 407550) hX hB (by decide) (by decide) (by decide) (by decide) (by decide +kernel) (by decide +kernel) (by decide +kernel) rfl ?_
  refine x10_sp (k := 129) (p := 4) (wd := 25) hX hB (by decide) (by decide) (by decide) ?_
  refine x10_let (k := 130) (p := 0) (wd := 26) (i' := 112) (v := 0) (v' := 15) hX hB (by decide) (by decide) (by decide) (by decide) (by decide +kernel) (by decide +kernel) (by decide +kernel) rfl ?_
  refine x10_let (k := 131) (p := 1) (wd := 26) (i' := 113) (v := 15) (v' := 177) hX hB (by decide) (by decide) (by decide) (by decide) (by decide +kernel) (by decide +kernel) (by decide +kernel) rfl ?_
  refine x10_let (k := 132) (p := 2) (wd := 26) (i' := 114) (v := 177) (v' := 14757) hX hB (by decide) (by decide) (by decide) (by decide) (by decide +kernel) (by decide +kernel) (by decide +kernel) rfl ?_
  refine x10_let (k := 133) (p := 3) (wd := 26) (i' := 115) (v := 14757) (v' := 113172) hX hB (by decide) (by decide) (by decide) (by decide) (by decide +kernel) (by decide +kernel) (by decide +kernel) rfl ?_
  refine x10_let (k := 134) (p := 4) (wd := 26) (i' := 116) (v := 113172) (v' := 7553346) hX hB (by decide) (by decide) (by decide) (by decide) (by decide +kernel) (by decide +kernel) (by decide +kernel) rfl ?_
  refine x10_sp (k := 135) (p := 5) (wd := 26) hX hB (by decide) (by decide) (by decide) ?_
  refine x10_let (k := 136) (p := 0) (wd := 27) (i' := 117) (v := 0) (v' := 20) hX hB (by decide) (by decide) (by decide) (by decide) (by decide +kernel) (by decide +kernel) (by decide +kernel) rfl ?_
  refine x10_let (k := 137) (p := 1) (wd := 27) (i' := 118) (v := 20) (v' := 425) hX hB (by decide) (by decide) (by decide) (by decide) (by decide +kernel) (by decide +kernel) (by decide +kernel) rfl ?_
  refine x10_let (k := 138) (p := 2) (wd := 27) (i' := 119) (v := 425) (v' := 15005) hX hB (by decide) (by decide) (by decide) (by decide) (by decide +kernel) (by decide +kernel) (by decide +kernel) rfl ?_
  refine x10_let (k := 139) (p := 3) (wd := 27) (i' := 120) (v := 15005) (v' := 34688) hX hB (by decide) (by decide) (by decide) (by decide) (by decide +kernel) (by decide +kernel) (by decide +kernel) rfl ?_
  refine x10_let (k := 140) (p := 4) (wd := 27) (i' := 121) (v := 34688) (v' := 6411980) hX hB (by decide) (by decide) (by decide) (by decide) (by decide +kernel) (by decide +kernel) (by decide +kernel) rfl ?_
  refine x10_sp (k := 141) (p := 5) (wd := 27) hX hB (by decide) (by decide) (by decide) ?_
  refine x10_let (k := 142) (p := 0) (wd := 28) (i' := 122) (v := 0) (v' := 13) hX hB (by decide) (by decide) (by decide) (by decide) (by decide +kernel) (by decide +kernel) (by decide +kernel) rfl ?_
  refine x10_let (k := 143) (p := 1) (wd := 28) (i' := 123) (v := 13) (v' := 418) hX hB (by decide) (by decide) (by decide) (by decide) (by decide +kernel) (by decide +kernel) (by decide +kernel) rfl ?_
  refine x10_let (k := 144) (p := 2) (wd := 28) (i' := 124) (v := 418) (v' := 14269) hX hB (by decide) (by decide) (by decide) (by decide) (by decide +kernel) (by decide +kernel) (by decide +kernel) rfl ?_
  refine x10_let (k := 145) (p := 3) (wd := 28) (i' := 125) (v := 14269) (v' := 407929) hX hB (by decide) (by decide) (by decide) (by decide) (by decide +kernel) (by decide +kernel) (by decide +kernel) rfl ?_
  refine x10_sp (k := 146) (p := 4) (wd := 28) hX hB (by decide) (by decide) (by decide) ?_
  refine x10_let (k := 147) (p := 0) (wd := 29) (i' := 126) (v := 0) (v' := 12) hX hB (by decide) (by decide) (by decide) (by decide) (by decide +kernel) (by decide +kernel) (by decide +kernel) rfl ?_
  refine x10_let (k := 148) (p := 1) (wd := 29) (i' := 127) (v := 12) (v' := 147) hX hB (by decide) (by decide) (by decide) (by decide) (by decide +kernel) (by decide +kernel) (by decide +kernel) rfl ?_
  refine x10_let (k := 149) (p := 2) (wd := 29) (i' := 128) (v := 147) (v' := 876) hX hB (by decide) (by decide) (by decide) (by decide) (by decide +kernel) (by decide +kernel) (by decide +kernel) rfl ?_
  refine x10_let (k := 150) (p := 3) (wd := 29) (i' := 129) (v := 876) (v' := 374853) hX hB (by decide) (by decide) (by decide) (by decide) (by decide +kernel) (by decide +kernel) (by decide +kernel) rfl ?_
  refine x10_let (k := 151) (p := 4) (wd := 29) (i' := 130) (v := 374853) (v' := 11003673) hX hB (by decide) (by decide) (by decide) (by decide) (by decide +kernel) (by decide +kernel) (by decide +kernel) rfl ?_
  refine x10_sp (k := 152) (p := 5) (wd := 29) hX hB (by decide) (by decide) (by decide) ?_
  refine x10_end1 hX hB ?_
  exact wp_return dX10_init_168 rfl ⟨rfl, rfl, rfl, rfl, rfl⟩ (by decide +kernel) (by decide +kernel)
theorem ctX11_0 : Spx yX11_init YX11_init 7 [.ref 0] (SS.take 1) (cqM 0) (cqL 0) (cqQ 0) 176 19786 (cqS 177 254 182 0) := by
  refine Spx.of (by decide +kernel) rfl (fun _ => rfl) (Nat.le_of_ble_eq_true rfl) ?_
  intro w G hX
  show WP w YX11_init (7, SS.take 1, 176, 19786) G _ 0 [(0, .ref 0)] [] (SS.take 1) (cqM 0) (cqL 0) (cqQ 0)
  refine wp_aload_n (k := 0) dX11_init_0 0 rfl rfl ?_
  refine wp_objInit dX11_init_1 zl_RX11_1 (by decide) (by decide) rfl ?_
  refine wp_aload_n (k := 0) dX11_init_4 0 rfl rfl ?_
  refine wp_sipush (v := nI 1600) dX11_init_5 (by decide) rfl ?_
  refine st_newaI (N := 1600) (n' := 2) dX11_init_8 rfl zsh_1 (by decide) (by decide) (by decide +kernel) rfl (by decide +kernel) (by decide +kernel) rfl ?_
  refine st_putRF (r' := 1) dX11_init_10 zf_RX11_9 rfl zsh_0 (by decide) (by decide +kernel) rfl (by decide) rfl rfl ?_
  refine wp_aload_n (k := 0) dX11_init_13 0 rfl rfl ?_
  refine wp_iconst (v := nI 0) dX11_init_14 (by decide) rfl ?_
  refine st_putI (i' := 1) dX11_init_15 zf_RX11_13 rfl zsh_0 (by decide) (by decide +kernel) rfl rfl ?_
  refine wp_aload_n (k := 0) dX11_init_18 0 rfl rfl ?_
  refine st_new (n' := 3) dX11_init_19 zn_RX11_17 zsh_2 (by decide) (by decide +kernel) rfl (by decide +kernel) (by decide +kernel) rfl ?_
  refine wp_dup dX11_init_22 rfl rfl ?_
  refine st_callIx hX (as := []) (o := 2) ctX10_2 zm_X10_init zl_RX11_19 dX11_init_23 rfl (by decide) (by decide) (by decide +kernel) (by decide +kernel) rfl ?_
  refine st_putRF (r' := 8) dX11_init_26 zf_RX11_20 rfl zsh_0 (by decide) (by decide +kernel) rfl (by decide) rfl rfl ?_
  refine wp_aload_n (k := 0) dX11_init_29 0 rfl rfl ?_
  refine st_new (n' := 10) dX11_init_30 zn_RX11_24 zsh_9 (by decide) (by decide +kernel) rfl (by decide +kernel) (by decide +kernel) rfl ?_
  refine wp_dup dX11_init_33 rfl rfl ?_
  refine wp_aload_n (k := 0) dX11_init_34 0 rfl rfl ?_
  refine st_getR (v := 2) dX11_init_35 zf_RX11_20 rfl zsh_0 (by decide) (by decide +kernel) rfl ?_
  refine st_callI (as := [.ref 2]) (o := 9) ctX8_9 zm_X8_init zl_RX11_26 dX11_init_38 rfl (by decide) (by decide) (by decide +kernel) (by decide +kernel) rfl ?_
  refine st_putRF (r' := 10) dX11_init_41 zf_RX11_29 rfl zsh_0 (by decide) (by decide +kernel) rfl (by decide) rfl rfl ?_
  refine wp_aload_n (k := 0) dX11_init_44 0 rfl rfl ?_
  refine st_new (n' := 11) dX11_init_45 zn_RX11_33 zsh_10 (by decide) (by decide +kernel) rfl (by decide +kernel) (by decide +kernel) rfl ?_
  refine wp_dup dX11_init_48 rfl rfl ?_
  refine st_callI (as := []) (o := 10) ctX9_10 zm_X9_init zl_RX11_35 dX11_init_49 rfl (by decide) (by decide) (by decide +kernel) (by decide +kernel) rfl ?_
  refine st_putR (r' := 24) dX11_init_52 zf_RX11_36 rfl zsh_0 (by decide) (by decide +kernel) rfl rfl ?_
  refine wp_aload_n (k := 0) dX11_init_55 0 rfl rfl ?_
  refine st_new (n' := 25) dX11_init_56 zn_RX11_33 zsh_24 (by decide) (by decide +kernel) rfl (by decide +kernel) (by decide +kernel) rfl ?_
  refine wp_dup dX11_init_59 rfl rfl ?_
  refine st_callI (as := []) (o := 24) ctX9_24 zm_X9_init zl_RX11_35 dX11_init_60 rfl (by decide) (by decide) (by decide +kernel) (by decide +kernel) rfl ?_
  refine st_putR (r' := 38) dX11_init_63 zf_RX11_40 rfl zsh_0 (by decide) (by decide +kernel) rfl rfl ?_
  refine wp_aload_n (k := 0) dX11_init_66 0 rfl rfl ?_
  refine st_new (n' := 39) dX11_init_67 zn_RX11_43 zsh_38 (by decide) (by decide +kernel) rfl (by decide +kernel) (by decide +kernel) rfl ?_
  refine wp_dup dX11_init_70 rfl rfl ?_
  refine wp_aload_n (k := 0) dX11_init_71 0 rfl rfl ?_
  refine st_getR (v := 2) dX11_init_72 zf_RX11_20 rfl zsh_0 (by decide) (by decide +kernel) rfl ?_
  refine wp_aload_n (k := 0) dX11_init_75 0 rfl rfl ?_
  refine st_getR (v := 9) dX11_init_76 zf_RX11_29 rfl zsh_0 (by decide) (by decide +kernel) rfl ?_
  refine st_callI (as := [.ref 2, .ref 9]) (o := 38) ctX5_38 zm_X5_init zl_RX11_45 dX11_init_79 rfl (by decide) (by decide) (by decide +kernel) (by decide +kernel) rfl ?_
  refine st_putRF (r' := 45) dX11_init_82 zf_RX11_48 rfl zsh_0 (by decide) (by decide +kernel) rfl (by decide) rfl rfl ?_
  refine wp_aload_n (k := 0) dX11_init_85 0 rfl rfl ?_
  refine st_new (n' := 44) dX11_init_86 zn_RX11_52 zsh_43 (by decide) (by decide +kernel) rfl (by decide +kernel) (by decide +kernel) rfl ?_
  refine wp_dup dX11_init_89 rfl rfl ?_
  refine st_callI (as := []) (o := 43) ctX7_43 zm_X7_init zl_RX11_54 dX11_init_90 rfl (by decide) (by decide) (by decide +kernel) (by decide +kernel) rfl ?_
  refine st_putRF (r' := 50) dX11_init_93 zf_RX11_55 rfl zsh_0 (by decide) (by decide +kernel) rfl (by decide) rfl rfl ?_
  refine wp_aload_n (k := 0) dX11_init_96 0 rfl rfl ?_
  refine st_new (n' := 49) dX11_init_97 zn_RX11_59 zsh_48 (by decide) (by decide +kernel) rfl (by decide +kernel) (by decide +kernel) rfl ?_
  refine wp_dup dX11_init_100 rfl rfl ?_
  refine st_callI (as := []) (o := 48) ctX2_48 zm_X2_init zl_RX11_61 dX11_init_101 rfl (by decide) (by decide) (by decide +kernel) (by decide +kernel) rfl ?_
  refine st_putRF (r' := 152) dX11_init_104 zf_RX11_62 rfl zsh_0 (by decide) (by decide +kernel) rfl (by decide) rfl rfl ?_
  refine wp_aload_n (k := 0) dX11_init_107 0 rfl rfl ?_
  refine st_new (n' := 151) dX11_init_108 zn_RX11_66 zsh_150 (by decide) (by decide +kernel) rfl (by decide +kernel) (by decide +kernel) rfl ?_
  refine wp_dup dX11_init_111 rfl rfl ?_
  refine wp_aload_n (k := 0) dX11_init_112 0 rfl rfl ?_
  refine st_getR (v := 10) dX11_init_113 zf_RX11_36 rfl zsh_0 (by decide) (by decide +kernel) rfl ?_
  refine st_callI (as := [.ref 10]) (o := 150) ctX4_150 zm_X4_init zl_RX11_68 dX11_init_116 rfl (by decide) (by decide) (by decide +kernel) (by decide +kernel) rfl ?_
  refine st_putRF (r' := 159) dX11_init_119 zf_RX11_71 rfl zsh_0 (by decide) (by decide +kernel) rfl (by decide) rfl rfl ?_
  refine wp_aload_n (k := 0) dX11_init_122 0 rfl rfl ?_
  refine st_new (n' := 157) dX11_init_123 zn_RX11_75 zsh_156 (by decide) (by decide +kernel) rfl (by decide +kernel) (by decide +kernel) rfl ?_
  refine wp_dup dX11_init_126 rfl rfl ?_
  refine wp_aload_n (k := 0) dX11_init_127 0 rfl rfl ?_
  refine st_getR (v := 150) dX11_init_128 zf_RX11_71 rfl zsh_0 (by decide) (by decide +kernel) rfl ?_
  refine st_callI (as := [.ref 150]) (o := 156) ctX3_156 zm_X3_init zl_RX11_77 dX11_init_131 rfl (by decide) (by decide) (by decide +kernel) (by decide +kernel) rfl ?_
  refine st_putRF (r' := 171) dX11_init_134 zf_RX11_80 rfl zsh_0 (by decide) (by decide +kernel) rfl (by decide) rfl rfl ?_
  refine wp_aload_n (k := 0) dX11_init_137 0 rfl rfl ?_
  refine st_new (n' := 168) dX11_init_138 zn_RX11_84 zsh_167 (by decide) (by decide +kernel) rfl (by decide +kernel) (by decide +kernel) rfl ?_
  refine wp_dup dX11_init_141 rfl rfl ?_
  refine wp_aload_n (k := 0) dX11_init_142 0 rfl rfl ?_
  refine st_getR (v := 150) dX11_init_143 zf_RX11_71 rfl zsh_0 (by decide) (by decide +kernel) rfl ?_
  refine st_callI (as := [.ref 150]) (o := 167) ctX6_167 zm_X6_init zl_RX11_86 dX11_init_146 rfl (by decide) (by decide) (by decide +kernel) (by decide +kernel) rfl ?_
  refine st_putRF (r' := 177) dX11_init_149 zf_RX11_87 rfl zsh_0 (by decide) (by decide +kernel) rfl (by decide) rfl rfl ?_
  refine wp_aload_n (k := 0) dX11_init_152 0 rfl rfl ?_
  refine st_new (n' := 173) dX11_init_153 zn_RX11_91 zsh_172 (by decide) (by decide +kernel) rfl (by decide +kernel) (by decide +kernel) rfl ?_
  refine wp_dup dX11_init_156 rfl rfl ?_
  refine st_callI (as := []) (o := 172) ctX1_172 zm_X1_init zl_RX11_93 dX11_init_157 rfl (by decide) (by decide) (by decide +kernel) (by decide +kernel) rfl ?_
  refine st_putRF (r' := 180) dX11_init_160 zf_RX11_94 rfl zsh_0 (by decide) (by decide +kernel) rfl (by decide) rfl rfl ?_
  refine wp_aload_n (k := 0) dX11_init_163 0 rfl rfl ?_
  refine wp_bipush (v := nI 55) dX11_init_164 (by decide) rfl ?_
  refine st_newaI (N := 55) (n' := 176) dX11_init_166 rfl zsh_175 (by decide) (by decide) (by decide +kernel) rfl (by decide +kernel) (by decide +kernel) rfl ?_
  refine st_putRF (r' := 181) dX11_init_168 zf_RX11_98 rfl zsh_0 (by decide) (by decide +kernel) rfl (by decide) rfl rfl ?_
  refine wp_aload_n (k := 0) dX11_init_171 0 rfl rfl ?_
  refine wp_iconst (v := nI 0) dX11_init_172 (by decide) rfl ?_
  refine st_putI (i' := 251) dX11_init_173 zf_RX11_101 rfl zsh_0 (by decide) (by decide +kernel) rfl rfl ?_
  refine wp_aload_n (k := 0) dX11_init_176 0 rfl rfl ?_
  refine wp_iconst (v := nI 1) dX11_init_177 (by decide) rfl ?_
  refine st_putI (i' := 252) dX11_init_178 zf_RX11_104 rfl zsh_0 (by decide) (by decide +kernel) rfl rfl ?_
  refine wp_aload_n (k := 0) dX11_init_181 0 rfl rfl ?_
  refine wp_iconst (v := nI 0) dX11_init_182 (by decide) rfl ?_
  refine st_putI (i' := 253) dX11_init_183 zf_RX11_107 rfl zsh_0 (by decide) (by decide +kernel) rfl rfl ?_
  refine wp_aload_n (k := 0) dX11_init_186 0 rfl rfl ?_
  refine wp_iconst (v := (-1)) dX11_init_187 (by decide) rfl ?_
  refine st_putI (i' := 254) dX11_init_188 zf_RX11_110 rfl zsh_0 (by decide) (by decide +kernel) rfl rfl ?_
  refine wp_aload_n (k := 0) dX11_init_191 0 rfl rfl ?_
  refine wp_bipush (v := nI 6) dX11_init_192 (by decide) rfl ?_
  refine st_newaI (N := 6) (n' := 177) dX11_init_194 rfl zsh_176 (by decide) (by decide) (by decide +kernel) rfl (by decide +kernel) (by decide +kernel) rfl ?_
  refine st_putRF (r' := 182) dX11_init_196 zf_RX11_113 rfl zsh_0 (by decide) (by decide +kernel) rfl (by decide) rfl rfl ?_
  exact wp_return dX11_init_199 rfl ⟨rfl, rfl, rfl, rfl, rfl⟩ (by decide +kernel) (by decide +kernel)

