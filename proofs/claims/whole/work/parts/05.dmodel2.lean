theorem dX12_letter_114 : decode cX12_letter 114 = .ok (.iload_n 3, 1) := by decide +kernel
theorem dX12_letter_115 : decode cX12_letter 115 = .ok (.if_icmp .le 17, 3) := by decide +kernel
theorem dX12_letter_118 : decode cX12_letter 118 = .ok (.lload 4, 2) := by decide +kernel
theorem dX12_letter_120 : decode cX12_letter 120 = .ok (.ldc2_w 287, 3) := by decide +kernel
theorem dX12_letter_123 : decode cX12_letter 123 = .ok (.ldiv, 1) := by decide +kernel
theorem dX12_letter_124 : decode cX12_letter 124 = .ok (.lstore 4, 2) := by decide +kernel
theorem dX12_letter_126 : decode cX12_letter 126 = .ok (.iinc 7 (-1), 3) := by decide +kernel
theorem dX12_letter_129 : decode cX12_letter 129 = .ok (.goto (-17), 3) := by decide +kernel
theorem dX12_letter_132 : decode cX12_letter 132 = .ok (.lload 4, 2) := by decide +kernel
theorem dX12_letter_134 : decode cX12_letter 134 = .ok (.ldc2_w 287, 3) := by decide +kernel
theorem dX12_letter_137 : decode cX12_letter 137 = .ok (.lrem, 1) := by decide +kernel
theorem dX12_letter_138 : decode cX12_letter 138 = .ok (.l2i, 1) := by decide +kernel
theorem dX12_letter_139 : decode cX12_letter 139 = .ok (.ireturn, 1) := by decide +kernel
theorem dX12_seat_0 : decode cX12_seat 0 = .ok (.aload_n 0, 1) := by decide +kernel
theorem dX12_seat_1 : decode cX12_seat 1 = .ok (.iload_n 1, 1) := by decide +kernel
theorem dX12_seat_2 : decode cX12_seat 2 = .ok (.invokevirtual 477, 3) := by decide +kernel
theorem dX12_seat_5 : decode cX12_seat 5 = .ok (.ifCond .ne 5, 3) := by decide +kernel
theorem dX12_seat_8 : decode cX12_seat 8 = .ok (.iconst (-1), 1) := by decide +kernel
theorem dX12_seat_9 : decode cX12_seat 9 = .ok (.ireturn, 1) := by decide +kernel
theorem dX12_seat_10 : decode cX12_seat 10 = .ok (.iload_n 2, 1) := by decide +kernel
theorem dX12_seat_11 : decode cX12_seat 11 = .ok (.tableswitch 85 0 7 #[45, 51, 57, 57, 66, 66, 75, 75], 45) := by decide +kernel
theorem dX12_seat_56 : decode cX12_seat 56 = .ok (.aload_n 0, 1) := by decide +kernel
theorem dX12_seat_57 : decode cX12_seat 57 = .ok (.iload_n 1, 1) := by decide +kernel
theorem dX12_seat_58 : decode cX12_seat 58 = .ok (.invokevirtual 411, 3) := by decide +kernel
theorem dX12_seat_61 : decode cX12_seat 61 = .ok (.ireturn, 1) := by decide +kernel
theorem dX12_seat_62 : decode cX12_seat 62 = .ok (.aload_n 0, 1) := by decide +kernel
theorem dX12_seat_63 : decode cX12_seat 63 = .ok (.iload_n 1, 1) := by decide +kernel
theorem dX12_seat_64 : decode cX12_seat 64 = .ok (.invokevirtual 460, 3) := by decide +kernel
theorem dX12_seat_67 : decode cX12_seat 67 = .ok (.ireturn, 1) := by decide +kernel
theorem dX12_seat_68 : decode cX12_seat 68 = .ok (.aload_n 0, 1) := by decide +kernel
theorem dX12_seat_69 : decode cX12_seat 69 = .ok (.iload_n 1, 1) := by decide +kernel
theorem dX12_seat_70 : decode cX12_seat 70 = .ok (.iload_n 2, 1) := by decide +kernel
theorem dX12_seat_71 : decode cX12_seat 71 = .ok (.iconst 2, 1) := by decide +kernel
theorem dX12_seat_72 : decode cX12_seat 72 = .ok (.isub, 1) := by decide +kernel
theorem dX12_seat_73 : decode cX12_seat 73 = .ok (.invokevirtual 415, 3) := by decide +kernel
theorem dX12_seat_76 : decode cX12_seat 76 = .ok (.ireturn, 1) := by decide +kernel
theorem dX12_seat_77 : decode cX12_seat 77 = .ok (.aload_n 0, 1) := by decide +kernel
theorem dX12_seat_78 : decode cX12_seat 78 = .ok (.iload_n 1, 1) := by decide +kernel
theorem dX12_seat_79 : decode cX12_seat 79 = .ok (.iload_n 2, 1) := by decide +kernel
theorem dX12_seat_80 : decode cX12_seat 80 = .ok (.iconst 4, 1) := by decide +kernel
theorem dX12_seat_81 : decode cX12_seat 81 = .ok (.isub, 1) := by decide +kernel
theorem dX12_seat_82 : decode cX12_seat 82 = .ok (.invokevirtual 421, 3) := by decide +kernel
theorem dX12_seat_85 : decode cX12_seat 85 = .ok (.ireturn, 1) := by decide +kernel
theorem dX12_seat_86 : decode cX12_seat 86 = .ok (.aload_n 0, 1) := by decide +kernel
theorem dX12_seat_87 : decode cX12_seat 87 = .ok (.iload_n 1, 1) := by decide +kernel
theorem dX12_seat_88 : decode cX12_seat 88 = .ok (.iload_n 2, 1) := by decide +kernel
theorem dX12_seat_89 : decode cX12_seat 89 = .ok (.bipush 6, 2) := by decide +kernel
theorem dX12_seat_91 : decode cX12_seat 91 = .ok (.isub, 1) := by decide +kernel
theorem dX12_seat_92 : decode cX12_seat 92 = .ok (.invokevirtual 418, 3) := by decide +kernel
theorem dX12_seat_95 : decode cX12_seat 95 = .ok (.ireturn, 1) := by decide +kernel
theorem dX12_seat_96 : decode cX12_seat 96 = .ok (.iconst (-1), 1) := by decide +kernel
theorem dX12_seat_97 : decode cX12_seat 97 = .ok (.ireturn, 1) := by decide +kernel
theorem dX12_box_0 : decode cX12_box 0 = .ok (.iload_n 1, 1) := by decide +kernel
theorem dX12_box_1 : decode cX12_box 1 = .ok (.i2l, 1) := by decide +kernel
theorem dX12_box_2 : decode cX12_box 2 = .ok (.lconst 0, 1) := by decide +kernel
theorem dX12_box_3 : decode cX12_box 3 = .ok (.aload_n 0, 1) := by decide +kernel
theorem dX12_box_4 : decode cX12_box 4 = .ok (.invokevirtual 466, 3) := by decide +kernel
theorem dX12_box_7 : decode cX12_box 7 = .ok (.iconst 1, 1) := by decide +kernel
theorem dX12_box_8 : decode cX12_box 8 = .ok (.isub, 1) := by decide +kernel
theorem dX12_box_9 : decode cX12_box 9 = .ok (.i2l, 1) := by decide +kernel
theorem dX12_box_10 : decode cX12_box 10 = .ok (.invokestatic 276, 3) := by decide +kernel
theorem dX12_box_13 : decode cX12_box 13 = .ok (.ifCond .eq 14, 3) := by decide +kernel
theorem dX12_box_16 : decode cX12_box 16 = .ok (.aload_n 0, 1) := by decide +kernel
theorem dX12_box_17 : decode cX12_box 17 = .ok (.getfield 103, 3) := by decide +kernel
theorem dX12_box_20 : decode cX12_box 20 = .ok (.iconst 4, 1) := by decide +kernel
theorem dX12_box_21 : decode cX12_box 21 = .ok (.iload_n 1, 1) := by decide +kernel
theorem dX12_box_22 : decode cX12_box 22 = .ok (.iadd, 1) := by decide +kernel
theorem dX12_box_23 : decode cX12_box 23 = .ok (.iaload, 1) := by decide +kernel
theorem dX12_box_24 : decode cX12_box 24 = .ok (.goto 4, 3) := by decide +kernel
theorem dX12_box_27 : decode cX12_box 27 = .ok (.iconst (-1), 1) := by decide +kernel
theorem dX12_box_28 : decode cX12_box 28 = .ok (.ireturn, 1) := by decide +kernel
theorem dX12_cracker_0 : decode cX12_cracker 0 = .ok (.iload_n 1, 1) := by decide +kernel
theorem dX12_cracker_1 : decode cX12_cracker 1 = .ok (.i2l, 1) := by decide +kernel
theorem dX12_cracker_2 : decode cX12_cracker 2 = .ok (.lconst 0, 1) := by decide +kernel
theorem dX12_cracker_3 : decode cX12_cracker 3 = .ok (.aload_n 0, 1) := by decide +kernel
theorem dX12_cracker_4 : decode cX12_cracker 4 = .ok (.invokevirtual 463, 3) := by decide +kernel
theorem dX12_cracker_7 : decode cX12_cracker 7 = .ok (.iconst 1, 1) := by decide +kernel
theorem dX12_cracker_8 : decode cX12_cracker 8 = .ok (.isub, 1) := by decide +kernel
theorem dX12_cracker_9 : decode cX12_cracker 9 = .ok (.i2l, 1) := by decide +kernel
theorem dX12_cracker_10 : decode cX12_cracker 10 = .ok (.invokestatic 276, 3) := by decide +kernel
theorem dX12_cracker_13 : decode cX12_cracker 13 = .ok (.ifCond .ne 5, 3) := by decide +kernel
theorem dX12_cracker_16 : decode cX12_cracker 16 = .ok (.iconst (-1), 1) := by decide +kernel
theorem dX12_cracker_17 : decode cX12_cracker 17 = .ok (.ireturn, 1) := by decide +kernel
theorem dX12_cracker_18 : decode cX12_cracker 18 = .ok (.aload_n 0, 1) := by decide +kernel
theorem dX12_cracker_19 : decode cX12_cracker 19 = .ok (.iload_n 1, 1) := by decide +kernel
theorem dX12_cracker_20 : decode cX12_cracker 20 = .ok (.invokevirtual 442, 3) := by decide +kernel
theorem dX12_cracker_23 : decode cX12_cracker 23 = .ok (.istore_n 3, 1) := by decide +kernel
theorem dX12_cracker_24 : decode cX12_cracker 24 = .ok (.iload_n 2, 1) := by decide +kernel
theorem dX12_cracker_25 : decode cX12_cracker 25 = .ok (.tableswitch 90 0 6 #[43, 51, 59, 67, 75, 75, 84], 43) := by decide +kernel
theorem dX12_cracker_68 : decode cX12_cracker 68 = .ok (.aload_n 0, 1) := by decide +kernel
theorem dX12_cracker_69 : decode cX12_cracker 69 = .ok (.iload_n 1, 1) := by decide +kernel
theorem dX12_cracker_70 : decode cX12_cracker 70 = .ok (.iconst 0, 1) := by decide +kernel
theorem dX12_cracker_71 : decode cX12_cracker 71 = .ok (.iload_n 3, 1) := by decide +kernel
theorem dX12_cracker_72 : decode cX12_cracker 72 = .ok (.invokevirtual 435, 3) := by decide +kernel
theorem dX12_cracker_75 : decode cX12_cracker 75 = .ok (.ireturn, 1) := by decide +kernel
theorem dX12_cracker_76 : decode cX12_cracker 76 = .ok (.aload_n 0, 1) := by decide +kernel
theorem dX12_cracker_77 : decode cX12_cracker 77 = .ok (.iload_n 3, 1) := by decide +kernel
theorem dX12_cracker_78 : decode cX12_cracker 78 = .ok (.iconst 1, 1) := by decide +kernel
theorem dX12_cracker_79 : decode cX12_cracker 79 = .ok (.iload_n 1, 1) := by decide +kernel
theorem dX12_cracker_80 : decode cX12_cracker 80 = .ok (.invokevirtual 435, 3) := by decide +kernel
theorem dX12_cracker_83 : decode cX12_cracker 83 = .ok (.ireturn, 1) := by decide +kernel
theorem dX12_cracker_84 : decode cX12_cracker 84 = .ok (.aload_n 0, 1) := by decide +kernel
theorem dX12_cracker_85 : decode cX12_cracker 85 = .ok (.iload_n 1, 1) := by decide +kernel
theorem dX12_cracker_86 : decode cX12_cracker 86 = .ok (.iconst 0, 1) := by decide +kernel
theorem dX12_cracker_87 : decode cX12_cracker 87 = .ok (.iload_n 3, 1) := by decide +kernel
theorem dX12_cracker_88 : decode cX12_cracker 88 = .ok (.invokevirtual 439, 3) := by decide +kernel
theorem dX12_cracker_91 : decode cX12_cracker 91 = .ok (.ireturn, 1) := by decide +kernel
theorem dX12_cracker_92 : decode cX12_cracker 92 = .ok (.aload_n 0, 1) := by decide +kernel
theorem dX12_cracker_93 : decode cX12_cracker 93 = .ok (.iload_n 3, 1) := by decide +kernel
theorem dX12_cracker_94 : decode cX12_cracker 94 = .ok (.iconst 1, 1) := by decide +kernel
theorem dX12_cracker_95 : decode cX12_cracker 95 = .ok (.iload_n 1, 1) := by decide +kernel
theorem dX12_cracker_96 : decode cX12_cracker 96 = .ok (.invokevirtual 439, 3) := by decide +kernel
theorem dX12_cracker_99 : decode cX12_cracker 99 = .ok (.ireturn, 1) := by decide +kernel
theorem dX12_cracker_100 : decode cX12_cracker 100 = .ok (.aload_n 0, 1) := by decide +kernel
theorem dX12_cracker_101 : decode cX12_cracker 101 = .ok (.iload_n 1, 1) := by decide +kernel
theorem dX12_cracker_102 : decode cX12_cracker 102 = .ok (.iload_n 2, 1) := by decide +kernel
theorem dX12_cracker_103 : decode cX12_cracker 103 = .ok (.iconst 4, 1) := by decide +kernel
theorem dX12_cracker_104 : decode cX12_cracker 104 = .ok (.isub, 1) := by decide +kernel
theorem dX12_cracker_105 : decode cX12_cracker 105 = .ok (.invokevirtual 448, 3) := by decide +kernel
theorem dX12_cracker_108 : decode cX12_cracker 108 = .ok (.ireturn, 1) := by decide +kernel
theorem dX12_cracker_109 : decode cX12_cracker 109 = .ok (.aload_n 0, 1) := by decide +kernel
theorem dX12_cracker_110 : decode cX12_cracker 110 = .ok (.iload_n 1, 1) := by decide +kernel
theorem dX12_cracker_111 : decode cX12_cracker 111 = .ok (.invokevirtual 480, 3) := by decide +kernel
theorem dX12_cracker_114 : decode cX12_cracker 114 = .ok (.ireturn, 1) := by decide +kernel
theorem dX12_cracker_115 : decode cX12_cracker 115 = .ok (.iconst (-1), 1) := by decide +kernel
theorem dX12_cracker_116 : decode cX12_cracker 116 = .ok (.ireturn, 1) := by decide +kernel
theorem dX12_odds_0 : decode cX12_odds 0 = .ok (.aload_n 0, 1) := by decide +kernel
theorem dX12_odds_1 : decode cX12_odds 1 = .ok (.invokevirtual 463, 3) := by decide +kernel
theorem dX12_odds_4 : decode cX12_odds 4 = .ok (.ifCond .eq 23, 3) := by decide +kernel
theorem dX12_odds_7 : decode cX12_odds 7 = .ok (.aload_n 0, 1) := by decide +kernel
theorem dX12_odds_8 : decode cX12_odds 8 = .ok (.iload_n 1, 1) := by decide +kernel
theorem dX12_odds_9 : decode cX12_odds 9 = .ok (.invokevirtual 477, 3) := by decide +kernel
theorem dX12_odds_12 : decode cX12_odds 12 = .ok (.ifCond .eq 15, 3) := by decide +kernel
theorem dX12_odds_15 : decode cX12_odds 15 = .ok (.iload_n 2, 1) := by decide +kernel
theorem dX12_odds_16 : decode cX12_odds 16 = .ok (.i2l, 1) := by decide +kernel
theorem dX12_odds_17 : decode cX12_odds 17 = .ok (.lconst 0, 1) := by decide +kernel
theorem dX12_odds_18 : decode cX12_odds 18 = .ok (.ldc2_w 483, 3) := by decide +kernel
theorem dX12_odds_21 : decode cX12_odds 21 = .ok (.invokestatic 276, 3) := by decide +kernel
theorem dX12_odds_24 : decode cX12_odds 24 = .ok (.ifCond .ne 5, 3) := by decide +kernel
theorem dX12_odds_27 : decode cX12_odds 27 = .ok (.iconst (-1), 1) := by decide +kernel
theorem dX12_odds_28 : decode cX12_odds 28 = .ok (.ireturn, 1) := by decide +kernel
theorem dX12_odds_29 : decode cX12_odds 29 = .ok (.aload_n 0, 1) := by decide +kernel
theorem dX12_odds_30 : decode cX12_odds 30 = .ok (.iload_n 1, 1) := by decide +kernel
theorem dX12_odds_31 : decode cX12_odds 31 = .ok (.iload_n 2, 1) := by decide +kernel
theorem dX12_odds_32 : decode cX12_odds 32 = .ok (.invokevirtual 485, 3) := by decide +kernel
theorem dX12_odds_35 : decode cX12_odds 35 = .ok (.ldc2_w 489, 3) := by decide +kernel
theorem dX12_odds_38 : decode cX12_odds 38 = .ok (.ldiv, 1) := by decide +kernel
theorem dX12_odds_39 : decode cX12_odds 39 = .ok (.l2i, 1) := by decide +kernel
theorem dX12_odds_40 : decode cX12_odds 40 = .ok (.ireturn, 1) := by decide +kernel
theorem dX12_mean_0 : decode cX12_mean 0 = .ok (.aload_n 0, 1) := by decide +kernel
theorem dX12_mean_1 : decode cX12_mean 1 = .ok (.invokevirtual 463, 3) := by decide +kernel
theorem dX12_mean_4 : decode cX12_mean 4 = .ok (.ifCond .eq 15, 3) := by decide +kernel
theorem dX12_mean_7 : decode cX12_mean 7 = .ok (.iload_n 1, 1) := by decide +kernel
theorem dX12_mean_8 : decode cX12_mean 8 = .ok (.i2l, 1) := by decide +kernel
theorem dX12_mean_9 : decode cX12_mean 9 = .ok (.lconst 0, 1) := by decide +kernel
theorem dX12_mean_10 : decode cX12_mean 10 = .ok (.ldc2_w 483, 3) := by decide +kernel
theorem dX12_mean_13 : decode cX12_mean 13 = .ok (.invokestatic 276, 3) := by decide +kernel
theorem dX12_mean_16 : decode cX12_mean 16 = .ok (.ifCond .ne 5, 3) := by decide +kernel
theorem dX12_mean_19 : decode cX12_mean 19 = .ok (.iconst (-1), 1) := by decide +kernel
theorem dX12_mean_20 : decode cX12_mean 20 = .ok (.ireturn, 1) := by decide +kernel
theorem dX12_mean_21 : decode cX12_mean 21 = .ok (.lconst 0, 1) := by decide +kernel
theorem dX12_mean_22 : decode cX12_mean 22 = .ok (.lstore_n 2, 1) := by decide +kernel
theorem dX12_mean_23 : decode cX12_mean 23 = .ok (.iconst 0, 1) := by decide +kernel
theorem dX12_mean_24 : decode cX12_mean 24 = .ok (.istore 4, 2) := by decide +kernel
theorem dX12_mean_26 : decode cX12_mean 26 = .ok (.iload 4, 2) := by decide +kernel
theorem dX12_mean_28 : decode cX12_mean 28 = .ok (.aload_n 0, 1) := by decide +kernel
theorem dX12_mean_29 : decode cX12_mean 29 = .ok (.invokevirtual 408, 3) := by decide +kernel
theorem dX12_mean_32 : decode cX12_mean 32 = .ok (.if_icmp .ge 19, 3) := by decide +kernel
theorem dX12_mean_35 : decode cX12_mean 35 = .ok (.lload_n 2, 1) := by decide +kernel
theorem dX12_mean_36 : decode cX12_mean 36 = .ok (.aload_n 0, 1) := by decide +kernel
theorem dX12_mean_37 : decode cX12_mean 37 = .ok (.iload 4, 2) := by decide +kernel
theorem dX12_mean_39 : decode cX12_mean 39 = .ok (.iload_n 1, 1) := by decide +kernel
theorem dX12_mean_40 : decode cX12_mean 40 = .ok (.invokevirtual 485, 3) := by decide +kernel
theorem dX12_mean_43 : decode cX12_mean 43 = .ok (.ladd, 1) := by decide +kernel
theorem dX12_mean_44 : decode cX12_mean 44 = .ok (.lstore_n 2, 1) := by decide +kernel
theorem dX12_mean_45 : decode cX12_mean 45 = .ok (.iinc 4 1, 3) := by decide +kernel
theorem dX12_mean_48 : decode cX12_mean 48 = .ok (.goto (-22), 3) := by decide +kernel
theorem dX12_mean_51 : decode cX12_mean 51 = .ok (.lload_n 2, 1) := by decide +kernel
theorem dX12_mean_52 : decode cX12_mean 52 = .ok (.ldc2_w 491, 3) := by decide +kernel
theorem dX12_mean_55 : decode cX12_mean 55 = .ok (.ldiv, 1) := by decide +kernel
theorem dX12_mean_56 : decode cX12_mean 56 = .ok (.l2i, 1) := by decide +kernel
theorem dX12_mean_57 : decode cX12_mean 57 = .ok (.ireturn, 1) := by decide +kernel
theorem dX12_noneBy_0 : decode cX12_noneBy 0 = .ok (.iload_n 1, 1) := by decide +kernel
theorem dX12_noneBy_1 : decode cX12_noneBy 1 = .ok (.istore_n 2, 1) := by decide +kernel
theorem dX12_noneBy_2 : decode cX12_noneBy 2 = .ok (.iconst 0, 1) := by decide +kernel
theorem dX12_noneBy_3 : decode cX12_noneBy 3 = .ok (.istore_n 3, 1) := by decide +kernel
theorem dX12_noneBy_4 : decode cX12_noneBy 4 = .ok (.iload_n 3, 1) := by decide +kernel
theorem dX12_noneBy_5 : decode cX12_noneBy 5 = .ok (.aload_n 0, 1) := by decide +kernel
theorem dX12_noneBy_6 : decode cX12_noneBy 6 = .ok (.invokevirtual 463, 3) := by decide +kernel
theorem dX12_noneBy_9 : decode cX12_noneBy 9 = .ok (.if_icmp .ge 42, 3) := by decide +kernel
theorem dX12_noneBy_12 : decode cX12_noneBy 12 = .ok (.aload_n 0, 1) := by decide +kernel
theorem dX12_noneBy_13 : decode cX12_noneBy 13 = .ok (.getfield 133, 3) := by decide +kernel
theorem dX12_noneBy_16 : decode cX12_noneBy 16 = .ok (.iload_n 3, 1) := by decide +kernel
theorem dX12_noneBy_17 : decode cX12_noneBy 17 = .ok (.iload_n 2, 1) := by decide +kernel
theorem dX12_noneBy_18 : decode cX12_noneBy 18 = .ok (.iconst 3, 1) := by decide +kernel
theorem dX12_noneBy_19 : decode cX12_noneBy 19 = .ok (.irem, 1) := by decide +kernel
theorem dX12_noneBy_20 : decode cX12_noneBy 20 = .ok (.iastore, 1) := by decide +kernel
theorem dX12_noneBy_21 : decode cX12_noneBy 21 = .ok (.iload_n 2, 1) := by decide +kernel
theorem dX12_noneBy_22 : decode cX12_noneBy 22 = .ok (.iconst 3, 1) := by decide +kernel
theorem dX12_noneBy_23 : decode cX12_noneBy 23 = .ok (.idiv, 1) := by decide +kernel
theorem dX12_noneBy_24 : decode cX12_noneBy 24 = .ok (.istore_n 2, 1) := by decide +kernel
theorem dX12_noneBy_25 : decode cX12_noneBy 25 = .ok (.aload_n 0, 1) := by decide +kernel
theorem dX12_noneBy_26 : decode cX12_noneBy 26 = .ok (.getfield 136, 3) := by decide +kernel
theorem dX12_noneBy_29 : decode cX12_noneBy 29 = .ok (.iconst 3, 1) := by decide +kernel
theorem dX12_noneBy_30 : decode cX12_noneBy 30 = .ok (.iload_n 3, 1) := by decide +kernel
theorem dX12_noneBy_31 : decode cX12_noneBy 31 = .ok (.imul, 1) := by decide +kernel
theorem dX12_noneBy_32 : decode cX12_noneBy 32 = .ok (.aload_n 0, 1) := by decide +kernel
theorem dX12_noneBy_33 : decode cX12_noneBy 33 = .ok (.getfield 133, 3) := by decide +kernel
theorem dX12_noneBy_36 : decode cX12_noneBy 36 = .ok (.iload_n 3, 1) := by decide +kernel
theorem dX12_noneBy_37 : decode cX12_noneBy 37 = .ok (.iaload, 1) := by decide +kernel
theorem dX12_noneBy_38 : decode cX12_noneBy 38 = .ok (.iadd, 1) := by decide +kernel
theorem dX12_noneBy_39 : decode cX12_noneBy 39 = .ok (.iaload, 1) := by decide +kernel
theorem dX12_noneBy_40 : decode cX12_noneBy 40 = .ok (.ifCond .ne 5, 3) := by decide +kernel
theorem dX12_noneBy_43 : decode cX12_noneBy 43 = .ok (.iconst (-1), 1) := by decide +kernel
theorem dX12_noneBy_44 : decode cX12_noneBy 44 = .ok (.ireturn, 1) := by decide +kernel
theorem dX12_noneBy_45 : decode cX12_noneBy 45 = .ok (.iinc 3 1, 3) := by decide +kernel
theorem dX12_noneBy_48 : decode cX12_noneBy 48 = .ok (.goto (-44), 3) := by decide +kernel
theorem dX12_noneBy_51 : decode cX12_noneBy 51 = .ok (.iconst 0, 1) := by decide +kernel
theorem dX12_noneBy_52 : decode cX12_noneBy 52 = .ok (.istore_n 3, 1) := by decide +kernel
theorem dX12_noneBy_53 : decode cX12_noneBy 53 = .ok (.iconst 0, 1) := by decide +kernel
theorem dX12_noneBy_54 : decode cX12_noneBy 54 = .ok (.istore 4, 2) := by decide +kernel
theorem dX12_noneBy_56 : decode cX12_noneBy 56 = .ok (.iload 4, 2) := by decide +kernel
theorem dX12_noneBy_58 : decode cX12_noneBy 58 = .ok (.aload_n 0, 1) := by decide +kernel
theorem dX12_noneBy_59 : decode cX12_noneBy 59 = .ok (.invokevirtual 408, 3) := by decide +kernel
theorem dX12_noneBy_62 : decode cX12_noneBy 62 = .ok (.if_icmp .ge 37, 3) := by decide +kernel
theorem dX12_noneBy_65 : decode cX12_noneBy 65 = .ok (.aload_n 0, 1) := by decide +kernel
theorem dX12_noneBy_66 : decode cX12_noneBy 66 = .ok (.getfield 133, 3) := by decide +kernel
theorem dX12_noneBy_69 : decode cX12_noneBy 69 = .ok (.iload 4, 2) := by decide +kernel
theorem dX12_noneBy_71 : decode cX12_noneBy 71 = .ok (.iaload, 1) := by decide +kernel
theorem dX12_noneBy_72 : decode cX12_noneBy 72 = .ok (.ifCond .eq 21, 3) := by decide +kernel
theorem dX12_noneBy_75 : decode cX12_noneBy 75 = .ok (.aload_n 0, 1) := by decide +kernel
theorem dX12_noneBy_76 : decode cX12_noneBy 76 = .ok (.getfield 133, 3) := by decide +kernel
theorem dX12_noneBy_79 : decode cX12_noneBy 79 = .ok (.aload_n 0, 1) := by decide +kernel
theorem dX12_noneBy_80 : decode cX12_noneBy 80 = .ok (.iload 4, 2) := by decide +kernel
theorem dX12_noneBy_82 : decode cX12_noneBy 82 = .ok (.invokevirtual 453, 3) := by decide +kernel
theorem dX12_noneBy_85 : decode cX12_noneBy 85 = .ok (.iaload, 1) := by decide +kernel
theorem dX12_noneBy_86 : decode cX12_noneBy 86 = .ok (.iconst 1, 1) := by decide +kernel
theorem dX12_noneBy_87 : decode cX12_noneBy 87 = .ok (.if_icmp .eq 6, 3) := by decide +kernel
theorem dX12_noneBy_90 : decode cX12_noneBy 90 = .ok (.iinc 3 1, 3) := by decide +kernel
theorem dX12_noneBy_93 : decode cX12_noneBy 93 = .ok (.iinc 4 1, 3) := by decide +kernel
theorem dX12_noneBy_96 : decode cX12_noneBy 96 = .ok (.goto (-40), 3) := by decide +kernel
theorem dX12_noneBy_99 : decode cX12_noneBy 99 = .ok (.iload_n 3, 1) := by decide +kernel
theorem dX12_noneBy_100 : decode cX12_noneBy 100 = .ok (.ireturn, 1) := by decide +kernel
theorem dX12_most_0 : decode cX12_most 0 = .ok (.aload_n 0, 1) := by decide +kernel
theorem dX12_most_1 : decode cX12_most 1 = .ok (.invokevirtual 463, 3) := by decide +kernel
theorem dX12_most_4 : decode cX12_most 4 = .ok (.ifCond .ne 5, 3) := by decide +kernel
theorem dX12_most_7 : decode cX12_most 7 = .ok (.iconst (-1), 1) := by decide +kernel
theorem dX12_most_8 : decode cX12_most 8 = .ok (.ireturn, 1) := by decide +kernel
theorem dX12_most_9 : decode cX12_most 9 = .ok (.iconst 1, 1) := by decide +kernel
theorem dX12_most_10 : decode cX12_most 10 = .ok (.istore_n 1, 1) := by decide +kernel
theorem dX12_most_11 : decode cX12_most 11 = .ok (.iconst 0, 1) := by decide +kernel
theorem dX12_most_12 : decode cX12_most 12 = .ok (.istore_n 2, 1) := by decide +kernel
theorem dX12_most_13 : decode cX12_most 13 = .ok (.iload_n 2, 1) := by decide +kernel
theorem dX12_most_14 : decode cX12_most 14 = .ok (.aload_n 0, 1) := by decide +kernel
theorem dX12_most_15 : decode cX12_most 15 = .ok (.invokevirtual 463, 3) := by decide +kernel
theorem dX12_most_18 : decode cX12_most 18 = .ok (.if_icmp .ge 58, 3) := by decide +kernel
theorem dX12_most_21 : decode cX12_most 21 = .ok (.iload_n 1, 1) := by decide +kernel
theorem dX12_most_22 : decode cX12_most 22 = .ok (.iconst 3, 1) := by decide +kernel
theorem dX12_most_23 : decode cX12_most 23 = .ok (.imul, 1) := by decide +kernel
theorem dX12_most_24 : decode cX12_most 24 = .ok (.istore_n 1, 1) := by decide +kernel
theorem dX12_most_25 : decode cX12_most 25 = .ok (.aload_n 0, 1) := by decide +kernel
theorem dX12_most_26 : decode cX12_most 26 = .ok (.getfield 136, 3) := by decide +kernel
theorem dX12_most_29 : decode cX12_most 29 = .ok (.iconst 3, 1) := by decide +kernel
theorem dX12_most_30 : decode cX12_most 30 = .ok (.iload_n 2, 1) := by decide +kernel
theorem dX12_most_31 : decode cX12_most 31 = .ok (.imul, 1) := by decide +kernel
theorem dX12_most_32 : decode cX12_most 32 = .ok (.aload_n 0, 1) := by decide +kernel
theorem dX12_most_33 : decode cX12_most 33 = .ok (.iload_n 2, 1) := by decide +kernel
theorem dX12_most_34 : decode cX12_most 34 = .ok (.iconst 0, 1) := by decide +kernel
theorem dX12_most_35 : decode cX12_most 35 = .ok (.invokevirtual 448, 3) := by decide +kernel
theorem dX12_most_38 : decode cX12_most 38 = .ok (.iastore, 1) := by decide +kernel
theorem dX12_most_39 : decode cX12_most 39 = .ok (.aload_n 0, 1) := by decide +kernel
theorem dX12_most_40 : decode cX12_most 40 = .ok (.getfield 136, 3) := by decide +kernel
theorem dX12_most_43 : decode cX12_most 43 = .ok (.iconst 3, 1) := by decide +kernel
theorem dX12_most_44 : decode cX12_most 44 = .ok (.iload_n 2, 1) := by decide +kernel
theorem dX12_most_45 : decode cX12_most 45 = .ok (.imul, 1) := by decide +kernel
theorem dX12_most_46 : decode cX12_most 46 = .ok (.iconst 1, 1) := by decide +kernel
theorem dX12_most_47 : decode cX12_most 47 = .ok (.iadd, 1) := by decide +kernel
theorem dX12_most_48 : decode cX12_most 48 = .ok (.aload_n 0, 1) := by decide +kernel
theorem dX12_most_49 : decode cX12_most 49 = .ok (.iload_n 2, 1) := by decide +kernel
theorem dX12_most_50 : decode cX12_most 50 = .ok (.iconst 1, 1) := by decide +kernel
theorem dX12_most_51 : decode cX12_most 51 = .ok (.invokevirtual 448, 3) := by decide +kernel
theorem dX12_most_54 : decode cX12_most 54 = .ok (.iastore, 1) := by decide +kernel
theorem dX12_most_55 : decode cX12_most 55 = .ok (.aload_n 0, 1) := by decide +kernel
theorem dX12_most_56 : decode cX12_most 56 = .ok (.getfield 136, 3) := by decide +kernel
theorem dX12_most_59 : decode cX12_most 59 = .ok (.iconst 3, 1) := by decide +kernel
theorem dX12_most_60 : decode cX12_most 60 = .ok (.iload_n 2, 1) := by decide +kernel
theorem dX12_most_61 : decode cX12_most 61 = .ok (.imul, 1) := by decide +kernel
theorem dX12_most_62 : decode cX12_most 62 = .ok (.iconst 2, 1) := by decide +kernel
theorem dX12_most_63 : decode cX12_most 63 = .ok (.iadd, 1) := by decide +kernel
theorem dX12_most_64 : decode cX12_most 64 = .ok (.aload_n 0, 1) := by decide +kernel
theorem dX12_most_65 : decode cX12_most 65 = .ok (.iload_n 2, 1) := by decide +kernel
theorem dX12_most_66 : decode cX12_most 66 = .ok (.invokevirtual 480, 3) := by decide +kernel
theorem dX12_most_69 : decode cX12_most 69 = .ok (.iastore, 1) := by decide +kernel
theorem dX12_most_70 : decode cX12_most 70 = .ok (.iinc 2 1, 3) := by decide +kernel
theorem dX12_most_73 : decode cX12_most 73 = .ok (.goto (-60), 3) := by decide +kernel
theorem dX12_most_76 : decode cX12_most 76 = .ok (.iconst (-1), 1) := by decide +kernel
theorem dX12_most_77 : decode cX12_most 77 = .ok (.istore_n 2, 1) := by decide +kernel
theorem dX12_most_78 : decode cX12_most 78 = .ok (.iconst 0, 1) := by decide +kernel
theorem dX12_most_79 : decode cX12_most 79 = .ok (.istore_n 3, 1) := by decide +kernel
theorem dX12_most_80 : decode cX12_most 80 = .ok (.iload_n 3, 1) := by decide +kernel
theorem dX12_most_81 : decode cX12_most 81 = .ok (.iload_n 1, 1) := by decide +kernel
theorem dX12_most_82 : decode cX12_most 82 = .ok (.if_icmp .ge 24, 3) := by decide +kernel
theorem dX12_most_85 : decode cX12_most 85 = .ok (.aload_n 0, 1) := by decide +kernel
theorem dX12_most_86 : decode cX12_most 86 = .ok (.iload_n 3, 1) := by decide +kernel
theorem dX12_most_87 : decode cX12_most 87 = .ok (.invokevirtual 493, 3) := by decide +kernel
theorem dX12_most_90 : decode cX12_most 90 = .ok (.iload_n 2, 1) := by decide +kernel
theorem dX12_most_91 : decode cX12_most 91 = .ok (.if_icmp .le 9, 3) := by decide +kernel
theorem dX12_most_94 : decode cX12_most 94 = .ok (.aload_n 0, 1) := by decide +kernel
theorem dX12_most_95 : decode cX12_most 95 = .ok (.iload_n 3, 1) := by decide +kernel
theorem dX12_most_96 : decode cX12_most 96 = .ok (.invokevirtual 493, 3) := by decide +kernel
theorem dX12_most_99 : decode cX12_most 99 = .ok (.istore_n 2, 1) := by decide +kernel
theorem dX12_most_100 : decode cX12_most 100 = .ok (.iinc 3 1, 3) := by decide +kernel
theorem dX12_most_103 : decode cX12_most 103 = .ok (.goto (-23), 3) := by decide +kernel
theorem dX12_most_106 : decode cX12_most 106 = .ok (.iload_n 2, 1) := by decide +kernel
theorem dX12_most_107 : decode cX12_most 107 = .ok (.ireturn, 1) := by decide +kernel
theorem dX12_noneOfRow_0 : decode cX12_noneOfRow 0 = .ok (.lconst 0, 1) := by decide +kernel
theorem dX12_noneOfRow_1 : decode cX12_noneOfRow 1 = .ok (.lstore_n 2, 1) := by decide +kernel
theorem dX12_noneOfRow_2 : decode cX12_noneOfRow 2 = .ok (.iconst 0, 1) := by decide +kernel
theorem dX12_noneOfRow_3 : decode cX12_noneOfRow 3 = .ok (.istore 4, 2) := by decide +kernel
theorem dX12_noneOfRow_5 : decode cX12_noneOfRow 5 = .ok (.iload 4, 2) := by decide +kernel
theorem dX12_noneOfRow_7 : decode cX12_noneOfRow 7 = .ok (.iload_n 1, 1) := by decide +kernel
theorem dX12_noneOfRow_8 : decode cX12_noneOfRow 8 = .ok (.if_icmp .ge 73, 3) := by decide +kernel
theorem dX12_noneOfRow_11 : decode cX12_noneOfRow 11 = .ok (.aload_n 0, 1) := by decide +kernel
theorem dX12_noneOfRow_12 : decode cX12_noneOfRow 12 = .ok (.getfield 145, 3) := by decide +kernel
theorem dX12_noneOfRow_15 : decode cX12_noneOfRow 15 = .ok (.iload 4, 2) := by decide +kernel
theorem dX12_noneOfRow_17 : decode cX12_noneOfRow 17 = .ok (.iaload, 1) := by decide +kernel
theorem dX12_noneOfRow_18 : decode cX12_noneOfRow 18 = .ok (.istore 5, 2) := by decide +kernel
theorem dX12_noneOfRow_20 : decode cX12_noneOfRow 20 = .ok (.lload_n 2, 1) := by decide +kernel
theorem dX12_noneOfRow_21 : decode cX12_noneOfRow 21 = .ok (.aload_n 0, 1) := by decide +kernel
theorem dX12_noneOfRow_22 : decode cX12_noneOfRow 22 = .ok (.getfield 139, 3) := by decide +kernel
theorem dX12_noneOfRow_25 : decode cX12_noneOfRow 25 = .ok (.bipush 8, 2) := by decide +kernel
theorem dX12_noneOfRow_27 : decode cX12_noneOfRow 27 = .ok (.iload 5, 2) := by decide +kernel
theorem dX12_noneOfRow_29 : decode cX12_noneOfRow 29 = .ok (.imul, 1) := by decide +kernel
theorem dX12_noneOfRow_30 : decode cX12_noneOfRow 30 = .ok (.aload_n 0, 1) := by decide +kernel
theorem dX12_noneOfRow_31 : decode cX12_noneOfRow 31 = .ok (.getfield 145, 3) := by decide +kernel
theorem dX12_noneOfRow_34 : decode cX12_noneOfRow 34 = .ok (.iload 4, 2) := by decide +kernel
theorem dX12_noneOfRow_36 : decode cX12_noneOfRow 36 = .ok (.iconst 1, 1) := by decide +kernel
theorem dX12_noneOfRow_37 : decode cX12_noneOfRow 37 = .ok (.iadd, 1) := by decide +kernel
theorem dX12_noneOfRow_38 : decode cX12_noneOfRow 38 = .ok (.iload_n 1, 1) := by decide +kernel
theorem dX12_noneOfRow_39 : decode cX12_noneOfRow 39 = .ok (.irem, 1) := by decide +kernel
theorem dX12_noneOfRow_40 : decode cX12_noneOfRow 40 = .ok (.iaload, 1) := by decide +kernel
theorem dX12_noneOfRow_41 : decode cX12_noneOfRow 41 = .ok (.iadd, 1) := by decide +kernel
theorem dX12_noneOfRow_42 : decode cX12_noneOfRow 42 = .ok (.iaload, 1) := by decide +kernel
theorem dX12_noneOfRow_43 : decode cX12_noneOfRow 43 = .ok (.i2l, 1) := by decide +kernel
theorem dX12_noneOfRow_44 : decode cX12_noneOfRow 44 = .ok (.aload_n 0, 1) := by decide +kernel
theorem dX12_noneOfRow_45 : decode cX12_noneOfRow 45 = .ok (.getfield 142, 3) := by decide +kernel
theorem dX12_noneOfRow_48 : decode cX12_noneOfRow 48 = .ok (.bipush 8, 2) := by decide +kernel
theorem dX12_noneOfRow_50 : decode cX12_noneOfRow 50 = .ok (.aload_n 0, 1) := by decide +kernel
theorem dX12_noneOfRow_51 : decode cX12_noneOfRow 51 = .ok (.getfield 145, 3) := by decide +kernel
theorem dX12_noneOfRow_54 : decode cX12_noneOfRow 54 = .ok (.iload 4, 2) := by decide +kernel
theorem dX12_noneOfRow_56 : decode cX12_noneOfRow 56 = .ok (.iload_n 1, 1) := by decide +kernel
theorem dX12_noneOfRow_57 : decode cX12_noneOfRow 57 = .ok (.iadd, 1) := by decide +kernel
theorem dX12_noneOfRow_58 : decode cX12_noneOfRow 58 = .ok (.iconst 1, 1) := by decide +kernel
theorem dX12_noneOfRow_59 : decode cX12_noneOfRow 59 = .ok (.isub, 1) := by decide +kernel
theorem dX12_noneOfRow_60 : decode cX12_noneOfRow 60 = .ok (.iload_n 1, 1) := by decide +kernel
theorem dX12_noneOfRow_61 : decode cX12_noneOfRow 61 = .ok (.irem, 1) := by decide +kernel
theorem dX12_noneOfRow_62 : decode cX12_noneOfRow 62 = .ok (.iaload, 1) := by decide +kernel
theorem dX12_noneOfRow_63 : decode cX12_noneOfRow 63 = .ok (.imul, 1) := by decide +kernel
theorem dX12_noneOfRow_64 : decode cX12_noneOfRow 64 = .ok (.iload 5, 2) := by decide +kernel
theorem dX12_noneOfRow_66 : decode cX12_noneOfRow 66 = .ok (.iadd, 1) := by decide +kernel
theorem dX12_noneOfRow_67 : decode cX12_noneOfRow 67 = .ok (.iaload, 1) := by decide +kernel
theorem dX12_noneOfRow_68 : decode cX12_noneOfRow 68 = .ok (.i2l, 1) := by decide +kernel
theorem dX12_noneOfRow_69 : decode cX12_noneOfRow 69 = .ok (.iconst 0, 1) := by decide +kernel
theorem dX12_noneOfRow_70 : decode cX12_noneOfRow 70 = .ok (.invokestatic 456, 3) := by decide +kernel
theorem dX12_noneOfRow_73 : decode cX12_noneOfRow 73 = .ok (.ladd, 1) := by decide +kernel
theorem dX12_noneOfRow_74 : decode cX12_noneOfRow 74 = .ok (.lstore_n 2, 1) := by decide +kernel
theorem dX12_noneOfRow_75 : decode cX12_noneOfRow 75 = .ok (.iinc 4 1, 3) := by decide +kernel
theorem dX12_noneOfRow_78 : decode cX12_noneOfRow 78 = .ok (.goto (-73), 3) := by decide +kernel
theorem dX12_noneOfRow_81 : decode cX12_noneOfRow 81 = .ok (.lload_n 2, 1) := by decide +kernel
theorem dX12_noneOfRow_82 : decode cX12_noneOfRow 82 = .ok (.lreturn, 1) := by decide +kernel
theorem dX12_nextRow_0 : decode cX12_nextRow 0 = .ok (.iload_n 1, 1) := by decide +kernel
theorem dX12_nextRow_1 : decode cX12_nextRow 1 = .ok (.iconst 2, 1) := by decide +kernel
theorem dX12_nextRow_2 : decode cX12_nextRow 2 = .ok (.isub, 1) := by decide +kernel
theorem dX12_nextRow_3 : decode cX12_nextRow 3 = .ok (.istore_n 2, 1) := by decide +kernel
theorem dX12_nextRow_4 : decode cX12_nextRow 4 = .ok (.iload_n 2, 1) := by decide +kernel
theorem dX12_nextRow_5 : decode cX12_nextRow 5 = .ok (.ifCond .le 26, 3) := by decide +kernel
theorem dX12_nextRow_8 : decode cX12_nextRow 8 = .ok (.aload_n 0, 1) := by decide +kernel
theorem dX12_nextRow_9 : decode cX12_nextRow 9 = .ok (.getfield 145, 3) := by decide +kernel
theorem dX12_nextRow_12 : decode cX12_nextRow 12 = .ok (.iload_n 2, 1) := by decide +kernel
theorem dX12_nextRow_13 : decode cX12_nextRow 13 = .ok (.iaload, 1) := by decide +kernel
theorem dX12_nextRow_14 : decode cX12_nextRow 14 = .ok (.aload_n 0, 1) := by decide +kernel
theorem dX12_nextRow_15 : decode cX12_nextRow 15 = .ok (.getfield 145, 3) := by decide +kernel
theorem dX12_nextRow_18 : decode cX12_nextRow 18 = .ok (.iload_n 2, 1) := by decide +kernel
theorem dX12_nextRow_19 : decode cX12_nextRow 19 = .ok (.iconst 1, 1) := by decide +kernel
theorem dX12_nextRow_20 : decode cX12_nextRow 20 = .ok (.iadd, 1) := by decide +kernel
theorem dX12_nextRow_21 : decode cX12_nextRow 21 = .ok (.iaload, 1) := by decide +kernel
theorem dX12_nextRow_22 : decode cX12_nextRow 22 = .ok (.if_icmp .le 9, 3) := by decide +kernel
theorem dX12_nextRow_25 : decode cX12_nextRow 25 = .ok (.iinc 2 (-1), 3) := by decide +kernel
theorem dX12_nextRow_28 : decode cX12_nextRow 28 = .ok (.goto (-24), 3) := by decide +kernel
theorem dX12_nextRow_31 : decode cX12_nextRow 31 = .ok (.iload_n 2, 1) := by decide +kernel
theorem dX12_nextRow_32 : decode cX12_nextRow 32 = .ok (.ifCond .gt 5, 3) := by decide +kernel
theorem dX12_nextRow_35 : decode cX12_nextRow 35 = .ok (.iconst 0, 1) := by decide +kernel
theorem dX12_nextRow_36 : decode cX12_nextRow 36 = .ok (.ireturn, 1) := by decide +kernel
theorem dX12_nextRow_37 : decode cX12_nextRow 37 = .ok (.iload_n 1, 1) := by decide +kernel
theorem dX12_nextRow_38 : decode cX12_nextRow 38 = .ok (.iconst 1, 1) := by decide +kernel
theorem dX12_nextRow_39 : decode cX12_nextRow 39 = .ok (.isub, 1) := by decide +kernel
theorem dX12_nextRow_40 : decode cX12_nextRow 40 = .ok (.istore_n 3, 1) := by decide +kernel
theorem dX12_nextRow_41 : decode cX12_nextRow 41 = .ok (.aload_n 0, 1) := by decide +kernel
theorem dX12_nextRow_42 : decode cX12_nextRow 42 = .ok (.getfield 145, 3) := by decide +kernel
theorem dX12_nextRow_45 : decode cX12_nextRow 45 = .ok (.iload_n 3, 1) := by decide +kernel
theorem dX12_nextRow_46 : decode cX12_nextRow 46 = .ok (.iaload, 1) := by decide +kernel
theorem dX12_nextRow_47 : decode cX12_nextRow 47 = .ok (.aload_n 0, 1) := by decide +kernel
theorem dX12_nextRow_48 : decode cX12_nextRow 48 = .ok (.getfield 145, 3) := by decide +kernel
theorem dX12_nextRow_51 : decode cX12_nextRow 51 = .ok (.iload_n 2, 1) := by decide +kernel
theorem dX12_nextRow_52 : decode cX12_nextRow 52 = .ok (.iaload, 1) := by decide +kernel
theorem dX12_nextRow_53 : decode cX12_nextRow 53 = .ok (.if_icmp .ge 9, 3) := by decide +kernel
theorem dX12_nextRow_56 : decode cX12_nextRow 56 = .ok (.iinc 3 (-1), 3) := by decide +kernel
theorem dX12_nextRow_59 : decode cX12_nextRow 59 = .ok (.goto (-18), 3) := by decide +kernel
theorem dX12_nextRow_62 : decode cX12_nextRow 62 = .ok (.aload_n 0, 1) := by decide +kernel
theorem dX12_nextRow_63 : decode cX12_nextRow 63 = .ok (.iload_n 2, 1) := by decide +kernel
theorem dX12_nextRow_64 : decode cX12_nextRow 64 = .ok (.iload_n 3, 1) := by decide +kernel
theorem dX12_nextRow_65 : decode cX12_nextRow 65 = .ok (.invokevirtual 496, 3) := by decide +kernel
theorem dX12_nextRow_68 : decode cX12_nextRow 68 = .ok (.iload_n 2, 1) := by decide +kernel
theorem dX12_nextRow_69 : decode cX12_nextRow 69 = .ok (.iconst 1, 1) := by decide +kernel
theorem dX12_nextRow_70 : decode cX12_nextRow 70 = .ok (.iadd, 1) := by decide +kernel
theorem dX12_nextRow_71 : decode cX12_nextRow 71 = .ok (.istore 4, 2) := by decide +kernel
theorem dX12_nextRow_73 : decode cX12_nextRow 73 = .ok (.iload_n 1, 1) := by decide +kernel
theorem dX12_nextRow_74 : decode cX12_nextRow 74 = .ok (.iconst 1, 1) := by decide +kernel
theorem dX12_nextRow_75 : decode cX12_nextRow 75 = .ok (.isub, 1) := by decide +kernel
theorem dX12_nextRow_76 : decode cX12_nextRow 76 = .ok (.istore 5, 2) := by decide +kernel
theorem dX12_nextRow_78 : decode cX12_nextRow 78 = .ok (.iload 4, 2) := by decide +kernel
theorem dX12_nextRow_80 : decode cX12_nextRow 80 = .ok (.iload 5, 2) := by decide +kernel
theorem dX12_nextRow_82 : decode cX12_nextRow 82 = .ok (.if_icmp .ge 20, 3) := by decide +kernel
theorem dX12_nextRow_85 : decode cX12_nextRow 85 = .ok (.aload_n 0, 1) := by decide +kernel
theorem dX12_nextRow_86 : decode cX12_nextRow 86 = .ok (.iload 4, 2) := by decide +kernel
theorem dX12_nextRow_88 : decode cX12_nextRow 88 = .ok (.iload 5, 2) := by decide +kernel
theorem dX12_nextRow_90 : decode cX12_nextRow 90 = .ok (.invokevirtual 496, 3) := by decide +kernel
theorem dX12_nextRow_93 : decode cX12_nextRow 93 = .ok (.iinc 4 1, 3) := by decide +kernel
theorem dX12_nextRow_96 : decode cX12_nextRow 96 = .ok (.iinc 5 (-1), 3) := by decide +kernel
theorem dX12_nextRow_99 : decode cX12_nextRow 99 = .ok (.goto (-21), 3) := by decide +kernel
theorem dX12_nextRow_102 : decode cX12_nextRow 102 = .ok (.iconst 1, 1) := by decide +kernel
theorem dX12_nextRow_103 : decode cX12_nextRow 103 = .ok (.ireturn, 1) := by decide +kernel
theorem dX12_changes_0 : decode cX12_changes 0 = .ok (.aload_n 0, 1) := by decide +kernel
theorem dX12_changes_1 : decode cX12_changes 1 = .ok (.getfield 145, 3) := by decide +kernel
theorem dX12_changes_4 : decode cX12_changes 4 = .ok (.iload_n 1, 1) := by decide +kernel
theorem dX12_changes_5 : decode cX12_changes 5 = .ok (.iaload, 1) := by decide +kernel
theorem dX12_changes_6 : decode cX12_changes 6 = .ok (.istore_n 3, 1) := by decide +kernel
theorem dX12_changes_7 : decode cX12_changes 7 = .ok (.aload_n 0, 1) := by decide +kernel
theorem dX12_changes_8 : decode cX12_changes 8 = .ok (.getfield 145, 3) := by decide +kernel
theorem dX12_changes_11 : decode cX12_changes 11 = .ok (.iload_n 1, 1) := by decide +kernel
theorem dX12_changes_12 : decode cX12_changes 12 = .ok (.aload_n 0, 1) := by decide +kernel
theorem dX12_changes_13 : decode cX12_changes 13 = .ok (.getfield 145, 3) := by decide +kernel
theorem dX12_changes_16 : decode cX12_changes 16 = .ok (.iload_n 2, 1) := by decide +kernel
theorem dX12_changes_17 : decode cX12_changes 17 = .ok (.iaload, 1) := by decide +kernel
theorem dX12_changes_18 : decode cX12_changes 18 = .ok (.iastore, 1) := by decide +kernel
theorem dX12_changes_19 : decode cX12_changes 19 = .ok (.aload_n 0, 1) := by decide +kernel
theorem dX12_changes_20 : decode cX12_changes 20 = .ok (.getfield 145, 3) := by decide +kernel
theorem dX12_changes_23 : decode cX12_changes 23 = .ok (.iload_n 2, 1) := by decide +kernel
theorem dX12_changes_24 : decode cX12_changes 24 = .ok (.iload_n 3, 1) := by decide +kernel
theorem dX12_changes_25 : decode cX12_changes 25 = .ok (.iastore, 1) := by decide +kernel
theorem dX12_changes_26 : decode cX12_changes 26 = .ok (.return_, 1) := by decide +kernel
theorem dX12_seats_0 : decode cX12_seats 0 = .ok (.aload_n 0, 1) := by decide +kernel
theorem dX12_seats_1 : decode cX12_seats 1 = .ok (.invokevirtual 463, 3) := by decide +kernel
theorem dX12_seats_4 : decode cX12_seats 4 = .ok (.ifCond .eq 16, 3) := by decide +kernel
theorem dX12_seats_7 : decode cX12_seats 7 = .ok (.iload_n 1, 1) := by decide +kernel
theorem dX12_seats_8 : decode cX12_seats 8 = .ok (.iconst (-1), 1) := by decide +kernel
theorem dX12_seats_9 : decode cX12_seats 9 = .ok (.if_icmp .eq 13, 3) := by decide +kernel
theorem dX12_seats_12 : decode cX12_seats 12 = .ok (.aload_n 0, 1) := by decide +kernel
theorem dX12_seats_13 : decode cX12_seats 13 = .ok (.iload_n 1, 1) := by decide +kernel
theorem dX12_seats_14 : decode cX12_seats 14 = .ok (.invokevirtual 477, 3) := by decide +kernel
theorem dX12_seats_17 : decode cX12_seats 17 = .ok (.ifCond .ne 5, 3) := by decide +kernel
theorem dX12_seats_20 : decode cX12_seats 20 = .ok (.iconst (-1), 1) := by decide +kernel
theorem dX12_seats_21 : decode cX12_seats 21 = .ok (.ireturn, 1) := by decide +kernel
theorem dX12_seats_22 : decode cX12_seats 22 = .ok (.aload_n 0, 1) := by decide +kernel
theorem dX12_seats_23 : decode cX12_seats 23 = .ok (.invokevirtual 408, 3) := by decide +kernel
theorem dX12_seats_26 : decode cX12_seats 26 = .ok (.istore_n 2, 1) := by decide +kernel
theorem dX12_seats_27 : decode cX12_seats 27 = .ok (.iconst 0, 1) := by decide +kernel
theorem dX12_seats_28 : decode cX12_seats 28 = .ok (.istore_n 3, 1) := by decide +kernel
theorem dX12_seats_29 : decode cX12_seats 29 = .ok (.iload_n 3, 1) := by decide +kernel
theorem dX12_seats_30 : decode cX12_seats 30 = .ok (.iload_n 2, 1) := by decide +kernel
theorem dX12_seats_31 : decode cX12_seats 31 = .ok (.if_icmp .ge 70, 3) := by decide +kernel
theorem dX12_seats_34 : decode cX12_seats 34 = .ok (.iconst 0, 1) := by decide +kernel
theorem dX12_seats_35 : decode cX12_seats 35 = .ok (.istore 4, 2) := by decide +kernel
theorem dX12_seats_37 : decode cX12_seats 37 = .ok (.iload 4, 2) := by decide +kernel
theorem dX12_seats_39 : decode cX12_seats 39 = .ok (.iload_n 2, 1) := by decide +kernel
theorem dX12_seats_40 : decode cX12_seats 40 = .ok (.if_icmp .ge 55, 3) := by decide +kernel
theorem dX12_seats_43 : decode cX12_seats 43 = .ok (.iload_n 3, 1) := by decide +kernel
theorem dX12_seats_44 : decode cX12_seats 44 = .ok (.iload 4, 2) := by decide +kernel
theorem dX12_seats_46 : decode cX12_seats 46 = .ok (.if_icmp .eq 43, 3) := by decide +kernel
theorem dX12_seats_49 : decode cX12_seats 49 = .ok (.aload_n 0, 1) := by decide +kernel
theorem dX12_seats_50 : decode cX12_seats 50 = .ok (.getfield 139, 3) := by decide +kernel
theorem dX12_seats_53 : decode cX12_seats 53 = .ok (.bipush 8, 2) := by decide +kernel
theorem dX12_seats_55 : decode cX12_seats 55 = .ok (.iload_n 3, 1) := by decide +kernel
theorem dX12_seats_56 : decode cX12_seats 56 = .ok (.imul, 1) := by decide +kernel
theorem dX12_seats_57 : decode cX12_seats 57 = .ok (.iload 4, 2) := by decide +kernel
theorem dX12_seats_59 : decode cX12_seats 59 = .ok (.iadd, 1) := by decide +kernel
theorem dX12_seats_60 : decode cX12_seats 60 = .ok (.aload_n 0, 1) := by decide +kernel
theorem dX12_seats_61 : decode cX12_seats 61 = .ok (.iload_n 3, 1) := by decide +kernel
theorem dX12_seats_62 : decode cX12_seats 62 = .ok (.iload 4, 2) := by decide +kernel
theorem dX12_seats_64 : decode cX12_seats 64 = .ok (.iconst 0, 1) := by decide +kernel
theorem dX12_seats_65 : decode cX12_seats 65 = .ok (.invokevirtual 445, 3) := by decide +kernel
theorem dX12_seats_68 : decode cX12_seats 68 = .ok (.iastore, 1) := by decide +kernel
theorem dX12_seats_69 : decode cX12_seats 69 = .ok (.aload_n 0, 1) := by decide +kernel
theorem dX12_seats_70 : decode cX12_seats 70 = .ok (.getfield 142, 3) := by decide +kernel
theorem dX12_seats_73 : decode cX12_seats 73 = .ok (.bipush 8, 2) := by decide +kernel
theorem dX12_seats_75 : decode cX12_seats 75 = .ok (.iload_n 3, 1) := by decide +kernel
theorem dX12_seats_76 : decode cX12_seats 76 = .ok (.imul, 1) := by decide +kernel
theorem dX12_seats_77 : decode cX12_seats 77 = .ok (.iload 4, 2) := by decide +kernel
theorem dX12_seats_79 : decode cX12_seats 79 = .ok (.iadd, 1) := by decide +kernel
theorem dX12_seats_80 : decode cX12_seats 80 = .ok (.aload_n 0, 1) := by decide +kernel
theorem dX12_seats_81 : decode cX12_seats 81 = .ok (.iload_n 3, 1) := by decide +kernel
theorem dX12_seats_82 : decode cX12_seats 82 = .ok (.iload 4, 2) := by decide +kernel
theorem dX12_seats_84 : decode cX12_seats 84 = .ok (.iconst 1, 1) := by decide +kernel
theorem dX12_seats_85 : decode cX12_seats 85 = .ok (.invokevirtual 445, 3) := by decide +kernel
theorem dX12_seats_88 : decode cX12_seats 88 = .ok (.iastore, 1) := by decide +kernel
theorem dX12_seats_89 : decode cX12_seats 89 = .ok (.iinc 4 1, 3) := by decide +kernel
theorem dX12_seats_92 : decode cX12_seats 92 = .ok (.goto (-55), 3) := by decide +kernel
theorem dX12_seats_95 : decode cX12_seats 95 = .ok (.iinc 3 1, 3) := by decide +kernel
theorem dX12_seats_98 : decode cX12_seats 98 = .ok (.goto (-69), 3) := by decide +kernel
theorem dX12_seats_101 : decode cX12_seats 101 = .ok (.iconst 0, 1) := by decide +kernel
theorem dX12_seats_102 : decode cX12_seats 102 = .ok (.istore_n 3, 1) := by decide +kernel
theorem dX12_seats_103 : decode cX12_seats 103 = .ok (.iload_n 3, 1) := by decide +kernel
theorem dX12_seats_104 : decode cX12_seats 104 = .ok (.iload_n 2, 1) := by decide +kernel
theorem dX12_seats_105 : decode cX12_seats 105 = .ok (.if_icmp .ge 16, 3) := by decide +kernel
theorem dX12_seats_108 : decode cX12_seats 108 = .ok (.aload_n 0, 1) := by decide +kernel
theorem dX12_seats_109 : decode cX12_seats 109 = .ok (.getfield 145, 3) := by decide +kernel
theorem dX12_seats_112 : decode cX12_seats 112 = .ok (.iload_n 3, 1) := by decide +kernel
theorem dX12_seats_113 : decode cX12_seats 113 = .ok (.iload_n 3, 1) := by decide +kernel
theorem dX12_seats_114 : decode cX12_seats 114 = .ok (.iastore, 1) := by decide +kernel
theorem dX12_seats_115 : decode cX12_seats 115 = .ok (.iinc 3 1, 3) := by decide +kernel
theorem dX12_seats_118 : decode cX12_seats 118 = .ok (.goto (-15), 3) := by decide +kernel
theorem dX12_seats_121 : decode cX12_seats 121 = .ok (.ldc2_w 499, 3) := by decide +kernel
theorem dX12_seats_124 : decode cX12_seats 124 = .ok (.lstore_n 3, 1) := by decide +kernel
theorem dX12_seats_125 : decode cX12_seats 125 = .ok (.iconst 1, 1) := by decide +kernel
theorem dX12_seats_126 : decode cX12_seats 126 = .ok (.istore 5, 2) := by decide +kernel
theorem dX12_seats_128 : decode cX12_seats 128 = .ok (.iload 5, 2) := by decide +kernel
theorem dX12_seats_130 : decode cX12_seats 130 = .ok (.ifCond .eq 65, 3) := by decide +kernel
theorem dX12_seats_133 : decode cX12_seats 133 = .ok (.aload_n 0, 1) := by decide +kernel
theorem dX12_seats_134 : decode cX12_seats 134 = .ok (.iload_n 2, 1) := by decide +kernel
theorem dX12_seats_135 : decode cX12_seats 135 = .ok (.invokevirtual 501, 3) := by decide +kernel
theorem dX12_seats_138 : decode cX12_seats 138 = .ok (.lstore 6, 2) := by decide +kernel
theorem dX12_seats_140 : decode cX12_seats 140 = .ok (.lload_n 3, 1) := by decide +kernel
theorem dX12_seats_141 : decode cX12_seats 141 = .ok (.lconst 0, 1) := by decide +kernel
theorem dX12_seats_142 : decode cX12_seats 142 = .ok (.lcmp, 1) := by decide +kernel
theorem dX12_seats_143 : decode cX12_seats 143 = .ok (.ifCond .lt 10, 3) := by decide +kernel
theorem dX12_seats_146 : decode cX12_seats 146 = .ok (.lload 6, 2) := by decide +kernel
theorem dX12_seats_148 : decode cX12_seats 148 = .ok (.lload_n 3, 1) := by decide +kernel
theorem dX12_seats_149 : decode cX12_seats 149 = .ok (.lcmp, 1) := by decide +kernel
theorem dX12_seats_150 : decode cX12_seats 150 = .ok (.ifCond .ge 35, 3) := by decide +kernel
theorem dX12_seats_153 : decode cX12_seats 153 = .ok (.lload 6, 2) := by decide +kernel
theorem dX12_seats_155 : decode cX12_seats 155 = .ok (.lstore_n 3, 1) := by decide +kernel
theorem dX12_seats_156 : decode cX12_seats 156 = .ok (.iconst 0, 1) := by decide +kernel
theorem dX12_seats_157 : decode cX12_seats 157 = .ok (.istore 8, 2) := by decide +kernel
theorem dX12_seats_159 : decode cX12_seats 159 = .ok (.iload 8, 2) := by decide +kernel
theorem dX12_seats_161 : decode cX12_seats 161 = .ok (.iload_n 2, 1) := by decide +kernel
theorem dX12_seats_162 : decode cX12_seats 162 = .ok (.if_icmp .ge 23, 3) := by decide +kernel
theorem dX12_seats_165 : decode cX12_seats 165 = .ok (.aload_n 0, 1) := by decide +kernel
theorem dX12_seats_166 : decode cX12_seats 166 = .ok (.getfield 148, 3) := by decide +kernel
theorem dX12_seats_169 : decode cX12_seats 169 = .ok (.iload 8, 2) := by decide +kernel
theorem dX12_seats_171 : decode cX12_seats 171 = .ok (.aload_n 0, 1) := by decide +kernel
theorem dX12_seats_172 : decode cX12_seats 172 = .ok (.getfield 145, 3) := by decide +kernel
theorem dX12_seats_175 : decode cX12_seats 175 = .ok (.iload 8, 2) := by decide +kernel
theorem dX12_seats_177 : decode cX12_seats 177 = .ok (.iaload, 1) := by decide +kernel
theorem dX12_seats_178 : decode cX12_seats 178 = .ok (.iastore, 1) := by decide +kernel
theorem dX12_seats_179 : decode cX12_seats 179 = .ok (.iinc 8 1, 3) := by decide +kernel
theorem dX12_seats_182 : decode cX12_seats 182 = .ok (.goto (-23), 3) := by decide +kernel
theorem dX12_seats_185 : decode cX12_seats 185 = .ok (.aload_n 0, 1) := by decide +kernel
theorem dX12_seats_186 : decode cX12_seats 186 = .ok (.iload_n 2, 1) := by decide +kernel
theorem dX12_seats_187 : decode cX12_seats 187 = .ok (.invokevirtual 505, 3) := by decide +kernel
theorem dX12_seats_190 : decode cX12_seats 190 = .ok (.istore 5, 2) := by decide +kernel
theorem dX12_seats_192 : decode cX12_seats 192 = .ok (.goto (-64), 3) := by decide +kernel
theorem dX12_seats_195 : decode cX12_seats 195 = .ok (.iload_n 1, 1) := by decide +kernel
theorem dX12_seats_196 : decode cX12_seats 196 = .ok (.iconst (-1), 1) := by decide +kernel
theorem dX12_seats_197 : decode cX12_seats 197 = .ok (.if_icmp .ne 12, 3) := by decide +kernel
theorem dX12_seats_200 : decode cX12_seats 200 = .ok (.lload_n 3, 1) := by decide +kernel
theorem dX12_seats_201 : decode cX12_seats 201 = .ok (.ldc2_w 491, 3) := by decide +kernel
theorem dX12_seats_204 : decode cX12_seats 204 = .ok (.ldiv, 1) := by decide +kernel
theorem dX12_seats_205 : decode cX12_seats 205 = .ok (.l2i, 1) := by decide +kernel
theorem dX12_seats_206 : decode cX12_seats 206 = .ok (.goto 9, 3) := by decide +kernel
theorem dX12_seats_209 : decode cX12_seats 209 = .ok (.aload_n 0, 1) := by decide +kernel
theorem dX12_seats_210 : decode cX12_seats 210 = .ok (.getfield 148, 3) := by decide +kernel
theorem dX12_seats_213 : decode cX12_seats 213 = .ok (.iload_n 1, 1) := by decide +kernel
theorem dX12_seats_214 : decode cX12_seats 214 = .ok (.iaload, 1) := by decide +kernel
theorem dX12_seats_215 : decode cX12_seats 215 = .ok (.ireturn, 1) := by decide +kernel
theorem dX12_ownOdds_0 : decode cX12_ownOdds 0 = .ok (.iload_n 2, 1) := by decide +kernel
theorem dX12_ownOdds_1 : decode cX12_ownOdds 1 = .ok (.ifCond .ne 12, 3) := by decide +kernel
theorem dX12_ownOdds_4 : decode cX12_ownOdds 4 = .ok (.aload_n 0, 1) := by decide +kernel
theorem dX12_ownOdds_5 : decode cX12_ownOdds 5 = .ok (.iload_n 1, 1) := by decide +kernel
theorem dX12_ownOdds_6 : decode cX12_ownOdds 6 = .ok (.iconst 0, 1) := by decide +kernel
theorem dX12_ownOdds_7 : decode cX12_ownOdds 7 = .ok (.invokevirtual 448, 3) := by decide +kernel
theorem dX12_ownOdds_10 : decode cX12_ownOdds 10 = .ok (.goto 13, 3) := by decide +kernel
theorem dX12_ownOdds_13 : decode cX12_ownOdds 13 = .ok (.aload_n 0, 1) := by decide +kernel
theorem dX12_ownOdds_14 : decode cX12_ownOdds 14 = .ok (.aload_n 0, 1) := by decide +kernel
theorem dX12_ownOdds_15 : decode cX12_ownOdds 15 = .ok (.iload_n 1, 1) := by decide +kernel
theorem dX12_ownOdds_16 : decode cX12_ownOdds 16 = .ok (.invokevirtual 453, 3) := by decide +kernel
theorem dX12_ownOdds_19 : decode cX12_ownOdds 19 = .ok (.iconst 1, 1) := by decide +kernel
theorem dX12_ownOdds_20 : decode cX12_ownOdds 20 = .ok (.invokevirtual 448, 3) := by decide +kernel
theorem dX12_ownOdds_23 : decode cX12_ownOdds 23 = .ok (.ireturn, 1) := by decide +kernel
theorem dX12_seeksHold_0 : decode cX12_seeksHold 0 = .ok (.aload_n 0, 1) := by decide +kernel
theorem dX12_seeksHold_1 : decode cX12_seeksHold 1 = .ok (.iload_n 1, 1) := by decide +kernel
theorem dX12_seeksHold_2 : decode cX12_seeksHold 2 = .ok (.iload_n 2, 1) := by decide +kernel
theorem dX12_seeksHold_3 : decode cX12_seeksHold 3 = .ok (.invokevirtual 421, 3) := by decide +kernel
theorem dX12_seeksHold_6 : decode cX12_seeksHold 6 = .ok (.istore_n 3, 1) := by decide +kernel
theorem dX12_seeksHold_7 : decode cX12_seeksHold 7 = .ok (.aload_n 0, 1) := by decide +kernel
theorem dX12_seeksHold_8 : decode cX12_seeksHold 8 = .ok (.iload_n 1, 1) := by decide +kernel
theorem dX12_seeksHold_9 : decode cX12_seeksHold 9 = .ok (.iload_n 2, 1) := by decide +kernel
theorem dX12_seeksHold_10 : decode cX12_seeksHold 10 = .ok (.invokevirtual 418, 3) := by decide +kernel
theorem dX12_seeksHold_13 : decode cX12_seeksHold 13 = .ok (.istore 4, 2) := by decide +kernel
theorem dX12_seeksHold_15 : decode cX12_seeksHold 15 = .ok (.aload_n 0, 1) := by decide +kernel
theorem dX12_seeksHold_16 : decode cX12_seeksHold 16 = .ok (.iconst (-1), 1) := by decide +kernel
theorem dX12_seeksHold_17 : decode cX12_seeksHold 17 = .ok (.putfield 508, 3) := by decide +kernel
theorem dX12_seeksHold_20 : decode cX12_seeksHold 20 = .ok (.iconst 0, 1) := by decide +kernel
theorem dX12_seeksHold_21 : decode cX12_seeksHold 21 = .ok (.istore 5, 2) := by decide +kernel
theorem dX12_seeksHold_23 : decode cX12_seeksHold 23 = .ok (.iload 5, 2) := by decide +kernel
theorem dX12_seeksHold_25 : decode cX12_seeksHold 25 = .ok (.iconst 3, 1) := by decide +kernel
theorem dX12_seeksHold_26 : decode cX12_seeksHold 26 = .ok (.if_icmp .ge 73, 3) := by decide +kernel
theorem dX12_seeksHold_29 : decode cX12_seeksHold 29 = .ok (.iconst 0, 1) := by decide +kernel
theorem dX12_seeksHold_30 : decode cX12_seeksHold 30 = .ok (.istore 6, 2) := by decide +kernel
theorem dX12_seeksHold_32 : decode cX12_seeksHold 32 = .ok (.iload 6, 2) := by decide +kernel
theorem dX12_seeksHold_34 : decode cX12_seeksHold 34 = .ok (.bipush 9, 2) := by decide +kernel
theorem dX12_seeksHold_36 : decode cX12_seeksHold 36 = .ok (.if_icmp .gt 57, 3) := by decide +kernel
theorem dX12_seeksHold_39 : decode cX12_seeksHold 39 = .ok (.aload_n 0, 1) := by decide +kernel
theorem dX12_seeksHold_40 : decode cX12_seeksHold 40 = .ok (.iload_n 1, 1) := by decide +kernel
theorem dX12_seeksHold_41 : decode cX12_seeksHold 41 = .ok (.iload_n 2, 1) := by decide +kernel
theorem dX12_seeksHold_42 : decode cX12_seeksHold 42 = .ok (.iload 5, 2) := by decide +kernel
theorem dX12_seeksHold_44 : decode cX12_seeksHold 44 = .ok (.iload 6, 2) := by decide +kernel
theorem dX12_seeksHold_46 : decode cX12_seeksHold 46 = .ok (.invokevirtual 511, 3) := by decide +kernel
theorem dX12_seeksHold_49 : decode cX12_seeksHold 49 = .ok (.aload_n 0, 1) := by decide +kernel
theorem dX12_seeksHold_50 : decode cX12_seeksHold 50 = .ok (.iload_n 1, 1) := by decide +kernel
theorem dX12_seeksHold_51 : decode cX12_seeksHold 51 = .ok (.iload_n 2, 1) := by decide +kernel
theorem dX12_seeksHold_52 : decode cX12_seeksHold 52 = .ok (.invokevirtual 515, 3) := by decide +kernel
theorem dX12_seeksHold_55 : decode cX12_seeksHold 55 = .ok (.istore 7, 2) := by decide +kernel
theorem dX12_seeksHold_57 : decode cX12_seeksHold 57 = .ok (.iload 7, 2) := by decide +kernel
theorem dX12_seeksHold_59 : decode cX12_seeksHold 59 = .ok (.aload_n 0, 1) := by decide +kernel
theorem dX12_seeksHold_60 : decode cX12_seeksHold 60 = .ok (.getfield 508, 3) := by decide +kernel
theorem dX12_seeksHold_63 : decode cX12_seeksHold 63 = .ok (.if_icmp .gt 6, 3) := by decide +kernel
theorem dX12_seeksHold_66 : decode cX12_seeksHold 66 = .ok (.goto 21, 3) := by decide +kernel
theorem dX12_seeksHold_69 : decode cX12_seeksHold 69 = .ok (.aload_n 0, 1) := by decide +kernel
theorem dX12_seeksHold_70 : decode cX12_seeksHold 70 = .ok (.iload 7, 2) := by decide +kernel
theorem dX12_seeksHold_72 : decode cX12_seeksHold 72 = .ok (.putfield 508, 3) := by decide +kernel
theorem dX12_seeksHold_75 : decode cX12_seeksHold 75 = .ok (.aload_n 0, 1) := by decide +kernel
theorem dX12_seeksHold_76 : decode cX12_seeksHold 76 = .ok (.bipush 10, 2) := by decide +kernel
theorem dX12_seeksHold_78 : decode cX12_seeksHold 78 = .ok (.iload 5, 2) := by decide +kernel
theorem dX12_seeksHold_80 : decode cX12_seeksHold 80 = .ok (.imul, 1) := by decide +kernel
theorem dX12_seeksHold_81 : decode cX12_seeksHold 81 = .ok (.iload 6, 2) := by decide +kernel
theorem dX12_seeksHold_83 : decode cX12_seeksHold 83 = .ok (.iadd, 1) := by decide +kernel
theorem dX12_seeksHold_84 : decode cX12_seeksHold 84 = .ok (.putfield 518, 3) := by decide +kernel
theorem dX12_seeksHold_87 : decode cX12_seeksHold 87 = .ok (.iinc 6 1, 3) := by decide +kernel
theorem dX12_seeksHold_90 : decode cX12_seeksHold 90 = .ok (.goto (-58), 3) := by decide +kernel
theorem dX12_seeksHold_93 : decode cX12_seeksHold 93 = .ok (.iinc 5 1, 3) := by decide +kernel
theorem dX12_seeksHold_96 : decode cX12_seeksHold 96 = .ok (.goto (-73), 3) := by decide +kernel
theorem dX12_seeksHold_99 : decode cX12_seeksHold 99 = .ok (.aload_n 0, 1) := by decide +kernel
theorem dX12_seeksHold_100 : decode cX12_seeksHold 100 = .ok (.iload_n 1, 1) := by decide +kernel
theorem dX12_seeksHold_101 : decode cX12_seeksHold 101 = .ok (.iload_n 2, 1) := by decide +kernel
theorem dX12_seeksHold_102 : decode cX12_seeksHold 102 = .ok (.iload_n 3, 1) := by decide +kernel
theorem dX12_seeksHold_103 : decode cX12_seeksHold 103 = .ok (.iload 4, 2) := by decide +kernel
theorem dX12_seeksHold_105 : decode cX12_seeksHold 105 = .ok (.invokevirtual 511, 3) := by decide +kernel
theorem dX12_seeksHold_108 : decode cX12_seeksHold 108 = .ok (.return_, 1) := by decide +kernel
theorem dX12_best_0 : decode cX12_best 0 = .ok (.aload_n 0, 1) := by decide +kernel
theorem dX12_best_1 : decode cX12_best 1 = .ok (.invokevirtual 463, 3) := by decide +kernel
theorem dX12_best_4 : decode cX12_best 4 = .ok (.ifCond .eq 29, 3) := by decide +kernel
theorem dX12_best_7 : decode cX12_best 7 = .ok (.aload_n 0, 1) := by decide +kernel
theorem dX12_best_8 : decode cX12_best 8 = .ok (.iload_n 1, 1) := by decide +kernel
theorem dX12_best_9 : decode cX12_best 9 = .ok (.invokevirtual 477, 3) := by decide +kernel
theorem dX12_best_12 : decode cX12_best 12 = .ok (.ifCond .eq 21, 3) := by decide +kernel
theorem dX12_best_15 : decode cX12_best 15 = .ok (.aload_n 0, 1) := by decide +kernel
theorem dX12_best_16 : decode cX12_best 16 = .ok (.iload_n 2, 1) := by decide +kernel
theorem dX12_best_17 : decode cX12_best 17 = .ok (.invokevirtual 521, 3) := by decide +kernel
theorem dX12_best_20 : decode cX12_best 20 = .ok (.ifCond .eq 13, 3) := by decide +kernel
theorem dX12_best_23 : decode cX12_best 23 = .ok (.iload_n 3, 1) := by decide +kernel
theorem dX12_best_24 : decode cX12_best 24 = .ok (.i2l, 1) := by decide +kernel
theorem dX12_best_25 : decode cX12_best 25 = .ok (.lconst 0, 1) := by decide +kernel
theorem dX12_best_26 : decode cX12_best 26 = .ok (.lconst 1, 1) := by decide +kernel
theorem dX12_best_27 : decode cX12_best 27 = .ok (.invokestatic 276, 3) := by decide +kernel
theorem dX12_best_30 : decode cX12_best 30 = .ok (.ifCond .ne 5, 3) := by decide +kernel
theorem dX12_best_33 : decode cX12_best 33 = .ok (.iconst (-1), 1) := by decide +kernel
theorem dX12_best_34 : decode cX12_best 34 = .ok (.ireturn, 1) := by decide +kernel
theorem dX12_best_35 : decode cX12_best 35 = .ok (.aload_n 0, 1) := by decide +kernel
theorem dX12_best_36 : decode cX12_best 36 = .ok (.iload_n 1, 1) := by decide +kernel
theorem dX12_best_37 : decode cX12_best 37 = .ok (.iload_n 2, 1) := by decide +kernel
theorem dX12_best_38 : decode cX12_best 38 = .ok (.invokevirtual 524, 3) := by decide +kernel
theorem dX12_best_41 : decode cX12_best 41 = .ok (.iload_n 3, 1) := by decide +kernel
theorem dX12_best_42 : decode cX12_best 42 = .ok (.ifCond .ne 10, 3) := by decide +kernel
theorem dX12_best_45 : decode cX12_best 45 = .ok (.aload_n 0, 1) := by decide +kernel
theorem dX12_best_46 : decode cX12_best 46 = .ok (.getfield 518, 3) := by decide +kernel
theorem dX12_best_49 : decode cX12_best 49 = .ok (.goto 7, 3) := by decide +kernel
theorem dX12_best_52 : decode cX12_best 52 = .ok (.aload_n 0, 1) := by decide +kernel
theorem dX12_best_53 : decode cX12_best 53 = .ok (.getfield 508, 3) := by decide +kernel
theorem dX12_best_56 : decode cX12_best 56 = .ok (.ireturn, 1) := by decide +kernel
theorem dX12_turns_0 : decode cX12_turns 0 = .ok (.aload_n 0, 1) := by decide +kernel
theorem dX12_turns_1 : decode cX12_turns 1 = .ok (.iload_n 1, 1) := by decide +kernel
theorem dX12_turns_2 : decode cX12_turns 2 = .ok (.iload_n 2, 1) := by decide +kernel
theorem dX12_turns_3 : decode cX12_turns 3 = .ok (.invokevirtual 515, 3) := by decide +kernel
theorem dX12_turns_6 : decode cX12_turns 6 = .ok (.istore_n 3, 1) := by decide +kernel
theorem dX12_turns_7 : decode cX12_turns 7 = .ok (.aload_n 0, 1) := by decide +kernel
theorem dX12_turns_8 : decode cX12_turns 8 = .ok (.iload_n 1, 1) := by decide +kernel
theorem dX12_turns_9 : decode cX12_turns 9 = .ok (.iload_n 2, 1) := by decide +kernel
theorem dX12_turns_10 : decode cX12_turns 10 = .ok (.invokevirtual 524, 3) := by decide +kernel
theorem dX12_turns_13 : decode cX12_turns 13 = .ok (.aload_n 0, 1) := by decide +kernel
theorem dX12_turns_14 : decode cX12_turns 14 = .ok (.getfield 508, 3) := by decide +kernel
theorem dX12_turns_17 : decode cX12_turns 17 = .ok (.iload_n 3, 1) := by decide +kernel
theorem dX12_turns_18 : decode cX12_turns 18 = .ok (.if_icmp .ne 5, 3) := by decide +kernel
theorem dX12_turns_21 : decode cX12_turns 21 = .ok (.iconst 0, 1) := by decide +kernel
theorem dX12_turns_22 : decode cX12_turns 22 = .ok (.ireturn, 1) := by decide +kernel
theorem dX12_turns_23 : decode cX12_turns 23 = .ok (.aload_n 0, 1) := by decide +kernel
theorem dX12_turns_24 : decode cX12_turns 24 = .ok (.iload_n 1, 1) := by decide +kernel
theorem dX12_turns_25 : decode cX12_turns 25 = .ok (.iload_n 2, 1) := by decide +kernel
theorem dX12_turns_26 : decode cX12_turns 26 = .ok (.aload_n 0, 1) := by decide +kernel
theorem dX12_turns_27 : decode cX12_turns 27 = .ok (.getfield 518, 3) := by decide +kernel
theorem dX12_turns_30 : decode cX12_turns 30 = .ok (.bipush 10, 2) := by decide +kernel
theorem dX12_turns_32 : decode cX12_turns 32 = .ok (.idiv, 1) := by decide +kernel
theorem dX12_turns_33 : decode cX12_turns 33 = .ok (.aload_n 0, 1) := by decide +kernel
theorem dX12_turns_34 : decode cX12_turns 34 = .ok (.getfield 518, 3) := by decide +kernel
theorem dX12_turns_37 : decode cX12_turns 37 = .ok (.bipush 10, 2) := by decide +kernel
theorem dX12_turns_39 : decode cX12_turns 39 = .ok (.irem, 1) := by decide +kernel
theorem dX12_turns_40 : decode cX12_turns 40 = .ok (.invokevirtual 511, 3) := by decide +kernel
theorem dX12_turns_43 : decode cX12_turns 43 = .ok (.iconst 1, 1) := by decide +kernel
theorem dX12_turns_44 : decode cX12_turns 44 = .ok (.ireturn, 1) := by decide +kernel
theorem dX12_roundTurns_0 : decode cX12_roundTurns 0 = .ok (.iconst 0, 1) := by decide +kernel
theorem dX12_roundTurns_1 : decode cX12_roundTurns 1 = .ok (.istore_n 1, 1) := by decide +kernel
theorem dX12_roundTurns_2 : decode cX12_roundTurns 2 = .ok (.iconst 0, 1) := by decide +kernel
theorem dX12_roundTurns_3 : decode cX12_roundTurns 3 = .ok (.istore_n 2, 1) := by decide +kernel
theorem dX12_roundTurns_4 : decode cX12_roundTurns 4 = .ok (.iload_n 2, 1) := by decide +kernel
theorem dX12_roundTurns_5 : decode cX12_roundTurns 5 = .ok (.aload_n 0, 1) := by decide +kernel
theorem dX12_roundTurns_6 : decode cX12_roundTurns 6 = .ok (.invokevirtual 408, 3) := by decide +kernel
theorem dX12_roundTurns_9 : decode cX12_roundTurns 9 = .ok (.if_icmp .ge 33, 3) := by decide +kernel
theorem dX12_roundTurns_12 : decode cX12_roundTurns 12 = .ok (.iconst 0, 1) := by decide +kernel
theorem dX12_roundTurns_13 : decode cX12_roundTurns 13 = .ok (.istore_n 3, 1) := by decide +kernel
theorem dX12_roundTurns_14 : decode cX12_roundTurns 14 = .ok (.iload_n 3, 1) := by decide +kernel
theorem dX12_roundTurns_15 : decode cX12_roundTurns 15 = .ok (.iconst 2, 1) := by decide +kernel
theorem dX12_roundTurns_16 : decode cX12_roundTurns 16 = .ok (.if_icmp .ge 20, 3) := by decide +kernel
theorem dX12_roundTurns_19 : decode cX12_roundTurns 19 = .ok (.aload_n 0, 1) := by decide +kernel
theorem dX12_roundTurns_20 : decode cX12_roundTurns 20 = .ok (.iload_n 2, 1) := by decide +kernel
theorem dX12_roundTurns_21 : decode cX12_roundTurns 21 = .ok (.iload_n 3, 1) := by decide +kernel
theorem dX12_roundTurns_22 : decode cX12_roundTurns 22 = .ok (.invokevirtual 527, 3) := by decide +kernel
theorem dX12_roundTurns_25 : decode cX12_roundTurns 25 = .ok (.ifCond .eq 5, 3) := by decide +kernel
theorem dX12_roundTurns_28 : decode cX12_roundTurns 28 = .ok (.iconst 1, 1) := by decide +kernel
theorem dX12_roundTurns_29 : decode cX12_roundTurns 29 = .ok (.istore_n 1, 1) := by decide +kernel
theorem dX12_roundTurns_30 : decode cX12_roundTurns 30 = .ok (.iinc 3 1, 3) := by decide +kernel
theorem dX12_roundTurns_33 : decode cX12_roundTurns 33 = .ok (.goto (-19), 3) := by decide +kernel
theorem dX12_roundTurns_36 : decode cX12_roundTurns 36 = .ok (.iinc 2 1, 3) := by decide +kernel
theorem dX12_roundTurns_39 : decode cX12_roundTurns 39 = .ok (.goto (-35), 3) := by decide +kernel
theorem dX12_roundTurns_42 : decode cX12_roundTurns 42 = .ok (.iload_n 1, 1) := by decide +kernel
theorem dX12_roundTurns_43 : decode cX12_roundTurns 43 = .ok (.ireturn, 1) := by decide +kernel
theorem dX12_putsAside_0 : decode cX12_putsAside 0 = .ok (.iconst 0, 1) := by decide +kernel
theorem dX12_putsAside_1 : decode cX12_putsAside 1 = .ok (.istore_n 1, 1) := by decide +kernel
theorem dX12_putsAside_2 : decode cX12_putsAside 2 = .ok (.iload_n 1, 1) := by decide +kernel
theorem dX12_putsAside_3 : decode cX12_putsAside 3 = .ok (.bipush 51, 2) := by decide +kernel
theorem dX12_putsAside_5 : decode cX12_putsAside 5 = .ok (.if_icmp .ge 21, 3) := by decide +kernel
theorem dX12_putsAside_8 : decode cX12_putsAside 8 = .ok (.aload_n 0, 1) := by decide +kernel
theorem dX12_putsAside_9 : decode cX12_putsAside 9 = .ok (.getfield 130, 3) := by decide +kernel
theorem dX12_putsAside_12 : decode cX12_putsAside 12 = .ok (.iload_n 1, 1) := by decide +kernel
theorem dX12_putsAside_13 : decode cX12_putsAside 13 = .ok (.aload_n 0, 1) := by decide +kernel
theorem dX12_putsAside_14 : decode cX12_putsAside 14 = .ok (.getfield 127, 3) := by decide +kernel
theorem dX12_putsAside_17 : decode cX12_putsAside 17 = .ok (.iload_n 1, 1) := by decide +kernel
theorem dX12_putsAside_18 : decode cX12_putsAside 18 = .ok (.iaload, 1) := by decide +kernel
theorem dX12_putsAside_19 : decode cX12_putsAside 19 = .ok (.iastore, 1) := by decide +kernel
theorem dX12_putsAside_20 : decode cX12_putsAside 20 = .ok (.iinc 1 1, 3) := by decide +kernel
theorem dX12_putsAside_23 : decode cX12_putsAside 23 = .ok (.goto (-21), 3) := by decide +kernel
theorem dX12_putsAside_26 : decode cX12_putsAside 26 = .ok (.return_, 1) := by decide +kernel
theorem dX12_takesBack_0 : decode cX12_takesBack 0 = .ok (.iconst 0, 1) := by decide +kernel
theorem dX12_takesBack_1 : decode cX12_takesBack 1 = .ok (.istore_n 1, 1) := by decide +kernel
theorem dX12_takesBack_2 : decode cX12_takesBack 2 = .ok (.iload_n 1, 1) := by decide +kernel
theorem dX12_takesBack_3 : decode cX12_takesBack 3 = .ok (.bipush 51, 2) := by decide +kernel
theorem dX12_takesBack_5 : decode cX12_takesBack 5 = .ok (.if_icmp .ge 21, 3) := by decide +kernel
theorem dX12_takesBack_8 : decode cX12_takesBack 8 = .ok (.aload_n 0, 1) := by decide +kernel
theorem dX12_takesBack_9 : decode cX12_takesBack 9 = .ok (.getfield 127, 3) := by decide +kernel
theorem dX12_takesBack_12 : decode cX12_takesBack 12 = .ok (.iload_n 1, 1) := by decide +kernel
theorem dX12_takesBack_13 : decode cX12_takesBack 13 = .ok (.aload_n 0, 1) := by decide +kernel
theorem dX12_takesBack_14 : decode cX12_takesBack 14 = .ok (.getfield 130, 3) := by decide +kernel
theorem dX12_takesBack_17 : decode cX12_takesBack 17 = .ok (.iload_n 1, 1) := by decide +kernel
theorem dX12_takesBack_18 : decode cX12_takesBack 18 = .ok (.iaload, 1) := by decide +kernel
theorem dX12_takesBack_19 : decode cX12_takesBack 19 = .ok (.iastore, 1) := by decide +kernel
theorem dX12_takesBack_20 : decode cX12_takesBack 20 = .ok (.iinc 1 1, 3) := by decide +kernel
theorem dX12_takesBack_23 : decode cX12_takesBack 23 = .ok (.goto (-21), 3) := by decide +kernel
theorem dX12_takesBack_26 : decode cX12_takesBack 26 = .ok (.return_, 1) := by decide +kernel
theorem dX12_rests_0 : decode cX12_rests 0 = .ok (.aload_n 0, 1) := by decide +kernel
theorem dX12_rests_1 : decode cX12_rests 1 = .ok (.invokevirtual 463, 3) := by decide +kernel
theorem dX12_rests_4 : decode cX12_rests 4 = .ok (.ifCond .eq 24, 3) := by decide +kernel
theorem dX12_rests_7 : decode cX12_rests 7 = .ok (.iload_n 1, 1) := by decide +kernel
theorem dX12_rests_8 : decode cX12_rests 8 = .ok (.iconst (-1), 1) := by decide +kernel
theorem dX12_rests_9 : decode cX12_rests 9 = .ok (.if_icmp .eq 21, 3) := by decide +kernel
theorem dX12_rests_12 : decode cX12_rests 12 = .ok (.aload_n 0, 1) := by decide +kernel
theorem dX12_rests_13 : decode cX12_rests 13 = .ok (.iload_n 1, 1) := by decide +kernel
theorem dX12_rests_14 : decode cX12_rests 14 = .ok (.invokevirtual 477, 3) := by decide +kernel
theorem dX12_rests_17 : decode cX12_rests 17 = .ok (.ifCond .eq 11, 3) := by decide +kernel
theorem dX12_rests_20 : decode cX12_rests 20 = .ok (.aload_n 0, 1) := by decide +kernel
theorem dX12_rests_21 : decode cX12_rests 21 = .ok (.iload_n 2, 1) := by decide +kernel
theorem dX12_rests_22 : decode cX12_rests 22 = .ok (.invokevirtual 521, 3) := by decide +kernel
theorem dX12_rests_25 : decode cX12_rests 25 = .ok (.ifCond .ne 5, 3) := by decide +kernel
theorem dX12_rests_28 : decode cX12_rests 28 = .ok (.iconst (-1), 1) := by decide +kernel
theorem dX12_rests_29 : decode cX12_rests 29 = .ok (.ireturn, 1) := by decide +kernel
theorem dX12_rests_30 : decode cX12_rests 30 = .ok (.aload_n 0, 1) := by decide +kernel
theorem dX12_rests_31 : decode cX12_rests 31 = .ok (.invokevirtual 531, 3) := by decide +kernel
theorem dX12_rests_34 : decode cX12_rests 34 = .ok (.iconst 1, 1) := by decide +kernel
theorem dX12_rests_35 : decode cX12_rests 35 = .ok (.istore_n 3, 1) := by decide +kernel
theorem dX12_rests_36 : decode cX12_rests 36 = .ok (.iload_n 3, 1) := by decide +kernel
theorem dX12_rests_37 : decode cX12_rests 37 = .ok (.bipush 12, 2) := by decide +kernel
theorem dX12_rests_39 : decode cX12_rests 39 = .ok (.if_icmp .gt 16, 3) := by decide +kernel
theorem dX12_rests_42 : decode cX12_rests 42 = .ok (.aload_n 0, 1) := by decide +kernel
theorem dX12_rests_43 : decode cX12_rests 43 = .ok (.invokevirtual 534, 3) := by decide +kernel
theorem dX12_rests_46 : decode cX12_rests 46 = .ok (.ifCond .eq 9, 3) := by decide +kernel
theorem dX12_rests_49 : decode cX12_rests 49 = .ok (.iinc 3 1, 3) := by decide +kernel
theorem dX12_rests_52 : decode cX12_rests 52 = .ok (.goto (-16), 3) := by decide +kernel
theorem dX12_rests_55 : decode cX12_rests 55 = .ok (.iload_n 1, 1) := by decide +kernel
theorem dX12_rests_56 : decode cX12_rests 56 = .ok (.iconst (-1), 1) := by decide +kernel
theorem dX12_rests_57 : decode cX12_rests 57 = .ok (.if_icmp .ne 7, 3) := by decide +kernel
theorem dX12_rests_60 : decode cX12_rests 60 = .ok (.iload_n 3, 1) := by decide +kernel
theorem dX12_rests_61 : decode cX12_rests 61 = .ok (.goto 19, 3) := by decide +kernel
theorem dX12_rests_64 : decode cX12_rests 64 = .ok (.bipush 10, 2) := by decide +kernel
theorem dX12_rests_66 : decode cX12_rests 66 = .ok (.aload_n 0, 1) := by decide +kernel
theorem dX12_rests_67 : decode cX12_rests 67 = .ok (.iload_n 1, 1) := by decide +kernel
theorem dX12_rests_68 : decode cX12_rests 68 = .ok (.iload_n 2, 1) := by decide +kernel
theorem dX12_rests_69 : decode cX12_rests 69 = .ok (.invokevirtual 421, 3) := by decide +kernel
theorem dX12_rests_72 : decode cX12_rests 72 = .ok (.imul, 1) := by decide +kernel
theorem dX12_rests_73 : decode cX12_rests 73 = .ok (.aload_n 0, 1) := by decide +kernel
theorem dX12_rests_74 : decode cX12_rests 74 = .ok (.iload_n 1, 1) := by decide +kernel
theorem dX12_rests_75 : decode cX12_rests 75 = .ok (.iload_n 2, 1) := by decide +kernel
theorem dX12_rests_76 : decode cX12_rests 76 = .ok (.invokevirtual 418, 3) := by decide +kernel
theorem dX12_rests_79 : decode cX12_rests 79 = .ok (.iadd, 1) := by decide +kernel
theorem dX12_rests_80 : decode cX12_rests 80 = .ok (.istore 4, 2) := by decide +kernel
theorem dX12_rests_82 : decode cX12_rests 82 = .ok (.aload_n 0, 1) := by decide +kernel
theorem dX12_rests_83 : decode cX12_rests 83 = .ok (.invokevirtual 537, 3) := by decide +kernel
theorem dX12_rests_86 : decode cX12_rests 86 = .ok (.iload 4, 2) := by decide +kernel
theorem dX12_rests_88 : decode cX12_rests 88 = .ok (.ireturn, 1) := by decide +kernel
theorem dX12_power_0 : decode cX12_power 0 = .ok (.lconst 1, 1) := by decide +kernel
theorem dX12_power_1 : decode cX12_power 1 = .ok (.lstore_n 3, 1) := by decide +kernel
theorem dX12_power_2 : decode cX12_power 2 = .ok (.iconst 0, 1) := by decide +kernel
theorem dX12_power_3 : decode cX12_power 3 = .ok (.istore 5, 2) := by decide +kernel
theorem dX12_power_5 : decode cX12_power 5 = .ok (.iload 5, 2) := by decide +kernel
theorem dX12_power_7 : decode cX12_power 7 = .ok (.iload_n 2, 1) := by decide +kernel
theorem dX12_power_8 : decode cX12_power 8 = .ok (.if_icmp .ge 13, 3) := by decide +kernel
theorem dX12_power_11 : decode cX12_power 11 = .ok (.lload_n 3, 1) := by decide +kernel
theorem dX12_power_12 : decode cX12_power 12 = .ok (.lload_n 0, 1) := by decide +kernel
theorem dX12_power_13 : decode cX12_power 13 = .ok (.lmul, 1) := by decide +kernel
theorem dX12_power_14 : decode cX12_power 14 = .ok (.lstore_n 3, 1) := by decide +kernel
theorem dX12_power_15 : decode cX12_power 15 = .ok (.iinc 5 1, 3) := by decide +kernel
theorem dX12_power_18 : decode cX12_power 18 = .ok (.goto (-13), 3) := by decide +kernel
theorem dX12_power_21 : decode cX12_power 21 = .ok (.lload_n 3, 1) := by decide +kernel
theorem dX12_power_22 : decode cX12_power 22 = .ok (.lreturn, 1) := by decide +kernel
theorem dX12_rowOdds_0 : decode cX12_rowOdds 0 = .ok (.aload_n 0, 1) := by decide +kernel
theorem dX12_rowOdds_1 : decode cX12_rowOdds 1 = .ok (.iload_n 1, 1) := by decide +kernel
theorem dX12_rowOdds_2 : decode cX12_rowOdds 2 = .ok (.iload_n 2, 1) := by decide +kernel
theorem dX12_rowOdds_3 : decode cX12_rowOdds 3 = .ok (.invokevirtual 421, 3) := by decide +kernel
theorem dX12_rowOdds_6 : decode cX12_rowOdds 6 = .ok (.istore 6, 2) := by decide +kernel
theorem dX12_rowOdds_8 : decode cX12_rowOdds 8 = .ok (.aload_n 0, 1) := by decide +kernel
theorem dX12_rowOdds_9 : decode cX12_rowOdds 9 = .ok (.iload_n 1, 1) := by decide +kernel
theorem dX12_rowOdds_10 : decode cX12_rowOdds 10 = .ok (.iload_n 2, 1) := by decide +kernel
theorem dX12_rowOdds_11 : decode cX12_rowOdds 11 = .ok (.iload_n 3, 1) := by decide +kernel
theorem dX12_rowOdds_12 : decode cX12_rowOdds 12 = .ok (.aload_n 0, 1) := by decide +kernel
theorem dX12_rowOdds_13 : decode cX12_rowOdds 13 = .ok (.iload_n 1, 1) := by decide +kernel
theorem dX12_rowOdds_14 : decode cX12_rowOdds 14 = .ok (.iload_n 2, 1) := by decide +kernel
theorem dX12_rowOdds_15 : decode cX12_rowOdds 15 = .ok (.invokevirtual 418, 3) := by decide +kernel
theorem dX12_rowOdds_18 : decode cX12_rowOdds 18 = .ok (.invokevirtual 511, 3) := by decide +kernel
theorem dX12_rowOdds_21 : decode cX12_rowOdds 21 = .ok (.aload_n 0, 1) := by decide +kernel
theorem dX12_rowOdds_22 : decode cX12_rowOdds 22 = .ok (.iload_n 1, 1) := by decide +kernel
theorem dX12_rowOdds_23 : decode cX12_rowOdds 23 = .ok (.iload_n 2, 1) := by decide +kernel
theorem dX12_rowOdds_24 : decode cX12_rowOdds 24 = .ok (.invokevirtual 515, 3) := by decide +kernel
theorem dX12_rowOdds_27 : decode cX12_rowOdds 27 = .ok (.i2l, 1) := by decide +kernel
theorem dX12_rowOdds_28 : decode cX12_rowOdds 28 = .ok (.lstore 7, 2) := by decide +kernel
theorem dX12_rowOdds_30 : decode cX12_rowOdds 30 = .ok (.aload_n 0, 1) := by decide +kernel
theorem dX12_rowOdds_31 : decode cX12_rowOdds 31 = .ok (.iload_n 1, 1) := by decide +kernel
theorem dX12_rowOdds_32 : decode cX12_rowOdds 32 = .ok (.iload_n 2, 1) := by decide +kernel
theorem dX12_rowOdds_33 : decode cX12_rowOdds 33 = .ok (.iload 6, 2) := by decide +kernel
theorem dX12_rowOdds_35 : decode cX12_rowOdds 35 = .ok (.aload_n 0, 1) := by decide +kernel
theorem dX12_rowOdds_36 : decode cX12_rowOdds 36 = .ok (.iload_n 1, 1) := by decide +kernel
theorem dX12_rowOdds_37 : decode cX12_rowOdds 37 = .ok (.iload_n 2, 1) := by decide +kernel
theorem dX12_rowOdds_38 : decode cX12_rowOdds 38 = .ok (.invokevirtual 418, 3) := by decide +kernel
theorem dX12_rowOdds_41 : decode cX12_rowOdds 41 = .ok (.invokevirtual 511, 3) := by decide +kernel
theorem dX12_rowOdds_44 : decode cX12_rowOdds 44 = .ok (.lload 7, 2) := by decide +kernel
theorem dX12_rowOdds_46 : decode cX12_rowOdds 46 = .ok (.iload 5, 2) := by decide +kernel
theorem dX12_rowOdds_48 : decode cX12_rowOdds 48 = .ok (.invokestatic 540, 3) := by decide +kernel
theorem dX12_rowOdds_51 : decode cX12_rowOdds 51 = .ok (.ldc2_w 451, 3) := by decide +kernel
theorem dX12_rowOdds_54 : decode cX12_rowOdds 54 = .ok (.lload 7, 2) := by decide +kernel
theorem dX12_rowOdds_56 : decode cX12_rowOdds 56 = .ok (.lsub, 1) := by decide +kernel
theorem dX12_rowOdds_57 : decode cX12_rowOdds 57 = .ok (.iload 4, 2) := by decide +kernel
theorem dX12_rowOdds_59 : decode cX12_rowOdds 59 = .ok (.iload 5, 2) := by decide +kernel
theorem dX12_rowOdds_61 : decode cX12_rowOdds 61 = .ok (.isub, 1) := by decide +kernel
theorem dX12_rowOdds_62 : decode cX12_rowOdds 62 = .ok (.invokestatic 540, 3) := by decide +kernel
theorem dX12_rowOdds_65 : decode cX12_rowOdds 65 = .ok (.lmul, 1) := by decide +kernel
theorem dX12_rowOdds_66 : decode cX12_rowOdds 66 = .ok (.lreturn, 1) := by decide +kernel
theorem dX12_thumb_0 : decode cX12_thumb 0 = .ok (.aload_n 0, 1) := by decide +kernel
theorem dX12_thumb_1 : decode cX12_thumb 1 = .ok (.invokevirtual 463, 3) := by decide +kernel
theorem dX12_thumb_4 : decode cX12_thumb 4 = .ok (.ifCond .eq 43, 3) := by decide +kernel
theorem dX12_thumb_7 : decode cX12_thumb 7 = .ok (.aload_n 0, 1) := by decide +kernel
theorem dX12_thumb_8 : decode cX12_thumb 8 = .ok (.iload_n 1, 1) := by decide +kernel
theorem dX12_thumb_9 : decode cX12_thumb 9 = .ok (.invokevirtual 477, 3) := by decide +kernel
theorem dX12_thumb_12 : decode cX12_thumb 12 = .ok (.ifCond .eq 35, 3) := by decide +kernel
theorem dX12_thumb_15 : decode cX12_thumb 15 = .ok (.aload_n 0, 1) := by decide +kernel
theorem dX12_thumb_16 : decode cX12_thumb 16 = .ok (.iload_n 2, 1) := by decide +kernel
theorem dX12_thumb_17 : decode cX12_thumb 17 = .ok (.invokevirtual 521, 3) := by decide +kernel
theorem dX12_thumb_20 : decode cX12_thumb 20 = .ok (.ifCond .eq 27, 3) := by decide +kernel
theorem dX12_thumb_23 : decode cX12_thumb 23 = .ok (.iload_n 3, 1) := by decide +kernel
theorem dX12_thumb_24 : decode cX12_thumb 24 = .ok (.i2l, 1) := by decide +kernel
theorem dX12_thumb_25 : decode cX12_thumb 25 = .ok (.lconst 1, 1) := by decide +kernel
theorem dX12_thumb_26 : decode cX12_thumb 26 = .ok (.ldc2_w 544, 3) := by decide +kernel
theorem dX12_thumb_29 : decode cX12_thumb 29 = .ok (.invokestatic 276, 3) := by decide +kernel
theorem dX12_thumb_32 : decode cX12_thumb 32 = .ok (.ifCond .eq 15, 3) := by decide +kernel
theorem dX12_thumb_35 : decode cX12_thumb 35 = .ok (.iload 4, 2) := by decide +kernel
theorem dX12_thumb_37 : decode cX12_thumb 37 = .ok (.i2l, 1) := by decide +kernel
theorem dX12_thumb_38 : decode cX12_thumb 38 = .ok (.lconst 0, 1) := by decide +kernel
theorem dX12_thumb_39 : decode cX12_thumb 39 = .ok (.iload_n 3, 1) := by decide +kernel
theorem dX12_thumb_40 : decode cX12_thumb 40 = .ok (.i2l, 1) := by decide +kernel
theorem dX12_thumb_41 : decode cX12_thumb 41 = .ok (.invokestatic 276, 3) := by decide +kernel
theorem dX12_thumb_44 : decode cX12_thumb 44 = .ok (.ifCond .ne 5, 3) := by decide +kernel
theorem dX12_thumb_47 : decode cX12_thumb 47 = .ok (.iconst (-1), 1) := by decide +kernel
theorem dX12_thumb_48 : decode cX12_thumb 48 = .ok (.ireturn, 1) := by decide +kernel
theorem dX12_thumb_49 : decode cX12_thumb 49 = .ok (.aload_n 0, 1) := by decide +kernel
theorem dX12_thumb_50 : decode cX12_thumb 50 = .ok (.iload_n 1, 1) := by decide +kernel
theorem dX12_thumb_51 : decode cX12_thumb 51 = .ok (.iload_n 2, 1) := by decide +kernel
theorem dX12_thumb_52 : decode cX12_thumb 52 = .ok (.iconst 2, 1) := by decide +kernel
theorem dX12_thumb_53 : decode cX12_thumb 53 = .ok (.iload_n 3, 1) := by decide +kernel
theorem dX12_thumb_54 : decode cX12_thumb 54 = .ok (.iload 4, 2) := by decide +kernel
theorem dX12_thumb_56 : decode cX12_thumb 56 = .ok (.invokevirtual 546, 3) := by decide +kernel
theorem dX12_thumb_59 : decode cX12_thumb 59 = .ok (.lstore 5, 2) := by decide +kernel
theorem dX12_thumb_61 : decode cX12_thumb 61 = .ok (.aload_n 0, 1) := by decide +kernel
theorem dX12_thumb_62 : decode cX12_thumb 62 = .ok (.iload_n 1, 1) := by decide +kernel
theorem dX12_thumb_63 : decode cX12_thumb 63 = .ok (.iload_n 2, 1) := by decide +kernel
theorem dX12_thumb_64 : decode cX12_thumb 64 = .ok (.iconst 0, 1) := by decide +kernel
theorem dX12_thumb_65 : decode cX12_thumb 65 = .ok (.iload_n 3, 1) := by decide +kernel
theorem dX12_thumb_66 : decode cX12_thumb 66 = .ok (.iload 4, 2) := by decide +kernel
theorem dX12_thumb_68 : decode cX12_thumb 68 = .ok (.invokevirtual 546, 3) := by decide +kernel
theorem dX12_thumb_71 : decode cX12_thumb 71 = .ok (.lstore 7, 2) := by decide +kernel
theorem dX12_thumb_73 : decode cX12_thumb 73 = .ok (.lload 5, 2) := by decide +kernel
theorem dX12_thumb_75 : decode cX12_thumb 75 = .ok (.lload 7, 2) := by decide +kernel
theorem dX12_thumb_77 : decode cX12_thumb 77 = .ok (.ladd, 1) := by decide +kernel
theorem dX12_thumb_78 : decode cX12_thumb 78 = .ok (.lconst 0, 1) := by decide +kernel
theorem dX12_thumb_79 : decode cX12_thumb 79 = .ok (.lcmp, 1) := by decide +kernel
theorem dX12_thumb_80 : decode cX12_thumb 80 = .ok (.ifCond .ne 9, 3) := by decide +kernel
theorem dX12_thumb_83 : decode cX12_thumb 83 = .ok (.sipush 500, 3) := by decide +kernel
theorem dX12_thumb_86 : decode cX12_thumb 86 = .ok (.goto 16, 3) := by decide +kernel
theorem dX12_thumb_89 : decode cX12_thumb 89 = .ok (.ldc2_w 550, 3) := by decide +kernel
theorem dX12_thumb_92 : decode cX12_thumb 92 = .ok (.lload 5, 2) := by decide +kernel
theorem dX12_thumb_94 : decode cX12_thumb 94 = .ok (.lmul, 1) := by decide +kernel
theorem dX12_thumb_95 : decode cX12_thumb 95 = .ok (.lload 5, 2) := by decide +kernel
theorem dX12_thumb_97 : decode cX12_thumb 97 = .ok (.lload 7, 2) := by decide +kernel
theorem dX12_thumb_99 : decode cX12_thumb 99 = .ok (.ladd, 1) := by decide +kernel
theorem dX12_thumb_100 : decode cX12_thumb 100 = .ok (.ldiv, 1) := by decide +kernel
theorem dX12_thumb_101 : decode cX12_thumb 101 = .ok (.l2i, 1) := by decide +kernel
theorem dX12_thumb_102 : decode cX12_thumb 102 = .ok (.ireturn, 1) := by decide +kernel
theorem dX12_duds_0 : decode cX12_duds 0 = .ok (.aload_n 0, 1) := by decide +kernel
theorem dX12_duds_1 : decode cX12_duds 1 = .ok (.invokevirtual 466, 3) := by decide +kernel
theorem dX12_duds_4 : decode cX12_duds 4 = .ok (.ifCond .eq 36, 3) := by decide +kernel
theorem dX12_duds_7 : decode cX12_duds 7 = .ok (.iload_n 1, 1) := by decide +kernel
theorem dX12_duds_8 : decode cX12_duds 8 = .ok (.i2l, 1) := by decide +kernel
theorem dX12_duds_9 : decode cX12_duds 9 = .ok (.lconst 1, 1) := by decide +kernel
theorem dX12_duds_10 : decode cX12_duds 10 = .ok (.ldc2_w 552, 3) := by decide +kernel
theorem dX12_duds_13 : decode cX12_duds 13 = .ok (.invokestatic 276, 3) := by decide +kernel
theorem dX12_duds_16 : decode cX12_duds 16 = .ok (.ifCond .eq 24, 3) := by decide +kernel
theorem dX12_duds_19 : decode cX12_duds 19 = .ok (.iload_n 2, 1) := by decide +kernel
theorem dX12_duds_20 : decode cX12_duds 20 = .ok (.i2l, 1) := by decide +kernel
theorem dX12_duds_21 : decode cX12_duds 21 = .ok (.lconst 0, 1) := by decide +kernel
theorem dX12_duds_22 : decode cX12_duds 22 = .ok (.iload_n 1, 1) := by decide +kernel
theorem dX12_duds_23 : decode cX12_duds 23 = .ok (.i2l, 1) := by decide +kernel
theorem dX12_duds_24 : decode cX12_duds 24 = .ok (.invokestatic 276, 3) := by decide +kernel
theorem dX12_duds_27 : decode cX12_duds 27 = .ok (.ifCond .eq 13, 3) := by decide +kernel
theorem dX12_duds_30 : decode cX12_duds 30 = .ok (.iload_n 3, 1) := by decide +kernel
theorem dX12_duds_31 : decode cX12_duds 31 = .ok (.i2l, 1) := by decide +kernel
theorem dX12_duds_32 : decode cX12_duds 32 = .ok (.lconst 0, 1) := by decide +kernel
theorem dX12_duds_33 : decode cX12_duds 33 = .ok (.lconst 1, 1) := by decide +kernel
theorem dX12_duds_34 : decode cX12_duds 34 = .ok (.invokestatic 276, 3) := by decide +kernel
theorem dX12_duds_37 : decode cX12_duds 37 = .ok (.ifCond .ne 5, 3) := by decide +kernel
theorem dX12_duds_40 : decode cX12_duds 40 = .ok (.iconst (-1), 1) := by decide +kernel
theorem dX12_duds_41 : decode cX12_duds 41 = .ok (.ireturn, 1) := by decide +kernel
theorem dX12_duds_42 : decode cX12_duds 42 = .ok (.iconst 0, 1) := by decide +kernel
theorem dX12_duds_43 : decode cX12_duds 43 = .ok (.istore 4, 2) := by decide +kernel
theorem dX12_duds_45 : decode cX12_duds 45 = .ok (.ldc2_w 499, 3) := by decide +kernel
theorem dX12_duds_48 : decode cX12_duds 48 = .ok (.lstore 5, 2) := by decide +kernel
theorem dX12_duds_50 : decode cX12_duds 50 = .ok (.lconst 0, 1) := by decide +kernel
theorem dX12_duds_51 : decode cX12_duds 51 = .ok (.lstore 7, 2) := by decide +kernel
theorem dX12_duds_53 : decode cX12_duds 53 = .ok (.iconst 0, 1) := by decide +kernel
theorem dX12_duds_54 : decode cX12_duds 54 = .ok (.istore 9, 2) := by decide +kernel
theorem dX12_duds_56 : decode cX12_duds 56 = .ok (.iload 9, 2) := by decide +kernel
theorem dX12_duds_58 : decode cX12_duds 58 = .ok (.aload_n 0, 1) := by decide +kernel
theorem dX12_duds_59 : decode cX12_duds 59 = .ok (.invokevirtual 466, 3) := by decide +kernel
theorem dX12_duds_62 : decode cX12_duds 62 = .ok (.if_icmp .ge 71, 3) := by decide +kernel
theorem dX12_duds_65 : decode cX12_duds 65 = .ok (.aload_n 0, 1) := by decide +kernel
theorem dX12_duds_66 : decode cX12_duds 66 = .ok (.getfield 103, 3) := by decide +kernel
theorem dX12_duds_69 : decode cX12_duds 69 = .ok (.iconst 4, 1) := by decide +kernel
theorem dX12_duds_70 : decode cX12_duds 70 = .ok (.iload 9, 2) := by decide +kernel
theorem dX12_duds_72 : decode cX12_duds 72 = .ok (.iadd, 1) := by decide +kernel
theorem dX12_duds_73 : decode cX12_duds 73 = .ok (.iaload, 1) := by decide +kernel
theorem dX12_duds_74 : decode cX12_duds 74 = .ok (.i2l, 1) := by decide +kernel
theorem dX12_duds_75 : decode cX12_duds 75 = .ok (.iload_n 2, 1) := by decide +kernel
theorem dX12_duds_76 : decode cX12_duds 76 = .ok (.invokestatic 540, 3) := by decide +kernel
theorem dX12_duds_79 : decode cX12_duds 79 = .ok (.bipush 100, 2) := by decide +kernel
theorem dX12_duds_81 : decode cX12_duds 81 = .ok (.aload_n 0, 1) := by decide +kernel
theorem dX12_duds_82 : decode cX12_duds 82 = .ok (.getfield 103, 3) := by decide +kernel
theorem dX12_duds_85 : decode cX12_duds 85 = .ok (.iconst 4, 1) := by decide +kernel
theorem dX12_duds_86 : decode cX12_duds 86 = .ok (.iload 9, 2) := by decide +kernel
theorem dX12_duds_88 : decode cX12_duds 88 = .ok (.iadd, 1) := by decide +kernel
theorem dX12_duds_89 : decode cX12_duds 89 = .ok (.iaload, 1) := by decide +kernel
theorem dX12_duds_90 : decode cX12_duds 90 = .ok (.isub, 1) := by decide +kernel
theorem dX12_duds_91 : decode cX12_duds 91 = .ok (.i2l, 1) := by decide +kernel
theorem dX12_duds_92 : decode cX12_duds 92 = .ok (.iload_n 1, 1) := by decide +kernel
theorem dX12_duds_93 : decode cX12_duds 93 = .ok (.iload_n 2, 1) := by decide +kernel
theorem dX12_duds_94 : decode cX12_duds 94 = .ok (.isub, 1) := by decide +kernel
theorem dX12_duds_95 : decode cX12_duds 95 = .ok (.invokestatic 540, 3) := by decide +kernel
theorem dX12_duds_98 : decode cX12_duds 98 = .ok (.lmul, 1) := by decide +kernel
theorem dX12_duds_99 : decode cX12_duds 99 = .ok (.lstore 10, 2) := by decide +kernel
theorem dX12_duds_101 : decode cX12_duds 101 = .ok (.lload 7, 2) := by decide +kernel
theorem dX12_duds_103 : decode cX12_duds 103 = .ok (.lload 10, 2) := by decide +kernel
theorem dX12_duds_105 : decode cX12_duds 105 = .ok (.ladd, 1) := by decide +kernel
theorem dX12_duds_106 : decode cX12_duds 106 = .ok (.lstore 7, 2) := by decide +kernel
theorem dX12_duds_108 : decode cX12_duds 108 = .ok (.lload 10, 2) := by decide +kernel
theorem dX12_duds_110 : decode cX12_duds 110 = .ok (.lload 5, 2) := by decide +kernel
theorem dX12_duds_112 : decode cX12_duds 112 = .ok (.lcmp, 1) := by decide +kernel
theorem dX12_duds_113 : decode cX12_duds 113 = .ok (.ifCond .gt 6, 3) := by decide +kernel
theorem dX12_duds_116 : decode cX12_duds 116 = .ok (.goto 11, 3) := by decide +kernel
theorem dX12_duds_119 : decode cX12_duds 119 = .ok (.lload 10, 2) := by decide +kernel
theorem dX12_duds_121 : decode cX12_duds 121 = .ok (.lstore 5, 2) := by decide +kernel
theorem dX12_duds_123 : decode cX12_duds 123 = .ok (.iload 9, 2) := by decide +kernel
theorem dX12_duds_125 : decode cX12_duds 125 = .ok (.istore 4, 2) := by decide +kernel
theorem dX12_duds_127 : decode cX12_duds 127 = .ok (.iinc 9 1, 3) := by decide +kernel
theorem dX12_duds_130 : decode cX12_duds 130 = .ok (.goto (-74), 3) := by decide +kernel
theorem dX12_duds_133 : decode cX12_duds 133 = .ok (.iload_n 3, 1) := by decide +kernel
theorem dX12_duds_134 : decode cX12_duds 134 = .ok (.ifCond .ne 8, 3) := by decide +kernel
theorem dX12_duds_137 : decode cX12_duds 137 = .ok (.iload 4, 2) := by decide +kernel
theorem dX12_duds_139 : decode cX12_duds 139 = .ok (.goto 24, 3) := by decide +kernel
theorem dX12_duds_142 : decode cX12_duds 142 = .ok (.lload 7, 2) := by decide +kernel
theorem dX12_duds_144 : decode cX12_duds 144 = .ok (.lconst 0, 1) := by decide +kernel
theorem dX12_duds_145 : decode cX12_duds 145 = .ok (.lcmp, 1) := by decide +kernel
theorem dX12_duds_146 : decode cX12_duds 146 = .ok (.ifCond .ne 7, 3) := by decide +kernel
theorem dX12_duds_149 : decode cX12_duds 149 = .ok (.iconst 0, 1) := by decide +kernel
theorem dX12_duds_150 : decode cX12_duds 150 = .ok (.goto 13, 3) := by decide +kernel
theorem dX12_duds_153 : decode cX12_duds 153 = .ok (.ldc2_w 550, 3) := by decide +kernel
theorem dX12_duds_156 : decode cX12_duds 156 = .ok (.lload 5, 2) := by decide +kernel
theorem dX12_duds_158 : decode cX12_duds 158 = .ok (.lmul, 1) := by decide +kernel
theorem dX12_duds_159 : decode cX12_duds 159 = .ok (.lload 7, 2) := by decide +kernel
theorem dX12_duds_161 : decode cX12_duds 161 = .ok (.ldiv, 1) := by decide +kernel
theorem dX12_duds_162 : decode cX12_duds 162 = .ok (.l2i, 1) := by decide +kernel
theorem dX12_duds_163 : decode cX12_duds 163 = .ok (.ireturn, 1) := by decide +kernel
theorem dX12_pairs_0 : decode cX12_pairs 0 = .ok (.aload_n 0, 1) := by decide +kernel
theorem dX12_pairs_1 : decode cX12_pairs 1 = .ok (.invokevirtual 463, 3) := by decide +kernel
theorem dX12_pairs_4 : decode cX12_pairs 4 = .ok (.ifCond .ne 5, 3) := by decide +kernel
theorem dX12_pairs_7 : decode cX12_pairs 7 = .ok (.iconst (-1), 1) := by decide +kernel
theorem dX12_pairs_8 : decode cX12_pairs 8 = .ok (.ireturn, 1) := by decide +kernel
theorem dX12_pairs_9 : decode cX12_pairs 9 = .ok (.iconst 0, 1) := by decide +kernel
theorem dX12_pairs_10 : decode cX12_pairs 10 = .ok (.istore_n 1, 1) := by decide +kernel
theorem dX12_pairs_11 : decode cX12_pairs 11 = .ok (.iconst 0, 1) := by decide +kernel
theorem dX12_pairs_12 : decode cX12_pairs 12 = .ok (.istore_n 2, 1) := by decide +kernel
theorem dX12_pairs_13 : decode cX12_pairs 13 = .ok (.iload_n 2, 1) := by decide +kernel
theorem dX12_pairs_14 : decode cX12_pairs 14 = .ok (.aload_n 0, 1) := by decide +kernel
theorem dX12_pairs_15 : decode cX12_pairs 15 = .ok (.invokevirtual 408, 3) := by decide +kernel
theorem dX12_pairs_18 : decode cX12_pairs 18 = .ok (.if_icmp .ge 71, 3) := by decide +kernel
theorem dX12_pairs_21 : decode cX12_pairs 21 = .ok (.iload_n 2, 1) := by decide +kernel
theorem dX12_pairs_22 : decode cX12_pairs 22 = .ok (.iconst 1, 1) := by decide +kernel
theorem dX12_pairs_23 : decode cX12_pairs 23 = .ok (.iadd, 1) := by decide +kernel
theorem dX12_pairs_24 : decode cX12_pairs 24 = .ok (.aload_n 0, 1) := by decide +kernel
theorem dX12_pairs_25 : decode cX12_pairs 25 = .ok (.invokevirtual 408, 3) := by decide +kernel
theorem dX12_pairs_28 : decode cX12_pairs 28 = .ok (.if_icmp .ne 13, 3) := by decide +kernel
theorem dX12_pairs_31 : decode cX12_pairs 31 = .ok (.iload_n 2, 1) := by decide +kernel
theorem dX12_pairs_32 : decode cX12_pairs 32 = .ok (.iconst 2, 1) := by decide +kernel
theorem dX12_pairs_33 : decode cX12_pairs 33 = .ok (.irem, 1) := by decide +kernel
theorem dX12_pairs_34 : decode cX12_pairs 34 = .ok (.ifCond .ne 7, 3) := by decide +kernel
theorem dX12_pairs_37 : decode cX12_pairs 37 = .ok (.iconst 1, 1) := by decide +kernel
theorem dX12_pairs_38 : decode cX12_pairs 38 = .ok (.goto 4, 3) := by decide +kernel
theorem dX12_pairs_41 : decode cX12_pairs 41 = .ok (.iconst 0, 1) := by decide +kernel
theorem dX12_pairs_42 : decode cX12_pairs 42 = .ok (.istore_n 3, 1) := by decide +kernel
theorem dX12_pairs_43 : decode cX12_pairs 43 = .ok (.iload_n 1, 1) := by decide +kernel
theorem dX12_pairs_44 : decode cX12_pairs 44 = .ok (.iload_n 3, 1) := by decide +kernel
theorem dX12_pairs_45 : decode cX12_pairs 45 = .ok (.ifCond .eq 9, 3) := by decide +kernel
theorem dX12_pairs_48 : decode cX12_pairs 48 = .ok (.sipush 10000, 3) := by decide +kernel
theorem dX12_pairs_51 : decode cX12_pairs 51 = .ok (.goto 30, 3) := by decide +kernel
theorem dX12_pairs_54 : decode cX12_pairs 54 = .ok (.sipush 10000, 3) := by decide +kernel
theorem dX12_pairs_57 : decode cX12_pairs 57 = .ok (.iload_n 2, 1) := by decide +kernel
theorem dX12_pairs_58 : decode cX12_pairs 58 = .ok (.iconst 2, 1) := by decide +kernel
theorem dX12_pairs_59 : decode cX12_pairs 59 = .ok (.irem, 1) := by decide +kernel
theorem dX12_pairs_60 : decode cX12_pairs 60 = .ok (.ifCond .ne 12, 3) := by decide +kernel
theorem dX12_pairs_63 : decode cX12_pairs 63 = .ok (.aload_n 0, 1) := by decide +kernel
theorem dX12_pairs_64 : decode cX12_pairs 64 = .ok (.iload_n 2, 1) := by decide +kernel
theorem dX12_pairs_65 : decode cX12_pairs 65 = .ok (.iconst 0, 1) := by decide +kernel
theorem dX12_pairs_66 : decode cX12_pairs 66 = .ok (.invokevirtual 448, 3) := by decide +kernel
theorem dX12_pairs_69 : decode cX12_pairs 69 = .ok (.goto 11, 3) := by decide +kernel
theorem dX12_pairs_72 : decode cX12_pairs 72 = .ok (.aload_n 0, 1) := by decide +kernel
theorem dX12_pairs_73 : decode cX12_pairs 73 = .ok (.iload_n 2, 1) := by decide +kernel
theorem dX12_pairs_74 : decode cX12_pairs 74 = .ok (.iconst 1, 1) := by decide +kernel
theorem dX12_pairs_75 : decode cX12_pairs 75 = .ok (.isub, 1) := by decide +kernel
theorem dX12_pairs_76 : decode cX12_pairs 76 = .ok (.iconst 1, 1) := by decide +kernel
theorem dX12_pairs_77 : decode cX12_pairs 77 = .ok (.invokevirtual 448, 3) := by decide +kernel
theorem dX12_pairs_80 : decode cX12_pairs 80 = .ok (.isub, 1) := by decide +kernel
theorem dX12_pairs_81 : decode cX12_pairs 81 = .ok (.iadd, 1) := by decide +kernel
theorem dX12_pairs_82 : decode cX12_pairs 82 = .ok (.istore_n 1, 1) := by decide +kernel
theorem dX12_pairs_83 : decode cX12_pairs 83 = .ok (.iinc 2 1, 3) := by decide +kernel
theorem dX12_pairs_86 : decode cX12_pairs 86 = .ok (.goto (-73), 3) := by decide +kernel
theorem dX12_pairs_89 : decode cX12_pairs 89 = .ok (.iload_n 1, 1) := by decide +kernel
theorem dX12_pairs_90 : decode cX12_pairs 90 = .ok (.bipush 10, 2) := by decide +kernel
theorem dX12_pairs_92 : decode cX12_pairs 92 = .ok (.idiv, 1) := by decide +kernel
theorem dX12_pairs_93 : decode cX12_pairs 93 = .ok (.ireturn, 1) := by decide +kernel
theorem dX12_size_0 : decode cX12_size 0 = .ok (.iload_n 0, 1) := by decide +kernel
theorem dX12_size_1 : decode cX12_size 1 = .ok (.ifCond .ge 8, 3) := by decide +kernel
theorem dX12_size_4 : decode cX12_size 4 = .ok (.iload_n 0, 1) := by decide +kernel
theorem dX12_size_5 : decode cX12_size 5 = .ok (.ineg, 1) := by decide +kernel
theorem dX12_size_6 : decode cX12_size 6 = .ok (.goto 4, 3) := by decide +kernel
theorem dX12_size_9 : decode cX12_size 9 = .ok (.iload_n 0, 1) := by decide +kernel
theorem dX12_size_10 : decode cX12_size 10 = .ok (.ireturn, 1) := by decide +kernel
theorem dX12_giftsBy_0 : decode cX12_giftsBy 0 = .ok (.iconst 0, 1) := by decide +kernel
theorem dX12_giftsBy_1 : decode cX12_giftsBy 1 = .ok (.istore_n 2, 1) := by decide +kernel
theorem dX12_giftsBy_2 : decode cX12_giftsBy 2 = .ok (.iload_n 2, 1) := by decide +kernel
theorem dX12_giftsBy_3 : decode cX12_giftsBy 3 = .ok (.bipush 17, 2) := by decide +kernel
theorem dX12_giftsBy_5 : decode cX12_giftsBy 5 = .ok (.if_icmp .ge 30, 3) := by decide +kernel
theorem dX12_giftsBy_8 : decode cX12_giftsBy 8 = .ok (.aload_n 0, 1) := by decide +kernel
theorem dX12_giftsBy_9 : decode cX12_giftsBy 9 = .ok (.getfield 151, 3) := by decide +kernel
theorem dX12_giftsBy_12 : decode cX12_giftsBy 12 = .ok (.iload_n 2, 1) := by decide +kernel
theorem dX12_giftsBy_13 : decode cX12_giftsBy 13 = .ok (.iload_n 2, 1) := by decide +kernel
theorem dX12_giftsBy_14 : decode cX12_giftsBy 14 = .ok (.bipush 8, 2) := by decide +kernel
theorem dX12_giftsBy_16 : decode cX12_giftsBy 16 = .ok (.isub, 1) := by decide +kernel
theorem dX12_giftsBy_17 : decode cX12_giftsBy 17 = .ok (.iload_n 1, 1) := by decide +kernel
theorem dX12_giftsBy_18 : decode cX12_giftsBy 18 = .ok (.if_icmp .ne 7, 3) := by decide +kernel
theorem dX12_giftsBy_21 : decode cX12_giftsBy 21 = .ok (.iconst 0, 1) := by decide +kernel
theorem dX12_giftsBy_22 : decode cX12_giftsBy 22 = .ok (.goto 6, 3) := by decide +kernel
theorem dX12_giftsBy_25 : decode cX12_giftsBy 25 = .ok (.ldc_w 554, 3) := by decide +kernel
theorem dX12_giftsBy_28 : decode cX12_giftsBy 28 = .ok (.iastore, 1) := by decide +kernel
theorem dX12_giftsBy_29 : decode cX12_giftsBy 29 = .ok (.iinc 2 1, 3) := by decide +kernel
theorem dX12_giftsBy_32 : decode cX12_giftsBy 32 = .ok (.goto (-30), 3) := by decide +kernel
theorem dX12_giftsBy_35 : decode cX12_giftsBy 35 = .ok (.iconst 0, 1) := by decide +kernel
theorem dX12_giftsBy_36 : decode cX12_giftsBy 36 = .ok (.istore_n 2, 1) := by decide +kernel
theorem dX12_giftsBy_37 : decode cX12_giftsBy 37 = .ok (.iload_n 2, 1) := by decide +kernel
theorem dX12_giftsBy_38 : decode cX12_giftsBy 38 = .ok (.aload_n 0, 1) := by decide +kernel
theorem dX12_giftsBy_39 : decode cX12_giftsBy 39 = .ok (.invokevirtual 408, 3) := by decide +kernel
theorem dX12_giftsBy_42 : decode cX12_giftsBy 42 = .ok (.if_icmp .ge 133, 3) := by decide +kernel
theorem dX12_giftsBy_45 : decode cX12_giftsBy 45 = .ok (.iconst 0, 1) := by decide +kernel
theorem dX12_giftsBy_46 : decode cX12_giftsBy 46 = .ok (.istore_n 3, 1) := by decide +kernel
theorem dX12_giftsBy_47 : decode cX12_giftsBy 47 = .ok (.iload_n 3, 1) := by decide +kernel
theorem dX12_giftsBy_48 : decode cX12_giftsBy 48 = .ok (.bipush 17, 2) := by decide +kernel
theorem dX12_giftsBy_50 : decode cX12_giftsBy 50 = .ok (.if_icmp .ge 93, 3) := by decide +kernel
theorem dX12_giftsBy_53 : decode cX12_giftsBy 53 = .ok (.aload_n 0, 1) := by decide +kernel
theorem dX12_giftsBy_54 : decode cX12_giftsBy 54 = .ok (.getfield 154, 3) := by decide +kernel
theorem dX12_giftsBy_57 : decode cX12_giftsBy 57 = .ok (.iload_n 3, 1) := by decide +kernel
theorem dX12_giftsBy_58 : decode cX12_giftsBy 58 = .ok (.ldc_w 554, 3) := by decide +kernel
theorem dX12_giftsBy_61 : decode cX12_giftsBy 61 = .ok (.iastore, 1) := by decide +kernel
theorem dX12_giftsBy_62 : decode cX12_giftsBy 62 = .ok (.iconst 0, 1) := by decide +kernel
theorem dX12_giftsBy_63 : decode cX12_giftsBy 63 = .ok (.istore 4, 2) := by decide +kernel
theorem dX12_giftsBy_65 : decode cX12_giftsBy 65 = .ok (.iload 4, 2) := by decide +kernel
theorem dX12_giftsBy_67 : decode cX12_giftsBy 67 = .ok (.bipush 17, 2) := by decide +kernel
theorem dX12_giftsBy_69 : decode cX12_giftsBy 69 = .ok (.if_icmp .ge 68, 3) := by decide +kernel
theorem dX12_giftsBy_72 : decode cX12_giftsBy 72 = .ok (.aload_n 0, 1) := by decide +kernel
theorem dX12_giftsBy_73 : decode cX12_giftsBy 73 = .ok (.getfield 151, 3) := by decide +kernel
theorem dX12_giftsBy_76 : decode cX12_giftsBy 76 = .ok (.iload 4, 2) := by decide +kernel
theorem dX12_giftsBy_78 : decode cX12_giftsBy 78 = .ok (.iaload, 1) := by decide +kernel
theorem dX12_giftsBy_79 : decode cX12_giftsBy 79 = .ok (.aload_n 0, 1) := by decide +kernel
theorem dX12_giftsBy_80 : decode cX12_giftsBy 80 = .ok (.getfield 154, 3) := by decide +kernel
theorem dX12_giftsBy_83 : decode cX12_giftsBy 83 = .ok (.iload_n 3, 1) := by decide +kernel
theorem dX12_giftsBy_84 : decode cX12_giftsBy 84 = .ok (.iaload, 1) := by decide +kernel
theorem dX12_giftsBy_85 : decode cX12_giftsBy 85 = .ok (.iload_n 3, 1) := by decide +kernel
theorem dX12_giftsBy_86 : decode cX12_giftsBy 86 = .ok (.bipush 8, 2) := by decide +kernel
theorem dX12_giftsBy_88 : decode cX12_giftsBy 88 = .ok (.isub, 1) := by decide +kernel
theorem dX12_giftsBy_89 : decode cX12_giftsBy 89 = .ok (.invokestatic 555, 3) := by decide +kernel
theorem dX12_giftsBy_92 : decode cX12_giftsBy 92 = .ok (.isub, 1) := by decide +kernel
theorem dX12_giftsBy_93 : decode cX12_giftsBy 93 = .ok (.if_icmp .ge 38, 3) := by decide +kernel
theorem dX12_giftsBy_96 : decode cX12_giftsBy 96 = .ok (.aload_n 0, 1) := by decide +kernel
theorem dX12_giftsBy_97 : decode cX12_giftsBy 97 = .ok (.iload_n 2, 1) := by decide +kernel
theorem dX12_giftsBy_98 : decode cX12_giftsBy 98 = .ok (.invokevirtual 460, 3) := by decide +kernel
theorem dX12_giftsBy_101 : decode cX12_giftsBy 101 = .ok (.iload 4, 2) := by decide +kernel
theorem dX12_giftsBy_103 : decode cX12_giftsBy 103 = .ok (.iadd, 1) := by decide +kernel
theorem dX12_giftsBy_104 : decode cX12_giftsBy 104 = .ok (.iload_n 3, 1) := by decide +kernel
theorem dX12_giftsBy_105 : decode cX12_giftsBy 105 = .ok (.isub, 1) := by decide +kernel
theorem dX12_giftsBy_106 : decode cX12_giftsBy 106 = .ok (.iconst 1, 1) := by decide +kernel
theorem dX12_giftsBy_107 : decode cX12_giftsBy 107 = .ok (.if_icmp .lt 24, 3) := by decide +kernel
theorem dX12_giftsBy_110 : decode cX12_giftsBy 110 = .ok (.aload_n 0, 1) := by decide +kernel
theorem dX12_giftsBy_111 : decode cX12_giftsBy 111 = .ok (.getfield 154, 3) := by decide +kernel
theorem dX12_giftsBy_114 : decode cX12_giftsBy 114 = .ok (.iload_n 3, 1) := by decide +kernel
theorem dX12_giftsBy_115 : decode cX12_giftsBy 115 = .ok (.aload_n 0, 1) := by decide +kernel
theorem dX12_giftsBy_116 : decode cX12_giftsBy 116 = .ok (.getfield 151, 3) := by decide +kernel
theorem dX12_giftsBy_119 : decode cX12_giftsBy 119 = .ok (.iload 4, 2) := by decide +kernel
theorem dX12_giftsBy_121 : decode cX12_giftsBy 121 = .ok (.iaload, 1) := by decide +kernel
theorem dX12_giftsBy_122 : decode cX12_giftsBy 122 = .ok (.iload_n 3, 1) := by decide +kernel
theorem dX12_giftsBy_123 : decode cX12_giftsBy 123 = .ok (.bipush 8, 2) := by decide +kernel
theorem dX12_giftsBy_125 : decode cX12_giftsBy 125 = .ok (.isub, 1) := by decide +kernel
theorem dX12_giftsBy_126 : decode cX12_giftsBy 126 = .ok (.invokestatic 555, 3) := by decide +kernel
theorem dX12_giftsBy_129 : decode cX12_giftsBy 129 = .ok (.iadd, 1) := by decide +kernel
theorem dX12_giftsBy_130 : decode cX12_giftsBy 130 = .ok (.iastore, 1) := by decide +kernel
theorem dX12_giftsBy_131 : decode cX12_giftsBy 131 = .ok (.iinc 4 1, 3) := by decide +kernel
theorem dX12_giftsBy_134 : decode cX12_giftsBy 134 = .ok (.goto (-69), 3) := by decide +kernel
theorem dX12_giftsBy_137 : decode cX12_giftsBy 137 = .ok (.iinc 3 1, 3) := by decide +kernel
theorem dX12_giftsBy_140 : decode cX12_giftsBy 140 = .ok (.goto (-93), 3) := by decide +kernel
theorem dX12_giftsBy_143 : decode cX12_giftsBy 143 = .ok (.iconst 0, 1) := by decide +kernel
theorem dX12_giftsBy_144 : decode cX12_giftsBy 144 = .ok (.istore_n 3, 1) := by decide +kernel
theorem dX12_giftsBy_145 : decode cX12_giftsBy 145 = .ok (.iload_n 3, 1) := by decide +kernel
theorem dX12_giftsBy_146 : decode cX12_giftsBy 146 = .ok (.bipush 17, 2) := by decide +kernel
theorem dX12_giftsBy_148 : decode cX12_giftsBy 148 = .ok (.if_icmp .ge 21, 3) := by decide +kernel
theorem dX12_giftsBy_151 : decode cX12_giftsBy 151 = .ok (.aload_n 0, 1) := by decide +kernel
theorem dX12_giftsBy_152 : decode cX12_giftsBy 152 = .ok (.getfield 151, 3) := by decide +kernel
theorem dX12_giftsBy_155 : decode cX12_giftsBy 155 = .ok (.iload_n 3, 1) := by decide +kernel
theorem dX12_giftsBy_156 : decode cX12_giftsBy 156 = .ok (.aload_n 0, 1) := by decide +kernel
theorem dX12_giftsBy_157 : decode cX12_giftsBy 157 = .ok (.getfield 154, 3) := by decide +kernel
theorem dX12_giftsBy_160 : decode cX12_giftsBy 160 = .ok (.iload_n 3, 1) := by decide +kernel
theorem dX12_giftsBy_161 : decode cX12_giftsBy 161 = .ok (.iaload, 1) := by decide +kernel
theorem dX12_giftsBy_162 : decode cX12_giftsBy 162 = .ok (.iastore, 1) := by decide +kernel
theorem dX12_giftsBy_163 : decode cX12_giftsBy 163 = .ok (.iinc 3 1, 3) := by decide +kernel
theorem dX12_giftsBy_166 : decode cX12_giftsBy 166 = .ok (.goto (-21), 3) := by decide +kernel
theorem dX12_giftsBy_169 : decode cX12_giftsBy 169 = .ok (.iinc 2 1, 3) := by decide +kernel
theorem dX12_giftsBy_172 : decode cX12_giftsBy 172 = .ok (.goto (-135), 3) := by decide +kernel
theorem dX12_giftsBy_175 : decode cX12_giftsBy 175 = .ok (.aload_n 0, 1) := by decide +kernel
theorem dX12_giftsBy_176 : decode cX12_giftsBy 176 = .ok (.getfield 151, 3) := by decide +kernel
theorem dX12_giftsBy_179 : decode cX12_giftsBy 179 = .ok (.iload_n 1, 1) := by decide +kernel
theorem dX12_giftsBy_180 : decode cX12_giftsBy 180 = .ok (.bipush 8, 2) := by decide +kernel
theorem dX12_giftsBy_182 : decode cX12_giftsBy 182 = .ok (.iadd, 1) := by decide +kernel
theorem dX12_giftsBy_183 : decode cX12_giftsBy 183 = .ok (.iaload, 1) := by decide +kernel
theorem dX12_giftsBy_184 : decode cX12_giftsBy 184 = .ok (.ireturn, 1) := by decide +kernel
theorem dX12_gifts_0 : decode cX12_gifts 0 = .ok (.aload_n 0, 1) := by decide +kernel
theorem dX12_gifts_1 : decode cX12_gifts 1 = .ok (.invokevirtual 463, 3) := by decide +kernel
theorem dX12_gifts_4 : decode cX12_gifts 4 = .ok (.ifCond .eq 14, 3) := by decide +kernel
theorem dX12_gifts_7 : decode cX12_gifts 7 = .ok (.aload_n 0, 1) := by decide +kernel
theorem dX12_gifts_8 : decode cX12_gifts 8 = .ok (.invokevirtual 469, 3) := by decide +kernel
theorem dX12_gifts_11 : decode cX12_gifts 11 = .ok (.aload_n 0, 1) := by decide +kernel
theorem dX12_gifts_12 : decode cX12_gifts 12 = .ok (.invokevirtual 408, 3) := by decide +kernel
theorem dX12_gifts_15 : decode cX12_gifts 15 = .ok (.if_icmp .ge 5, 3) := by decide +kernel
theorem dX12_gifts_18 : decode cX12_gifts 18 = .ok (.iconst (-1), 1) := by decide +kernel
theorem dX12_gifts_19 : decode cX12_gifts 19 = .ok (.ireturn, 1) := by decide +kernel
theorem dX12_gifts_20 : decode cX12_gifts 20 = .ok (.ldc_w 554, 3) := by decide +kernel
theorem dX12_gifts_23 : decode cX12_gifts 23 = .ok (.istore_n 1, 1) := by decide +kernel
theorem dX12_gifts_24 : decode cX12_gifts 24 = .ok (.bipush (-8), 2) := by decide +kernel
theorem dX12_gifts_26 : decode cX12_gifts 26 = .ok (.istore_n 2, 1) := by decide +kernel
theorem dX12_gifts_27 : decode cX12_gifts 27 = .ok (.iload_n 2, 1) := by decide +kernel
theorem dX12_gifts_28 : decode cX12_gifts 28 = .ok (.bipush 8, 2) := by decide +kernel
theorem dX12_gifts_30 : decode cX12_gifts 30 = .ok (.if_icmp .gt 24, 3) := by decide +kernel
theorem dX12_gifts_33 : decode cX12_gifts 33 = .ok (.aload_n 0, 1) := by decide +kernel
theorem dX12_gifts_34 : decode cX12_gifts 34 = .ok (.iload_n 2, 1) := by decide +kernel
theorem dX12_gifts_35 : decode cX12_gifts 35 = .ok (.invokevirtual 558, 3) := by decide +kernel
theorem dX12_gifts_38 : decode cX12_gifts 38 = .ok (.iload_n 1, 1) := by decide +kernel
theorem dX12_gifts_39 : decode cX12_gifts 39 = .ok (.if_icmp .ge 9, 3) := by decide +kernel
theorem dX12_gifts_42 : decode cX12_gifts 42 = .ok (.aload_n 0, 1) := by decide +kernel
theorem dX12_gifts_43 : decode cX12_gifts 43 = .ok (.iload_n 2, 1) := by decide +kernel
theorem dX12_gifts_44 : decode cX12_gifts 44 = .ok (.invokevirtual 558, 3) := by decide +kernel
theorem dX12_gifts_47 : decode cX12_gifts 47 = .ok (.istore_n 1, 1) := by decide +kernel
theorem dX12_gifts_48 : decode cX12_gifts 48 = .ok (.iinc 2 1, 3) := by decide +kernel
theorem dX12_gifts_51 : decode cX12_gifts 51 = .ok (.goto (-24), 3) := by decide +kernel
theorem dX12_gifts_54 : decode cX12_gifts 54 = .ok (.iload_n 1, 1) := by decide +kernel
theorem dX12_gifts_55 : decode cX12_gifts 55 = .ok (.ireturn, 1) := by decide +kernel
theorem dX12_passes_0 : decode cX12_passes 0 = .ok (.aload_n 0, 1) := by decide +kernel
theorem dX12_passes_1 : decode cX12_passes 1 = .ok (.invokevirtual 408, 3) := by decide +kernel
theorem dX12_passes_4 : decode cX12_passes 4 = .ok (.istore_n 1, 1) := by decide +kernel
theorem dX12_passes_5 : decode cX12_passes 5 = .ok (.iconst 0, 1) := by decide +kernel
theorem dX12_passes_6 : decode cX12_passes 6 = .ok (.istore_n 2, 1) := by decide +kernel
theorem dX12_passes_7 : decode cX12_passes 7 = .ok (.iconst 0, 1) := by decide +kernel
theorem dX12_passes_8 : decode cX12_passes 8 = .ok (.istore_n 3, 1) := by decide +kernel
theorem dX12_passes_9 : decode cX12_passes 9 = .ok (.iload_n 3, 1) := by decide +kernel
theorem dX12_passes_10 : decode cX12_passes 10 = .ok (.iload_n 1, 1) := by decide +kernel
theorem dX12_passes_11 : decode cX12_passes 11 = .ok (.if_icmp .ge 20, 3) := by decide +kernel
theorem dX12_passes_14 : decode cX12_passes 14 = .ok (.aload_n 0, 1) := by decide +kernel
theorem dX12_passes_15 : decode cX12_passes 15 = .ok (.getfield 157, 3) := by decide +kernel
theorem dX12_passes_18 : decode cX12_passes 18 = .ok (.iload_n 3, 1) := by decide +kernel
theorem dX12_passes_19 : decode cX12_passes 19 = .ok (.aload_n 0, 1) := by decide +kernel
theorem dX12_passes_20 : decode cX12_passes 20 = .ok (.iload_n 3, 1) := by decide +kernel
theorem dX12_passes_21 : decode cX12_passes 21 = .ok (.invokevirtual 460, 3) := by decide +kernel
theorem dX12_passes_24 : decode cX12_passes 24 = .ok (.iastore, 1) := by decide +kernel
theorem dX12_passes_25 : decode cX12_passes 25 = .ok (.iinc 3 1, 3) := by decide +kernel
theorem dX12_passes_28 : decode cX12_passes 28 = .ok (.goto (-19), 3) := by decide +kernel
theorem dX12_passes_31 : decode cX12_passes 31 = .ok (.iconst 0, 1) := by decide +kernel
theorem dX12_passes_32 : decode cX12_passes 32 = .ok (.istore_n 3, 1) := by decide +kernel
theorem dX12_passes_33 : decode cX12_passes 33 = .ok (.iload_n 3, 1) := by decide +kernel
theorem dX12_passes_34 : decode cX12_passes 34 = .ok (.iload_n 1, 1) := by decide +kernel
theorem dX12_passes_35 : decode cX12_passes 35 = .ok (.if_icmp .ge 69, 3) := by decide +kernel
theorem dX12_passes_38 : decode cX12_passes 38 = .ok (.aload_n 0, 1) := by decide +kernel
theorem dX12_passes_39 : decode cX12_passes 39 = .ok (.getfield 157, 3) := by decide +kernel
theorem dX12_passes_42 : decode cX12_passes 42 = .ok (.iload_n 3, 1) := by decide +kernel
theorem dX12_passes_43 : decode cX12_passes 43 = .ok (.iaload, 1) := by decide +kernel
theorem dX12_passes_44 : decode cX12_passes 44 = .ok (.iconst 1, 1) := by decide +kernel
theorem dX12_passes_45 : decode cX12_passes 45 = .ok (.if_icmp .le 6, 3) := by decide +kernel
theorem dX12_passes_48 : decode cX12_passes 48 = .ok (.iinc 2 1, 3) := by decide +kernel
theorem dX12_passes_51 : decode cX12_passes 51 = .ok (.aload_n 0, 1) := by decide +kernel
theorem dX12_passes_52 : decode cX12_passes 52 = .ok (.iload_n 3, 1) := by decide +kernel
theorem dX12_passes_53 : decode cX12_passes 53 = .ok (.aload_n 0, 1) := by decide +kernel
theorem dX12_passes_54 : decode cX12_passes 54 = .ok (.getfield 157, 3) := by decide +kernel
theorem dX12_passes_57 : decode cX12_passes 57 = .ok (.iload_n 3, 1) := by decide +kernel
theorem dX12_passes_58 : decode cX12_passes 58 = .ok (.iaload, 1) := by decide +kernel
theorem dX12_passes_59 : decode cX12_passes 59 = .ok (.aload_n 0, 1) := by decide +kernel
theorem dX12_passes_60 : decode cX12_passes 60 = .ok (.getfield 157, 3) := by decide +kernel
theorem dX12_passes_63 : decode cX12_passes 63 = .ok (.iload_n 3, 1) := by decide +kernel
theorem dX12_passes_64 : decode cX12_passes 64 = .ok (.iaload, 1) := by decide +kernel
theorem dX12_passes_65 : decode cX12_passes 65 = .ok (.iconst 1, 1) := by decide +kernel
theorem dX12_passes_66 : decode cX12_passes 66 = .ok (.if_icmp .le 7, 3) := by decide +kernel
theorem dX12_passes_69 : decode cX12_passes 69 = .ok (.iconst 1, 1) := by decide +kernel
theorem dX12_passes_70 : decode cX12_passes 70 = .ok (.goto 4, 3) := by decide +kernel
theorem dX12_passes_73 : decode cX12_passes 73 = .ok (.iconst 0, 1) := by decide +kernel
theorem dX12_passes_74 : decode cX12_passes 74 = .ok (.isub, 1) := by decide +kernel
theorem dX12_passes_75 : decode cX12_passes 75 = .ok (.aload_n 0, 1) := by decide +kernel
theorem dX12_passes_76 : decode cX12_passes 76 = .ok (.getfield 157, 3) := by decide +kernel
theorem dX12_passes_79 : decode cX12_passes 79 = .ok (.aload_n 0, 1) := by decide +kernel
theorem dX12_passes_80 : decode cX12_passes 80 = .ok (.iload_n 3, 1) := by decide +kernel
theorem dX12_passes_81 : decode cX12_passes 81 = .ok (.invokevirtual 453, 3) := by decide +kernel
theorem dX12_passes_84 : decode cX12_passes 84 = .ok (.iaload, 1) := by decide +kernel
theorem dX12_passes_85 : decode cX12_passes 85 = .ok (.iconst 1, 1) := by decide +kernel
theorem dX12_passes_86 : decode cX12_passes 86 = .ok (.if_icmp .le 7, 3) := by decide +kernel
theorem dX12_passes_89 : decode cX12_passes 89 = .ok (.iconst 1, 1) := by decide +kernel
theorem dX12_passes_90 : decode cX12_passes 90 = .ok (.goto 4, 3) := by decide +kernel
theorem dX12_passes_93 : decode cX12_passes 93 = .ok (.iconst 0, 1) := by decide +kernel
theorem dX12_passes_94 : decode cX12_passes 94 = .ok (.iadd, 1) := by decide +kernel
theorem dX12_passes_95 : decode cX12_passes 95 = .ok (.invokevirtual 561, 3) := by decide +kernel
theorem dX12_passes_98 : decode cX12_passes 98 = .ok (.iinc 3 1, 3) := by decide +kernel
theorem dX12_passes_101 : decode cX12_passes 101 = .ok (.goto (-68), 3) := by decide +kernel
theorem dX12_passes_104 : decode cX12_passes 104 = .ok (.iload_n 2, 1) := by decide +kernel
theorem dX12_passes_105 : decode cX12_passes 105 = .ok (.ireturn, 1) := by decide +kernel
theorem dX12_left_0 : decode cX12_left 0 = .ok (.aload_n 0, 1) := by decide +kernel
theorem dX12_left_1 : decode cX12_left 1 = .ok (.invokevirtual 463, 3) := by decide +kernel
theorem dX12_left_4 : decode cX12_left 4 = .ok (.ifCond .eq 13, 3) := by decide +kernel
theorem dX12_left_7 : decode cX12_left 7 = .ok (.iload_n 1, 1) := by decide +kernel
theorem dX12_left_8 : decode cX12_left 8 = .ok (.i2l, 1) := by decide +kernel
theorem dX12_left_9 : decode cX12_left 9 = .ok (.lconst 0, 1) := by decide +kernel
theorem dX12_left_10 : decode cX12_left 10 = .ok (.lconst 1, 1) := by decide +kernel
theorem dX12_left_11 : decode cX12_left 11 = .ok (.invokestatic 276, 3) := by decide +kernel
theorem dX12_left_14 : decode cX12_left 14 = .ok (.ifCond .ne 5, 3) := by decide +kernel
theorem dX12_left_17 : decode cX12_left 17 = .ok (.iconst (-1), 1) := by decide +kernel
theorem dX12_left_18 : decode cX12_left 18 = .ok (.ireturn, 1) := by decide +kernel
theorem dX12_left_19 : decode cX12_left 19 = .ok (.aload_n 0, 1) := by decide +kernel
theorem dX12_left_20 : decode cX12_left 20 = .ok (.invokevirtual 531, 3) := by decide +kernel
theorem dX12_left_23 : decode cX12_left 23 = .ok (.iconst 0, 1) := by decide +kernel
theorem dX12_left_24 : decode cX12_left 24 = .ok (.istore_n 2, 1) := by decide +kernel
theorem dX12_left_25 : decode cX12_left 25 = .ok (.iconst 0, 1) := by decide +kernel
theorem dX12_left_26 : decode cX12_left 26 = .ok (.istore_n 3, 1) := by decide +kernel
theorem dX12_left_27 : decode cX12_left 27 = .ok (.aload_n 0, 1) := by decide +kernel
theorem dX12_left_28 : decode cX12_left 28 = .ok (.invokevirtual 472, 3) := by decide +kernel
theorem dX12_left_31 : decode cX12_left 31 = .ok (.ifCond .le 22, 3) := by decide +kernel
theorem dX12_left_34 : decode cX12_left 34 = .ok (.iload_n 2, 1) := by decide +kernel
theorem dX12_left_35 : decode cX12_left 35 = .ok (.bipush 60, 2) := by decide +kernel
theorem dX12_left_37 : decode cX12_left 37 = .ok (.if_icmp .ge 16, 3) := by decide +kernel
theorem dX12_left_40 : decode cX12_left 40 = .ok (.iload_n 3, 1) := by decide +kernel
theorem dX12_left_41 : decode cX12_left 41 = .ok (.aload_n 0, 1) := by decide +kernel
theorem dX12_left_42 : decode cX12_left 42 = .ok (.invokevirtual 564, 3) := by decide +kernel
theorem dX12_left_45 : decode cX12_left 45 = .ok (.iadd, 1) := by decide +kernel
theorem dX12_left_46 : decode cX12_left 46 = .ok (.istore_n 3, 1) := by decide +kernel
theorem dX12_left_47 : decode cX12_left 47 = .ok (.iinc 2 1, 3) := by decide +kernel
theorem dX12_left_50 : decode cX12_left 50 = .ok (.goto (-23), 3) := by decide +kernel
theorem dX12_left_53 : decode cX12_left 53 = .ok (.aload_n 0, 1) := by decide +kernel
theorem dX12_left_54 : decode cX12_left 54 = .ok (.invokevirtual 472, 3) := by decide +kernel
theorem dX12_left_57 : decode cX12_left 57 = .ok (.ifCond .ne 7, 3) := by decide +kernel
theorem dX12_left_60 : decode cX12_left 60 = .ok (.iconst 1, 1) := by decide +kernel
theorem dX12_left_61 : decode cX12_left 61 = .ok (.goto 4, 3) := by decide +kernel
theorem dX12_left_64 : decode cX12_left 64 = .ok (.iconst 0, 1) := by decide +kernel
theorem dX12_left_65 : decode cX12_left 65 = .ok (.istore 4, 2) := by decide +kernel
theorem dX12_left_67 : decode cX12_left 67 = .ok (.aload_n 0, 1) := by decide +kernel
theorem dX12_left_68 : decode cX12_left 68 = .ok (.invokevirtual 537, 3) := by decide +kernel
theorem dX12_left_71 : decode cX12_left 71 = .ok (.iload 4, 2) := by decide +kernel
theorem dX12_left_73 : decode cX12_left 73 = .ok (.ifCond .ne 7, 3) := by decide +kernel
theorem dX12_left_76 : decode cX12_left 76 = .ok (.iconst (-1), 1) := by decide +kernel
theorem dX12_left_77 : decode cX12_left 77 = .ok (.goto 12, 3) := by decide +kernel
theorem dX12_left_80 : decode cX12_left 80 = .ok (.iload_n 1, 1) := by decide +kernel
theorem dX12_left_81 : decode cX12_left 81 = .ok (.ifCond .ne 7, 3) := by decide +kernel
theorem dX12_left_84 : decode cX12_left 84 = .ok (.iload_n 2, 1) := by decide +kernel
theorem dX12_left_85 : decode cX12_left 85 = .ok (.goto 4, 3) := by decide +kernel
theorem dX12_left_88 : decode cX12_left 88 = .ok (.iload_n 3, 1) := by decide +kernel
theorem dX12_left_89 : decode cX12_left 89 = .ok (.ireturn, 1) := by decide +kernel
theorem dX12_keeps_0 : decode cX12_keeps 0 = .ok (.aload_n 0, 1) := by decide +kernel
theorem dX12_keeps_1 : decode cX12_keeps 1 = .ok (.aload_n 0, 1) := by decide +kernel
theorem dX12_keeps_2 : decode cX12_keeps 2 = .ok (.getfield 567, 3) := by decide +kernel
theorem dX12_keeps_5 : decode cX12_keeps 5 = .ok (.iconst 1, 1) := by decide +kernel
theorem dX12_keeps_6 : decode cX12_keeps 6 = .ok (.iadd, 1) := by decide +kernel
theorem dX12_keeps_7 : decode cX12_keeps 7 = .ok (.bipush 20, 2) := by decide +kernel
theorem dX12_keeps_9 : decode cX12_keeps 9 = .ok (.irem, 1) := by decide +kernel
theorem dX12_keeps_10 : decode cX12_keeps 10 = .ok (.putfield 567, 3) := by decide +kernel
theorem dX12_keeps_13 : decode cX12_keeps 13 = .ok (.iconst 0, 1) := by decide +kernel
theorem dX12_keeps_14 : decode cX12_keeps 14 = .ok (.istore_n 1, 1) := by decide +kernel
theorem dX12_keeps_15 : decode cX12_keeps 15 = .ok (.iload_n 1, 1) := by decide +kernel
theorem dX12_keeps_16 : decode cX12_keeps 16 = .ok (.bipush 51, 2) := by decide +kernel
theorem dX12_keeps_18 : decode cX12_keeps 18 = .ok (.if_icmp .ge 29, 3) := by decide +kernel
theorem dX12_keeps_21 : decode cX12_keeps 21 = .ok (.aload_n 0, 1) := by decide +kernel
theorem dX12_keeps_22 : decode cX12_keeps 22 = .ok (.getfield 160, 3) := by decide +kernel
theorem dX12_keeps_25 : decode cX12_keeps 25 = .ok (.bipush 51, 2) := by decide +kernel
theorem dX12_keeps_27 : decode cX12_keeps 27 = .ok (.aload_n 0, 1) := by decide +kernel
theorem dX12_keeps_28 : decode cX12_keeps 28 = .ok (.getfield 567, 3) := by decide +kernel
theorem dX12_keeps_31 : decode cX12_keeps 31 = .ok (.imul, 1) := by decide +kernel
theorem dX12_keeps_32 : decode cX12_keeps 32 = .ok (.iload_n 1, 1) := by decide +kernel
theorem dX12_keeps_33 : decode cX12_keeps 33 = .ok (.iadd, 1) := by decide +kernel
theorem dX12_keeps_34 : decode cX12_keeps 34 = .ok (.aload_n 0, 1) := by decide +kernel
theorem dX12_keeps_35 : decode cX12_keeps 35 = .ok (.getfield 127, 3) := by decide +kernel
theorem dX12_keeps_38 : decode cX12_keeps 38 = .ok (.iload_n 1, 1) := by decide +kernel
theorem dX12_keeps_39 : decode cX12_keeps 39 = .ok (.iaload, 1) := by decide +kernel
theorem dX12_keeps_40 : decode cX12_keeps 40 = .ok (.iastore, 1) := by decide +kernel
theorem dX12_keeps_41 : decode cX12_keeps 41 = .ok (.iinc 1 1, 3) := by decide +kernel
theorem dX12_keeps_44 : decode cX12_keeps 44 = .ok (.goto (-29), 3) := by decide +kernel
theorem dX12_keeps_47 : decode cX12_keeps 47 = .ok (.aload_n 0, 1) := by decide +kernel
theorem dX12_keeps_48 : decode cX12_keeps 48 = .ok (.getfield 359, 3) := by decide +kernel
theorem dX12_keeps_51 : decode cX12_keeps 51 = .ok (.bipush 20, 2) := by decide +kernel
theorem dX12_keeps_53 : decode cX12_keeps 53 = .ok (.if_icmp .ge 13, 3) := by decide +kernel
theorem dX12_keeps_56 : decode cX12_keeps 56 = .ok (.aload_n 0, 1) := by decide +kernel
theorem dX12_keeps_57 : decode cX12_keeps 57 = .ok (.dup, 1) := by decide +kernel
theorem dX12_keeps_58 : decode cX12_keeps 58 = .ok (.getfield 359, 3) := by decide +kernel
theorem dX12_keeps_61 : decode cX12_keeps 61 = .ok (.iconst 1, 1) := by decide +kernel
theorem dX12_keeps_62 : decode cX12_keeps 62 = .ok (.iadd, 1) := by decide +kernel
theorem dX12_keeps_63 : decode cX12_keeps 63 = .ok (.putfield 359, 3) := by decide +kernel
theorem dX12_keeps_66 : decode cX12_keeps 66 = .ok (.return_, 1) := by decide +kernel
theorem dX12_undo_0 : decode cX12_undo 0 = .ok (.aload_n 0, 1) := by decide +kernel
theorem dX12_undo_1 : decode cX12_undo 1 = .ok (.getfield 359, 3) := by decide +kernel
theorem dX12_undo_4 : decode cX12_undo 4 = .ok (.ifCond .ne 15, 3) := by decide +kernel
theorem dX12_undo_7 : decode cX12_undo 7 = .ok (.aload_n 0, 1) := by decide +kernel
theorem dX12_undo_8 : decode cX12_undo 8 = .ok (.getfield 17, 3) := by decide +kernel
theorem dX12_undo_11 : decode cX12_undo 11 = .ok (.iconst 4, 1) := by decide +kernel
theorem dX12_undo_12 : decode cX12_undo 12 = .ok (.dup2, 1) := by decide +kernel
theorem dX12_undo_13 : decode cX12_undo 13 = .ok (.iaload, 1) := by decide +kernel
theorem dX12_undo_14 : decode cX12_undo 14 = .ok (.iconst 1, 1) := by decide +kernel
theorem dX12_undo_15 : decode cX12_undo 15 = .ok (.iadd, 1) := by decide +kernel
theorem dX12_undo_16 : decode cX12_undo 16 = .ok (.iastore, 1) := by decide +kernel
theorem dX12_undo_17 : decode cX12_undo 17 = .ok (.iconst 0, 1) := by decide +kernel
theorem dX12_undo_18 : decode cX12_undo 18 = .ok (.ireturn, 1) := by decide +kernel
theorem dX12_undo_19 : decode cX12_undo 19 = .ok (.iconst 0, 1) := by decide +kernel
theorem dX12_undo_20 : decode cX12_undo 20 = .ok (.istore_n 1, 1) := by decide +kernel
theorem dX12_undo_21 : decode cX12_undo 21 = .ok (.iload_n 1, 1) := by decide +kernel
theorem dX12_undo_22 : decode cX12_undo 22 = .ok (.bipush 51, 2) := by decide +kernel
theorem dX12_undo_24 : decode cX12_undo 24 = .ok (.if_icmp .ge 29, 3) := by decide +kernel
theorem dX12_undo_27 : decode cX12_undo 27 = .ok (.aload_n 0, 1) := by decide +kernel
theorem dX12_undo_28 : decode cX12_undo 28 = .ok (.getfield 127, 3) := by decide +kernel
theorem dX12_undo_31 : decode cX12_undo 31 = .ok (.iload_n 1, 1) := by decide +kernel
theorem dX12_undo_32 : decode cX12_undo 32 = .ok (.aload_n 0, 1) := by decide +kernel
theorem dX12_undo_33 : decode cX12_undo 33 = .ok (.getfield 160, 3) := by decide +kernel
theorem dX12_undo_36 : decode cX12_undo 36 = .ok (.bipush 51, 2) := by decide +kernel
theorem dX12_undo_38 : decode cX12_undo 38 = .ok (.aload_n 0, 1) := by decide +kernel
theorem dX12_undo_39 : decode cX12_undo 39 = .ok (.getfield 567, 3) := by decide +kernel
theorem dX12_undo_42 : decode cX12_undo 42 = .ok (.imul, 1) := by decide +kernel
theorem dX12_undo_43 : decode cX12_undo 43 = .ok (.iload_n 1, 1) := by decide +kernel
theorem dX12_undo_44 : decode cX12_undo 44 = .ok (.iadd, 1) := by decide +kernel
theorem dX12_undo_45 : decode cX12_undo 45 = .ok (.iaload, 1) := by decide +kernel
theorem dX12_undo_46 : decode cX12_undo 46 = .ok (.iastore, 1) := by decide +kernel
theorem dX12_undo_47 : decode cX12_undo 47 = .ok (.iinc 1 1, 3) := by decide +kernel
theorem dX12_undo_50 : decode cX12_undo 50 = .ok (.goto (-29), 3) := by decide +kernel
theorem dX12_undo_53 : decode cX12_undo 53 = .ok (.aload_n 0, 1) := by decide +kernel
theorem dX12_undo_54 : decode cX12_undo 54 = .ok (.aload_n 0, 1) := by decide +kernel
theorem dX12_undo_55 : decode cX12_undo 55 = .ok (.getfield 567, 3) := by decide +kernel
theorem dX12_undo_58 : decode cX12_undo 58 = .ok (.bipush 20, 2) := by decide +kernel
theorem dX12_undo_60 : decode cX12_undo 60 = .ok (.iadd, 1) := by decide +kernel
theorem dX12_undo_61 : decode cX12_undo 61 = .ok (.iconst 1, 1) := by decide +kernel
theorem dX12_undo_62 : decode cX12_undo 62 = .ok (.isub, 1) := by decide +kernel
theorem dX12_undo_63 : decode cX12_undo 63 = .ok (.bipush 20, 2) := by decide +kernel
theorem dX12_undo_65 : decode cX12_undo 65 = .ok (.irem, 1) := by decide +kernel
theorem dX12_undo_66 : decode cX12_undo 66 = .ok (.putfield 567, 3) := by decide +kernel
theorem dX12_undo_69 : decode cX12_undo 69 = .ok (.aload_n 0, 1) := by decide +kernel
theorem dX12_undo_70 : decode cX12_undo 70 = .ok (.dup, 1) := by decide +kernel
theorem dX12_undo_71 : decode cX12_undo 71 = .ok (.getfield 359, 3) := by decide +kernel
theorem dX12_undo_74 : decode cX12_undo 74 = .ok (.iconst 1, 1) := by decide +kernel
theorem dX12_undo_75 : decode cX12_undo 75 = .ok (.isub, 1) := by decide +kernel
theorem dX12_undo_76 : decode cX12_undo 76 = .ok (.putfield 359, 3) := by decide +kernel
theorem dX12_undo_79 : decode cX12_undo 79 = .ok (.iconst 1, 1) := by decide +kernel
theorem dX12_undo_80 : decode cX12_undo 80 = .ok (.ireturn, 1) := by decide +kernel
theorem dX12_seed_0 : decode cX12_seed 0 = .ok (.iload_n 1, 1) := by decide +kernel
theorem dX12_seed_1 : decode cX12_seed 1 = .ok (.ifCond .ge 15, 3) := by decide +kernel
theorem dX12_seed_4 : decode cX12_seed 4 = .ok (.aload_n 0, 1) := by decide +kernel
theorem dX12_seed_5 : decode cX12_seed 5 = .ok (.getfield 17, 3) := by decide +kernel
theorem dX12_seed_8 : decode cX12_seed 8 = .ok (.iconst 5, 1) := by decide +kernel
theorem dX12_seed_9 : decode cX12_seed 9 = .ok (.dup2, 1) := by decide +kernel
theorem dX12_seed_10 : decode cX12_seed 10 = .ok (.iaload, 1) := by decide +kernel
theorem dX12_seed_11 : decode cX12_seed 11 = .ok (.iconst 1, 1) := by decide +kernel
theorem dX12_seed_12 : decode cX12_seed 12 = .ok (.iadd, 1) := by decide +kernel
theorem dX12_seed_13 : decode cX12_seed 13 = .ok (.iastore, 1) := by decide +kernel
theorem dX12_seed_14 : decode cX12_seed 14 = .ok (.iconst 0, 1) := by decide +kernel
theorem dX12_seed_15 : decode cX12_seed 15 = .ok (.ireturn, 1) := by decide +kernel
theorem dX12_seed_16 : decode cX12_seed 16 = .ok (.aload_n 0, 1) := by decide +kernel
theorem dX12_seed_17 : decode cX12_seed 17 = .ok (.iload_n 1, 1) := by decide +kernel
theorem dX12_seed_18 : decode cX12_seed 18 = .ok (.i2l, 1) := by decide +kernel
theorem dX12_seed_19 : decode cX12_seed 19 = .ok (.putfield 163, 3) := by decide +kernel
theorem dX12_seed_22 : decode cX12_seed 22 = .ok (.iconst 1, 1) := by decide +kernel
theorem dX12_seed_23 : decode cX12_seed 23 = .ok (.ireturn, 1) := by decide +kernel
theorem dX12_drawOf_0 : decode cX12_drawOf 0 = .ok (.aload_n 0, 1) := by decide +kernel
theorem dX12_drawOf_1 : decode cX12_drawOf 1 = .ok (.ldc2_w 570, 3) := by decide +kernel
theorem dX12_drawOf_4 : decode cX12_drawOf 4 = .ok (.aload_n 0, 1) := by decide +kernel
theorem dX12_drawOf_5 : decode cX12_drawOf 5 = .ok (.getfield 163, 3) := by decide +kernel
theorem dX12_drawOf_8 : decode cX12_drawOf 8 = .ok (.lmul, 1) := by decide +kernel
theorem dX12_drawOf_9 : decode cX12_drawOf 9 = .ok (.ldc2_w 572, 3) := by decide +kernel
theorem dX12_drawOf_12 : decode cX12_drawOf 12 = .ok (.ladd, 1) := by decide +kernel
theorem dX12_drawOf_13 : decode cX12_drawOf 13 = .ok (.ldc2_w 574, 3) := by decide +kernel
theorem dX12_drawOf_16 : decode cX12_drawOf 16 = .ok (.lrem, 1) := by decide +kernel
theorem dX12_drawOf_17 : decode cX12_drawOf 17 = .ok (.putfield 163, 3) := by decide +kernel
theorem dX12_drawOf_20 : decode cX12_drawOf 20 = .ok (.aload_n 0, 1) := by decide +kernel
theorem dX12_drawOf_21 : decode cX12_drawOf 21 = .ok (.getfield 163, 3) := by decide +kernel
theorem dX12_drawOf_24 : decode cX12_drawOf 24 = .ok (.ldc2_w 576, 3) := by decide +kernel
theorem dX12_drawOf_27 : decode cX12_drawOf 27 = .ok (.ldiv, 1) := by decide +kernel
theorem dX12_drawOf_28 : decode cX12_drawOf 28 = .ok (.iload_n 1, 1) := by decide +kernel
theorem dX12_drawOf_29 : decode cX12_drawOf 29 = .ok (.i2l, 1) := by decide +kernel
theorem dX12_drawOf_30 : decode cX12_drawOf 30 = .ok (.lrem, 1) := by decide +kernel
theorem dX12_drawOf_31 : decode cX12_drawOf 31 = .ok (.l2i, 1) := by decide +kernel
theorem dX12_drawOf_32 : decode cX12_drawOf 32 = .ok (.ireturn, 1) := by decide +kernel
theorem dX12_more_0 : decode cX12_more 0 = .ok (.aload_n 0, 1) := by decide +kernel
theorem dX12_more_1 : decode cX12_more 1 = .ok (.getfield 127, 3) := by decide +kernel
theorem dX12_more_4 : decode cX12_more 4 = .ok (.iload_n 1, 1) := by decide +kernel
theorem dX12_more_5 : decode cX12_more 5 = .ok (.iaload, 1) := by decide +kernel
theorem dX12_more_6 : decode cX12_more 6 = .ok (.sipush 9999, 3) := by decide +kernel
theorem dX12_more_9 : decode cX12_more 9 = .ok (.if_icmp .ge 13, 3) := by decide +kernel
theorem dX12_more_12 : decode cX12_more 12 = .ok (.aload_n 0, 1) := by decide +kernel
theorem dX12_more_13 : decode cX12_more 13 = .ok (.getfield 127, 3) := by decide +kernel
theorem dX12_more_16 : decode cX12_more 16 = .ok (.iload_n 1, 1) := by decide +kernel
theorem dX12_more_17 : decode cX12_more 17 = .ok (.dup2, 1) := by decide +kernel
theorem dX12_more_18 : decode cX12_more 18 = .ok (.iaload, 1) := by decide +kernel
theorem dX12_more_19 : decode cX12_more 19 = .ok (.iconst 1, 1) := by decide +kernel
theorem dX12_more_20 : decode cX12_more 20 = .ok (.iadd, 1) := by decide +kernel
theorem dX12_more_21 : decode cX12_more 21 = .ok (.iastore, 1) := by decide +kernel
theorem dX12_more_22 : decode cX12_more 22 = .ok (.return_, 1) := by decide +kernel
theorem dX12_dines_0 : decode cX12_dines 0 = .ok (.iconst 0, 1) := by decide +kernel
theorem dX12_dines_1 : decode cX12_dines 1 = .ok (.istore_n 1, 1) := by decide +kernel
theorem dX12_dines_2 : decode cX12_dines 2 = .ok (.iconst 0, 1) := by decide +kernel
theorem dX12_dines_3 : decode cX12_dines 3 = .ok (.istore_n 2, 1) := by decide +kernel
theorem dX12_dines_4 : decode cX12_dines 4 = .ok (.iload_n 2, 1) := by decide +kernel
theorem dX12_dines_5 : decode cX12_dines 5 = .ok (.aload_n 0, 1) := by decide +kernel
theorem dX12_dines_6 : decode cX12_dines 6 = .ok (.invokevirtual 463, 3) := by decide +kernel
theorem dX12_dines_9 : decode cX12_dines 9 = .ok (.if_icmp .ge 117, 3) := by decide +kernel
theorem dX12_dines_12 : decode cX12_dines 12 = .ok (.aload_n 0, 1) := by decide +kernel
theorem dX12_dines_13 : decode cX12_dines 13 = .ok (.sipush 10000, 3) := by decide +kernel
theorem dX12_dines_16 : decode cX12_dines 16 = .ok (.invokevirtual 578, 3) := by decide +kernel
theorem dX12_dines_19 : decode cX12_dines 19 = .ok (.istore_n 3, 1) := by decide +kernel
theorem dX12_dines_20 : decode cX12_dines 20 = .ok (.aload_n 0, 1) := by decide +kernel
theorem dX12_dines_21 : decode cX12_dines 21 = .ok (.iload_n 2, 1) := by decide +kernel
theorem dX12_dines_22 : decode cX12_dines 22 = .ok (.iconst 0, 1) := by decide +kernel
theorem dX12_dines_23 : decode cX12_dines 23 = .ok (.invokevirtual 448, 3) := by decide +kernel
theorem dX12_dines_26 : decode cX12_dines 26 = .ok (.istore 4, 2) := by decide +kernel
theorem dX12_dines_28 : decode cX12_dines 28 = .ok (.iload 4, 2) := by decide +kernel
theorem dX12_dines_30 : decode cX12_dines 30 = .ok (.aload_n 0, 1) := by decide +kernel
theorem dX12_dines_31 : decode cX12_dines 31 = .ok (.iload_n 2, 1) := by decide +kernel
theorem dX12_dines_32 : decode cX12_dines 32 = .ok (.iconst 1, 1) := by decide +kernel
theorem dX12_dines_33 : decode cX12_dines 33 = .ok (.invokevirtual 448, 3) := by decide +kernel
theorem dX12_dines_36 : decode cX12_dines 36 = .ok (.iadd, 1) := by decide +kernel
theorem dX12_dines_37 : decode cX12_dines 37 = .ok (.istore 5, 2) := by decide +kernel
theorem dX12_dines_39 : decode cX12_dines 39 = .ok (.iload_n 3, 1) := by decide +kernel
theorem dX12_dines_40 : decode cX12_dines 40 = .ok (.iload 4, 2) := by decide +kernel
theorem dX12_dines_42 : decode cX12_dines 42 = .ok (.if_icmp .ge 18, 3) := by decide +kernel
theorem dX12_dines_45 : decode cX12_dines 45 = .ok (.aload_n 0, 1) := by decide +kernel
theorem dX12_dines_46 : decode cX12_dines 46 = .ok (.iload_n 2, 1) := by decide +kernel
theorem dX12_dines_47 : decode cX12_dines 47 = .ok (.aload_n 0, 1) := by decide +kernel
theorem dX12_dines_48 : decode cX12_dines 48 = .ok (.iload_n 2, 1) := by decide +kernel
theorem dX12_dines_49 : decode cX12_dines 49 = .ok (.invokevirtual 460, 3) := by decide +kernel
theorem dX12_dines_52 : decode cX12_dines 52 = .ok (.iconst 1, 1) := by decide +kernel
theorem dX12_dines_53 : decode cX12_dines 53 = .ok (.iadd, 1) := by decide +kernel
theorem dX12_dines_54 : decode cX12_dines 54 = .ok (.invokevirtual 561, 3) := by decide +kernel
theorem dX12_dines_57 : decode cX12_dines 57 = .ok (.goto 37, 3) := by decide +kernel
theorem dX12_dines_60 : decode cX12_dines 60 = .ok (.iload_n 3, 1) := by decide +kernel
theorem dX12_dines_61 : decode cX12_dines 61 = .ok (.iload 5, 2) := by decide +kernel
theorem dX12_dines_63 : decode cX12_dines 63 = .ok (.if_icmp .ge 26, 3) := by decide +kernel
theorem dX12_dines_66 : decode cX12_dines 66 = .ok (.aload_n 0, 1) := by decide +kernel
theorem dX12_dines_67 : decode cX12_dines 67 = .ok (.aload_n 0, 1) := by decide +kernel
theorem dX12_dines_68 : decode cX12_dines 68 = .ok (.iload_n 2, 1) := by decide +kernel
theorem dX12_dines_69 : decode cX12_dines 69 = .ok (.invokevirtual 442, 3) := by decide +kernel
theorem dX12_dines_72 : decode cX12_dines 72 = .ok (.aload_n 0, 1) := by decide +kernel
theorem dX12_dines_73 : decode cX12_dines 73 = .ok (.aload_n 0, 1) := by decide +kernel
theorem dX12_dines_74 : decode cX12_dines 74 = .ok (.iload_n 2, 1) := by decide +kernel
theorem dX12_dines_75 : decode cX12_dines 75 = .ok (.invokevirtual 442, 3) := by decide +kernel
theorem dX12_dines_78 : decode cX12_dines 78 = .ok (.invokevirtual 460, 3) := by decide +kernel
theorem dX12_dines_81 : decode cX12_dines 81 = .ok (.iconst 1, 1) := by decide +kernel
theorem dX12_dines_82 : decode cX12_dines 82 = .ok (.iadd, 1) := by decide +kernel
theorem dX12_dines_83 : decode cX12_dines 83 = .ok (.invokevirtual 561, 3) := by decide +kernel
theorem dX12_dines_86 : decode cX12_dines 86 = .ok (.goto 8, 3) := by decide +kernel
theorem dX12_dines_89 : decode cX12_dines 89 = .ok (.aload_n 0, 1) := by decide +kernel
theorem dX12_dines_90 : decode cX12_dines 90 = .ok (.iconst 2, 1) := by decide +kernel
theorem dX12_dines_91 : decode cX12_dines 91 = .ok (.invokevirtual 581, 3) := by decide +kernel
theorem dX12_dines_94 : decode cX12_dines 94 = .ok (.aload_n 0, 1) := by decide +kernel
theorem dX12_dines_95 : decode cX12_dines 95 = .ok (.bipush 100, 2) := by decide +kernel
theorem dX12_dines_97 : decode cX12_dines 97 = .ok (.invokevirtual 578, 3) := by decide +kernel
theorem dX12_dines_100 : decode cX12_dines 100 = .ok (.aload_n 0, 1) := by decide +kernel
theorem dX12_dines_101 : decode cX12_dines 101 = .ok (.getfield 106, 3) := by decide +kernel
theorem dX12_dines_104 : decode cX12_dines 104 = .ok (.iconst 1, 1) := by decide +kernel
theorem dX12_dines_105 : decode cX12_dines 105 = .ok (.iaload, 1) := by decide +kernel
theorem dX12_dines_106 : decode cX12_dines 106 = .ok (.if_icmp .lt 6, 3) := by decide +kernel
theorem dX12_dines_109 : decode cX12_dines 109 = .ok (.goto 11, 3) := by decide +kernel
theorem dX12_dines_112 : decode cX12_dines 112 = .ok (.iinc 1 1, 3) := by decide +kernel
theorem dX12_dines_115 : decode cX12_dines 115 = .ok (.aload_n 0, 1) := by decide +kernel
theorem dX12_dines_116 : decode cX12_dines 116 = .ok (.iconst 1, 1) := by decide +kernel
theorem dX12_dines_117 : decode cX12_dines 117 = .ok (.invokevirtual 581, 3) := by decide +kernel
theorem dX12_dines_120 : decode cX12_dines 120 = .ok (.iinc 2 1, 3) := by decide +kernel
theorem dX12_dines_123 : decode cX12_dines 123 = .ok (.goto (-119), 3) := by decide +kernel
theorem dX12_dines_126 : decode cX12_dines 126 = .ok (.aload_n 0, 1) := by decide +kernel
theorem dX12_dines_127 : decode cX12_dines 127 = .ok (.iconst 0, 1) := by decide +kernel
theorem dX12_dines_128 : decode cX12_dines 128 = .ok (.invokevirtual 581, 3) := by decide +kernel
theorem dX12_dines_131 : decode cX12_dines 131 = .ok (.iload_n 1, 1) := by decide +kernel
theorem dX12_dines_132 : decode cX12_dines 132 = .ok (.ireturn, 1) := by decide +kernel
theorem dX12_dine_0 : decode cX12_dine 0 = .ok (.aload_n 0, 1) := by decide +kernel
theorem dX12_dine_1 : decode cX12_dine 1 = .ok (.invokevirtual 463, 3) := by decide +kernel
theorem dX12_dine_4 : decode cX12_dine 4 = .ok (.ifCond .eq 29, 3) := by decide +kernel
theorem dX12_dine_7 : decode cX12_dine 7 = .ok (.iload_n 1, 1) := by decide +kernel
theorem dX12_dine_8 : decode cX12_dine 8 = .ok (.i2l, 1) := by decide +kernel
theorem dX12_dine_9 : decode cX12_dine 9 = .ok (.lconst 1, 1) := by decide +kernel
theorem dX12_dine_10 : decode cX12_dine 10 = .ok (.ldc2_w 584, 3) := by decide +kernel
theorem dX12_dine_13 : decode cX12_dine 13 = .ok (.invokestatic 276, 3) := by decide +kernel
theorem dX12_dine_16 : decode cX12_dine 16 = .ok (.ifCond .eq 17, 3) := by decide +kernel
theorem dX12_dine_19 : decode cX12_dine 19 = .ok (.aload_n 0, 1) := by decide +kernel
theorem dX12_dine_20 : decode cX12_dine 20 = .ok (.getfield 127, 3) := by decide +kernel
theorem dX12_dine_23 : decode cX12_dine 23 = .ok (.iconst 0, 1) := by decide +kernel
theorem dX12_dine_24 : decode cX12_dine 24 = .ok (.iaload, 1) := by decide +kernel
theorem dX12_dine_25 : decode cX12_dine 25 = .ok (.iload_n 1, 1) := by decide +kernel
theorem dX12_dine_26 : decode cX12_dine 26 = .ok (.iadd, 1) := by decide +kernel
theorem dX12_dine_27 : decode cX12_dine 27 = .ok (.sipush 9999, 3) := by decide +kernel
theorem dX12_dine_30 : decode cX12_dine 30 = .ok (.if_icmp .le 15, 3) := by decide +kernel
theorem dX12_dine_33 : decode cX12_dine 33 = .ok (.aload_n 0, 1) := by decide +kernel
theorem dX12_dine_34 : decode cX12_dine 34 = .ok (.getfield 17, 3) := by decide +kernel
theorem dX12_dine_37 : decode cX12_dine 37 = .ok (.iconst 2, 1) := by decide +kernel
theorem dX12_dine_38 : decode cX12_dine 38 = .ok (.dup2, 1) := by decide +kernel
theorem dX12_dine_39 : decode cX12_dine 39 = .ok (.iaload, 1) := by decide +kernel
theorem dX12_dine_40 : decode cX12_dine 40 = .ok (.iconst 1, 1) := by decide +kernel
theorem dX12_dine_41 : decode cX12_dine 41 = .ok (.iadd, 1) := by decide +kernel
theorem dX12_dine_42 : decode cX12_dine 42 = .ok (.iastore, 1) := by decide +kernel
theorem dX12_dine_43 : decode cX12_dine 43 = .ok (.iconst (-1), 1) := by decide +kernel
theorem dX12_dine_44 : decode cX12_dine 44 = .ok (.ireturn, 1) := by decide +kernel
theorem dX12_dine_45 : decode cX12_dine 45 = .ok (.aload_n 0, 1) := by decide +kernel
theorem dX12_dine_46 : decode cX12_dine 46 = .ok (.invokevirtual 586, 3) := by decide +kernel
theorem dX12_dine_49 : decode cX12_dine 49 = .ok (.iconst 0, 1) := by decide +kernel
theorem dX12_dine_50 : decode cX12_dine 50 = .ok (.istore_n 2, 1) := by decide +kernel
theorem dX12_dine_51 : decode cX12_dine 51 = .ok (.iconst 0, 1) := by decide +kernel
theorem dX12_dine_52 : decode cX12_dine 52 = .ok (.istore_n 3, 1) := by decide +kernel
theorem dX12_dine_53 : decode cX12_dine 53 = .ok (.iload_n 3, 1) := by decide +kernel
theorem dX12_dine_54 : decode cX12_dine 54 = .ok (.iload_n 1, 1) := by decide +kernel
theorem dX12_dine_55 : decode cX12_dine 55 = .ok (.if_icmp .ge 16, 3) := by decide +kernel
theorem dX12_dine_58 : decode cX12_dine 58 = .ok (.iload_n 2, 1) := by decide +kernel
theorem dX12_dine_59 : decode cX12_dine 59 = .ok (.aload_n 0, 1) := by decide +kernel
theorem dX12_dine_60 : decode cX12_dine 60 = .ok (.invokevirtual 589, 3) := by decide +kernel
theorem dX12_dine_63 : decode cX12_dine 63 = .ok (.iadd, 1) := by decide +kernel
theorem dX12_dine_64 : decode cX12_dine 64 = .ok (.istore_n 2, 1) := by decide +kernel
theorem dX12_dine_65 : decode cX12_dine 65 = .ok (.iinc 3 1, 3) := by decide +kernel
theorem dX12_dine_68 : decode cX12_dine 68 = .ok (.goto (-15), 3) := by decide +kernel
theorem dX12_dine_71 : decode cX12_dine 71 = .ok (.iload_n 2, 1) := by decide +kernel
theorem dX12_dine_72 : decode cX12_dine 72 = .ok (.ireturn, 1) := by decide +kernel
theorem dX12_hold_0 : decode cX12_hold 0 = .ok (.aload_n 0, 1) := by decide +kernel
theorem dX12_hold_1 : decode cX12_hold 1 = .ok (.iload_n 1, 1) := by decide +kernel
theorem dX12_hold_2 : decode cX12_hold 2 = .ok (.invokevirtual 477, 3) := by decide +kernel
theorem dX12_hold_5 : decode cX12_hold 5 = .ok (.ifCond .eq 36, 3) := by decide +kernel
theorem dX12_hold_8 : decode cX12_hold 8 = .ok (.aload_n 0, 1) := by decide +kernel
theorem dX12_hold_9 : decode cX12_hold 9 = .ok (.iload_n 2, 1) := by decide +kernel
theorem dX12_hold_10 : decode cX12_hold 10 = .ok (.invokevirtual 521, 3) := by decide +kernel
theorem dX12_hold_13 : decode cX12_hold 13 = .ok (.ifCond .eq 28, 3) := by decide +kernel
theorem dX12_hold_16 : decode cX12_hold 16 = .ok (.iload_n 3, 1) := by decide +kernel
theorem dX12_hold_17 : decode cX12_hold 17 = .ok (.i2l, 1) := by decide +kernel
theorem dX12_hold_18 : decode cX12_hold 18 = .ok (.lconst 0, 1) := by decide +kernel
theorem dX12_hold_19 : decode cX12_hold 19 = .ok (.ldc2_w 483, 3) := by decide +kernel
theorem dX12_hold_22 : decode cX12_hold 22 = .ok (.invokestatic 276, 3) := by decide +kernel
theorem dX12_hold_25 : decode cX12_hold 25 = .ok (.ifCond .eq 16, 3) := by decide +kernel
theorem dX12_hold_28 : decode cX12_hold 28 = .ok (.iload 4, 2) := by decide +kernel
theorem dX12_hold_30 : decode cX12_hold 30 = .ok (.i2l, 1) := by decide +kernel
theorem dX12_hold_31 : decode cX12_hold 31 = .ok (.lconst 0, 1) := by decide +kernel
theorem dX12_hold_32 : decode cX12_hold 32 = .ok (.ldc2_w 592, 3) := by decide +kernel
theorem dX12_hold_35 : decode cX12_hold 35 = .ok (.invokestatic 276, 3) := by decide +kernel
theorem dX12_hold_38 : decode cX12_hold 38 = .ok (.ifCond .ne 15, 3) := by decide +kernel
theorem dX12_hold_41 : decode cX12_hold 41 = .ok (.aload_n 0, 1) := by decide +kernel
theorem dX12_hold_42 : decode cX12_hold 42 = .ok (.getfield 17, 3) := by decide +kernel
theorem dX12_hold_45 : decode cX12_hold 45 = .ok (.iconst 2, 1) := by decide +kernel
theorem dX12_hold_46 : decode cX12_hold 46 = .ok (.dup2, 1) := by decide +kernel
theorem dX12_hold_47 : decode cX12_hold 47 = .ok (.iaload, 1) := by decide +kernel
theorem dX12_hold_48 : decode cX12_hold 48 = .ok (.iconst 1, 1) := by decide +kernel
theorem dX12_hold_49 : decode cX12_hold 49 = .ok (.iadd, 1) := by decide +kernel
theorem dX12_hold_50 : decode cX12_hold 50 = .ok (.iastore, 1) := by decide +kernel
theorem dX12_hold_51 : decode cX12_hold 51 = .ok (.iconst 0, 1) := by decide +kernel
theorem dX12_hold_52 : decode cX12_hold 52 = .ok (.ireturn, 1) := by decide +kernel
theorem dX12_hold_53 : decode cX12_hold 53 = .ok (.aload_n 0, 1) := by decide +kernel
theorem dX12_hold_54 : decode cX12_hold 54 = .ok (.invokevirtual 586, 3) := by decide +kernel
theorem dX12_hold_57 : decode cX12_hold 57 = .ok (.aload_n 0, 1) := by decide +kernel
theorem dX12_hold_58 : decode cX12_hold 58 = .ok (.iload_n 1, 1) := by decide +kernel
theorem dX12_hold_59 : decode cX12_hold 59 = .ok (.iload_n 2, 1) := by decide +kernel
theorem dX12_hold_60 : decode cX12_hold 60 = .ok (.iload_n 3, 1) := by decide +kernel
theorem dX12_hold_61 : decode cX12_hold 61 = .ok (.iload 4, 2) := by decide +kernel
theorem dX12_hold_63 : decode cX12_hold 63 = .ok (.invokevirtual 511, 3) := by decide +kernel
theorem dX12_hold_66 : decode cX12_hold 66 = .ok (.iconst 1, 1) := by decide +kernel
theorem dX12_hold_67 : decode cX12_hold 67 = .ok (.ireturn, 1) := by decide +kernel
theorem dX12_refuses_0 : decode cX12_refuses 0 = .ok (.aload_n 0, 1) := by decide +kernel
theorem dX12_refuses_1 : decode cX12_refuses 1 = .ok (.getfield 17, 3) := by decide +kernel
theorem dX12_refuses_4 : decode cX12_refuses 4 = .ok (.iconst 3, 1) := by decide +kernel
theorem dX12_refuses_5 : decode cX12_refuses 5 = .ok (.dup2, 1) := by decide +kernel
theorem dX12_refuses_6 : decode cX12_refuses 6 = .ok (.iaload, 1) := by decide +kernel
theorem dX12_refuses_7 : decode cX12_refuses 7 = .ok (.iconst 1, 1) := by decide +kernel
theorem dX12_refuses_8 : decode cX12_refuses 8 = .ok (.iadd, 1) := by decide +kernel
theorem dX12_refuses_9 : decode cX12_refuses 9 = .ok (.iastore, 1) := by decide +kernel
theorem dX12_refuses_10 : decode cX12_refuses 10 = .ok (.iconst 0, 1) := by decide +kernel
theorem dX12_refuses_11 : decode cX12_refuses 11 = .ok (.ireturn, 1) := by decide +kernel
theorem dX12_give_0 : decode cX12_give 0 = .ok (.aload_n 0, 1) := by decide +kernel
theorem dX12_give_1 : decode cX12_give 1 = .ok (.iload_n 1, 1) := by decide +kernel
theorem dX12_give_2 : decode cX12_give 2 = .ok (.invokevirtual 477, 3) := by decide +kernel
theorem dX12_give_5 : decode cX12_give 5 = .ok (.ifCond .eq 34, 3) := by decide +kernel
theorem dX12_give_8 : decode cX12_give 8 = .ok (.aload_n 0, 1) := by decide +kernel
theorem dX12_give_9 : decode cX12_give 9 = .ok (.iload_n 2, 1) := by decide +kernel
theorem dX12_give_10 : decode cX12_give 10 = .ok (.invokevirtual 477, 3) := by decide +kernel
theorem dX12_give_13 : decode cX12_give 13 = .ok (.ifCond .eq 26, 3) := by decide +kernel
theorem dX12_give_16 : decode cX12_give 16 = .ok (.iload_n 1, 1) := by decide +kernel
theorem dX12_give_17 : decode cX12_give 17 = .ok (.iload_n 2, 1) := by decide +kernel
theorem dX12_give_18 : decode cX12_give 18 = .ok (.if_icmp .eq 21, 3) := by decide +kernel
theorem dX12_give_21 : decode cX12_give 21 = .ok (.aload_n 0, 1) := by decide +kernel
theorem dX12_give_22 : decode cX12_give 22 = .ok (.iload_n 1, 1) := by decide +kernel
theorem dX12_give_23 : decode cX12_give 23 = .ok (.invokevirtual 460, 3) := by decide +kernel
theorem dX12_give_26 : decode cX12_give 26 = .ok (.ifCond .eq 13, 3) := by decide +kernel
theorem dX12_give_29 : decode cX12_give 29 = .ok (.aload_n 0, 1) := by decide +kernel
theorem dX12_give_30 : decode cX12_give 30 = .ok (.iload_n 2, 1) := by decide +kernel
theorem dX12_give_31 : decode cX12_give 31 = .ok (.invokevirtual 460, 3) := by decide +kernel
theorem dX12_give_34 : decode cX12_give 34 = .ok (.bipush 99, 2) := by decide +kernel
theorem dX12_give_36 : decode cX12_give 36 = .ok (.if_icmp .ne 8, 3) := by decide +kernel
theorem dX12_give_39 : decode cX12_give 39 = .ok (.aload_n 0, 1) := by decide +kernel
theorem dX12_give_40 : decode cX12_give 40 = .ok (.invokevirtual 594, 3) := by decide +kernel
theorem dX12_give_43 : decode cX12_give 43 = .ok (.ireturn, 1) := by decide +kernel
theorem dX12_give_44 : decode cX12_give 44 = .ok (.aload_n 0, 1) := by decide +kernel
theorem dX12_give_45 : decode cX12_give 45 = .ok (.invokevirtual 586, 3) := by decide +kernel
theorem dX12_give_48 : decode cX12_give 48 = .ok (.aload_n 0, 1) := by decide +kernel
theorem dX12_give_49 : decode cX12_give 49 = .ok (.iload_n 1, 1) := by decide +kernel
theorem dX12_give_50 : decode cX12_give 50 = .ok (.aload_n 0, 1) := by decide +kernel
theorem dX12_give_51 : decode cX12_give 51 = .ok (.iload_n 1, 1) := by decide +kernel
theorem dX12_give_52 : decode cX12_give 52 = .ok (.invokevirtual 460, 3) := by decide +kernel
theorem dX12_give_55 : decode cX12_give 55 = .ok (.iconst 1, 1) := by decide +kernel
theorem dX12_give_56 : decode cX12_give 56 = .ok (.isub, 1) := by decide +kernel
theorem dX12_give_57 : decode cX12_give 57 = .ok (.invokevirtual 561, 3) := by decide +kernel
theorem dX12_give_60 : decode cX12_give 60 = .ok (.aload_n 0, 1) := by decide +kernel
theorem dX12_give_61 : decode cX12_give 61 = .ok (.iload_n 2, 1) := by decide +kernel
theorem dX12_give_62 : decode cX12_give 62 = .ok (.aload_n 0, 1) := by decide +kernel
theorem dX12_give_63 : decode cX12_give 63 = .ok (.iload_n 2, 1) := by decide +kernel
theorem dX12_give_64 : decode cX12_give 64 = .ok (.invokevirtual 460, 3) := by decide +kernel
theorem dX12_give_67 : decode cX12_give 67 = .ok (.iconst 1, 1) := by decide +kernel
theorem dX12_give_68 : decode cX12_give 68 = .ok (.iadd, 1) := by decide +kernel
theorem dX12_give_69 : decode cX12_give 69 = .ok (.invokevirtual 561, 3) := by decide +kernel
theorem dX12_give_72 : decode cX12_give 72 = .ok (.iconst 1, 1) := by decide +kernel
theorem dX12_give_73 : decode cX12_give 73 = .ok (.ireturn, 1) := by decide +kernel
theorem dX12_pass_0 : decode cX12_pass 0 = .ok (.aload_n 0, 1) := by decide +kernel
theorem dX12_pass_1 : decode cX12_pass 1 = .ok (.invokevirtual 463, 3) := by decide +kernel
theorem dX12_pass_4 : decode cX12_pass 4 = .ok (.ifCond .ne 15, 3) := by decide +kernel
theorem dX12_pass_7 : decode cX12_pass 7 = .ok (.aload_n 0, 1) := by decide +kernel
theorem dX12_pass_8 : decode cX12_pass 8 = .ok (.getfield 17, 3) := by decide +kernel
theorem dX12_pass_11 : decode cX12_pass 11 = .ok (.iconst 3, 1) := by decide +kernel
theorem dX12_pass_12 : decode cX12_pass 12 = .ok (.dup2, 1) := by decide +kernel
theorem dX12_pass_13 : decode cX12_pass 13 = .ok (.iaload, 1) := by decide +kernel
theorem dX12_pass_14 : decode cX12_pass 14 = .ok (.iconst 1, 1) := by decide +kernel
theorem dX12_pass_15 : decode cX12_pass 15 = .ok (.iadd, 1) := by decide +kernel
theorem dX12_pass_16 : decode cX12_pass 16 = .ok (.iastore, 1) := by decide +kernel
theorem dX12_pass_17 : decode cX12_pass 17 = .ok (.iconst (-1), 1) := by decide +kernel
theorem dX12_pass_18 : decode cX12_pass 18 = .ok (.ireturn, 1) := by decide +kernel
theorem dX12_pass_19 : decode cX12_pass 19 = .ok (.aload_n 0, 1) := by decide +kernel
theorem dX12_pass_20 : decode cX12_pass 20 = .ok (.invokevirtual 586, 3) := by decide +kernel
theorem dX12_pass_23 : decode cX12_pass 23 = .ok (.aload_n 0, 1) := by decide +kernel
theorem dX12_pass_24 : decode cX12_pass 24 = .ok (.invokevirtual 564, 3) := by decide +kernel
theorem dX12_pass_27 : decode cX12_pass 27 = .ok (.ireturn, 1) := by decide +kernel
theorem dX12_change_0 : decode cX12_change 0 = .ok (.aload_n 0, 1) := by decide +kernel
theorem dX12_change_1 : decode cX12_change 1 = .ok (.iload_n 1, 1) := by decide +kernel
theorem dX12_change_2 : decode cX12_change 2 = .ok (.invokevirtual 477, 3) := by decide +kernel
theorem dX12_change_5 : decode cX12_change 5 = .ok (.ifCond .eq 16, 3) := by decide +kernel
theorem dX12_change_8 : decode cX12_change 8 = .ok (.aload_n 0, 1) := by decide +kernel
theorem dX12_change_9 : decode cX12_change 9 = .ok (.iload_n 2, 1) := by decide +kernel
theorem dX12_change_10 : decode cX12_change 10 = .ok (.invokevirtual 477, 3) := by decide +kernel
theorem dX12_change_13 : decode cX12_change 13 = .ok (.ifCond .eq 8, 3) := by decide +kernel
theorem dX12_change_16 : decode cX12_change 16 = .ok (.iload_n 1, 1) := by decide +kernel
theorem dX12_change_17 : decode cX12_change 17 = .ok (.iload_n 2, 1) := by decide +kernel
theorem dX12_change_18 : decode cX12_change 18 = .ok (.if_icmp .ne 8, 3) := by decide +kernel
theorem dX12_change_21 : decode cX12_change 21 = .ok (.aload_n 0, 1) := by decide +kernel
theorem dX12_change_22 : decode cX12_change 22 = .ok (.invokevirtual 594, 3) := by decide +kernel
theorem dX12_change_25 : decode cX12_change 25 = .ok (.ireturn, 1) := by decide +kernel
theorem dX12_change_26 : decode cX12_change 26 = .ok (.aload_n 0, 1) := by decide +kernel
theorem dX12_change_27 : decode cX12_change 27 = .ok (.invokevirtual 586, 3) := by decide +kernel
theorem dX12_change_30 : decode cX12_change 30 = .ok (.iconst 0, 1) := by decide +kernel
theorem dX12_change_31 : decode cX12_change 31 = .ok (.istore_n 3, 1) := by decide +kernel
theorem dX12_change_32 : decode cX12_change 32 = .ok (.iload_n 3, 1) := by decide +kernel
theorem dX12_change_33 : decode cX12_change 33 = .ok (.bipush 6, 2) := by decide +kernel
theorem dX12_change_35 : decode cX12_change 35 = .ok (.if_icmp .ge 65, 3) := by decide +kernel
theorem dX12_change_38 : decode cX12_change 38 = .ok (.aload_n 0, 1) := by decide +kernel
theorem dX12_change_39 : decode cX12_change 39 = .ok (.getfield 127, 3) := by decide +kernel
theorem dX12_change_42 : decode cX12_change 42 = .ok (.iconst 3, 1) := by decide +kernel
theorem dX12_change_43 : decode cX12_change 43 = .ok (.bipush 6, 2) := by decide +kernel
theorem dX12_change_45 : decode cX12_change 45 = .ok (.iload_n 1, 1) := by decide +kernel
theorem dX12_change_46 : decode cX12_change 46 = .ok (.imul, 1) := by decide +kernel
theorem dX12_change_47 : decode cX12_change 47 = .ok (.iadd, 1) := by decide +kernel
theorem dX12_change_48 : decode cX12_change 48 = .ok (.iload_n 3, 1) := by decide +kernel
theorem dX12_change_49 : decode cX12_change 49 = .ok (.iadd, 1) := by decide +kernel
theorem dX12_change_50 : decode cX12_change 50 = .ok (.iaload, 1) := by decide +kernel
theorem dX12_change_51 : decode cX12_change 51 = .ok (.istore 4, 2) := by decide +kernel
theorem dX12_change_53 : decode cX12_change 53 = .ok (.aload_n 0, 1) := by decide +kernel
theorem dX12_change_54 : decode cX12_change 54 = .ok (.getfield 127, 3) := by decide +kernel
theorem dX12_change_57 : decode cX12_change 57 = .ok (.iconst 3, 1) := by decide +kernel
theorem dX12_change_58 : decode cX12_change 58 = .ok (.bipush 6, 2) := by decide +kernel
theorem dX12_change_60 : decode cX12_change 60 = .ok (.iload_n 1, 1) := by decide +kernel
theorem dX12_change_61 : decode cX12_change 61 = .ok (.imul, 1) := by decide +kernel
theorem dX12_change_62 : decode cX12_change 62 = .ok (.iadd, 1) := by decide +kernel
theorem dX12_change_63 : decode cX12_change 63 = .ok (.iload_n 3, 1) := by decide +kernel
theorem dX12_change_64 : decode cX12_change 64 = .ok (.iadd, 1) := by decide +kernel
theorem dX12_change_65 : decode cX12_change 65 = .ok (.aload_n 0, 1) := by decide +kernel
theorem dX12_change_66 : decode cX12_change 66 = .ok (.getfield 127, 3) := by decide +kernel
theorem dX12_change_69 : decode cX12_change 69 = .ok (.iconst 3, 1) := by decide +kernel
theorem dX12_change_70 : decode cX12_change 70 = .ok (.bipush 6, 2) := by decide +kernel
theorem dX12_change_72 : decode cX12_change 72 = .ok (.iload_n 2, 1) := by decide +kernel
theorem dX12_change_73 : decode cX12_change 73 = .ok (.imul, 1) := by decide +kernel
theorem dX12_change_74 : decode cX12_change 74 = .ok (.iadd, 1) := by decide +kernel
theorem dX12_change_75 : decode cX12_change 75 = .ok (.iload_n 3, 1) := by decide +kernel
theorem dX12_change_76 : decode cX12_change 76 = .ok (.iadd, 1) := by decide +kernel
theorem dX12_change_77 : decode cX12_change 77 = .ok (.iaload, 1) := by decide +kernel
theorem dX12_change_78 : decode cX12_change 78 = .ok (.iastore, 1) := by decide +kernel
theorem dX12_change_79 : decode cX12_change 79 = .ok (.aload_n 0, 1) := by decide +kernel
theorem dX12_change_80 : decode cX12_change 80 = .ok (.getfield 127, 3) := by decide +kernel
theorem dX12_change_83 : decode cX12_change 83 = .ok (.iconst 3, 1) := by decide +kernel
theorem dX12_change_84 : decode cX12_change 84 = .ok (.bipush 6, 2) := by decide +kernel
theorem dX12_change_86 : decode cX12_change 86 = .ok (.iload_n 2, 1) := by decide +kernel
theorem dX12_change_87 : decode cX12_change 87 = .ok (.imul, 1) := by decide +kernel
theorem dX12_change_88 : decode cX12_change 88 = .ok (.iadd, 1) := by decide +kernel
theorem dX12_change_89 : decode cX12_change 89 = .ok (.iload_n 3, 1) := by decide +kernel
theorem dX12_change_90 : decode cX12_change 90 = .ok (.iadd, 1) := by decide +kernel
theorem dX12_change_91 : decode cX12_change 91 = .ok (.iload 4, 2) := by decide +kernel
theorem dX12_change_93 : decode cX12_change 93 = .ok (.iastore, 1) := by decide +kernel
theorem dX12_change_94 : decode cX12_change 94 = .ok (.iinc 3 1, 3) := by decide +kernel
theorem dX12_change_97 : decode cX12_change 97 = .ok (.goto (-65), 3) := by decide +kernel
theorem dX12_change_100 : decode cX12_change 100 = .ok (.iconst 1, 1) := by decide +kernel
theorem dX12_change_101 : decode cX12_change 101 = .ok (.ireturn, 1) := by decide +kernel
theorem dX12_qCode_0 : decode cX12_qCode 0 = .ok (.aload_n 0, 1) := by decide +kernel
theorem dX12_qCode_1 : decode cX12_qCode 1 = .ok (.getfield 221, 3) := by decide +kernel
theorem dX12_qCode_4 : decode cX12_qCode 4 = .ok (.aload_n 0, 1) := by decide +kernel
theorem dX12_qCode_5 : decode cX12_qCode 5 = .ok (.getfield 597, 3) := by decide +kernel
theorem dX12_qCode_8 : decode cX12_qCode 8 = .ok (.iload_n 1, 1) := by decide +kernel
theorem dX12_qCode_9 : decode cX12_qCode 9 = .ok (.iastore, 1) := by decide +kernel
theorem dX12_qCode_10 : decode cX12_qCode 10 = .ok (.aload_n 0, 1) := by decide +kernel
theorem dX12_qCode_11 : decode cX12_qCode 11 = .ok (.dup, 1) := by decide +kernel
theorem dX12_qCode_12 : decode cX12_qCode 12 = .ok (.getfield 597, 3) := by decide +kernel
theorem dX12_qCode_15 : decode cX12_qCode 15 = .ok (.iconst 1, 1) := by decide +kernel
theorem dX12_qCode_16 : decode cX12_qCode 16 = .ok (.iadd, 1) := by decide +kernel
theorem dX12_qCode_17 : decode cX12_qCode 17 = .ok (.putfield 597, 3) := by decide +kernel
theorem dX12_qCode_20 : decode cX12_qCode 20 = .ok (.return_, 1) := by decide +kernel
theorem dX12_qOpens_0 : decode cX12_qOpens 0 = .ok (.aload_n 0, 1) := by decide +kernel
theorem dX12_qOpens_1 : decode cX12_qOpens 1 = .ok (.getfield 236, 3) := by decide +kernel
theorem dX12_qOpens_4 : decode cX12_qOpens 4 = .ok (.ifCond .eq 4, 3) := by decide +kernel
theorem dX12_qOpens_7 : decode cX12_qOpens 7 = .ok (.return_, 1) := by decide +kernel
theorem dX12_qOpens_8 : decode cX12_qOpens 8 = .ok (.aload_n 0, 1) := by decide +kernel
theorem dX12_qOpens_9 : decode cX12_qOpens 9 = .ok (.getfield 600, 3) := by decide +kernel
theorem dX12_qOpens_12 : decode cX12_qOpens 12 = .ok (.bipush 6, 2) := by decide +kernel
theorem dX12_qOpens_14 : decode cX12_qOpens 14 = .ok (.if_icmp .ne 10, 3) := by decide +kernel
theorem dX12_qOpens_17 : decode cX12_qOpens 17 = .ok (.aload_n 0, 1) := by decide +kernel
theorem dX12_qOpens_18 : decode cX12_qOpens 18 = .ok (.iconst 4, 1) := by decide +kernel
theorem dX12_qOpens_19 : decode cX12_qOpens 19 = .ok (.iload_n 2, 1) := by decide +kernel
theorem dX12_qOpens_20 : decode cX12_qOpens 20 = .ok (.invokevirtual 266, 3) := by decide +kernel
theorem dX12_qOpens_23 : decode cX12_qOpens 23 = .ok (.return_, 1) := by decide +kernel
theorem dX12_qOpens_24 : decode cX12_qOpens 24 = .ok (.aload_n 0, 1) := by decide +kernel
theorem dX12_qOpens_25 : decode cX12_qOpens 25 = .ok (.dup, 1) := by decide +kernel
theorem dX12_qOpens_26 : decode cX12_qOpens 26 = .ok (.getfield 600, 3) := by decide +kernel
theorem dX12_qOpens_29 : decode cX12_qOpens 29 = .ok (.iconst 1, 1) := by decide +kernel
theorem dX12_qOpens_30 : decode cX12_qOpens 30 = .ok (.iadd, 1) := by decide +kernel
theorem dX12_qOpens_31 : decode cX12_qOpens 31 = .ok (.putfield 600, 3) := by decide +kernel
theorem dX12_qOpens_34 : decode cX12_qOpens 34 = .ok (.aload_n 0, 1) := by decide +kernel
theorem dX12_qOpens_35 : decode cX12_qOpens 35 = .ok (.getfield 224, 3) := by decide +kernel
theorem dX12_qOpens_38 : decode cX12_qOpens 38 = .ok (.aload_n 0, 1) := by decide +kernel
theorem dX12_qOpens_39 : decode cX12_qOpens 39 = .ok (.getfield 603, 3) := by decide +kernel
theorem dX12_qOpens_42 : decode cX12_qOpens 42 = .ok (.iload_n 1, 1) := by decide +kernel
theorem dX12_qOpens_43 : decode cX12_qOpens 43 = .ok (.iastore, 1) := by decide +kernel
theorem dX12_qOpens_44 : decode cX12_qOpens 44 = .ok (.aload_n 0, 1) := by decide +kernel
theorem dX12_qOpens_45 : decode cX12_qOpens 45 = .ok (.dup, 1) := by decide +kernel
theorem dX12_qOpens_46 : decode cX12_qOpens 46 = .ok (.getfield 603, 3) := by decide +kernel
theorem dX12_qOpens_49 : decode cX12_qOpens 49 = .ok (.iconst 1, 1) := by decide +kernel
theorem dX12_qOpens_50 : decode cX12_qOpens 50 = .ok (.iadd, 1) := by decide +kernel
theorem dX12_qOpens_51 : decode cX12_qOpens 51 = .ok (.putfield 603, 3) := by decide +kernel
theorem dX12_qOpens_54 : decode cX12_qOpens 54 = .ok (.return_, 1) := by decide +kernel
theorem dX12_qIsOn_0 : decode cX12_qIsOn 0 = .ok (.aload_n 0, 1) := by decide +kernel
theorem dX12_qIsOn_1 : decode cX12_qIsOn 1 = .ok (.getfield 603, 3) := by decide +kernel
theorem dX12_qIsOn_4 : decode cX12_qIsOn 4 = .ok (.ifCond .le 22, 3) := by decide +kernel
theorem dX12_qIsOn_7 : decode cX12_qIsOn 7 = .ok (.aload_n 0, 1) := by decide +kernel
theorem dX12_qIsOn_8 : decode cX12_qIsOn 8 = .ok (.getfield 224, 3) := by decide +kernel
theorem dX12_qIsOn_11 : decode cX12_qIsOn 11 = .ok (.aload_n 0, 1) := by decide +kernel
theorem dX12_qIsOn_12 : decode cX12_qIsOn 12 = .ok (.getfield 603, 3) := by decide +kernel
theorem dX12_qIsOn_15 : decode cX12_qIsOn 15 = .ok (.iconst 1, 1) := by decide +kernel
theorem dX12_qIsOn_16 : decode cX12_qIsOn 16 = .ok (.isub, 1) := by decide +kernel
theorem dX12_qIsOn_17 : decode cX12_qIsOn 17 = .ok (.iaload, 1) := by decide +kernel
theorem dX12_qIsOn_18 : decode cX12_qIsOn 18 = .ok (.iload_n 1, 1) := by decide +kernel
theorem dX12_qIsOn_19 : decode cX12_qIsOn 19 = .ok (.if_icmp .ne 7, 3) := by decide +kernel
theorem dX12_qIsOn_22 : decode cX12_qIsOn 22 = .ok (.iconst 1, 1) := by decide +kernel
theorem dX12_qIsOn_23 : decode cX12_qIsOn 23 = .ok (.goto 4, 3) := by decide +kernel
theorem dX12_qIsOn_26 : decode cX12_qIsOn 26 = .ok (.iconst 0, 1) := by decide +kernel
theorem dX12_qIsOn_27 : decode cX12_qIsOn 27 = .ok (.ireturn, 1) := by decide +kernel
theorem dX12_qDrops_0 : decode cX12_qDrops 0 = .ok (.aload_n 0, 1) := by decide +kernel
theorem dX12_qDrops_1 : decode cX12_qDrops 1 = .ok (.dup, 1) := by decide +kernel
theorem dX12_qDrops_2 : decode cX12_qDrops 2 = .ok (.getfield 603, 3) := by decide +kernel
theorem dX12_qDrops_5 : decode cX12_qDrops 5 = .ok (.iconst 1, 1) := by decide +kernel
theorem dX12_qDrops_6 : decode cX12_qDrops 6 = .ok (.isub, 1) := by decide +kernel
theorem dX12_qDrops_7 : decode cX12_qDrops 7 = .ok (.putfield 603, 3) := by decide +kernel
theorem dX12_qDrops_10 : decode cX12_qDrops 10 = .ok (.aload_n 0, 1) := by decide +kernel
theorem dX12_qDrops_11 : decode cX12_qDrops 11 = .ok (.aload_n 0, 1) := by decide +kernel
theorem dX12_qDrops_12 : decode cX12_qDrops 12 = .ok (.getfield 224, 3) := by decide +kernel
theorem dX12_qDrops_15 : decode cX12_qDrops 15 = .ok (.aload_n 0, 1) := by decide +kernel
theorem dX12_qDrops_16 : decode cX12_qDrops 16 = .ok (.getfield 603, 3) := by decide +kernel
theorem dX12_qDrops_19 : decode cX12_qDrops 19 = .ok (.iaload, 1) := by decide +kernel
theorem dX12_qDrops_20 : decode cX12_qDrops 20 = .ok (.invokevirtual 606, 3) := by decide +kernel
theorem dX12_qDrops_23 : decode cX12_qDrops 23 = .ok (.return_, 1) := by decide +kernel
theorem dX12_qIsBracket_0 : decode cX12_qIsBracket 0 = .ok (.iload_n 0, 1) := by decide +kernel
theorem dX12_qIsBracket_1 : decode cX12_qIsBracket 1 = .ok (.bipush 20, 2) := by decide +kernel
theorem dX12_qIsBracket_3 : decode cX12_qIsBracket 3 = .ok (.if_icmp .lt 13, 3) := by decide +kernel
theorem dX12_qIsBracket_6 : decode cX12_qIsBracket 6 = .ok (.iload_n 0, 1) := by decide +kernel
theorem dX12_qIsBracket_7 : decode cX12_qIsBracket 7 = .ok (.bipush 24, 2) := by decide +kernel
theorem dX12_qIsBracket_9 : decode cX12_qIsBracket 9 = .ok (.if_icmp .gt 7, 3) := by decide +kernel
theorem dX12_qIsBracket_12 : decode cX12_qIsBracket 12 = .ok (.iconst 1, 1) := by decide +kernel
theorem dX12_qIsBracket_13 : decode cX12_qIsBracket 13 = .ok (.goto 4, 3) := by decide +kernel
theorem dX12_qIsBracket_16 : decode cX12_qIsBracket 16 = .ok (.iconst 0, 1) := by decide +kernel
theorem dX12_qIsBracket_17 : decode cX12_qIsBracket 17 = .ok (.ireturn, 1) := by decide +kernel
theorem dX12_qBracket_0 : decode cX12_qBracket 0 = .ok (.aload_n 0, 1) := by decide +kernel
theorem dX12_qBracket_1 : decode cX12_qBracket 1 = .ok (.getfield 603, 3) := by decide +kernel
theorem dX12_qBracket_4 : decode cX12_qBracket 4 = .ok (.iconst 1, 1) := by decide +kernel
theorem dX12_qBracket_5 : decode cX12_qBracket 5 = .ok (.isub, 1) := by decide +kernel
theorem dX12_qBracket_6 : decode cX12_qBracket 6 = .ok (.istore_n 1, 1) := by decide +kernel
theorem dX12_qBracket_7 : decode cX12_qBracket 7 = .ok (.iload_n 1, 1) := by decide +kernel
theorem dX12_qBracket_8 : decode cX12_qBracket 8 = .ok (.aload_n 0, 1) := by decide +kernel
theorem dX12_qBracket_9 : decode cX12_qBracket 9 = .ok (.getfield 609, 3) := by decide +kernel
theorem dX12_qBracket_12 : decode cX12_qBracket 12 = .ok (.if_icmp .lt 21, 3) := by decide +kernel
theorem dX12_qBracket_15 : decode cX12_qBracket 15 = .ok (.aload_n 0, 1) := by decide +kernel
theorem dX12_qBracket_16 : decode cX12_qBracket 16 = .ok (.getfield 224, 3) := by decide +kernel
theorem dX12_qBracket_19 : decode cX12_qBracket 19 = .ok (.iload_n 1, 1) := by decide +kernel
theorem dX12_qBracket_20 : decode cX12_qBracket 20 = .ok (.iaload, 1) := by decide +kernel
theorem dX12_qBracket_21 : decode cX12_qBracket 21 = .ok (.invokestatic 612, 3) := by decide +kernel
theorem dX12_qBracket_24 : decode cX12_qBracket 24 = .ok (.ifCond .ne 9, 3) := by decide +kernel
theorem dX12_qBracket_27 : decode cX12_qBracket 27 = .ok (.iinc 1 (-1), 3) := by decide +kernel
theorem dX12_qBracket_30 : decode cX12_qBracket 30 = .ok (.goto (-23), 3) := by decide +kernel
theorem dX12_qBracket_33 : decode cX12_qBracket 33 = .ok (.iload_n 1, 1) := by decide +kernel
theorem dX12_qBracket_34 : decode cX12_qBracket 34 = .ok (.aload_n 0, 1) := by decide +kernel
theorem dX12_qBracket_35 : decode cX12_qBracket 35 = .ok (.getfield 609, 3) := by decide +kernel
theorem dX12_qBracket_38 : decode cX12_qBracket 38 = .ok (.if_icmp .lt 12, 3) := by decide +kernel
theorem dX12_qBracket_41 : decode cX12_qBracket 41 = .ok (.aload_n 0, 1) := by decide +kernel
theorem dX12_qBracket_42 : decode cX12_qBracket 42 = .ok (.getfield 224, 3) := by decide +kernel
theorem dX12_qBracket_45 : decode cX12_qBracket 45 = .ok (.iload_n 1, 1) := by decide +kernel
theorem dX12_qBracket_46 : decode cX12_qBracket 46 = .ok (.iaload, 1) := by decide +kernel
theorem dX12_qBracket_47 : decode cX12_qBracket 47 = .ok (.goto 4, 3) := by decide +kernel
theorem dX12_qBracket_50 : decode cX12_qBracket 50 = .ok (.iconst (-1), 1) := by decide +kernel
theorem dX12_qBracket_51 : decode cX12_qBracket 51 = .ok (.ireturn, 1) := by decide +kernel
theorem dX12_qDropsToBracket_0 : decode cX12_qDropsToBracket 0 = .ok (.aload_n 0, 1) := by decide +kernel
theorem dX12_qDropsToBracket_1 : decode cX12_qDropsToBracket 1 = .ok (.getfield 603, 3) := by decide +kernel
theorem dX12_qDropsToBracket_4 : decode cX12_qDropsToBracket 4 = .ok (.aload_n 0, 1) := by decide +kernel
theorem dX12_qDropsToBracket_5 : decode cX12_qDropsToBracket 5 = .ok (.getfield 609, 3) := by decide +kernel
theorem dX12_qDropsToBracket_8 : decode cX12_qDropsToBracket 8 = .ok (.if_icmp .le 27, 3) := by decide +kernel
theorem dX12_qDropsToBracket_11 : decode cX12_qDropsToBracket 11 = .ok (.aload_n 0, 1) := by decide +kernel
theorem dX12_qDropsToBracket_12 : decode cX12_qDropsToBracket 12 = .ok (.getfield 224, 3) := by decide +kernel
theorem dX12_qDropsToBracket_15 : decode cX12_qDropsToBracket 15 = .ok (.aload_n 0, 1) := by decide +kernel
theorem dX12_qDropsToBracket_16 : decode cX12_qDropsToBracket 16 = .ok (.getfield 603, 3) := by decide +kernel
theorem dX12_qDropsToBracket_19 : decode cX12_qDropsToBracket 19 = .ok (.iconst 1, 1) := by decide +kernel
theorem dX12_qDropsToBracket_20 : decode cX12_qDropsToBracket 20 = .ok (.isub, 1) := by decide +kernel
theorem dX12_qDropsToBracket_21 : decode cX12_qDropsToBracket 21 = .ok (.iaload, 1) := by decide +kernel
theorem dX12_qDropsToBracket_22 : decode cX12_qDropsToBracket 22 = .ok (.invokestatic 612, 3) := by decide +kernel
theorem dX12_qDropsToBracket_25 : decode cX12_qDropsToBracket 25 = .ok (.ifCond .ne 10, 3) := by decide +kernel
theorem dX12_qDropsToBracket_28 : decode cX12_qDropsToBracket 28 = .ok (.aload_n 0, 1) := by decide +kernel
theorem dX12_qDropsToBracket_29 : decode cX12_qDropsToBracket 29 = .ok (.invokevirtual 615, 3) := by decide +kernel
theorem dX12_qDropsToBracket_32 : decode cX12_qDropsToBracket 32 = .ok (.goto (-32), 3) := by decide +kernel
theorem dX12_qDropsToBracket_35 : decode cX12_qDropsToBracket 35 = .ok (.return_, 1) := by decide +kernel
theorem dX12_qWordHere_0 : decode cX12_qWordHere 0 = .ok (.aload_n 0, 1) := by decide +kernel
theorem dX12_qWordHere_1 : decode cX12_qWordHere 1 = .ok (.aload_n 0, 1) := by decide +kernel
theorem dX12_qWordHere_2 : decode cX12_qWordHere 2 = .ok (.getfield 203, 3) := by decide +kernel
theorem dX12_qWordHere_5 : decode cX12_qWordHere 5 = .ok (.invokevirtual 259, 3) := by decide +kernel
theorem dX12_qWordHere_8 : decode cX12_qWordHere 8 = .ok (.ifCond .eq 5, 3) := by decide +kernel
theorem dX12_qWordHere_11 : decode cX12_qWordHere 11 = .ok (.iconst 0, 1) := by decide +kernel
theorem dX12_qWordHere_12 : decode cX12_qWordHere 12 = .ok (.ireturn, 1) := by decide +kernel
theorem dX12_qWordHere_13 : decode cX12_qWordHere 13 = .ok (.aload_n 0, 1) := by decide +kernel
theorem dX12_qWordHere_14 : decode cX12_qWordHere 14 = .ok (.aload_n 0, 1) := by decide +kernel
theorem dX12_qWordHere_15 : decode cX12_qWordHere 15 = .ok (.getfield 206, 3) := by decide +kernel
theorem dX12_qWordHere_18 : decode cX12_qWordHere 18 = .ok (.invokevirtual 259, 3) := by decide +kernel
theorem dX12_qWordHere_21 : decode cX12_qWordHere 21 = .ok (.ifCond .eq 5, 3) := by decide +kernel
theorem dX12_qWordHere_24 : decode cX12_qWordHere 24 = .ok (.iconst 1, 1) := by decide +kernel
theorem dX12_qWordHere_25 : decode cX12_qWordHere 25 = .ok (.ireturn, 1) := by decide +kernel
theorem dX12_qWordHere_26 : decode cX12_qWordHere 26 = .ok (.aload_n 0, 1) := by decide +kernel
theorem dX12_qWordHere_27 : decode cX12_qWordHere 27 = .ok (.aload_n 0, 1) := by decide +kernel
theorem dX12_qWordHere_28 : decode cX12_qWordHere 28 = .ok (.getfield 209, 3) := by decide +kernel
theorem dX12_qWordHere_31 : decode cX12_qWordHere 31 = .ok (.invokevirtual 259, 3) := by decide +kernel
theorem dX12_qWordHere_34 : decode cX12_qWordHere 34 = .ok (.ifCond .eq 5, 3) := by decide +kernel
theorem dX12_qWordHere_37 : decode cX12_qWordHere 37 = .ok (.iconst 2, 1) := by decide +kernel
theorem dX12_qWordHere_38 : decode cX12_qWordHere 38 = .ok (.ireturn, 1) := by decide +kernel
theorem dX12_qWordHere_39 : decode cX12_qWordHere 39 = .ok (.aload_n 0, 1) := by decide +kernel
theorem dX12_qWordHere_40 : decode cX12_qWordHere 40 = .ok (.aload_n 0, 1) := by decide +kernel
theorem dX12_qWordHere_41 : decode cX12_qWordHere 41 = .ok (.getfield 212, 3) := by decide +kernel
theorem dX12_qWordHere_44 : decode cX12_qWordHere 44 = .ok (.invokevirtual 259, 3) := by decide +kernel
theorem dX12_qWordHere_47 : decode cX12_qWordHere 47 = .ok (.ifCond .eq 5, 3) := by decide +kernel
theorem dX12_qWordHere_50 : decode cX12_qWordHere 50 = .ok (.iconst 3, 1) := by decide +kernel
theorem dX12_qWordHere_51 : decode cX12_qWordHere 51 = .ok (.ireturn, 1) := by decide +kernel
theorem dX12_qWordHere_52 : decode cX12_qWordHere 52 = .ok (.aload_n 0, 1) := by decide +kernel
theorem dX12_qWordHere_53 : decode cX12_qWordHere 53 = .ok (.aload_n 0, 1) := by decide +kernel
theorem dX12_qWordHere_54 : decode cX12_qWordHere 54 = .ok (.getfield 215, 3) := by decide +kernel
theorem dX12_qWordHere_57 : decode cX12_qWordHere 57 = .ok (.invokevirtual 259, 3) := by decide +kernel
theorem dX12_qWordHere_60 : decode cX12_qWordHere 60 = .ok (.ifCond .eq 5, 3) := by decide +kernel
theorem dX12_qWordHere_63 : decode cX12_qWordHere 63 = .ok (.iconst 4, 1) := by decide +kernel
theorem dX12_qWordHere_64 : decode cX12_qWordHere 64 = .ok (.ireturn, 1) := by decide +kernel
theorem dX12_qWordHere_65 : decode cX12_qWordHere 65 = .ok (.aload_n 0, 1) := by decide +kernel
theorem dX12_qWordHere_66 : decode cX12_qWordHere 66 = .ok (.aload_n 0, 1) := by decide +kernel
theorem dX12_qWordHere_67 : decode cX12_qWordHere 67 = .ok (.getfield 218, 3) := by decide +kernel
theorem dX12_qWordHere_70 : decode cX12_qWordHere 70 = .ok (.invokevirtual 259, 3) := by decide +kernel
theorem dX12_qWordHere_73 : decode cX12_qWordHere 73 = .ok (.ifCond .eq 5, 3) := by decide +kernel
theorem dX12_qWordHere_76 : decode cX12_qWordHere 76 = .ok (.iconst 5, 1) := by decide +kernel
theorem dX12_qWordHere_77 : decode cX12_qWordHere 77 = .ok (.ireturn, 1) := by decide +kernel
theorem dX12_qWordHere_78 : decode cX12_qWordHere 78 = .ok (.iconst (-1), 1) := by decide +kernel
theorem dX12_qWordHere_79 : decode cX12_qWordHere 79 = .ok (.ireturn, 1) := by decide +kernel
theorem dX12_qWordOf_0 : decode cX12_qWordOf 0 = .ok (.aload_n 0, 1) := by decide +kernel
theorem dX12_qWordOf_1 : decode cX12_qWordOf 1 = .ok (.invokevirtual 618, 3) := by decide +kernel
theorem dX12_qWordOf_4 : decode cX12_qWordOf 4 = .ok (.istore_n 3, 1) := by decide +kernel
theorem dX12_qWordOf_5 : decode cX12_qWordOf 5 = .ok (.iload_n 3, 1) := by decide +kernel
theorem dX12_qWordOf_6 : decode cX12_qWordOf 6 = .ok (.iload_n 1, 1) := by decide +kernel
theorem dX12_qWordOf_7 : decode cX12_qWordOf 7 = .ok (.if_icmp .lt 12, 3) := by decide +kernel
theorem dX12_qWordOf_10 : decode cX12_qWordOf 10 = .ok (.iload_n 3, 1) := by decide +kernel
theorem dX12_qWordOf_11 : decode cX12_qWordOf 11 = .ok (.iload_n 2, 1) := by decide +kernel
theorem dX12_qWordOf_12 : decode cX12_qWordOf 12 = .ok (.if_icmp .ge 7, 3) := by decide +kernel
theorem dX12_qWordOf_15 : decode cX12_qWordOf 15 = .ok (.iload_n 3, 1) := by decide +kernel
theorem dX12_qWordOf_16 : decode cX12_qWordOf 16 = .ok (.goto 4, 3) := by decide +kernel
theorem dX12_qWordOf_19 : decode cX12_qWordOf 19 = .ok (.iconst (-1), 1) := by decide +kernel
theorem dX12_qWordOf_20 : decode cX12_qWordOf 20 = .ok (.ireturn, 1) := by decide +kernel
theorem dX12_qAsksWord_0 : decode cX12_qAsksWord 0 = .ok (.iload_n 1, 1) := by decide +kernel
theorem dX12_qAsksWord_1 : decode cX12_qAsksWord 1 = .ok (.tableswitch 90 0 4 #[35, 46, 57, 68, 79], 35) := by decide +kernel
theorem dX12_qAsksWord_36 : decode cX12_qAsksWord 36 = .ok (.aload_n 0, 1) := by decide +kernel
theorem dX12_qAsksWord_37 : decode cX12_qAsksWord 37 = .ok (.aload_n 0, 1) := by decide +kernel
theorem dX12_qAsksWord_38 : decode cX12_qAsksWord 38 = .ok (.getfield 203, 3) := by decide +kernel
theorem dX12_qAsksWord_41 : decode cX12_qAsksWord 41 = .ok (.invokevirtual 302, 3) := by decide +kernel
theorem dX12_qAsksWord_44 : decode cX12_qAsksWord 44 = .ok (.goto 55, 3) := by decide +kernel
theorem dX12_qAsksWord_47 : decode cX12_qAsksWord 47 = .ok (.aload_n 0, 1) := by decide +kernel
theorem dX12_qAsksWord_48 : decode cX12_qAsksWord 48 = .ok (.aload_n 0, 1) := by decide +kernel
theorem dX12_qAsksWord_49 : decode cX12_qAsksWord 49 = .ok (.getfield 206, 3) := by decide +kernel
theorem dX12_qAsksWord_52 : decode cX12_qAsksWord 52 = .ok (.invokevirtual 302, 3) := by decide +kernel
theorem dX12_qAsksWord_55 : decode cX12_qAsksWord 55 = .ok (.goto 44, 3) := by decide +kernel
theorem dX12_qAsksWord_58 : decode cX12_qAsksWord 58 = .ok (.aload_n 0, 1) := by decide +kernel
theorem dX12_qAsksWord_59 : decode cX12_qAsksWord 59 = .ok (.aload_n 0, 1) := by decide +kernel
theorem dX12_qAsksWord_60 : decode cX12_qAsksWord 60 = .ok (.getfield 209, 3) := by decide +kernel
theorem dX12_qAsksWord_63 : decode cX12_qAsksWord 63 = .ok (.invokevirtual 302, 3) := by decide +kernel
theorem dX12_qAsksWord_66 : decode cX12_qAsksWord 66 = .ok (.goto 33, 3) := by decide +kernel
theorem dX12_qAsksWord_69 : decode cX12_qAsksWord 69 = .ok (.aload_n 0, 1) := by decide +kernel
theorem dX12_qAsksWord_70 : decode cX12_qAsksWord 70 = .ok (.aload_n 0, 1) := by decide +kernel
theorem dX12_qAsksWord_71 : decode cX12_qAsksWord 71 = .ok (.getfield 212, 3) := by decide +kernel
theorem dX12_qAsksWord_74 : decode cX12_qAsksWord 74 = .ok (.invokevirtual 302, 3) := by decide +kernel
theorem dX12_qAsksWord_77 : decode cX12_qAsksWord 77 = .ok (.goto 22, 3) := by decide +kernel
theorem dX12_qAsksWord_80 : decode cX12_qAsksWord 80 = .ok (.aload_n 0, 1) := by decide +kernel
theorem dX12_qAsksWord_81 : decode cX12_qAsksWord 81 = .ok (.aload_n 0, 1) := by decide +kernel
theorem dX12_qAsksWord_82 : decode cX12_qAsksWord 82 = .ok (.getfield 215, 3) := by decide +kernel
theorem dX12_qAsksWord_85 : decode cX12_qAsksWord 85 = .ok (.invokevirtual 302, 3) := by decide +kernel
theorem dX12_qAsksWord_88 : decode cX12_qAsksWord 88 = .ok (.goto 11, 3) := by decide +kernel
theorem dX12_qAsksWord_91 : decode cX12_qAsksWord 91 = .ok (.aload_n 0, 1) := by decide +kernel
theorem dX12_qAsksWord_92 : decode cX12_qAsksWord 92 = .ok (.aload_n 0, 1) := by decide +kernel
theorem dX12_qAsksWord_93 : decode cX12_qAsksWord 93 = .ok (.getfield 218, 3) := by decide +kernel
theorem dX12_qAsksWord_96 : decode cX12_qAsksWord 96 = .ok (.invokevirtual 302, 3) := by decide +kernel
theorem dX12_qAsksWord_99 : decode cX12_qAsksWord 99 = .ok (.return_, 1) := by decide +kernel
theorem dX12_qEndsPart_0 : decode cX12_qEndsPart 0 = .ok (.aload_n 0, 1) := by decide +kernel
theorem dX12_qEndsPart_1 : decode cX12_qEndsPart 1 = .ok (.getfield 236, 3) := by decide +kernel
theorem dX12_qEndsPart_4 : decode cX12_qEndsPart 4 = .ok (.ifCond .ne 47, 3) := by decide +kernel
theorem dX12_qEndsPart_7 : decode cX12_qEndsPart 7 = .ok (.aload_n 0, 1) := by decide +kernel
theorem dX12_qEndsPart_8 : decode cX12_qEndsPart 8 = .ok (.getfield 603, 3) := by decide +kernel
theorem dX12_qEndsPart_11 : decode cX12_qEndsPart 11 = .ok (.aload_n 0, 1) := by decide +kernel
theorem dX12_qEndsPart_12 : decode cX12_qEndsPart 12 = .ok (.getfield 609, 3) := by decide +kernel
theorem dX12_qEndsPart_15 : decode cX12_qEndsPart 15 = .ok (.if_icmp .le 36, 3) := by decide +kernel
theorem dX12_qEndsPart_18 : decode cX12_qEndsPart 18 = .ok (.aload_n 0, 1) := by decide +kernel
theorem dX12_qEndsPart_19 : decode cX12_qEndsPart 19 = .ok (.getfield 224, 3) := by decide +kernel
theorem dX12_qEndsPart_22 : decode cX12_qEndsPart 22 = .ok (.aload_n 0, 1) := by decide +kernel
theorem dX12_qEndsPart_23 : decode cX12_qEndsPart 23 = .ok (.getfield 603, 3) := by decide +kernel
theorem dX12_qEndsPart_26 : decode cX12_qEndsPart 26 = .ok (.iconst 1, 1) := by decide +kernel
theorem dX12_qEndsPart_27 : decode cX12_qEndsPart 27 = .ok (.isub, 1) := by decide +kernel
theorem dX12_qEndsPart_28 : decode cX12_qEndsPart 28 = .ok (.iaload, 1) := by decide +kernel
theorem dX12_qEndsPart_29 : decode cX12_qEndsPart 29 = .ok (.bipush 60, 2) := by decide +kernel
theorem dX12_qEndsPart_31 : decode cX12_qEndsPart 31 = .ok (.if_icmp .lt 20, 3) := by decide +kernel
theorem dX12_qEndsPart_34 : decode cX12_qEndsPart 34 = .ok (.aload_n 0, 1) := by decide +kernel
theorem dX12_qEndsPart_35 : decode cX12_qEndsPart 35 = .ok (.dup, 1) := by decide +kernel
theorem dX12_qEndsPart_36 : decode cX12_qEndsPart 36 = .ok (.getfield 600, 3) := by decide +kernel
theorem dX12_qEndsPart_39 : decode cX12_qEndsPart 39 = .ok (.iconst 1, 1) := by decide +kernel
theorem dX12_qEndsPart_40 : decode cX12_qEndsPart 40 = .ok (.isub, 1) := by decide +kernel
theorem dX12_qEndsPart_41 : decode cX12_qEndsPart 41 = .ok (.putfield 600, 3) := by decide +kernel
theorem dX12_qEndsPart_44 : decode cX12_qEndsPart 44 = .ok (.aload_n 0, 1) := by decide +kernel
theorem dX12_qEndsPart_45 : decode cX12_qEndsPart 45 = .ok (.invokevirtual 615, 3) := by decide +kernel
theorem dX12_qEndsPart_48 : decode cX12_qEndsPart 48 = .ok (.goto (-48), 3) := by decide +kernel
theorem dX12_qEndsPart_51 : decode cX12_qEndsPart 51 = .ok (.return_, 1) := by decide +kernel
theorem dX12_qPartTold_0 : decode cX12_qPartTold 0 = .ok (.iconst 1, 1) := by decide +kernel
theorem dX12_qPartTold_1 : decode cX12_qPartTold 1 = .ok (.istore_n 1, 1) := by decide +kernel
theorem dX12_qPartTold_2 : decode cX12_qPartTold 2 = .ok (.iload_n 1, 1) := by decide +kernel
theorem dX12_qPartTold_3 : decode cX12_qPartTold 3 = .ok (.ifCond .eq 181, 3) := by decide +kernel
theorem dX12_qPartTold_6 : decode cX12_qPartTold 6 = .ok (.aload_n 0, 1) := by decide +kernel
theorem dX12_qPartTold_7 : decode cX12_qPartTold 7 = .ok (.getfield 236, 3) := by decide +kernel
theorem dX12_qPartTold_10 : decode cX12_qPartTold 10 = .ok (.ifCond .ne 174, 3) := by decide +kernel
theorem dX12_qPartTold_13 : decode cX12_qPartTold 13 = .ok (.aload_n 0, 1) := by decide +kernel
theorem dX12_qPartTold_14 : decode cX12_qPartTold 14 = .ok (.invokevirtual 248, 3) := by decide +kernel
theorem dX12_qPartTold_17 : decode cX12_qPartTold 17 = .ok (.istore_n 2, 1) := by decide +kernel
theorem dX12_qPartTold_18 : decode cX12_qPartTold 18 = .ok (.aload_n 0, 1) := by decide +kernel
theorem dX12_qPartTold_19 : decode cX12_qPartTold 19 = .ok (.iconst 5, 1) := by decide +kernel
theorem dX12_qPartTold_20 : decode cX12_qPartTold 20 = .ok (.bipush 6, 2) := by decide +kernel
theorem dX12_qPartTold_22 : decode cX12_qPartTold 22 = .ok (.invokevirtual 621, 3) := by decide +kernel
theorem dX12_qPartTold_25 : decode cX12_qPartTold 25 = .ok (.istore_n 3, 1) := by decide +kernel
theorem dX12_qPartTold_26 : decode cX12_qPartTold 26 = .ok (.iload_n 2, 1) := by decide +kernel
theorem dX12_qPartTold_27 : decode cX12_qPartTold 27 = .ok (.bipush 40, 2) := by decide +kernel
theorem dX12_qPartTold_29 : decode cX12_qPartTold 29 = .ok (.if_icmp .ne 26, 3) := by decide +kernel
theorem dX12_qPartTold_32 : decode cX12_qPartTold 32 = .ok (.aload_n 0, 1) := by decide +kernel
theorem dX12_qPartTold_33 : decode cX12_qPartTold 33 = .ok (.bipush 20, 2) := by decide +kernel
theorem dX12_qPartTold_35 : decode cX12_qPartTold 35 = .ok (.aload_n 0, 1) := by decide +kernel
theorem dX12_qPartTold_36 : decode cX12_qPartTold 36 = .ok (.getfield 242, 3) := by decide +kernel
theorem dX12_qPartTold_39 : decode cX12_qPartTold 39 = .ok (.invokevirtual 624, 3) := by decide +kernel
theorem dX12_qPartTold_42 : decode cX12_qPartTold 42 = .ok (.aload_n 0, 1) := by decide +kernel
theorem dX12_qPartTold_43 : decode cX12_qPartTold 43 = .ok (.dup, 1) := by decide +kernel
theorem dX12_qPartTold_44 : decode cX12_qPartTold 44 = .ok (.getfield 242, 3) := by decide +kernel
theorem dX12_qPartTold_47 : decode cX12_qPartTold 47 = .ok (.iconst 1, 1) := by decide +kernel
theorem dX12_qPartTold_48 : decode cX12_qPartTold 48 = .ok (.iadd, 1) := by decide +kernel
theorem dX12_qPartTold_49 : decode cX12_qPartTold 49 = .ok (.putfield 242, 3) := by decide +kernel
theorem dX12_qPartTold_52 : decode cX12_qPartTold 52 = .ok (.goto 129, 3) := by decide +kernel
theorem dX12_qPartTold_55 : decode cX12_qPartTold 55 = .ok (.aload_n 0, 1) := by decide +kernel
theorem dX12_qPartTold_56 : decode cX12_qPartTold 56 = .ok (.aload_n 0, 1) := by decide +kernel
theorem dX12_qPartTold_57 : decode cX12_qPartTold 57 = .ok (.getfield 197, 3) := by decide +kernel
theorem dX12_qPartTold_60 : decode cX12_qPartTold 60 = .ok (.invokevirtual 259, 3) := by decide +kernel
theorem dX12_qPartTold_63 : decode cX12_qPartTold 63 = .ok (.ifCond .ne 14, 3) := by decide +kernel
theorem dX12_qPartTold_66 : decode cX12_qPartTold 66 = .ok (.aload_n 0, 1) := by decide +kernel
theorem dX12_qPartTold_67 : decode cX12_qPartTold 67 = .ok (.aload_n 0, 1) := by decide +kernel
theorem dX12_qPartTold_68 : decode cX12_qPartTold 68 = .ok (.getfield 200, 3) := by decide +kernel
theorem dX12_qPartTold_71 : decode cX12_qPartTold 71 = .ok (.invokevirtual 259, 3) := by decide +kernel
theorem dX12_qPartTold_74 : decode cX12_qPartTold 74 = .ok (.ifCond .eq 78, 3) := by decide +kernel
theorem dX12_qPartTold_77 : decode cX12_qPartTold 77 = .ok (.aload_n 0, 1) := by decide +kernel
theorem dX12_qPartTold_78 : decode cX12_qPartTold 78 = .ok (.aload_n 0, 1) := by decide +kernel
theorem dX12_qPartTold_79 : decode cX12_qPartTold 79 = .ok (.getfield 197, 3) := by decide +kernel
theorem dX12_qPartTold_82 : decode cX12_qPartTold 82 = .ok (.invokevirtual 263, 3) := by decide +kernel
theorem dX12_qPartTold_85 : decode cX12_qPartTold 85 = .ok (.istore 4, 2) := by decide +kernel
theorem dX12_qPartTold_87 : decode cX12_qPartTold 87 = .ok (.iload 4, 2) := by decide +kernel
theorem dX12_qPartTold_89 : decode cX12_qPartTold 89 = .ok (.ifCond .ne 11, 3) := by decide +kernel
theorem dX12_qPartTold_92 : decode cX12_qPartTold 92 = .ok (.aload_n 0, 1) := by decide +kernel
theorem dX12_qPartTold_93 : decode cX12_qPartTold 93 = .ok (.aload_n 0, 1) := by decide +kernel
theorem dX12_qPartTold_94 : decode cX12_qPartTold 94 = .ok (.getfield 200, 3) := by decide +kernel
theorem dX12_qPartTold_97 : decode cX12_qPartTold 97 = .ok (.invokevirtual 302, 3) := by decide +kernel
theorem dX12_qPartTold_100 : decode cX12_qPartTold 100 = .ok (.aload_n 0, 1) := by decide +kernel
theorem dX12_qPartTold_101 : decode cX12_qPartTold 101 = .ok (.invokevirtual 248, 3) := by decide +kernel
theorem dX12_qPartTold_104 : decode cX12_qPartTold 104 = .ok (.bipush 40, 2) := by decide +kernel
theorem dX12_qPartTold_106 : decode cX12_qPartTold 106 = .ok (.if_icmp .ne 10, 3) := by decide +kernel
theorem dX12_qPartTold_109 : decode cX12_qPartTold 109 = .ok (.aload_n 0, 1) := by decide +kernel
theorem dX12_qPartTold_110 : decode cX12_qPartTold 110 = .ok (.getfield 242, 3) := by decide +kernel
theorem dX12_qPartTold_113 : decode cX12_qPartTold 113 = .ok (.goto 4, 3) := by decide +kernel
theorem dX12_qPartTold_116 : decode cX12_qPartTold 116 = .ok (.iconst (-1), 1) := by decide +kernel
theorem dX12_qPartTold_117 : decode cX12_qPartTold 117 = .ok (.istore 5, 2) := by decide +kernel
theorem dX12_qPartTold_119 : decode cX12_qPartTold 119 = .ok (.iload 5, 2) := by decide +kernel
theorem dX12_qPartTold_121 : decode cX12_qPartTold 121 = .ok (.iconst (-1), 1) := by decide +kernel
theorem dX12_qPartTold_122 : decode cX12_qPartTold 122 = .ok (.if_icmp .eq 21, 3) := by decide +kernel
theorem dX12_qPartTold_125 : decode cX12_qPartTold 125 = .ok (.aload_n 0, 1) := by decide +kernel
theorem dX12_qPartTold_126 : decode cX12_qPartTold 126 = .ok (.iload 4, 2) := by decide +kernel
theorem dX12_qPartTold_128 : decode cX12_qPartTold 128 = .ok (.ifCond .eq 8, 3) := by decide +kernel
theorem dX12_qPartTold_131 : decode cX12_qPartTold 131 = .ok (.bipush 21, 2) := by decide +kernel
theorem dX12_qPartTold_133 : decode cX12_qPartTold 133 = .ok (.goto 5, 3) := by decide +kernel
theorem dX12_qPartTold_136 : decode cX12_qPartTold 136 = .ok (.bipush 22, 2) := by decide +kernel
theorem dX12_qPartTold_138 : decode cX12_qPartTold 138 = .ok (.iload 5, 2) := by decide +kernel
theorem dX12_qPartTold_140 : decode cX12_qPartTold 140 = .ok (.invokevirtual 624, 3) := by decide +kernel
theorem dX12_qPartTold_143 : decode cX12_qPartTold 143 = .ok (.aload_n 0, 1) := by decide +kernel
theorem dX12_qPartTold_144 : decode cX12_qPartTold 144 = .ok (.bipush 40, 2) := by decide +kernel
theorem dX12_qPartTold_146 : decode cX12_qPartTold 146 = .ok (.invokevirtual 347, 3) := by decide +kernel
theorem dX12_qPartTold_149 : decode cX12_qPartTold 149 = .ok (.goto 32, 3) := by decide +kernel
theorem dX12_qPartTold_152 : decode cX12_qPartTold 152 = .ok (.iload_n 3, 1) := by decide +kernel
theorem dX12_qPartTold_153 : decode cX12_qPartTold 153 = .ok (.iconst (-1), 1) := by decide +kernel
theorem dX12_qPartTold_154 : decode cX12_qPartTold 154 = .ok (.if_icmp .eq 25, 3) := by decide +kernel
theorem dX12_qPartTold_157 : decode cX12_qPartTold 157 = .ok (.aload_n 0, 1) := by decide +kernel
theorem dX12_qPartTold_158 : decode cX12_qPartTold 158 = .ok (.bipush 60, 2) := by decide +kernel
theorem dX12_qPartTold_160 : decode cX12_qPartTold 160 = .ok (.iload_n 3, 1) := by decide +kernel
theorem dX12_qPartTold_161 : decode cX12_qPartTold 161 = .ok (.iadd, 1) := by decide +kernel
theorem dX12_qPartTold_162 : decode cX12_qPartTold 162 = .ok (.iconst 5, 1) := by decide +kernel
theorem dX12_qPartTold_163 : decode cX12_qPartTold 163 = .ok (.isub, 1) := by decide +kernel
theorem dX12_qPartTold_164 : decode cX12_qPartTold 164 = .ok (.aload_n 0, 1) := by decide +kernel
theorem dX12_qPartTold_165 : decode cX12_qPartTold 165 = .ok (.getfield 242, 3) := by decide +kernel
theorem dX12_qPartTold_168 : decode cX12_qPartTold 168 = .ok (.invokevirtual 624, 3) := by decide +kernel
theorem dX12_qPartTold_171 : decode cX12_qPartTold 171 = .ok (.aload_n 0, 1) := by decide +kernel
theorem dX12_qPartTold_172 : decode cX12_qPartTold 172 = .ok (.iload_n 3, 1) := by decide +kernel
theorem dX12_qPartTold_173 : decode cX12_qPartTold 173 = .ok (.invokevirtual 627, 3) := by decide +kernel
theorem dX12_qPartTold_176 : decode cX12_qPartTold 176 = .ok (.goto 5, 3) := by decide +kernel
theorem dX12_qPartTold_179 : decode cX12_qPartTold 179 = .ok (.iconst 0, 1) := by decide +kernel
theorem dX12_qPartTold_180 : decode cX12_qPartTold 180 = .ok (.istore_n 1, 1) := by decide +kernel
theorem dX12_qPartTold_181 : decode cX12_qPartTold 181 = .ok (.goto (-179), 3) := by decide +kernel
theorem dX12_qPartTold_184 : decode cX12_qPartTold 184 = .ok (.aload_n 0, 1) := by decide +kernel
theorem dX12_qPartTold_185 : decode cX12_qPartTold 185 = .ok (.getfield 236, 3) := by decide +kernel
theorem dX12_qPartTold_188 : decode cX12_qPartTold 188 = .ok (.ifCond .eq 4, 3) := by decide +kernel
theorem dX12_qPartTold_191 : decode cX12_qPartTold 191 = .ok (.return_, 1) := by decide +kernel
theorem dX12_qPartTold_192 : decode cX12_qPartTold 192 = .ok (.aload_n 0, 1) := by decide +kernel
theorem dX12_qPartTold_193 : decode cX12_qPartTold 193 = .ok (.iconst 0, 1) := by decide +kernel
theorem dX12_qPartTold_194 : decode cX12_qPartTold 194 = .ok (.iconst 5, 1) := by decide +kernel
theorem dX12_qPartTold_195 : decode cX12_qPartTold 195 = .ok (.invokevirtual 621, 3) := by decide +kernel
theorem dX12_qPartTold_198 : decode cX12_qPartTold 198 = .ok (.istore_n 2, 1) := by decide +kernel
theorem dX12_qPartTold_199 : decode cX12_qPartTold 199 = .ok (.iload_n 2, 1) := by decide +kernel
theorem dX12_qPartTold_200 : decode cX12_qPartTold 200 = .ok (.iconst (-1), 1) := by decide +kernel
theorem dX12_qPartTold_201 : decode cX12_qPartTold 201 = .ok (.if_icmp .eq 8, 3) := by decide +kernel
theorem dX12_qPartTold_204 : decode cX12_qPartTold 204 = .ok (.aload_n 0, 1) := by decide +kernel
theorem dX12_qPartTold_205 : decode cX12_qPartTold 205 = .ok (.iload_n 2, 1) := by decide +kernel
theorem dX12_qPartTold_206 : decode cX12_qPartTold 206 = .ok (.invokevirtual 627, 3) := by decide +kernel
theorem dX12_qPartTold_209 : decode cX12_qPartTold 209 = .ok (.aload_n 0, 1) := by decide +kernel
theorem dX12_qPartTold_210 : decode cX12_qPartTold 210 = .ok (.iload_n 2, 1) := by decide +kernel
theorem dX12_qPartTold_211 : decode cX12_qPartTold 211 = .ok (.iconst (-1), 1) := by decide +kernel
theorem dX12_qPartTold_212 : decode cX12_qPartTold 212 = .ok (.if_icmp .eq 10, 3) := by decide +kernel
theorem dX12_qPartTold_215 : decode cX12_qPartTold 215 = .ok (.bipush 40, 2) := by decide +kernel
theorem dX12_qPartTold_217 : decode cX12_qPartTold 217 = .ok (.iload_n 2, 1) := by decide +kernel
theorem dX12_qPartTold_218 : decode cX12_qPartTold 218 = .ok (.iadd, 1) := by decide +kernel
theorem dX12_qPartTold_219 : decode cX12_qPartTold 219 = .ok (.goto 15, 3) := by decide +kernel
theorem dX12_qPartTold_222 : decode cX12_qPartTold 222 = .ok (.sipush 1000, 3) := by decide +kernel
theorem dX12_qPartTold_225 : decode cX12_qPartTold 225 = .ok (.aload_n 0, 1) := by decide +kernel
theorem dX12_qPartTold_226 : decode cX12_qPartTold 226 = .ok (.iconst 0, 1) := by decide +kernel
theorem dX12_qPartTold_227 : decode cX12_qPartTold 227 = .ok (.sipush 9999, 3) := by decide +kernel
theorem dX12_qPartTold_230 : decode cX12_qPartTold 230 = .ok (.invokevirtual 306, 3) := by decide +kernel
theorem dX12_qPartTold_233 : decode cX12_qPartTold 233 = .ok (.iadd, 1) := by decide +kernel
theorem dX12_qPartTold_234 : decode cX12_qPartTold 234 = .ok (.invokevirtual 606, 3) := by decide +kernel
theorem dX12_qPartTold_237 : decode cX12_qPartTold 237 = .ok (.aload_n 0, 1) := by decide +kernel
theorem dX12_qPartTold_238 : decode cX12_qPartTold 238 = .ok (.invokevirtual 630, 3) := by decide +kernel
theorem dX12_qPartTold_241 : decode cX12_qPartTold 241 = .ok (.return_, 1) := by decide +kernel
theorem dX12_qGoesOn_0 : decode cX12_qGoesOn 0 = .ok (.aload_n 0, 1) := by decide +kernel
theorem dX12_qGoesOn_1 : decode cX12_qGoesOn 1 = .ok (.getfield 236, 3) := by decide +kernel
theorem dX12_qGoesOn_4 : decode cX12_qGoesOn 4 = .ok (.ifCond .ne 118, 3) := by decide +kernel
theorem dX12_qGoesOn_7 : decode cX12_qGoesOn 7 = .ok (.aload_n 0, 1) := by decide +kernel
theorem dX12_qGoesOn_8 : decode cX12_qGoesOn 8 = .ok (.invokevirtual 248, 3) := by decide +kernel
theorem dX12_qGoesOn_11 : decode cX12_qGoesOn 11 = .ok (.bipush 41, 2) := by decide +kernel
theorem dX12_qGoesOn_13 : decode cX12_qGoesOn 13 = .ok (.if_icmp .ne 109, 3) := by decide +kernel
theorem dX12_qGoesOn_16 : decode cX12_qGoesOn 16 = .ok (.aload_n 0, 1) := by decide +kernel
theorem dX12_qGoesOn_17 : decode cX12_qGoesOn 17 = .ok (.invokevirtual 633, 3) := by decide +kernel
theorem dX12_qGoesOn_20 : decode cX12_qGoesOn 20 = .ok (.bipush 20, 2) := by decide +kernel
theorem dX12_qGoesOn_22 : decode cX12_qGoesOn 22 = .ok (.if_icmp .eq 21, 3) := by decide +kernel
theorem dX12_qGoesOn_25 : decode cX12_qGoesOn 25 = .ok (.aload_n 0, 1) := by decide +kernel
theorem dX12_qGoesOn_26 : decode cX12_qGoesOn 26 = .ok (.invokevirtual 633, 3) := by decide +kernel
theorem dX12_qGoesOn_29 : decode cX12_qGoesOn 29 = .ok (.bipush 23, 2) := by decide +kernel
theorem dX12_qGoesOn_31 : decode cX12_qGoesOn 31 = .ok (.if_icmp .eq 12, 3) := by decide +kernel
theorem dX12_qGoesOn_34 : decode cX12_qGoesOn 34 = .ok (.aload_n 0, 1) := by decide +kernel
theorem dX12_qGoesOn_35 : decode cX12_qGoesOn 35 = .ok (.invokevirtual 633, 3) := by decide +kernel
theorem dX12_qGoesOn_38 : decode cX12_qGoesOn 38 = .ok (.bipush 24, 2) := by decide +kernel
theorem dX12_qGoesOn_40 : decode cX12_qGoesOn 40 = .ok (.if_icmp .ne 82, 3) := by decide +kernel
theorem dX12_qGoesOn_43 : decode cX12_qGoesOn 43 = .ok (.aload_n 0, 1) := by decide +kernel
theorem dX12_qGoesOn_44 : decode cX12_qGoesOn 44 = .ok (.dup, 1) := by decide +kernel
theorem dX12_qGoesOn_45 : decode cX12_qGoesOn 45 = .ok (.getfield 242, 3) := by decide +kernel
theorem dX12_qGoesOn_48 : decode cX12_qGoesOn 48 = .ok (.iconst 1, 1) := by decide +kernel
theorem dX12_qGoesOn_49 : decode cX12_qGoesOn 49 = .ok (.iadd, 1) := by decide +kernel
theorem dX12_qGoesOn_50 : decode cX12_qGoesOn 50 = .ok (.putfield 242, 3) := by decide +kernel
theorem dX12_qGoesOn_53 : decode cX12_qGoesOn 53 = .ok (.aload_n 0, 1) := by decide +kernel
theorem dX12_qGoesOn_54 : decode cX12_qGoesOn 54 = .ok (.invokevirtual 636, 3) := by decide +kernel
theorem dX12_qGoesOn_57 : decode cX12_qGoesOn 57 = .ok (.aload_n 0, 1) := by decide +kernel
theorem dX12_qGoesOn_58 : decode cX12_qGoesOn 58 = .ok (.dup, 1) := by decide +kernel
theorem dX12_qGoesOn_59 : decode cX12_qGoesOn 59 = .ok (.getfield 603, 3) := by decide +kernel
theorem dX12_qGoesOn_62 : decode cX12_qGoesOn 62 = .ok (.iconst 1, 1) := by decide +kernel
theorem dX12_qGoesOn_63 : decode cX12_qGoesOn 63 = .ok (.isub, 1) := by decide +kernel
theorem dX12_qGoesOn_64 : decode cX12_qGoesOn 64 = .ok (.putfield 603, 3) := by decide +kernel
theorem dX12_qGoesOn_67 : decode cX12_qGoesOn 67 = .ok (.aload_n 0, 1) := by decide +kernel
theorem dX12_qGoesOn_68 : decode cX12_qGoesOn 68 = .ok (.dup, 1) := by decide +kernel
theorem dX12_qGoesOn_69 : decode cX12_qGoesOn 69 = .ok (.getfield 600, 3) := by decide +kernel
theorem dX12_qGoesOn_72 : decode cX12_qGoesOn 72 = .ok (.iconst 1, 1) := by decide +kernel
theorem dX12_qGoesOn_73 : decode cX12_qGoesOn 73 = .ok (.isub, 1) := by decide +kernel
theorem dX12_qGoesOn_74 : decode cX12_qGoesOn 74 = .ok (.putfield 600, 3) := by decide +kernel
theorem dX12_qGoesOn_77 : decode cX12_qGoesOn 77 = .ok (.aload_n 0, 1) := by decide +kernel
theorem dX12_qGoesOn_78 : decode cX12_qGoesOn 78 = .ok (.getfield 224, 3) := by decide +kernel
theorem dX12_qGoesOn_81 : decode cX12_qGoesOn 81 = .ok (.aload_n 0, 1) := by decide +kernel
theorem dX12_qGoesOn_82 : decode cX12_qGoesOn 82 = .ok (.getfield 603, 3) := by decide +kernel
theorem dX12_qGoesOn_85 : decode cX12_qGoesOn 85 = .ok (.iaload, 1) := by decide +kernel
theorem dX12_qGoesOn_86 : decode cX12_qGoesOn 86 = .ok (.bipush 20, 2) := by decide +kernel
theorem dX12_qGoesOn_88 : decode cX12_qGoesOn 88 = .ok (.if_icmp .eq 27, 3) := by decide +kernel
theorem dX12_qGoesOn_91 : decode cX12_qGoesOn 91 = .ok (.aload_n 0, 1) := by decide +kernel
theorem dX12_qGoesOn_92 : decode cX12_qGoesOn 92 = .ok (.aload_n 0, 1) := by decide +kernel
theorem dX12_qGoesOn_93 : decode cX12_qGoesOn 93 = .ok (.getfield 224, 3) := by decide +kernel
theorem dX12_qGoesOn_96 : decode cX12_qGoesOn 96 = .ok (.aload_n 0, 1) := by decide +kernel
theorem dX12_qGoesOn_97 : decode cX12_qGoesOn 97 = .ok (.getfield 603, 3) := by decide +kernel
theorem dX12_qGoesOn_100 : decode cX12_qGoesOn 100 = .ok (.iaload, 1) := by decide +kernel
theorem dX12_qGoesOn_101 : decode cX12_qGoesOn 101 = .ok (.bipush 23, 2) := by decide +kernel
theorem dX12_qGoesOn_103 : decode cX12_qGoesOn 103 = .ok (.if_icmp .ne 7, 3) := by decide +kernel
theorem dX12_qGoesOn_106 : decode cX12_qGoesOn 106 = .ok (.iconst 5, 1) := by decide +kernel
theorem dX12_qGoesOn_107 : decode cX12_qGoesOn 107 = .ok (.goto 5, 3) := by decide +kernel
theorem dX12_qGoesOn_110 : decode cX12_qGoesOn 110 = .ok (.bipush 6, 2) := by decide +kernel
theorem dX12_qGoesOn_112 : decode cX12_qGoesOn 112 = .ok (.invokevirtual 606, 3) := by decide +kernel
theorem dX12_qGoesOn_115 : decode cX12_qGoesOn 115 = .ok (.aload_n 0, 1) := by decide +kernel
theorem dX12_qGoesOn_116 : decode cX12_qGoesOn 116 = .ok (.invokevirtual 630, 3) := by decide +kernel
theorem dX12_qGoesOn_119 : decode cX12_qGoesOn 119 = .ok (.goto (-119), 3) := by decide +kernel
theorem dX12_qGoesOn_122 : decode cX12_qGoesOn 122 = .ok (.aload_n 0, 1) := by decide +kernel
theorem dX12_qGoesOn_123 : decode cX12_qGoesOn 123 = .ok (.bipush 42, 2) := by decide +kernel
theorem dX12_qGoesOn_125 : decode cX12_qGoesOn 125 = .ok (.invokevirtual 270, 3) := by decide +kernel
theorem dX12_qGoesOn_128 : decode cX12_qGoesOn 128 = .ok (.ifCond .ne 12, 3) := by decide +kernel
theorem dX12_qGoesOn_131 : decode cX12_qGoesOn 131 = .ok (.aload_n 0, 1) := by decide +kernel
theorem dX12_qGoesOn_132 : decode cX12_qGoesOn 132 = .ok (.bipush 47, 2) := by decide +kernel
theorem dX12_qGoesOn_134 : decode cX12_qGoesOn 134 = .ok (.invokevirtual 270, 3) := by decide +kernel
theorem dX12_qGoesOn_137 : decode cX12_qGoesOn 137 = .ok (.ifCond .eq 70, 3) := by decide +kernel
theorem dX12_qGoesOn_140 : decode cX12_qGoesOn 140 = .ok (.aload_n 0, 1) := by decide +kernel
theorem dX12_qGoesOn_141 : decode cX12_qGoesOn 141 = .ok (.getfield 7, 3) := by decide +kernel
theorem dX12_qGoesOn_144 : decode cX12_qGoesOn 144 = .ok (.aload_n 0, 1) := by decide +kernel
theorem dX12_qGoesOn_145 : decode cX12_qGoesOn 145 = .ok (.getfield 242, 3) := by decide +kernel
theorem dX12_qGoesOn_148 : decode cX12_qGoesOn 148 = .ok (.iconst 1, 1) := by decide +kernel
theorem dX12_qGoesOn_149 : decode cX12_qGoesOn 149 = .ok (.isub, 1) := by decide +kernel
theorem dX12_qGoesOn_150 : decode cX12_qGoesOn 150 = .ok (.iaload, 1) := by decide +kernel
theorem dX12_qGoesOn_151 : decode cX12_qGoesOn 151 = .ok (.bipush 42, 2) := by decide +kernel
theorem dX12_qGoesOn_153 : decode cX12_qGoesOn 153 = .ok (.if_icmp .ne 7, 3) := by decide +kernel
theorem dX12_qGoesOn_156 : decode cX12_qGoesOn 156 = .ok (.iconst 3, 1) := by decide +kernel
theorem dX12_qGoesOn_157 : decode cX12_qGoesOn 157 = .ok (.goto 4, 3) := by decide +kernel
theorem dX12_qGoesOn_160 : decode cX12_qGoesOn 160 = .ok (.iconst 4, 1) := by decide +kernel
theorem dX12_qGoesOn_161 : decode cX12_qGoesOn 161 = .ok (.istore_n 1, 1) := by decide +kernel
theorem dX12_qGoesOn_162 : decode cX12_qGoesOn 162 = .ok (.aload_n 0, 1) := by decide +kernel
theorem dX12_qGoesOn_163 : decode cX12_qGoesOn 163 = .ok (.iconst 3, 1) := by decide +kernel
theorem dX12_qGoesOn_164 : decode cX12_qGoesOn 164 = .ok (.invokevirtual 639, 3) := by decide +kernel
theorem dX12_qGoesOn_167 : decode cX12_qGoesOn 167 = .ok (.ifCond .ne 11, 3) := by decide +kernel
theorem dX12_qGoesOn_170 : decode cX12_qGoesOn 170 = .ok (.aload_n 0, 1) := by decide +kernel
theorem dX12_qGoesOn_171 : decode cX12_qGoesOn 171 = .ok (.iconst 4, 1) := by decide +kernel
theorem dX12_qGoesOn_172 : decode cX12_qGoesOn 172 = .ok (.invokevirtual 639, 3) := by decide +kernel
theorem dX12_qGoesOn_175 : decode cX12_qGoesOn 175 = .ok (.ifCond .eq 10, 3) := by decide +kernel
theorem dX12_qGoesOn_178 : decode cX12_qGoesOn 178 = .ok (.aload_n 0, 1) := by decide +kernel
theorem dX12_qGoesOn_179 : decode cX12_qGoesOn 179 = .ok (.invokevirtual 615, 3) := by decide +kernel
theorem dX12_qGoesOn_182 : decode cX12_qGoesOn 182 = .ok (.goto (-20), 3) := by decide +kernel
theorem dX12_qGoesOn_185 : decode cX12_qGoesOn 185 = .ok (.aload_n 0, 1) := by decide +kernel
theorem dX12_qGoesOn_186 : decode cX12_qGoesOn 186 = .ok (.getfield 224, 3) := by decide +kernel
theorem dX12_qGoesOn_189 : decode cX12_qGoesOn 189 = .ok (.aload_n 0, 1) := by decide +kernel
theorem dX12_qGoesOn_190 : decode cX12_qGoesOn 190 = .ok (.getfield 603, 3) := by decide +kernel
theorem dX12_qGoesOn_193 : decode cX12_qGoesOn 193 = .ok (.iload_n 1, 1) := by decide +kernel
theorem dX12_qGoesOn_194 : decode cX12_qGoesOn 194 = .ok (.iastore, 1) := by decide +kernel
theorem dX12_qGoesOn_195 : decode cX12_qGoesOn 195 = .ok (.aload_n 0, 1) := by decide +kernel
theorem dX12_qGoesOn_196 : decode cX12_qGoesOn 196 = .ok (.dup, 1) := by decide +kernel
theorem dX12_qGoesOn_197 : decode cX12_qGoesOn 197 = .ok (.getfield 603, 3) := by decide +kernel
theorem dX12_qGoesOn_200 : decode cX12_qGoesOn 200 = .ok (.iconst 1, 1) := by decide +kernel
theorem dX12_qGoesOn_201 : decode cX12_qGoesOn 201 = .ok (.iadd, 1) := by decide +kernel
theorem dX12_qGoesOn_202 : decode cX12_qGoesOn 202 = .ok (.putfield 603, 3) := by decide +kernel
theorem dX12_qGoesOn_205 : decode cX12_qGoesOn 205 = .ok (.iconst 1, 1) := by decide +kernel
theorem dX12_qGoesOn_206 : decode cX12_qGoesOn 206 = .ok (.ireturn, 1) := by decide +kernel
theorem dX12_qGoesOn_207 : decode cX12_qGoesOn 207 = .ok (.aload_n 0, 1) := by decide +kernel
theorem dX12_qGoesOn_208 : decode cX12_qGoesOn 208 = .ok (.bipush 43, 2) := by decide +kernel
theorem dX12_qGoesOn_210 : decode cX12_qGoesOn 210 = .ok (.invokevirtual 270, 3) := by decide +kernel
theorem dX12_qGoesOn_213 : decode cX12_qGoesOn 213 = .ok (.ifCond .ne 12, 3) := by decide +kernel
theorem dX12_qGoesOn_216 : decode cX12_qGoesOn 216 = .ok (.aload_n 0, 1) := by decide +kernel
theorem dX12_qGoesOn_217 : decode cX12_qGoesOn 217 = .ok (.bipush 45, 2) := by decide +kernel
theorem dX12_qGoesOn_219 : decode cX12_qGoesOn 219 = .ok (.invokevirtual 270, 3) := by decide +kernel
theorem dX12_qGoesOn_222 : decode cX12_qGoesOn 222 = .ok (.ifCond .eq 86, 3) := by decide +kernel
theorem dX12_qGoesOn_225 : decode cX12_qGoesOn 225 = .ok (.aload_n 0, 1) := by decide +kernel
theorem dX12_qGoesOn_226 : decode cX12_qGoesOn 226 = .ok (.getfield 7, 3) := by decide +kernel
theorem dX12_qGoesOn_229 : decode cX12_qGoesOn 229 = .ok (.aload_n 0, 1) := by decide +kernel
theorem dX12_qGoesOn_230 : decode cX12_qGoesOn 230 = .ok (.getfield 242, 3) := by decide +kernel
theorem dX12_qGoesOn_233 : decode cX12_qGoesOn 233 = .ok (.iconst 1, 1) := by decide +kernel
theorem dX12_qGoesOn_234 : decode cX12_qGoesOn 234 = .ok (.isub, 1) := by decide +kernel
theorem dX12_qGoesOn_235 : decode cX12_qGoesOn 235 = .ok (.iaload, 1) := by decide +kernel
theorem dX12_qGoesOn_236 : decode cX12_qGoesOn 236 = .ok (.bipush 43, 2) := by decide +kernel
theorem dX12_qGoesOn_238 : decode cX12_qGoesOn 238 = .ok (.if_icmp .ne 7, 3) := by decide +kernel
theorem dX12_qGoesOn_241 : decode cX12_qGoesOn 241 = .ok (.iconst 1, 1) := by decide +kernel
theorem dX12_qGoesOn_242 : decode cX12_qGoesOn 242 = .ok (.goto 4, 3) := by decide +kernel
theorem dX12_qGoesOn_245 : decode cX12_qGoesOn 245 = .ok (.iconst 2, 1) := by decide +kernel
theorem dX12_qGoesOn_246 : decode cX12_qGoesOn 246 = .ok (.istore_n 1, 1) := by decide +kernel
theorem dX12_qGoesOn_247 : decode cX12_qGoesOn 247 = .ok (.aload_n 0, 1) := by decide +kernel
theorem dX12_qGoesOn_248 : decode cX12_qGoesOn 248 = .ok (.iconst 3, 1) := by decide +kernel
theorem dX12_qGoesOn_249 : decode cX12_qGoesOn 249 = .ok (.invokevirtual 639, 3) := by decide +kernel
theorem dX12_qGoesOn_252 : decode cX12_qGoesOn 252 = .ok (.ifCond .ne 27, 3) := by decide +kernel
theorem dX12_qGoesOn_255 : decode cX12_qGoesOn 255 = .ok (.aload_n 0, 1) := by decide +kernel
theorem dX12_qGoesOn_256 : decode cX12_qGoesOn 256 = .ok (.iconst 4, 1) := by decide +kernel
theorem dX12_qGoesOn_257 : decode cX12_qGoesOn 257 = .ok (.invokevirtual 639, 3) := by decide +kernel
theorem dX12_qGoesOn_260 : decode cX12_qGoesOn 260 = .ok (.ifCond .ne 19, 3) := by decide +kernel
theorem dX12_qGoesOn_263 : decode cX12_qGoesOn 263 = .ok (.aload_n 0, 1) := by decide +kernel
theorem dX12_qGoesOn_264 : decode cX12_qGoesOn 264 = .ok (.iconst 1, 1) := by decide +kernel
theorem dX12_qGoesOn_265 : decode cX12_qGoesOn 265 = .ok (.invokevirtual 639, 3) := by decide +kernel
theorem dX12_qGoesOn_268 : decode cX12_qGoesOn 268 = .ok (.ifCond .ne 11, 3) := by decide +kernel
theorem dX12_qGoesOn_271 : decode cX12_qGoesOn 271 = .ok (.aload_n 0, 1) := by decide +kernel
theorem dX12_qGoesOn_272 : decode cX12_qGoesOn 272 = .ok (.iconst 2, 1) := by decide +kernel
theorem dX12_qGoesOn_273 : decode cX12_qGoesOn 273 = .ok (.invokevirtual 639, 3) := by decide +kernel
theorem dX12_qGoesOn_276 : decode cX12_qGoesOn 276 = .ok (.ifCond .eq 10, 3) := by decide +kernel
theorem dX12_qGoesOn_279 : decode cX12_qGoesOn 279 = .ok (.aload_n 0, 1) := by decide +kernel
theorem dX12_qGoesOn_280 : decode cX12_qGoesOn 280 = .ok (.invokevirtual 615, 3) := by decide +kernel
theorem dX12_qGoesOn_283 : decode cX12_qGoesOn 283 = .ok (.goto (-36), 3) := by decide +kernel
theorem dX12_qGoesOn_286 : decode cX12_qGoesOn 286 = .ok (.aload_n 0, 1) := by decide +kernel
theorem dX12_qGoesOn_287 : decode cX12_qGoesOn 287 = .ok (.getfield 224, 3) := by decide +kernel
theorem dX12_qGoesOn_290 : decode cX12_qGoesOn 290 = .ok (.aload_n 0, 1) := by decide +kernel
theorem dX12_qGoesOn_291 : decode cX12_qGoesOn 291 = .ok (.getfield 603, 3) := by decide +kernel
theorem dX12_qGoesOn_294 : decode cX12_qGoesOn 294 = .ok (.iload_n 1, 1) := by decide +kernel
theorem dX12_qGoesOn_295 : decode cX12_qGoesOn 295 = .ok (.iastore, 1) := by decide +kernel
theorem dX12_qGoesOn_296 : decode cX12_qGoesOn 296 = .ok (.aload_n 0, 1) := by decide +kernel
theorem dX12_qGoesOn_297 : decode cX12_qGoesOn 297 = .ok (.dup, 1) := by decide +kernel
theorem dX12_qGoesOn_298 : decode cX12_qGoesOn 298 = .ok (.getfield 603, 3) := by decide +kernel
theorem dX12_qGoesOn_301 : decode cX12_qGoesOn 301 = .ok (.iconst 1, 1) := by decide +kernel
theorem dX12_qGoesOn_302 : decode cX12_qGoesOn 302 = .ok (.iadd, 1) := by decide +kernel
theorem dX12_qGoesOn_303 : decode cX12_qGoesOn 303 = .ok (.putfield 603, 3) := by decide +kernel
theorem dX12_qGoesOn_306 : decode cX12_qGoesOn 306 = .ok (.iconst 1, 1) := by decide +kernel
theorem dX12_qGoesOn_307 : decode cX12_qGoesOn 307 = .ok (.ireturn, 1) := by decide +kernel
theorem dX12_qGoesOn_308 : decode cX12_qGoesOn 308 = .ok (.aload_n 0, 1) := by decide +kernel
theorem dX12_qGoesOn_309 : decode cX12_qGoesOn 309 = .ok (.invokevirtual 633, 3) := by decide +kernel
theorem dX12_qGoesOn_312 : decode cX12_qGoesOn 312 = .ok (.bipush 21, 2) := by decide +kernel
theorem dX12_qGoesOn_314 : decode cX12_qGoesOn 314 = .ok (.if_icmp .eq 12, 3) := by decide +kernel
theorem dX12_qGoesOn_317 : decode cX12_qGoesOn 317 = .ok (.aload_n 0, 1) := by decide +kernel
theorem dX12_qGoesOn_318 : decode cX12_qGoesOn 318 = .ok (.invokevirtual 633, 3) := by decide +kernel
theorem dX12_qGoesOn_321 : decode cX12_qGoesOn 321 = .ok (.bipush 22, 2) := by decide +kernel
theorem dX12_qGoesOn_323 : decode cX12_qGoesOn 323 = .ok (.if_icmp .ne 39, 3) := by decide +kernel
theorem dX12_qGoesOn_326 : decode cX12_qGoesOn 326 = .ok (.aload_n 0, 1) := by decide +kernel
theorem dX12_qGoesOn_327 : decode cX12_qGoesOn 327 = .ok (.bipush 44, 2) := by decide +kernel
theorem dX12_qGoesOn_329 : decode cX12_qGoesOn 329 = .ok (.invokevirtual 347, 3) := by decide +kernel
theorem dX12_qGoesOn_332 : decode cX12_qGoesOn 332 = .ok (.aload_n 0, 1) := by decide +kernel
theorem dX12_qGoesOn_333 : decode cX12_qGoesOn 333 = .ok (.getfield 236, 3) := by decide +kernel
theorem dX12_qGoesOn_336 : decode cX12_qGoesOn 336 = .ok (.ifCond .eq 5, 3) := by decide +kernel
theorem dX12_qGoesOn_339 : decode cX12_qGoesOn 339 = .ok (.iconst 0, 1) := by decide +kernel
theorem dX12_qGoesOn_340 : decode cX12_qGoesOn 340 = .ok (.ireturn, 1) := by decide +kernel
theorem dX12_qGoesOn_341 : decode cX12_qGoesOn 341 = .ok (.aload_n 0, 1) := by decide +kernel
theorem dX12_qGoesOn_342 : decode cX12_qGoesOn 342 = .ok (.invokevirtual 636, 3) := by decide +kernel
theorem dX12_qGoesOn_345 : decode cX12_qGoesOn 345 = .ok (.aload_n 0, 1) := by decide +kernel
theorem dX12_qGoesOn_346 : decode cX12_qGoesOn 346 = .ok (.getfield 224, 3) := by decide +kernel
theorem dX12_qGoesOn_349 : decode cX12_qGoesOn 349 = .ok (.aload_n 0, 1) := by decide +kernel
theorem dX12_qGoesOn_350 : decode cX12_qGoesOn 350 = .ok (.getfield 603, 3) := by decide +kernel
theorem dX12_qGoesOn_353 : decode cX12_qGoesOn 353 = .ok (.iconst 1, 1) := by decide +kernel
theorem dX12_qGoesOn_354 : decode cX12_qGoesOn 354 = .ok (.isub, 1) := by decide +kernel
theorem dX12_qGoesOn_355 : decode cX12_qGoesOn 355 = .ok (.dup2, 1) := by decide +kernel
theorem dX12_qGoesOn_356 : decode cX12_qGoesOn 356 = .ok (.iaload, 1) := by decide +kernel
theorem dX12_qGoesOn_357 : decode cX12_qGoesOn 357 = .ok (.iconst 2, 1) := by decide +kernel
theorem dX12_qGoesOn_358 : decode cX12_qGoesOn 358 = .ok (.iadd, 1) := by decide +kernel
theorem dX12_qGoesOn_359 : decode cX12_qGoesOn 359 = .ok (.iastore, 1) := by decide +kernel
theorem dX12_qGoesOn_360 : decode cX12_qGoesOn 360 = .ok (.iconst 1, 1) := by decide +kernel
theorem dX12_qGoesOn_361 : decode cX12_qGoesOn 361 = .ok (.ireturn, 1) := by decide +kernel
theorem dX12_qGoesOn_362 : decode cX12_qGoesOn 362 = .ok (.aload_n 0, 1) := by decide +kernel
theorem dX12_qGoesOn_363 : decode cX12_qGoesOn 363 = .ok (.invokevirtual 633, 3) := by decide +kernel
theorem dX12_qGoesOn_366 : decode cX12_qGoesOn 366 = .ok (.iconst (-1), 1) := by decide +kernel
theorem dX12_qGoesOn_367 : decode cX12_qGoesOn 367 = .ok (.if_icmp .eq 19, 3) := by decide +kernel
theorem dX12_qGoesOn_370 : decode cX12_qGoesOn 370 = .ok (.aload_n 0, 1) := by decide +kernel
theorem dX12_qGoesOn_371 : decode cX12_qGoesOn 371 = .ok (.getfield 236, 3) := by decide +kernel
theorem dX12_qGoesOn_374 : decode cX12_qGoesOn 374 = .ok (.ifCond .ne 12, 3) := by decide +kernel
theorem dX12_qGoesOn_377 : decode cX12_qGoesOn 377 = .ok (.aload_n 0, 1) := by decide +kernel
theorem dX12_qGoesOn_378 : decode cX12_qGoesOn 378 = .ok (.iconst 1, 1) := by decide +kernel
theorem dX12_qGoesOn_379 : decode cX12_qGoesOn 379 = .ok (.aload_n 0, 1) := by decide +kernel
theorem dX12_qGoesOn_380 : decode cX12_qGoesOn 380 = .ok (.getfield 242, 3) := by decide +kernel
theorem dX12_qGoesOn_383 : decode cX12_qGoesOn 383 = .ok (.invokevirtual 266, 3) := by decide +kernel
theorem dX12_qGoesOn_386 : decode cX12_qGoesOn 386 = .ok (.iconst 0, 1) := by decide +kernel
theorem dX12_qGoesOn_387 : decode cX12_qGoesOn 387 = .ok (.ireturn, 1) := by decide +kernel
theorem dX12_qSums_0 : decode cX12_qSums 0 = .ok (.aload_n 0, 1) := by decide +kernel
theorem dX12_qSums_1 : decode cX12_qSums 1 = .ok (.getfield 609, 3) := by decide +kernel
theorem dX12_qSums_4 : decode cX12_qSums 4 = .ok (.istore_n 1, 1) := by decide +kernel
theorem dX12_qSums_5 : decode cX12_qSums 5 = .ok (.aload_n 0, 1) := by decide +kernel
theorem dX12_qSums_6 : decode cX12_qSums 6 = .ok (.aload_n 0, 1) := by decide +kernel
theorem dX12_qSums_7 : decode cX12_qSums 7 = .ok (.getfield 603, 3) := by decide +kernel
theorem dX12_qSums_10 : decode cX12_qSums 10 = .ok (.putfield 609, 3) := by decide +kernel
theorem dX12_qSums_13 : decode cX12_qSums 13 = .ok (.iconst 1, 1) := by decide +kernel
theorem dX12_qSums_14 : decode cX12_qSums 14 = .ok (.istore_n 2, 1) := by decide +kernel
theorem dX12_qSums_15 : decode cX12_qSums 15 = .ok (.iload_n 2, 1) := by decide +kernel
theorem dX12_qSums_16 : decode cX12_qSums 16 = .ok (.ifCond .eq 37, 3) := by decide +kernel
theorem dX12_qSums_19 : decode cX12_qSums 19 = .ok (.aload_n 0, 1) := by decide +kernel
theorem dX12_qSums_20 : decode cX12_qSums 20 = .ok (.getfield 236, 3) := by decide +kernel
theorem dX12_qSums_23 : decode cX12_qSums 23 = .ok (.ifCond .ne 30, 3) := by decide +kernel
theorem dX12_qSums_26 : decode cX12_qSums 26 = .ok (.aload_n 0, 1) := by decide +kernel
theorem dX12_qSums_27 : decode cX12_qSums 27 = .ok (.invokevirtual 642, 3) := by decide +kernel
theorem dX12_qSums_30 : decode cX12_qSums 30 = .ok (.aload_n 0, 1) := by decide +kernel
theorem dX12_qSums_31 : decode cX12_qSums 31 = .ok (.getfield 236, 3) := by decide +kernel
theorem dX12_qSums_34 : decode cX12_qSums 34 = .ok (.ifCond .ne 14, 3) := by decide +kernel
theorem dX12_qSums_37 : decode cX12_qSums 37 = .ok (.aload_n 0, 1) := by decide +kernel
theorem dX12_qSums_38 : decode cX12_qSums 38 = .ok (.invokevirtual 645, 3) := by decide +kernel
theorem dX12_qSums_41 : decode cX12_qSums 41 = .ok (.ifCond .eq 7, 3) := by decide +kernel
theorem dX12_qSums_44 : decode cX12_qSums 44 = .ok (.iconst 1, 1) := by decide +kernel
theorem dX12_qSums_45 : decode cX12_qSums 45 = .ok (.goto 4, 3) := by decide +kernel
theorem dX12_qSums_48 : decode cX12_qSums 48 = .ok (.iconst 0, 1) := by decide +kernel
theorem dX12_qSums_49 : decode cX12_qSums 49 = .ok (.istore_n 2, 1) := by decide +kernel
theorem dX12_qSums_50 : decode cX12_qSums 50 = .ok (.goto (-35), 3) := by decide +kernel
theorem dX12_qSums_53 : decode cX12_qSums 53 = .ok (.aload_n 0, 1) := by decide +kernel
theorem dX12_qSums_54 : decode cX12_qSums 54 = .ok (.getfield 236, 3) := by decide +kernel
theorem dX12_qSums_57 : decode cX12_qSums 57 = .ok (.ifCond .ne 21, 3) := by decide +kernel
theorem dX12_qSums_60 : decode cX12_qSums 60 = .ok (.aload_n 0, 1) := by decide +kernel
theorem dX12_qSums_61 : decode cX12_qSums 61 = .ok (.getfield 603, 3) := by decide +kernel
theorem dX12_qSums_64 : decode cX12_qSums 64 = .ok (.aload_n 0, 1) := by decide +kernel
theorem dX12_qSums_65 : decode cX12_qSums 65 = .ok (.getfield 609, 3) := by decide +kernel
theorem dX12_qSums_68 : decode cX12_qSums 68 = .ok (.if_icmp .le 10, 3) := by decide +kernel
theorem dX12_qSums_71 : decode cX12_qSums 71 = .ok (.aload_n 0, 1) := by decide +kernel
theorem dX12_qSums_72 : decode cX12_qSums 72 = .ok (.invokevirtual 615, 3) := by decide +kernel
theorem dX12_qSums_75 : decode cX12_qSums 75 = .ok (.goto (-22), 3) := by decide +kernel
theorem dX12_qSums_78 : decode cX12_qSums 78 = .ok (.aload_n 0, 1) := by decide +kernel
theorem dX12_qSums_79 : decode cX12_qSums 79 = .ok (.iload_n 1, 1) := by decide +kernel
theorem dX12_qSums_80 : decode cX12_qSums 80 = .ok (.putfield 609, 3) := by decide +kernel
theorem dX12_qSums_83 : decode cX12_qSums 83 = .ok (.return_, 1) := by decide +kernel
theorem dX12_qFact_0 : decode cX12_qFact 0 = .ok (.aload_n 0, 1) := by decide +kernel
theorem dX12_qFact_1 : decode cX12_qFact 1 = .ok (.aload_n 0, 1) := by decide +kernel
theorem dX12_qFact_2 : decode cX12_qFact 2 = .ok (.getfield 194, 3) := by decide +kernel
theorem dX12_qFact_5 : decode cX12_qFact 5 = .ok (.invokevirtual 263, 3) := by decide +kernel
theorem dX12_qFact_8 : decode cX12_qFact 8 = .ok (.ifCond .eq 10, 3) := by decide +kernel
theorem dX12_qFact_11 : decode cX12_qFact 11 = .ok (.aload_n 0, 1) := by decide +kernel
theorem dX12_qFact_12 : decode cX12_qFact 12 = .ok (.bipush 13, 2) := by decide +kernel
theorem dX12_qFact_14 : decode cX12_qFact 14 = .ok (.invokevirtual 606, 3) := by decide +kernel
theorem dX12_qFact_17 : decode cX12_qFact 17 = .ok (.return_, 1) := by decide +kernel
theorem dX12_qFact_18 : decode cX12_qFact 18 = .ok (.aload_n 0, 1) := by decide +kernel
theorem dX12_qFact_19 : decode cX12_qFact 19 = .ok (.invokevirtual 648, 3) := by decide +kernel
theorem dX12_qFact_22 : decode cX12_qFact 22 = .ok (.aload_n 0, 1) := by decide +kernel
theorem dX12_qFact_23 : decode cX12_qFact 23 = .ok (.getfield 236, 3) := by decide +kernel
theorem dX12_qFact_26 : decode cX12_qFact 26 = .ok (.ifCond .eq 4, 3) := by decide +kernel
theorem dX12_qFact_29 : decode cX12_qFact 29 = .ok (.return_, 1) := by decide +kernel
theorem dX12_qFact_30 : decode cX12_qFact 30 = .ok (.aload_n 0, 1) := by decide +kernel
theorem dX12_qFact_31 : decode cX12_qFact 31 = .ok (.invokevirtual 248, 3) := by decide +kernel
theorem dX12_qFact_34 : decode cX12_qFact 34 = .ok (.istore_n 1, 1) := by decide +kernel
theorem dX12_qFact_35 : decode cX12_qFact 35 = .ok (.iload_n 1, 1) := by decide +kernel
theorem dX12_qFact_36 : decode cX12_qFact 36 = .ok (.bipush 60, 2) := by decide +kernel
theorem dX12_qFact_38 : decode cX12_qFact 38 = .ok (.if_icmp .eq 25, 3) := by decide +kernel
theorem dX12_qFact_41 : decode cX12_qFact 41 = .ok (.iload_n 1, 1) := by decide +kernel
theorem dX12_qFact_42 : decode cX12_qFact 42 = .ok (.bipush 62, 2) := by decide +kernel
theorem dX12_qFact_44 : decode cX12_qFact 44 = .ok (.if_icmp .eq 19, 3) := by decide +kernel
theorem dX12_qFact_47 : decode cX12_qFact 47 = .ok (.iload_n 1, 1) := by decide +kernel
theorem dX12_qFact_48 : decode cX12_qFact 48 = .ok (.bipush 61, 2) := by decide +kernel
theorem dX12_qFact_50 : decode cX12_qFact 50 = .ok (.if_icmp .eq 13, 3) := by decide +kernel
theorem dX12_qFact_53 : decode cX12_qFact 53 = .ok (.aload_n 0, 1) := by decide +kernel
theorem dX12_qFact_54 : decode cX12_qFact 54 = .ok (.iconst 1, 1) := by decide +kernel
theorem dX12_qFact_55 : decode cX12_qFact 55 = .ok (.aload_n 0, 1) := by decide +kernel
theorem dX12_qFact_56 : decode cX12_qFact 56 = .ok (.getfield 242, 3) := by decide +kernel
theorem dX12_qFact_59 : decode cX12_qFact 59 = .ok (.invokevirtual 266, 3) := by decide +kernel
theorem dX12_qFact_62 : decode cX12_qFact 62 = .ok (.return_, 1) := by decide +kernel
theorem dX12_qFact_63 : decode cX12_qFact 63 = .ok (.aload_n 0, 1) := by decide +kernel
theorem dX12_qFact_64 : decode cX12_qFact 64 = .ok (.dup, 1) := by decide +kernel
theorem dX12_qFact_65 : decode cX12_qFact 65 = .ok (.getfield 242, 3) := by decide +kernel
theorem dX12_qFact_68 : decode cX12_qFact 68 = .ok (.iconst 1, 1) := by decide +kernel
theorem dX12_qFact_69 : decode cX12_qFact 69 = .ok (.iadd, 1) := by decide +kernel
theorem dX12_qFact_70 : decode cX12_qFact 70 = .ok (.putfield 242, 3) := by decide +kernel
theorem dX12_qFact_73 : decode cX12_qFact 73 = .ok (.aload_n 0, 1) := by decide +kernel
theorem dX12_qFact_74 : decode cX12_qFact 74 = .ok (.invokevirtual 648, 3) := by decide +kernel
theorem dX12_qFact_77 : decode cX12_qFact 77 = .ok (.aload_n 0, 1) := by decide +kernel
theorem dX12_qFact_78 : decode cX12_qFact 78 = .ok (.iload_n 1, 1) := by decide +kernel
theorem dX12_qFact_79 : decode cX12_qFact 79 = .ok (.bipush 60, 2) := by decide +kernel
theorem dX12_qFact_81 : decode cX12_qFact 81 = .ok (.if_icmp .ne 8, 3) := by decide +kernel
theorem dX12_qFact_84 : decode cX12_qFact 84 = .ok (.bipush 7, 2) := by decide +kernel
theorem dX12_qFact_86 : decode cX12_qFact 86 = .ok (.goto 16, 3) := by decide +kernel
theorem dX12_qFact_89 : decode cX12_qFact 89 = .ok (.iload_n 1, 1) := by decide +kernel
theorem dX12_qFact_90 : decode cX12_qFact 90 = .ok (.bipush 62, 2) := by decide +kernel
theorem dX12_qFact_92 : decode cX12_qFact 92 = .ok (.if_icmp .ne 8, 3) := by decide +kernel
theorem dX12_qFact_95 : decode cX12_qFact 95 = .ok (.bipush 8, 2) := by decide +kernel
theorem dX12_qFact_97 : decode cX12_qFact 97 = .ok (.goto 5, 3) := by decide +kernel
theorem dX12_qFact_100 : decode cX12_qFact 100 = .ok (.bipush 9, 2) := by decide +kernel
theorem dX12_qFact_102 : decode cX12_qFact 102 = .ok (.invokevirtual 606, 3) := by decide +kernel
theorem dX12_qFact_105 : decode cX12_qFact 105 = .ok (.return_, 1) := by decide +kernel
theorem dX12_qHasSquare_0 : decode cX12_qHasSquare 0 = .ok (.iconst 0, 1) := by decide +kernel
theorem dX12_qHasSquare_1 : decode cX12_qHasSquare 1 = .ok (.istore_n 1, 1) := by decide +kernel
theorem dX12_qHasSquare_2 : decode cX12_qHasSquare 2 = .ok (.iload_n 1, 1) := by decide +kernel
theorem dX12_qHasSquare_3 : decode cX12_qHasSquare 3 = .ok (.aload_n 0, 1) := by decide +kernel
theorem dX12_qHasSquare_4 : decode cX12_qHasSquare 4 = .ok (.getfield 603, 3) := by decide +kernel
theorem dX12_qHasSquare_7 : decode cX12_qHasSquare 7 = .ok (.if_icmp .ge 22, 3) := by decide +kernel
theorem dX12_qHasSquare_10 : decode cX12_qHasSquare 10 = .ok (.aload_n 0, 1) := by decide +kernel
theorem dX12_qHasSquare_11 : decode cX12_qHasSquare 11 = .ok (.getfield 224, 3) := by decide +kernel
theorem dX12_qHasSquare_14 : decode cX12_qHasSquare 14 = .ok (.iload_n 1, 1) := by decide +kernel
theorem dX12_qHasSquare_15 : decode cX12_qHasSquare 15 = .ok (.iaload, 1) := by decide +kernel
theorem dX12_qHasSquare_16 : decode cX12_qHasSquare 16 = .ok (.bipush 25, 2) := by decide +kernel
theorem dX12_qHasSquare_18 : decode cX12_qHasSquare 18 = .ok (.if_icmp .ne 5, 3) := by decide +kernel
theorem dX12_qHasSquare_21 : decode cX12_qHasSquare 21 = .ok (.iconst 1, 1) := by decide +kernel
theorem dX12_qHasSquare_22 : decode cX12_qHasSquare 22 = .ok (.ireturn, 1) := by decide +kernel
theorem dX12_qHasSquare_23 : decode cX12_qHasSquare 23 = .ok (.iinc 1 1, 3) := by decide +kernel
theorem dX12_qHasSquare_26 : decode cX12_qHasSquare 26 = .ok (.goto (-24), 3) := by decide +kernel
theorem dX12_qHasSquare_29 : decode cX12_qHasSquare 29 = .ok (.iconst 0, 1) := by decide +kernel
theorem dX12_qHasSquare_30 : decode cX12_qHasSquare 30 = .ok (.ireturn, 1) := by decide +kernel
theorem dX12_qDropsNots_0 : decode cX12_qDropsNots 0 = .ok (.aload_n 0, 1) := by decide +kernel
theorem dX12_qDropsNots_1 : decode cX12_qDropsNots 1 = .ok (.getfield 236, 3) := by decide +kernel
theorem dX12_qDropsNots_4 : decode cX12_qDropsNots 4 = .ok (.ifCond .ne 29, 3) := by decide +kernel
theorem dX12_qDropsNots_7 : decode cX12_qDropsNots 7 = .ok (.aload_n 0, 1) := by decide +kernel
theorem dX12_qDropsNots_8 : decode cX12_qDropsNots 8 = .ok (.bipush 12, 2) := by decide +kernel
theorem dX12_qDropsNots_10 : decode cX12_qDropsNots 10 = .ok (.invokevirtual 639, 3) := by decide +kernel
theorem dX12_qDropsNots_13 : decode cX12_qDropsNots 13 = .ok (.ifCond .eq 20, 3) := by decide +kernel
theorem dX12_qDropsNots_16 : decode cX12_qDropsNots 16 = .ok (.aload_n 0, 1) := by decide +kernel
theorem dX12_qDropsNots_17 : decode cX12_qDropsNots 17 = .ok (.dup, 1) := by decide +kernel
theorem dX12_qDropsNots_18 : decode cX12_qDropsNots 18 = .ok (.getfield 600, 3) := by decide +kernel
theorem dX12_qDropsNots_21 : decode cX12_qDropsNots 21 = .ok (.iconst 1, 1) := by decide +kernel
theorem dX12_qDropsNots_22 : decode cX12_qDropsNots 22 = .ok (.isub, 1) := by decide +kernel
theorem dX12_qDropsNots_23 : decode cX12_qDropsNots 23 = .ok (.putfield 600, 3) := by decide +kernel
theorem dX12_qDropsNots_26 : decode cX12_qDropsNots 26 = .ok (.aload_n 0, 1) := by decide +kernel
theorem dX12_qDropsNots_27 : decode cX12_qDropsNots 27 = .ok (.invokevirtual 615, 3) := by decide +kernel
theorem dX12_qDropsNots_30 : decode cX12_qDropsNots 30 = .ok (.goto (-30), 3) := by decide +kernel
theorem dX12_qDropsNots_33 : decode cX12_qDropsNots 33 = .ok (.return_, 1) := by decide +kernel
theorem dX12_qTest_0 : decode cX12_qTest 0 = .ok (.iconst 1, 1) := by decide +kernel
theorem dX12_qTest_1 : decode cX12_qTest 1 = .ok (.istore_n 1, 1) := by decide +kernel
theorem dX12_qTest_2 : decode cX12_qTest 2 = .ok (.iload_n 1, 1) := by decide +kernel
theorem dX12_qTest_3 : decode cX12_qTest 3 = .ok (.ifCond .eq 107, 3) := by decide +kernel
theorem dX12_qTest_6 : decode cX12_qTest 6 = .ok (.aload_n 0, 1) := by decide +kernel
theorem dX12_qTest_7 : decode cX12_qTest 7 = .ok (.getfield 236, 3) := by decide +kernel
theorem dX12_qTest_10 : decode cX12_qTest 10 = .ok (.ifCond .ne 100, 3) := by decide +kernel
theorem dX12_qTest_13 : decode cX12_qTest 13 = .ok (.aload_n 0, 1) := by decide +kernel
theorem dX12_qTest_14 : decode cX12_qTest 14 = .ok (.invokevirtual 248, 3) := by decide +kernel
theorem dX12_qTest_17 : decode cX12_qTest 17 = .ok (.istore_n 2, 1) := by decide +kernel
theorem dX12_qTest_18 : decode cX12_qTest 18 = .ok (.iload_n 2, 1) := by decide +kernel
theorem dX12_qTest_19 : decode cX12_qTest 19 = .ok (.bipush 91, 2) := by decide +kernel
theorem dX12_qTest_21 : decode cX12_qTest 21 = .ok (.if_icmp .ne 26, 3) := by decide +kernel
theorem dX12_qTest_24 : decode cX12_qTest 24 = .ok (.aload_n 0, 1) := by decide +kernel
theorem dX12_qTest_25 : decode cX12_qTest 25 = .ok (.bipush 25, 2) := by decide +kernel
theorem dX12_qTest_27 : decode cX12_qTest 27 = .ok (.aload_n 0, 1) := by decide +kernel
theorem dX12_qTest_28 : decode cX12_qTest 28 = .ok (.getfield 242, 3) := by decide +kernel
theorem dX12_qTest_31 : decode cX12_qTest 31 = .ok (.invokevirtual 624, 3) := by decide +kernel
theorem dX12_qTest_34 : decode cX12_qTest 34 = .ok (.aload_n 0, 1) := by decide +kernel
theorem dX12_qTest_35 : decode cX12_qTest 35 = .ok (.dup, 1) := by decide +kernel
theorem dX12_qTest_36 : decode cX12_qTest 36 = .ok (.getfield 242, 3) := by decide +kernel
theorem dX12_qTest_39 : decode cX12_qTest 39 = .ok (.iconst 1, 1) := by decide +kernel
theorem dX12_qTest_40 : decode cX12_qTest 40 = .ok (.iadd, 1) := by decide +kernel
theorem dX12_qTest_41 : decode cX12_qTest 41 = .ok (.putfield 242, 3) := by decide +kernel
theorem dX12_qTest_44 : decode cX12_qTest 44 = .ok (.goto (-42), 3) := by decide +kernel
theorem dX12_qTest_47 : decode cX12_qTest 47 = .ok (.aload_n 0, 1) := by decide +kernel
theorem dX12_qTest_48 : decode cX12_qTest 48 = .ok (.aload_n 0, 1) := by decide +kernel
theorem dX12_qTest_49 : decode cX12_qTest 49 = .ok (.getfield 185, 3) := by decide +kernel
theorem dX12_qTest_52 : decode cX12_qTest 52 = .ok (.invokevirtual 259, 3) := by decide +kernel
theorem dX12_qTest_55 : decode cX12_qTest 55 = .ok (.ifCond .eq 24, 3) := by decide +kernel
theorem dX12_qTest_58 : decode cX12_qTest 58 = .ok (.aload_n 0, 1) := by decide +kernel
theorem dX12_qTest_59 : decode cX12_qTest 59 = .ok (.bipush 12, 2) := by decide +kernel
theorem dX12_qTest_61 : decode cX12_qTest 61 = .ok (.aload_n 0, 1) := by decide +kernel
theorem dX12_qTest_62 : decode cX12_qTest 62 = .ok (.getfield 242, 3) := by decide +kernel
theorem dX12_qTest_65 : decode cX12_qTest 65 = .ok (.invokevirtual 624, 3) := by decide +kernel
theorem dX12_qTest_68 : decode cX12_qTest 68 = .ok (.aload_n 0, 1) := by decide +kernel
theorem dX12_qTest_69 : decode cX12_qTest 69 = .ok (.aload_n 0, 1) := by decide +kernel
theorem dX12_qTest_70 : decode cX12_qTest 70 = .ok (.getfield 185, 3) := by decide +kernel
theorem dX12_qTest_73 : decode cX12_qTest 73 = .ok (.invokevirtual 302, 3) := by decide +kernel
theorem dX12_qTest_76 : decode cX12_qTest 76 = .ok (.goto (-74), 3) := by decide +kernel
theorem dX12_qTest_79 : decode cX12_qTest 79 = .ok (.aload_n 0, 1) := by decide +kernel
theorem dX12_qTest_80 : decode cX12_qTest 80 = .ok (.invokevirtual 651, 3) := by decide +kernel
theorem dX12_qTest_83 : decode cX12_qTest 83 = .ok (.aload_n 0, 1) := by decide +kernel
theorem dX12_qTest_84 : decode cX12_qTest 84 = .ok (.invokevirtual 654, 3) := by decide +kernel
theorem dX12_qTest_87 : decode cX12_qTest 87 = .ok (.aload_n 0, 1) := by decide +kernel
theorem dX12_qTest_88 : decode cX12_qTest 88 = .ok (.getfield 236, 3) := by decide +kernel
theorem dX12_qTest_91 : decode cX12_qTest 91 = .ok (.ifCond .ne 14, 3) := by decide +kernel
theorem dX12_qTest_94 : decode cX12_qTest 94 = .ok (.aload_n 0, 1) := by decide +kernel
theorem dX12_qTest_95 : decode cX12_qTest 95 = .ok (.invokevirtual 657, 3) := by decide +kernel
theorem dX12_qTest_98 : decode cX12_qTest 98 = .ok (.ifCond .eq 7, 3) := by decide +kernel
theorem dX12_qTest_101 : decode cX12_qTest 101 = .ok (.iconst 1, 1) := by decide +kernel
theorem dX12_qTest_102 : decode cX12_qTest 102 = .ok (.goto 4, 3) := by decide +kernel
theorem dX12_qTest_105 : decode cX12_qTest 105 = .ok (.iconst 0, 1) := by decide +kernel
theorem dX12_qTest_106 : decode cX12_qTest 106 = .ok (.istore_n 1, 1) := by decide +kernel
theorem dX12_qTest_107 : decode cX12_qTest 107 = .ok (.goto (-105), 3) := by decide +kernel
theorem dX12_qTest_110 : decode cX12_qTest 110 = .ok (.aload_n 0, 1) := by decide +kernel
theorem dX12_qTest_111 : decode cX12_qTest 111 = .ok (.getfield 236, 3) := by decide +kernel
theorem dX12_qTest_114 : decode cX12_qTest 114 = .ok (.ifCond .ne 17, 3) := by decide +kernel
theorem dX12_qTest_117 : decode cX12_qTest 117 = .ok (.aload_n 0, 1) := by decide +kernel
theorem dX12_qTest_118 : decode cX12_qTest 118 = .ok (.getfield 603, 3) := by decide +kernel
theorem dX12_qTest_121 : decode cX12_qTest 121 = .ok (.ifCond .le 10, 3) := by decide +kernel
theorem dX12_qTest_124 : decode cX12_qTest 124 = .ok (.aload_n 0, 1) := by decide +kernel
theorem dX12_qTest_125 : decode cX12_qTest 125 = .ok (.invokevirtual 615, 3) := by decide +kernel
theorem dX12_qTest_128 : decode cX12_qTest 128 = .ok (.goto (-18), 3) := by decide +kernel
theorem dX12_qTest_131 : decode cX12_qTest 131 = .ok (.return_, 1) := by decide +kernel
theorem dX12_qGoesOnTest_0 : decode cX12_qGoesOnTest 0 = .ok (.aload_n 0, 1) := by decide +kernel
theorem dX12_qGoesOnTest_1 : decode cX12_qGoesOnTest 1 = .ok (.getfield 236, 3) := by decide +kernel
theorem dX12_qGoesOnTest_4 : decode cX12_qGoesOnTest 4 = .ok (.ifCond .ne 72, 3) := by decide +kernel
theorem dX12_qGoesOnTest_7 : decode cX12_qGoesOnTest 7 = .ok (.aload_n 0, 1) := by decide +kernel
theorem dX12_qGoesOnTest_8 : decode cX12_qGoesOnTest 8 = .ok (.invokevirtual 248, 3) := by decide +kernel
theorem dX12_qGoesOnTest_11 : decode cX12_qGoesOnTest 11 = .ok (.bipush 93, 2) := by decide +kernel
theorem dX12_qGoesOnTest_13 : decode cX12_qGoesOnTest 13 = .ok (.if_icmp .ne 63, 3) := by decide +kernel
theorem dX12_qGoesOnTest_16 : decode cX12_qGoesOnTest 16 = .ok (.aload_n 0, 1) := by decide +kernel
theorem dX12_qGoesOnTest_17 : decode cX12_qGoesOnTest 17 = .ok (.invokevirtual 660, 3) := by decide +kernel
theorem dX12_qGoesOnTest_20 : decode cX12_qGoesOnTest 20 = .ok (.ifCond .eq 56, 3) := by decide +kernel
theorem dX12_qGoesOnTest_23 : decode cX12_qGoesOnTest 23 = .ok (.aload_n 0, 1) := by decide +kernel
theorem dX12_qGoesOnTest_24 : decode cX12_qGoesOnTest 24 = .ok (.dup, 1) := by decide +kernel
theorem dX12_qGoesOnTest_25 : decode cX12_qGoesOnTest 25 = .ok (.getfield 242, 3) := by decide +kernel
theorem dX12_qGoesOnTest_28 : decode cX12_qGoesOnTest 28 = .ok (.iconst 1, 1) := by decide +kernel
theorem dX12_qGoesOnTest_29 : decode cX12_qGoesOnTest 29 = .ok (.iadd, 1) := by decide +kernel
theorem dX12_qGoesOnTest_30 : decode cX12_qGoesOnTest 30 = .ok (.putfield 242, 3) := by decide +kernel
theorem dX12_qGoesOnTest_33 : decode cX12_qGoesOnTest 33 = .ok (.aload_n 0, 1) := by decide +kernel
theorem dX12_qGoesOnTest_34 : decode cX12_qGoesOnTest 34 = .ok (.bipush 25, 2) := by decide +kernel
theorem dX12_qGoesOnTest_36 : decode cX12_qGoesOnTest 36 = .ok (.invokevirtual 639, 3) := by decide +kernel
theorem dX12_qGoesOnTest_39 : decode cX12_qGoesOnTest 39 = .ok (.ifCond .ne 10, 3) := by decide +kernel
theorem dX12_qGoesOnTest_42 : decode cX12_qGoesOnTest 42 = .ok (.aload_n 0, 1) := by decide +kernel
theorem dX12_qGoesOnTest_43 : decode cX12_qGoesOnTest 43 = .ok (.invokevirtual 615, 3) := by decide +kernel
theorem dX12_qGoesOnTest_46 : decode cX12_qGoesOnTest 46 = .ok (.goto (-13), 3) := by decide +kernel
theorem dX12_qGoesOnTest_49 : decode cX12_qGoesOnTest 49 = .ok (.aload_n 0, 1) := by decide +kernel
theorem dX12_qGoesOnTest_50 : decode cX12_qGoesOnTest 50 = .ok (.dup, 1) := by decide +kernel
theorem dX12_qGoesOnTest_51 : decode cX12_qGoesOnTest 51 = .ok (.getfield 603, 3) := by decide +kernel
theorem dX12_qGoesOnTest_54 : decode cX12_qGoesOnTest 54 = .ok (.iconst 1, 1) := by decide +kernel
theorem dX12_qGoesOnTest_55 : decode cX12_qGoesOnTest 55 = .ok (.isub, 1) := by decide +kernel
theorem dX12_qGoesOnTest_56 : decode cX12_qGoesOnTest 56 = .ok (.putfield 603, 3) := by decide +kernel
theorem dX12_qGoesOnTest_59 : decode cX12_qGoesOnTest 59 = .ok (.aload_n 0, 1) := by decide +kernel
theorem dX12_qGoesOnTest_60 : decode cX12_qGoesOnTest 60 = .ok (.dup, 1) := by decide +kernel
theorem dX12_qGoesOnTest_61 : decode cX12_qGoesOnTest 61 = .ok (.getfield 600, 3) := by decide +kernel
theorem dX12_qGoesOnTest_64 : decode cX12_qGoesOnTest 64 = .ok (.iconst 1, 1) := by decide +kernel
theorem dX12_qGoesOnTest_65 : decode cX12_qGoesOnTest 65 = .ok (.isub, 1) := by decide +kernel
theorem dX12_qGoesOnTest_66 : decode cX12_qGoesOnTest 66 = .ok (.putfield 600, 3) := by decide +kernel
theorem dX12_qGoesOnTest_69 : decode cX12_qGoesOnTest 69 = .ok (.aload_n 0, 1) := by decide +kernel
theorem dX12_qGoesOnTest_70 : decode cX12_qGoesOnTest 70 = .ok (.invokevirtual 654, 3) := by decide +kernel
theorem dX12_qGoesOnTest_73 : decode cX12_qGoesOnTest 73 = .ok (.goto (-73), 3) := by decide +kernel
theorem dX12_qGoesOnTest_76 : decode cX12_qGoesOnTest 76 = .ok (.aload_n 0, 1) := by decide +kernel
theorem dX12_qGoesOnTest_77 : decode cX12_qGoesOnTest 77 = .ok (.aload_n 0, 1) := by decide +kernel
theorem dX12_qGoesOnTest_78 : decode cX12_qGoesOnTest 78 = .ok (.getfield 188, 3) := by decide +kernel
theorem dX12_qGoesOnTest_81 : decode cX12_qGoesOnTest 81 = .ok (.invokevirtual 263, 3) := by decide +kernel
theorem dX12_qGoesOnTest_84 : decode cX12_qGoesOnTest 84 = .ok (.ifCond .eq 42, 3) := by decide +kernel
theorem dX12_qGoesOnTest_87 : decode cX12_qGoesOnTest 87 = .ok (.aload_n 0, 1) := by decide +kernel
theorem dX12_qGoesOnTest_88 : decode cX12_qGoesOnTest 88 = .ok (.bipush 10, 2) := by decide +kernel
theorem dX12_qGoesOnTest_90 : decode cX12_qGoesOnTest 90 = .ok (.invokevirtual 639, 3) := by decide +kernel
theorem dX12_qGoesOnTest_93 : decode cX12_qGoesOnTest 93 = .ok (.ifCond .eq 10, 3) := by decide +kernel
theorem dX12_qGoesOnTest_96 : decode cX12_qGoesOnTest 96 = .ok (.aload_n 0, 1) := by decide +kernel
theorem dX12_qGoesOnTest_97 : decode cX12_qGoesOnTest 97 = .ok (.invokevirtual 615, 3) := by decide +kernel
theorem dX12_qGoesOnTest_100 : decode cX12_qGoesOnTest 100 = .ok (.goto (-13), 3) := by decide +kernel
theorem dX12_qGoesOnTest_103 : decode cX12_qGoesOnTest 103 = .ok (.aload_n 0, 1) := by decide +kernel
theorem dX12_qGoesOnTest_104 : decode cX12_qGoesOnTest 104 = .ok (.getfield 224, 3) := by decide +kernel
theorem dX12_qGoesOnTest_107 : decode cX12_qGoesOnTest 107 = .ok (.aload_n 0, 1) := by decide +kernel
theorem dX12_qGoesOnTest_108 : decode cX12_qGoesOnTest 108 = .ok (.getfield 603, 3) := by decide +kernel
theorem dX12_qGoesOnTest_111 : decode cX12_qGoesOnTest 111 = .ok (.bipush 10, 2) := by decide +kernel
theorem dX12_qGoesOnTest_113 : decode cX12_qGoesOnTest 113 = .ok (.iastore, 1) := by decide +kernel
theorem dX12_qGoesOnTest_114 : decode cX12_qGoesOnTest 114 = .ok (.aload_n 0, 1) := by decide +kernel
theorem dX12_qGoesOnTest_115 : decode cX12_qGoesOnTest 115 = .ok (.dup, 1) := by decide +kernel
theorem dX12_qGoesOnTest_116 : decode cX12_qGoesOnTest 116 = .ok (.getfield 603, 3) := by decide +kernel
theorem dX12_qGoesOnTest_119 : decode cX12_qGoesOnTest 119 = .ok (.iconst 1, 1) := by decide +kernel
theorem dX12_qGoesOnTest_120 : decode cX12_qGoesOnTest 120 = .ok (.iadd, 1) := by decide +kernel
theorem dX12_qGoesOnTest_121 : decode cX12_qGoesOnTest 121 = .ok (.putfield 603, 3) := by decide +kernel
theorem dX12_qGoesOnTest_124 : decode cX12_qGoesOnTest 124 = .ok (.iconst 1, 1) := by decide +kernel
theorem dX12_qGoesOnTest_125 : decode cX12_qGoesOnTest 125 = .ok (.ireturn, 1) := by decide +kernel
theorem dX12_qGoesOnTest_126 : decode cX12_qGoesOnTest 126 = .ok (.aload_n 0, 1) := by decide +kernel
theorem dX12_qGoesOnTest_127 : decode cX12_qGoesOnTest 127 = .ok (.aload_n 0, 1) := by decide +kernel
theorem dX12_qGoesOnTest_128 : decode cX12_qGoesOnTest 128 = .ok (.getfield 191, 3) := by decide +kernel
theorem dX12_qGoesOnTest_131 : decode cX12_qGoesOnTest 131 = .ok (.invokevirtual 263, 3) := by decide +kernel
theorem dX12_qGoesOnTest_134 : decode cX12_qGoesOnTest 134 = .ok (.ifCond .eq 51, 3) := by decide +kernel
theorem dX12_qGoesOnTest_137 : decode cX12_qGoesOnTest 137 = .ok (.aload_n 0, 1) := by decide +kernel
theorem dX12_qGoesOnTest_138 : decode cX12_qGoesOnTest 138 = .ok (.bipush 10, 2) := by decide +kernel
theorem dX12_qGoesOnTest_140 : decode cX12_qGoesOnTest 140 = .ok (.invokevirtual 639, 3) := by decide +kernel
theorem dX12_qGoesOnTest_143 : decode cX12_qGoesOnTest 143 = .ok (.ifCond .ne 12, 3) := by decide +kernel
theorem dX12_qGoesOnTest_146 : decode cX12_qGoesOnTest 146 = .ok (.aload_n 0, 1) := by decide +kernel
theorem dX12_qGoesOnTest_147 : decode cX12_qGoesOnTest 147 = .ok (.bipush 11, 2) := by decide +kernel
theorem dX12_qGoesOnTest_149 : decode cX12_qGoesOnTest 149 = .ok (.invokevirtual 639, 3) := by decide +kernel
theorem dX12_qGoesOnTest_152 : decode cX12_qGoesOnTest 152 = .ok (.ifCond .eq 10, 3) := by decide +kernel
theorem dX12_qGoesOnTest_155 : decode cX12_qGoesOnTest 155 = .ok (.aload_n 0, 1) := by decide +kernel
theorem dX12_qGoesOnTest_156 : decode cX12_qGoesOnTest 156 = .ok (.invokevirtual 615, 3) := by decide +kernel
theorem dX12_qGoesOnTest_159 : decode cX12_qGoesOnTest 159 = .ok (.goto (-22), 3) := by decide +kernel
theorem dX12_qGoesOnTest_162 : decode cX12_qGoesOnTest 162 = .ok (.aload_n 0, 1) := by decide +kernel
theorem dX12_qGoesOnTest_163 : decode cX12_qGoesOnTest 163 = .ok (.getfield 224, 3) := by decide +kernel
theorem dX12_qGoesOnTest_166 : decode cX12_qGoesOnTest 166 = .ok (.aload_n 0, 1) := by decide +kernel
theorem dX12_qGoesOnTest_167 : decode cX12_qGoesOnTest 167 = .ok (.getfield 603, 3) := by decide +kernel
theorem dX12_qGoesOnTest_170 : decode cX12_qGoesOnTest 170 = .ok (.bipush 11, 2) := by decide +kernel
theorem dX12_qGoesOnTest_172 : decode cX12_qGoesOnTest 172 = .ok (.iastore, 1) := by decide +kernel
theorem dX12_qGoesOnTest_173 : decode cX12_qGoesOnTest 173 = .ok (.aload_n 0, 1) := by decide +kernel
theorem dX12_qGoesOnTest_174 : decode cX12_qGoesOnTest 174 = .ok (.dup, 1) := by decide +kernel
theorem dX12_qGoesOnTest_175 : decode cX12_qGoesOnTest 175 = .ok (.getfield 603, 3) := by decide +kernel
theorem dX12_qGoesOnTest_178 : decode cX12_qGoesOnTest 178 = .ok (.iconst 1, 1) := by decide +kernel
theorem dX12_qGoesOnTest_179 : decode cX12_qGoesOnTest 179 = .ok (.iadd, 1) := by decide +kernel
theorem dX12_qGoesOnTest_180 : decode cX12_qGoesOnTest 180 = .ok (.putfield 603, 3) := by decide +kernel
theorem dX12_qGoesOnTest_183 : decode cX12_qGoesOnTest 183 = .ok (.iconst 1, 1) := by decide +kernel
theorem dX12_qGoesOnTest_184 : decode cX12_qGoesOnTest 184 = .ok (.ireturn, 1) := by decide +kernel
theorem dX12_qGoesOnTest_185 : decode cX12_qGoesOnTest 185 = .ok (.aload_n 0, 1) := by decide +kernel
theorem dX12_qGoesOnTest_186 : decode cX12_qGoesOnTest 186 = .ok (.getfield 236, 3) := by decide +kernel
theorem dX12_qGoesOnTest_189 : decode cX12_qGoesOnTest 189 = .ok (.ifCond .ne 19, 3) := by decide +kernel
theorem dX12_qGoesOnTest_192 : decode cX12_qGoesOnTest 192 = .ok (.aload_n 0, 1) := by decide +kernel
theorem dX12_qGoesOnTest_193 : decode cX12_qGoesOnTest 193 = .ok (.invokevirtual 660, 3) := by decide +kernel
theorem dX12_qGoesOnTest_196 : decode cX12_qGoesOnTest 196 = .ok (.ifCond .eq 12, 3) := by decide +kernel
theorem dX12_qGoesOnTest_199 : decode cX12_qGoesOnTest 199 = .ok (.aload_n 0, 1) := by decide +kernel
theorem dX12_qGoesOnTest_200 : decode cX12_qGoesOnTest 200 = .ok (.iconst 1, 1) := by decide +kernel
theorem dX12_qGoesOnTest_201 : decode cX12_qGoesOnTest 201 = .ok (.aload_n 0, 1) := by decide +kernel
theorem dX12_qGoesOnTest_202 : decode cX12_qGoesOnTest 202 = .ok (.getfield 242, 3) := by decide +kernel
theorem dX12_qGoesOnTest_205 : decode cX12_qGoesOnTest 205 = .ok (.invokevirtual 266, 3) := by decide +kernel
theorem dX12_qGoesOnTest_208 : decode cX12_qGoesOnTest 208 = .ok (.iconst 0, 1) := by decide +kernel
theorem dX12_qGoesOnTest_209 : decode cX12_qGoesOnTest 209 = .ok (.ireturn, 1) := by decide +kernel
theorem dX12_qClip_0 : decode cX12_qClip 0 = .ok (.lload_n 0, 1) := by decide +kernel
theorem dX12_qClip_1 : decode cX12_qClip 1 = .ok (.ldc2_w 389, 3) := by decide +kernel
theorem dX12_qClip_4 : decode cX12_qClip 4 = .ok (.lcmp, 1) := by decide +kernel
theorem dX12_qClip_5 : decode cX12_qClip 5 = .ok (.ifCond .le 9, 3) := by decide +kernel
theorem dX12_qClip_8 : decode cX12_qClip 8 = .ok (.ldc2_w 389, 3) := by decide +kernel
theorem dX12_qClip_11 : decode cX12_qClip 11 = .ok (.goto 18, 3) := by decide +kernel
theorem dX12_qClip_14 : decode cX12_qClip 14 = .ok (.lload_n 0, 1) := by decide +kernel
theorem dX12_qClip_15 : decode cX12_qClip 15 = .ok (.ldc2_w 391, 3) := by decide +kernel
theorem dX12_qClip_18 : decode cX12_qClip 18 = .ok (.lcmp, 1) := by decide +kernel
theorem dX12_qClip_19 : decode cX12_qClip 19 = .ok (.ifCond .ge 9, 3) := by decide +kernel
theorem dX12_qClip_22 : decode cX12_qClip 22 = .ok (.ldc2_w 391, 3) := by decide +kernel
theorem dX12_qClip_25 : decode cX12_qClip 25 = .ok (.goto 4, 3) := by decide +kernel
theorem dX12_qClip_28 : decode cX12_qClip 28 = .ok (.lload_n 0, 1) := by decide +kernel
theorem dX12_qClip_29 : decode cX12_qClip 29 = .ok (.lreturn, 1) := by decide +kernel
theorem dX12_qFloor_0 : decode cX12_qFloor 0 = .ok (.lload_n 2, 1) := by decide +kernel
theorem dX12_qFloor_1 : decode cX12_qFloor 1 = .ok (.lconst 0, 1) := by decide +kernel
theorem dX12_qFloor_2 : decode cX12_qFloor 2 = .ok (.lcmp, 1) := by decide +kernel
theorem dX12_qFloor_3 : decode cX12_qFloor 3 = .ok (.ifCond .ne 5, 3) := by decide +kernel
theorem dX12_qFloor_6 : decode cX12_qFloor 6 = .ok (.lconst 0, 1) := by decide +kernel
theorem dX12_qFloor_7 : decode cX12_qFloor 7 = .ok (.lreturn, 1) := by decide +kernel
theorem dX12_qFloor_8 : decode cX12_qFloor 8 = .ok (.lload_n 0, 1) := by decide +kernel
theorem dX12_qFloor_9 : decode cX12_qFloor 9 = .ok (.lload_n 2, 1) := by decide +kernel
theorem dX12_qFloor_10 : decode cX12_qFloor 10 = .ok (.ldiv, 1) := by decide +kernel
theorem dX12_qFloor_11 : decode cX12_qFloor 11 = .ok (.lstore 4, 2) := by decide +kernel
theorem dX12_qFloor_13 : decode cX12_qFloor 13 = .ok (.lload_n 0, 1) := by decide +kernel
theorem dX12_qFloor_14 : decode cX12_qFloor 14 = .ok (.lload_n 2, 1) := by decide +kernel
theorem dX12_qFloor_15 : decode cX12_qFloor 15 = .ok (.lrem, 1) := by decide +kernel
theorem dX12_qFloor_16 : decode cX12_qFloor 16 = .ok (.lconst 0, 1) := by decide +kernel
theorem dX12_qFloor_17 : decode cX12_qFloor 17 = .ok (.lcmp, 1) := by decide +kernel
theorem dX12_qFloor_18 : decode cX12_qFloor 18 = .ok (.ifCond .eq 35, 3) := by decide +kernel
theorem dX12_qFloor_21 : decode cX12_qFloor 21 = .ok (.lload_n 0, 1) := by decide +kernel
theorem dX12_qFloor_22 : decode cX12_qFloor 22 = .ok (.lconst 0, 1) := by decide +kernel
theorem dX12_qFloor_23 : decode cX12_qFloor 23 = .ok (.lcmp, 1) := by decide +kernel
theorem dX12_qFloor_24 : decode cX12_qFloor 24 = .ok (.ifCond .ge 7, 3) := by decide +kernel
theorem dX12_qFloor_27 : decode cX12_qFloor 27 = .ok (.iconst 1, 1) := by decide +kernel
theorem dX12_qFloor_28 : decode cX12_qFloor 28 = .ok (.goto 4, 3) := by decide +kernel
theorem dX12_qFloor_31 : decode cX12_qFloor 31 = .ok (.iconst 0, 1) := by decide +kernel
theorem dX12_qFloor_32 : decode cX12_qFloor 32 = .ok (.lload_n 2, 1) := by decide +kernel
theorem dX12_qFloor_33 : decode cX12_qFloor 33 = .ok (.lconst 0, 1) := by decide +kernel
theorem dX12_qFloor_34 : decode cX12_qFloor 34 = .ok (.lcmp, 1) := by decide +kernel
theorem dX12_qFloor_35 : decode cX12_qFloor 35 = .ok (.ifCond .ge 7, 3) := by decide +kernel
theorem dX12_qFloor_38 : decode cX12_qFloor 38 = .ok (.iconst 1, 1) := by decide +kernel
theorem dX12_qFloor_39 : decode cX12_qFloor 39 = .ok (.goto 4, 3) := by decide +kernel
theorem dX12_qFloor_42 : decode cX12_qFloor 42 = .ok (.iconst 0, 1) := by decide +kernel
theorem dX12_qFloor_43 : decode cX12_qFloor 43 = .ok (.if_icmp .eq 10, 3) := by decide +kernel
theorem dX12_qFloor_46 : decode cX12_qFloor 46 = .ok (.lload 4, 2) := by decide +kernel
theorem dX12_qFloor_48 : decode cX12_qFloor 48 = .ok (.lconst 1, 1) := by decide +kernel
theorem dX12_qFloor_49 : decode cX12_qFloor 49 = .ok (.lsub, 1) := by decide +kernel
theorem dX12_qFloor_50 : decode cX12_qFloor 50 = .ok (.goto 5, 3) := by decide +kernel
theorem dX12_qFloor_53 : decode cX12_qFloor 53 = .ok (.lload 4, 2) := by decide +kernel
theorem dX12_qFloor_55 : decode cX12_qFloor 55 = .ok (.lreturn, 1) := by decide +kernel
theorem dX12_qPuts_0 : decode cX12_qPuts 0 = .ok (.aload_n 0, 1) := by decide +kernel
theorem dX12_qPuts_1 : decode cX12_qPuts 1 = .ok (.getfield 227, 3) := by decide +kernel
theorem dX12_qPuts_4 : decode cX12_qPuts 4 = .ok (.aload_n 0, 1) := by decide +kernel
theorem dX12_qPuts_5 : decode cX12_qPuts 5 = .ok (.getfield 663, 3) := by decide +kernel
theorem dX12_qPuts_8 : decode cX12_qPuts 8 = .ok (.lload_n 1, 1) := by decide +kernel
theorem dX12_qPuts_9 : decode cX12_qPuts 9 = .ok (.lastore, 1) := by decide +kernel
theorem dX12_qPuts_10 : decode cX12_qPuts 10 = .ok (.aload_n 0, 1) := by decide +kernel
theorem dX12_qPuts_11 : decode cX12_qPuts 11 = .ok (.dup, 1) := by decide +kernel
theorem dX12_qPuts_12 : decode cX12_qPuts 12 = .ok (.getfield 663, 3) := by decide +kernel
theorem dX12_qPuts_15 : decode cX12_qPuts 15 = .ok (.iconst 1, 1) := by decide +kernel
theorem dX12_qPuts_16 : decode cX12_qPuts 16 = .ok (.iadd, 1) := by decide +kernel
theorem dX12_qPuts_17 : decode cX12_qPuts 17 = .ok (.putfield 663, 3) := by decide +kernel
theorem dX12_qPuts_20 : decode cX12_qPuts 20 = .ok (.return_, 1) := by decide +kernel
theorem dX12_qJoins_0 : decode cX12_qJoins 0 = .ok (.aload_n 0, 1) := by decide +kernel
theorem dX12_qJoins_1 : decode cX12_qJoins 1 = .ok (.getfield 227, 3) := by decide +kernel
theorem dX12_qJoins_4 : decode cX12_qJoins 4 = .ok (.aload_n 0, 1) := by decide +kernel
theorem dX12_qJoins_5 : decode cX12_qJoins 5 = .ok (.getfield 663, 3) := by decide +kernel
theorem dX12_qJoins_8 : decode cX12_qJoins 8 = .ok (.iconst 1, 1) := by decide +kernel
theorem dX12_qJoins_9 : decode cX12_qJoins 9 = .ok (.isub, 1) := by decide +kernel
theorem dX12_qJoins_10 : decode cX12_qJoins 10 = .ok (.laload, 1) := by decide +kernel
theorem dX12_qJoins_11 : decode cX12_qJoins 11 = .ok (.lstore_n 2, 1) := by decide +kernel
theorem dX12_qJoins_12 : decode cX12_qJoins 12 = .ok (.aload_n 0, 1) := by decide +kernel
theorem dX12_qJoins_13 : decode cX12_qJoins 13 = .ok (.getfield 227, 3) := by decide +kernel
theorem dX12_qJoins_16 : decode cX12_qJoins 16 = .ok (.aload_n 0, 1) := by decide +kernel
theorem dX12_qJoins_17 : decode cX12_qJoins 17 = .ok (.getfield 663, 3) := by decide +kernel
theorem dX12_qJoins_20 : decode cX12_qJoins 20 = .ok (.iconst 2, 1) := by decide +kernel
theorem dX12_qJoins_21 : decode cX12_qJoins 21 = .ok (.isub, 1) := by decide +kernel
theorem dX12_qJoins_22 : decode cX12_qJoins 22 = .ok (.laload, 1) := by decide +kernel
theorem dX12_qJoins_23 : decode cX12_qJoins 23 = .ok (.lstore 4, 2) := by decide +kernel
theorem dX12_qJoins_25 : decode cX12_qJoins 25 = .ok (.aload_n 0, 1) := by decide +kernel
theorem dX12_qJoins_26 : decode cX12_qJoins 26 = .ok (.dup, 1) := by decide +kernel
theorem dX12_qJoins_27 : decode cX12_qJoins 27 = .ok (.getfield 663, 3) := by decide +kernel
theorem dX12_qJoins_30 : decode cX12_qJoins 30 = .ok (.iconst 2, 1) := by decide +kernel
theorem dX12_qJoins_31 : decode cX12_qJoins 31 = .ok (.isub, 1) := by decide +kernel
theorem dX12_qJoins_32 : decode cX12_qJoins 32 = .ok (.putfield 663, 3) := by decide +kernel
theorem dX12_qJoins_35 : decode cX12_qJoins 35 = .ok (.iload_n 1, 1) := by decide +kernel
theorem dX12_qJoins_36 : decode cX12_qJoins 36 = .ok (.tableswitch 219 1 10 #[56, 70, 84, 98, 111, 131, 151, 170, 189, 208], 56) := by decide +kernel
theorem dX12_qJoins_92 : decode cX12_qJoins 92 = .ok (.aload_n 0, 1) := by decide +kernel
theorem dX12_qJoins_93 : decode cX12_qJoins 93 = .ok (.lload 4, 2) := by decide +kernel
theorem dX12_qJoins_95 : decode cX12_qJoins 95 = .ok (.lload_n 2, 1) := by decide +kernel
theorem dX12_qJoins_96 : decode cX12_qJoins 96 = .ok (.ladd, 1) := by decide +kernel
theorem dX12_qJoins_97 : decode cX12_qJoins 97 = .ok (.invokestatic 666, 3) := by decide +kernel
theorem dX12_qJoins_100 : decode cX12_qJoins 100 = .ok (.invokevirtual 669, 3) := by decide +kernel
theorem dX12_qJoins_103 : decode cX12_qJoins 103 = .ok (.goto 170, 3) := by decide +kernel
theorem dX12_qJoins_106 : decode cX12_qJoins 106 = .ok (.aload_n 0, 1) := by decide +kernel
theorem dX12_qJoins_107 : decode cX12_qJoins 107 = .ok (.lload 4, 2) := by decide +kernel
theorem dX12_qJoins_109 : decode cX12_qJoins 109 = .ok (.lload_n 2, 1) := by decide +kernel
theorem dX12_qJoins_110 : decode cX12_qJoins 110 = .ok (.lsub, 1) := by decide +kernel
theorem dX12_qJoins_111 : decode cX12_qJoins 111 = .ok (.invokestatic 666, 3) := by decide +kernel
theorem dX12_qJoins_114 : decode cX12_qJoins 114 = .ok (.invokevirtual 669, 3) := by decide +kernel
theorem dX12_qJoins_117 : decode cX12_qJoins 117 = .ok (.goto 156, 3) := by decide +kernel
theorem dX12_qJoins_120 : decode cX12_qJoins 120 = .ok (.aload_n 0, 1) := by decide +kernel
theorem dX12_qJoins_121 : decode cX12_qJoins 121 = .ok (.lload 4, 2) := by decide +kernel
theorem dX12_qJoins_123 : decode cX12_qJoins 123 = .ok (.lload_n 2, 1) := by decide +kernel
theorem dX12_qJoins_124 : decode cX12_qJoins 124 = .ok (.lmul, 1) := by decide +kernel
theorem dX12_qJoins_125 : decode cX12_qJoins 125 = .ok (.invokestatic 666, 3) := by decide +kernel
theorem dX12_qJoins_128 : decode cX12_qJoins 128 = .ok (.invokevirtual 669, 3) := by decide +kernel
theorem dX12_qJoins_131 : decode cX12_qJoins 131 = .ok (.goto 142, 3) := by decide +kernel
theorem dX12_qJoins_134 : decode cX12_qJoins 134 = .ok (.aload_n 0, 1) := by decide +kernel
theorem dX12_qJoins_135 : decode cX12_qJoins 135 = .ok (.lload 4, 2) := by decide +kernel
theorem dX12_qJoins_137 : decode cX12_qJoins 137 = .ok (.lload_n 2, 1) := by decide +kernel
theorem dX12_qJoins_138 : decode cX12_qJoins 138 = .ok (.invokestatic 672, 3) := by decide +kernel
theorem dX12_qJoins_141 : decode cX12_qJoins 141 = .ok (.invokevirtual 669, 3) := by decide +kernel
theorem dX12_qJoins_144 : decode cX12_qJoins 144 = .ok (.goto 129, 3) := by decide +kernel
theorem dX12_qJoins_147 : decode cX12_qJoins 147 = .ok (.aload_n 0, 1) := by decide +kernel
theorem dX12_qJoins_148 : decode cX12_qJoins 148 = .ok (.lload 4, 2) := by decide +kernel
theorem dX12_qJoins_150 : decode cX12_qJoins 150 = .ok (.lload_n 2, 1) := by decide +kernel
theorem dX12_qJoins_151 : decode cX12_qJoins 151 = .ok (.lcmp, 1) := by decide +kernel
theorem dX12_qJoins_152 : decode cX12_qJoins 152 = .ok (.ifCond .ge 8, 3) := by decide +kernel
theorem dX12_qJoins_155 : decode cX12_qJoins 155 = .ok (.lload 4, 2) := by decide +kernel
theorem dX12_qJoins_157 : decode cX12_qJoins 157 = .ok (.goto 4, 3) := by decide +kernel
theorem dX12_qJoins_160 : decode cX12_qJoins 160 = .ok (.lload_n 2, 1) := by decide +kernel
theorem dX12_qJoins_161 : decode cX12_qJoins 161 = .ok (.invokevirtual 669, 3) := by decide +kernel
theorem dX12_qJoins_164 : decode cX12_qJoins 164 = .ok (.goto 109, 3) := by decide +kernel
theorem dX12_qJoins_167 : decode cX12_qJoins 167 = .ok (.aload_n 0, 1) := by decide +kernel
theorem dX12_qJoins_168 : decode cX12_qJoins 168 = .ok (.lload 4, 2) := by decide +kernel
theorem dX12_qJoins_170 : decode cX12_qJoins 170 = .ok (.lload_n 2, 1) := by decide +kernel
theorem dX12_qJoins_171 : decode cX12_qJoins 171 = .ok (.lcmp, 1) := by decide +kernel
theorem dX12_qJoins_172 : decode cX12_qJoins 172 = .ok (.ifCond .le 8, 3) := by decide +kernel
theorem dX12_qJoins_175 : decode cX12_qJoins 175 = .ok (.lload 4, 2) := by decide +kernel
theorem dX12_qJoins_177 : decode cX12_qJoins 177 = .ok (.goto 4, 3) := by decide +kernel
theorem dX12_qJoins_180 : decode cX12_qJoins 180 = .ok (.lload_n 2, 1) := by decide +kernel
theorem dX12_qJoins_181 : decode cX12_qJoins 181 = .ok (.invokevirtual 669, 3) := by decide +kernel
theorem dX12_qJoins_184 : decode cX12_qJoins 184 = .ok (.goto 89, 3) := by decide +kernel
theorem dX12_qJoins_187 : decode cX12_qJoins 187 = .ok (.aload_n 0, 1) := by decide +kernel
theorem dX12_qJoins_188 : decode cX12_qJoins 188 = .ok (.lload 4, 2) := by decide +kernel
theorem dX12_qJoins_190 : decode cX12_qJoins 190 = .ok (.lload_n 2, 1) := by decide +kernel
theorem dX12_qJoins_191 : decode cX12_qJoins 191 = .ok (.lcmp, 1) := by decide +kernel
theorem dX12_qJoins_192 : decode cX12_qJoins 192 = .ok (.ifCond .ge 7, 3) := by decide +kernel
theorem dX12_qJoins_195 : decode cX12_qJoins 195 = .ok (.lconst 1, 1) := by decide +kernel
theorem dX12_qJoins_196 : decode cX12_qJoins 196 = .ok (.goto 4, 3) := by decide +kernel
theorem dX12_qJoins_199 : decode cX12_qJoins 199 = .ok (.lconst 0, 1) := by decide +kernel
theorem dX12_qJoins_200 : decode cX12_qJoins 200 = .ok (.invokevirtual 669, 3) := by decide +kernel
theorem dX12_qJoins_203 : decode cX12_qJoins 203 = .ok (.goto 70, 3) := by decide +kernel
theorem dX12_qJoins_206 : decode cX12_qJoins 206 = .ok (.aload_n 0, 1) := by decide +kernel
theorem dX12_qJoins_207 : decode cX12_qJoins 207 = .ok (.lload 4, 2) := by decide +kernel
theorem dX12_qJoins_209 : decode cX12_qJoins 209 = .ok (.lload_n 2, 1) := by decide +kernel
theorem dX12_qJoins_210 : decode cX12_qJoins 210 = .ok (.lcmp, 1) := by decide +kernel
theorem dX12_qJoins_211 : decode cX12_qJoins 211 = .ok (.ifCond .le 7, 3) := by decide +kernel
theorem dX12_qJoins_214 : decode cX12_qJoins 214 = .ok (.lconst 1, 1) := by decide +kernel
theorem dX12_qJoins_215 : decode cX12_qJoins 215 = .ok (.goto 4, 3) := by decide +kernel
theorem dX12_qJoins_218 : decode cX12_qJoins 218 = .ok (.lconst 0, 1) := by decide +kernel
theorem dX12_qJoins_219 : decode cX12_qJoins 219 = .ok (.invokevirtual 669, 3) := by decide +kernel
theorem dX12_qJoins_222 : decode cX12_qJoins 222 = .ok (.goto 51, 3) := by decide +kernel
theorem dX12_qJoins_225 : decode cX12_qJoins 225 = .ok (.aload_n 0, 1) := by decide +kernel
theorem dX12_qJoins_226 : decode cX12_qJoins 226 = .ok (.lload 4, 2) := by decide +kernel
theorem dX12_qJoins_228 : decode cX12_qJoins 228 = .ok (.lload_n 2, 1) := by decide +kernel
theorem dX12_qJoins_229 : decode cX12_qJoins 229 = .ok (.lcmp, 1) := by decide +kernel
theorem dX12_qJoins_230 : decode cX12_qJoins 230 = .ok (.ifCond .ne 7, 3) := by decide +kernel
theorem dX12_qJoins_233 : decode cX12_qJoins 233 = .ok (.lconst 1, 1) := by decide +kernel
theorem dX12_qJoins_234 : decode cX12_qJoins 234 = .ok (.goto 4, 3) := by decide +kernel
theorem dX12_qJoins_237 : decode cX12_qJoins 237 = .ok (.lconst 0, 1) := by decide +kernel
theorem dX12_qJoins_238 : decode cX12_qJoins 238 = .ok (.invokevirtual 669, 3) := by decide +kernel
theorem dX12_qJoins_241 : decode cX12_qJoins 241 = .ok (.goto 32, 3) := by decide +kernel
theorem dX12_qJoins_244 : decode cX12_qJoins 244 = .ok (.aload_n 0, 1) := by decide +kernel
theorem dX12_qJoins_245 : decode cX12_qJoins 245 = .ok (.lload 4, 2) := by decide +kernel
theorem dX12_qJoins_247 : decode cX12_qJoins 247 = .ok (.lload_n 2, 1) := by decide +kernel
theorem dX12_qJoins_248 : decode cX12_qJoins 248 = .ok (.lmul, 1) := by decide +kernel
theorem dX12_qJoins_249 : decode cX12_qJoins 249 = .ok (.invokevirtual 669, 3) := by decide +kernel
theorem dX12_qJoins_252 : decode cX12_qJoins 252 = .ok (.goto 21, 3) := by decide +kernel
theorem dX12_qJoins_255 : decode cX12_qJoins 255 = .ok (.aload_n 0, 1) := by decide +kernel
theorem dX12_qJoins_256 : decode cX12_qJoins 256 = .ok (.lload 4, 2) := by decide +kernel
theorem dX12_qJoins_258 : decode cX12_qJoins 258 = .ok (.lload_n 2, 1) := by decide +kernel
theorem dX12_qJoins_259 : decode cX12_qJoins 259 = .ok (.ladd, 1) := by decide +kernel
theorem dX12_qJoins_260 : decode cX12_qJoins 260 = .ok (.lconst 0, 1) := by decide +kernel
theorem dX12_qJoins_261 : decode cX12_qJoins 261 = .ok (.lcmp, 1) := by decide +kernel
theorem dX12_qJoins_262 : decode cX12_qJoins 262 = .ok (.ifCond .le 7, 3) := by decide +kernel
theorem dX12_qJoins_265 : decode cX12_qJoins 265 = .ok (.lconst 1, 1) := by decide +kernel
theorem dX12_qJoins_266 : decode cX12_qJoins 266 = .ok (.goto 4, 3) := by decide +kernel
theorem dX12_qJoins_269 : decode cX12_qJoins 269 = .ok (.lconst 0, 1) := by decide +kernel
theorem dX12_qJoins_270 : decode cX12_qJoins 270 = .ok (.invokevirtual 669, 3) := by decide +kernel
theorem dX12_qJoins_273 : decode cX12_qJoins 273 = .ok (.return_, 1) := by decide +kernel
theorem dX12_qPartOf_0 : decode cX12_qPartOf 0 = .ok (.iload_n 1, 1) := by decide +kernel
theorem dX12_qPartOf_1 : decode cX12_qPartOf 1 = .ok (.tableswitch 57 0 3 #[31, 34, 42, 50], 31) := by decide +kernel
theorem dX12_qPartOf_32 : decode cX12_qPartOf 32 = .ok (.iload_n 2, 1) := by decide +kernel
theorem dX12_qPartOf_33 : decode cX12_qPartOf 33 = .ok (.i2l, 1) := by decide +kernel
theorem dX12_qPartOf_34 : decode cX12_qPartOf 34 = .ok (.lreturn, 1) := by decide +kernel
theorem dX12_qPartOf_35 : decode cX12_qPartOf 35 = .ok (.aload_n 0, 1) := by decide +kernel
theorem dX12_qPartOf_36 : decode cX12_qPartOf 36 = .ok (.iload_n 2, 1) := by decide +kernel
theorem dX12_qPartOf_37 : decode cX12_qPartOf 37 = .ok (.iconst 0, 1) := by decide +kernel
theorem dX12_qPartOf_38 : decode cX12_qPartOf 38 = .ok (.invokevirtual 415, 3) := by decide +kernel
theorem dX12_qPartOf_41 : decode cX12_qPartOf 41 = .ok (.i2l, 1) := by decide +kernel
theorem dX12_qPartOf_42 : decode cX12_qPartOf 42 = .ok (.lreturn, 1) := by decide +kernel
theorem dX12_qPartOf_43 : decode cX12_qPartOf 43 = .ok (.aload_n 0, 1) := by decide +kernel
theorem dX12_qPartOf_44 : decode cX12_qPartOf 44 = .ok (.iload_n 2, 1) := by decide +kernel
theorem dX12_qPartOf_45 : decode cX12_qPartOf 45 = .ok (.iconst 1, 1) := by decide +kernel
theorem dX12_qPartOf_46 : decode cX12_qPartOf 46 = .ok (.invokevirtual 415, 3) := by decide +kernel
theorem dX12_qPartOf_49 : decode cX12_qPartOf 49 = .ok (.i2l, 1) := by decide +kernel
theorem dX12_qPartOf_50 : decode cX12_qPartOf 50 = .ok (.lreturn, 1) := by decide +kernel
theorem dX12_qPartOf_51 : decode cX12_qPartOf 51 = .ok (.aload_n 0, 1) := by decide +kernel
theorem dX12_qPartOf_52 : decode cX12_qPartOf 52 = .ok (.iload_n 2, 1) := by decide +kernel
theorem dX12_qPartOf_53 : decode cX12_qPartOf 53 = .ok (.invokevirtual 460, 3) := by decide +kernel
theorem dX12_qPartOf_56 : decode cX12_qPartOf 56 = .ok (.i2l, 1) := by decide +kernel
theorem dX12_qPartOf_57 : decode cX12_qPartOf 57 = .ok (.lreturn, 1) := by decide +kernel
theorem dX12_qPartOf_58 : decode cX12_qPartOf 58 = .ok (.aload_n 0, 1) := by decide +kernel
theorem dX12_qPartOf_59 : decode cX12_qPartOf 59 = .ok (.iload_n 2, 1) := by decide +kernel
theorem dX12_qPartOf_60 : decode cX12_qPartOf 60 = .ok (.invokevirtual 675, 3) := by decide +kernel
theorem dX12_qPartOf_63 : decode cX12_qPartOf 63 = .ok (.lreturn, 1) := by decide +kernel
theorem dX12_qOf_0 : decode cX12_qOf 0 = .ok (.iload_n 1, 1) := by decide +kernel
theorem dX12_qOf_1 : decode cX12_qOf 1 = .ok (.lookupswitch 11 #[], 11) := by decide +kernel
theorem dX12_qOf_12 : decode cX12_qOf 12 = .ok (.aload_n 0, 1) := by decide +kernel
theorem dX12_qOf_13 : decode cX12_qOf 13 = .ok (.iload 4, 2) := by decide +kernel
theorem dX12_qOf_15 : decode cX12_qOf 15 = .ok (.lload_n 2, 1) := by decide +kernel
theorem dX12_qOf_16 : decode cX12_qOf 16 = .ok (.invokevirtual 678, 3) := by decide +kernel
theorem dX12_qOf_19 : decode cX12_qOf 19 = .ok (.lreturn, 1) := by decide +kernel
theorem dX12_qTold_0 : decode cX12_qTold 0 = .ok (.aload_n 0, 1) := by decide +kernel
theorem dX12_qTold_1 : decode cX12_qTold 1 = .ok (.iconst 0, 1) := by decide +kernel
theorem dX12_qTold_2 : decode cX12_qTold 2 = .ok (.putfield 663, 3) := by decide +kernel
theorem dX12_qTold_5 : decode cX12_qTold 5 = .ok (.iconst 0, 1) := by decide +kernel
theorem dX12_qTold_6 : decode cX12_qTold 6 = .ok (.istore_n 2, 1) := by decide +kernel
theorem dX12_qTold_7 : decode cX12_qTold 7 = .ok (.iload_n 2, 1) := by decide +kernel
theorem dX12_qTold_8 : decode cX12_qTold 8 = .ok (.aload_n 0, 1) := by decide +kernel
theorem dX12_qTold_9 : decode cX12_qTold 9 = .ok (.getfield 597, 3) := by decide +kernel
theorem dX12_qTold_12 : decode cX12_qTold 12 = .ok (.if_icmp .ge 156, 3) := by decide +kernel
theorem dX12_qTold_15 : decode cX12_qTold 15 = .ok (.aload_n 0, 1) := by decide +kernel
theorem dX12_qTold_16 : decode cX12_qTold 16 = .ok (.getfield 221, 3) := by decide +kernel
theorem dX12_qTold_19 : decode cX12_qTold 19 = .ok (.iload_n 2, 1) := by decide +kernel
theorem dX12_qTold_20 : decode cX12_qTold 20 = .ok (.iaload, 1) := by decide +kernel
theorem dX12_qTold_21 : decode cX12_qTold 21 = .ok (.istore_n 3, 1) := by decide +kernel
theorem dX12_qTold_22 : decode cX12_qTold 22 = .ok (.iload_n 3, 1) := by decide +kernel
theorem dX12_qTold_23 : decode cX12_qTold 23 = .ok (.sipush 1000, 3) := by decide +kernel
theorem dX12_qTold_26 : decode cX12_qTold 26 = .ok (.if_icmp .lt 16, 3) := by decide +kernel
theorem dX12_qTold_29 : decode cX12_qTold 29 = .ok (.aload_n 0, 1) := by decide +kernel
theorem dX12_qTold_30 : decode cX12_qTold 30 = .ok (.iload_n 3, 1) := by decide +kernel
theorem dX12_qTold_31 : decode cX12_qTold 31 = .ok (.sipush 1000, 3) := by decide +kernel
theorem dX12_qTold_34 : decode cX12_qTold 34 = .ok (.isub, 1) := by decide +kernel
theorem dX12_qTold_35 : decode cX12_qTold 35 = .ok (.i2l, 1) := by decide +kernel
theorem dX12_qTold_36 : decode cX12_qTold 36 = .ok (.invokevirtual 669, 3) := by decide +kernel
theorem dX12_qTold_39 : decode cX12_qTold 39 = .ok (.goto 123, 3) := by decide +kernel
theorem dX12_qTold_42 : decode cX12_qTold 42 = .ok (.iload_n 3, 1) := by decide +kernel
theorem dX12_qTold_43 : decode cX12_qTold 43 = .ok (.bipush 60, 2) := by decide +kernel
theorem dX12_qTold_45 : decode cX12_qTold 45 = .ok (.if_icmp .lt 40, 3) := by decide +kernel
theorem dX12_qTold_48 : decode cX12_qTold 48 = .ok (.aload_n 0, 1) := by decide +kernel
theorem dX12_qTold_49 : decode cX12_qTold 49 = .ok (.getfield 227, 3) := by decide +kernel
theorem dX12_qTold_52 : decode cX12_qTold 52 = .ok (.aload_n 0, 1) := by decide +kernel
theorem dX12_qTold_53 : decode cX12_qTold 53 = .ok (.getfield 663, 3) := by decide +kernel
theorem dX12_qTold_56 : decode cX12_qTold 56 = .ok (.iconst 1, 1) := by decide +kernel
theorem dX12_qTold_57 : decode cX12_qTold 57 = .ok (.isub, 1) := by decide +kernel
theorem dX12_qTold_58 : decode cX12_qTold 58 = .ok (.aload_n 0, 1) := by decide +kernel
theorem dX12_qTold_59 : decode cX12_qTold 59 = .ok (.iload_n 3, 1) := by decide +kernel
theorem dX12_qTold_60 : decode cX12_qTold 60 = .ok (.bipush 60, 2) := by decide +kernel
theorem dX12_qTold_62 : decode cX12_qTold 62 = .ok (.isub, 1) := by decide +kernel
theorem dX12_qTold_63 : decode cX12_qTold 63 = .ok (.aload_n 0, 1) := by decide +kernel
theorem dX12_qTold_64 : decode cX12_qTold 64 = .ok (.getfield 227, 3) := by decide +kernel
theorem dX12_qTold_67 : decode cX12_qTold 67 = .ok (.aload_n 0, 1) := by decide +kernel
theorem dX12_qTold_68 : decode cX12_qTold 68 = .ok (.getfield 663, 3) := by decide +kernel
theorem dX12_qTold_71 : decode cX12_qTold 71 = .ok (.iconst 1, 1) := by decide +kernel
theorem dX12_qTold_72 : decode cX12_qTold 72 = .ok (.isub, 1) := by decide +kernel
theorem dX12_qTold_73 : decode cX12_qTold 73 = .ok (.laload, 1) := by decide +kernel
theorem dX12_qTold_74 : decode cX12_qTold 74 = .ok (.iload_n 1, 1) := by decide +kernel
theorem dX12_qTold_75 : decode cX12_qTold 75 = .ok (.invokevirtual 682, 3) := by decide +kernel
theorem dX12_qTold_78 : decode cX12_qTold 78 = .ok (.invokestatic 666, 3) := by decide +kernel
theorem dX12_qTold_81 : decode cX12_qTold 81 = .ok (.lastore, 1) := by decide +kernel
theorem dX12_qTold_82 : decode cX12_qTold 82 = .ok (.goto 80, 3) := by decide +kernel
theorem dX12_qTold_85 : decode cX12_qTold 85 = .ok (.iload_n 3, 1) := by decide +kernel
theorem dX12_qTold_86 : decode cX12_qTold 86 = .ok (.bipush 40, 2) := by decide +kernel
theorem dX12_qTold_88 : decode cX12_qTold 88 = .ok (.if_icmp .lt 22, 3) := by decide +kernel
theorem dX12_qTold_91 : decode cX12_qTold 91 = .ok (.aload_n 0, 1) := by decide +kernel
theorem dX12_qTold_92 : decode cX12_qTold 92 = .ok (.aload_n 0, 1) := by decide +kernel
theorem dX12_qTold_93 : decode cX12_qTold 93 = .ok (.iload_n 3, 1) := by decide +kernel
theorem dX12_qTold_94 : decode cX12_qTold 94 = .ok (.bipush 40, 2) := by decide +kernel
theorem dX12_qTold_96 : decode cX12_qTold 96 = .ok (.isub, 1) := by decide +kernel
theorem dX12_qTold_97 : decode cX12_qTold 97 = .ok (.iload_n 1, 1) := by decide +kernel
theorem dX12_qTold_98 : decode cX12_qTold 98 = .ok (.invokevirtual 686, 3) := by decide +kernel
theorem dX12_qTold_101 : decode cX12_qTold 101 = .ok (.invokestatic 666, 3) := by decide +kernel
theorem dX12_qTold_104 : decode cX12_qTold 104 = .ok (.invokevirtual 669, 3) := by decide +kernel
theorem dX12_qTold_107 : decode cX12_qTold 107 = .ok (.goto 55, 3) := by decide +kernel
theorem dX12_qTold_110 : decode cX12_qTold 110 = .ok (.iload_n 3, 1) := by decide +kernel
theorem dX12_qTold_111 : decode cX12_qTold 111 = .ok (.bipush 13, 2) := by decide +kernel
theorem dX12_qTold_113 : decode cX12_qTold 113 = .ok (.if_icmp .ne 11, 3) := by decide +kernel
theorem dX12_qTold_116 : decode cX12_qTold 116 = .ok (.aload_n 0, 1) := by decide +kernel
theorem dX12_qTold_117 : decode cX12_qTold 117 = .ok (.lconst 1, 1) := by decide +kernel
theorem dX12_qTold_118 : decode cX12_qTold 118 = .ok (.invokevirtual 669, 3) := by decide +kernel
theorem dX12_qTold_121 : decode cX12_qTold 121 = .ok (.goto 41, 3) := by decide +kernel
theorem dX12_qTold_124 : decode cX12_qTold 124 = .ok (.iload_n 3, 1) := by decide +kernel
theorem dX12_qTold_125 : decode cX12_qTold 125 = .ok (.bipush 12, 2) := by decide +kernel
theorem dX12_qTold_127 : decode cX12_qTold 127 = .ok (.if_icmp .ne 30, 3) := by decide +kernel
theorem dX12_qTold_130 : decode cX12_qTold 130 = .ok (.aload_n 0, 1) := by decide +kernel
theorem dX12_qTold_131 : decode cX12_qTold 131 = .ok (.getfield 227, 3) := by decide +kernel
theorem dX12_qTold_134 : decode cX12_qTold 134 = .ok (.aload_n 0, 1) := by decide +kernel
theorem dX12_qTold_135 : decode cX12_qTold 135 = .ok (.getfield 663, 3) := by decide +kernel
theorem dX12_qTold_138 : decode cX12_qTold 138 = .ok (.iconst 1, 1) := by decide +kernel
theorem dX12_qTold_139 : decode cX12_qTold 139 = .ok (.isub, 1) := by decide +kernel
theorem dX12_qTold_140 : decode cX12_qTold 140 = .ok (.lconst 1, 1) := by decide +kernel
theorem dX12_qTold_141 : decode cX12_qTold 141 = .ok (.aload_n 0, 1) := by decide +kernel
theorem dX12_qTold_142 : decode cX12_qTold 142 = .ok (.getfield 227, 3) := by decide +kernel
theorem dX12_qTold_145 : decode cX12_qTold 145 = .ok (.aload_n 0, 1) := by decide +kernel
theorem dX12_qTold_146 : decode cX12_qTold 146 = .ok (.getfield 663, 3) := by decide +kernel
theorem dX12_qTold_149 : decode cX12_qTold 149 = .ok (.iconst 1, 1) := by decide +kernel
theorem dX12_qTold_150 : decode cX12_qTold 150 = .ok (.isub, 1) := by decide +kernel
theorem dX12_qTold_151 : decode cX12_qTold 151 = .ok (.laload, 1) := by decide +kernel
theorem dX12_qTold_152 : decode cX12_qTold 152 = .ok (.lsub, 1) := by decide +kernel
theorem dX12_qTold_153 : decode cX12_qTold 153 = .ok (.lastore, 1) := by decide +kernel
theorem dX12_qTold_154 : decode cX12_qTold 154 = .ok (.goto 8, 3) := by decide +kernel
theorem dX12_qTold_157 : decode cX12_qTold 157 = .ok (.aload_n 0, 1) := by decide +kernel
theorem dX12_qTold_158 : decode cX12_qTold 158 = .ok (.iload_n 3, 1) := by decide +kernel
theorem dX12_qTold_159 : decode cX12_qTold 159 = .ok (.invokevirtual 689, 3) := by decide +kernel
theorem dX12_qTold_162 : decode cX12_qTold 162 = .ok (.iinc 2 1, 3) := by decide +kernel
theorem dX12_qTold_165 : decode cX12_qTold 165 = .ok (.goto (-158), 3) := by decide +kernel
theorem dX12_qTold_168 : decode cX12_qTold 168 = .ok (.aload_n 0, 1) := by decide +kernel
theorem dX12_qTold_169 : decode cX12_qTold 169 = .ok (.getfield 227, 3) := by decide +kernel
theorem dX12_qTold_172 : decode cX12_qTold 172 = .ok (.iconst 0, 1) := by decide +kernel
theorem dX12_qTold_173 : decode cX12_qTold 173 = .ok (.laload, 1) := by decide +kernel
theorem dX12_qTold_174 : decode cX12_qTold 174 = .ok (.lreturn, 1) := by decide +kernel
theorem dX12_qKind_0 : decode cX12_qKind 0 = .ok (.aload_n 0, 1) := by decide +kernel
theorem dX12_qKind_1 : decode cX12_qKind 1 = .ok (.aload_n 0, 1) := by decide +kernel
theorem dX12_qKind_2 : decode cX12_qKind 2 = .ok (.getfield 167, 3) := by decide +kernel
theorem dX12_qKind_5 : decode cX12_qKind 5 = .ok (.invokevirtual 263, 3) := by decide +kernel
theorem dX12_qKind_8 : decode cX12_qKind 8 = .ok (.ifCond .eq 7, 3) := by decide +kernel
theorem dX12_qKind_11 : decode cX12_qKind 11 = .ok (.iconst 0, 1) := by decide +kernel
theorem dX12_qKind_12 : decode cX12_qKind 12 = .ok (.goto 64, 3) := by decide +kernel
theorem dX12_qKind_15 : decode cX12_qKind 15 = .ok (.aload_n 0, 1) := by decide +kernel
theorem dX12_qKind_16 : decode cX12_qKind 16 = .ok (.aload_n 0, 1) := by decide +kernel
theorem dX12_qKind_17 : decode cX12_qKind 17 = .ok (.getfield 170, 3) := by decide +kernel
theorem dX12_qKind_20 : decode cX12_qKind 20 = .ok (.invokevirtual 263, 3) := by decide +kernel
theorem dX12_qKind_23 : decode cX12_qKind 23 = .ok (.ifCond .eq 7, 3) := by decide +kernel
theorem dX12_qKind_26 : decode cX12_qKind 26 = .ok (.iconst 1, 1) := by decide +kernel
theorem dX12_qKind_27 : decode cX12_qKind 27 = .ok (.goto 49, 3) := by decide +kernel
theorem dX12_qKind_30 : decode cX12_qKind 30 = .ok (.aload_n 0, 1) := by decide +kernel
theorem dX12_qKind_31 : decode cX12_qKind 31 = .ok (.aload_n 0, 1) := by decide +kernel
theorem dX12_qKind_32 : decode cX12_qKind 32 = .ok (.getfield 173, 3) := by decide +kernel
theorem dX12_qKind_35 : decode cX12_qKind 35 = .ok (.invokevirtual 263, 3) := by decide +kernel
theorem dX12_qKind_38 : decode cX12_qKind 38 = .ok (.ifCond .eq 7, 3) := by decide +kernel
theorem dX12_qKind_41 : decode cX12_qKind 41 = .ok (.iconst 2, 1) := by decide +kernel
theorem dX12_qKind_42 : decode cX12_qKind 42 = .ok (.goto 34, 3) := by decide +kernel
theorem dX12_qKind_45 : decode cX12_qKind 45 = .ok (.aload_n 0, 1) := by decide +kernel
theorem dX12_qKind_46 : decode cX12_qKind 46 = .ok (.aload_n 0, 1) := by decide +kernel
theorem dX12_qKind_47 : decode cX12_qKind 47 = .ok (.getfield 176, 3) := by decide +kernel
theorem dX12_qKind_50 : decode cX12_qKind 50 = .ok (.invokevirtual 263, 3) := by decide +kernel
theorem dX12_qKind_53 : decode cX12_qKind 53 = .ok (.ifCond .eq 7, 3) := by decide +kernel
theorem dX12_qKind_56 : decode cX12_qKind 56 = .ok (.iconst 3, 1) := by decide +kernel
theorem dX12_qKind_57 : decode cX12_qKind 57 = .ok (.goto 19, 3) := by decide +kernel
theorem dX12_qKind_60 : decode cX12_qKind 60 = .ok (.aload_n 0, 1) := by decide +kernel
theorem dX12_qKind_61 : decode cX12_qKind 61 = .ok (.aload_n 0, 1) := by decide +kernel
theorem dX12_qKind_62 : decode cX12_qKind 62 = .ok (.getfield 179, 3) := by decide +kernel
theorem dX12_qKind_65 : decode cX12_qKind 65 = .ok (.invokevirtual 263, 3) := by decide +kernel
theorem dX12_qKind_68 : decode cX12_qKind 68 = .ok (.ifCond .eq 7, 3) := by decide +kernel
theorem dX12_qKind_71 : decode cX12_qKind 71 = .ok (.iconst 4, 1) := by decide +kernel
theorem dX12_qKind_72 : decode cX12_qKind 72 = .ok (.goto 4, 3) := by decide +kernel
theorem dX12_qKind_75 : decode cX12_qKind 75 = .ok (.iconst 5, 1) := by decide +kernel
theorem dX12_qKind_76 : decode cX12_qKind 76 = .ok (.istore_n 1, 1) := by decide +kernel
theorem dX12_qKind_77 : decode cX12_qKind 77 = .ok (.iload_n 1, 1) := by decide +kernel
theorem dX12_qKind_78 : decode cX12_qKind 78 = .ok (.iconst 5, 1) := by decide +kernel
theorem dX12_qKind_79 : decode cX12_qKind 79 = .ok (.if_icmp .ne 11, 3) := by decide +kernel
theorem dX12_qKind_82 : decode cX12_qKind 82 = .ok (.aload_n 0, 1) := by decide +kernel
theorem dX12_qKind_83 : decode cX12_qKind 83 = .ok (.aload_n 0, 1) := by decide +kernel
theorem dX12_qKind_84 : decode cX12_qKind 84 = .ok (.getfield 182, 3) := by decide +kernel
theorem dX12_qKind_87 : decode cX12_qKind 87 = .ok (.invokevirtual 302, 3) := by decide +kernel
theorem dX12_qKind_90 : decode cX12_qKind 90 = .ok (.iload_n 1, 1) := by decide +kernel
theorem dX12_qKind_91 : decode cX12_qKind 91 = .ok (.ireturn, 1) := by decide +kernel
theorem dX12_qTakes_0 : decode cX12_qTakes 0 = .ok (.iload_n 1, 1) := by decide +kernel
theorem dX12_qTakes_1 : decode cX12_qTakes 1 = .ok (.iconst 3, 1) := by decide +kernel
theorem dX12_qTakes_2 : decode cX12_qTakes 2 = .ok (.if_icmp .ge 13, 3) := by decide +kernel
theorem dX12_qTakes_5 : decode cX12_qTakes 5 = .ok (.lload_n 2, 1) := by decide +kernel
theorem dX12_qTakes_6 : decode cX12_qTakes 6 = .ok (.lconst 1, 1) := by decide +kernel
theorem dX12_qTakes_7 : decode cX12_qTakes 7 = .ok (.lcmp, 1) := by decide +kernel
theorem dX12_qTakes_8 : decode cX12_qTakes 8 = .ok (.ifCond .ne 7, 3) := by decide +kernel
theorem dX12_qTakes_11 : decode cX12_qTakes 11 = .ok (.iconst 1, 1) := by decide +kernel
theorem dX12_qTakes_12 : decode cX12_qTakes 12 = .ok (.goto 4, 3) := by decide +kernel
theorem dX12_qTakes_15 : decode cX12_qTakes 15 = .ok (.iconst 0, 1) := by decide +kernel
theorem dX12_qTakes_16 : decode cX12_qTakes 16 = .ok (.istore 5, 2) := by decide +kernel
theorem dX12_qTakes_18 : decode cX12_qTakes 18 = .ok (.iload_n 1, 1) := by decide +kernel
theorem dX12_qTakes_19 : decode cX12_qTakes 19 = .ok (.ifCond .ne 19, 3) := by decide +kernel
theorem dX12_qTakes_22 : decode cX12_qTakes 22 = .ok (.iload 5, 2) := by decide +kernel
theorem dX12_qTakes_24 : decode cX12_qTakes 24 = .ok (.ifCond .eq 14, 3) := by decide +kernel
theorem dX12_qTakes_27 : decode cX12_qTakes 27 = .ok (.aload_n 0, 1) := by decide +kernel
theorem dX12_qTakes_28 : decode cX12_qTakes 28 = .ok (.getfield 692, 3) := by decide +kernel
theorem dX12_qTakes_31 : decode cX12_qTakes 31 = .ok (.ldc2_w 499, 3) := by decide +kernel
theorem dX12_qTakes_34 : decode cX12_qTakes 34 = .ok (.lcmp, 1) := by decide +kernel
theorem dX12_qTakes_35 : decode cX12_qTakes 35 = .ok (.ifCond .eq 13, 3) := by decide +kernel
theorem dX12_qTakes_38 : decode cX12_qTakes 38 = .ok (.iload_n 1, 1) := by decide +kernel
theorem dX12_qTakes_39 : decode cX12_qTakes 39 = .ok (.iconst 1, 1) := by decide +kernel
theorem dX12_qTakes_40 : decode cX12_qTakes 40 = .ok (.if_icmp .ne 15, 3) := by decide +kernel
theorem dX12_qTakes_43 : decode cX12_qTakes 43 = .ok (.iload 5, 2) := by decide +kernel
theorem dX12_qTakes_45 : decode cX12_qTakes 45 = .ok (.ifCond .eq 10, 3) := by decide +kernel
theorem dX12_qTakes_48 : decode cX12_qTakes 48 = .ok (.aload_n 0, 1) := by decide +kernel
theorem dX12_qTakes_49 : decode cX12_qTakes 49 = .ok (.iload 4, 2) := by decide +kernel
theorem dX12_qTakes_51 : decode cX12_qTakes 51 = .ok (.i2l, 1) := by decide +kernel
theorem dX12_qTakes_52 : decode cX12_qTakes 52 = .ok (.putfield 692, 3) := by decide +kernel
theorem dX12_qTakes_55 : decode cX12_qTakes 55 = .ok (.iload_n 1, 1) := by decide +kernel
theorem dX12_qTakes_56 : decode cX12_qTakes 56 = .ok (.iconst 2, 1) := by decide +kernel
theorem dX12_qTakes_57 : decode cX12_qTakes 57 = .ok (.if_icmp .ne 18, 3) := by decide +kernel
theorem dX12_qTakes_60 : decode cX12_qTakes 60 = .ok (.iload 5, 2) := by decide +kernel
theorem dX12_qTakes_62 : decode cX12_qTakes 62 = .ok (.ifCond .eq 13, 3) := by decide +kernel
theorem dX12_qTakes_65 : decode cX12_qTakes 65 = .ok (.aload_n 0, 1) := by decide +kernel
theorem dX12_qTakes_66 : decode cX12_qTakes 66 = .ok (.dup, 1) := by decide +kernel
theorem dX12_qTakes_67 : decode cX12_qTakes 67 = .ok (.getfield 692, 3) := by decide +kernel
theorem dX12_qTakes_70 : decode cX12_qTakes 70 = .ok (.lconst 1, 1) := by decide +kernel
theorem dX12_qTakes_71 : decode cX12_qTakes 71 = .ok (.ladd, 1) := by decide +kernel
theorem dX12_qTakes_72 : decode cX12_qTakes 72 = .ok (.putfield 692, 3) := by decide +kernel
theorem dX12_qTakes_75 : decode cX12_qTakes 75 = .ok (.iload_n 1, 1) := by decide +kernel
theorem dX12_qTakes_76 : decode cX12_qTakes 76 = .ok (.iconst 3, 1) := by decide +kernel
theorem dX12_qTakes_77 : decode cX12_qTakes 77 = .ok (.if_icmp .ne 13, 3) := by decide +kernel
theorem dX12_qTakes_80 : decode cX12_qTakes 80 = .ok (.aload_n 0, 1) := by decide +kernel
theorem dX12_qTakes_81 : decode cX12_qTakes 81 = .ok (.dup, 1) := by decide +kernel
theorem dX12_qTakes_82 : decode cX12_qTakes 82 = .ok (.getfield 692, 3) := by decide +kernel
theorem dX12_qTakes_85 : decode cX12_qTakes 85 = .ok (.lload_n 2, 1) := by decide +kernel
theorem dX12_qTakes_86 : decode cX12_qTakes 86 = .ok (.ladd, 1) := by decide +kernel
theorem dX12_qTakes_87 : decode cX12_qTakes 87 = .ok (.putfield 692, 3) := by decide +kernel
theorem dX12_qTakes_90 : decode cX12_qTakes 90 = .ok (.iload_n 1, 1) := by decide +kernel
theorem dX12_qTakes_91 : decode cX12_qTakes 91 = .ok (.iconst 3, 1) := by decide +kernel
theorem dX12_qTakes_92 : decode cX12_qTakes 92 = .ok (.if_icmp .le 41, 3) := by decide +kernel
theorem dX12_qTakes_95 : decode cX12_qTakes 95 = .ok (.aload_n 0, 1) := by decide +kernel
theorem dX12_qTakes_96 : decode cX12_qTakes 96 = .ok (.getfield 695, 3) := by decide +kernel
theorem dX12_qTakes_99 : decode cX12_qTakes 99 = .ok (.ifCond .ne 29, 3) := by decide +kernel
theorem dX12_qTakes_102 : decode cX12_qTakes 102 = .ok (.iload_n 1, 1) := by decide +kernel
theorem dX12_qTakes_103 : decode cX12_qTakes 103 = .ok (.iconst 4, 1) := by decide +kernel
theorem dX12_qTakes_104 : decode cX12_qTakes 104 = .ok (.if_icmp .ne 15, 3) := by decide +kernel
theorem dX12_qTakes_107 : decode cX12_qTakes 107 = .ok (.lload_n 2, 1) := by decide +kernel
theorem dX12_qTakes_108 : decode cX12_qTakes 108 = .ok (.aload_n 0, 1) := by decide +kernel
theorem dX12_qTakes_109 : decode cX12_qTakes 109 = .ok (.getfield 692, 3) := by decide +kernel
theorem dX12_qTakes_112 : decode cX12_qTakes 112 = .ok (.lcmp, 1) := by decide +kernel
theorem dX12_qTakes_113 : decode cX12_qTakes 113 = .ok (.ifCond .le 20, 3) := by decide +kernel
theorem dX12_qTakes_116 : decode cX12_qTakes 116 = .ok (.goto 12, 3) := by decide +kernel
theorem dX12_qTakes_119 : decode cX12_qTakes 119 = .ok (.lload_n 2, 1) := by decide +kernel
theorem dX12_qTakes_120 : decode cX12_qTakes 120 = .ok (.aload_n 0, 1) := by decide +kernel
theorem dX12_qTakes_121 : decode cX12_qTakes 121 = .ok (.getfield 692, 3) := by decide +kernel
theorem dX12_qTakes_124 : decode cX12_qTakes 124 = .ok (.lcmp, 1) := by decide +kernel
theorem dX12_qTakes_125 : decode cX12_qTakes 125 = .ok (.ifCond .ge 8, 3) := by decide +kernel
theorem dX12_qTakes_128 : decode cX12_qTakes 128 = .ok (.aload_n 0, 1) := by decide +kernel
theorem dX12_qTakes_129 : decode cX12_qTakes 129 = .ok (.lload_n 2, 1) := by decide +kernel
theorem dX12_qTakes_130 : decode cX12_qTakes 130 = .ok (.putfield 692, 3) := by decide +kernel
theorem dX12_qTakes_133 : decode cX12_qTakes 133 = .ok (.aload_n 0, 1) := by decide +kernel
theorem dX12_qTakes_134 : decode cX12_qTakes 134 = .ok (.iconst 0, 1) := by decide +kernel
theorem dX12_qTakes_135 : decode cX12_qTakes 135 = .ok (.putfield 695, 3) := by decide +kernel
theorem dX12_qTakes_138 : decode cX12_qTakes 138 = .ok (.return_, 1) := by decide +kernel
theorem dX12_ask_0 : decode cX12_ask 0 = .ok (.aload_n 0, 1) := by decide +kernel
theorem dX12_ask_1 : decode cX12_ask 1 = .ok (.aload_n 0, 1) := by decide +kernel
theorem dX12_ask_2 : decode cX12_ask 2 = .ok (.getfield 233, 3) := by decide +kernel
theorem dX12_ask_5 : decode cX12_ask 5 = .ok (.putfield 245, 3) := by decide +kernel
theorem dX12_ask_8 : decode cX12_ask 8 = .ok (.aload_n 0, 1) := by decide +kernel
theorem dX12_ask_9 : decode cX12_ask 9 = .ok (.iconst 0, 1) := by decide +kernel
theorem dX12_ask_10 : decode cX12_ask 10 = .ok (.putfield 233, 3) := by decide +kernel
theorem dX12_ask_13 : decode cX12_ask 13 = .ok (.aload_n 0, 1) := by decide +kernel
theorem dX12_ask_14 : decode cX12_ask 14 = .ok (.iconst 0, 1) := by decide +kernel
theorem dX12_ask_15 : decode cX12_ask 15 = .ok (.putfield 242, 3) := by decide +kernel
theorem dX12_ask_18 : decode cX12_ask 18 = .ok (.aload_n 0, 1) := by decide +kernel
theorem dX12_ask_19 : decode cX12_ask 19 = .ok (.iconst (-1), 1) := by decide +kernel
theorem dX12_ask_20 : decode cX12_ask 20 = .ok (.putfield 256, 3) := by decide +kernel
theorem dX12_ask_23 : decode cX12_ask 23 = .ok (.aload_n 0, 1) := by decide +kernel
theorem dX12_ask_24 : decode cX12_ask 24 = .ok (.iconst 0, 1) := by decide +kernel
theorem dX12_ask_25 : decode cX12_ask 25 = .ok (.putfield 236, 3) := by decide +kernel
theorem dX12_ask_28 : decode cX12_ask 28 = .ok (.aload_n 0, 1) := by decide +kernel
theorem dX12_ask_29 : decode cX12_ask 29 = .ok (.iconst (-1), 1) := by decide +kernel
theorem dX12_ask_30 : decode cX12_ask 30 = .ok (.putfield 239, 3) := by decide +kernel
theorem dX12_ask_33 : decode cX12_ask 33 = .ok (.aload_n 0, 1) := by decide +kernel
theorem dX12_ask_34 : decode cX12_ask 34 = .ok (.iconst 0, 1) := by decide +kernel
theorem dX12_ask_35 : decode cX12_ask 35 = .ok (.putfield 597, 3) := by decide +kernel
theorem dX12_ask_38 : decode cX12_ask 38 = .ok (.aload_n 0, 1) := by decide +kernel
theorem dX12_ask_39 : decode cX12_ask 39 = .ok (.iconst 0, 1) := by decide +kernel
theorem dX12_ask_40 : decode cX12_ask 40 = .ok (.putfield 603, 3) := by decide +kernel
theorem dX12_ask_43 : decode cX12_ask 43 = .ok (.aload_n 0, 1) := by decide +kernel
theorem dX12_ask_44 : decode cX12_ask 44 = .ok (.iconst 0, 1) := by decide +kernel
theorem dX12_ask_45 : decode cX12_ask 45 = .ok (.putfield 600, 3) := by decide +kernel
theorem dX12_ask_48 : decode cX12_ask 48 = .ok (.aload_n 0, 1) := by decide +kernel
theorem dX12_ask_49 : decode cX12_ask 49 = .ok (.iconst 0, 1) := by decide +kernel
theorem dX12_ask_50 : decode cX12_ask 50 = .ok (.putfield 609, 3) := by decide +kernel
theorem dX12_ask_53 : decode cX12_ask 53 = .ok (.aload_n 0, 1) := by decide +kernel
theorem dX12_ask_54 : decode cX12_ask 54 = .ok (.invokevirtual 699, 3) := by decide +kernel
theorem dX12_ask_57 : decode cX12_ask 57 = .ok (.istore_n 1, 1) := by decide +kernel
theorem dX12_ask_58 : decode cX12_ask 58 = .ok (.aload_n 0, 1) := by decide +kernel
theorem dX12_ask_59 : decode cX12_ask 59 = .ok (.getfield 236, 3) := by decide +kernel
theorem dX12_ask_62 : decode cX12_ask 62 = .ok (.ifCond .ne 15, 3) := by decide +kernel
theorem dX12_ask_65 : decode cX12_ask 65 = .ok (.iload_n 1, 1) := by decide +kernel
theorem dX12_ask_66 : decode cX12_ask 66 = .ok (.iconst 3, 1) := by decide +kernel
theorem dX12_ask_67 : decode cX12_ask 67 = .ok (.if_icmp .ge 10, 3) := by decide +kernel
theorem dX12_ask_70 : decode cX12_ask 70 = .ok (.aload_n 0, 1) := by decide +kernel
theorem dX12_ask_71 : decode cX12_ask 71 = .ok (.invokevirtual 702, 3) := by decide +kernel
theorem dX12_ask_74 : decode cX12_ask 74 = .ok (.goto 14, 3) := by decide +kernel
theorem dX12_ask_77 : decode cX12_ask 77 = .ok (.aload_n 0, 1) := by decide +kernel
theorem dX12_ask_78 : decode cX12_ask 78 = .ok (.getfield 236, 3) := by decide +kernel
theorem dX12_ask_81 : decode cX12_ask 81 = .ok (.ifCond .ne 7, 3) := by decide +kernel
theorem dX12_ask_84 : decode cX12_ask 84 = .ok (.aload_n 0, 1) := by decide +kernel
theorem dX12_ask_85 : decode cX12_ask 85 = .ok (.invokevirtual 648, 3) := by decide +kernel
theorem dX12_ask_88 : decode cX12_ask 88 = .ok (.aload_n 0, 1) := by decide +kernel
theorem dX12_ask_89 : decode cX12_ask 89 = .ok (.getfield 236, 3) := by decide +kernel
theorem dX12_ask_92 : decode cX12_ask 92 = .ok (.ifCond .ne 20, 3) := by decide +kernel
theorem dX12_ask_95 : decode cX12_ask 95 = .ok (.aload_n 0, 1) := by decide +kernel
theorem dX12_ask_96 : decode cX12_ask 96 = .ok (.invokevirtual 248, 3) := by decide +kernel
theorem dX12_ask_99 : decode cX12_ask 99 = .ok (.iconst (-1), 1) := by decide +kernel
theorem dX12_ask_100 : decode cX12_ask 100 = .ok (.if_icmp .eq 12, 3) := by decide +kernel
theorem dX12_ask_103 : decode cX12_ask 103 = .ok (.aload_n 0, 1) := by decide +kernel
theorem dX12_ask_104 : decode cX12_ask 104 = .ok (.iconst 1, 1) := by decide +kernel
theorem dX12_ask_105 : decode cX12_ask 105 = .ok (.aload_n 0, 1) := by decide +kernel
theorem dX12_ask_106 : decode cX12_ask 106 = .ok (.getfield 242, 3) := by decide +kernel
theorem dX12_ask_109 : decode cX12_ask 109 = .ok (.invokevirtual 266, 3) := by decide +kernel
theorem dX12_ask_112 : decode cX12_ask 112 = .ok (.aload_n 0, 1) := by decide +kernel
theorem dX12_ask_113 : decode cX12_ask 113 = .ok (.aload_n 0, 1) := by decide +kernel
theorem dX12_ask_114 : decode cX12_ask 114 = .ok (.getfield 236, 3) := by decide +kernel
theorem dX12_ask_117 : decode cX12_ask 117 = .ok (.putfield 353, 3) := by decide +kernel
theorem dX12_ask_120 : decode cX12_ask 120 = .ok (.aload_n 0, 1) := by decide +kernel
theorem dX12_ask_121 : decode cX12_ask 121 = .ok (.aload_n 0, 1) := by decide +kernel
theorem dX12_ask_122 : decode cX12_ask 122 = .ok (.getfield 239, 3) := by decide +kernel
theorem dX12_ask_125 : decode cX12_ask 125 = .ok (.putfield 13, 3) := by decide +kernel
theorem dX12_ask_128 : decode cX12_ask 128 = .ok (.aload_n 0, 1) := by decide +kernel
theorem dX12_ask_129 : decode cX12_ask 129 = .ok (.getfield 236, 3) := by decide +kernel
theorem dX12_ask_132 : decode cX12_ask 132 = .ok (.ifCond .eq 7, 3) := by decide +kernel
theorem dX12_ask_135 : decode cX12_ask 135 = .ok (.ldc2_w 705, 3) := by decide +kernel
theorem dX12_ask_138 : decode cX12_ask 138 = .ok (.lreturn, 1) := by decide +kernel
theorem dX12_ask_139 : decode cX12_ask 139 = .ok (.aload_n 0, 1) := by decide +kernel
theorem dX12_ask_140 : decode cX12_ask 140 = .ok (.iload_n 1, 1) := by decide +kernel
theorem dX12_ask_141 : decode cX12_ask 141 = .ok (.iconst 2, 1) := by decide +kernel
theorem dX12_ask_142 : decode cX12_ask 142 = .ok (.if_icmp .ge 9, 3) := by decide +kernel
theorem dX12_ask_145 : decode cX12_ask 145 = .ok (.ldc2_w 499, 3) := by decide +kernel
theorem dX12_ask_148 : decode cX12_ask 148 = .ok (.goto 4, 3) := by decide +kernel
theorem dX12_ask_151 : decode cX12_ask 151 = .ok (.lconst 0, 1) := by decide +kernel
theorem dX12_ask_152 : decode cX12_ask 152 = .ok (.putfield 692, 3) := by decide +kernel
theorem dX12_ask_155 : decode cX12_ask 155 = .ok (.aload_n 0, 1) := by decide +kernel
theorem dX12_ask_156 : decode cX12_ask 156 = .ok (.iconst 1, 1) := by decide +kernel
theorem dX12_ask_157 : decode cX12_ask 157 = .ok (.putfield 695, 3) := by decide +kernel
theorem dX12_ask_160 : decode cX12_ask 160 = .ok (.iconst 0, 1) := by decide +kernel
theorem dX12_ask_161 : decode cX12_ask 161 = .ok (.istore_n 2, 1) := by decide +kernel
theorem dX12_ask_162 : decode cX12_ask 162 = .ok (.iload_n 2, 1) := by decide +kernel
theorem dX12_ask_163 : decode cX12_ask 163 = .ok (.aload_n 0, 1) := by decide +kernel
theorem dX12_ask_164 : decode cX12_ask 164 = .ok (.invokevirtual 408, 3) := by decide +kernel
theorem dX12_ask_167 : decode cX12_ask 167 = .ok (.if_icmp .ge 20, 3) := by decide +kernel
theorem dX12_ask_170 : decode cX12_ask 170 = .ok (.aload_n 0, 1) := by decide +kernel
theorem dX12_ask_171 : decode cX12_ask 171 = .ok (.iload_n 1, 1) := by decide +kernel
theorem dX12_ask_172 : decode cX12_ask 172 = .ok (.aload_n 0, 1) := by decide +kernel
theorem dX12_ask_173 : decode cX12_ask 173 = .ok (.iload_n 2, 1) := by decide +kernel
theorem dX12_ask_174 : decode cX12_ask 174 = .ok (.invokevirtual 707, 3) := by decide +kernel
theorem dX12_ask_177 : decode cX12_ask 177 = .ok (.iload_n 2, 1) := by decide +kernel
theorem dX12_ask_178 : decode cX12_ask 178 = .ok (.invokevirtual 710, 3) := by decide +kernel
theorem dX12_ask_181 : decode cX12_ask 181 = .ok (.iinc 2 1, 3) := by decide +kernel
theorem dX12_ask_184 : decode cX12_ask 184 = .ok (.goto (-22), 3) := by decide +kernel
theorem dX12_ask_187 : decode cX12_ask 187 = .ok (.aload_n 0, 1) := by decide +kernel
theorem dX12_ask_188 : decode cX12_ask 188 = .ok (.getfield 692, 3) := by decide +kernel
theorem dX12_ask_191 : decode cX12_ask 191 = .ok (.lreturn, 1) := by decide +kernel
theorem dX12_thumbsOf_0 : decode cX12_thumbsOf 0 = .ok (.aload_n 0, 1) := by decide +kernel
theorem dX12_thumbsOf_1 : decode cX12_thumbsOf 1 = .ok (.iload_n 1, 1) := by decide +kernel
theorem dX12_thumbsOf_2 : decode cX12_thumbsOf 2 = .ok (.iconst 0, 1) := by decide +kernel
theorem dX12_thumbsOf_3 : decode cX12_thumbsOf 3 = .ok (.invokevirtual 421, 3) := by decide +kernel
theorem dX12_thumbsOf_6 : decode cX12_thumbsOf 6 = .ok (.iconst 2, 1) := by decide +kernel
theorem dX12_thumbsOf_7 : decode cX12_thumbsOf 7 = .ok (.if_icmp .ne 7, 3) := by decide +kernel
theorem dX12_thumbsOf_10 : decode cX12_thumbsOf 10 = .ok (.lconst 1, 1) := by decide +kernel
theorem dX12_thumbsOf_11 : decode cX12_thumbsOf 11 = .ok (.goto 4, 3) := by decide +kernel
theorem dX12_thumbsOf_14 : decode cX12_thumbsOf 14 = .ok (.lconst 0, 1) := by decide +kernel
theorem dX12_thumbsOf_15 : decode cX12_thumbsOf 15 = .ok (.aload_n 0, 1) := by decide +kernel
theorem dX12_thumbsOf_16 : decode cX12_thumbsOf 16 = .ok (.iload_n 1, 1) := by decide +kernel
theorem dX12_thumbsOf_17 : decode cX12_thumbsOf 17 = .ok (.iconst 1, 1) := by decide +kernel
theorem dX12_thumbsOf_18 : decode cX12_thumbsOf 18 = .ok (.invokevirtual 421, 3) := by decide +kernel
theorem dX12_thumbsOf_21 : decode cX12_thumbsOf 21 = .ok (.iconst 2, 1) := by decide +kernel
theorem dX12_thumbsOf_22 : decode cX12_thumbsOf 22 = .ok (.if_icmp .ne 7, 3) := by decide +kernel
theorem dX12_thumbsOf_25 : decode cX12_thumbsOf 25 = .ok (.lconst 1, 1) := by decide +kernel
theorem dX12_thumbsOf_26 : decode cX12_thumbsOf 26 = .ok (.goto 4, 3) := by decide +kernel
theorem dX12_thumbsOf_29 : decode cX12_thumbsOf 29 = .ok (.lconst 0, 1) := by decide +kernel
theorem dX12_thumbsOf_30 : decode cX12_thumbsOf 30 = .ok (.ladd, 1) := by decide +kernel
theorem dX12_thumbsOf_31 : decode cX12_thumbsOf 31 = .ok (.lreturn, 1) := by decide +kernel
theorem dX12_winsOf_0 : decode cX12_winsOf 0 = .ok (.lload_n 2, 1) := by decide +kernel
theorem dX12_winsOf_1 : decode cX12_winsOf 1 = .ok (.lconst 0, 1) := by decide +kernel
theorem dX12_winsOf_2 : decode cX12_winsOf 2 = .ok (.aload_n 0, 1) := by decide +kernel
theorem dX12_winsOf_3 : decode cX12_winsOf 3 = .ok (.invokevirtual 463, 3) := by decide +kernel
theorem dX12_winsOf_6 : decode cX12_winsOf 6 = .ok (.iconst 1, 1) := by decide +kernel
theorem dX12_winsOf_7 : decode cX12_winsOf 7 = .ok (.isub, 1) := by decide +kernel
theorem dX12_winsOf_8 : decode cX12_winsOf 8 = .ok (.i2l, 1) := by decide +kernel
theorem dX12_winsOf_9 : decode cX12_winsOf 9 = .ok (.invokestatic 276, 3) := by decide +kernel
theorem dX12_winsOf_12 : decode cX12_winsOf 12 = .ok (.ifCond .ne 5, 3) := by decide +kernel
theorem dX12_winsOf_15 : decode cX12_winsOf 15 = .ok (.lconst 0, 1) := by decide +kernel
theorem dX12_winsOf_16 : decode cX12_winsOf 16 = .ok (.lreturn, 1) := by decide +kernel
theorem dX12_winsOf_17 : decode cX12_winsOf 17 = .ok (.lconst 0, 1) := by decide +kernel
theorem dX12_winsOf_18 : decode cX12_winsOf 18 = .ok (.lstore 4, 2) := by decide +kernel
theorem dX12_winsOf_20 : decode cX12_winsOf 20 = .ok (.lload_n 2, 1) := by decide +kernel
theorem dX12_winsOf_21 : decode cX12_winsOf 21 = .ok (.iload_n 1, 1) := by decide +kernel
theorem dX12_winsOf_22 : decode cX12_winsOf 22 = .ok (.i2l, 1) := by decide +kernel
theorem dX12_winsOf_23 : decode cX12_winsOf 23 = .ok (.lcmp, 1) := by decide +kernel
theorem dX12_winsOf_24 : decode cX12_winsOf 24 = .ok (.ifCond .ne 16, 3) := by decide +kernel
theorem dX12_winsOf_27 : decode cX12_winsOf 27 = .ok (.lload 4, 2) := by decide +kernel
theorem dX12_winsOf_29 : decode cX12_winsOf 29 = .ok (.aload_n 0, 1) := by decide +kernel
theorem dX12_winsOf_30 : decode cX12_winsOf 30 = .ok (.lload_n 2, 1) := by decide +kernel
theorem dX12_winsOf_31 : decode cX12_winsOf 31 = .ok (.l2i, 1) := by decide +kernel
theorem dX12_winsOf_32 : decode cX12_winsOf 32 = .ok (.iconst 0, 1) := by decide +kernel
theorem dX12_winsOf_33 : decode cX12_winsOf 33 = .ok (.invokevirtual 448, 3) := by decide +kernel
theorem dX12_winsOf_36 : decode cX12_winsOf 36 = .ok (.i2l, 1) := by decide +kernel
theorem dX12_winsOf_37 : decode cX12_winsOf 37 = .ok (.ladd, 1) := by decide +kernel
theorem dX12_winsOf_38 : decode cX12_winsOf 38 = .ok (.lstore 4, 2) := by decide +kernel
theorem dX12_winsOf_40 : decode cX12_winsOf 40 = .ok (.lload_n 2, 1) := by decide +kernel
theorem dX12_winsOf_41 : decode cX12_winsOf 41 = .ok (.aload_n 0, 1) := by decide +kernel
theorem dX12_winsOf_42 : decode cX12_winsOf 42 = .ok (.iload_n 1, 1) := by decide +kernel
theorem dX12_winsOf_43 : decode cX12_winsOf 43 = .ok (.invokevirtual 453, 3) := by decide +kernel
theorem dX12_winsOf_46 : decode cX12_winsOf 46 = .ok (.i2l, 1) := by decide +kernel
theorem dX12_winsOf_47 : decode cX12_winsOf 47 = .ok (.lcmp, 1) := by decide +kernel
theorem dX12_winsOf_48 : decode cX12_winsOf 48 = .ok (.ifCond .ne 16, 3) := by decide +kernel
theorem dX12_winsOf_51 : decode cX12_winsOf 51 = .ok (.lload 4, 2) := by decide +kernel
theorem dX12_winsOf_53 : decode cX12_winsOf 53 = .ok (.aload_n 0, 1) := by decide +kernel
theorem dX12_winsOf_54 : decode cX12_winsOf 54 = .ok (.lload_n 2, 1) := by decide +kernel
theorem dX12_winsOf_55 : decode cX12_winsOf 55 = .ok (.l2i, 1) := by decide +kernel
theorem dX12_winsOf_56 : decode cX12_winsOf 56 = .ok (.iconst 1, 1) := by decide +kernel
theorem dX12_winsOf_57 : decode cX12_winsOf 57 = .ok (.invokevirtual 448, 3) := by decide +kernel
theorem dX12_winsOf_60 : decode cX12_winsOf 60 = .ok (.i2l, 1) := by decide +kernel
theorem dX12_winsOf_61 : decode cX12_winsOf 61 = .ok (.ladd, 1) := by decide +kernel
theorem dX12_winsOf_62 : decode cX12_winsOf 62 = .ok (.lstore 4, 2) := by decide +kernel
theorem dX12_winsOf_64 : decode cX12_winsOf 64 = .ok (.lload 4, 2) := by decide +kernel
theorem dX12_winsOf_66 : decode cX12_winsOf 66 = .ok (.lreturn, 1) := by decide +kernel
theorem dX12_checked_0 : decode cX12_checked 0 = .ok (.sipush 227, 3) := by decide +kernel
theorem dX12_checked_3 : decode cX12_checked 3 = .ok (.istore_n 2, 1) := by decide +kernel
theorem dX12_checked_4 : decode cX12_checked 4 = .ok (.iconst 0, 1) := by decide +kernel
theorem dX12_checked_5 : decode cX12_checked 5 = .ok (.istore_n 3, 1) := by decide +kernel
theorem dX12_checked_6 : decode cX12_checked 6 = .ok (.iload_n 3, 1) := by decide +kernel
theorem dX12_checked_7 : decode cX12_checked 7 = .ok (.iload_n 1, 1) := by decide +kernel
theorem dX12_checked_8 : decode cX12_checked 8 = .ok (.if_icmp .ge 21, 3) := by decide +kernel
theorem dX12_checked_11 : decode cX12_checked 11 = .ok (.iconst 3, 1) := by decide +kernel
theorem dX12_checked_12 : decode cX12_checked 12 = .ok (.iload_n 2, 1) := by decide +kernel
theorem dX12_checked_13 : decode cX12_checked 13 = .ok (.imul, 1) := by decide +kernel
theorem dX12_checked_14 : decode cX12_checked 14 = .ok (.aload_n 0, 1) := by decide +kernel
theorem dX12_checked_15 : decode cX12_checked 15 = .ok (.iload_n 3, 1) := by decide +kernel
theorem dX12_checked_16 : decode cX12_checked 16 = .ok (.iaload, 1) := by decide +kernel
theorem dX12_checked_17 : decode cX12_checked 17 = .ok (.iadd, 1) := by decide +kernel
theorem dX12_checked_18 : decode cX12_checked 18 = .ok (.sipush 251, 3) := by decide +kernel
theorem dX12_checked_21 : decode cX12_checked 21 = .ok (.irem, 1) := by decide +kernel
theorem dX12_checked_22 : decode cX12_checked 22 = .ok (.istore_n 2, 1) := by decide +kernel
theorem dX12_checked_23 : decode cX12_checked 23 = .ok (.iinc 3 1, 3) := by decide +kernel
theorem dX12_checked_26 : decode cX12_checked 26 = .ok (.goto (-20), 3) := by decide +kernel
theorem dX12_checked_29 : decode cX12_checked 29 = .ok (.iload_n 2, 1) := by decide +kernel
theorem dX12_checked_30 : decode cX12_checked 30 = .ok (.ireturn, 1) := by decide +kernel
theorem dX12_writes_0 : decode cX12_writes 0 = .ok (.aload_n 0, 1) := by decide +kernel
theorem dX12_writes_1 : decode cX12_writes 1 = .ok (.getfield 230, 3) := by decide +kernel
theorem dX12_writes_4 : decode cX12_writes 4 = .ok (.aload_n 0, 1) := by decide +kernel
theorem dX12_writes_5 : decode cX12_writes 5 = .ok (.getfield 714, 3) := by decide +kernel
theorem dX12_writes_8 : decode cX12_writes 8 = .ok (.iload_n 1, 1) := by decide +kernel
theorem dX12_writes_9 : decode cX12_writes 9 = .ok (.iastore, 1) := by decide +kernel
theorem dX12_writes_10 : decode cX12_writes 10 = .ok (.aload_n 0, 1) := by decide +kernel
theorem dX12_writes_11 : decode cX12_writes 11 = .ok (.dup, 1) := by decide +kernel
theorem dX12_writes_12 : decode cX12_writes 12 = .ok (.getfield 714, 3) := by decide +kernel
theorem dX12_writes_15 : decode cX12_writes 15 = .ok (.iconst 1, 1) := by decide +kernel
theorem dX12_writes_16 : decode cX12_writes 16 = .ok (.iadd, 1) := by decide +kernel
theorem dX12_writes_17 : decode cX12_writes 17 = .ok (.putfield 714, 3) := by decide +kernel
theorem dX12_writes_20 : decode cX12_writes 20 = .ok (.return_, 1) := by decide +kernel
theorem dX12_image_0 : decode cX12_image 0 = .ok (.aload_n 0, 1) := by decide +kernel
theorem dX12_image_1 : decode cX12_image 1 = .ok (.iconst 0, 1) := by decide +kernel
theorem dX12_image_2 : decode cX12_image 2 = .ok (.putfield 714, 3) := by decide +kernel
theorem dX12_image_5 : decode cX12_image 5 = .ok (.iconst 0, 1) := by decide +kernel
theorem dX12_image_6 : decode cX12_image 6 = .ok (.istore_n 1, 1) := by decide +kernel
theorem dX12_image_7 : decode cX12_image 7 = .ok (.iload_n 1, 1) := by decide +kernel
theorem dX12_image_8 : decode cX12_image 8 = .ok (.iconst 3, 1) := by decide +kernel
theorem dX12_image_9 : decode cX12_image 9 = .ok (.if_icmp .ge 37, 3) := by decide +kernel
theorem dX12_image_12 : decode cX12_image 12 = .ok (.aload_n 0, 1) := by decide +kernel
theorem dX12_image_13 : decode cX12_image 13 = .ok (.aload_n 0, 1) := by decide +kernel
theorem dX12_image_14 : decode cX12_image 14 = .ok (.getfield 127, 3) := by decide +kernel
theorem dX12_image_17 : decode cX12_image 17 = .ok (.iload_n 1, 1) := by decide +kernel
theorem dX12_image_18 : decode cX12_image 18 = .ok (.iaload, 1) := by decide +kernel
theorem dX12_image_19 : decode cX12_image 19 = .ok (.sipush 256, 3) := by decide +kernel
theorem dX12_image_22 : decode cX12_image 22 = .ok (.idiv, 1) := by decide +kernel
theorem dX12_image_23 : decode cX12_image 23 = .ok (.invokevirtual 717, 3) := by decide +kernel
theorem dX12_image_26 : decode cX12_image 26 = .ok (.aload_n 0, 1) := by decide +kernel
theorem dX12_image_27 : decode cX12_image 27 = .ok (.aload_n 0, 1) := by decide +kernel
theorem dX12_image_28 : decode cX12_image 28 = .ok (.getfield 127, 3) := by decide +kernel
theorem dX12_image_31 : decode cX12_image 31 = .ok (.iload_n 1, 1) := by decide +kernel
theorem dX12_image_32 : decode cX12_image 32 = .ok (.iaload, 1) := by decide +kernel
theorem dX12_image_33 : decode cX12_image 33 = .ok (.sipush 256, 3) := by decide +kernel
theorem dX12_image_36 : decode cX12_image 36 = .ok (.irem, 1) := by decide +kernel
theorem dX12_image_37 : decode cX12_image 37 = .ok (.invokevirtual 717, 3) := by decide +kernel
theorem dX12_image_40 : decode cX12_image 40 = .ok (.iinc 1 1, 3) := by decide +kernel
theorem dX12_image_43 : decode cX12_image 43 = .ok (.goto (-36), 3) := by decide +kernel
theorem dX12_image_46 : decode cX12_image 46 = .ok (.iconst 0, 1) := by decide +kernel
theorem dX12_image_47 : decode cX12_image 47 = .ok (.istore_n 1, 1) := by decide +kernel
theorem dX12_image_48 : decode cX12_image 48 = .ok (.iload_n 1, 1) := by decide +kernel
theorem dX12_image_49 : decode cX12_image 49 = .ok (.bipush 6, 2) := by decide +kernel
theorem dX12_image_51 : decode cX12_image 51 = .ok (.aload_n 0, 1) := by decide +kernel
theorem dX12_image_52 : decode cX12_image 52 = .ok (.invokevirtual 408, 3) := by decide +kernel
theorem dX12_image_55 : decode cX12_image 55 = .ok (.imul, 1) := by decide +kernel
theorem dX12_image_56 : decode cX12_image 56 = .ok (.if_icmp .ge 21, 3) := by decide +kernel
theorem dX12_image_59 : decode cX12_image 59 = .ok (.aload_n 0, 1) := by decide +kernel
theorem dX12_image_60 : decode cX12_image 60 = .ok (.aload_n 0, 1) := by decide +kernel
theorem dX12_image_61 : decode cX12_image 61 = .ok (.getfield 127, 3) := by decide +kernel
theorem dX12_image_64 : decode cX12_image 64 = .ok (.iconst 3, 1) := by decide +kernel
theorem dX12_image_65 : decode cX12_image 65 = .ok (.iload_n 1, 1) := by decide +kernel
theorem dX12_image_66 : decode cX12_image 66 = .ok (.iadd, 1) := by decide +kernel
theorem dX12_image_67 : decode cX12_image 67 = .ok (.iaload, 1) := by decide +kernel
theorem dX12_image_68 : decode cX12_image 68 = .ok (.invokevirtual 717, 3) := by decide +kernel
theorem dX12_image_71 : decode cX12_image 71 = .ok (.iinc 1 1, 3) := by decide +kernel
theorem dX12_image_74 : decode cX12_image 74 = .ok (.goto (-26), 3) := by decide +kernel
theorem dX12_image_77 : decode cX12_image 77 = .ok (.aload_n 0, 1) := by decide +kernel
theorem dX12_image_78 : decode cX12_image 78 = .ok (.aload_n 0, 1) := by decide +kernel
theorem dX12_image_79 : decode cX12_image 79 = .ok (.getfield 230, 3) := by decide +kernel
theorem dX12_image_82 : decode cX12_image 82 = .ok (.aload_n 0, 1) := by decide +kernel
theorem dX12_image_83 : decode cX12_image 83 = .ok (.getfield 714, 3) := by decide +kernel
theorem dX12_image_86 : decode cX12_image 86 = .ok (.invokestatic 720, 3) := by decide +kernel
theorem dX12_image_89 : decode cX12_image 89 = .ok (.invokevirtual 717, 3) := by decide +kernel
theorem dX12_image_92 : decode cX12_image 92 = .ok (.aload_n 0, 1) := by decide +kernel
theorem dX12_image_93 : decode cX12_image 93 = .ok (.getfield 714, 3) := by decide +kernel
theorem dX12_image_96 : decode cX12_image 96 = .ok (.ireturn, 1) := by decide +kernel
theorem dX12_octet_0 : decode cX12_octet 0 = .ok (.iload_n 1, 1) := by decide +kernel
theorem dX12_octet_1 : decode cX12_octet 1 = .ok (.ifCond .lt 20, 3) := by decide +kernel
theorem dX12_octet_4 : decode cX12_octet 4 = .ok (.iload_n 1, 1) := by decide +kernel
theorem dX12_octet_5 : decode cX12_octet 5 = .ok (.aload_n 0, 1) := by decide +kernel
theorem dX12_octet_6 : decode cX12_octet 6 = .ok (.getfield 714, 3) := by decide +kernel
theorem dX12_octet_9 : decode cX12_octet 9 = .ok (.if_icmp .ge 12, 3) := by decide +kernel
theorem dX12_octet_12 : decode cX12_octet 12 = .ok (.aload_n 0, 1) := by decide +kernel
theorem dX12_octet_13 : decode cX12_octet 13 = .ok (.getfield 230, 3) := by decide +kernel
theorem dX12_octet_16 : decode cX12_octet 16 = .ok (.iload_n 1, 1) := by decide +kernel
theorem dX12_octet_17 : decode cX12_octet 17 = .ok (.iaload, 1) := by decide +kernel
theorem dX12_octet_18 : decode cX12_octet 18 = .ok (.goto 4, 3) := by decide +kernel
theorem dX12_octet_21 : decode cX12_octet 21 = .ok (.iconst (-1), 1) := by decide +kernel
theorem dX12_octet_22 : decode cX12_octet 22 = .ok (.ireturn, 1) := by decide +kernel
theorem dX12_isSeatTold_0 : decode cX12_isSeatTold 0 = .ok (.bipush 6, 2) := by decide +kernel
theorem dX12_isSeatTold_2 : decode cX12_isSeatTold 2 = .ok (.bipush 6, 2) := by decide +kernel
theorem dX12_isSeatTold_4 : decode cX12_isSeatTold 4 = .ok (.iload_n 1, 1) := by decide +kernel
theorem dX12_isSeatTold_5 : decode cX12_isSeatTold 5 = .ok (.imul, 1) := by decide +kernel
theorem dX12_isSeatTold_6 : decode cX12_isSeatTold 6 = .ok (.iadd, 1) := by decide +kernel
theorem dX12_isSeatTold_7 : decode cX12_isSeatTold 7 = .ok (.istore_n 2, 1) := by decide +kernel
theorem dX12_isSeatTold_8 : decode cX12_isSeatTold 8 = .ok (.aload_n 0, 1) := by decide +kernel
theorem dX12_isSeatTold_9 : decode cX12_isSeatTold 9 = .ok (.getfield 7, 3) := by decide +kernel
theorem dX12_isSeatTold_12 : decode cX12_isSeatTold 12 = .ok (.iload_n 2, 1) := by decide +kernel
theorem dX12_isSeatTold_13 : decode cX12_isSeatTold 13 = .ok (.iaload, 1) := by decide +kernel
theorem dX12_isSeatTold_14 : decode cX12_isSeatTold 14 = .ok (.aload_n 0, 1) := by decide +kernel
theorem dX12_isSeatTold_15 : decode cX12_isSeatTold 15 = .ok (.invokevirtual 408, 3) := by decide +kernel
theorem dX12_isSeatTold_18 : decode cX12_isSeatTold 18 = .ok (.if_icmp .ge 66, 3) := by decide +kernel
theorem dX12_isSeatTold_21 : decode cX12_isSeatTold 21 = .ok (.aload_n 0, 1) := by decide +kernel
theorem dX12_isSeatTold_22 : decode cX12_isSeatTold 22 = .ok (.getfield 7, 3) := by decide +kernel
theorem dX12_isSeatTold_25 : decode cX12_isSeatTold 25 = .ok (.iload_n 2, 1) := by decide +kernel
theorem dX12_isSeatTold_26 : decode cX12_isSeatTold 26 = .ok (.iconst 1, 1) := by decide +kernel
theorem dX12_isSeatTold_27 : decode cX12_isSeatTold 27 = .ok (.iadd, 1) := by decide +kernel
theorem dX12_isSeatTold_28 : decode cX12_isSeatTold 28 = .ok (.iaload, 1) := by decide +kernel
theorem dX12_isSeatTold_29 : decode cX12_isSeatTold 29 = .ok (.bipush 99, 2) := by decide +kernel
theorem dX12_isSeatTold_31 : decode cX12_isSeatTold 31 = .ok (.if_icmp .gt 53, 3) := by decide +kernel
theorem dX12_isSeatTold_34 : decode cX12_isSeatTold 34 = .ok (.aload_n 0, 1) := by decide +kernel
theorem dX12_isSeatTold_35 : decode cX12_isSeatTold 35 = .ok (.getfield 7, 3) := by decide +kernel
theorem dX12_isSeatTold_38 : decode cX12_isSeatTold 38 = .ok (.iload_n 2, 1) := by decide +kernel
theorem dX12_isSeatTold_39 : decode cX12_isSeatTold 39 = .ok (.iconst 2, 1) := by decide +kernel
theorem dX12_isSeatTold_40 : decode cX12_isSeatTold 40 = .ok (.iadd, 1) := by decide +kernel
theorem dX12_isSeatTold_41 : decode cX12_isSeatTold 41 = .ok (.iaload, 1) := by decide +kernel
theorem dX12_isSeatTold_42 : decode cX12_isSeatTold 42 = .ok (.iconst 2, 1) := by decide +kernel
theorem dX12_isSeatTold_43 : decode cX12_isSeatTold 43 = .ok (.if_icmp .gt 41, 3) := by decide +kernel
theorem dX12_isSeatTold_46 : decode cX12_isSeatTold 46 = .ok (.aload_n 0, 1) := by decide +kernel
theorem dX12_isSeatTold_47 : decode cX12_isSeatTold 47 = .ok (.getfield 7, 3) := by decide +kernel
theorem dX12_isSeatTold_50 : decode cX12_isSeatTold 50 = .ok (.iload_n 2, 1) := by decide +kernel
theorem dX12_isSeatTold_51 : decode cX12_isSeatTold 51 = .ok (.iconst 3, 1) := by decide +kernel
theorem dX12_isSeatTold_52 : decode cX12_isSeatTold 52 = .ok (.iadd, 1) := by decide +kernel
theorem dX12_isSeatTold_53 : decode cX12_isSeatTold 53 = .ok (.iaload, 1) := by decide +kernel
theorem dX12_isSeatTold_54 : decode cX12_isSeatTold 54 = .ok (.bipush 9, 2) := by decide +kernel
theorem dX12_isSeatTold_56 : decode cX12_isSeatTold 56 = .ok (.if_icmp .gt 28, 3) := by decide +kernel
theorem dX12_isSeatTold_59 : decode cX12_isSeatTold 59 = .ok (.aload_n 0, 1) := by decide +kernel
theorem dX12_isSeatTold_60 : decode cX12_isSeatTold 60 = .ok (.getfield 7, 3) := by decide +kernel
theorem dX12_isSeatTold_63 : decode cX12_isSeatTold 63 = .ok (.iload_n 2, 1) := by decide +kernel
theorem dX12_isSeatTold_64 : decode cX12_isSeatTold 64 = .ok (.iconst 4, 1) := by decide +kernel
theorem dX12_isSeatTold_65 : decode cX12_isSeatTold 65 = .ok (.iadd, 1) := by decide +kernel
theorem dX12_isSeatTold_66 : decode cX12_isSeatTold 66 = .ok (.iaload, 1) := by decide +kernel
theorem dX12_isSeatTold_67 : decode cX12_isSeatTold 67 = .ok (.iconst 2, 1) := by decide +kernel
theorem dX12_isSeatTold_68 : decode cX12_isSeatTold 68 = .ok (.if_icmp .gt 16, 3) := by decide +kernel
theorem dX12_isSeatTold_71 : decode cX12_isSeatTold 71 = .ok (.aload_n 0, 1) := by decide +kernel
theorem dX12_isSeatTold_72 : decode cX12_isSeatTold 72 = .ok (.getfield 7, 3) := by decide +kernel
theorem dX12_isSeatTold_75 : decode cX12_isSeatTold 75 = .ok (.iload_n 2, 1) := by decide +kernel
theorem dX12_isSeatTold_76 : decode cX12_isSeatTold 76 = .ok (.iconst 5, 1) := by decide +kernel
theorem dX12_isSeatTold_77 : decode cX12_isSeatTold 77 = .ok (.iadd, 1) := by decide +kernel
theorem dX12_isSeatTold_78 : decode cX12_isSeatTold 78 = .ok (.iaload, 1) := by decide +kernel
theorem dX12_isSeatTold_79 : decode cX12_isSeatTold 79 = .ok (.bipush 9, 2) := by decide +kernel
theorem dX12_isSeatTold_81 : decode cX12_isSeatTold 81 = .ok (.if_icmp .le 5, 3) := by decide +kernel
theorem dX12_isSeatTold_84 : decode cX12_isSeatTold 84 = .ok (.iconst 0, 1) := by decide +kernel
theorem dX12_isSeatTold_85 : decode cX12_isSeatTold 85 = .ok (.ireturn, 1) := by decide +kernel
theorem dX12_isSeatTold_86 : decode cX12_isSeatTold 86 = .ok (.iconst 0, 1) := by decide +kernel
theorem dX12_isSeatTold_87 : decode cX12_isSeatTold 87 = .ok (.istore_n 3, 1) := by decide +kernel
theorem dX12_isSeatTold_88 : decode cX12_isSeatTold 88 = .ok (.iload_n 3, 1) := by decide +kernel
theorem dX12_isSeatTold_89 : decode cX12_isSeatTold 89 = .ok (.iload_n 1, 1) := by decide +kernel
theorem dX12_isSeatTold_90 : decode cX12_isSeatTold 90 = .ok (.if_icmp .ge 32, 3) := by decide +kernel
theorem dX12_isSeatTold_93 : decode cX12_isSeatTold 93 = .ok (.aload_n 0, 1) := by decide +kernel
theorem dX12_isSeatTold_94 : decode cX12_isSeatTold 94 = .ok (.getfield 7, 3) := by decide +kernel
theorem dX12_isSeatTold_97 : decode cX12_isSeatTold 97 = .ok (.bipush 6, 2) := by decide +kernel
theorem dX12_isSeatTold_99 : decode cX12_isSeatTold 99 = .ok (.bipush 6, 2) := by decide +kernel
theorem dX12_isSeatTold_101 : decode cX12_isSeatTold 101 = .ok (.iload_n 3, 1) := by decide +kernel
theorem dX12_isSeatTold_102 : decode cX12_isSeatTold 102 = .ok (.imul, 1) := by decide +kernel
theorem dX12_isSeatTold_103 : decode cX12_isSeatTold 103 = .ok (.iadd, 1) := by decide +kernel
theorem dX12_isSeatTold_104 : decode cX12_isSeatTold 104 = .ok (.iaload, 1) := by decide +kernel
theorem dX12_isSeatTold_105 : decode cX12_isSeatTold 105 = .ok (.aload_n 0, 1) := by decide +kernel
theorem dX12_isSeatTold_106 : decode cX12_isSeatTold 106 = .ok (.getfield 7, 3) := by decide +kernel
theorem dX12_isSeatTold_109 : decode cX12_isSeatTold 109 = .ok (.iload_n 2, 1) := by decide +kernel
theorem dX12_isSeatTold_110 : decode cX12_isSeatTold 110 = .ok (.iaload, 1) := by decide +kernel
theorem dX12_isSeatTold_111 : decode cX12_isSeatTold 111 = .ok (.if_icmp .ne 5, 3) := by decide +kernel
theorem dX12_isSeatTold_114 : decode cX12_isSeatTold 114 = .ok (.iconst 0, 1) := by decide +kernel
theorem dX12_isSeatTold_115 : decode cX12_isSeatTold 115 = .ok (.ireturn, 1) := by decide +kernel
theorem dX12_isSeatTold_116 : decode cX12_isSeatTold 116 = .ok (.iinc 3 1, 3) := by decide +kernel
theorem dX12_isSeatTold_119 : decode cX12_isSeatTold 119 = .ok (.goto (-31), 3) := by decide +kernel
theorem dX12_isSeatTold_122 : decode cX12_isSeatTold 122 = .ok (.iconst 1, 1) := by decide +kernel
theorem dX12_isSeatTold_123 : decode cX12_isSeatTold 123 = .ok (.ireturn, 1) := by decide +kernel
theorem dX12_isTold_0 : decode cX12_isTold 0 = .ok (.iload_n 1, 1) := by decide +kernel
theorem dX12_isTold_1 : decode cX12_isTold 1 = .ok (.bipush 7, 2) := by decide +kernel
theorem dX12_isTold_3 : decode cX12_isTold 3 = .ok (.bipush 6, 2) := by decide +kernel
theorem dX12_isTold_5 : decode cX12_isTold 5 = .ok (.aload_n 0, 1) := by decide +kernel
theorem dX12_isTold_6 : decode cX12_isTold 6 = .ok (.invokevirtual 408, 3) := by decide +kernel
theorem dX12_isTold_9 : decode cX12_isTold 9 = .ok (.imul, 1) := by decide +kernel
theorem dX12_isTold_10 : decode cX12_isTold 10 = .ok (.iadd, 1) := by decide +kernel
theorem dX12_isTold_11 : decode cX12_isTold 11 = .ok (.if_icmp .ne 24, 3) := by decide +kernel
theorem dX12_isTold_14 : decode cX12_isTold 14 = .ok (.aload_n 0, 1) := by decide +kernel
theorem dX12_isTold_15 : decode cX12_isTold 15 = .ok (.getfield 7, 3) := by decide +kernel
theorem dX12_isTold_18 : decode cX12_isTold 18 = .ok (.iload_n 1, 1) := by decide +kernel
theorem dX12_isTold_19 : decode cX12_isTold 19 = .ok (.iconst 1, 1) := by decide +kernel
theorem dX12_isTold_20 : decode cX12_isTold 20 = .ok (.isub, 1) := by decide +kernel
theorem dX12_isTold_21 : decode cX12_isTold 21 = .ok (.iaload, 1) := by decide +kernel
theorem dX12_isTold_22 : decode cX12_isTold 22 = .ok (.aload_n 0, 1) := by decide +kernel
theorem dX12_isTold_23 : decode cX12_isTold 23 = .ok (.getfield 7, 3) := by decide +kernel
theorem dX12_isTold_26 : decode cX12_isTold 26 = .ok (.iload_n 1, 1) := by decide +kernel
theorem dX12_isTold_27 : decode cX12_isTold 27 = .ok (.iconst 1, 1) := by decide +kernel
theorem dX12_isTold_28 : decode cX12_isTold 28 = .ok (.isub, 1) := by decide +kernel
theorem dX12_isTold_29 : decode cX12_isTold 29 = .ok (.invokestatic 720, 3) := by decide +kernel
theorem dX12_isTold_32 : decode cX12_isTold 32 = .ok (.if_icmp .eq 5, 3) := by decide +kernel
theorem dX12_isTold_35 : decode cX12_isTold 35 = .ok (.iconst 0, 1) := by decide +kernel
theorem dX12_isTold_36 : decode cX12_isTold 36 = .ok (.ireturn, 1) := by decide +kernel
theorem dX12_isTold_37 : decode cX12_isTold 37 = .ok (.iconst 0, 1) := by decide +kernel
theorem dX12_isTold_38 : decode cX12_isTold 38 = .ok (.istore_n 2, 1) := by decide +kernel
theorem dX12_isTold_39 : decode cX12_isTold 39 = .ok (.iload_n 2, 1) := by decide +kernel
theorem dX12_isTold_40 : decode cX12_isTold 40 = .ok (.iconst 3, 1) := by decide +kernel
theorem dX12_isTold_41 : decode cX12_isTold 41 = .ok (.if_icmp .ge 40, 3) := by decide +kernel
theorem dX12_isTold_44 : decode cX12_isTold 44 = .ok (.sipush 256, 3) := by decide +kernel
theorem dX12_isTold_47 : decode cX12_isTold 47 = .ok (.aload_n 0, 1) := by decide +kernel
theorem dX12_isTold_48 : decode cX12_isTold 48 = .ok (.getfield 7, 3) := by decide +kernel
theorem dX12_isTold_51 : decode cX12_isTold 51 = .ok (.iconst 2, 1) := by decide +kernel
theorem dX12_isTold_52 : decode cX12_isTold 52 = .ok (.iload_n 2, 1) := by decide +kernel
theorem dX12_isTold_53 : decode cX12_isTold 53 = .ok (.imul, 1) := by decide +kernel
theorem dX12_isTold_54 : decode cX12_isTold 54 = .ok (.iaload, 1) := by decide +kernel
theorem dX12_isTold_55 : decode cX12_isTold 55 = .ok (.imul, 1) := by decide +kernel
theorem dX12_isTold_56 : decode cX12_isTold 56 = .ok (.aload_n 0, 1) := by decide +kernel
theorem dX12_isTold_57 : decode cX12_isTold 57 = .ok (.getfield 7, 3) := by decide +kernel
theorem dX12_isTold_60 : decode cX12_isTold 60 = .ok (.iconst 2, 1) := by decide +kernel
theorem dX12_isTold_61 : decode cX12_isTold 61 = .ok (.iload_n 2, 1) := by decide +kernel
theorem dX12_isTold_62 : decode cX12_isTold 62 = .ok (.imul, 1) := by decide +kernel
theorem dX12_isTold_63 : decode cX12_isTold 63 = .ok (.iconst 1, 1) := by decide +kernel
theorem dX12_isTold_64 : decode cX12_isTold 64 = .ok (.iadd, 1) := by decide +kernel
theorem dX12_isTold_65 : decode cX12_isTold 65 = .ok (.iaload, 1) := by decide +kernel
theorem dX12_isTold_66 : decode cX12_isTold 66 = .ok (.iadd, 1) := by decide +kernel
theorem dX12_isTold_67 : decode cX12_isTold 67 = .ok (.sipush 9999, 3) := by decide +kernel
theorem dX12_isTold_70 : decode cX12_isTold 70 = .ok (.if_icmp .le 5, 3) := by decide +kernel
theorem dX12_isTold_73 : decode cX12_isTold 73 = .ok (.iconst 0, 1) := by decide +kernel
theorem dX12_isTold_74 : decode cX12_isTold 74 = .ok (.ireturn, 1) := by decide +kernel
theorem dX12_isTold_75 : decode cX12_isTold 75 = .ok (.iinc 2 1, 3) := by decide +kernel
theorem dX12_isTold_78 : decode cX12_isTold 78 = .ok (.goto (-39), 3) := by decide +kernel
theorem dX12_isTold_81 : decode cX12_isTold 81 = .ok (.iconst 0, 1) := by decide +kernel
theorem dX12_isTold_82 : decode cX12_isTold 82 = .ok (.istore_n 2, 1) := by decide +kernel
theorem dX12_isTold_83 : decode cX12_isTold 83 = .ok (.iload_n 2, 1) := by decide +kernel
theorem dX12_isTold_84 : decode cX12_isTold 84 = .ok (.aload_n 0, 1) := by decide +kernel
theorem dX12_isTold_85 : decode cX12_isTold 85 = .ok (.invokevirtual 408, 3) := by decide +kernel
theorem dX12_isTold_88 : decode cX12_isTold 88 = .ok (.if_icmp .ge 19, 3) := by decide +kernel
theorem dX12_isTold_91 : decode cX12_isTold 91 = .ok (.aload_n 0, 1) := by decide +kernel
theorem dX12_isTold_92 : decode cX12_isTold 92 = .ok (.iload_n 2, 1) := by decide +kernel
theorem dX12_isTold_93 : decode cX12_isTold 93 = .ok (.invokevirtual 724, 3) := by decide +kernel
theorem dX12_isTold_96 : decode cX12_isTold 96 = .ok (.ifCond .ne 5, 3) := by decide +kernel
theorem dX12_isTold_99 : decode cX12_isTold 99 = .ok (.iconst 0, 1) := by decide +kernel
theorem dX12_isTold_100 : decode cX12_isTold 100 = .ok (.ireturn, 1) := by decide +kernel
theorem dX12_isTold_101 : decode cX12_isTold 101 = .ok (.iinc 2 1, 3) := by decide +kernel
theorem dX12_isTold_104 : decode cX12_isTold 104 = .ok (.goto (-21), 3) := by decide +kernel
theorem dX12_isTold_107 : decode cX12_isTold 107 = .ok (.iconst 1, 1) := by decide +kernel
theorem dX12_isTold_108 : decode cX12_isTold 108 = .ok (.ireturn, 1) := by decide +kernel
theorem dX12_restore_0 : decode cX12_restore 0 = .ok (.aload_n 0, 1) := by decide +kernel
theorem dX12_restore_1 : decode cX12_restore 1 = .ok (.getfield 233, 3) := by decide +kernel
theorem dX12_restore_4 : decode cX12_restore 4 = .ok (.istore_n 1, 1) := by decide +kernel
theorem dX12_restore_5 : decode cX12_restore 5 = .ok (.aload_n 0, 1) := by decide +kernel
theorem dX12_restore_6 : decode cX12_restore 6 = .ok (.iconst 0, 1) := by decide +kernel
theorem dX12_restore_7 : decode cX12_restore 7 = .ok (.putfield 233, 3) := by decide +kernel
theorem dX12_restore_10 : decode cX12_restore 10 = .ok (.aload_n 0, 1) := by decide +kernel
theorem dX12_restore_11 : decode cX12_restore 11 = .ok (.iload_n 1, 1) := by decide +kernel
theorem dX12_restore_12 : decode cX12_restore 12 = .ok (.invokevirtual 727, 3) := by decide +kernel
theorem dX12_restore_15 : decode cX12_restore 15 = .ok (.ifCond .ne 15, 3) := by decide +kernel
theorem dX12_restore_18 : decode cX12_restore 18 = .ok (.aload_n 0, 1) := by decide +kernel
theorem dX12_restore_19 : decode cX12_restore 19 = .ok (.getfield 17, 3) := by decide +kernel
theorem dX12_restore_22 : decode cX12_restore 22 = .ok (.iconst 5, 1) := by decide +kernel
theorem dX12_restore_23 : decode cX12_restore 23 = .ok (.dup2, 1) := by decide +kernel
theorem dX12_restore_24 : decode cX12_restore 24 = .ok (.iaload, 1) := by decide +kernel
theorem dX12_restore_25 : decode cX12_restore 25 = .ok (.iconst 1, 1) := by decide +kernel
theorem dX12_restore_26 : decode cX12_restore 26 = .ok (.iadd, 1) := by decide +kernel
theorem dX12_restore_27 : decode cX12_restore 27 = .ok (.iastore, 1) := by decide +kernel
theorem dX12_restore_28 : decode cX12_restore 28 = .ok (.iconst 0, 1) := by decide +kernel
theorem dX12_restore_29 : decode cX12_restore 29 = .ok (.ireturn, 1) := by decide +kernel
theorem dX12_restore_30 : decode cX12_restore 30 = .ok (.iconst 0, 1) := by decide +kernel
theorem dX12_restore_31 : decode cX12_restore 31 = .ok (.istore_n 2, 1) := by decide +kernel
theorem dX12_restore_32 : decode cX12_restore 32 = .ok (.iload_n 2, 1) := by decide +kernel
theorem dX12_restore_33 : decode cX12_restore 33 = .ok (.iconst 3, 1) := by decide +kernel
theorem dX12_restore_34 : decode cX12_restore 34 = .ok (.if_icmp .ge 38, 3) := by decide +kernel
theorem dX12_restore_37 : decode cX12_restore 37 = .ok (.aload_n 0, 1) := by decide +kernel
theorem dX12_restore_38 : decode cX12_restore 38 = .ok (.getfield 127, 3) := by decide +kernel
theorem dX12_restore_41 : decode cX12_restore 41 = .ok (.iload_n 2, 1) := by decide +kernel
theorem dX12_restore_42 : decode cX12_restore 42 = .ok (.sipush 256, 3) := by decide +kernel
theorem dX12_restore_45 : decode cX12_restore 45 = .ok (.aload_n 0, 1) := by decide +kernel
theorem dX12_restore_46 : decode cX12_restore 46 = .ok (.getfield 7, 3) := by decide +kernel
theorem dX12_restore_49 : decode cX12_restore 49 = .ok (.iconst 2, 1) := by decide +kernel
theorem dX12_restore_50 : decode cX12_restore 50 = .ok (.iload_n 2, 1) := by decide +kernel
theorem dX12_restore_51 : decode cX12_restore 51 = .ok (.imul, 1) := by decide +kernel
theorem dX12_restore_52 : decode cX12_restore 52 = .ok (.iaload, 1) := by decide +kernel
theorem dX12_restore_53 : decode cX12_restore 53 = .ok (.imul, 1) := by decide +kernel
theorem dX12_restore_54 : decode cX12_restore 54 = .ok (.aload_n 0, 1) := by decide +kernel
theorem dX12_restore_55 : decode cX12_restore 55 = .ok (.getfield 7, 3) := by decide +kernel
theorem dX12_restore_58 : decode cX12_restore 58 = .ok (.iconst 2, 1) := by decide +kernel
theorem dX12_restore_59 : decode cX12_restore 59 = .ok (.iload_n 2, 1) := by decide +kernel
theorem dX12_restore_60 : decode cX12_restore 60 = .ok (.imul, 1) := by decide +kernel
theorem dX12_restore_61 : decode cX12_restore 61 = .ok (.iconst 1, 1) := by decide +kernel
theorem dX12_restore_62 : decode cX12_restore 62 = .ok (.iadd, 1) := by decide +kernel
theorem dX12_restore_63 : decode cX12_restore 63 = .ok (.iaload, 1) := by decide +kernel
theorem dX12_restore_64 : decode cX12_restore 64 = .ok (.iadd, 1) := by decide +kernel
theorem dX12_restore_65 : decode cX12_restore 65 = .ok (.iastore, 1) := by decide +kernel
theorem dX12_restore_66 : decode cX12_restore 66 = .ok (.iinc 2 1, 3) := by decide +kernel
theorem dX12_restore_69 : decode cX12_restore 69 = .ok (.goto (-37), 3) := by decide +kernel
theorem dX12_restore_72 : decode cX12_restore 72 = .ok (.iconst 0, 1) := by decide +kernel
theorem dX12_restore_73 : decode cX12_restore 73 = .ok (.istore_n 2, 1) := by decide +kernel
theorem dX12_restore_74 : decode cX12_restore 74 = .ok (.iload_n 2, 1) := by decide +kernel
theorem dX12_restore_75 : decode cX12_restore 75 = .ok (.bipush 6, 2) := by decide +kernel
theorem dX12_restore_77 : decode cX12_restore 77 = .ok (.aload_n 0, 1) := by decide +kernel
theorem dX12_restore_78 : decode cX12_restore 78 = .ok (.invokevirtual 408, 3) := by decide +kernel
theorem dX12_restore_81 : decode cX12_restore 81 = .ok (.imul, 1) := by decide +kernel
theorem dX12_restore_82 : decode cX12_restore 82 = .ok (.if_icmp .ge 26, 3) := by decide +kernel
theorem dX12_restore_85 : decode cX12_restore 85 = .ok (.aload_n 0, 1) := by decide +kernel
theorem dX12_restore_86 : decode cX12_restore 86 = .ok (.getfield 127, 3) := by decide +kernel
theorem dX12_restore_89 : decode cX12_restore 89 = .ok (.iconst 3, 1) := by decide +kernel
theorem dX12_restore_90 : decode cX12_restore 90 = .ok (.iload_n 2, 1) := by decide +kernel
theorem dX12_restore_91 : decode cX12_restore 91 = .ok (.iadd, 1) := by decide +kernel
theorem dX12_restore_92 : decode cX12_restore 92 = .ok (.aload_n 0, 1) := by decide +kernel
theorem dX12_restore_93 : decode cX12_restore 93 = .ok (.getfield 7, 3) := by decide +kernel
theorem dX12_restore_96 : decode cX12_restore 96 = .ok (.bipush 6, 2) := by decide +kernel
theorem dX12_restore_98 : decode cX12_restore 98 = .ok (.iload_n 2, 1) := by decide +kernel
theorem dX12_restore_99 : decode cX12_restore 99 = .ok (.iadd, 1) := by decide +kernel
theorem dX12_restore_100 : decode cX12_restore 100 = .ok (.iaload, 1) := by decide +kernel
theorem dX12_restore_101 : decode cX12_restore 101 = .ok (.iastore, 1) := by decide +kernel
theorem dX12_restore_102 : decode cX12_restore 102 = .ok (.iinc 2 1, 3) := by decide +kernel
theorem dX12_restore_105 : decode cX12_restore 105 = .ok (.goto (-31), 3) := by decide +kernel
theorem dX12_restore_108 : decode cX12_restore 108 = .ok (.aload_n 0, 1) := by decide +kernel
theorem dX12_restore_109 : decode cX12_restore 109 = .ok (.iconst 0, 1) := by decide +kernel
theorem dX12_restore_110 : decode cX12_restore 110 = .ok (.putfield 359, 3) := by decide +kernel
theorem dX12_restore_113 : decode cX12_restore 113 = .ok (.iconst 1, 1) := by decide +kernel
theorem dX12_restore_114 : decode cX12_restore 114 = .ok (.ireturn, 1) := by decide +kernel
theorem dX12_status_0 : decode cX12_status 0 = .ok (.iload_n 1, 1) := by decide +kernel
theorem dX12_status_1 : decode cX12_status 1 = .ok (.i2l, 1) := by decide +kernel
theorem dX12_status_2 : decode cX12_status 2 = .ok (.lconst 0, 1) := by decide +kernel
theorem dX12_status_3 : decode cX12_status 3 = .ok (.ldc2_w 475, 3) := by decide +kernel
theorem dX12_status_6 : decode cX12_status 6 = .ok (.invokestatic 276, 3) := by decide +kernel
theorem dX12_status_9 : decode cX12_status 9 = .ok (.ifCond .eq 12, 3) := by decide +kernel
theorem dX12_status_12 : decode cX12_status 12 = .ok (.aload_n 0, 1) := by decide +kernel
theorem dX12_status_13 : decode cX12_status 13 = .ok (.getfield 17, 3) := by decide +kernel
theorem dX12_status_16 : decode cX12_status 16 = .ok (.iload_n 1, 1) := by decide +kernel
theorem dX12_status_17 : decode cX12_status 17 = .ok (.iaload, 1) := by decide +kernel
theorem dX12_status_18 : decode cX12_status 18 = .ok (.goto 4, 3) := by decide +kernel
theorem dX12_status_21 : decode cX12_status 21 = .ok (.iconst (-1), 1) := by decide +kernel
theorem dX12_status_22 : decode cX12_status 22 = .ok (.ireturn, 1) := by decide +kernel
