theorem dX0_init_0 : decode cX0_init 0 = .ok (.aload_n 0, 1) := by decide +kernel
theorem dX0_init_1 : decode cX0_init 1 = .ok (.invokespecial 3, 3) := by decide +kernel
theorem dX0_init_4 : decode cX0_init 4 = .ok (.aload_n 0, 1) := by decide +kernel
theorem dX0_init_5 : decode cX0_init 5 = .ok (.sipush 1600, 3) := by decide +kernel
theorem dX0_init_8 : decode cX0_init 8 = .ok (.newarray .int, 2) := by decide +kernel
theorem dX0_init_10 : decode cX0_init 10 = .ok (.putfield 9, 3) := by decide +kernel
theorem dX0_init_13 : decode cX0_init 13 = .ok (.aload_n 0, 1) := by decide +kernel
theorem dX0_init_14 : decode cX0_init 14 = .ok (.bipush 64, 2) := by decide +kernel
theorem dX0_init_16 : decode cX0_init 16 = .ok (.newarray .int, 2) := by decide +kernel
theorem dX0_init_18 : decode cX0_init 18 = .ok (.putfield 15, 3) := by decide +kernel
theorem dX0_init_21 : decode cX0_init 21 = .ok (.aload_n 0, 1) := by decide +kernel
theorem dX0_init_22 : decode cX0_init 22 = .ok (.iconst 0, 1) := by decide +kernel
theorem dX0_init_23 : decode cX0_init 23 = .ok (.putfield 18, 3) := by decide +kernel
theorem dX0_init_26 : decode cX0_init 26 = .ok (.return_, 1) := by decide +kernel
theorem dX0_clear_0 : decode cX0_clear 0 = .ok (.aload_n 0, 1) := by decide +kernel
theorem dX0_clear_1 : decode cX0_clear 1 = .ok (.iconst 0, 1) := by decide +kernel
theorem dX0_clear_2 : decode cX0_clear 2 = .ok (.putfield 18, 3) := by decide +kernel
theorem dX0_clear_5 : decode cX0_clear 5 = .ok (.return_, 1) := by decide +kernel
theorem dX0_add_0 : decode cX0_add 0 = .ok (.aload_n 0, 1) := by decide +kernel
theorem dX0_add_1 : decode cX0_add 1 = .ok (.getfield 18, 3) := by decide +kernel
theorem dX0_add_4 : decode cX0_add 4 = .ok (.aload_n 0, 1) := by decide +kernel
theorem dX0_add_5 : decode cX0_add 5 = .ok (.getfield 9, 3) := by decide +kernel
theorem dX0_add_8 : decode cX0_add 8 = .ok (.arraylength, 1) := by decide +kernel
theorem dX0_add_9 : decode cX0_add 9 = .ok (.if_icmp .ge 28, 3) := by decide +kernel
theorem dX0_add_12 : decode cX0_add 12 = .ok (.aload_n 0, 1) := by decide +kernel
theorem dX0_add_13 : decode cX0_add 13 = .ok (.getfield 9, 3) := by decide +kernel
theorem dX0_add_16 : decode cX0_add 16 = .ok (.aload_n 0, 1) := by decide +kernel
theorem dX0_add_17 : decode cX0_add 17 = .ok (.getfield 18, 3) := by decide +kernel
theorem dX0_add_20 : decode cX0_add 20 = .ok (.iload_n 1, 1) := by decide +kernel
theorem dX0_add_21 : decode cX0_add 21 = .ok (.bipush 14, 2) := by decide +kernel
theorem dX0_add_23 : decode cX0_add 23 = .ok (.ishl, 1) := by decide +kernel
theorem dX0_add_24 : decode cX0_add 24 = .ok (.iload_n 2, 1) := by decide +kernel
theorem dX0_add_25 : decode cX0_add 25 = .ok (.ior, 1) := by decide +kernel
theorem dX0_add_26 : decode cX0_add 26 = .ok (.iastore, 1) := by decide +kernel
theorem dX0_add_27 : decode cX0_add 27 = .ok (.aload_n 0, 1) := by decide +kernel
theorem dX0_add_28 : decode cX0_add 28 = .ok (.dup, 1) := by decide +kernel
theorem dX0_add_29 : decode cX0_add 29 = .ok (.getfield 18, 3) := by decide +kernel
theorem dX0_add_32 : decode cX0_add 32 = .ok (.iconst 1, 1) := by decide +kernel
theorem dX0_add_33 : decode cX0_add 33 = .ok (.iadd, 1) := by decide +kernel
theorem dX0_add_34 : decode cX0_add 34 = .ok (.putfield 18, 3) := by decide +kernel
theorem dX0_add_37 : decode cX0_add 37 = .ok (.return_, 1) := by decide +kernel
theorem dX0_value_0 : decode cX0_value 0 = .ok (.iconst 0, 1) := by decide +kernel
theorem dX0_value_1 : decode cX0_value 1 = .ok (.istore_n 2, 1) := by decide +kernel
theorem dX0_value_2 : decode cX0_value 2 = .ok (.iconst 0, 1) := by decide +kernel
theorem dX0_value_3 : decode cX0_value 3 = .ok (.istore_n 3, 1) := by decide +kernel
theorem dX0_value_4 : decode cX0_value 4 = .ok (.iload_n 3, 1) := by decide +kernel
theorem dX0_value_5 : decode cX0_value 5 = .ok (.aload_n 0, 1) := by decide +kernel
theorem dX0_value_6 : decode cX0_value 6 = .ok (.getfield 18, 3) := by decide +kernel
theorem dX0_value_9 : decode cX0_value 9 = .ok (.if_icmp .ge 161, 3) := by decide +kernel
theorem dX0_value_12 : decode cX0_value 12 = .ok (.aload_n 0, 1) := by decide +kernel
theorem dX0_value_13 : decode cX0_value 13 = .ok (.getfield 9, 3) := by decide +kernel
theorem dX0_value_16 : decode cX0_value 16 = .ok (.iload_n 3, 1) := by decide +kernel
theorem dX0_value_17 : decode cX0_value 17 = .ok (.iaload, 1) := by decide +kernel
theorem dX0_value_18 : decode cX0_value 18 = .ok (.bipush 14, 2) := by decide +kernel
theorem dX0_value_20 : decode cX0_value 20 = .ok (.ishr, 1) := by decide +kernel
theorem dX0_value_21 : decode cX0_value 21 = .ok (.istore 4, 2) := by decide +kernel
theorem dX0_value_23 : decode cX0_value 23 = .ok (.aload_n 0, 1) := by decide +kernel
theorem dX0_value_24 : decode cX0_value 24 = .ok (.getfield 9, 3) := by decide +kernel
theorem dX0_value_27 : decode cX0_value 27 = .ok (.iload_n 3, 1) := by decide +kernel
theorem dX0_value_28 : decode cX0_value 28 = .ok (.iaload, 1) := by decide +kernel
theorem dX0_value_29 : decode cX0_value 29 = .ok (.sipush 16383, 3) := by decide +kernel
theorem dX0_value_32 : decode cX0_value 32 = .ok (.iand, 1) := by decide +kernel
theorem dX0_value_33 : decode cX0_value 33 = .ok (.istore 5, 2) := by decide +kernel
theorem dX0_value_35 : decode cX0_value 35 = .ok (.iload 4, 2) := by decide +kernel
theorem dX0_value_37 : decode cX0_value 37 = .ok (.iconst 1, 1) := by decide +kernel
theorem dX0_value_38 : decode cX0_value 38 = .ok (.if_icmp .gt 51, 3) := by decide +kernel
theorem dX0_value_41 : decode cX0_value 41 = .ok (.iload_n 2, 1) := by decide +kernel
theorem dX0_value_42 : decode cX0_value 42 = .ok (.bipush 64, 2) := by decide +kernel
theorem dX0_value_44 : decode cX0_value 44 = .ok (.if_icmp .ge 16, 3) := by decide +kernel
theorem dX0_value_47 : decode cX0_value 47 = .ok (.iload 4, 2) := by decide +kernel
theorem dX0_value_49 : decode cX0_value 49 = .ok (.iconst 1, 1) := by decide +kernel
theorem dX0_value_50 : decode cX0_value 50 = .ok (.if_icmp .ne 12, 3) := by decide +kernel
theorem dX0_value_53 : decode cX0_value 53 = .ok (.iload 5, 2) := by decide +kernel
theorem dX0_value_55 : decode cX0_value 55 = .ok (.aload_n 1, 1) := by decide +kernel
theorem dX0_value_56 : decode cX0_value 56 = .ok (.arraylength, 1) := by decide +kernel
theorem dX0_value_57 : decode cX0_value 57 = .ok (.if_icmp .lt 5, 3) := by decide +kernel
theorem dX0_value_60 : decode cX0_value 60 = .ok (.iconst 0, 1) := by decide +kernel
theorem dX0_value_61 : decode cX0_value 61 = .ok (.ireturn, 1) := by decide +kernel
theorem dX0_value_62 : decode cX0_value 62 = .ok (.aload_n 0, 1) := by decide +kernel
theorem dX0_value_63 : decode cX0_value 63 = .ok (.getfield 15, 3) := by decide +kernel
theorem dX0_value_66 : decode cX0_value 66 = .ok (.iload_n 2, 1) := by decide +kernel
theorem dX0_value_67 : decode cX0_value 67 = .ok (.iload 4, 2) := by decide +kernel
theorem dX0_value_69 : decode cX0_value 69 = .ok (.iconst 1, 1) := by decide +kernel
theorem dX0_value_70 : decode cX0_value 70 = .ok (.if_icmp .ne 10, 3) := by decide +kernel
theorem dX0_value_73 : decode cX0_value 73 = .ok (.aload_n 1, 1) := by decide +kernel
theorem dX0_value_74 : decode cX0_value 74 = .ok (.iload 5, 2) := by decide +kernel
theorem dX0_value_76 : decode cX0_value 76 = .ok (.iaload, 1) := by decide +kernel
theorem dX0_value_77 : decode cX0_value 77 = .ok (.goto 5, 3) := by decide +kernel
theorem dX0_value_80 : decode cX0_value 80 = .ok (.iload 5, 2) := by decide +kernel
theorem dX0_value_82 : decode cX0_value 82 = .ok (.iastore, 1) := by decide +kernel
theorem dX0_value_83 : decode cX0_value 83 = .ok (.iinc 2 1, 3) := by decide +kernel
theorem dX0_value_86 : decode cX0_value 86 = .ok (.goto 78, 3) := by decide +kernel
theorem dX0_value_89 : decode cX0_value 89 = .ok (.iload 4, 2) := by decide +kernel
theorem dX0_value_91 : decode cX0_value 91 = .ok (.iconst 3, 1) := by decide +kernel
theorem dX0_value_92 : decode cX0_value 92 = .ok (.if_icmp .gt 35, 3) := by decide +kernel
theorem dX0_value_95 : decode cX0_value 95 = .ok (.iload_n 2, 1) := by decide +kernel
theorem dX0_value_96 : decode cX0_value 96 = .ok (.iconst 1, 1) := by decide +kernel
theorem dX0_value_97 : decode cX0_value 97 = .ok (.if_icmp .ge 5, 3) := by decide +kernel
theorem dX0_value_100 : decode cX0_value 100 = .ok (.iconst 0, 1) := by decide +kernel
theorem dX0_value_101 : decode cX0_value 101 = .ok (.ireturn, 1) := by decide +kernel
theorem dX0_value_102 : decode cX0_value 102 = .ok (.aload_n 0, 1) := by decide +kernel
theorem dX0_value_103 : decode cX0_value 103 = .ok (.getfield 15, 3) := by decide +kernel
theorem dX0_value_106 : decode cX0_value 106 = .ok (.iload_n 2, 1) := by decide +kernel
theorem dX0_value_107 : decode cX0_value 107 = .ok (.iconst 1, 1) := by decide +kernel
theorem dX0_value_108 : decode cX0_value 108 = .ok (.isub, 1) := by decide +kernel
theorem dX0_value_109 : decode cX0_value 109 = .ok (.iload 4, 2) := by decide +kernel
theorem dX0_value_111 : decode cX0_value 111 = .ok (.aload_n 0, 1) := by decide +kernel
theorem dX0_value_112 : decode cX0_value 112 = .ok (.getfield 15, 3) := by decide +kernel
theorem dX0_value_115 : decode cX0_value 115 = .ok (.iload_n 2, 1) := by decide +kernel
theorem dX0_value_116 : decode cX0_value 116 = .ok (.iconst 1, 1) := by decide +kernel
theorem dX0_value_117 : decode cX0_value 117 = .ok (.isub, 1) := by decide +kernel
theorem dX0_value_118 : decode cX0_value 118 = .ok (.iaload, 1) := by decide +kernel
theorem dX0_value_119 : decode cX0_value 119 = .ok (.aload_n 1, 1) := by decide +kernel
theorem dX0_value_120 : decode cX0_value 120 = .ok (.invokestatic 22, 3) := by decide +kernel
theorem dX0_value_123 : decode cX0_value 123 = .ok (.iastore, 1) := by decide +kernel
theorem dX0_value_124 : decode cX0_value 124 = .ok (.goto 40, 3) := by decide +kernel
theorem dX0_value_127 : decode cX0_value 127 = .ok (.iload_n 2, 1) := by decide +kernel
theorem dX0_value_128 : decode cX0_value 128 = .ok (.iconst 2, 1) := by decide +kernel
theorem dX0_value_129 : decode cX0_value 129 = .ok (.if_icmp .ge 5, 3) := by decide +kernel
theorem dX0_value_132 : decode cX0_value 132 = .ok (.iconst 0, 1) := by decide +kernel
theorem dX0_value_133 : decode cX0_value 133 = .ok (.ireturn, 1) := by decide +kernel
theorem dX0_value_134 : decode cX0_value 134 = .ok (.iinc 2 (-1), 3) := by decide +kernel
theorem dX0_value_137 : decode cX0_value 137 = .ok (.aload_n 0, 1) := by decide +kernel
theorem dX0_value_138 : decode cX0_value 138 = .ok (.getfield 15, 3) := by decide +kernel
theorem dX0_value_141 : decode cX0_value 141 = .ok (.iload_n 2, 1) := by decide +kernel
theorem dX0_value_142 : decode cX0_value 142 = .ok (.iconst 1, 1) := by decide +kernel
theorem dX0_value_143 : decode cX0_value 143 = .ok (.isub, 1) := by decide +kernel
theorem dX0_value_144 : decode cX0_value 144 = .ok (.iload 4, 2) := by decide +kernel
theorem dX0_value_146 : decode cX0_value 146 = .ok (.aload_n 0, 1) := by decide +kernel
theorem dX0_value_147 : decode cX0_value 147 = .ok (.getfield 15, 3) := by decide +kernel
theorem dX0_value_150 : decode cX0_value 150 = .ok (.iload_n 2, 1) := by decide +kernel
theorem dX0_value_151 : decode cX0_value 151 = .ok (.iconst 1, 1) := by decide +kernel
theorem dX0_value_152 : decode cX0_value 152 = .ok (.isub, 1) := by decide +kernel
theorem dX0_value_153 : decode cX0_value 153 = .ok (.iaload, 1) := by decide +kernel
theorem dX0_value_154 : decode cX0_value 154 = .ok (.aload_n 0, 1) := by decide +kernel
theorem dX0_value_155 : decode cX0_value 155 = .ok (.getfield 15, 3) := by decide +kernel
theorem dX0_value_158 : decode cX0_value 158 = .ok (.iload_n 2, 1) := by decide +kernel
theorem dX0_value_159 : decode cX0_value 159 = .ok (.iaload, 1) := by decide +kernel
theorem dX0_value_160 : decode cX0_value 160 = .ok (.invokestatic 26, 3) := by decide +kernel
theorem dX0_value_163 : decode cX0_value 163 = .ok (.iastore, 1) := by decide +kernel
theorem dX0_value_164 : decode cX0_value 164 = .ok (.iinc 3 1, 3) := by decide +kernel
theorem dX0_value_167 : decode cX0_value 167 = .ok (.goto (-163), 3) := by decide +kernel
theorem dX0_value_170 : decode cX0_value 170 = .ok (.iload_n 2, 1) := by decide +kernel
theorem dX0_value_171 : decode cX0_value 171 = .ok (.ifCond .le 12, 3) := by decide +kernel
theorem dX0_value_174 : decode cX0_value 174 = .ok (.aload_n 0, 1) := by decide +kernel
theorem dX0_value_175 : decode cX0_value 175 = .ok (.getfield 15, 3) := by decide +kernel
theorem dX0_value_178 : decode cX0_value 178 = .ok (.iconst 0, 1) := by decide +kernel
theorem dX0_value_179 : decode cX0_value 179 = .ok (.iaload, 1) := by decide +kernel
theorem dX0_value_180 : decode cX0_value 180 = .ok (.goto 4, 3) := by decide +kernel
theorem dX0_value_183 : decode cX0_value 183 = .ok (.iconst 0, 1) := by decide +kernel
theorem dX0_value_184 : decode cX0_value 184 = .ok (.ireturn, 1) := by decide +kernel
theorem dX0_ofOne_0 : decode cX0_ofOne 0 = .ok (.iload_n 0, 1) := by decide +kernel
theorem dX0_ofOne_1 : decode cX0_ofOne 1 = .ok (.iconst 2, 1) := by decide +kernel
theorem dX0_ofOne_2 : decode cX0_ofOne 2 = .ok (.if_icmp .ne 7, 3) := by decide +kernel
theorem dX0_ofOne_5 : decode cX0_ofOne 5 = .ok (.iconst 1, 1) := by decide +kernel
theorem dX0_ofOne_6 : decode cX0_ofOne 6 = .ok (.iload_n 1, 1) := by decide +kernel
theorem dX0_ofOne_7 : decode cX0_ofOne 7 = .ok (.isub, 1) := by decide +kernel
theorem dX0_ofOne_8 : decode cX0_ofOne 8 = .ok (.ireturn, 1) := by decide +kernel
theorem dX0_ofOne_9 : decode cX0_ofOne 9 = .ok (.aload_n 2, 1) := by decide +kernel
theorem dX0_ofOne_10 : decode cX0_ofOne 10 = .ok (.arraylength, 1) := by decide +kernel
theorem dX0_ofOne_11 : decode cX0_ofOne 11 = .ok (.bipush 9, 2) := by decide +kernel
theorem dX0_ofOne_13 : decode cX0_ofOne 13 = .ok (.if_icmp .ge 5, 3) := by decide +kernel
theorem dX0_ofOne_16 : decode cX0_ofOne 16 = .ok (.iconst 0, 1) := by decide +kernel
theorem dX0_ofOne_17 : decode cX0_ofOne 17 = .ok (.ireturn, 1) := by decide +kernel
theorem dX0_ofOne_18 : decode cX0_ofOne 18 = .ok (.iload_n 1, 1) := by decide +kernel
theorem dX0_ofOne_19 : decode cX0_ofOne 19 = .ok (.aload_n 2, 1) := by decide +kernel
theorem dX0_ofOne_20 : decode cX0_ofOne 20 = .ok (.iconst 5, 1) := by decide +kernel
theorem dX0_ofOne_21 : decode cX0_ofOne 21 = .ok (.iaload, 1) := by decide +kernel
theorem dX0_ofOne_22 : decode cX0_ofOne 22 = .ok (.if_icmp .ne 8, 3) := by decide +kernel
theorem dX0_ofOne_25 : decode cX0_ofOne 25 = .ok (.aload_n 2, 1) := by decide +kernel
theorem dX0_ofOne_26 : decode cX0_ofOne 26 = .ok (.bipush 7, 2) := by decide +kernel
theorem dX0_ofOne_28 : decode cX0_ofOne 28 = .ok (.iaload, 1) := by decide +kernel
theorem dX0_ofOne_29 : decode cX0_ofOne 29 = .ok (.ireturn, 1) := by decide +kernel
theorem dX0_ofOne_30 : decode cX0_ofOne 30 = .ok (.iload_n 1, 1) := by decide +kernel
theorem dX0_ofOne_31 : decode cX0_ofOne 31 = .ok (.aload_n 2, 1) := by decide +kernel
theorem dX0_ofOne_32 : decode cX0_ofOne 32 = .ok (.bipush 6, 2) := by decide +kernel
theorem dX0_ofOne_34 : decode cX0_ofOne 34 = .ok (.iaload, 1) := by decide +kernel
theorem dX0_ofOne_35 : decode cX0_ofOne 35 = .ok (.if_icmp .ne 10, 3) := by decide +kernel
theorem dX0_ofOne_38 : decode cX0_ofOne 38 = .ok (.aload_n 2, 1) := by decide +kernel
theorem dX0_ofOne_39 : decode cX0_ofOne 39 = .ok (.bipush 8, 2) := by decide +kernel
theorem dX0_ofOne_41 : decode cX0_ofOne 41 = .ok (.iaload, 1) := by decide +kernel
theorem dX0_ofOne_42 : decode cX0_ofOne 42 = .ok (.goto 4, 3) := by decide +kernel
theorem dX0_ofOne_45 : decode cX0_ofOne 45 = .ok (.iconst 0, 1) := by decide +kernel
theorem dX0_ofOne_46 : decode cX0_ofOne 46 = .ok (.ireturn, 1) := by decide +kernel
theorem dX0_ofTwo_0 : decode cX0_ofTwo 0 = .ok (.lconst 0, 1) := by decide +kernel
theorem dX0_ofTwo_1 : decode cX0_ofTwo 1 = .ok (.lstore_n 3, 1) := by decide +kernel
theorem dX0_ofTwo_2 : decode cX0_ofTwo 2 = .ok (.iload_n 0, 1) := by decide +kernel
theorem dX0_ofTwo_3 : decode cX0_ofTwo 3 = .ok (.tableswitch 180 4 14 #[57, 66, 75, 84, 102, 112, 122, 136, 150, 164, 172], 57) := by decide +kernel
theorem dX0_ofTwo_60 : decode cX0_ofTwo 60 = .ok (.iload_n 1, 1) := by decide +kernel
theorem dX0_ofTwo_61 : decode cX0_ofTwo 61 = .ok (.i2l, 1) := by decide +kernel
theorem dX0_ofTwo_62 : decode cX0_ofTwo 62 = .ok (.iload_n 2, 1) := by decide +kernel
theorem dX0_ofTwo_63 : decode cX0_ofTwo 63 = .ok (.i2l, 1) := by decide +kernel
theorem dX0_ofTwo_64 : decode cX0_ofTwo 64 = .ok (.ladd, 1) := by decide +kernel
theorem dX0_ofTwo_65 : decode cX0_ofTwo 65 = .ok (.lstore_n 3, 1) := by decide +kernel
theorem dX0_ofTwo_66 : decode cX0_ofTwo 66 = .ok (.goto 117, 3) := by decide +kernel
theorem dX0_ofTwo_69 : decode cX0_ofTwo 69 = .ok (.iload_n 1, 1) := by decide +kernel
theorem dX0_ofTwo_70 : decode cX0_ofTwo 70 = .ok (.i2l, 1) := by decide +kernel
theorem dX0_ofTwo_71 : decode cX0_ofTwo 71 = .ok (.iload_n 2, 1) := by decide +kernel
theorem dX0_ofTwo_72 : decode cX0_ofTwo 72 = .ok (.i2l, 1) := by decide +kernel
theorem dX0_ofTwo_73 : decode cX0_ofTwo 73 = .ok (.lsub, 1) := by decide +kernel
theorem dX0_ofTwo_74 : decode cX0_ofTwo 74 = .ok (.lstore_n 3, 1) := by decide +kernel
theorem dX0_ofTwo_75 : decode cX0_ofTwo 75 = .ok (.goto 108, 3) := by decide +kernel
theorem dX0_ofTwo_78 : decode cX0_ofTwo 78 = .ok (.iload_n 1, 1) := by decide +kernel
theorem dX0_ofTwo_79 : decode cX0_ofTwo 79 = .ok (.i2l, 1) := by decide +kernel
theorem dX0_ofTwo_80 : decode cX0_ofTwo 80 = .ok (.iload_n 2, 1) := by decide +kernel
theorem dX0_ofTwo_81 : decode cX0_ofTwo 81 = .ok (.i2l, 1) := by decide +kernel
theorem dX0_ofTwo_82 : decode cX0_ofTwo 82 = .ok (.lmul, 1) := by decide +kernel
theorem dX0_ofTwo_83 : decode cX0_ofTwo 83 = .ok (.lstore_n 3, 1) := by decide +kernel
theorem dX0_ofTwo_84 : decode cX0_ofTwo 84 = .ok (.goto 99, 3) := by decide +kernel
theorem dX0_ofTwo_87 : decode cX0_ofTwo 87 = .ok (.iload_n 2, 1) := by decide +kernel
theorem dX0_ofTwo_88 : decode cX0_ofTwo 88 = .ok (.ifCond .ne 7, 3) := by decide +kernel
theorem dX0_ofTwo_91 : decode cX0_ofTwo 91 = .ok (.lconst 0, 1) := by decide +kernel
theorem dX0_ofTwo_92 : decode cX0_ofTwo 92 = .ok (.goto 9, 3) := by decide +kernel
theorem dX0_ofTwo_95 : decode cX0_ofTwo 95 = .ok (.iload_n 1, 1) := by decide +kernel
theorem dX0_ofTwo_96 : decode cX0_ofTwo 96 = .ok (.iload_n 2, 1) := by decide +kernel
theorem dX0_ofTwo_97 : decode cX0_ofTwo 97 = .ok (.invokestatic 30, 3) := by decide +kernel
theorem dX0_ofTwo_100 : decode cX0_ofTwo 100 = .ok (.i2l, 1) := by decide +kernel
theorem dX0_ofTwo_101 : decode cX0_ofTwo 101 = .ok (.lstore_n 3, 1) := by decide +kernel
theorem dX0_ofTwo_102 : decode cX0_ofTwo 102 = .ok (.goto 81, 3) := by decide +kernel
theorem dX0_ofTwo_105 : decode cX0_ofTwo 105 = .ok (.iload_n 1, 1) := by decide +kernel
theorem dX0_ofTwo_106 : decode cX0_ofTwo 106 = .ok (.iload_n 2, 1) := by decide +kernel
theorem dX0_ofTwo_107 : decode cX0_ofTwo 107 = .ok (.invokestatic 36, 3) := by decide +kernel
theorem dX0_ofTwo_110 : decode cX0_ofTwo 110 = .ok (.i2l, 1) := by decide +kernel
theorem dX0_ofTwo_111 : decode cX0_ofTwo 111 = .ok (.lstore_n 3, 1) := by decide +kernel
theorem dX0_ofTwo_112 : decode cX0_ofTwo 112 = .ok (.goto 71, 3) := by decide +kernel
theorem dX0_ofTwo_115 : decode cX0_ofTwo 115 = .ok (.iload_n 1, 1) := by decide +kernel
theorem dX0_ofTwo_116 : decode cX0_ofTwo 116 = .ok (.iload_n 2, 1) := by decide +kernel
theorem dX0_ofTwo_117 : decode cX0_ofTwo 117 = .ok (.invokestatic 39, 3) := by decide +kernel
theorem dX0_ofTwo_120 : decode cX0_ofTwo 120 = .ok (.i2l, 1) := by decide +kernel
theorem dX0_ofTwo_121 : decode cX0_ofTwo 121 = .ok (.lstore_n 3, 1) := by decide +kernel
theorem dX0_ofTwo_122 : decode cX0_ofTwo 122 = .ok (.goto 61, 3) := by decide +kernel
theorem dX0_ofTwo_125 : decode cX0_ofTwo 125 = .ok (.iload_n 1, 1) := by decide +kernel
theorem dX0_ofTwo_126 : decode cX0_ofTwo 126 = .ok (.iload_n 2, 1) := by decide +kernel
theorem dX0_ofTwo_127 : decode cX0_ofTwo 127 = .ok (.if_icmp .ge 7, 3) := by decide +kernel
theorem dX0_ofTwo_130 : decode cX0_ofTwo 130 = .ok (.lconst 1, 1) := by decide +kernel
theorem dX0_ofTwo_131 : decode cX0_ofTwo 131 = .ok (.goto 4, 3) := by decide +kernel
theorem dX0_ofTwo_134 : decode cX0_ofTwo 134 = .ok (.lconst 0, 1) := by decide +kernel
theorem dX0_ofTwo_135 : decode cX0_ofTwo 135 = .ok (.lstore_n 3, 1) := by decide +kernel
theorem dX0_ofTwo_136 : decode cX0_ofTwo 136 = .ok (.goto 47, 3) := by decide +kernel
theorem dX0_ofTwo_139 : decode cX0_ofTwo 139 = .ok (.iload_n 1, 1) := by decide +kernel
theorem dX0_ofTwo_140 : decode cX0_ofTwo 140 = .ok (.iload_n 2, 1) := by decide +kernel
theorem dX0_ofTwo_141 : decode cX0_ofTwo 141 = .ok (.if_icmp .le 7, 3) := by decide +kernel
theorem dX0_ofTwo_144 : decode cX0_ofTwo 144 = .ok (.lconst 1, 1) := by decide +kernel
theorem dX0_ofTwo_145 : decode cX0_ofTwo 145 = .ok (.goto 4, 3) := by decide +kernel
theorem dX0_ofTwo_148 : decode cX0_ofTwo 148 = .ok (.lconst 0, 1) := by decide +kernel
theorem dX0_ofTwo_149 : decode cX0_ofTwo 149 = .ok (.lstore_n 3, 1) := by decide +kernel
theorem dX0_ofTwo_150 : decode cX0_ofTwo 150 = .ok (.goto 33, 3) := by decide +kernel
theorem dX0_ofTwo_153 : decode cX0_ofTwo 153 = .ok (.iload_n 1, 1) := by decide +kernel
theorem dX0_ofTwo_154 : decode cX0_ofTwo 154 = .ok (.iload_n 2, 1) := by decide +kernel
theorem dX0_ofTwo_155 : decode cX0_ofTwo 155 = .ok (.if_icmp .ne 7, 3) := by decide +kernel
theorem dX0_ofTwo_158 : decode cX0_ofTwo 158 = .ok (.lconst 1, 1) := by decide +kernel
theorem dX0_ofTwo_159 : decode cX0_ofTwo 159 = .ok (.goto 4, 3) := by decide +kernel
theorem dX0_ofTwo_162 : decode cX0_ofTwo 162 = .ok (.lconst 0, 1) := by decide +kernel
theorem dX0_ofTwo_163 : decode cX0_ofTwo 163 = .ok (.lstore_n 3, 1) := by decide +kernel
theorem dX0_ofTwo_164 : decode cX0_ofTwo 164 = .ok (.goto 19, 3) := by decide +kernel
theorem dX0_ofTwo_167 : decode cX0_ofTwo 167 = .ok (.iload_n 1, 1) := by decide +kernel
theorem dX0_ofTwo_168 : decode cX0_ofTwo 168 = .ok (.iload_n 2, 1) := by decide +kernel
theorem dX0_ofTwo_169 : decode cX0_ofTwo 169 = .ok (.iand, 1) := by decide +kernel
theorem dX0_ofTwo_170 : decode cX0_ofTwo 170 = .ok (.i2l, 1) := by decide +kernel
theorem dX0_ofTwo_171 : decode cX0_ofTwo 171 = .ok (.lstore_n 3, 1) := by decide +kernel
theorem dX0_ofTwo_172 : decode cX0_ofTwo 172 = .ok (.goto 11, 3) := by decide +kernel
theorem dX0_ofTwo_175 : decode cX0_ofTwo 175 = .ok (.iload_n 1, 1) := by decide +kernel
theorem dX0_ofTwo_176 : decode cX0_ofTwo 176 = .ok (.iload_n 2, 1) := by decide +kernel
theorem dX0_ofTwo_177 : decode cX0_ofTwo 177 = .ok (.ior, 1) := by decide +kernel
theorem dX0_ofTwo_178 : decode cX0_ofTwo 178 = .ok (.i2l, 1) := by decide +kernel
theorem dX0_ofTwo_179 : decode cX0_ofTwo 179 = .ok (.lstore_n 3, 1) := by decide +kernel
theorem dX0_ofTwo_180 : decode cX0_ofTwo 180 = .ok (.goto 3, 3) := by decide +kernel
theorem dX0_ofTwo_183 : decode cX0_ofTwo 183 = .ok (.lload_n 3, 1) := by decide +kernel
theorem dX0_ofTwo_184 : decode cX0_ofTwo 184 = .ok (.ldc2_w 42, 3) := by decide +kernel
theorem dX0_ofTwo_187 : decode cX0_ofTwo 187 = .ok (.lcmp, 1) := by decide +kernel
theorem dX0_ofTwo_188 : decode cX0_ofTwo 188 = .ok (.ifCond .le 6, 3) := by decide +kernel
theorem dX0_ofTwo_191 : decode cX0_ofTwo 191 = .ok (.ldc 44, 2) := by decide +kernel
theorem dX0_ofTwo_193 : decode cX0_ofTwo 193 = .ok (.ireturn, 1) := by decide +kernel
theorem dX0_ofTwo_194 : decode cX0_ofTwo 194 = .ok (.lload_n 3, 1) := by decide +kernel
theorem dX0_ofTwo_195 : decode cX0_ofTwo 195 = .ok (.ldc2_w 45, 3) := by decide +kernel
theorem dX0_ofTwo_198 : decode cX0_ofTwo 198 = .ok (.lcmp, 1) := by decide +kernel
theorem dX0_ofTwo_199 : decode cX0_ofTwo 199 = .ok (.ifCond .ge 8, 3) := by decide +kernel
theorem dX0_ofTwo_202 : decode cX0_ofTwo 202 = .ok (.ldc 47, 2) := by decide +kernel
theorem dX0_ofTwo_204 : decode cX0_ofTwo 204 = .ok (.goto 5, 3) := by decide +kernel
theorem dX0_ofTwo_207 : decode cX0_ofTwo 207 = .ok (.lload_n 3, 1) := by decide +kernel
theorem dX0_ofTwo_208 : decode cX0_ofTwo 208 = .ok (.l2i, 1) := by decide +kernel
theorem dX0_ofTwo_209 : decode cX0_ofTwo 209 = .ok (.ireturn, 1) := by decide +kernel
theorem dX1_init_0 : decode cX1_init 0 = .ok (.aload_n 0, 1) := by decide +kernel
theorem dX1_init_1 : decode cX1_init 1 = .ok (.invokespecial 3, 3) := by decide +kernel
theorem dX1_init_4 : decode cX1_init 4 = .ok (.aload_n 0, 1) := by decide +kernel
theorem dX1_init_5 : decode cX1_init 5 = .ok (.bipush 17, 2) := by decide +kernel
theorem dX1_init_7 : decode cX1_init 7 = .ok (.newarray .int, 2) := by decide +kernel
theorem dX1_init_9 : decode cX1_init 9 = .ok (.putfield 9, 3) := by decide +kernel
theorem dX1_init_12 : decode cX1_init 12 = .ok (.aload_n 0, 1) := by decide +kernel
theorem dX1_init_13 : decode cX1_init 13 = .ok (.bipush 17, 2) := by decide +kernel
theorem dX1_init_15 : decode cX1_init 15 = .ok (.newarray .int, 2) := by decide +kernel
theorem dX1_init_17 : decode cX1_init 17 = .ok (.putfield 15, 3) := by decide +kernel
theorem dX1_init_20 : decode cX1_init 20 = .ok (.return_, 1) := by decide +kernel
theorem dX1_fewest_0 : decode cX1_fewest 0 = .ok (.ldc 18, 2) := by decide +kernel
theorem dX1_fewest_2 : decode cX1_fewest 2 = .ok (.istore_n 2, 1) := by decide +kernel
theorem dX1_fewest_3 : decode cX1_fewest 3 = .ok (.iconst 0, 1) := by decide +kernel
theorem dX1_fewest_4 : decode cX1_fewest 4 = .ok (.istore_n 3, 1) := by decide +kernel
theorem dX1_fewest_5 : decode cX1_fewest 5 = .ok (.iload_n 3, 1) := by decide +kernel
theorem dX1_fewest_6 : decode cX1_fewest 6 = .ok (.bipush 17, 2) := by decide +kernel
theorem dX1_fewest_8 : decode cX1_fewest 8 = .ok (.if_icmp .ge 20, 3) := by decide +kernel
theorem dX1_fewest_11 : decode cX1_fewest 11 = .ok (.iload_n 2, 1) := by decide +kernel
theorem dX1_fewest_12 : decode cX1_fewest 12 = .ok (.aload_n 0, 1) := by decide +kernel
theorem dX1_fewest_13 : decode cX1_fewest 13 = .ok (.aload_n 1, 1) := by decide +kernel
theorem dX1_fewest_14 : decode cX1_fewest 14 = .ok (.iload_n 3, 1) := by decide +kernel
theorem dX1_fewest_15 : decode cX1_fewest 15 = .ok (.invokevirtual 19, 3) := by decide +kernel
theorem dX1_fewest_18 : decode cX1_fewest 18 = .ok (.invokestatic 23, 3) := by decide +kernel
theorem dX1_fewest_21 : decode cX1_fewest 21 = .ok (.istore_n 2, 1) := by decide +kernel
theorem dX1_fewest_22 : decode cX1_fewest 22 = .ok (.iinc 3 1, 3) := by decide +kernel
theorem dX1_fewest_25 : decode cX1_fewest 25 = .ok (.goto (-20), 3) := by decide +kernel
theorem dX1_fewest_28 : decode cX1_fewest 28 = .ok (.iload_n 2, 1) := by decide +kernel
theorem dX1_fewest_29 : decode cX1_fewest 29 = .ok (.ireturn, 1) := by decide +kernel
theorem dX1_withFlow_0 : decode cX1_withFlow 0 = .ok (.iconst 0, 1) := by decide +kernel
theorem dX1_withFlow_1 : decode cX1_withFlow 1 = .ok (.istore_n 3, 1) := by decide +kernel
theorem dX1_withFlow_2 : decode cX1_withFlow 2 = .ok (.iload_n 3, 1) := by decide +kernel
theorem dX1_withFlow_3 : decode cX1_withFlow 3 = .ok (.bipush 17, 2) := by decide +kernel
theorem dX1_withFlow_5 : decode cX1_withFlow 5 = .ok (.if_icmp .ge 26, 3) := by decide +kernel
theorem dX1_withFlow_8 : decode cX1_withFlow 8 = .ok (.aload_n 0, 1) := by decide +kernel
theorem dX1_withFlow_9 : decode cX1_withFlow 9 = .ok (.getfield 9, 3) := by decide +kernel
theorem dX1_withFlow_12 : decode cX1_withFlow 12 = .ok (.iload_n 3, 1) := by decide +kernel
theorem dX1_withFlow_13 : decode cX1_withFlow 13 = .ok (.iload_n 3, 1) := by decide +kernel
theorem dX1_withFlow_14 : decode cX1_withFlow 14 = .ok (.iload_n 2, 1) := by decide +kernel
theorem dX1_withFlow_15 : decode cX1_withFlow 15 = .ok (.if_icmp .ne 7, 3) := by decide +kernel
theorem dX1_withFlow_18 : decode cX1_withFlow 18 = .ok (.iconst 0, 1) := by decide +kernel
theorem dX1_withFlow_19 : decode cX1_withFlow 19 = .ok (.goto 5, 3) := by decide +kernel
theorem dX1_withFlow_22 : decode cX1_withFlow 22 = .ok (.ldc 18, 2) := by decide +kernel
theorem dX1_withFlow_24 : decode cX1_withFlow 24 = .ok (.iastore, 1) := by decide +kernel
theorem dX1_withFlow_25 : decode cX1_withFlow 25 = .ok (.iinc 3 1, 3) := by decide +kernel
theorem dX1_withFlow_28 : decode cX1_withFlow 28 = .ok (.goto (-26), 3) := by decide +kernel
theorem dX1_withFlow_31 : decode cX1_withFlow 31 = .ok (.iconst 0, 1) := by decide +kernel
theorem dX1_withFlow_32 : decode cX1_withFlow 32 = .ok (.istore_n 3, 1) := by decide +kernel
theorem dX1_withFlow_33 : decode cX1_withFlow 33 = .ok (.iload_n 3, 1) := by decide +kernel
theorem dX1_withFlow_34 : decode cX1_withFlow 34 = .ok (.aload_n 1, 1) := by decide +kernel
theorem dX1_withFlow_35 : decode cX1_withFlow 35 = .ok (.getfield 29, 3) := by decide +kernel
theorem dX1_withFlow_38 : decode cX1_withFlow 38 = .ok (.if_icmp .ge 24, 3) := by decide +kernel
theorem dX1_withFlow_41 : decode cX1_withFlow 41 = .ok (.aload_n 0, 1) := by decide +kernel
theorem dX1_withFlow_42 : decode cX1_withFlow 42 = .ok (.aload_n 1, 1) := by decide +kernel
theorem dX1_withFlow_43 : decode cX1_withFlow 43 = .ok (.getfield 35, 3) := by decide +kernel
theorem dX1_withFlow_46 : decode cX1_withFlow 46 = .ok (.aload_n 1, 1) := by decide +kernel
theorem dX1_withFlow_47 : decode cX1_withFlow 47 = .ok (.getfield 38, 3) := by decide +kernel
theorem dX1_withFlow_50 : decode cX1_withFlow 50 = .ok (.iload_n 3, 1) := by decide +kernel
theorem dX1_withFlow_51 : decode cX1_withFlow 51 = .ok (.iaload, 1) := by decide +kernel
theorem dX1_withFlow_52 : decode cX1_withFlow 52 = .ok (.iaload, 1) := by decide +kernel
theorem dX1_withFlow_53 : decode cX1_withFlow 53 = .ok (.invokevirtual 41, 3) := by decide +kernel
theorem dX1_withFlow_56 : decode cX1_withFlow 56 = .ok (.iinc 3 1, 3) := by decide +kernel
theorem dX1_withFlow_59 : decode cX1_withFlow 59 = .ok (.goto (-26), 3) := by decide +kernel
theorem dX1_withFlow_62 : decode cX1_withFlow 62 = .ok (.aload_n 0, 1) := by decide +kernel
theorem dX1_withFlow_63 : decode cX1_withFlow 63 = .ok (.getfield 9, 3) := by decide +kernel
theorem dX1_withFlow_66 : decode cX1_withFlow 66 = .ok (.iload_n 2, 1) := by decide +kernel
theorem dX1_withFlow_67 : decode cX1_withFlow 67 = .ok (.iaload, 1) := by decide +kernel
theorem dX1_withFlow_68 : decode cX1_withFlow 68 = .ok (.ireturn, 1) := by decide +kernel
theorem dX1_step_0 : decode cX1_step 0 = .ok (.ldc 18, 2) := by decide +kernel
theorem dX1_step_2 : decode cX1_step 2 = .ok (.istore_n 2, 1) := by decide +kernel
theorem dX1_step_3 : decode cX1_step 3 = .ok (.bipush 16, 2) := by decide +kernel
theorem dX1_step_5 : decode cX1_step 5 = .ok (.istore_n 3, 1) := by decide +kernel
theorem dX1_step_6 : decode cX1_step 6 = .ok (.iload_n 3, 1) := by decide +kernel
theorem dX1_step_7 : decode cX1_step 7 = .ok (.ifCond .lt 27, 3) := by decide +kernel
theorem dX1_step_10 : decode cX1_step 10 = .ok (.iload_n 2, 1) := by decide +kernel
theorem dX1_step_11 : decode cX1_step 11 = .ok (.aload_n 0, 1) := by decide +kernel
theorem dX1_step_12 : decode cX1_step 12 = .ok (.getfield 9, 3) := by decide +kernel
theorem dX1_step_15 : decode cX1_step 15 = .ok (.iload_n 3, 1) := by decide +kernel
theorem dX1_step_16 : decode cX1_step 16 = .ok (.iaload, 1) := by decide +kernel
theorem dX1_step_17 : decode cX1_step 17 = .ok (.invokestatic 23, 3) := by decide +kernel
theorem dX1_step_20 : decode cX1_step 20 = .ok (.istore_n 2, 1) := by decide +kernel
theorem dX1_step_21 : decode cX1_step 21 = .ok (.aload_n 0, 1) := by decide +kernel
theorem dX1_step_22 : decode cX1_step 22 = .ok (.getfield 15, 3) := by decide +kernel
theorem dX1_step_25 : decode cX1_step 25 = .ok (.iload_n 3, 1) := by decide +kernel
theorem dX1_step_26 : decode cX1_step 26 = .ok (.iload_n 2, 1) := by decide +kernel
theorem dX1_step_27 : decode cX1_step 27 = .ok (.iastore, 1) := by decide +kernel
theorem dX1_step_28 : decode cX1_step 28 = .ok (.iinc 3 (-1), 3) := by decide +kernel
theorem dX1_step_31 : decode cX1_step 31 = .ok (.goto (-25), 3) := by decide +kernel
theorem dX1_step_34 : decode cX1_step 34 = .ok (.iconst 0, 1) := by decide +kernel
theorem dX1_step_35 : decode cX1_step 35 = .ok (.istore_n 3, 1) := by decide +kernel
theorem dX1_step_36 : decode cX1_step 36 = .ok (.iload_n 3, 1) := by decide +kernel
theorem dX1_step_37 : decode cX1_step 37 = .ok (.bipush 17, 2) := by decide +kernel
theorem dX1_step_39 : decode cX1_step 39 = .ok (.if_icmp .ge 53, 3) := by decide +kernel
theorem dX1_step_42 : decode cX1_step 42 = .ok (.iconst 0, 1) := by decide +kernel
theorem dX1_step_43 : decode cX1_step 43 = .ok (.iload_n 3, 1) := by decide +kernel
theorem dX1_step_44 : decode cX1_step 44 = .ok (.iconst 1, 1) := by decide +kernel
theorem dX1_step_45 : decode cX1_step 45 = .ok (.iadd, 1) := by decide +kernel
theorem dX1_step_46 : decode cX1_step 46 = .ok (.iload_n 1, 1) := by decide +kernel
theorem dX1_step_47 : decode cX1_step 47 = .ok (.isub, 1) := by decide +kernel
theorem dX1_step_48 : decode cX1_step 48 = .ok (.invokestatic 45, 3) := by decide +kernel
theorem dX1_step_51 : decode cX1_step 51 = .ok (.istore 4, 2) := by decide +kernel
theorem dX1_step_53 : decode cX1_step 53 = .ok (.aload_n 0, 1) := by decide +kernel
theorem dX1_step_54 : decode cX1_step 54 = .ok (.getfield 9, 3) := by decide +kernel
theorem dX1_step_57 : decode cX1_step 57 = .ok (.iload_n 3, 1) := by decide +kernel
theorem dX1_step_58 : decode cX1_step 58 = .ok (.iload 4, 2) := by decide +kernel
theorem dX1_step_60 : decode cX1_step 60 = .ok (.bipush 17, 2) := by decide +kernel
theorem dX1_step_62 : decode cX1_step 62 = .ok (.if_icmp .ge 21, 3) := by decide +kernel
theorem dX1_step_65 : decode cX1_step 65 = .ok (.aload_n 0, 1) := by decide +kernel
theorem dX1_step_66 : decode cX1_step 66 = .ok (.getfield 15, 3) := by decide +kernel
theorem dX1_step_69 : decode cX1_step 69 = .ok (.iload 4, 2) := by decide +kernel
theorem dX1_step_71 : decode cX1_step 71 = .ok (.iaload, 1) := by decide +kernel
theorem dX1_step_72 : decode cX1_step 72 = .ok (.iload_n 3, 1) := by decide +kernel
theorem dX1_step_73 : decode cX1_step 73 = .ok (.bipush 8, 2) := by decide +kernel
theorem dX1_step_75 : decode cX1_step 75 = .ok (.isub, 1) := by decide +kernel
theorem dX1_step_76 : decode cX1_step 76 = .ok (.invokestatic 48, 3) := by decide +kernel
theorem dX1_step_79 : decode cX1_step 79 = .ok (.iadd, 1) := by decide +kernel
theorem dX1_step_80 : decode cX1_step 80 = .ok (.goto 5, 3) := by decide +kernel
theorem dX1_step_83 : decode cX1_step 83 = .ok (.ldc 18, 2) := by decide +kernel
theorem dX1_step_85 : decode cX1_step 85 = .ok (.iastore, 1) := by decide +kernel
theorem dX1_step_86 : decode cX1_step 86 = .ok (.iinc 3 1, 3) := by decide +kernel
theorem dX1_step_89 : decode cX1_step 89 = .ok (.goto (-53), 3) := by decide +kernel
theorem dX1_step_92 : decode cX1_step 92 = .ok (.return_, 1) := by decide +kernel
theorem dX2_init_0 : decode cX2_init 0 = .ok (.aload_n 0, 1) := by decide +kernel
theorem dX2_init_1 : decode cX2_init 1 = .ok (.invokespecial 3, 3) := by decide +kernel
theorem dX2_init_4 : decode cX2_init 4 = .ok (.aload_n 0, 1) := by decide +kernel
theorem dX2_init_5 : decode cX2_init 5 = .ok (.bipush 20, 2) := by decide +kernel
theorem dX2_init_7 : decode cX2_init 7 = .ok (.anewarray 9, 3) := by decide +kernel
theorem dX2_init_10 : decode cX2_init 10 = .ok (.putfield 11, 3) := by decide +kernel
theorem dX2_init_13 : decode cX2_init 13 = .ok (.aload_n 0, 1) := by decide +kernel
theorem dX2_init_14 : decode cX2_init 14 = .ok (.iconst 0, 1) := by decide +kernel
theorem dX2_init_15 : decode cX2_init 15 = .ok (.putfield 17, 3) := by decide +kernel
theorem dX2_init_18 : decode cX2_init 18 = .ok (.aload_n 0, 1) := by decide +kernel
theorem dX2_init_19 : decode cX2_init 19 = .ok (.iconst 0, 1) := by decide +kernel
theorem dX2_init_20 : decode cX2_init 20 = .ok (.putfield 21, 3) := by decide +kernel
theorem dX2_init_23 : decode cX2_init 23 = .ok (.iconst 0, 1) := by decide +kernel
theorem dX2_init_24 : decode cX2_init 24 = .ok (.istore_n 1, 1) := by decide +kernel
theorem dX2_init_25 : decode cX2_init 25 = .ok (.iload_n 1, 1) := by decide +kernel
theorem dX2_init_26 : decode cX2_init 26 = .ok (.bipush 20, 2) := by decide +kernel
theorem dX2_init_28 : decode cX2_init 28 = .ok (.if_icmp .ge 22, 3) := by decide +kernel
theorem dX2_init_31 : decode cX2_init 31 = .ok (.aload_n 0, 1) := by decide +kernel
theorem dX2_init_32 : decode cX2_init 32 = .ok (.getfield 11, 3) := by decide +kernel
theorem dX2_init_35 : decode cX2_init 35 = .ok (.iload_n 1, 1) := by decide +kernel
theorem dX2_init_36 : decode cX2_init 36 = .ok (.new 9, 3) := by decide +kernel
theorem dX2_init_39 : decode cX2_init 39 = .ok (.dup, 1) := by decide +kernel
theorem dX2_init_40 : decode cX2_init 40 = .ok (.invokespecial 24, 3) := by decide +kernel
theorem dX2_init_43 : decode cX2_init 43 = .ok (.aastore, 1) := by decide +kernel
theorem dX2_init_44 : decode cX2_init 44 = .ok (.iinc 1 1, 3) := by decide +kernel
theorem dX2_init_47 : decode cX2_init 47 = .ok (.goto (-22), 3) := by decide +kernel
theorem dX2_init_50 : decode cX2_init 50 = .ok (.return_, 1) := by decide +kernel
theorem dX2_forget_0 : decode cX2_forget 0 = .ok (.aload_n 0, 1) := by decide +kernel
theorem dX2_forget_1 : decode cX2_forget 1 = .ok (.iconst 0, 1) := by decide +kernel
theorem dX2_forget_2 : decode cX2_forget 2 = .ok (.putfield 21, 3) := by decide +kernel
theorem dX2_forget_5 : decode cX2_forget 5 = .ok (.return_, 1) := by decide +kernel
theorem dX2_keep_0 : decode cX2_keep 0 = .ok (.aload_n 0, 1) := by decide +kernel
theorem dX2_keep_1 : decode cX2_keep 1 = .ok (.getfield 11, 3) := by decide +kernel
theorem dX2_keep_4 : decode cX2_keep 4 = .ok (.aload_n 0, 1) := by decide +kernel
theorem dX2_keep_5 : decode cX2_keep 5 = .ok (.getfield 17, 3) := by decide +kernel
theorem dX2_keep_8 : decode cX2_keep 8 = .ok (.aaload, 1) := by decide +kernel
theorem dX2_keep_9 : decode cX2_keep 9 = .ok (.aload_n 1, 1) := by decide +kernel
theorem dX2_keep_10 : decode cX2_keep 10 = .ok (.invokevirtual 25, 3) := by decide +kernel
theorem dX2_keep_13 : decode cX2_keep 13 = .ok (.aload_n 0, 1) := by decide +kernel
theorem dX2_keep_14 : decode cX2_keep 14 = .ok (.aload_n 0, 1) := by decide +kernel
theorem dX2_keep_15 : decode cX2_keep 15 = .ok (.getfield 17, 3) := by decide +kernel
theorem dX2_keep_18 : decode cX2_keep 18 = .ok (.iconst 1, 1) := by decide +kernel
theorem dX2_keep_19 : decode cX2_keep 19 = .ok (.iadd, 1) := by decide +kernel
theorem dX2_keep_20 : decode cX2_keep 20 = .ok (.bipush 20, 2) := by decide +kernel
theorem dX2_keep_22 : decode cX2_keep 22 = .ok (.irem, 1) := by decide +kernel
theorem dX2_keep_23 : decode cX2_keep 23 = .ok (.putfield 17, 3) := by decide +kernel
theorem dX2_keep_26 : decode cX2_keep 26 = .ok (.aload_n 0, 1) := by decide +kernel
theorem dX2_keep_27 : decode cX2_keep 27 = .ok (.bipush 20, 2) := by decide +kernel
theorem dX2_keep_29 : decode cX2_keep 29 = .ok (.aload_n 0, 1) := by decide +kernel
theorem dX2_keep_30 : decode cX2_keep 30 = .ok (.getfield 21, 3) := by decide +kernel
theorem dX2_keep_33 : decode cX2_keep 33 = .ok (.iconst 1, 1) := by decide +kernel
theorem dX2_keep_34 : decode cX2_keep 34 = .ok (.iadd, 1) := by decide +kernel
theorem dX2_keep_35 : decode cX2_keep 35 = .ok (.invokestatic 29, 3) := by decide +kernel
theorem dX2_keep_38 : decode cX2_keep 38 = .ok (.putfield 21, 3) := by decide +kernel
theorem dX2_keep_41 : decode cX2_keep 41 = .ok (.return_, 1) := by decide +kernel
theorem dX2_bringBack_0 : decode cX2_bringBack 0 = .ok (.aload_n 0, 1) := by decide +kernel
theorem dX2_bringBack_1 : decode cX2_bringBack 1 = .ok (.getfield 21, 3) := by decide +kernel
theorem dX2_bringBack_4 : decode cX2_bringBack 4 = .ok (.ifCond .le 42, 3) := by decide +kernel
theorem dX2_bringBack_7 : decode cX2_bringBack 7 = .ok (.aload_n 0, 1) := by decide +kernel
theorem dX2_bringBack_8 : decode cX2_bringBack 8 = .ok (.aload_n 0, 1) := by decide +kernel
theorem dX2_bringBack_9 : decode cX2_bringBack 9 = .ok (.getfield 17, 3) := by decide +kernel
theorem dX2_bringBack_12 : decode cX2_bringBack 12 = .ok (.bipush 20, 2) := by decide +kernel
theorem dX2_bringBack_14 : decode cX2_bringBack 14 = .ok (.iadd, 1) := by decide +kernel
theorem dX2_bringBack_15 : decode cX2_bringBack 15 = .ok (.iconst 1, 1) := by decide +kernel
theorem dX2_bringBack_16 : decode cX2_bringBack 16 = .ok (.isub, 1) := by decide +kernel
theorem dX2_bringBack_17 : decode cX2_bringBack 17 = .ok (.bipush 20, 2) := by decide +kernel
theorem dX2_bringBack_19 : decode cX2_bringBack 19 = .ok (.irem, 1) := by decide +kernel
theorem dX2_bringBack_20 : decode cX2_bringBack 20 = .ok (.putfield 17, 3) := by decide +kernel
theorem dX2_bringBack_23 : decode cX2_bringBack 23 = .ok (.aload_n 0, 1) := by decide +kernel
theorem dX2_bringBack_24 : decode cX2_bringBack 24 = .ok (.dup, 1) := by decide +kernel
theorem dX2_bringBack_25 : decode cX2_bringBack 25 = .ok (.getfield 21, 3) := by decide +kernel
theorem dX2_bringBack_28 : decode cX2_bringBack 28 = .ok (.iconst 1, 1) := by decide +kernel
theorem dX2_bringBack_29 : decode cX2_bringBack 29 = .ok (.isub, 1) := by decide +kernel
theorem dX2_bringBack_30 : decode cX2_bringBack 30 = .ok (.putfield 21, 3) := by decide +kernel
theorem dX2_bringBack_33 : decode cX2_bringBack 33 = .ok (.aload_n 1, 1) := by decide +kernel
theorem dX2_bringBack_34 : decode cX2_bringBack 34 = .ok (.aload_n 0, 1) := by decide +kernel
theorem dX2_bringBack_35 : decode cX2_bringBack 35 = .ok (.getfield 11, 3) := by decide +kernel
theorem dX2_bringBack_38 : decode cX2_bringBack 38 = .ok (.aload_n 0, 1) := by decide +kernel
theorem dX2_bringBack_39 : decode cX2_bringBack 39 = .ok (.getfield 17, 3) := by decide +kernel
theorem dX2_bringBack_42 : decode cX2_bringBack 42 = .ok (.aaload, 1) := by decide +kernel
theorem dX2_bringBack_43 : decode cX2_bringBack 43 = .ok (.invokevirtual 25, 3) := by decide +kernel
theorem dX2_bringBack_46 : decode cX2_bringBack 46 = .ok (.return_, 1) := by decide +kernel
theorem dX3_init_0 : decode cX3_init 0 = .ok (.aload_n 0, 1) := by decide +kernel
theorem dX3_init_1 : decode cX3_init 1 = .ok (.invokespecial 3, 3) := by decide +kernel
theorem dX3_init_4 : decode cX3_init 4 = .ok (.aload_n 0, 1) := by decide +kernel
theorem dX3_init_5 : decode cX3_init 5 = .ok (.new 9, 3) := by decide +kernel
theorem dX3_init_8 : decode cX3_init 8 = .ok (.dup, 1) := by decide +kernel
theorem dX3_init_9 : decode cX3_init 9 = .ok (.invokespecial 11, 3) := by decide +kernel
theorem dX3_init_12 : decode cX3_init 12 = .ok (.putfield 12, 3) := by decide +kernel
theorem dX3_init_15 : decode cX3_init 15 = .ok (.aload_n 0, 1) := by decide +kernel
theorem dX3_init_16 : decode cX3_init 16 = .ok (.new 9, 3) := by decide +kernel
theorem dX3_init_19 : decode cX3_init 19 = .ok (.dup, 1) := by decide +kernel
theorem dX3_init_20 : decode cX3_init 20 = .ok (.invokespecial 11, 3) := by decide +kernel
theorem dX3_init_23 : decode cX3_init 23 = .ok (.putfield 18, 3) := by decide +kernel
theorem dX3_init_26 : decode cX3_init 26 = .ok (.aload_n 0, 1) := by decide +kernel
theorem dX3_init_27 : decode cX3_init 27 = .ok (.iconst 0, 1) := by decide +kernel
theorem dX3_init_28 : decode cX3_init 28 = .ok (.putfield 21, 3) := by decide +kernel
theorem dX3_init_31 : decode cX3_init 31 = .ok (.aload_n 0, 1) := by decide +kernel
theorem dX3_init_32 : decode cX3_init 32 = .ok (.iconst 0, 1) := by decide +kernel
theorem dX3_init_33 : decode cX3_init 33 = .ok (.putfield 25, 3) := by decide +kernel
theorem dX3_init_36 : decode cX3_init 36 = .ok (.aload_n 0, 1) := by decide +kernel
theorem dX3_init_37 : decode cX3_init 37 = .ok (.iconst 0, 1) := by decide +kernel
theorem dX3_init_38 : decode cX3_init 38 = .ok (.putfield 29, 3) := by decide +kernel
theorem dX3_init_41 : decode cX3_init 41 = .ok (.aload_n 0, 1) := by decide +kernel
theorem dX3_init_42 : decode cX3_init 42 = .ok (.iconst 0, 1) := by decide +kernel
theorem dX3_init_43 : decode cX3_init 43 = .ok (.putfield 32, 3) := by decide +kernel
theorem dX3_init_46 : decode cX3_init 46 = .ok (.aload_n 0, 1) := by decide +kernel
theorem dX3_init_47 : decode cX3_init 47 = .ok (.iconst 0, 1) := by decide +kernel
theorem dX3_init_48 : decode cX3_init 48 = .ok (.putfield 35, 3) := by decide +kernel
theorem dX3_init_51 : decode cX3_init 51 = .ok (.aload_n 0, 1) := by decide +kernel
theorem dX3_init_52 : decode cX3_init 52 = .ok (.aload_n 1, 1) := by decide +kernel
theorem dX3_init_53 : decode cX3_init 53 = .ok (.putfield 38, 3) := by decide +kernel
theorem dX3_init_56 : decode cX3_init 56 = .ok (.return_, 1) := by decide +kernel
theorem dX3_findBest_0 : decode cX3_findBest 0 = .ok (.aload_n 1, 1) := by decide +kernel
theorem dX3_findBest_1 : decode cX3_findBest 1 = .ok (.iload_n 2, 1) := by decide +kernel
theorem dX3_findBest_2 : decode cX3_findBest 2 = .ok (.iload_n 3, 1) := by decide +kernel
theorem dX3_findBest_3 : decode cX3_findBest 3 = .ok (.invokevirtual 42, 3) := by decide +kernel
theorem dX3_findBest_6 : decode cX3_findBest 6 = .ok (.istore 4, 2) := by decide +kernel
theorem dX3_findBest_8 : decode cX3_findBest 8 = .ok (.aload_n 1, 1) := by decide +kernel
theorem dX3_findBest_9 : decode cX3_findBest 9 = .ok (.iload 4, 2) := by decide +kernel
theorem dX3_findBest_11 : decode cX3_findBest 11 = .ok (.invokevirtual 46, 3) := by decide +kernel
theorem dX3_findBest_14 : decode cX3_findBest 14 = .ok (.istore 5, 2) := by decide +kernel
theorem dX3_findBest_16 : decode cX3_findBest 16 = .ok (.iload_n 3, 1) := by decide +kernel
theorem dX3_findBest_17 : decode cX3_findBest 17 = .ok (.ifCond .ne 7, 3) := by decide +kernel
theorem dX3_findBest_20 : decode cX3_findBest 20 = .ok (.iload_n 2, 1) := by decide +kernel
theorem dX3_findBest_21 : decode cX3_findBest 21 = .ok (.goto 8, 3) := by decide +kernel
theorem dX3_findBest_24 : decode cX3_findBest 24 = .ok (.aload_n 1, 1) := by decide +kernel
theorem dX3_findBest_25 : decode cX3_findBest 25 = .ok (.iload_n 2, 1) := by decide +kernel
theorem dX3_findBest_26 : decode cX3_findBest 26 = .ok (.invokevirtual 50, 3) := by decide +kernel
theorem dX3_findBest_29 : decode cX3_findBest 29 = .ok (.istore 6, 2) := by decide +kernel
theorem dX3_findBest_31 : decode cX3_findBest 31 = .ok (.aload_n 1, 1) := by decide +kernel
theorem dX3_findBest_32 : decode cX3_findBest 32 = .ok (.iload 6, 2) := by decide +kernel
theorem dX3_findBest_34 : decode cX3_findBest 34 = .ok (.invokevirtual 53, 3) := by decide +kernel
theorem dX3_findBest_37 : decode cX3_findBest 37 = .ok (.istore 7, 2) := by decide +kernel
theorem dX3_findBest_39 : decode cX3_findBest 39 = .ok (.aload_n 0, 1) := by decide +kernel
theorem dX3_findBest_40 : decode cX3_findBest 40 = .ok (.iconst (-1), 1) := by decide +kernel
theorem dX3_findBest_41 : decode cX3_findBest 41 = .ok (.putfield 32, 3) := by decide +kernel
theorem dX3_findBest_44 : decode cX3_findBest 44 = .ok (.iconst 0, 1) := by decide +kernel
theorem dX3_findBest_45 : decode cX3_findBest 45 = .ok (.istore 8, 2) := by decide +kernel
theorem dX3_findBest_47 : decode cX3_findBest 47 = .ok (.iload 8, 2) := by decide +kernel
theorem dX3_findBest_49 : decode cX3_findBest 49 = .ok (.bipush 30, 2) := by decide +kernel
theorem dX3_findBest_51 : decode cX3_findBest 51 = .ok (.if_icmp .ge 92, 3) := by decide +kernel
theorem dX3_findBest_54 : decode cX3_findBest 54 = .ok (.aload_n 1, 1) := by decide +kernel
theorem dX3_findBest_55 : decode cX3_findBest 55 = .ok (.getfield 56, 3) := by decide +kernel
theorem dX3_findBest_58 : decode cX3_findBest 58 = .ok (.iload 4, 2) := by decide +kernel
theorem dX3_findBest_60 : decode cX3_findBest 60 = .ok (.iload 8, 2) := by decide +kernel
theorem dX3_findBest_62 : decode cX3_findBest 62 = .ok (.bipush 10, 2) := by decide +kernel
theorem dX3_findBest_64 : decode cX3_findBest 64 = .ok (.idiv, 1) := by decide +kernel
theorem dX3_findBest_65 : decode cX3_findBest 65 = .ok (.iastore, 1) := by decide +kernel
theorem dX3_findBest_66 : decode cX3_findBest 66 = .ok (.aload_n 1, 1) := by decide +kernel
theorem dX3_findBest_67 : decode cX3_findBest 67 = .ok (.getfield 60, 3) := by decide +kernel
theorem dX3_findBest_70 : decode cX3_findBest 70 = .ok (.iload 4, 2) := by decide +kernel
theorem dX3_findBest_72 : decode cX3_findBest 72 = .ok (.iload 8, 2) := by decide +kernel
theorem dX3_findBest_74 : decode cX3_findBest 74 = .ok (.bipush 10, 2) := by decide +kernel
theorem dX3_findBest_76 : decode cX3_findBest 76 = .ok (.irem, 1) := by decide +kernel
theorem dX3_findBest_77 : decode cX3_findBest 77 = .ok (.iastore, 1) := by decide +kernel
theorem dX3_findBest_78 : decode cX3_findBest 78 = .ok (.aload_n 0, 1) := by decide +kernel
theorem dX3_findBest_79 : decode cX3_findBest 79 = .ok (.getfield 38, 3) := by decide +kernel
theorem dX3_findBest_82 : decode cX3_findBest 82 = .ok (.aload_n 1, 1) := by decide +kernel
theorem dX3_findBest_83 : decode cX3_findBest 83 = .ok (.iload 6, 2) := by decide +kernel
theorem dX3_findBest_85 : decode cX3_findBest 85 = .ok (.iload 7, 2) := by decide +kernel
theorem dX3_findBest_87 : decode cX3_findBest 87 = .ok (.invokevirtual 63, 3) := by decide +kernel
theorem dX3_findBest_90 : decode cX3_findBest 90 = .ok (.aload_n 0, 1) := by decide +kernel
theorem dX3_findBest_91 : decode cX3_findBest 91 = .ok (.getfield 38, 3) := by decide +kernel
theorem dX3_findBest_94 : decode cX3_findBest 94 = .ok (.getfield 69, 3) := by decide +kernel
theorem dX3_findBest_97 : decode cX3_findBest 97 = .ok (.iconst 4, 1) := by decide +kernel
theorem dX3_findBest_98 : decode cX3_findBest 98 = .ok (.iload_n 3, 1) := by decide +kernel
theorem dX3_findBest_99 : decode cX3_findBest 99 = .ok (.iadd, 1) := by decide +kernel
theorem dX3_findBest_100 : decode cX3_findBest 100 = .ok (.iaload, 1) := by decide +kernel
theorem dX3_findBest_101 : decode cX3_findBest 101 = .ok (.istore 9, 2) := by decide +kernel
theorem dX3_findBest_103 : decode cX3_findBest 103 = .ok (.iload 9, 2) := by decide +kernel
theorem dX3_findBest_105 : decode cX3_findBest 105 = .ok (.aload_n 0, 1) := by decide +kernel
theorem dX3_findBest_106 : decode cX3_findBest 106 = .ok (.getfield 32, 3) := by decide +kernel
theorem dX3_findBest_109 : decode cX3_findBest 109 = .ok (.if_icmp .le 15, 3) := by decide +kernel
theorem dX3_findBest_112 : decode cX3_findBest 112 = .ok (.aload_n 0, 1) := by decide +kernel
theorem dX3_findBest_113 : decode cX3_findBest 113 = .ok (.iload 9, 2) := by decide +kernel
theorem dX3_findBest_115 : decode cX3_findBest 115 = .ok (.putfield 32, 3) := by decide +kernel
theorem dX3_findBest_118 : decode cX3_findBest 118 = .ok (.aload_n 0, 1) := by decide +kernel
theorem dX3_findBest_119 : decode cX3_findBest 119 = .ok (.iload 8, 2) := by decide +kernel
theorem dX3_findBest_121 : decode cX3_findBest 121 = .ok (.putfield 29, 3) := by decide +kernel
theorem dX3_findBest_124 : decode cX3_findBest 124 = .ok (.iload 8, 2) := by decide +kernel
theorem dX3_findBest_126 : decode cX3_findBest 126 = .ok (.iload 5, 2) := by decide +kernel
theorem dX3_findBest_128 : decode cX3_findBest 128 = .ok (.if_icmp .ne 9, 3) := by decide +kernel
theorem dX3_findBest_131 : decode cX3_findBest 131 = .ok (.aload_n 0, 1) := by decide +kernel
theorem dX3_findBest_132 : decode cX3_findBest 132 = .ok (.iload 9, 2) := by decide +kernel
theorem dX3_findBest_134 : decode cX3_findBest 134 = .ok (.putfield 35, 3) := by decide +kernel
theorem dX3_findBest_137 : decode cX3_findBest 137 = .ok (.iinc 8 1, 3) := by decide +kernel
theorem dX3_findBest_140 : decode cX3_findBest 140 = .ok (.goto (-93), 3) := by decide +kernel
theorem dX3_findBest_143 : decode cX3_findBest 143 = .ok (.aload_n 1, 1) := by decide +kernel
theorem dX3_findBest_144 : decode cX3_findBest 144 = .ok (.getfield 56, 3) := by decide +kernel
theorem dX3_findBest_147 : decode cX3_findBest 147 = .ok (.iload 4, 2) := by decide +kernel
theorem dX3_findBest_149 : decode cX3_findBest 149 = .ok (.iload 5, 2) := by decide +kernel
theorem dX3_findBest_151 : decode cX3_findBest 151 = .ok (.bipush 10, 2) := by decide +kernel
theorem dX3_findBest_153 : decode cX3_findBest 153 = .ok (.idiv, 1) := by decide +kernel
theorem dX3_findBest_154 : decode cX3_findBest 154 = .ok (.iastore, 1) := by decide +kernel
theorem dX3_findBest_155 : decode cX3_findBest 155 = .ok (.aload_n 1, 1) := by decide +kernel
theorem dX3_findBest_156 : decode cX3_findBest 156 = .ok (.getfield 60, 3) := by decide +kernel
theorem dX3_findBest_159 : decode cX3_findBest 159 = .ok (.iload 4, 2) := by decide +kernel
theorem dX3_findBest_161 : decode cX3_findBest 161 = .ok (.iload 5, 2) := by decide +kernel
theorem dX3_findBest_163 : decode cX3_findBest 163 = .ok (.bipush 10, 2) := by decide +kernel
theorem dX3_findBest_165 : decode cX3_findBest 165 = .ok (.irem, 1) := by decide +kernel
theorem dX3_findBest_166 : decode cX3_findBest 166 = .ok (.iastore, 1) := by decide +kernel
theorem dX3_findBest_167 : decode cX3_findBest 167 = .ok (.return_, 1) := by decide +kernel
theorem dX3_oddsWith_0 : decode cX3_oddsWith 0 = .ok (.iload_n 3, 1) := by decide +kernel
theorem dX3_oddsWith_1 : decode cX3_oddsWith 1 = .ok (.ifCond .ne 7, 3) := by decide +kernel
theorem dX3_oddsWith_4 : decode cX3_oddsWith 4 = .ok (.iload_n 2, 1) := by decide +kernel
theorem dX3_oddsWith_5 : decode cX3_oddsWith 5 = .ok (.goto 8, 3) := by decide +kernel
theorem dX3_oddsWith_8 : decode cX3_oddsWith 8 = .ok (.aload_n 1, 1) := by decide +kernel
theorem dX3_oddsWith_9 : decode cX3_oddsWith 9 = .ok (.iload_n 2, 1) := by decide +kernel
theorem dX3_oddsWith_10 : decode cX3_oddsWith 10 = .ok (.invokevirtual 50, 3) := by decide +kernel
theorem dX3_oddsWith_13 : decode cX3_oddsWith 13 = .ok (.istore 5, 2) := by decide +kernel
theorem dX3_oddsWith_15 : decode cX3_oddsWith 15 = .ok (.aload_n 1, 1) := by decide +kernel
theorem dX3_oddsWith_16 : decode cX3_oddsWith 16 = .ok (.getfield 56, 3) := by decide +kernel
theorem dX3_oddsWith_19 : decode cX3_oddsWith 19 = .ok (.aload_n 1, 1) := by decide +kernel
theorem dX3_oddsWith_20 : decode cX3_oddsWith 20 = .ok (.iload_n 2, 1) := by decide +kernel
theorem dX3_oddsWith_21 : decode cX3_oddsWith 21 = .ok (.iload_n 3, 1) := by decide +kernel
theorem dX3_oddsWith_22 : decode cX3_oddsWith 22 = .ok (.invokevirtual 42, 3) := by decide +kernel
theorem dX3_oddsWith_25 : decode cX3_oddsWith 25 = .ok (.iload 4, 2) := by decide +kernel
theorem dX3_oddsWith_27 : decode cX3_oddsWith 27 = .ok (.iastore, 1) := by decide +kernel
theorem dX3_oddsWith_28 : decode cX3_oddsWith 28 = .ok (.aload_n 0, 1) := by decide +kernel
theorem dX3_oddsWith_29 : decode cX3_oddsWith 29 = .ok (.getfield 38, 3) := by decide +kernel
theorem dX3_oddsWith_32 : decode cX3_oddsWith 32 = .ok (.aload_n 1, 1) := by decide +kernel
theorem dX3_oddsWith_33 : decode cX3_oddsWith 33 = .ok (.iload 5, 2) := by decide +kernel
theorem dX3_oddsWith_35 : decode cX3_oddsWith 35 = .ok (.aload_n 1, 1) := by decide +kernel
theorem dX3_oddsWith_36 : decode cX3_oddsWith 36 = .ok (.iload 5, 2) := by decide +kernel
theorem dX3_oddsWith_38 : decode cX3_oddsWith 38 = .ok (.invokevirtual 53, 3) := by decide +kernel
theorem dX3_oddsWith_41 : decode cX3_oddsWith 41 = .ok (.invokevirtual 63, 3) := by decide +kernel
theorem dX3_oddsWith_44 : decode cX3_oddsWith 44 = .ok (.aload_n 0, 1) := by decide +kernel
theorem dX3_oddsWith_45 : decode cX3_oddsWith 45 = .ok (.getfield 38, 3) := by decide +kernel
theorem dX3_oddsWith_48 : decode cX3_oddsWith 48 = .ok (.getfield 69, 3) := by decide +kernel
theorem dX3_oddsWith_51 : decode cX3_oddsWith 51 = .ok (.iconst 4, 1) := by decide +kernel
theorem dX3_oddsWith_52 : decode cX3_oddsWith 52 = .ok (.iload_n 3, 1) := by decide +kernel
theorem dX3_oddsWith_53 : decode cX3_oddsWith 53 = .ok (.iadd, 1) := by decide +kernel
theorem dX3_oddsWith_54 : decode cX3_oddsWith 54 = .ok (.iaload, 1) := by decide +kernel
theorem dX3_oddsWith_55 : decode cX3_oddsWith 55 = .ok (.ireturn, 1) := by decide +kernel
theorem dX3_settle_0 : decode cX3_settle 0 = .ok (.aload_n 0, 1) := by decide +kernel
theorem dX3_settle_1 : decode cX3_settle 1 = .ok (.getfield 21, 3) := by decide +kernel
theorem dX3_settle_4 : decode cX3_settle 4 = .ok (.ifCond .eq 4, 3) := by decide +kernel
theorem dX3_settle_7 : decode cX3_settle 7 = .ok (.return_, 1) := by decide +kernel
theorem dX3_settle_8 : decode cX3_settle 8 = .ok (.aload_n 0, 1) := by decide +kernel
theorem dX3_settle_9 : decode cX3_settle 9 = .ok (.iconst 1, 1) := by decide +kernel
theorem dX3_settle_10 : decode cX3_settle 10 = .ok (.putfield 21, 3) := by decide +kernel
theorem dX3_settle_13 : decode cX3_settle 13 = .ok (.aload_n 0, 1) := by decide +kernel
theorem dX3_settle_14 : decode cX3_settle 14 = .ok (.getfield 18, 3) := by decide +kernel
theorem dX3_settle_17 : decode cX3_settle 17 = .ok (.aload_n 1, 1) := by decide +kernel
theorem dX3_settle_18 : decode cX3_settle 18 = .ok (.invokevirtual 72, 3) := by decide +kernel
theorem dX3_settle_21 : decode cX3_settle 21 = .ok (.aload_n 0, 1) := by decide +kernel
theorem dX3_settle_22 : decode cX3_settle 22 = .ok (.bipush 13, 2) := by decide +kernel
theorem dX3_settle_24 : decode cX3_settle 24 = .ok (.putfield 25, 3) := by decide +kernel
theorem dX3_settle_27 : decode cX3_settle 27 = .ok (.iconst 1, 1) := by decide +kernel
theorem dX3_settle_28 : decode cX3_settle 28 = .ok (.istore_n 2, 1) := by decide +kernel
theorem dX3_settle_29 : decode cX3_settle 29 = .ok (.iload_n 2, 1) := by decide +kernel
theorem dX3_settle_30 : decode cX3_settle 30 = .ok (.bipush 12, 2) := by decide +kernel
theorem dX3_settle_32 : decode cX3_settle 32 = .ok (.if_icmp .gt 133, 3) := by decide +kernel
theorem dX3_settle_35 : decode cX3_settle 35 = .ok (.aload_n 0, 1) := by decide +kernel
theorem dX3_settle_36 : decode cX3_settle 36 = .ok (.getfield 25, 3) := by decide +kernel
theorem dX3_settle_39 : decode cX3_settle 39 = .ok (.bipush 12, 2) := by decide +kernel
theorem dX3_settle_41 : decode cX3_settle 41 = .ok (.if_icmp .le 124, 3) := by decide +kernel
theorem dX3_settle_44 : decode cX3_settle 44 = .ok (.iconst 0, 1) := by decide +kernel
theorem dX3_settle_45 : decode cX3_settle 45 = .ok (.istore_n 3, 1) := by decide +kernel
theorem dX3_settle_46 : decode cX3_settle 46 = .ok (.iconst 0, 1) := by decide +kernel
theorem dX3_settle_47 : decode cX3_settle 47 = .ok (.istore 4, 2) := by decide +kernel
theorem dX3_settle_49 : decode cX3_settle 49 = .ok (.iload 4, 2) := by decide +kernel
theorem dX3_settle_51 : decode cX3_settle 51 = .ok (.iconst 2, 1) := by decide +kernel
theorem dX3_settle_52 : decode cX3_settle 52 = .ok (.aload_n 0, 1) := by decide +kernel
theorem dX3_settle_53 : decode cX3_settle 53 = .ok (.getfield 18, 3) := by decide +kernel
theorem dX3_settle_56 : decode cX3_settle 56 = .ok (.getfield 76, 3) := by decide +kernel
theorem dX3_settle_59 : decode cX3_settle 59 = .ok (.imul, 1) := by decide +kernel
theorem dX3_settle_60 : decode cX3_settle 60 = .ok (.if_icmp .ge 90, 3) := by decide +kernel
theorem dX3_settle_63 : decode cX3_settle 63 = .ok (.aload_n 0, 1) := by decide +kernel
theorem dX3_settle_64 : decode cX3_settle 64 = .ok (.aload_n 0, 1) := by decide +kernel
theorem dX3_settle_65 : decode cX3_settle 65 = .ok (.getfield 18, 3) := by decide +kernel
theorem dX3_settle_68 : decode cX3_settle 68 = .ok (.iload 4, 2) := by decide +kernel
theorem dX3_settle_70 : decode cX3_settle 70 = .ok (.iconst 2, 1) := by decide +kernel
theorem dX3_settle_71 : decode cX3_settle 71 = .ok (.idiv, 1) := by decide +kernel
theorem dX3_settle_72 : decode cX3_settle 72 = .ok (.iload 4, 2) := by decide +kernel
theorem dX3_settle_74 : decode cX3_settle 74 = .ok (.iconst 2, 1) := by decide +kernel
theorem dX3_settle_75 : decode cX3_settle 75 = .ok (.irem, 1) := by decide +kernel
theorem dX3_settle_76 : decode cX3_settle 76 = .ok (.invokevirtual 79, 3) := by decide +kernel
theorem dX3_settle_79 : decode cX3_settle 79 = .ok (.aload_n 0, 1) := by decide +kernel
theorem dX3_settle_80 : decode cX3_settle 80 = .ok (.getfield 32, 3) := by decide +kernel
theorem dX3_settle_83 : decode cX3_settle 83 = .ok (.aload_n 0, 1) := by decide +kernel
theorem dX3_settle_84 : decode cX3_settle 84 = .ok (.getfield 35, 3) := by decide +kernel
theorem dX3_settle_87 : decode cX3_settle 87 = .ok (.if_icmp .le 57, 3) := by decide +kernel
theorem dX3_settle_90 : decode cX3_settle 90 = .ok (.aload_n 0, 1) := by decide +kernel
theorem dX3_settle_91 : decode cX3_settle 91 = .ok (.getfield 18, 3) := by decide +kernel
theorem dX3_settle_94 : decode cX3_settle 94 = .ok (.iload 4, 2) := by decide +kernel
theorem dX3_settle_96 : decode cX3_settle 96 = .ok (.iconst 2, 1) := by decide +kernel
theorem dX3_settle_97 : decode cX3_settle 97 = .ok (.idiv, 1) := by decide +kernel
theorem dX3_settle_98 : decode cX3_settle 98 = .ok (.iload 4, 2) := by decide +kernel
theorem dX3_settle_100 : decode cX3_settle 100 = .ok (.iconst 2, 1) := by decide +kernel
theorem dX3_settle_101 : decode cX3_settle 101 = .ok (.irem, 1) := by decide +kernel
theorem dX3_settle_102 : decode cX3_settle 102 = .ok (.invokevirtual 42, 3) := by decide +kernel
theorem dX3_settle_105 : decode cX3_settle 105 = .ok (.istore 5, 2) := by decide +kernel
theorem dX3_settle_107 : decode cX3_settle 107 = .ok (.aload_n 0, 1) := by decide +kernel
theorem dX3_settle_108 : decode cX3_settle 108 = .ok (.getfield 18, 3) := by decide +kernel
theorem dX3_settle_111 : decode cX3_settle 111 = .ok (.getfield 56, 3) := by decide +kernel
theorem dX3_settle_114 : decode cX3_settle 114 = .ok (.iload 5, 2) := by decide +kernel
theorem dX3_settle_116 : decode cX3_settle 116 = .ok (.aload_n 0, 1) := by decide +kernel
theorem dX3_settle_117 : decode cX3_settle 117 = .ok (.getfield 29, 3) := by decide +kernel
theorem dX3_settle_120 : decode cX3_settle 120 = .ok (.bipush 10, 2) := by decide +kernel
theorem dX3_settle_122 : decode cX3_settle 122 = .ok (.idiv, 1) := by decide +kernel
theorem dX3_settle_123 : decode cX3_settle 123 = .ok (.iastore, 1) := by decide +kernel
theorem dX3_settle_124 : decode cX3_settle 124 = .ok (.aload_n 0, 1) := by decide +kernel
theorem dX3_settle_125 : decode cX3_settle 125 = .ok (.getfield 18, 3) := by decide +kernel
theorem dX3_settle_128 : decode cX3_settle 128 = .ok (.getfield 60, 3) := by decide +kernel
theorem dX3_settle_131 : decode cX3_settle 131 = .ok (.iload 5, 2) := by decide +kernel
theorem dX3_settle_133 : decode cX3_settle 133 = .ok (.aload_n 0, 1) := by decide +kernel
theorem dX3_settle_134 : decode cX3_settle 134 = .ok (.getfield 29, 3) := by decide +kernel
theorem dX3_settle_137 : decode cX3_settle 137 = .ok (.bipush 10, 2) := by decide +kernel
theorem dX3_settle_139 : decode cX3_settle 139 = .ok (.irem, 1) := by decide +kernel
theorem dX3_settle_140 : decode cX3_settle 140 = .ok (.iastore, 1) := by decide +kernel
theorem dX3_settle_141 : decode cX3_settle 141 = .ok (.iinc 3 1, 3) := by decide +kernel
theorem dX3_settle_144 : decode cX3_settle 144 = .ok (.iinc 4 1, 3) := by decide +kernel
theorem dX3_settle_147 : decode cX3_settle 147 = .ok (.goto (-98), 3) := by decide +kernel
theorem dX3_settle_150 : decode cX3_settle 150 = .ok (.iload_n 3, 1) := by decide +kernel
theorem dX3_settle_151 : decode cX3_settle 151 = .ok (.ifCond .ne 8, 3) := by decide +kernel
theorem dX3_settle_154 : decode cX3_settle 154 = .ok (.aload_n 0, 1) := by decide +kernel
theorem dX3_settle_155 : decode cX3_settle 155 = .ok (.iload_n 2, 1) := by decide +kernel
theorem dX3_settle_156 : decode cX3_settle 156 = .ok (.putfield 25, 3) := by decide +kernel
theorem dX3_settle_159 : decode cX3_settle 159 = .ok (.iinc 2 1, 3) := by decide +kernel
theorem dX3_settle_162 : decode cX3_settle 162 = .ok (.goto (-133), 3) := by decide +kernel
theorem dX3_settle_165 : decode cX3_settle 165 = .ok (.return_, 1) := by decide +kernel
theorem dX4_init_0 : decode cX4_init 0 = .ok (.aload_n 0, 1) := by decide +kernel
theorem dX4_init_1 : decode cX4_init 1 = .ok (.invokespecial 3, 3) := by decide +kernel
theorem dX4_init_4 : decode cX4_init 4 = .ok (.aload_n 0, 1) := by decide +kernel
theorem dX4_init_5 : decode cX4_init 5 = .ok (.bipush 9, 2) := by decide +kernel
theorem dX4_init_7 : decode cX4_init 7 = .ok (.newarray .int, 2) := by decide +kernel
theorem dX4_init_9 : decode cX4_init 9 = .ok (.putfield 9, 3) := by decide +kernel
theorem dX4_init_12 : decode cX4_init 12 = .ok (.aload_n 0, 1) := by decide +kernel
theorem dX4_init_13 : decode cX4_init 13 = .ok (.bipush 7, 2) := by decide +kernel
theorem dX4_init_15 : decode cX4_init 15 = .ok (.newarray .int, 2) := by decide +kernel
theorem dX4_init_17 : decode cX4_init 17 = .ok (.putfield 15, 3) := by decide +kernel
theorem dX4_init_20 : decode cX4_init 20 = .ok (.aload_n 0, 1) := by decide +kernel
theorem dX4_init_21 : decode cX4_init 21 = .ok (.bipush 8, 2) := by decide +kernel
theorem dX4_init_23 : decode cX4_init 23 = .ok (.newarray .int, 2) := by decide +kernel
theorem dX4_init_25 : decode cX4_init 25 = .ok (.putfield 18, 3) := by decide +kernel
theorem dX4_init_28 : decode cX4_init 28 = .ok (.aload_n 0, 1) := by decide +kernel
theorem dX4_init_29 : decode cX4_init 29 = .ok (.bipush 8, 2) := by decide +kernel
theorem dX4_init_31 : decode cX4_init 31 = .ok (.newarray .int, 2) := by decide +kernel
theorem dX4_init_33 : decode cX4_init 33 = .ok (.putfield 21, 3) := by decide +kernel
theorem dX4_init_36 : decode cX4_init 36 = .ok (.aload_n 0, 1) := by decide +kernel
theorem dX4_init_37 : decode cX4_init 37 = .ok (.bipush 8, 2) := by decide +kernel
theorem dX4_init_39 : decode cX4_init 39 = .ok (.newarray .int, 2) := by decide +kernel
theorem dX4_init_41 : decode cX4_init 41 = .ok (.putfield 24, 3) := by decide +kernel
theorem dX4_init_44 : decode cX4_init 44 = .ok (.aload_n 0, 1) := by decide +kernel
theorem dX4_init_45 : decode cX4_init 45 = .ok (.aload_n 1, 1) := by decide +kernel
theorem dX4_init_46 : decode cX4_init 46 = .ok (.putfield 27, 3) := by decide +kernel
theorem dX4_init_49 : decode cX4_init 49 = .ok (.return_, 1) := by decide +kernel
theorem dX4_work_0 : decode cX4_work 0 = .ok (.aload_n 1, 1) := by decide +kernel
theorem dX4_work_1 : decode cX4_work 1 = .ok (.iload_n 2, 1) := by decide +kernel
theorem dX4_work_2 : decode cX4_work 2 = .ok (.iconst 0, 1) := by decide +kernel
theorem dX4_work_3 : decode cX4_work 3 = .ok (.invokevirtual 31, 3) := by decide +kernel
theorem dX4_work_6 : decode cX4_work 6 = .ok (.istore 4, 2) := by decide +kernel
theorem dX4_work_8 : decode cX4_work 8 = .ok (.aload_n 1, 1) := by decide +kernel
theorem dX4_work_9 : decode cX4_work 9 = .ok (.iload_n 3, 1) := by decide +kernel
theorem dX4_work_10 : decode cX4_work 10 = .ok (.iconst 1, 1) := by decide +kernel
theorem dX4_work_11 : decode cX4_work 11 = .ok (.invokevirtual 31, 3) := by decide +kernel
theorem dX4_work_14 : decode cX4_work 14 = .ok (.istore 5, 2) := by decide +kernel
theorem dX4_work_16 : decode cX4_work 16 = .ok (.aload_n 0, 1) := by decide +kernel
theorem dX4_work_17 : decode cX4_work 17 = .ok (.aload_n 1, 1) := by decide +kernel
theorem dX4_work_18 : decode cX4_work 18 = .ok (.iload 4, 2) := by decide +kernel
theorem dX4_work_20 : decode cX4_work 20 = .ok (.iload 5, 2) := by decide +kernel
theorem dX4_work_22 : decode cX4_work 22 = .ok (.iconst 0, 1) := by decide +kernel
theorem dX4_work_23 : decode cX4_work 23 = .ok (.invokevirtual 37, 3) := by decide +kernel
theorem dX4_work_26 : decode cX4_work 26 = .ok (.aload_n 0, 1) := by decide +kernel
theorem dX4_work_27 : decode cX4_work 27 = .ok (.aload_n 1, 1) := by decide +kernel
theorem dX4_work_28 : decode cX4_work 28 = .ok (.iload 5, 2) := by decide +kernel
theorem dX4_work_30 : decode cX4_work 30 = .ok (.iload 4, 2) := by decide +kernel
theorem dX4_work_32 : decode cX4_work 32 = .ok (.iconst 1, 1) := by decide +kernel
theorem dX4_work_33 : decode cX4_work 33 = .ok (.invokevirtual 37, 3) := by decide +kernel
theorem dX4_work_36 : decode cX4_work 36 = .ok (.aload_n 0, 1) := by decide +kernel
theorem dX4_work_37 : decode cX4_work 37 = .ok (.getfield 15, 3) := by decide +kernel
theorem dX4_work_40 : decode cX4_work 40 = .ok (.iconst 0, 1) := by decide +kernel
theorem dX4_work_41 : decode cX4_work 41 = .ok (.iaload, 1) := by decide +kernel
theorem dX4_work_42 : decode cX4_work 42 = .ok (.istore 6, 2) := by decide +kernel
theorem dX4_work_44 : decode cX4_work 44 = .ok (.iload 6, 2) := by decide +kernel
theorem dX4_work_46 : decode cX4_work 46 = .ok (.aload_n 0, 1) := by decide +kernel
theorem dX4_work_47 : decode cX4_work 47 = .ok (.getfield 15, 3) := by decide +kernel
theorem dX4_work_50 : decode cX4_work 50 = .ok (.iconst 1, 1) := by decide +kernel
theorem dX4_work_51 : decode cX4_work 51 = .ok (.iaload, 1) := by decide +kernel
theorem dX4_work_52 : decode cX4_work 52 = .ok (.iadd, 1) := by decide +kernel
theorem dX4_work_53 : decode cX4_work 53 = .ok (.istore 7, 2) := by decide +kernel
theorem dX4_work_55 : decode cX4_work 55 = .ok (.aload_n 0, 1) := by decide +kernel
theorem dX4_work_56 : decode cX4_work 56 = .ok (.getfield 15, 3) := by decide +kernel
theorem dX4_work_59 : decode cX4_work 59 = .ok (.iconst 2, 1) := by decide +kernel
theorem dX4_work_60 : decode cX4_work 60 = .ok (.iaload, 1) := by decide +kernel
theorem dX4_work_61 : decode cX4_work 61 = .ok (.istore 8, 2) := by decide +kernel
theorem dX4_work_63 : decode cX4_work 63 = .ok (.aload_n 0, 1) := by decide +kernel
theorem dX4_work_64 : decode cX4_work 64 = .ok (.getfield 15, 3) := by decide +kernel
theorem dX4_work_67 : decode cX4_work 67 = .ok (.iconst 3, 1) := by decide +kernel
theorem dX4_work_68 : decode cX4_work 68 = .ok (.iaload, 1) := by decide +kernel
theorem dX4_work_69 : decode cX4_work 69 = .ok (.istore 9, 2) := by decide +kernel
theorem dX4_work_71 : decode cX4_work 71 = .ok (.iload 7, 2) := by decide +kernel
theorem dX4_work_73 : decode cX4_work 73 = .ok (.ifCond .gt 8, 3) := by decide +kernel
theorem dX4_work_76 : decode cX4_work 76 = .ok (.bipush 50, 2) := by decide +kernel
theorem dX4_work_78 : decode cX4_work 78 = .ok (.goto 11, 3) := by decide +kernel
theorem dX4_work_81 : decode cX4_work 81 = .ok (.bipush 100, 2) := by decide +kernel
theorem dX4_work_83 : decode cX4_work 83 = .ok (.iload 6, 2) := by decide +kernel
theorem dX4_work_85 : decode cX4_work 85 = .ok (.imul, 1) := by decide +kernel
theorem dX4_work_86 : decode cX4_work 86 = .ok (.iload 7, 2) := by decide +kernel
theorem dX4_work_88 : decode cX4_work 88 = .ok (.idiv, 1) := by decide +kernel
theorem dX4_work_89 : decode cX4_work 89 = .ok (.istore 10, 2) := by decide +kernel
theorem dX4_work_91 : decode cX4_work 91 = .ok (.bipush 100, 2) := by decide +kernel
theorem dX4_work_93 : decode cX4_work 93 = .ok (.iload 8, 2) := by decide +kernel
theorem dX4_work_95 : decode cX4_work 95 = .ok (.isub, 1) := by decide +kernel
theorem dX4_work_96 : decode cX4_work 96 = .ok (.bipush 100, 2) := by decide +kernel
theorem dX4_work_98 : decode cX4_work 98 = .ok (.iload 9, 2) := by decide +kernel
theorem dX4_work_100 : decode cX4_work 100 = .ok (.isub, 1) := by decide +kernel
theorem dX4_work_101 : decode cX4_work 101 = .ok (.imul, 1) := by decide +kernel
theorem dX4_work_102 : decode cX4_work 102 = .ok (.istore 11, 2) := by decide +kernel
theorem dX4_work_104 : decode cX4_work 104 = .ok (.iload 11, 2) := by decide +kernel
theorem dX4_work_106 : decode cX4_work 106 = .ok (.iload 10, 2) := by decide +kernel
theorem dX4_work_108 : decode cX4_work 108 = .ok (.imul, 1) := by decide +kernel
theorem dX4_work_109 : decode cX4_work 109 = .ok (.bipush 100, 2) := by decide +kernel
theorem dX4_work_111 : decode cX4_work 111 = .ok (.idiv, 1) := by decide +kernel
theorem dX4_work_112 : decode cX4_work 112 = .ok (.istore 12, 2) := by decide +kernel
theorem dX4_work_114 : decode cX4_work 114 = .ok (.aload_n 0, 1) := by decide +kernel
theorem dX4_work_115 : decode cX4_work 115 = .ok (.getfield 15, 3) := by decide +kernel
theorem dX4_work_118 : decode cX4_work 118 = .ok (.iconst 4, 1) := by decide +kernel
theorem dX4_work_119 : decode cX4_work 119 = .ok (.bipush 100, 2) := by decide +kernel
theorem dX4_work_121 : decode cX4_work 121 = .ok (.iload 8, 2) := by decide +kernel
theorem dX4_work_123 : decode cX4_work 123 = .ok (.isub, 1) := by decide +kernel
theorem dX4_work_124 : decode cX4_work 124 = .ok (.iload 9, 2) := by decide +kernel
theorem dX4_work_126 : decode cX4_work 126 = .ok (.imul, 1) := by decide +kernel
theorem dX4_work_127 : decode cX4_work 127 = .ok (.iload 12, 2) := by decide +kernel
theorem dX4_work_129 : decode cX4_work 129 = .ok (.iadd, 1) := by decide +kernel
theorem dX4_work_130 : decode cX4_work 130 = .ok (.iastore, 1) := by decide +kernel
theorem dX4_work_131 : decode cX4_work 131 = .ok (.aload_n 0, 1) := by decide +kernel
theorem dX4_work_132 : decode cX4_work 132 = .ok (.getfield 15, 3) := by decide +kernel
theorem dX4_work_135 : decode cX4_work 135 = .ok (.iconst 5, 1) := by decide +kernel
theorem dX4_work_136 : decode cX4_work 136 = .ok (.iload 8, 2) := by decide +kernel
theorem dX4_work_138 : decode cX4_work 138 = .ok (.bipush 100, 2) := by decide +kernel
theorem dX4_work_140 : decode cX4_work 140 = .ok (.iload 9, 2) := by decide +kernel
theorem dX4_work_142 : decode cX4_work 142 = .ok (.isub, 1) := by decide +kernel
theorem dX4_work_143 : decode cX4_work 143 = .ok (.imul, 1) := by decide +kernel
theorem dX4_work_144 : decode cX4_work 144 = .ok (.iload 11, 2) := by decide +kernel
theorem dX4_work_146 : decode cX4_work 146 = .ok (.iadd, 1) := by decide +kernel
theorem dX4_work_147 : decode cX4_work 147 = .ok (.iload 12, 2) := by decide +kernel
theorem dX4_work_149 : decode cX4_work 149 = .ok (.isub, 1) := by decide +kernel
theorem dX4_work_150 : decode cX4_work 150 = .ok (.iastore, 1) := by decide +kernel
theorem dX4_work_151 : decode cX4_work 151 = .ok (.aload_n 0, 1) := by decide +kernel
theorem dX4_work_152 : decode cX4_work 152 = .ok (.getfield 15, 3) := by decide +kernel
theorem dX4_work_155 : decode cX4_work 155 = .ok (.bipush 6, 2) := by decide +kernel
theorem dX4_work_157 : decode cX4_work 157 = .ok (.iload 8, 2) := by decide +kernel
theorem dX4_work_159 : decode cX4_work 159 = .ok (.iload 9, 2) := by decide +kernel
theorem dX4_work_161 : decode cX4_work 161 = .ok (.imul, 1) := by decide +kernel
theorem dX4_work_162 : decode cX4_work 162 = .ok (.iastore, 1) := by decide +kernel
theorem dX4_work_163 : decode cX4_work 163 = .ok (.return_, 1) := by decide +kernel
theorem dX4_measure_0 : decode cX4_measure 0 = .ok (.aload_n 0, 1) := by decide +kernel
theorem dX4_measure_1 : decode cX4_measure 1 = .ok (.getfield 27, 3) := by decide +kernel
theorem dX4_measure_4 : decode cX4_measure 4 = .ok (.getfield 41, 3) := by decide +kernel
theorem dX4_measure_7 : decode cX4_measure 7 = .ok (.iload_n 2, 1) := by decide +kernel
theorem dX4_measure_8 : decode cX4_measure 8 = .ok (.iaload, 1) := by decide +kernel
theorem dX4_measure_9 : decode cX4_measure 9 = .ok (.istore 5, 2) := by decide +kernel
theorem dX4_measure_11 : decode cX4_measure 11 = .ok (.aload_n 1, 1) := by decide +kernel
theorem dX4_measure_12 : decode cX4_measure 12 = .ok (.getfield 46, 3) := by decide +kernel
theorem dX4_measure_15 : decode cX4_measure 15 = .ok (.iload_n 2, 1) := by decide +kernel
theorem dX4_measure_16 : decode cX4_measure 16 = .ok (.iaload, 1) := by decide +kernel
theorem dX4_measure_17 : decode cX4_measure 17 = .ok (.istore 6, 2) := by decide +kernel
theorem dX4_measure_19 : decode cX4_measure 19 = .ok (.aload_n 0, 1) := by decide +kernel
theorem dX4_measure_20 : decode cX4_measure 20 = .ok (.getfield 9, 3) := by decide +kernel
theorem dX4_measure_23 : decode cX4_measure 23 = .ok (.iconst 0, 1) := by decide +kernel
theorem dX4_measure_24 : decode cX4_measure 24 = .ok (.iload 5, 2) := by decide +kernel
theorem dX4_measure_26 : decode cX4_measure 26 = .ok (.iastore, 1) := by decide +kernel
theorem dX4_measure_27 : decode cX4_measure 27 = .ok (.aload_n 0, 1) := by decide +kernel
theorem dX4_measure_28 : decode cX4_measure 28 = .ok (.getfield 9, 3) := by decide +kernel
theorem dX4_measure_31 : decode cX4_measure 31 = .ok (.iconst 1, 1) := by decide +kernel
theorem dX4_measure_32 : decode cX4_measure 32 = .ok (.aload_n 1, 1) := by decide +kernel
theorem dX4_measure_33 : decode cX4_measure 33 = .ok (.getfield 49, 3) := by decide +kernel
theorem dX4_measure_36 : decode cX4_measure 36 = .ok (.iload_n 2, 1) := by decide +kernel
theorem dX4_measure_37 : decode cX4_measure 37 = .ok (.iaload, 1) := by decide +kernel
theorem dX4_measure_38 : decode cX4_measure 38 = .ok (.iastore, 1) := by decide +kernel
theorem dX4_measure_39 : decode cX4_measure 39 = .ok (.aload_n 0, 1) := by decide +kernel
theorem dX4_measure_40 : decode cX4_measure 40 = .ok (.getfield 9, 3) := by decide +kernel
theorem dX4_measure_43 : decode cX4_measure 43 = .ok (.iconst 2, 1) := by decide +kernel
theorem dX4_measure_44 : decode cX4_measure 44 = .ok (.aload_n 1, 1) := by decide +kernel
theorem dX4_measure_45 : decode cX4_measure 45 = .ok (.getfield 49, 3) := by decide +kernel
theorem dX4_measure_48 : decode cX4_measure 48 = .ok (.iload_n 3, 1) := by decide +kernel
theorem dX4_measure_49 : decode cX4_measure 49 = .ok (.iaload, 1) := by decide +kernel
theorem dX4_measure_50 : decode cX4_measure 50 = .ok (.iastore, 1) := by decide +kernel
theorem dX4_measure_51 : decode cX4_measure 51 = .ok (.aload_n 0, 1) := by decide +kernel
theorem dX4_measure_52 : decode cX4_measure 52 = .ok (.getfield 9, 3) := by decide +kernel
theorem dX4_measure_55 : decode cX4_measure 55 = .ok (.iconst 3, 1) := by decide +kernel
theorem dX4_measure_56 : decode cX4_measure 56 = .ok (.iload 6, 2) := by decide +kernel
theorem dX4_measure_58 : decode cX4_measure 58 = .ok (.ifCond .ne 7, 3) := by decide +kernel
theorem dX4_measure_61 : decode cX4_measure 61 = .ok (.iconst 1, 1) := by decide +kernel
theorem dX4_measure_62 : decode cX4_measure 62 = .ok (.goto 4, 3) := by decide +kernel
theorem dX4_measure_65 : decode cX4_measure 65 = .ok (.iconst 0, 1) := by decide +kernel
theorem dX4_measure_66 : decode cX4_measure 66 = .ok (.iastore, 1) := by decide +kernel
theorem dX4_measure_67 : decode cX4_measure 67 = .ok (.aload_n 0, 1) := by decide +kernel
theorem dX4_measure_68 : decode cX4_measure 68 = .ok (.getfield 9, 3) := by decide +kernel
theorem dX4_measure_71 : decode cX4_measure 71 = .ok (.iconst 4, 1) := by decide +kernel
theorem dX4_measure_72 : decode cX4_measure 72 = .ok (.iload 6, 2) := by decide +kernel
theorem dX4_measure_74 : decode cX4_measure 74 = .ok (.iconst 1, 1) := by decide +kernel
theorem dX4_measure_75 : decode cX4_measure 75 = .ok (.if_icmp .ne 7, 3) := by decide +kernel
theorem dX4_measure_78 : decode cX4_measure 78 = .ok (.iconst 1, 1) := by decide +kernel
theorem dX4_measure_79 : decode cX4_measure 79 = .ok (.goto 4, 3) := by decide +kernel
theorem dX4_measure_82 : decode cX4_measure 82 = .ok (.iconst 0, 1) := by decide +kernel
theorem dX4_measure_83 : decode cX4_measure 83 = .ok (.iastore, 1) := by decide +kernel
theorem dX4_measure_84 : decode cX4_measure 84 = .ok (.aload_n 0, 1) := by decide +kernel
theorem dX4_measure_85 : decode cX4_measure 85 = .ok (.getfield 9, 3) := by decide +kernel
theorem dX4_measure_88 : decode cX4_measure 88 = .ok (.iconst 5, 1) := by decide +kernel
theorem dX4_measure_89 : decode cX4_measure 89 = .ok (.iload 6, 2) := by decide +kernel
theorem dX4_measure_91 : decode cX4_measure 91 = .ok (.iconst 2, 1) := by decide +kernel
theorem dX4_measure_92 : decode cX4_measure 92 = .ok (.if_icmp .ne 7, 3) := by decide +kernel
theorem dX4_measure_95 : decode cX4_measure 95 = .ok (.iconst 1, 1) := by decide +kernel
theorem dX4_measure_96 : decode cX4_measure 96 = .ok (.goto 4, 3) := by decide +kernel
theorem dX4_measure_99 : decode cX4_measure 99 = .ok (.iconst 0, 1) := by decide +kernel
theorem dX4_measure_100 : decode cX4_measure 100 = .ok (.iastore, 1) := by decide +kernel
theorem dX4_measure_101 : decode cX4_measure 101 = .ok (.aload_n 0, 1) := by decide +kernel
theorem dX4_measure_102 : decode cX4_measure 102 = .ok (.getfield 27, 3) := by decide +kernel
theorem dX4_measure_105 : decode cX4_measure 105 = .ok (.getfield 52, 3) := by decide +kernel
theorem dX4_measure_108 : decode cX4_measure 108 = .ok (.ifCond .eq 20, 3) := by decide +kernel
theorem dX4_measure_111 : decode cX4_measure 111 = .ok (.aload_n 0, 1) := by decide +kernel
theorem dX4_measure_112 : decode cX4_measure 112 = .ok (.getfield 27, 3) := by decide +kernel
theorem dX4_measure_115 : decode cX4_measure 115 = .ok (.getfield 56, 3) := by decide +kernel
theorem dX4_measure_118 : decode cX4_measure 118 = .ok (.aload_n 0, 1) := by decide +kernel
theorem dX4_measure_119 : decode cX4_measure 119 = .ok (.getfield 9, 3) := by decide +kernel
theorem dX4_measure_122 : decode cX4_measure 122 = .ok (.invokevirtual 60, 3) := by decide +kernel
theorem dX4_measure_125 : decode cX4_measure 125 = .ok (.goto 5, 3) := by decide +kernel
theorem dX4_measure_128 : decode cX4_measure 128 = .ok (.iload 5, 2) := by decide +kernel
theorem dX4_measure_130 : decode cX4_measure 130 = .ok (.istore 7, 2) := by decide +kernel
theorem dX4_measure_132 : decode cX4_measure 132 = .ok (.aload_n 0, 1) := by decide +kernel
theorem dX4_measure_133 : decode cX4_measure 133 = .ok (.getfield 27, 3) := by decide +kernel
theorem dX4_measure_136 : decode cX4_measure 136 = .ok (.getfield 66, 3) := by decide +kernel
theorem dX4_measure_139 : decode cX4_measure 139 = .ok (.ifCond .eq 20, 3) := by decide +kernel
theorem dX4_measure_142 : decode cX4_measure 142 = .ok (.aload_n 0, 1) := by decide +kernel
theorem dX4_measure_143 : decode cX4_measure 143 = .ok (.getfield 27, 3) := by decide +kernel
theorem dX4_measure_146 : decode cX4_measure 146 = .ok (.getfield 69, 3) := by decide +kernel
theorem dX4_measure_149 : decode cX4_measure 149 = .ok (.aload_n 0, 1) := by decide +kernel
theorem dX4_measure_150 : decode cX4_measure 150 = .ok (.getfield 9, 3) := by decide +kernel
theorem dX4_measure_153 : decode cX4_measure 153 = .ok (.invokevirtual 60, 3) := by decide +kernel
theorem dX4_measure_156 : decode cX4_measure 156 = .ok (.goto 4, 3) := by decide +kernel
theorem dX4_measure_159 : decode cX4_measure 159 = .ok (.iconst 0, 1) := by decide +kernel
theorem dX4_measure_160 : decode cX4_measure 160 = .ok (.istore 8, 2) := by decide +kernel
theorem dX4_measure_162 : decode cX4_measure 162 = .ok (.aload_n 0, 1) := by decide +kernel
theorem dX4_measure_163 : decode cX4_measure 163 = .ok (.getfield 15, 3) := by decide +kernel
theorem dX4_measure_166 : decode cX4_measure 166 = .ok (.iconst 0, 1) := by decide +kernel
theorem dX4_measure_167 : decode cX4_measure 167 = .ok (.iload 4, 2) := by decide +kernel
theorem dX4_measure_169 : decode cX4_measure 169 = .ok (.iadd, 1) := by decide +kernel
theorem dX4_measure_170 : decode cX4_measure 170 = .ok (.iconst 0, 1) := by decide +kernel
theorem dX4_measure_171 : decode cX4_measure 171 = .ok (.sipush 999, 3) := by decide +kernel
theorem dX4_measure_174 : decode cX4_measure 174 = .ok (.iload 7, 2) := by decide +kernel
theorem dX4_measure_176 : decode cX4_measure 176 = .ok (.invokestatic 72, 3) := by decide +kernel
theorem dX4_measure_179 : decode cX4_measure 179 = .ok (.invokestatic 77, 3) := by decide +kernel
theorem dX4_measure_182 : decode cX4_measure 182 = .ok (.iastore, 1) := by decide +kernel
theorem dX4_measure_183 : decode cX4_measure 183 = .ok (.aload_n 0, 1) := by decide +kernel
theorem dX4_measure_184 : decode cX4_measure 184 = .ok (.getfield 15, 3) := by decide +kernel
theorem dX4_measure_187 : decode cX4_measure 187 = .ok (.iconst 2, 1) := by decide +kernel
theorem dX4_measure_188 : decode cX4_measure 188 = .ok (.iload 4, 2) := by decide +kernel
theorem dX4_measure_190 : decode cX4_measure 190 = .ok (.iadd, 1) := by decide +kernel
theorem dX4_measure_191 : decode cX4_measure 191 = .ok (.iconst 0, 1) := by decide +kernel
theorem dX4_measure_192 : decode cX4_measure 192 = .ok (.bipush 100, 2) := by decide +kernel
theorem dX4_measure_194 : decode cX4_measure 194 = .ok (.iload 8, 2) := by decide +kernel
theorem dX4_measure_196 : decode cX4_measure 196 = .ok (.invokestatic 72, 3) := by decide +kernel
theorem dX4_measure_199 : decode cX4_measure 199 = .ok (.invokestatic 77, 3) := by decide +kernel
theorem dX4_measure_202 : decode cX4_measure 202 = .ok (.iastore, 1) := by decide +kernel
theorem dX4_measure_203 : decode cX4_measure 203 = .ok (.return_, 1) := by decide +kernel
theorem dX4_workAll_0 : decode cX4_workAll 0 = .ok (.iconst 0, 1) := by decide +kernel
theorem dX4_workAll_1 : decode cX4_workAll 1 = .ok (.istore_n 2, 1) := by decide +kernel
theorem dX4_workAll_2 : decode cX4_workAll 2 = .ok (.iload_n 2, 1) := by decide +kernel
theorem dX4_workAll_3 : decode cX4_workAll 3 = .ok (.aload_n 1, 1) := by decide +kernel
theorem dX4_workAll_4 : decode cX4_workAll 4 = .ok (.invokevirtual 80, 3) := by decide +kernel
theorem dX4_workAll_7 : decode cX4_workAll 7 = .ok (.if_icmp .ge 57, 3) := by decide +kernel
theorem dX4_workAll_10 : decode cX4_workAll 10 = .ok (.aload_n 0, 1) := by decide +kernel
theorem dX4_workAll_11 : decode cX4_workAll 11 = .ok (.aload_n 1, 1) := by decide +kernel
theorem dX4_workAll_12 : decode cX4_workAll 12 = .ok (.iload_n 2, 1) := by decide +kernel
theorem dX4_workAll_13 : decode cX4_workAll 13 = .ok (.aload_n 1, 1) := by decide +kernel
theorem dX4_workAll_14 : decode cX4_workAll 14 = .ok (.iload_n 2, 1) := by decide +kernel
theorem dX4_workAll_15 : decode cX4_workAll 15 = .ok (.invokevirtual 84, 3) := by decide +kernel
theorem dX4_workAll_18 : decode cX4_workAll 18 = .ok (.invokevirtual 88, 3) := by decide +kernel
theorem dX4_workAll_21 : decode cX4_workAll 21 = .ok (.aload_n 0, 1) := by decide +kernel
theorem dX4_workAll_22 : decode cX4_workAll 22 = .ok (.getfield 18, 3) := by decide +kernel
theorem dX4_workAll_25 : decode cX4_workAll 25 = .ok (.iload_n 2, 1) := by decide +kernel
theorem dX4_workAll_26 : decode cX4_workAll 26 = .ok (.aload_n 0, 1) := by decide +kernel
theorem dX4_workAll_27 : decode cX4_workAll 27 = .ok (.getfield 15, 3) := by decide +kernel
theorem dX4_workAll_30 : decode cX4_workAll 30 = .ok (.iconst 4, 1) := by decide +kernel
theorem dX4_workAll_31 : decode cX4_workAll 31 = .ok (.iaload, 1) := by decide +kernel
theorem dX4_workAll_32 : decode cX4_workAll 32 = .ok (.iastore, 1) := by decide +kernel
theorem dX4_workAll_33 : decode cX4_workAll 33 = .ok (.aload_n 0, 1) := by decide +kernel
theorem dX4_workAll_34 : decode cX4_workAll 34 = .ok (.getfield 21, 3) := by decide +kernel
theorem dX4_workAll_37 : decode cX4_workAll 37 = .ok (.iload_n 2, 1) := by decide +kernel
theorem dX4_workAll_38 : decode cX4_workAll 38 = .ok (.aload_n 0, 1) := by decide +kernel
theorem dX4_workAll_39 : decode cX4_workAll 39 = .ok (.getfield 15, 3) := by decide +kernel
theorem dX4_workAll_42 : decode cX4_workAll 42 = .ok (.iconst 5, 1) := by decide +kernel
theorem dX4_workAll_43 : decode cX4_workAll 43 = .ok (.iaload, 1) := by decide +kernel
theorem dX4_workAll_44 : decode cX4_workAll 44 = .ok (.iastore, 1) := by decide +kernel
theorem dX4_workAll_45 : decode cX4_workAll 45 = .ok (.aload_n 0, 1) := by decide +kernel
theorem dX4_workAll_46 : decode cX4_workAll 46 = .ok (.getfield 24, 3) := by decide +kernel
theorem dX4_workAll_49 : decode cX4_workAll 49 = .ok (.iload_n 2, 1) := by decide +kernel
theorem dX4_workAll_50 : decode cX4_workAll 50 = .ok (.aload_n 0, 1) := by decide +kernel
theorem dX4_workAll_51 : decode cX4_workAll 51 = .ok (.getfield 15, 3) := by decide +kernel
theorem dX4_workAll_54 : decode cX4_workAll 54 = .ok (.bipush 6, 2) := by decide +kernel
theorem dX4_workAll_56 : decode cX4_workAll 56 = .ok (.iaload, 1) := by decide +kernel
theorem dX4_workAll_57 : decode cX4_workAll 57 = .ok (.iastore, 1) := by decide +kernel
theorem dX4_workAll_58 : decode cX4_workAll 58 = .ok (.iinc 2 1, 3) := by decide +kernel
theorem dX4_workAll_61 : decode cX4_workAll 61 = .ok (.goto (-59), 3) := by decide +kernel
theorem dX4_workAll_64 : decode cX4_workAll 64 = .ok (.return_, 1) := by decide +kernel
theorem dX4_ways_0 : decode cX4_ways 0 = .ok (.aload_n 0, 1) := by decide +kernel
theorem dX4_ways_1 : decode cX4_ways 1 = .ok (.getfield 18, 3) := by decide +kernel
theorem dX4_ways_4 : decode cX4_ways 4 = .ok (.iload_n 2, 1) := by decide +kernel
theorem dX4_ways_5 : decode cX4_ways 5 = .ok (.iaload, 1) := by decide +kernel
theorem dX4_ways_6 : decode cX4_ways 6 = .ok (.i2l, 1) := by decide +kernel
theorem dX4_ways_7 : decode cX4_ways 7 = .ok (.lstore 4, 2) := by decide +kernel
theorem dX4_ways_9 : decode cX4_ways 9 = .ok (.aload_n 0, 1) := by decide +kernel
theorem dX4_ways_10 : decode cX4_ways 10 = .ok (.getfield 21, 3) := by decide +kernel
theorem dX4_ways_13 : decode cX4_ways 13 = .ok (.aload_n 1, 1) := by decide +kernel
theorem dX4_ways_14 : decode cX4_ways 14 = .ok (.iload_n 2, 1) := by decide +kernel
theorem dX4_ways_15 : decode cX4_ways 15 = .ok (.invokevirtual 92, 3) := by decide +kernel
theorem dX4_ways_18 : decode cX4_ways 18 = .ok (.iaload, 1) := by decide +kernel
theorem dX4_ways_19 : decode cX4_ways 19 = .ok (.i2l, 1) := by decide +kernel
theorem dX4_ways_20 : decode cX4_ways 20 = .ok (.lstore 6, 2) := by decide +kernel
theorem dX4_ways_22 : decode cX4_ways 22 = .ok (.iload_n 3, 1) := by decide +kernel
theorem dX4_ways_23 : decode cX4_ways 23 = .ok (.ifCond .ne 17, 3) := by decide +kernel
theorem dX4_ways_26 : decode cX4_ways 26 = .ok (.ldc2_w 95, 3) := by decide +kernel
theorem dX4_ways_29 : decode cX4_ways 29 = .ok (.lload 4, 2) := by decide +kernel
theorem dX4_ways_31 : decode cX4_ways 31 = .ok (.lsub, 1) := by decide +kernel
theorem dX4_ways_32 : decode cX4_ways 32 = .ok (.ldc2_w 95, 3) := by decide +kernel
theorem dX4_ways_35 : decode cX4_ways 35 = .ok (.lload 6, 2) := by decide +kernel
theorem dX4_ways_37 : decode cX4_ways 37 = .ok (.lsub, 1) := by decide +kernel
theorem dX4_ways_38 : decode cX4_ways 38 = .ok (.lmul, 1) := by decide +kernel
theorem dX4_ways_39 : decode cX4_ways 39 = .ok (.lreturn, 1) := by decide +kernel
theorem dX4_ways_40 : decode cX4_ways 40 = .ok (.iload_n 3, 1) := by decide +kernel
theorem dX4_ways_41 : decode cX4_ways 41 = .ok (.iconst 2, 1) := by decide +kernel
theorem dX4_ways_42 : decode cX4_ways 42 = .ok (.if_icmp .ne 11, 3) := by decide +kernel
theorem dX4_ways_45 : decode cX4_ways 45 = .ok (.lload 4, 2) := by decide +kernel
theorem dX4_ways_47 : decode cX4_ways 47 = .ok (.lload 6, 2) := by decide +kernel
theorem dX4_ways_49 : decode cX4_ways 49 = .ok (.lmul, 1) := by decide +kernel
theorem dX4_ways_50 : decode cX4_ways 50 = .ok (.goto 22, 3) := by decide +kernel
theorem dX4_ways_53 : decode cX4_ways 53 = .ok (.lload 4, 2) := by decide +kernel
theorem dX4_ways_55 : decode cX4_ways 55 = .ok (.ldc2_w 95, 3) := by decide +kernel
theorem dX4_ways_58 : decode cX4_ways 58 = .ok (.lload 6, 2) := by decide +kernel
theorem dX4_ways_60 : decode cX4_ways 60 = .ok (.lsub, 1) := by decide +kernel
theorem dX4_ways_61 : decode cX4_ways 61 = .ok (.lmul, 1) := by decide +kernel
theorem dX4_ways_62 : decode cX4_ways 62 = .ok (.lload 6, 2) := by decide +kernel
theorem dX4_ways_64 : decode cX4_ways 64 = .ok (.ldc2_w 95, 3) := by decide +kernel
theorem dX4_ways_67 : decode cX4_ways 67 = .ok (.lload 4, 2) := by decide +kernel
theorem dX4_ways_69 : decode cX4_ways 69 = .ok (.lsub, 1) := by decide +kernel
theorem dX4_ways_70 : decode cX4_ways 70 = .ok (.lmul, 1) := by decide +kernel
theorem dX4_ways_71 : decode cX4_ways 71 = .ok (.ladd, 1) := by decide +kernel
theorem dX4_ways_72 : decode cX4_ways 72 = .ok (.lreturn, 1) := by decide +kernel
theorem dX4_canGoWithout_0 : decode cX4_canGoWithout 0 = .ok (.iconst 0, 1) := by decide +kernel
theorem dX4_canGoWithout_1 : decode cX4_canGoWithout 1 = .ok (.istore_n 3, 1) := by decide +kernel
theorem dX4_canGoWithout_2 : decode cX4_canGoWithout 2 = .ok (.iload_n 3, 1) := by decide +kernel
theorem dX4_canGoWithout_3 : decode cX4_canGoWithout 3 = .ok (.aload_n 1, 1) := by decide +kernel
theorem dX4_canGoWithout_4 : decode cX4_canGoWithout 4 = .ok (.invokevirtual 80, 3) := by decide +kernel
theorem dX4_canGoWithout_7 : decode cX4_canGoWithout 7 = .ok (.if_icmp .ge 82, 3) := by decide +kernel
theorem dX4_canGoWithout_10 : decode cX4_canGoWithout 10 = .ok (.aload_n 0, 1) := by decide +kernel
theorem dX4_canGoWithout_11 : decode cX4_canGoWithout 11 = .ok (.getfield 18, 3) := by decide +kernel
theorem dX4_canGoWithout_14 : decode cX4_canGoWithout 14 = .ok (.iload_n 3, 1) := by decide +kernel
theorem dX4_canGoWithout_15 : decode cX4_canGoWithout 15 = .ok (.iaload, 1) := by decide +kernel
theorem dX4_canGoWithout_16 : decode cX4_canGoWithout 16 = .ok (.ifCond .le 15, 3) := by decide +kernel
theorem dX4_canGoWithout_19 : decode cX4_canGoWithout 19 = .ok (.iload_n 2, 1) := by decide +kernel
theorem dX4_canGoWithout_20 : decode cX4_canGoWithout 20 = .ok (.iload_n 3, 1) := by decide +kernel
theorem dX4_canGoWithout_21 : decode cX4_canGoWithout 21 = .ok (.ishr, 1) := by decide +kernel
theorem dX4_canGoWithout_22 : decode cX4_canGoWithout 22 = .ok (.iconst 1, 1) := by decide +kernel
theorem dX4_canGoWithout_23 : decode cX4_canGoWithout 23 = .ok (.iand, 1) := by decide +kernel
theorem dX4_canGoWithout_24 : decode cX4_canGoWithout 24 = .ok (.ifCond .ne 7, 3) := by decide +kernel
theorem dX4_canGoWithout_27 : decode cX4_canGoWithout 27 = .ok (.iconst 1, 1) := by decide +kernel
theorem dX4_canGoWithout_28 : decode cX4_canGoWithout 28 = .ok (.goto 4, 3) := by decide +kernel
theorem dX4_canGoWithout_31 : decode cX4_canGoWithout 31 = .ok (.iconst 0, 1) := by decide +kernel
theorem dX4_canGoWithout_32 : decode cX4_canGoWithout 32 = .ok (.istore 4, 2) := by decide +kernel
theorem dX4_canGoWithout_34 : decode cX4_canGoWithout 34 = .ok (.aload_n 0, 1) := by decide +kernel
theorem dX4_canGoWithout_35 : decode cX4_canGoWithout 35 = .ok (.getfield 21, 3) := by decide +kernel
theorem dX4_canGoWithout_38 : decode cX4_canGoWithout 38 = .ok (.iload_n 3, 1) := by decide +kernel
theorem dX4_canGoWithout_39 : decode cX4_canGoWithout 39 = .ok (.iaload, 1) := by decide +kernel
theorem dX4_canGoWithout_40 : decode cX4_canGoWithout 40 = .ok (.ifCond .le 19, 3) := by decide +kernel
theorem dX4_canGoWithout_43 : decode cX4_canGoWithout 43 = .ok (.iload_n 2, 1) := by decide +kernel
theorem dX4_canGoWithout_44 : decode cX4_canGoWithout 44 = .ok (.aload_n 1, 1) := by decide +kernel
theorem dX4_canGoWithout_45 : decode cX4_canGoWithout 45 = .ok (.iload_n 3, 1) := by decide +kernel
theorem dX4_canGoWithout_46 : decode cX4_canGoWithout 46 = .ok (.invokevirtual 84, 3) := by decide +kernel
theorem dX4_canGoWithout_49 : decode cX4_canGoWithout 49 = .ok (.ishr, 1) := by decide +kernel
theorem dX4_canGoWithout_50 : decode cX4_canGoWithout 50 = .ok (.iconst 1, 1) := by decide +kernel
theorem dX4_canGoWithout_51 : decode cX4_canGoWithout 51 = .ok (.iand, 1) := by decide +kernel
theorem dX4_canGoWithout_52 : decode cX4_canGoWithout 52 = .ok (.ifCond .ne 7, 3) := by decide +kernel
theorem dX4_canGoWithout_55 : decode cX4_canGoWithout 55 = .ok (.iconst 1, 1) := by decide +kernel
theorem dX4_canGoWithout_56 : decode cX4_canGoWithout 56 = .ok (.goto 4, 3) := by decide +kernel
theorem dX4_canGoWithout_59 : decode cX4_canGoWithout 59 = .ok (.iconst 0, 1) := by decide +kernel
theorem dX4_canGoWithout_60 : decode cX4_canGoWithout 60 = .ok (.istore 5, 2) := by decide +kernel
theorem dX4_canGoWithout_62 : decode cX4_canGoWithout 62 = .ok (.iload 4, 2) := by decide +kernel
theorem dX4_canGoWithout_64 : decode cX4_canGoWithout 64 = .ok (.ifCond .ne 19, 3) := by decide +kernel
theorem dX4_canGoWithout_67 : decode cX4_canGoWithout 67 = .ok (.iload 5, 2) := by decide +kernel
theorem dX4_canGoWithout_69 : decode cX4_canGoWithout 69 = .ok (.ifCond .ne 14, 3) := by decide +kernel
theorem dX4_canGoWithout_72 : decode cX4_canGoWithout 72 = .ok (.aload_n 0, 1) := by decide +kernel
theorem dX4_canGoWithout_73 : decode cX4_canGoWithout 73 = .ok (.getfield 24, 3) := by decide +kernel
theorem dX4_canGoWithout_76 : decode cX4_canGoWithout 76 = .ok (.iload_n 3, 1) := by decide +kernel
theorem dX4_canGoWithout_77 : decode cX4_canGoWithout 77 = .ok (.iaload, 1) := by decide +kernel
theorem dX4_canGoWithout_78 : decode cX4_canGoWithout 78 = .ok (.ifCond .ne 5, 3) := by decide +kernel
theorem dX4_canGoWithout_81 : decode cX4_canGoWithout 81 = .ok (.iconst 0, 1) := by decide +kernel
theorem dX4_canGoWithout_82 : decode cX4_canGoWithout 82 = .ok (.ireturn, 1) := by decide +kernel
theorem dX4_canGoWithout_83 : decode cX4_canGoWithout 83 = .ok (.iinc 3 1, 3) := by decide +kernel
theorem dX4_canGoWithout_86 : decode cX4_canGoWithout 86 = .ok (.goto (-84), 3) := by decide +kernel
theorem dX4_canGoWithout_89 : decode cX4_canGoWithout 89 = .ok (.iconst 1, 1) := by decide +kernel
theorem dX4_canGoWithout_90 : decode cX4_canGoWithout 90 = .ok (.ireturn, 1) := by decide +kernel
theorem dX5_init_0 : decode cX5_init 0 = .ok (.aload_n 0, 1) := by decide +kernel
theorem dX5_init_1 : decode cX5_init 1 = .ok (.invokespecial 3, 3) := by decide +kernel
theorem dX5_init_4 : decode cX5_init 4 = .ok (.aload_n 0, 1) := by decide +kernel
theorem dX5_init_5 : decode cX5_init 5 = .ok (.new 9, 3) := by decide +kernel
theorem dX5_init_8 : decode cX5_init 8 = .ok (.dup, 1) := by decide +kernel
theorem dX5_init_9 : decode cX5_init 9 = .ok (.invokespecial 11, 3) := by decide +kernel
theorem dX5_init_12 : decode cX5_init 12 = .ok (.putfield 12, 3) := by decide +kernel
theorem dX5_init_15 : decode cX5_init 15 = .ok (.aload_n 0, 1) := by decide +kernel
theorem dX5_init_16 : decode cX5_init 16 = .ok (.bipush 9, 2) := by decide +kernel
theorem dX5_init_18 : decode cX5_init 18 = .ok (.newarray .int, 2) := by decide +kernel
theorem dX5_init_20 : decode cX5_init 20 = .ok (.putfield 18, 3) := by decide +kernel
theorem dX5_init_23 : decode cX5_init 23 = .ok (.aload_n 0, 1) := by decide +kernel
theorem dX5_init_24 : decode cX5_init 24 = .ok (.iconst (-1), 1) := by decide +kernel
theorem dX5_init_25 : decode cX5_init 25 = .ok (.putfield 22, 3) := by decide +kernel
theorem dX5_init_28 : decode cX5_init 28 = .ok (.aload_n 0, 1) := by decide +kernel
theorem dX5_init_29 : decode cX5_init 29 = .ok (.aload_n 1, 1) := by decide +kernel
theorem dX5_init_30 : decode cX5_init 30 = .ok (.putfield 26, 3) := by decide +kernel
theorem dX5_init_33 : decode cX5_init 33 = .ok (.aload_n 0, 1) := by decide +kernel
theorem dX5_init_34 : decode cX5_init 34 = .ok (.aload_n 2, 1) := by decide +kernel
theorem dX5_init_35 : decode cX5_init 35 = .ok (.putfield 30, 3) := by decide +kernel
theorem dX5_init_38 : decode cX5_init 38 = .ok (.return_, 1) := by decide +kernel
theorem dX5_readAll_0 : decode cX5_readAll 0 = .ok (.aload_n 0, 1) := by decide +kernel
theorem dX5_readAll_1 : decode cX5_readAll 1 = .ok (.getfield 12, 3) := by decide +kernel
theorem dX5_readAll_4 : decode cX5_readAll 4 = .ok (.invokevirtual 34, 3) := by decide +kernel
theorem dX5_readAll_7 : decode cX5_readAll 7 = .ok (.aload_n 0, 1) := by decide +kernel
theorem dX5_readAll_8 : decode cX5_readAll 8 = .ok (.getfield 30, 3) := by decide +kernel
theorem dX5_readAll_11 : decode cX5_readAll 11 = .ok (.iconst 1, 1) := by decide +kernel
theorem dX5_readAll_12 : decode cX5_readAll 12 = .ok (.putfield 37, 3) := by decide +kernel
theorem dX5_readAll_15 : decode cX5_readAll 15 = .ok (.aload_n 0, 1) := by decide +kernel
theorem dX5_readAll_16 : decode cX5_readAll 16 = .ok (.bipush 24, 2) := by decide +kernel
theorem dX5_readAll_18 : decode cX5_readAll 18 = .ok (.aload_n 0, 1) := by decide +kernel
theorem dX5_readAll_19 : decode cX5_readAll 19 = .ok (.getfield 26, 3) := by decide +kernel
theorem dX5_readAll_22 : decode cX5_readAll 22 = .ok (.bipush 24, 2) := by decide +kernel
theorem dX5_readAll_24 : decode cX5_readAll 24 = .ok (.bipush 29, 2) := by decide +kernel
theorem dX5_readAll_26 : decode cX5_readAll 26 = .ok (.invokevirtual 43, 3) := by decide +kernel
theorem dX5_readAll_29 : decode cX5_readAll 29 = .ok (.iadd, 1) := by decide +kernel
theorem dX5_readAll_30 : decode cX5_readAll 30 = .ok (.putfield 22, 3) := by decide +kernel
theorem dX5_readAll_33 : decode cX5_readAll 33 = .ok (.aload_n 0, 1) := by decide +kernel
theorem dX5_readAll_34 : decode cX5_readAll 34 = .ok (.getfield 22, 3) := by decide +kernel
theorem dX5_readAll_37 : decode cX5_readAll 37 = .ok (.bipush 26, 2) := by decide +kernel
theorem dX5_readAll_39 : decode cX5_readAll 39 = .ok (.if_icmp .gt 10, 3) := by decide +kernel
theorem dX5_readAll_42 : decode cX5_readAll 42 = .ok (.aload_n 0, 1) := by decide +kernel
theorem dX5_readAll_43 : decode cX5_readAll 43 = .ok (.invokevirtual 49, 3) := by decide +kernel
theorem dX5_readAll_46 : decode cX5_readAll 46 = .ok (.goto 14, 3) := by decide +kernel
theorem dX5_readAll_49 : decode cX5_readAll 49 = .ok (.aload_n 0, 1) := by decide +kernel
theorem dX5_readAll_50 : decode cX5_readAll 50 = .ok (.getfield 30, 3) := by decide +kernel
theorem dX5_readAll_53 : decode cX5_readAll 53 = .ok (.aload_n 0, 1) := by decide +kernel
theorem dX5_readAll_54 : decode cX5_readAll 54 = .ok (.getfield 12, 3) := by decide +kernel
theorem dX5_readAll_57 : decode cX5_readAll 57 = .ok (.invokevirtual 52, 3) := by decide +kernel
theorem dX5_readAll_60 : decode cX5_readAll 60 = .ok (.aload_n 0, 1) := by decide +kernel
theorem dX5_readAll_61 : decode cX5_readAll 61 = .ok (.getfield 26, 3) := by decide +kernel
theorem dX5_readAll_64 : decode cX5_readAll 64 = .ok (.invokevirtual 56, 3) := by decide +kernel
theorem dX5_readAll_67 : decode cX5_readAll 67 = .ok (.ifCond .ne 10, 3) := by decide +kernel
theorem dX5_readAll_70 : decode cX5_readAll 70 = .ok (.aload_n 0, 1) := by decide +kernel
theorem dX5_readAll_71 : decode cX5_readAll 71 = .ok (.getfield 26, 3) := by decide +kernel
theorem dX5_readAll_74 : decode cX5_readAll 74 = .ok (.invokevirtual 60, 3) := by decide +kernel
theorem dX5_readAll_77 : decode cX5_readAll 77 = .ok (.return_, 1) := by decide +kernel
theorem dX5_test_0 : decode cX5_test 0 = .ok (.aload_n 0, 1) := by decide +kernel
theorem dX5_test_1 : decode cX5_test 1 = .ok (.invokevirtual 63, 3) := by decide +kernel
theorem dX5_test_4 : decode cX5_test 4 = .ok (.iconst 0, 1) := by decide +kernel
theorem dX5_test_5 : decode cX5_test 5 = .ok (.istore_n 1, 1) := by decide +kernel
theorem dX5_test_6 : decode cX5_test 6 = .ok (.iload_n 1, 1) := by decide +kernel
theorem dX5_test_7 : decode cX5_test 7 = .ok (.sipush 1600, 3) := by decide +kernel
theorem dX5_test_10 : decode cX5_test 10 = .ok (.if_icmp .ge 42, 3) := by decide +kernel
theorem dX5_test_13 : decode cX5_test 13 = .ok (.aload_n 0, 1) := by decide +kernel
theorem dX5_test_14 : decode cX5_test 14 = .ok (.getfield 26, 3) := by decide +kernel
theorem dX5_test_17 : decode cX5_test 17 = .ok (.bipush 18, 2) := by decide +kernel
theorem dX5_test_19 : decode cX5_test 19 = .ok (.invokevirtual 66, 3) := by decide +kernel
theorem dX5_test_22 : decode cX5_test 22 = .ok (.ifCond .eq 30, 3) := by decide +kernel
theorem dX5_test_25 : decode cX5_test 25 = .ok (.aload_n 0, 1) := by decide +kernel
theorem dX5_test_26 : decode cX5_test 26 = .ok (.getfield 26, 3) := by decide +kernel
theorem dX5_test_29 : decode cX5_test 29 = .ok (.invokevirtual 70, 3) := by decide +kernel
theorem dX5_test_32 : decode cX5_test 32 = .ok (.aload_n 0, 1) := by decide +kernel
theorem dX5_test_33 : decode cX5_test 33 = .ok (.invokevirtual 63, 3) := by decide +kernel
theorem dX5_test_36 : decode cX5_test 36 = .ok (.aload_n 0, 1) := by decide +kernel
theorem dX5_test_37 : decode cX5_test 37 = .ok (.getfield 12, 3) := by decide +kernel
theorem dX5_test_40 : decode cX5_test 40 = .ok (.bipush 14, 2) := by decide +kernel
theorem dX5_test_42 : decode cX5_test 42 = .ok (.iconst 0, 1) := by decide +kernel
theorem dX5_test_43 : decode cX5_test 43 = .ok (.invokevirtual 73, 3) := by decide +kernel
theorem dX5_test_46 : decode cX5_test 46 = .ok (.iinc 1 1, 3) := by decide +kernel
theorem dX5_test_49 : decode cX5_test 49 = .ok (.goto (-43), 3) := by decide +kernel
theorem dX5_test_52 : decode cX5_test 52 = .ok (.return_, 1) := by decide +kernel
theorem dX5_both_0 : decode cX5_both 0 = .ok (.aload_n 0, 1) := by decide +kernel
theorem dX5_both_1 : decode cX5_both 1 = .ok (.invokevirtual 77, 3) := by decide +kernel
theorem dX5_both_4 : decode cX5_both 4 = .ok (.iconst 0, 1) := by decide +kernel
theorem dX5_both_5 : decode cX5_both 5 = .ok (.istore_n 1, 1) := by decide +kernel
theorem dX5_both_6 : decode cX5_both 6 = .ok (.iload_n 1, 1) := by decide +kernel
theorem dX5_both_7 : decode cX5_both 7 = .ok (.sipush 1600, 3) := by decide +kernel
theorem dX5_both_10 : decode cX5_both 10 = .ok (.if_icmp .ge 42, 3) := by decide +kernel
theorem dX5_both_13 : decode cX5_both 13 = .ok (.aload_n 0, 1) := by decide +kernel
theorem dX5_both_14 : decode cX5_both 14 = .ok (.getfield 26, 3) := by decide +kernel
theorem dX5_both_17 : decode cX5_both 17 = .ok (.bipush 19, 2) := by decide +kernel
theorem dX5_both_19 : decode cX5_both 19 = .ok (.invokevirtual 66, 3) := by decide +kernel
theorem dX5_both_22 : decode cX5_both 22 = .ok (.ifCond .eq 30, 3) := by decide +kernel
theorem dX5_both_25 : decode cX5_both 25 = .ok (.aload_n 0, 1) := by decide +kernel
theorem dX5_both_26 : decode cX5_both 26 = .ok (.getfield 26, 3) := by decide +kernel
theorem dX5_both_29 : decode cX5_both 29 = .ok (.invokevirtual 70, 3) := by decide +kernel
theorem dX5_both_32 : decode cX5_both 32 = .ok (.aload_n 0, 1) := by decide +kernel
theorem dX5_both_33 : decode cX5_both 33 = .ok (.invokevirtual 77, 3) := by decide +kernel
theorem dX5_both_36 : decode cX5_both 36 = .ok (.aload_n 0, 1) := by decide +kernel
theorem dX5_both_37 : decode cX5_both 37 = .ok (.getfield 12, 3) := by decide +kernel
theorem dX5_both_40 : decode cX5_both 40 = .ok (.bipush 13, 2) := by decide +kernel
theorem dX5_both_42 : decode cX5_both 42 = .ok (.iconst 0, 1) := by decide +kernel
theorem dX5_both_43 : decode cX5_both 43 = .ok (.invokevirtual 73, 3) := by decide +kernel
theorem dX5_both_46 : decode cX5_both 46 = .ok (.iinc 1 1, 3) := by decide +kernel
theorem dX5_both_49 : decode cX5_both 49 = .ok (.goto (-43), 3) := by decide +kernel
theorem dX5_both_52 : decode cX5_both 52 = .ok (.return_, 1) := by decide +kernel
theorem dX5_fact_0 : decode cX5_fact 0 = .ok (.aload_n 0, 1) := by decide +kernel
theorem dX5_fact_1 : decode cX5_fact 1 = .ok (.getfield 26, 3) := by decide +kernel
theorem dX5_fact_4 : decode cX5_fact 4 = .ok (.bipush 20, 2) := by decide +kernel
theorem dX5_fact_6 : decode cX5_fact 6 = .ok (.invokevirtual 66, 3) := by decide +kernel
theorem dX5_fact_9 : decode cX5_fact 9 = .ok (.ifCond .eq 10, 3) := by decide +kernel
theorem dX5_fact_12 : decode cX5_fact 12 = .ok (.aload_n 0, 1) := by decide +kernel
theorem dX5_fact_13 : decode cX5_fact 13 = .ok (.invokevirtual 80, 3) := by decide +kernel
theorem dX5_fact_16 : decode cX5_fact 16 = .ok (.goto 80, 3) := by decide +kernel
theorem dX5_fact_19 : decode cX5_fact 19 = .ok (.aload_n 0, 1) := by decide +kernel
theorem dX5_fact_20 : decode cX5_fact 20 = .ok (.getfield 26, 3) := by decide +kernel
theorem dX5_fact_23 : decode cX5_fact 23 = .ok (.bipush 91, 2) := by decide +kernel
theorem dX5_fact_25 : decode cX5_fact 25 = .ok (.invokevirtual 83, 3) := by decide +kernel
theorem dX5_fact_28 : decode cX5_fact 28 = .ok (.ifCond .eq 33, 3) := by decide +kernel
theorem dX5_fact_31 : decode cX5_fact 31 = .ok (.aload_n 0, 1) := by decide +kernel
theorem dX5_fact_32 : decode cX5_fact 32 = .ok (.getfield 26, 3) := by decide +kernel
theorem dX5_fact_35 : decode cX5_fact 35 = .ok (.invokevirtual 86, 3) := by decide +kernel
theorem dX5_fact_38 : decode cX5_fact 38 = .ok (.aload_n 0, 1) := by decide +kernel
theorem dX5_fact_39 : decode cX5_fact 39 = .ok (.invokevirtual 49, 3) := by decide +kernel
theorem dX5_fact_42 : decode cX5_fact 42 = .ok (.aload_n 0, 1) := by decide +kernel
theorem dX5_fact_43 : decode cX5_fact 43 = .ok (.getfield 26, 3) := by decide +kernel
theorem dX5_fact_46 : decode cX5_fact 46 = .ok (.bipush 93, 2) := by decide +kernel
theorem dX5_fact_48 : decode cX5_fact 48 = .ok (.invokevirtual 89, 3) := by decide +kernel
theorem dX5_fact_51 : decode cX5_fact 51 = .ok (.aload_n 0, 1) := by decide +kernel
theorem dX5_fact_52 : decode cX5_fact 52 = .ok (.getfield 26, 3) := by decide +kernel
theorem dX5_fact_55 : decode cX5_fact 55 = .ok (.invokevirtual 93, 3) := by decide +kernel
theorem dX5_fact_58 : decode cX5_fact 58 = .ok (.goto 38, 3) := by decide +kernel
theorem dX5_fact_61 : decode cX5_fact 61 = .ok (.aload_n 0, 1) := by decide +kernel
theorem dX5_fact_62 : decode cX5_fact 62 = .ok (.getfield 26, 3) := by decide +kernel
theorem dX5_fact_65 : decode cX5_fact 65 = .ok (.bipush 21, 2) := by decide +kernel
theorem dX5_fact_67 : decode cX5_fact 67 = .ok (.invokevirtual 66, 3) := by decide +kernel
theorem dX5_fact_70 : decode cX5_fact 70 = .ok (.ifCond .eq 22, 3) := by decide +kernel
theorem dX5_fact_73 : decode cX5_fact 73 = .ok (.aload_n 0, 1) := by decide +kernel
theorem dX5_fact_74 : decode cX5_fact 74 = .ok (.getfield 26, 3) := by decide +kernel
theorem dX5_fact_77 : decode cX5_fact 77 = .ok (.invokevirtual 70, 3) := by decide +kernel
theorem dX5_fact_80 : decode cX5_fact 80 = .ok (.aload_n 0, 1) := by decide +kernel
theorem dX5_fact_81 : decode cX5_fact 81 = .ok (.getfield 12, 3) := by decide +kernel
theorem dX5_fact_84 : decode cX5_fact 84 = .ok (.iconst 0, 1) := by decide +kernel
theorem dX5_fact_85 : decode cX5_fact 85 = .ok (.iconst 1, 1) := by decide +kernel
theorem dX5_fact_86 : decode cX5_fact 86 = .ok (.invokevirtual 73, 3) := by decide +kernel
theorem dX5_fact_89 : decode cX5_fact 89 = .ok (.goto 7, 3) := by decide +kernel
theorem dX5_fact_92 : decode cX5_fact 92 = .ok (.aload_n 0, 1) := by decide +kernel
theorem dX5_fact_93 : decode cX5_fact 93 = .ok (.invokevirtual 96, 3) := by decide +kernel
theorem dX5_fact_96 : decode cX5_fact 96 = .ok (.return_, 1) := by decide +kernel
theorem dX5_turned_0 : decode cX5_turned 0 = .ok (.aload_n 0, 1) := by decide +kernel
theorem dX5_turned_1 : decode cX5_turned 1 = .ok (.getfield 26, 3) := by decide +kernel
theorem dX5_turned_4 : decode cX5_turned 4 = .ok (.invokevirtual 86, 3) := by decide +kernel
theorem dX5_turned_7 : decode cX5_turned 7 = .ok (.aload_n 0, 1) := by decide +kernel
theorem dX5_turned_8 : decode cX5_turned 8 = .ok (.invokevirtual 77, 3) := by decide +kernel
theorem dX5_turned_11 : decode cX5_turned 11 = .ok (.aload_n 0, 1) := by decide +kernel
theorem dX5_turned_12 : decode cX5_turned 12 = .ok (.getfield 26, 3) := by decide +kernel
theorem dX5_turned_15 : decode cX5_turned 15 = .ok (.invokevirtual 93, 3) := by decide +kernel
theorem dX5_turned_18 : decode cX5_turned 18 = .ok (.aload_n 0, 1) := by decide +kernel
theorem dX5_turned_19 : decode cX5_turned 19 = .ok (.getfield 12, 3) := by decide +kernel
theorem dX5_turned_22 : decode cX5_turned 22 = .ok (.iconst 2, 1) := by decide +kernel
theorem dX5_turned_23 : decode cX5_turned 23 = .ok (.iconst 0, 1) := by decide +kernel
theorem dX5_turned_24 : decode cX5_turned 24 = .ok (.invokevirtual 73, 3) := by decide +kernel
theorem dX5_turned_27 : decode cX5_turned 27 = .ok (.return_, 1) := by decide +kernel
theorem dX5_compare_0 : decode cX5_compare 0 = .ok (.aload_n 0, 1) := by decide +kernel
theorem dX5_compare_1 : decode cX5_compare 1 = .ok (.getfield 30, 3) := by decide +kernel
theorem dX5_compare_4 : decode cX5_compare 4 = .ok (.aload_n 0, 1) := by decide +kernel
theorem dX5_compare_5 : decode cX5_compare 5 = .ok (.getfield 12, 3) := by decide +kernel
theorem dX5_compare_8 : decode cX5_compare 8 = .ok (.invokevirtual 52, 3) := by decide +kernel
theorem dX5_compare_11 : decode cX5_compare 11 = .ok (.bipush 12, 2) := by decide +kernel
theorem dX5_compare_13 : decode cX5_compare 13 = .ok (.istore_n 1, 1) := by decide +kernel
theorem dX5_compare_14 : decode cX5_compare 14 = .ok (.aload_n 0, 1) := by decide +kernel
theorem dX5_compare_15 : decode cX5_compare 15 = .ok (.getfield 26, 3) := by decide +kernel
theorem dX5_compare_18 : decode cX5_compare 18 = .ok (.bipush 60, 2) := by decide +kernel
theorem dX5_compare_20 : decode cX5_compare 20 = .ok (.invokevirtual 83, 3) := by decide +kernel
theorem dX5_compare_23 : decode cX5_compare 23 = .ok (.ifCond .eq 9, 3) := by decide +kernel
theorem dX5_compare_26 : decode cX5_compare 26 = .ok (.bipush 10, 2) := by decide +kernel
theorem dX5_compare_28 : decode cX5_compare 28 = .ok (.istore_n 1, 1) := by decide +kernel
theorem dX5_compare_29 : decode cX5_compare 29 = .ok (.goto 41, 3) := by decide +kernel
theorem dX5_compare_32 : decode cX5_compare 32 = .ok (.aload_n 0, 1) := by decide +kernel
theorem dX5_compare_33 : decode cX5_compare 33 = .ok (.getfield 26, 3) := by decide +kernel
theorem dX5_compare_36 : decode cX5_compare 36 = .ok (.bipush 62, 2) := by decide +kernel
theorem dX5_compare_38 : decode cX5_compare 38 = .ok (.invokevirtual 83, 3) := by decide +kernel
theorem dX5_compare_41 : decode cX5_compare 41 = .ok (.ifCond .eq 9, 3) := by decide +kernel
theorem dX5_compare_44 : decode cX5_compare 44 = .ok (.bipush 11, 2) := by decide +kernel
theorem dX5_compare_46 : decode cX5_compare 46 = .ok (.istore_n 1, 1) := by decide +kernel
theorem dX5_compare_47 : decode cX5_compare 47 = .ok (.goto 23, 3) := by decide +kernel
theorem dX5_compare_50 : decode cX5_compare 50 = .ok (.aload_n 0, 1) := by decide +kernel
theorem dX5_compare_51 : decode cX5_compare 51 = .ok (.getfield 26, 3) := by decide +kernel
theorem dX5_compare_54 : decode cX5_compare 54 = .ok (.bipush 61, 2) := by decide +kernel
theorem dX5_compare_56 : decode cX5_compare 56 = .ok (.invokevirtual 83, 3) := by decide +kernel
theorem dX5_compare_59 : decode cX5_compare 59 = .ok (.ifCond .ne 11, 3) := by decide +kernel
theorem dX5_compare_62 : decode cX5_compare 62 = .ok (.aload_n 0, 1) := by decide +kernel
theorem dX5_compare_63 : decode cX5_compare 63 = .ok (.getfield 26, 3) := by decide +kernel
theorem dX5_compare_66 : decode cX5_compare 66 = .ok (.invokevirtual 60, 3) := by decide +kernel
theorem dX5_compare_69 : decode cX5_compare 69 = .ok (.return_, 1) := by decide +kernel
theorem dX5_compare_70 : decode cX5_compare 70 = .ok (.aload_n 0, 1) := by decide +kernel
theorem dX5_compare_71 : decode cX5_compare 71 = .ok (.getfield 26, 3) := by decide +kernel
theorem dX5_compare_74 : decode cX5_compare 74 = .ok (.invokevirtual 70, 3) := by decide +kernel
theorem dX5_compare_77 : decode cX5_compare 77 = .ok (.aload_n 0, 1) := by decide +kernel
theorem dX5_compare_78 : decode cX5_compare 78 = .ok (.getfield 30, 3) := by decide +kernel
theorem dX5_compare_81 : decode cX5_compare 81 = .ok (.aload_n 0, 1) := by decide +kernel
theorem dX5_compare_82 : decode cX5_compare 82 = .ok (.getfield 12, 3) := by decide +kernel
theorem dX5_compare_85 : decode cX5_compare 85 = .ok (.invokevirtual 52, 3) := by decide +kernel
theorem dX5_compare_88 : decode cX5_compare 88 = .ok (.aload_n 0, 1) := by decide +kernel
theorem dX5_compare_89 : decode cX5_compare 89 = .ok (.getfield 12, 3) := by decide +kernel
theorem dX5_compare_92 : decode cX5_compare 92 = .ok (.iload_n 1, 1) := by decide +kernel
theorem dX5_compare_93 : decode cX5_compare 93 = .ok (.iconst 0, 1) := by decide +kernel
theorem dX5_compare_94 : decode cX5_compare 94 = .ok (.invokevirtual 73, 3) := by decide +kernel
theorem dX5_compare_97 : decode cX5_compare 97 = .ok (.return_, 1) := by decide +kernel
theorem dX5_answer_0 : decode cX5_answer 0 = .ok (.iconst (-1), 1) := by decide +kernel
theorem dX5_answer_1 : decode cX5_answer 1 = .ok (.istore_n 3, 1) := by decide +kernel
theorem dX5_answer_2 : decode cX5_answer 2 = .ok (.iconst (-1), 1) := by decide +kernel
theorem dX5_answer_3 : decode cX5_answer 3 = .ok (.istore 4, 2) := by decide +kernel
theorem dX5_answer_5 : decode cX5_answer 5 = .ok (.iconst 0, 1) := by decide +kernel
theorem dX5_answer_6 : decode cX5_answer 6 = .ok (.istore 5, 2) := by decide +kernel
theorem dX5_answer_8 : decode cX5_answer 8 = .ok (.lconst 0, 1) := by decide +kernel
theorem dX5_answer_9 : decode cX5_answer 9 = .ok (.lstore 6, 2) := by decide +kernel
theorem dX5_answer_11 : decode cX5_answer 11 = .ok (.iconst 0, 1) := by decide +kernel
theorem dX5_answer_12 : decode cX5_answer 12 = .ok (.istore 8, 2) := by decide +kernel
theorem dX5_answer_14 : decode cX5_answer 14 = .ok (.iconst 0, 1) := by decide +kernel
theorem dX5_answer_15 : decode cX5_answer 15 = .ok (.istore 9, 2) := by decide +kernel
theorem dX5_answer_17 : decode cX5_answer 17 = .ok (.iconst 0, 1) := by decide +kernel
theorem dX5_answer_18 : decode cX5_answer 18 = .ok (.istore 10, 2) := by decide +kernel
theorem dX5_answer_20 : decode cX5_answer 20 = .ok (.iload 10, 2) := by decide +kernel
theorem dX5_answer_22 : decode cX5_answer 22 = .ok (.aload_n 1, 1) := by decide +kernel
theorem dX5_answer_23 : decode cX5_answer 23 = .ok (.getfield 99, 3) := by decide +kernel
theorem dX5_answer_26 : decode cX5_answer 26 = .ok (.if_icmp .ge 100, 3) := by decide +kernel
theorem dX5_answer_29 : decode cX5_answer 29 = .ok (.aload_n 0, 1) := by decide +kernel
theorem dX5_answer_30 : decode cX5_answer 30 = .ok (.aload_n 1, 1) := by decide +kernel
theorem dX5_answer_31 : decode cX5_answer 31 = .ok (.aload_n 2, 1) := by decide +kernel
theorem dX5_answer_32 : decode cX5_answer 32 = .ok (.iload 10, 2) := by decide +kernel
theorem dX5_answer_34 : decode cX5_answer 34 = .ok (.invokevirtual 104, 3) := by decide +kernel
theorem dX5_answer_37 : decode cX5_answer 37 = .ok (.aload_n 0, 1) := by decide +kernel
theorem dX5_answer_38 : decode cX5_answer 38 = .ok (.getfield 12, 3) := by decide +kernel
theorem dX5_answer_41 : decode cX5_answer 41 = .ok (.aload_n 0, 1) := by decide +kernel
theorem dX5_answer_42 : decode cX5_answer 42 = .ok (.getfield 18, 3) := by decide +kernel
theorem dX5_answer_45 : decode cX5_answer 45 = .ok (.invokevirtual 108, 3) := by decide +kernel
theorem dX5_answer_48 : decode cX5_answer 48 = .ok (.istore 11, 2) := by decide +kernel
theorem dX5_answer_50 : decode cX5_answer 50 = .ok (.iload 11, 2) := by decide +kernel
theorem dX5_answer_52 : decode cX5_answer 52 = .ok (.ifCond .eq 22, 3) := by decide +kernel
theorem dX5_answer_55 : decode cX5_answer 55 = .ok (.iload_n 3, 1) := by decide +kernel
theorem dX5_answer_56 : decode cX5_answer 56 = .ok (.iconst (-1), 1) := by decide +kernel
theorem dX5_answer_57 : decode cX5_answer 57 = .ok (.if_icmp .ne 8, 3) := by decide +kernel
theorem dX5_answer_60 : decode cX5_answer 60 = .ok (.iload 10, 2) := by decide +kernel
theorem dX5_answer_62 : decode cX5_answer 62 = .ok (.goto 4, 3) := by decide +kernel
theorem dX5_answer_65 : decode cX5_answer 65 = .ok (.iload_n 3, 1) := by decide +kernel
theorem dX5_answer_66 : decode cX5_answer 66 = .ok (.istore_n 3, 1) := by decide +kernel
theorem dX5_answer_67 : decode cX5_answer 67 = .ok (.iload 10, 2) := by decide +kernel
theorem dX5_answer_69 : decode cX5_answer 69 = .ok (.istore 4, 2) := by decide +kernel
theorem dX5_answer_71 : decode cX5_answer 71 = .ok (.iinc 5 1, 3) := by decide +kernel
theorem dX5_answer_74 : decode cX5_answer 74 = .ok (.lload 6, 2) := by decide +kernel
theorem dX5_answer_76 : decode cX5_answer 76 = .ok (.iload 11, 2) := by decide +kernel
theorem dX5_answer_78 : decode cX5_answer 78 = .ok (.i2l, 1) := by decide +kernel
theorem dX5_answer_79 : decode cX5_answer 79 = .ok (.ladd, 1) := by decide +kernel
theorem dX5_answer_80 : decode cX5_answer 80 = .ok (.lstore 6, 2) := by decide +kernel
theorem dX5_answer_82 : decode cX5_answer 82 = .ok (.iload 10, 2) := by decide +kernel
theorem dX5_answer_84 : decode cX5_answer 84 = .ok (.ifCond .ne 8, 3) := by decide +kernel
theorem dX5_answer_87 : decode cX5_answer 87 = .ok (.iload 11, 2) := by decide +kernel
theorem dX5_answer_89 : decode cX5_answer 89 = .ok (.goto 10, 3) := by decide +kernel
theorem dX5_answer_92 : decode cX5_answer 92 = .ok (.iload 8, 2) := by decide +kernel
theorem dX5_answer_94 : decode cX5_answer 94 = .ok (.iload 11, 2) := by decide +kernel
theorem dX5_answer_96 : decode cX5_answer 96 = .ok (.invokestatic 112, 3) := by decide +kernel
theorem dX5_answer_99 : decode cX5_answer 99 = .ok (.istore 8, 2) := by decide +kernel
theorem dX5_answer_101 : decode cX5_answer 101 = .ok (.iload 10, 2) := by decide +kernel
theorem dX5_answer_103 : decode cX5_answer 103 = .ok (.ifCond .ne 8, 3) := by decide +kernel
theorem dX5_answer_106 : decode cX5_answer 106 = .ok (.iload 11, 2) := by decide +kernel
theorem dX5_answer_108 : decode cX5_answer 108 = .ok (.goto 10, 3) := by decide +kernel
theorem dX5_answer_111 : decode cX5_answer 111 = .ok (.iload 9, 2) := by decide +kernel
theorem dX5_answer_113 : decode cX5_answer 113 = .ok (.iload 11, 2) := by decide +kernel
theorem dX5_answer_115 : decode cX5_answer 115 = .ok (.invokestatic 117, 3) := by decide +kernel
theorem dX5_answer_118 : decode cX5_answer 118 = .ok (.istore 9, 2) := by decide +kernel
theorem dX5_answer_120 : decode cX5_answer 120 = .ok (.iinc 10 1, 3) := by decide +kernel
theorem dX5_answer_123 : decode cX5_answer 123 = .ok (.goto (-103), 3) := by decide +kernel
theorem dX5_answer_126 : decode cX5_answer 126 = .ok (.aload_n 0, 1) := by decide +kernel
theorem dX5_answer_127 : decode cX5_answer 127 = .ok (.getfield 22, 3) := by decide +kernel
theorem dX5_answer_130 : decode cX5_answer 130 = .ok (.tableswitch 52 24 28 #[34, 37, 41, 45, 48], 34) := by decide +kernel
theorem dX5_answer_164 : decode cX5_answer 164 = .ok (.iload_n 3, 1) := by decide +kernel
theorem dX5_answer_165 : decode cX5_answer 165 = .ok (.i2l, 1) := by decide +kernel
theorem dX5_answer_166 : decode cX5_answer 166 = .ok (.lreturn, 1) := by decide +kernel
theorem dX5_answer_167 : decode cX5_answer 167 = .ok (.iload 4, 2) := by decide +kernel
theorem dX5_answer_169 : decode cX5_answer 169 = .ok (.i2l, 1) := by decide +kernel
theorem dX5_answer_170 : decode cX5_answer 170 = .ok (.lreturn, 1) := by decide +kernel
theorem dX5_answer_171 : decode cX5_answer 171 = .ok (.iload 5, 2) := by decide +kernel
theorem dX5_answer_173 : decode cX5_answer 173 = .ok (.i2l, 1) := by decide +kernel
theorem dX5_answer_174 : decode cX5_answer 174 = .ok (.lreturn, 1) := by decide +kernel
theorem dX5_answer_175 : decode cX5_answer 175 = .ok (.lload 6, 2) := by decide +kernel
theorem dX5_answer_177 : decode cX5_answer 177 = .ok (.lreturn, 1) := by decide +kernel
theorem dX5_answer_178 : decode cX5_answer 178 = .ok (.iload 8, 2) := by decide +kernel
theorem dX5_answer_180 : decode cX5_answer 180 = .ok (.i2l, 1) := by decide +kernel
theorem dX5_answer_181 : decode cX5_answer 181 = .ok (.lreturn, 1) := by decide +kernel
theorem dX5_answer_182 : decode cX5_answer 182 = .ok (.iload 9, 2) := by decide +kernel
theorem dX5_answer_184 : decode cX5_answer 184 = .ok (.i2l, 1) := by decide +kernel
theorem dX5_answer_185 : decode cX5_answer 185 = .ok (.lreturn, 1) := by decide +kernel
theorem dX5_look_0 : decode cX5_look 0 = .ok (.aload_n 1, 1) := by decide +kernel
theorem dX5_look_1 : decode cX5_look 1 = .ok (.iload_n 3, 1) := by decide +kernel
theorem dX5_look_2 : decode cX5_look 2 = .ok (.iconst 0, 1) := by decide +kernel
theorem dX5_look_3 : decode cX5_look 3 = .ok (.invokevirtual 120, 3) := by decide +kernel
theorem dX5_look_6 : decode cX5_look 6 = .ok (.istore 4, 2) := by decide +kernel
theorem dX5_look_8 : decode cX5_look 8 = .ok (.aload_n 1, 1) := by decide +kernel
theorem dX5_look_9 : decode cX5_look 9 = .ok (.iload_n 3, 1) := by decide +kernel
theorem dX5_look_10 : decode cX5_look 10 = .ok (.iconst 1, 1) := by decide +kernel
theorem dX5_look_11 : decode cX5_look 11 = .ok (.invokevirtual 120, 3) := by decide +kernel
theorem dX5_look_14 : decode cX5_look 14 = .ok (.istore 5, 2) := by decide +kernel
theorem dX5_look_16 : decode cX5_look 16 = .ok (.aload_n 1, 1) := by decide +kernel
theorem dX5_look_17 : decode cX5_look 17 = .ok (.invokevirtual 123, 3) := by decide +kernel
theorem dX5_look_20 : decode cX5_look 20 = .ok (.ifCond .le 7, 3) := by decide +kernel
theorem dX5_look_23 : decode cX5_look 23 = .ok (.iconst 1, 1) := by decide +kernel
theorem dX5_look_24 : decode cX5_look 24 = .ok (.goto 4, 3) := by decide +kernel
theorem dX5_look_27 : decode cX5_look 27 = .ok (.iconst 0, 1) := by decide +kernel
theorem dX5_look_28 : decode cX5_look 28 = .ok (.istore 6, 2) := by decide +kernel
theorem dX5_look_30 : decode cX5_look 30 = .ok (.aload_n 0, 1) := by decide +kernel
theorem dX5_look_31 : decode cX5_look 31 = .ok (.getfield 18, 3) := by decide +kernel
theorem dX5_look_34 : decode cX5_look 34 = .ok (.iconst 0, 1) := by decide +kernel
theorem dX5_look_35 : decode cX5_look 35 = .ok (.iload_n 3, 1) := by decide +kernel
theorem dX5_look_36 : decode cX5_look 36 = .ok (.iastore, 1) := by decide +kernel
theorem dX5_look_37 : decode cX5_look 37 = .ok (.aload_n 0, 1) := by decide +kernel
theorem dX5_look_38 : decode cX5_look 38 = .ok (.getfield 18, 3) := by decide +kernel
theorem dX5_look_41 : decode cX5_look 41 = .ok (.iconst 1, 1) := by decide +kernel
theorem dX5_look_42 : decode cX5_look 42 = .ok (.aload_n 2, 1) := by decide +kernel
theorem dX5_look_43 : decode cX5_look 43 = .ok (.getfield 127, 3) := by decide +kernel
theorem dX5_look_46 : decode cX5_look 46 = .ok (.getfield 133, 3) := by decide +kernel
theorem dX5_look_49 : decode cX5_look 49 = .ok (.iload 4, 2) := by decide +kernel
theorem dX5_look_51 : decode cX5_look 51 = .ok (.iaload, 1) := by decide +kernel
theorem dX5_look_52 : decode cX5_look 52 = .ok (.iastore, 1) := by decide +kernel
theorem dX5_look_53 : decode cX5_look 53 = .ok (.aload_n 0, 1) := by decide +kernel
theorem dX5_look_54 : decode cX5_look 54 = .ok (.getfield 18, 3) := by decide +kernel
theorem dX5_look_57 : decode cX5_look 57 = .ok (.iconst 2, 1) := by decide +kernel
theorem dX5_look_58 : decode cX5_look 58 = .ok (.aload_n 2, 1) := by decide +kernel
theorem dX5_look_59 : decode cX5_look 59 = .ok (.getfield 127, 3) := by decide +kernel
theorem dX5_look_62 : decode cX5_look 62 = .ok (.getfield 133, 3) := by decide +kernel
theorem dX5_look_65 : decode cX5_look 65 = .ok (.iload 5, 2) := by decide +kernel
theorem dX5_look_67 : decode cX5_look 67 = .ok (.iaload, 1) := by decide +kernel
theorem dX5_look_68 : decode cX5_look 68 = .ok (.iastore, 1) := by decide +kernel
theorem dX5_look_69 : decode cX5_look 69 = .ok (.aload_n 0, 1) := by decide +kernel
theorem dX5_look_70 : decode cX5_look 70 = .ok (.getfield 18, 3) := by decide +kernel
theorem dX5_look_73 : decode cX5_look 73 = .ok (.iconst 3, 1) := by decide +kernel
theorem dX5_look_74 : decode cX5_look 74 = .ok (.aload_n 1, 1) := by decide +kernel
theorem dX5_look_75 : decode cX5_look 75 = .ok (.getfield 138, 3) := by decide +kernel
theorem dX5_look_78 : decode cX5_look 78 = .ok (.aload_n 1, 1) := by decide +kernel
theorem dX5_look_79 : decode cX5_look 79 = .ok (.getfield 141, 3) := by decide +kernel
theorem dX5_look_82 : decode cX5_look 82 = .ok (.iload_n 3, 1) := by decide +kernel
theorem dX5_look_83 : decode cX5_look 83 = .ok (.iaload, 1) := by decide +kernel
theorem dX5_look_84 : decode cX5_look 84 = .ok (.iaload, 1) := by decide +kernel
theorem dX5_look_85 : decode cX5_look 85 = .ok (.iastore, 1) := by decide +kernel
theorem dX5_look_86 : decode cX5_look 86 = .ok (.aload_n 0, 1) := by decide +kernel
theorem dX5_look_87 : decode cX5_look 87 = .ok (.getfield 18, 3) := by decide +kernel
theorem dX5_look_90 : decode cX5_look 90 = .ok (.iconst 4, 1) := by decide +kernel
theorem dX5_look_91 : decode cX5_look 91 = .ok (.aload_n 1, 1) := by decide +kernel
theorem dX5_look_92 : decode cX5_look 92 = .ok (.getfield 144, 3) := by decide +kernel
theorem dX5_look_95 : decode cX5_look 95 = .ok (.iload 4, 2) := by decide +kernel
theorem dX5_look_97 : decode cX5_look 97 = .ok (.iaload, 1) := by decide +kernel
theorem dX5_look_98 : decode cX5_look 98 = .ok (.iconst 2, 1) := by decide +kernel
theorem dX5_look_99 : decode cX5_look 99 = .ok (.if_icmp .ne 7, 3) := by decide +kernel
theorem dX5_look_102 : decode cX5_look 102 = .ok (.iconst 1, 1) := by decide +kernel
theorem dX5_look_103 : decode cX5_look 103 = .ok (.goto 4, 3) := by decide +kernel
theorem dX5_look_106 : decode cX5_look 106 = .ok (.iconst 0, 1) := by decide +kernel
theorem dX5_look_107 : decode cX5_look 107 = .ok (.aload_n 1, 1) := by decide +kernel
theorem dX5_look_108 : decode cX5_look 108 = .ok (.getfield 144, 3) := by decide +kernel
theorem dX5_look_111 : decode cX5_look 111 = .ok (.iload 5, 2) := by decide +kernel
theorem dX5_look_113 : decode cX5_look 113 = .ok (.iaload, 1) := by decide +kernel
theorem dX5_look_114 : decode cX5_look 114 = .ok (.iconst 2, 1) := by decide +kernel
theorem dX5_look_115 : decode cX5_look 115 = .ok (.if_icmp .ne 7, 3) := by decide +kernel
theorem dX5_look_118 : decode cX5_look 118 = .ok (.iconst 1, 1) := by decide +kernel
theorem dX5_look_119 : decode cX5_look 119 = .ok (.goto 4, 3) := by decide +kernel
theorem dX5_look_122 : decode cX5_look 122 = .ok (.iconst 0, 1) := by decide +kernel
theorem dX5_look_123 : decode cX5_look 123 = .ok (.iadd, 1) := by decide +kernel
theorem dX5_look_124 : decode cX5_look 124 = .ok (.iastore, 1) := by decide +kernel
theorem dX5_look_125 : decode cX5_look 125 = .ok (.aload_n 0, 1) := by decide +kernel
theorem dX5_look_126 : decode cX5_look 126 = .ok (.getfield 18, 3) := by decide +kernel
theorem dX5_look_129 : decode cX5_look 129 = .ok (.iconst 5, 1) := by decide +kernel
theorem dX5_look_130 : decode cX5_look 130 = .ok (.iload_n 3, 1) := by decide +kernel
theorem dX5_look_131 : decode cX5_look 131 = .ok (.iastore, 1) := by decide +kernel
theorem dX5_look_132 : decode cX5_look 132 = .ok (.aload_n 0, 1) := by decide +kernel
theorem dX5_look_133 : decode cX5_look 133 = .ok (.getfield 18, 3) := by decide +kernel
theorem dX5_look_136 : decode cX5_look 136 = .ok (.bipush 6, 2) := by decide +kernel
theorem dX5_look_138 : decode cX5_look 138 = .ok (.aload_n 1, 1) := by decide +kernel
theorem dX5_look_139 : decode cX5_look 139 = .ok (.iload_n 3, 1) := by decide +kernel
theorem dX5_look_140 : decode cX5_look 140 = .ok (.invokevirtual 147, 3) := by decide +kernel
theorem dX5_look_143 : decode cX5_look 143 = .ok (.iastore, 1) := by decide +kernel
theorem dX5_look_144 : decode cX5_look 144 = .ok (.aload_n 0, 1) := by decide +kernel
theorem dX5_look_145 : decode cX5_look 145 = .ok (.getfield 18, 3) := by decide +kernel
theorem dX5_look_148 : decode cX5_look 148 = .ok (.bipush 7, 2) := by decide +kernel
theorem dX5_look_150 : decode cX5_look 150 = .ok (.iload 6, 2) := by decide +kernel
theorem dX5_look_152 : decode cX5_look 152 = .ok (.ifCond .eq 12, 3) := by decide +kernel
theorem dX5_look_155 : decode cX5_look 155 = .ok (.aload_n 2, 1) := by decide +kernel
theorem dX5_look_156 : decode cX5_look 156 = .ok (.getfield 151, 3) := by decide +kernel
theorem dX5_look_159 : decode cX5_look 159 = .ok (.iload_n 3, 1) := by decide +kernel
theorem dX5_look_160 : decode cX5_look 160 = .ok (.iaload, 1) := by decide +kernel
theorem dX5_look_161 : decode cX5_look 161 = .ok (.goto 4, 3) := by decide +kernel
theorem dX5_look_164 : decode cX5_look 164 = .ok (.iconst 0, 1) := by decide +kernel
theorem dX5_look_165 : decode cX5_look 165 = .ok (.iastore, 1) := by decide +kernel
theorem dX5_look_166 : decode cX5_look 166 = .ok (.aload_n 0, 1) := by decide +kernel
theorem dX5_look_167 : decode cX5_look 167 = .ok (.getfield 18, 3) := by decide +kernel
theorem dX5_look_170 : decode cX5_look 170 = .ok (.bipush 8, 2) := by decide +kernel
theorem dX5_look_172 : decode cX5_look 172 = .ok (.iload 6, 2) := by decide +kernel
theorem dX5_look_174 : decode cX5_look 174 = .ok (.ifCond .eq 16, 3) := by decide +kernel
theorem dX5_look_177 : decode cX5_look 177 = .ok (.aload_n 2, 1) := by decide +kernel
theorem dX5_look_178 : decode cX5_look 178 = .ok (.getfield 154, 3) := by decide +kernel
theorem dX5_look_181 : decode cX5_look 181 = .ok (.aload_n 1, 1) := by decide +kernel
theorem dX5_look_182 : decode cX5_look 182 = .ok (.iload_n 3, 1) := by decide +kernel
theorem dX5_look_183 : decode cX5_look 183 = .ok (.invokevirtual 147, 3) := by decide +kernel
theorem dX5_look_186 : decode cX5_look 186 = .ok (.iaload, 1) := by decide +kernel
theorem dX5_look_187 : decode cX5_look 187 = .ok (.goto 4, 3) := by decide +kernel
theorem dX5_look_190 : decode cX5_look 190 = .ok (.iconst 0, 1) := by decide +kernel
theorem dX5_look_191 : decode cX5_look 191 = .ok (.iastore, 1) := by decide +kernel
theorem dX5_look_192 : decode cX5_look 192 = .ok (.return_, 1) := by decide +kernel
theorem dX6_init_0 : decode cX6_init 0 = .ok (.aload_n 0, 1) := by decide +kernel
theorem dX6_init_1 : decode cX6_init 1 = .ok (.invokespecial 3, 3) := by decide +kernel
theorem dX6_init_4 : decode cX6_init 4 = .ok (.aload_n 0, 1) := by decide +kernel
theorem dX6_init_5 : decode cX6_init 5 = .ok (.bipush 64, 2) := by decide +kernel
theorem dX6_init_7 : decode cX6_init 7 = .ok (.newarray .int, 2) := by decide +kernel
theorem dX6_init_9 : decode cX6_init 9 = .ok (.putfield 9, 3) := by decide +kernel
theorem dX6_init_12 : decode cX6_init 12 = .ok (.aload_n 0, 1) := by decide +kernel
theorem dX6_init_13 : decode cX6_init 13 = .ok (.bipush 64, 2) := by decide +kernel
theorem dX6_init_15 : decode cX6_init 15 = .ok (.newarray .int, 2) := by decide +kernel
theorem dX6_init_17 : decode cX6_init 17 = .ok (.putfield 15, 3) := by decide +kernel
theorem dX6_init_20 : decode cX6_init 20 = .ok (.aload_n 0, 1) := by decide +kernel
theorem dX6_init_21 : decode cX6_init 21 = .ok (.bipush 8, 2) := by decide +kernel
theorem dX6_init_23 : decode cX6_init 23 = .ok (.newarray .int, 2) := by decide +kernel
theorem dX6_init_25 : decode cX6_init 25 = .ok (.putfield 18, 3) := by decide +kernel
theorem dX6_init_28 : decode cX6_init 28 = .ok (.aload_n 0, 1) := by decide +kernel
theorem dX6_init_29 : decode cX6_init 29 = .ok (.iconst 0, 1) := by decide +kernel
theorem dX6_init_30 : decode cX6_init 30 = .ok (.putfield 21, 3) := by decide +kernel
theorem dX6_init_33 : decode cX6_init 33 = .ok (.aload_n 0, 1) := by decide +kernel
theorem dX6_init_34 : decode cX6_init 34 = .ok (.bipush 8, 2) := by decide +kernel
theorem dX6_init_36 : decode cX6_init 36 = .ok (.newarray .int, 2) := by decide +kernel
theorem dX6_init_38 : decode cX6_init 38 = .ok (.putfield 25, 3) := by decide +kernel
theorem dX6_init_41 : decode cX6_init 41 = .ok (.aload_n 0, 1) := by decide +kernel
theorem dX6_init_42 : decode cX6_init 42 = .ok (.lconst 0, 1) := by decide +kernel
theorem dX6_init_43 : decode cX6_init 43 = .ok (.putfield 28, 3) := by decide +kernel
theorem dX6_init_46 : decode cX6_init 46 = .ok (.aload_n 0, 1) := by decide +kernel
theorem dX6_init_47 : decode cX6_init 47 = .ok (.iconst 0, 1) := by decide +kernel
theorem dX6_init_48 : decode cX6_init 48 = .ok (.putfield 32, 3) := by decide +kernel
theorem dX6_init_51 : decode cX6_init 51 = .ok (.aload_n 0, 1) := by decide +kernel
theorem dX6_init_52 : decode cX6_init 52 = .ok (.aload_n 1, 1) := by decide +kernel
theorem dX6_init_53 : decode cX6_init 53 = .ok (.putfield 36, 3) := by decide +kernel
theorem dX6_init_56 : decode cX6_init 56 = .ok (.return_, 1) := by decide +kernel
theorem dX6_search_0 : decode cX6_search 0 = .ok (.aload_n 0, 1) := by decide +kernel
theorem dX6_search_1 : decode cX6_search 1 = .ok (.getfield 32, 3) := by decide +kernel
theorem dX6_search_4 : decode cX6_search 4 = .ok (.ifCond .eq 4, 3) := by decide +kernel
theorem dX6_search_7 : decode cX6_search 7 = .ok (.return_, 1) := by decide +kernel
theorem dX6_search_8 : decode cX6_search 8 = .ok (.aload_n 0, 1) := by decide +kernel
theorem dX6_search_9 : decode cX6_search 9 = .ok (.iconst 1, 1) := by decide +kernel
theorem dX6_search_10 : decode cX6_search 10 = .ok (.putfield 32, 3) := by decide +kernel
theorem dX6_search_13 : decode cX6_search 13 = .ok (.aload_n 0, 1) := by decide +kernel
theorem dX6_search_14 : decode cX6_search 14 = .ok (.aload_n 1, 1) := by decide +kernel
theorem dX6_search_15 : decode cX6_search 15 = .ok (.getfield 40, 3) := by decide +kernel
theorem dX6_search_18 : decode cX6_search 18 = .ok (.putfield 21, 3) := by decide +kernel
theorem dX6_search_21 : decode cX6_search 21 = .ok (.iconst 0, 1) := by decide +kernel
theorem dX6_search_22 : decode cX6_search 22 = .ok (.istore_n 2, 1) := by decide +kernel
theorem dX6_search_23 : decode cX6_search 23 = .ok (.iload_n 2, 1) := by decide +kernel
theorem dX6_search_24 : decode cX6_search 24 = .ok (.aload_n 0, 1) := by decide +kernel
theorem dX6_search_25 : decode cX6_search 25 = .ok (.getfield 21, 3) := by decide +kernel
theorem dX6_search_28 : decode cX6_search 28 = .ok (.if_icmp .ge 75, 3) := by decide +kernel
theorem dX6_search_31 : decode cX6_search 31 = .ok (.iconst 0, 1) := by decide +kernel
theorem dX6_search_32 : decode cX6_search 32 = .ok (.istore_n 3, 1) := by decide +kernel
theorem dX6_search_33 : decode cX6_search 33 = .ok (.iload_n 3, 1) := by decide +kernel
theorem dX6_search_34 : decode cX6_search 34 = .ok (.aload_n 0, 1) := by decide +kernel
theorem dX6_search_35 : decode cX6_search 35 = .ok (.getfield 21, 3) := by decide +kernel
theorem dX6_search_38 : decode cX6_search 38 = .ok (.if_icmp .ge 59, 3) := by decide +kernel
theorem dX6_search_41 : decode cX6_search 41 = .ok (.aload_n 0, 1) := by decide +kernel
theorem dX6_search_42 : decode cX6_search 42 = .ok (.getfield 36, 3) := by decide +kernel
theorem dX6_search_45 : decode cX6_search 45 = .ok (.aload_n 1, 1) := by decide +kernel
theorem dX6_search_46 : decode cX6_search 46 = .ok (.iload_n 2, 1) := by decide +kernel
theorem dX6_search_47 : decode cX6_search 47 = .ok (.iload_n 3, 1) := by decide +kernel
theorem dX6_search_48 : decode cX6_search 48 = .ok (.invokevirtual 43, 3) := by decide +kernel
theorem dX6_search_51 : decode cX6_search 51 = .ok (.aload_n 0, 1) := by decide +kernel
theorem dX6_search_52 : decode cX6_search 52 = .ok (.getfield 9, 3) := by decide +kernel
theorem dX6_search_55 : decode cX6_search 55 = .ok (.bipush 8, 2) := by decide +kernel
theorem dX6_search_57 : decode cX6_search 57 = .ok (.iload_n 2, 1) := by decide +kernel
theorem dX6_search_58 : decode cX6_search 58 = .ok (.imul, 1) := by decide +kernel
theorem dX6_search_59 : decode cX6_search 59 = .ok (.iload_n 3, 1) := by decide +kernel
theorem dX6_search_60 : decode cX6_search 60 = .ok (.iadd, 1) := by decide +kernel
theorem dX6_search_61 : decode cX6_search 61 = .ok (.aload_n 0, 1) := by decide +kernel
theorem dX6_search_62 : decode cX6_search 62 = .ok (.getfield 36, 3) := by decide +kernel
theorem dX6_search_65 : decode cX6_search 65 = .ok (.getfield 49, 3) := by decide +kernel
theorem dX6_search_68 : decode cX6_search 68 = .ok (.iconst 4, 1) := by decide +kernel
theorem dX6_search_69 : decode cX6_search 69 = .ok (.iaload, 1) := by decide +kernel
theorem dX6_search_70 : decode cX6_search 70 = .ok (.iastore, 1) := by decide +kernel
theorem dX6_search_71 : decode cX6_search 71 = .ok (.aload_n 0, 1) := by decide +kernel
theorem dX6_search_72 : decode cX6_search 72 = .ok (.getfield 15, 3) := by decide +kernel
theorem dX6_search_75 : decode cX6_search 75 = .ok (.bipush 8, 2) := by decide +kernel
theorem dX6_search_77 : decode cX6_search 77 = .ok (.iload_n 2, 1) := by decide +kernel
theorem dX6_search_78 : decode cX6_search 78 = .ok (.imul, 1) := by decide +kernel
theorem dX6_search_79 : decode cX6_search 79 = .ok (.iload_n 3, 1) := by decide +kernel
theorem dX6_search_80 : decode cX6_search 80 = .ok (.iadd, 1) := by decide +kernel
theorem dX6_search_81 : decode cX6_search 81 = .ok (.aload_n 0, 1) := by decide +kernel
theorem dX6_search_82 : decode cX6_search 82 = .ok (.getfield 36, 3) := by decide +kernel
theorem dX6_search_85 : decode cX6_search 85 = .ok (.getfield 49, 3) := by decide +kernel
theorem dX6_search_88 : decode cX6_search 88 = .ok (.iconst 5, 1) := by decide +kernel
theorem dX6_search_89 : decode cX6_search 89 = .ok (.iaload, 1) := by decide +kernel
theorem dX6_search_90 : decode cX6_search 90 = .ok (.iastore, 1) := by decide +kernel
theorem dX6_search_91 : decode cX6_search 91 = .ok (.iinc 3 1, 3) := by decide +kernel
theorem dX6_search_94 : decode cX6_search 94 = .ok (.goto (-61), 3) := by decide +kernel
theorem dX6_search_97 : decode cX6_search 97 = .ok (.iinc 2 1, 3) := by decide +kernel
theorem dX6_search_100 : decode cX6_search 100 = .ok (.goto (-77), 3) := by decide +kernel
theorem dX6_search_103 : decode cX6_search 103 = .ok (.aload_n 0, 1) := by decide +kernel
theorem dX6_search_104 : decode cX6_search 104 = .ok (.ldc2_w 52, 3) := by decide +kernel
theorem dX6_search_107 : decode cX6_search 107 = .ok (.putfield 28, 3) := by decide +kernel
theorem dX6_search_110 : decode cX6_search 110 = .ok (.aload_n 0, 1) := by decide +kernel
theorem dX6_search_111 : decode cX6_search 111 = .ok (.getfield 18, 3) := by decide +kernel
theorem dX6_search_114 : decode cX6_search 114 = .ok (.iconst 0, 1) := by decide +kernel
theorem dX6_search_115 : decode cX6_search 115 = .ok (.iconst 0, 1) := by decide +kernel
theorem dX6_search_116 : decode cX6_search 116 = .ok (.iastore, 1) := by decide +kernel
theorem dX6_search_117 : decode cX6_search 117 = .ok (.aload_n 0, 1) := by decide +kernel
theorem dX6_search_118 : decode cX6_search 118 = .ok (.iconst 1, 1) := by decide +kernel
theorem dX6_search_119 : decode cX6_search 119 = .ok (.iconst 1, 1) := by decide +kernel
theorem dX6_search_120 : decode cX6_search 120 = .ok (.lconst 0, 1) := by decide +kernel
theorem dX6_search_121 : decode cX6_search 121 = .ok (.invokevirtual 54, 3) := by decide +kernel
theorem dX6_search_124 : decode cX6_search 124 = .ok (.return_, 1) := by decide +kernel
theorem dX6_goOn_0 : decode cX6_goOn 0 = .ok (.lload_n 3, 1) := by decide +kernel
theorem dX6_goOn_1 : decode cX6_goOn 1 = .ok (.aload_n 0, 1) := by decide +kernel
theorem dX6_goOn_2 : decode cX6_goOn 2 = .ok (.getfield 28, 3) := by decide +kernel
theorem dX6_goOn_5 : decode cX6_goOn 5 = .ok (.lcmp, 1) := by decide +kernel
theorem dX6_goOn_6 : decode cX6_goOn 6 = .ok (.ifCond .ge 9, 3) := by decide +kernel
theorem dX6_goOn_9 : decode cX6_goOn 9 = .ok (.iload_n 1, 1) := by decide +kernel
theorem dX6_goOn_10 : decode cX6_goOn 10 = .ok (.bipush 8, 2) := by decide +kernel
theorem dX6_goOn_12 : decode cX6_goOn 12 = .ok (.if_icmp .le 4, 3) := by decide +kernel
theorem dX6_goOn_15 : decode cX6_goOn 15 = .ok (.return_, 1) := by decide +kernel
theorem dX6_goOn_16 : decode cX6_goOn 16 = .ok (.iload_n 1, 1) := by decide +kernel
theorem dX6_goOn_17 : decode cX6_goOn 17 = .ok (.aload_n 0, 1) := by decide +kernel
theorem dX6_goOn_18 : decode cX6_goOn 18 = .ok (.getfield 21, 3) := by decide +kernel
theorem dX6_goOn_21 : decode cX6_goOn 21 = .ok (.if_icmp .lt 11, 3) := by decide +kernel
theorem dX6_goOn_24 : decode cX6_goOn 24 = .ok (.aload_n 0, 1) := by decide +kernel
theorem dX6_goOn_25 : decode cX6_goOn 25 = .ok (.lload_n 3, 1) := by decide +kernel
theorem dX6_goOn_26 : decode cX6_goOn 26 = .ok (.invokevirtual 58, 3) := by decide +kernel
theorem dX6_goOn_29 : decode cX6_goOn 29 = .ok (.goto 10, 3) := by decide +kernel
theorem dX6_goOn_32 : decode cX6_goOn 32 = .ok (.aload_n 0, 1) := by decide +kernel
theorem dX6_goOn_33 : decode cX6_goOn 33 = .ok (.iload_n 1, 1) := by decide +kernel
theorem dX6_goOn_34 : decode cX6_goOn 34 = .ok (.iload_n 2, 1) := by decide +kernel
theorem dX6_goOn_35 : decode cX6_goOn 35 = .ok (.lload_n 3, 1) := by decide +kernel
theorem dX6_goOn_36 : decode cX6_goOn 36 = .ok (.invokevirtual 62, 3) := by decide +kernel
theorem dX6_goOn_39 : decode cX6_goOn 39 = .ok (.return_, 1) := by decide +kernel
theorem dX6_placeEach_0 : decode cX6_placeEach 0 = .ok (.iconst 1, 1) := by decide +kernel
theorem dX6_placeEach_1 : decode cX6_placeEach 1 = .ok (.istore 5, 2) := by decide +kernel
theorem dX6_placeEach_3 : decode cX6_placeEach 3 = .ok (.iload 5, 2) := by decide +kernel
theorem dX6_placeEach_5 : decode cX6_placeEach 5 = .ok (.aload_n 0, 1) := by decide +kernel
theorem dX6_placeEach_6 : decode cX6_placeEach 6 = .ok (.getfield 21, 3) := by decide +kernel
theorem dX6_placeEach_9 : decode cX6_placeEach 9 = .ok (.if_icmp .ge 76, 3) := by decide +kernel
theorem dX6_placeEach_12 : decode cX6_placeEach 12 = .ok (.iload_n 2, 1) := by decide +kernel
theorem dX6_placeEach_13 : decode cX6_placeEach 13 = .ok (.iload 5, 2) := by decide +kernel
theorem dX6_placeEach_15 : decode cX6_placeEach 15 = .ok (.ishr, 1) := by decide +kernel
theorem dX6_placeEach_16 : decode cX6_placeEach 16 = .ok (.iconst 1, 1) := by decide +kernel
theorem dX6_placeEach_17 : decode cX6_placeEach 17 = .ok (.iand, 1) := by decide +kernel
theorem dX6_placeEach_18 : decode cX6_placeEach 18 = .ok (.ifCond .ne 61, 3) := by decide +kernel
theorem dX6_placeEach_21 : decode cX6_placeEach 21 = .ok (.aload_n 0, 1) := by decide +kernel
theorem dX6_placeEach_22 : decode cX6_placeEach 22 = .ok (.getfield 18, 3) := by decide +kernel
theorem dX6_placeEach_25 : decode cX6_placeEach 25 = .ok (.iload_n 1, 1) := by decide +kernel
theorem dX6_placeEach_26 : decode cX6_placeEach 26 = .ok (.iload 5, 2) := by decide +kernel
theorem dX6_placeEach_28 : decode cX6_placeEach 28 = .ok (.iastore, 1) := by decide +kernel
theorem dX6_placeEach_29 : decode cX6_placeEach 29 = .ok (.iload_n 1, 1) := by decide +kernel
theorem dX6_placeEach_30 : decode cX6_placeEach 30 = .ok (.iconst 2, 1) := by decide +kernel
theorem dX6_placeEach_31 : decode cX6_placeEach 31 = .ok (.if_icmp .ge 7, 3) := by decide +kernel
theorem dX6_placeEach_34 : decode cX6_placeEach 34 = .ok (.lconst 0, 1) := by decide +kernel
theorem dX6_placeEach_35 : decode cX6_placeEach 35 = .ok (.goto 25, 3) := by decide +kernel
theorem dX6_placeEach_38 : decode cX6_placeEach 38 = .ok (.aload_n 0, 1) := by decide +kernel
theorem dX6_placeEach_39 : decode cX6_placeEach 39 = .ok (.aload_n 0, 1) := by decide +kernel
theorem dX6_placeEach_40 : decode cX6_placeEach 40 = .ok (.getfield 18, 3) := by decide +kernel
theorem dX6_placeEach_43 : decode cX6_placeEach 43 = .ok (.iload_n 1, 1) := by decide +kernel
theorem dX6_placeEach_44 : decode cX6_placeEach 44 = .ok (.iconst 2, 1) := by decide +kernel
theorem dX6_placeEach_45 : decode cX6_placeEach 45 = .ok (.isub, 1) := by decide +kernel
theorem dX6_placeEach_46 : decode cX6_placeEach 46 = .ok (.iaload, 1) := by decide +kernel
theorem dX6_placeEach_47 : decode cX6_placeEach 47 = .ok (.aload_n 0, 1) := by decide +kernel
theorem dX6_placeEach_48 : decode cX6_placeEach 48 = .ok (.getfield 18, 3) := by decide +kernel
theorem dX6_placeEach_51 : decode cX6_placeEach 51 = .ok (.iload_n 1, 1) := by decide +kernel
theorem dX6_placeEach_52 : decode cX6_placeEach 52 = .ok (.iconst 1, 1) := by decide +kernel
theorem dX6_placeEach_53 : decode cX6_placeEach 53 = .ok (.isub, 1) := by decide +kernel
theorem dX6_placeEach_54 : decode cX6_placeEach 54 = .ok (.iaload, 1) := by decide +kernel
theorem dX6_placeEach_55 : decode cX6_placeEach 55 = .ok (.iload 5, 2) := by decide +kernel
theorem dX6_placeEach_57 : decode cX6_placeEach 57 = .ok (.invokevirtual 65, 3) := by decide +kernel
theorem dX6_placeEach_60 : decode cX6_placeEach 60 = .ok (.lstore 6, 2) := by decide +kernel
theorem dX6_placeEach_62 : decode cX6_placeEach 62 = .ok (.aload_n 0, 1) := by decide +kernel
theorem dX6_placeEach_63 : decode cX6_placeEach 63 = .ok (.iload_n 1, 1) := by decide +kernel
theorem dX6_placeEach_64 : decode cX6_placeEach 64 = .ok (.iconst 1, 1) := by decide +kernel
theorem dX6_placeEach_65 : decode cX6_placeEach 65 = .ok (.iadd, 1) := by decide +kernel
theorem dX6_placeEach_66 : decode cX6_placeEach 66 = .ok (.iload_n 2, 1) := by decide +kernel
theorem dX6_placeEach_67 : decode cX6_placeEach 67 = .ok (.iconst 1, 1) := by decide +kernel
theorem dX6_placeEach_68 : decode cX6_placeEach 68 = .ok (.iload 5, 2) := by decide +kernel
theorem dX6_placeEach_70 : decode cX6_placeEach 70 = .ok (.ishl, 1) := by decide +kernel
theorem dX6_placeEach_71 : decode cX6_placeEach 71 = .ok (.ior, 1) := by decide +kernel
theorem dX6_placeEach_72 : decode cX6_placeEach 72 = .ok (.lload_n 3, 1) := by decide +kernel
theorem dX6_placeEach_73 : decode cX6_placeEach 73 = .ok (.lload 6, 2) := by decide +kernel
theorem dX6_placeEach_75 : decode cX6_placeEach 75 = .ok (.ladd, 1) := by decide +kernel
theorem dX6_placeEach_76 : decode cX6_placeEach 76 = .ok (.invokevirtual 54, 3) := by decide +kernel
theorem dX6_placeEach_79 : decode cX6_placeEach 79 = .ok (.iinc 5 1, 3) := by decide +kernel
theorem dX6_placeEach_82 : decode cX6_placeEach 82 = .ok (.goto (-79), 3) := by decide +kernel
theorem dX6_placeEach_85 : decode cX6_placeEach 85 = .ok (.return_, 1) := by decide +kernel
theorem dX6_close_0 : decode cX6_close 0 = .ok (.aload_n 0, 1) := by decide +kernel
theorem dX6_close_1 : decode cX6_close 1 = .ok (.getfield 21, 3) := by decide +kernel
theorem dX6_close_4 : decode cX6_close 4 = .ok (.iconst 1, 1) := by decide +kernel
theorem dX6_close_5 : decode cX6_close 5 = .ok (.isub, 1) := by decide +kernel
theorem dX6_close_6 : decode cX6_close 6 = .ok (.istore_n 3, 1) := by decide +kernel
theorem dX6_close_7 : decode cX6_close 7 = .ok (.iload_n 3, 1) := by decide +kernel
theorem dX6_close_8 : decode cX6_close 8 = .ok (.iconst 1, 1) := by decide +kernel
theorem dX6_close_9 : decode cX6_close 9 = .ok (.if_icmp .ge 4, 3) := by decide +kernel
theorem dX6_close_12 : decode cX6_close 12 = .ok (.return_, 1) := by decide +kernel
theorem dX6_close_13 : decode cX6_close 13 = .ok (.lload_n 1, 1) := by decide +kernel
theorem dX6_close_14 : decode cX6_close 14 = .ok (.aload_n 0, 1) := by decide +kernel
theorem dX6_close_15 : decode cX6_close 15 = .ok (.aload_n 0, 1) := by decide +kernel
theorem dX6_close_16 : decode cX6_close 16 = .ok (.getfield 18, 3) := by decide +kernel
theorem dX6_close_19 : decode cX6_close 19 = .ok (.iload_n 3, 1) := by decide +kernel
theorem dX6_close_20 : decode cX6_close 20 = .ok (.iconst 1, 1) := by decide +kernel
theorem dX6_close_21 : decode cX6_close 21 = .ok (.isub, 1) := by decide +kernel
theorem dX6_close_22 : decode cX6_close 22 = .ok (.iaload, 1) := by decide +kernel
theorem dX6_close_23 : decode cX6_close 23 = .ok (.aload_n 0, 1) := by decide +kernel
theorem dX6_close_24 : decode cX6_close 24 = .ok (.getfield 18, 3) := by decide +kernel
theorem dX6_close_27 : decode cX6_close 27 = .ok (.iload_n 3, 1) := by decide +kernel
theorem dX6_close_28 : decode cX6_close 28 = .ok (.iaload, 1) := by decide +kernel
theorem dX6_close_29 : decode cX6_close 29 = .ok (.aload_n 0, 1) := by decide +kernel
theorem dX6_close_30 : decode cX6_close 30 = .ok (.getfield 18, 3) := by decide +kernel
theorem dX6_close_33 : decode cX6_close 33 = .ok (.iconst 0, 1) := by decide +kernel
theorem dX6_close_34 : decode cX6_close 34 = .ok (.iaload, 1) := by decide +kernel
theorem dX6_close_35 : decode cX6_close 35 = .ok (.invokevirtual 65, 3) := by decide +kernel
theorem dX6_close_38 : decode cX6_close 38 = .ok (.ladd, 1) := by decide +kernel
theorem dX6_close_39 : decode cX6_close 39 = .ok (.aload_n 0, 1) := by decide +kernel
theorem dX6_close_40 : decode cX6_close 40 = .ok (.aload_n 0, 1) := by decide +kernel
theorem dX6_close_41 : decode cX6_close 41 = .ok (.getfield 18, 3) := by decide +kernel
theorem dX6_close_44 : decode cX6_close 44 = .ok (.iload_n 3, 1) := by decide +kernel
theorem dX6_close_45 : decode cX6_close 45 = .ok (.iaload, 1) := by decide +kernel
theorem dX6_close_46 : decode cX6_close 46 = .ok (.aload_n 0, 1) := by decide +kernel
theorem dX6_close_47 : decode cX6_close 47 = .ok (.getfield 18, 3) := by decide +kernel
theorem dX6_close_50 : decode cX6_close 50 = .ok (.iconst 0, 1) := by decide +kernel
theorem dX6_close_51 : decode cX6_close 51 = .ok (.iaload, 1) := by decide +kernel
theorem dX6_close_52 : decode cX6_close 52 = .ok (.aload_n 0, 1) := by decide +kernel
theorem dX6_close_53 : decode cX6_close 53 = .ok (.getfield 18, 3) := by decide +kernel
theorem dX6_close_56 : decode cX6_close 56 = .ok (.iconst 1, 1) := by decide +kernel
theorem dX6_close_57 : decode cX6_close 57 = .ok (.iaload, 1) := by decide +kernel
theorem dX6_close_58 : decode cX6_close 58 = .ok (.invokevirtual 65, 3) := by decide +kernel
theorem dX6_close_61 : decode cX6_close 61 = .ok (.ladd, 1) := by decide +kernel
theorem dX6_close_62 : decode cX6_close 62 = .ok (.lstore 4, 2) := by decide +kernel
theorem dX6_close_64 : decode cX6_close 64 = .ok (.lload 4, 2) := by decide +kernel
theorem dX6_close_66 : decode cX6_close 66 = .ok (.aload_n 0, 1) := by decide +kernel
theorem dX6_close_67 : decode cX6_close 67 = .ok (.getfield 28, 3) := by decide +kernel
theorem dX6_close_70 : decode cX6_close 70 = .ok (.lcmp, 1) := by decide +kernel
theorem dX6_close_71 : decode cX6_close 71 = .ok (.ifCond .ge 26, 3) := by decide +kernel
theorem dX6_close_74 : decode cX6_close 74 = .ok (.aload_n 0, 1) := by decide +kernel
theorem dX6_close_75 : decode cX6_close 75 = .ok (.lload 4, 2) := by decide +kernel
theorem dX6_close_77 : decode cX6_close 77 = .ok (.putfield 28, 3) := by decide +kernel
theorem dX6_close_80 : decode cX6_close 80 = .ok (.aload_n 0, 1) := by decide +kernel
theorem dX6_close_81 : decode cX6_close 81 = .ok (.getfield 18, 3) := by decide +kernel
theorem dX6_close_84 : decode cX6_close 84 = .ok (.iconst 0, 1) := by decide +kernel
theorem dX6_close_85 : decode cX6_close 85 = .ok (.aload_n 0, 1) := by decide +kernel
theorem dX6_close_86 : decode cX6_close 86 = .ok (.getfield 25, 3) := by decide +kernel
theorem dX6_close_89 : decode cX6_close 89 = .ok (.iconst 0, 1) := by decide +kernel
theorem dX6_close_90 : decode cX6_close 90 = .ok (.aload_n 0, 1) := by decide +kernel
theorem dX6_close_91 : decode cX6_close 91 = .ok (.getfield 21, 3) := by decide +kernel
theorem dX6_close_94 : decode cX6_close 94 = .ok (.invokestatic 69, 3) := by decide +kernel
theorem dX6_close_97 : decode cX6_close 97 = .ok (.return_, 1) := by decide +kernel
theorem dX6_without_0 : decode cX6_without 0 = .ok (.aload_n 0, 1) := by decide +kernel
theorem dX6_without_1 : decode cX6_without 1 = .ok (.getfield 9, 3) := by decide +kernel
theorem dX6_without_4 : decode cX6_without 4 = .ok (.bipush 8, 2) := by decide +kernel
theorem dX6_without_6 : decode cX6_without 6 = .ok (.iload_n 2, 1) := by decide +kernel
theorem dX6_without_7 : decode cX6_without 7 = .ok (.imul, 1) := by decide +kernel
theorem dX6_without_8 : decode cX6_without 8 = .ok (.iload_n 3, 1) := by decide +kernel
theorem dX6_without_9 : decode cX6_without 9 = .ok (.iadd, 1) := by decide +kernel
theorem dX6_without_10 : decode cX6_without 10 = .ok (.iaload, 1) := by decide +kernel
theorem dX6_without_11 : decode cX6_without 11 = .ok (.i2l, 1) := by decide +kernel
theorem dX6_without_12 : decode cX6_without 12 = .ok (.lstore 4, 2) := by decide +kernel
theorem dX6_without_14 : decode cX6_without 14 = .ok (.aload_n 0, 1) := by decide +kernel
theorem dX6_without_15 : decode cX6_without 15 = .ok (.getfield 15, 3) := by decide +kernel
theorem dX6_without_18 : decode cX6_without 18 = .ok (.bipush 8, 2) := by decide +kernel
theorem dX6_without_20 : decode cX6_without 20 = .ok (.iload_n 1, 1) := by decide +kernel
theorem dX6_without_21 : decode cX6_without 21 = .ok (.imul, 1) := by decide +kernel
theorem dX6_without_22 : decode cX6_without 22 = .ok (.iload_n 2, 1) := by decide +kernel
theorem dX6_without_23 : decode cX6_without 23 = .ok (.iadd, 1) := by decide +kernel
theorem dX6_without_24 : decode cX6_without 24 = .ok (.iaload, 1) := by decide +kernel
theorem dX6_without_25 : decode cX6_without 25 = .ok (.i2l, 1) := by decide +kernel
theorem dX6_without_26 : decode cX6_without 26 = .ok (.lstore 6, 2) := by decide +kernel
theorem dX6_without_28 : decode cX6_without 28 = .ok (.ldc2_w 75, 3) := by decide +kernel
theorem dX6_without_31 : decode cX6_without 31 = .ok (.lload 4, 2) := by decide +kernel
theorem dX6_without_33 : decode cX6_without 33 = .ok (.lsub, 1) := by decide +kernel
theorem dX6_without_34 : decode cX6_without 34 = .ok (.ldc2_w 75, 3) := by decide +kernel
theorem dX6_without_37 : decode cX6_without 37 = .ok (.lload 6, 2) := by decide +kernel
theorem dX6_without_39 : decode cX6_without 39 = .ok (.lsub, 1) := by decide +kernel
theorem dX6_without_40 : decode cX6_without 40 = .ok (.lmul, 1) := by decide +kernel
theorem dX6_without_41 : decode cX6_without 41 = .ok (.lreturn, 1) := by decide +kernel
theorem dX7_init_0 : decode cX7_init 0 = .ok (.aload_n 0, 1) := by decide +kernel
theorem dX7_init_1 : decode cX7_init 1 = .ok (.invokespecial 3, 3) := by decide +kernel
theorem dX7_init_4 : decode cX7_init 4 = .ok (.aload_n 0, 1) := by decide +kernel
theorem dX7_init_5 : decode cX7_init 5 = .ok (.iconst 0, 1) := by decide +kernel
theorem dX7_init_6 : decode cX7_init 6 = .ok (.putfield 9, 3) := by decide +kernel
theorem dX7_init_9 : decode cX7_init 9 = .ok (.aload_n 0, 1) := by decide +kernel
theorem dX7_init_10 : decode cX7_init 10 = .ok (.iconst 0, 1) := by decide +kernel
theorem dX7_init_11 : decode cX7_init 11 = .ok (.putfield 15, 3) := by decide +kernel
theorem dX7_init_14 : decode cX7_init 14 = .ok (.aload_n 0, 1) := by decide +kernel
theorem dX7_init_15 : decode cX7_init 15 = .ok (.iconst 0, 1) := by decide +kernel
theorem dX7_init_16 : decode cX7_init 16 = .ok (.putfield 18, 3) := by decide +kernel
theorem dX7_init_19 : decode cX7_init 19 = .ok (.aload_n 0, 1) := by decide +kernel
theorem dX7_init_20 : decode cX7_init 20 = .ok (.iconst 0, 1) := by decide +kernel
theorem dX7_init_21 : decode cX7_init 21 = .ok (.putfield 21, 3) := by decide +kernel
theorem dX7_init_24 : decode cX7_init 24 = .ok (.aload_n 0, 1) := by decide +kernel
theorem dX7_init_25 : decode cX7_init 25 = .ok (.bipush 8, 2) := by decide +kernel
theorem dX7_init_27 : decode cX7_init 27 = .ok (.newarray .int, 2) := by decide +kernel
theorem dX7_init_29 : decode cX7_init 29 = .ok (.putfield 24, 3) := by decide +kernel
theorem dX7_init_32 : decode cX7_init 32 = .ok (.aload_n 0, 1) := by decide +kernel
theorem dX7_init_33 : decode cX7_init 33 = .ok (.bipush 8, 2) := by decide +kernel
theorem dX7_init_35 : decode cX7_init 35 = .ok (.newarray .int, 2) := by decide +kernel
theorem dX7_init_37 : decode cX7_init 37 = .ok (.putfield 28, 3) := by decide +kernel
theorem dX7_init_40 : decode cX7_init 40 = .ok (.aload_n 0, 1) := by decide +kernel
theorem dX7_init_41 : decode cX7_init 41 = .ok (.bipush 16, 2) := by decide +kernel
theorem dX7_init_43 : decode cX7_init 43 = .ok (.newarray .int, 2) := by decide +kernel
theorem dX7_init_45 : decode cX7_init 45 = .ok (.putfield 31, 3) := by decide +kernel
theorem dX7_init_48 : decode cX7_init 48 = .ok (.aload_n 0, 1) := by decide +kernel
theorem dX7_init_49 : decode cX7_init 49 = .ok (.bipush 16, 2) := by decide +kernel
theorem dX7_init_51 : decode cX7_init 51 = .ok (.newarray .int, 2) := by decide +kernel
theorem dX7_init_53 : decode cX7_init 53 = .ok (.putfield 34, 3) := by decide +kernel
theorem dX7_init_56 : decode cX7_init 56 = .ok (.return_, 1) := by decide +kernel
theorem dX7_begin_0 : decode cX7_begin 0 = .ok (.aload_n 0, 1) := by decide +kernel
theorem dX7_begin_1 : decode cX7_begin 1 = .ok (.aload_n 1, 1) := by decide +kernel
theorem dX7_begin_2 : decode cX7_begin 2 = .ok (.getfield 37, 3) := by decide +kernel
theorem dX7_begin_5 : decode cX7_begin 5 = .ok (.putfield 9, 3) := by decide +kernel
theorem dX7_begin_8 : decode cX7_begin 8 = .ok (.aload_n 0, 1) := by decide +kernel
theorem dX7_begin_9 : decode cX7_begin 9 = .ok (.iconst 0, 1) := by decide +kernel
theorem dX7_begin_10 : decode cX7_begin 10 = .ok (.putfield 15, 3) := by decide +kernel
theorem dX7_begin_13 : decode cX7_begin 13 = .ok (.aload_n 0, 1) := by decide +kernel
theorem dX7_begin_14 : decode cX7_begin 14 = .ok (.iconst 0, 1) := by decide +kernel
theorem dX7_begin_15 : decode cX7_begin 15 = .ok (.putfield 18, 3) := by decide +kernel
theorem dX7_begin_18 : decode cX7_begin 18 = .ok (.aload_n 0, 1) := by decide +kernel
theorem dX7_begin_19 : decode cX7_begin 19 = .ok (.iconst 0, 1) := by decide +kernel
theorem dX7_begin_20 : decode cX7_begin 20 = .ok (.putfield 21, 3) := by decide +kernel
theorem dX7_begin_23 : decode cX7_begin 23 = .ok (.iconst 0, 1) := by decide +kernel
theorem dX7_begin_24 : decode cX7_begin 24 = .ok (.istore_n 2, 1) := by decide +kernel
theorem dX7_begin_25 : decode cX7_begin 25 = .ok (.iload_n 2, 1) := by decide +kernel
theorem dX7_begin_26 : decode cX7_begin 26 = .ok (.bipush 8, 2) := by decide +kernel
theorem dX7_begin_28 : decode cX7_begin 28 = .ok (.if_icmp .ge 16, 3) := by decide +kernel
theorem dX7_begin_31 : decode cX7_begin 31 = .ok (.aload_n 0, 1) := by decide +kernel
theorem dX7_begin_32 : decode cX7_begin 32 = .ok (.getfield 24, 3) := by decide +kernel
theorem dX7_begin_35 : decode cX7_begin 35 = .ok (.iload_n 2, 1) := by decide +kernel
theorem dX7_begin_36 : decode cX7_begin 36 = .ok (.iload_n 2, 1) := by decide +kernel
theorem dX7_begin_37 : decode cX7_begin 37 = .ok (.iastore, 1) := by decide +kernel
theorem dX7_begin_38 : decode cX7_begin 38 = .ok (.iinc 2 1, 3) := by decide +kernel
theorem dX7_begin_41 : decode cX7_begin 41 = .ok (.goto (-16), 3) := by decide +kernel
theorem dX7_begin_44 : decode cX7_begin 44 = .ok (.aload_n 1, 1) := by decide +kernel
theorem dX7_begin_45 : decode cX7_begin 45 = .ok (.getfield 40, 3) := by decide +kernel
theorem dX7_begin_48 : decode cX7_begin 48 = .ok (.iconst 0, 1) := by decide +kernel
theorem dX7_begin_49 : decode cX7_begin 49 = .ok (.aload_n 0, 1) := by decide +kernel
theorem dX7_begin_50 : decode cX7_begin 50 = .ok (.getfield 28, 3) := by decide +kernel
theorem dX7_begin_53 : decode cX7_begin 53 = .ok (.iconst 0, 1) := by decide +kernel
theorem dX7_begin_54 : decode cX7_begin 54 = .ok (.bipush 8, 2) := by decide +kernel
theorem dX7_begin_56 : decode cX7_begin 56 = .ok (.invokestatic 41, 3) := by decide +kernel
theorem dX7_begin_59 : decode cX7_begin 59 = .ok (.aload_n 1, 1) := by decide +kernel
theorem dX7_begin_60 : decode cX7_begin 60 = .ok (.getfield 47, 3) := by decide +kernel
theorem dX7_begin_63 : decode cX7_begin 63 = .ok (.iconst 0, 1) := by decide +kernel
theorem dX7_begin_64 : decode cX7_begin 64 = .ok (.aload_n 0, 1) := by decide +kernel
theorem dX7_begin_65 : decode cX7_begin 65 = .ok (.getfield 31, 3) := by decide +kernel
theorem dX7_begin_68 : decode cX7_begin 68 = .ok (.iconst 0, 1) := by decide +kernel
theorem dX7_begin_69 : decode cX7_begin 69 = .ok (.bipush 16, 2) := by decide +kernel
theorem dX7_begin_71 : decode cX7_begin 71 = .ok (.invokestatic 41, 3) := by decide +kernel
theorem dX7_begin_74 : decode cX7_begin 74 = .ok (.aload_n 1, 1) := by decide +kernel
theorem dX7_begin_75 : decode cX7_begin 75 = .ok (.getfield 48, 3) := by decide +kernel
theorem dX7_begin_78 : decode cX7_begin 78 = .ok (.iconst 0, 1) := by decide +kernel
theorem dX7_begin_79 : decode cX7_begin 79 = .ok (.aload_n 0, 1) := by decide +kernel
theorem dX7_begin_80 : decode cX7_begin 80 = .ok (.getfield 34, 3) := by decide +kernel
theorem dX7_begin_83 : decode cX7_begin 83 = .ok (.iconst 0, 1) := by decide +kernel
theorem dX7_begin_84 : decode cX7_begin 84 = .ok (.bipush 16, 2) := by decide +kernel
theorem dX7_begin_86 : decode cX7_begin 86 = .ok (.invokestatic 41, 3) := by decide +kernel
theorem dX7_begin_89 : decode cX7_begin 89 = .ok (.return_, 1) := by decide +kernel
theorem dX7_copyFrom_0 : decode cX7_copyFrom 0 = .ok (.aload_n 0, 1) := by decide +kernel
theorem dX7_copyFrom_1 : decode cX7_copyFrom 1 = .ok (.aload_n 1, 1) := by decide +kernel
theorem dX7_copyFrom_2 : decode cX7_copyFrom 2 = .ok (.getfield 9, 3) := by decide +kernel
theorem dX7_copyFrom_5 : decode cX7_copyFrom 5 = .ok (.putfield 9, 3) := by decide +kernel
theorem dX7_copyFrom_8 : decode cX7_copyFrom 8 = .ok (.aload_n 0, 1) := by decide +kernel
theorem dX7_copyFrom_9 : decode cX7_copyFrom 9 = .ok (.aload_n 1, 1) := by decide +kernel
theorem dX7_copyFrom_10 : decode cX7_copyFrom 10 = .ok (.getfield 15, 3) := by decide +kernel
theorem dX7_copyFrom_13 : decode cX7_copyFrom 13 = .ok (.putfield 15, 3) := by decide +kernel
theorem dX7_copyFrom_16 : decode cX7_copyFrom 16 = .ok (.aload_n 0, 1) := by decide +kernel
theorem dX7_copyFrom_17 : decode cX7_copyFrom 17 = .ok (.aload_n 1, 1) := by decide +kernel
theorem dX7_copyFrom_18 : decode cX7_copyFrom 18 = .ok (.getfield 18, 3) := by decide +kernel
theorem dX7_copyFrom_21 : decode cX7_copyFrom 21 = .ok (.putfield 18, 3) := by decide +kernel
theorem dX7_copyFrom_24 : decode cX7_copyFrom 24 = .ok (.aload_n 0, 1) := by decide +kernel
theorem dX7_copyFrom_25 : decode cX7_copyFrom 25 = .ok (.aload_n 1, 1) := by decide +kernel
theorem dX7_copyFrom_26 : decode cX7_copyFrom 26 = .ok (.getfield 21, 3) := by decide +kernel
theorem dX7_copyFrom_29 : decode cX7_copyFrom 29 = .ok (.putfield 21, 3) := by decide +kernel
theorem dX7_copyFrom_32 : decode cX7_copyFrom 32 = .ok (.aload_n 1, 1) := by decide +kernel
theorem dX7_copyFrom_33 : decode cX7_copyFrom 33 = .ok (.getfield 24, 3) := by decide +kernel
theorem dX7_copyFrom_36 : decode cX7_copyFrom 36 = .ok (.iconst 0, 1) := by decide +kernel
theorem dX7_copyFrom_37 : decode cX7_copyFrom 37 = .ok (.aload_n 0, 1) := by decide +kernel
theorem dX7_copyFrom_38 : decode cX7_copyFrom 38 = .ok (.getfield 24, 3) := by decide +kernel
theorem dX7_copyFrom_41 : decode cX7_copyFrom 41 = .ok (.iconst 0, 1) := by decide +kernel
theorem dX7_copyFrom_42 : decode cX7_copyFrom 42 = .ok (.bipush 8, 2) := by decide +kernel
theorem dX7_copyFrom_44 : decode cX7_copyFrom 44 = .ok (.invokestatic 41, 3) := by decide +kernel
theorem dX7_copyFrom_47 : decode cX7_copyFrom 47 = .ok (.aload_n 1, 1) := by decide +kernel
theorem dX7_copyFrom_48 : decode cX7_copyFrom 48 = .ok (.getfield 28, 3) := by decide +kernel
theorem dX7_copyFrom_51 : decode cX7_copyFrom 51 = .ok (.iconst 0, 1) := by decide +kernel
theorem dX7_copyFrom_52 : decode cX7_copyFrom 52 = .ok (.aload_n 0, 1) := by decide +kernel
theorem dX7_copyFrom_53 : decode cX7_copyFrom 53 = .ok (.getfield 28, 3) := by decide +kernel
theorem dX7_copyFrom_56 : decode cX7_copyFrom 56 = .ok (.iconst 0, 1) := by decide +kernel
theorem dX7_copyFrom_57 : decode cX7_copyFrom 57 = .ok (.bipush 8, 2) := by decide +kernel
theorem dX7_copyFrom_59 : decode cX7_copyFrom 59 = .ok (.invokestatic 41, 3) := by decide +kernel
theorem dX7_copyFrom_62 : decode cX7_copyFrom 62 = .ok (.aload_n 1, 1) := by decide +kernel
theorem dX7_copyFrom_63 : decode cX7_copyFrom 63 = .ok (.getfield 31, 3) := by decide +kernel
theorem dX7_copyFrom_66 : decode cX7_copyFrom 66 = .ok (.iconst 0, 1) := by decide +kernel
theorem dX7_copyFrom_67 : decode cX7_copyFrom 67 = .ok (.aload_n 0, 1) := by decide +kernel
theorem dX7_copyFrom_68 : decode cX7_copyFrom 68 = .ok (.getfield 31, 3) := by decide +kernel
theorem dX7_copyFrom_71 : decode cX7_copyFrom 71 = .ok (.iconst 0, 1) := by decide +kernel
theorem dX7_copyFrom_72 : decode cX7_copyFrom 72 = .ok (.bipush 16, 2) := by decide +kernel
theorem dX7_copyFrom_74 : decode cX7_copyFrom 74 = .ok (.invokestatic 41, 3) := by decide +kernel
theorem dX7_copyFrom_77 : decode cX7_copyFrom 77 = .ok (.aload_n 1, 1) := by decide +kernel
theorem dX7_copyFrom_78 : decode cX7_copyFrom 78 = .ok (.getfield 34, 3) := by decide +kernel
theorem dX7_copyFrom_81 : decode cX7_copyFrom 81 = .ok (.iconst 0, 1) := by decide +kernel
theorem dX7_copyFrom_82 : decode cX7_copyFrom 82 = .ok (.aload_n 0, 1) := by decide +kernel
theorem dX7_copyFrom_83 : decode cX7_copyFrom 83 = .ok (.getfield 34, 3) := by decide +kernel
theorem dX7_copyFrom_86 : decode cX7_copyFrom 86 = .ok (.iconst 0, 1) := by decide +kernel
theorem dX7_copyFrom_87 : decode cX7_copyFrom 87 = .ok (.bipush 16, 2) := by decide +kernel
theorem dX7_copyFrom_89 : decode cX7_copyFrom 89 = .ok (.invokestatic 41, 3) := by decide +kernel
theorem dX7_copyFrom_92 : decode cX7_copyFrom 92 = .ok (.return_, 1) := by decide +kernel
theorem dX7_crackers_0 : decode cX7_crackers 0 = .ok (.aload_n 0, 1) := by decide +kernel
theorem dX7_crackers_1 : decode cX7_crackers 1 = .ok (.getfield 9, 3) := by decide +kernel
theorem dX7_crackers_4 : decode cX7_crackers 4 = .ok (.iconst 2, 1) := by decide +kernel
theorem dX7_crackers_5 : decode cX7_crackers 5 = .ok (.if_icmp .ge 7, 3) := by decide +kernel
theorem dX7_crackers_8 : decode cX7_crackers 8 = .ok (.iconst 0, 1) := by decide +kernel
theorem dX7_crackers_9 : decode cX7_crackers 9 = .ok (.goto 7, 3) := by decide +kernel
theorem dX7_crackers_12 : decode cX7_crackers 12 = .ok (.aload_n 0, 1) := by decide +kernel
theorem dX7_crackers_13 : decode cX7_crackers 13 = .ok (.getfield 9, 3) := by decide +kernel
theorem dX7_crackers_16 : decode cX7_crackers 16 = .ok (.ireturn, 1) := by decide +kernel
theorem dX7_behind_0 : decode cX7_behind 0 = .ok (.iload_n 1, 1) := by decide +kernel
theorem dX7_behind_1 : decode cX7_behind 1 = .ok (.iconst 1, 1) := by decide +kernel
theorem dX7_behind_2 : decode cX7_behind 2 = .ok (.iadd, 1) := by decide +kernel
theorem dX7_behind_3 : decode cX7_behind 3 = .ok (.aload_n 0, 1) := by decide +kernel
theorem dX7_behind_4 : decode cX7_behind 4 = .ok (.getfield 9, 3) := by decide +kernel
theorem dX7_behind_7 : decode cX7_behind 7 = .ok (.if_icmp .lt 7, 3) := by decide +kernel
theorem dX7_behind_10 : decode cX7_behind 10 = .ok (.iconst 0, 1) := by decide +kernel
theorem dX7_behind_11 : decode cX7_behind 11 = .ok (.goto 6, 3) := by decide +kernel
theorem dX7_behind_14 : decode cX7_behind 14 = .ok (.iload_n 1, 1) := by decide +kernel
theorem dX7_behind_15 : decode cX7_behind 15 = .ok (.iconst 1, 1) := by decide +kernel
theorem dX7_behind_16 : decode cX7_behind 16 = .ok (.iadd, 1) := by decide +kernel
theorem dX7_behind_17 : decode cX7_behind 17 = .ok (.ireturn, 1) := by decide +kernel
theorem dX7_ahead_0 : decode cX7_ahead 0 = .ok (.iload_n 1, 1) := by decide +kernel
theorem dX7_ahead_1 : decode cX7_ahead 1 = .ok (.ifCond .gt 12, 3) := by decide +kernel
theorem dX7_ahead_4 : decode cX7_ahead 4 = .ok (.aload_n 0, 1) := by decide +kernel
theorem dX7_ahead_5 : decode cX7_ahead 5 = .ok (.getfield 9, 3) := by decide +kernel
theorem dX7_ahead_8 : decode cX7_ahead 8 = .ok (.iconst 1, 1) := by decide +kernel
theorem dX7_ahead_9 : decode cX7_ahead 9 = .ok (.isub, 1) := by decide +kernel
theorem dX7_ahead_10 : decode cX7_ahead 10 = .ok (.goto 6, 3) := by decide +kernel
theorem dX7_ahead_13 : decode cX7_ahead 13 = .ok (.iload_n 1, 1) := by decide +kernel
theorem dX7_ahead_14 : decode cX7_ahead 14 = .ok (.iconst 1, 1) := by decide +kernel
theorem dX7_ahead_15 : decode cX7_ahead 15 = .ok (.isub, 1) := by decide +kernel
theorem dX7_ahead_16 : decode cX7_ahead 16 = .ok (.ireturn, 1) := by decide +kernel
theorem dX7_handOf_0 : decode cX7_handOf 0 = .ok (.iconst 2, 1) := by decide +kernel
theorem dX7_handOf_1 : decode cX7_handOf 1 = .ok (.aload_n 0, 1) := by decide +kernel
theorem dX7_handOf_2 : decode cX7_handOf 2 = .ok (.getfield 24, 3) := by decide +kernel
theorem dX7_handOf_5 : decode cX7_handOf 5 = .ok (.iload_n 1, 1) := by decide +kernel
theorem dX7_handOf_6 : decode cX7_handOf 6 = .ok (.iaload, 1) := by decide +kernel
theorem dX7_handOf_7 : decode cX7_handOf 7 = .ok (.imul, 1) := by decide +kernel
theorem dX7_handOf_8 : decode cX7_handOf 8 = .ok (.iload_n 2, 1) := by decide +kernel
theorem dX7_handOf_9 : decode cX7_handOf 9 = .ok (.iadd, 1) := by decide +kernel
theorem dX7_handOf_10 : decode cX7_handOf 10 = .ok (.ireturn, 1) := by decide +kernel
theorem dX7_holdOf_0 : decode cX7_holdOf 0 = .ok (.bipush 10, 2) := by decide +kernel
theorem dX7_holdOf_2 : decode cX7_holdOf 2 = .ok (.aload_n 0, 1) := by decide +kernel
theorem dX7_holdOf_3 : decode cX7_holdOf 3 = .ok (.getfield 31, 3) := by decide +kernel
theorem dX7_holdOf_6 : decode cX7_holdOf 6 = .ok (.iload_n 1, 1) := by decide +kernel
theorem dX7_holdOf_7 : decode cX7_holdOf 7 = .ok (.iaload, 1) := by decide +kernel
theorem dX7_holdOf_8 : decode cX7_holdOf 8 = .ok (.imul, 1) := by decide +kernel
theorem dX7_holdOf_9 : decode cX7_holdOf 9 = .ok (.aload_n 0, 1) := by decide +kernel
theorem dX7_holdOf_10 : decode cX7_holdOf 10 = .ok (.getfield 34, 3) := by decide +kernel
theorem dX7_holdOf_13 : decode cX7_holdOf 13 = .ok (.iload_n 1, 1) := by decide +kernel
theorem dX7_holdOf_14 : decode cX7_holdOf 14 = .ok (.iaload, 1) := by decide +kernel
theorem dX7_holdOf_15 : decode cX7_holdOf 15 = .ok (.iadd, 1) := by decide +kernel
theorem dX7_holdOf_16 : decode cX7_holdOf 16 = .ok (.ireturn, 1) := by decide +kernel
theorem dX7_allHats_0 : decode cX7_allHats 0 = .ok (.iconst 0, 1) := by decide +kernel
theorem dX7_allHats_1 : decode cX7_allHats 1 = .ok (.istore_n 1, 1) := by decide +kernel
theorem dX7_allHats_2 : decode cX7_allHats 2 = .ok (.iconst 0, 1) := by decide +kernel
theorem dX7_allHats_3 : decode cX7_allHats 3 = .ok (.istore_n 2, 1) := by decide +kernel
theorem dX7_allHats_4 : decode cX7_allHats 4 = .ok (.iload_n 2, 1) := by decide +kernel
theorem dX7_allHats_5 : decode cX7_allHats 5 = .ok (.aload_n 0, 1) := by decide +kernel
theorem dX7_allHats_6 : decode cX7_allHats 6 = .ok (.getfield 9, 3) := by decide +kernel
theorem dX7_allHats_9 : decode cX7_allHats 9 = .ok (.if_icmp .ge 18, 3) := by decide +kernel
theorem dX7_allHats_12 : decode cX7_allHats 12 = .ok (.iload_n 1, 1) := by decide +kernel
theorem dX7_allHats_13 : decode cX7_allHats 13 = .ok (.aload_n 0, 1) := by decide +kernel
theorem dX7_allHats_14 : decode cX7_allHats 14 = .ok (.getfield 28, 3) := by decide +kernel
theorem dX7_allHats_17 : decode cX7_allHats 17 = .ok (.iload_n 2, 1) := by decide +kernel
theorem dX7_allHats_18 : decode cX7_allHats 18 = .ok (.iaload, 1) := by decide +kernel
theorem dX7_allHats_19 : decode cX7_allHats 19 = .ok (.iadd, 1) := by decide +kernel
theorem dX7_allHats_20 : decode cX7_allHats 20 = .ok (.istore_n 1, 1) := by decide +kernel
theorem dX7_allHats_21 : decode cX7_allHats 21 = .ok (.iinc 2 1, 3) := by decide +kernel
theorem dX7_allHats_24 : decode cX7_allHats 24 = .ok (.goto (-20), 3) := by decide +kernel
theorem dX7_allHats_27 : decode cX7_allHats 27 = .ok (.iload_n 1, 1) := by decide +kernel
theorem dX7_allHats_28 : decode cX7_allHats 28 = .ok (.ireturn, 1) := by decide +kernel
theorem dX7_hatless_0 : decode cX7_hatless 0 = .ok (.iconst 0, 1) := by decide +kernel
theorem dX7_hatless_1 : decode cX7_hatless 1 = .ok (.istore_n 1, 1) := by decide +kernel
theorem dX7_hatless_2 : decode cX7_hatless 2 = .ok (.iconst 0, 1) := by decide +kernel
theorem dX7_hatless_3 : decode cX7_hatless 3 = .ok (.istore_n 2, 1) := by decide +kernel
theorem dX7_hatless_4 : decode cX7_hatless 4 = .ok (.iload_n 2, 1) := by decide +kernel
theorem dX7_hatless_5 : decode cX7_hatless 5 = .ok (.aload_n 0, 1) := by decide +kernel
theorem dX7_hatless_6 : decode cX7_hatless 6 = .ok (.getfield 9, 3) := by decide +kernel
theorem dX7_hatless_9 : decode cX7_hatless 9 = .ok (.if_icmp .ge 21, 3) := by decide +kernel
theorem dX7_hatless_12 : decode cX7_hatless 12 = .ok (.aload_n 0, 1) := by decide +kernel
theorem dX7_hatless_13 : decode cX7_hatless 13 = .ok (.getfield 28, 3) := by decide +kernel
theorem dX7_hatless_16 : decode cX7_hatless 16 = .ok (.iload_n 2, 1) := by decide +kernel
theorem dX7_hatless_17 : decode cX7_hatless 17 = .ok (.iaload, 1) := by decide +kernel
theorem dX7_hatless_18 : decode cX7_hatless 18 = .ok (.ifCond .ne 6, 3) := by decide +kernel
theorem dX7_hatless_21 : decode cX7_hatless 21 = .ok (.iinc 1 1, 3) := by decide +kernel
theorem dX7_hatless_24 : decode cX7_hatless 24 = .ok (.iinc 2 1, 3) := by decide +kernel
theorem dX7_hatless_27 : decode cX7_hatless 27 = .ok (.goto (-23), 3) := by decide +kernel
theorem dX7_hatless_30 : decode cX7_hatless 30 = .ok (.iload_n 1, 1) := by decide +kernel
theorem dX7_hatless_31 : decode cX7_hatless 31 = .ok (.ireturn, 1) := by decide +kernel
theorem dX7_addHat_0 : decode cX7_addHat 0 = .ok (.aload_n 0, 1) := by decide +kernel
theorem dX7_addHat_1 : decode cX7_addHat 1 = .ok (.getfield 28, 3) := by decide +kernel
theorem dX7_addHat_4 : decode cX7_addHat 4 = .ok (.aload_n 0, 1) := by decide +kernel
theorem dX7_addHat_5 : decode cX7_addHat 5 = .ok (.getfield 24, 3) := by decide +kernel
theorem dX7_addHat_8 : decode cX7_addHat 8 = .ok (.iload_n 1, 1) := by decide +kernel
theorem dX7_addHat_9 : decode cX7_addHat 9 = .ok (.iaload, 1) := by decide +kernel
theorem dX7_addHat_10 : decode cX7_addHat 10 = .ok (.bipush 99, 2) := by decide +kernel
theorem dX7_addHat_12 : decode cX7_addHat 12 = .ok (.aload_n 0, 1) := by decide +kernel
theorem dX7_addHat_13 : decode cX7_addHat 13 = .ok (.getfield 28, 3) := by decide +kernel
theorem dX7_addHat_16 : decode cX7_addHat 16 = .ok (.aload_n 0, 1) := by decide +kernel
theorem dX7_addHat_17 : decode cX7_addHat 17 = .ok (.getfield 24, 3) := by decide +kernel
theorem dX7_addHat_20 : decode cX7_addHat 20 = .ok (.iload_n 1, 1) := by decide +kernel
theorem dX7_addHat_21 : decode cX7_addHat 21 = .ok (.iaload, 1) := by decide +kernel
theorem dX7_addHat_22 : decode cX7_addHat 22 = .ok (.iaload, 1) := by decide +kernel
theorem dX7_addHat_23 : decode cX7_addHat 23 = .ok (.iconst 1, 1) := by decide +kernel
theorem dX7_addHat_24 : decode cX7_addHat 24 = .ok (.iadd, 1) := by decide +kernel
theorem dX7_addHat_25 : decode cX7_addHat 25 = .ok (.invokestatic 49, 3) := by decide +kernel
theorem dX7_addHat_28 : decode cX7_addHat 28 = .ok (.iastore, 1) := by decide +kernel
theorem dX7_addHat_29 : decode cX7_addHat 29 = .ok (.return_, 1) := by decide +kernel
theorem dX7_giveLeft_0 : decode cX7_giveLeft 0 = .ok (.iconst 0, 1) := by decide +kernel
theorem dX7_giveLeft_1 : decode cX7_giveLeft 1 = .ok (.istore_n 1, 1) := by decide +kernel
theorem dX7_giveLeft_2 : decode cX7_giveLeft 2 = .ok (.iconst 0, 1) := by decide +kernel
theorem dX7_giveLeft_3 : decode cX7_giveLeft 3 = .ok (.istore_n 2, 1) := by decide +kernel
theorem dX7_giveLeft_4 : decode cX7_giveLeft 4 = .ok (.iload_n 2, 1) := by decide +kernel
theorem dX7_giveLeft_5 : decode cX7_giveLeft 5 = .ok (.aload_n 0, 1) := by decide +kernel
theorem dX7_giveLeft_6 : decode cX7_giveLeft 6 = .ok (.getfield 9, 3) := by decide +kernel
theorem dX7_giveLeft_9 : decode cX7_giveLeft 9 = .ok (.if_icmp .ge 45, 3) := by decide +kernel
theorem dX7_giveLeft_12 : decode cX7_giveLeft 12 = .ok (.aload_n 0, 1) := by decide +kernel
theorem dX7_giveLeft_13 : decode cX7_giveLeft 13 = .ok (.getfield 28, 3) := by decide +kernel
theorem dX7_giveLeft_16 : decode cX7_giveLeft 16 = .ok (.aload_n 0, 1) := by decide +kernel
theorem dX7_giveLeft_17 : decode cX7_giveLeft 17 = .ok (.getfield 24, 3) := by decide +kernel
theorem dX7_giveLeft_20 : decode cX7_giveLeft 20 = .ok (.iload_n 2, 1) := by decide +kernel
theorem dX7_giveLeft_21 : decode cX7_giveLeft 21 = .ok (.iaload, 1) := by decide +kernel
theorem dX7_giveLeft_22 : decode cX7_giveLeft 22 = .ok (.iaload, 1) := by decide +kernel
theorem dX7_giveLeft_23 : decode cX7_giveLeft 23 = .ok (.iconst 2, 1) := by decide +kernel
theorem dX7_giveLeft_24 : decode cX7_giveLeft 24 = .ok (.if_icmp .lt 24, 3) := by decide +kernel
theorem dX7_giveLeft_27 : decode cX7_giveLeft 27 = .ok (.iload_n 1, 1) := by decide +kernel
theorem dX7_giveLeft_28 : decode cX7_giveLeft 28 = .ok (.iconst 1, 1) := by decide +kernel
theorem dX7_giveLeft_29 : decode cX7_giveLeft 29 = .ok (.iload_n 2, 1) := by decide +kernel
theorem dX7_giveLeft_30 : decode cX7_giveLeft 30 = .ok (.ishl, 1) := by decide +kernel
theorem dX7_giveLeft_31 : decode cX7_giveLeft 31 = .ok (.ior, 1) := by decide +kernel
theorem dX7_giveLeft_32 : decode cX7_giveLeft 32 = .ok (.istore_n 1, 1) := by decide +kernel
theorem dX7_giveLeft_33 : decode cX7_giveLeft 33 = .ok (.aload_n 0, 1) := by decide +kernel
theorem dX7_giveLeft_34 : decode cX7_giveLeft 34 = .ok (.getfield 28, 3) := by decide +kernel
theorem dX7_giveLeft_37 : decode cX7_giveLeft 37 = .ok (.aload_n 0, 1) := by decide +kernel
theorem dX7_giveLeft_38 : decode cX7_giveLeft 38 = .ok (.getfield 24, 3) := by decide +kernel
theorem dX7_giveLeft_41 : decode cX7_giveLeft 41 = .ok (.iload_n 2, 1) := by decide +kernel
theorem dX7_giveLeft_42 : decode cX7_giveLeft 42 = .ok (.iaload, 1) := by decide +kernel
theorem dX7_giveLeft_43 : decode cX7_giveLeft 43 = .ok (.dup2, 1) := by decide +kernel
theorem dX7_giveLeft_44 : decode cX7_giveLeft 44 = .ok (.iaload, 1) := by decide +kernel
theorem dX7_giveLeft_45 : decode cX7_giveLeft 45 = .ok (.iconst 1, 1) := by decide +kernel
theorem dX7_giveLeft_46 : decode cX7_giveLeft 46 = .ok (.isub, 1) := by decide +kernel
theorem dX7_giveLeft_47 : decode cX7_giveLeft 47 = .ok (.iastore, 1) := by decide +kernel
theorem dX7_giveLeft_48 : decode cX7_giveLeft 48 = .ok (.iinc 2 1, 3) := by decide +kernel
theorem dX7_giveLeft_51 : decode cX7_giveLeft 51 = .ok (.goto (-47), 3) := by decide +kernel
theorem dX7_giveLeft_54 : decode cX7_giveLeft 54 = .ok (.iconst 0, 1) := by decide +kernel
theorem dX7_giveLeft_55 : decode cX7_giveLeft 55 = .ok (.istore_n 2, 1) := by decide +kernel
theorem dX7_giveLeft_56 : decode cX7_giveLeft 56 = .ok (.iload_n 2, 1) := by decide +kernel
theorem dX7_giveLeft_57 : decode cX7_giveLeft 57 = .ok (.aload_n 0, 1) := by decide +kernel
theorem dX7_giveLeft_58 : decode cX7_giveLeft 58 = .ok (.getfield 9, 3) := by decide +kernel
theorem dX7_giveLeft_61 : decode cX7_giveLeft 61 = .ok (.if_icmp .ge 27, 3) := by decide +kernel
theorem dX7_giveLeft_64 : decode cX7_giveLeft 64 = .ok (.iload_n 1, 1) := by decide +kernel
theorem dX7_giveLeft_65 : decode cX7_giveLeft 65 = .ok (.iload_n 2, 1) := by decide +kernel
theorem dX7_giveLeft_66 : decode cX7_giveLeft 66 = .ok (.ishr, 1) := by decide +kernel
theorem dX7_giveLeft_67 : decode cX7_giveLeft 67 = .ok (.iconst 1, 1) := by decide +kernel
theorem dX7_giveLeft_68 : decode cX7_giveLeft 68 = .ok (.iand, 1) := by decide +kernel
theorem dX7_giveLeft_69 : decode cX7_giveLeft 69 = .ok (.iconst 1, 1) := by decide +kernel
theorem dX7_giveLeft_70 : decode cX7_giveLeft 70 = .ok (.if_icmp .ne 12, 3) := by decide +kernel
theorem dX7_giveLeft_73 : decode cX7_giveLeft 73 = .ok (.aload_n 0, 1) := by decide +kernel
theorem dX7_giveLeft_74 : decode cX7_giveLeft 74 = .ok (.aload_n 0, 1) := by decide +kernel
theorem dX7_giveLeft_75 : decode cX7_giveLeft 75 = .ok (.iload_n 2, 1) := by decide +kernel
theorem dX7_giveLeft_76 : decode cX7_giveLeft 76 = .ok (.invokevirtual 55, 3) := by decide +kernel
theorem dX7_giveLeft_79 : decode cX7_giveLeft 79 = .ok (.invokevirtual 59, 3) := by decide +kernel
theorem dX7_giveLeft_82 : decode cX7_giveLeft 82 = .ok (.iinc 2 1, 3) := by decide +kernel
theorem dX7_giveLeft_85 : decode cX7_giveLeft 85 = .ok (.goto (-29), 3) := by decide +kernel
theorem dX7_giveLeft_88 : decode cX7_giveLeft 88 = .ok (.iload_n 1, 1) := by decide +kernel
theorem dX7_giveLeft_89 : decode cX7_giveLeft 89 = .ok (.invokestatic 63, 3) := by decide +kernel
theorem dX7_giveLeft_92 : decode cX7_giveLeft 92 = .ok (.ireturn, 1) := by decide +kernel
theorem dX8_init_0 : decode cX8_init 0 = .ok (.aload_n 0, 1) := by decide +kernel
theorem dX8_init_1 : decode cX8_init 1 = .ok (.invokespecial 3, 3) := by decide +kernel
theorem dX8_init_4 : decode cX8_init 4 = .ok (.aload_n 0, 1) := by decide +kernel
theorem dX8_init_5 : decode cX8_init 5 = .ok (.iconst 0, 1) := by decide +kernel
theorem dX8_init_6 : decode cX8_init 6 = .ok (.putfield 9, 3) := by decide +kernel
theorem dX8_init_9 : decode cX8_init 9 = .ok (.aload_n 0, 1) := by decide +kernel
theorem dX8_init_10 : decode cX8_init 10 = .ok (.aload_n 1, 1) := by decide +kernel
theorem dX8_init_11 : decode cX8_init 11 = .ok (.putfield 15, 3) := by decide +kernel
theorem dX8_init_14 : decode cX8_init 14 = .ok (.return_, 1) := by decide +kernel
theorem dX8_sum_0 : decode cX8_sum 0 = .ok (.aload_n 0, 1) := by decide +kernel
theorem dX8_sum_1 : decode cX8_sum 1 = .ok (.aload_n 1, 1) := by decide +kernel
theorem dX8_sum_2 : decode cX8_sum 2 = .ok (.invokevirtual 19, 3) := by decide +kernel
theorem dX8_sum_5 : decode cX8_sum 5 = .ok (.iconst 0, 1) := by decide +kernel
theorem dX8_sum_6 : decode cX8_sum 6 = .ok (.istore_n 2, 1) := by decide +kernel
theorem dX8_sum_7 : decode cX8_sum 7 = .ok (.iload_n 2, 1) := by decide +kernel
theorem dX8_sum_8 : decode cX8_sum 8 = .ok (.sipush 1600, 3) := by decide +kernel
theorem dX8_sum_11 : decode cX8_sum 11 = .ok (.if_icmp .ge 69, 3) := by decide +kernel
theorem dX8_sum_14 : decode cX8_sum 14 = .ok (.aload_n 0, 1) := by decide +kernel
theorem dX8_sum_15 : decode cX8_sum 15 = .ok (.getfield 15, 3) := by decide +kernel
theorem dX8_sum_18 : decode cX8_sum 18 = .ok (.bipush 43, 2) := by decide +kernel
theorem dX8_sum_20 : decode cX8_sum 20 = .ok (.invokevirtual 23, 3) := by decide +kernel
theorem dX8_sum_23 : decode cX8_sum 23 = .ok (.ifCond .ne 15, 3) := by decide +kernel
theorem dX8_sum_26 : decode cX8_sum 26 = .ok (.aload_n 0, 1) := by decide +kernel
theorem dX8_sum_27 : decode cX8_sum 27 = .ok (.getfield 15, 3) := by decide +kernel
theorem dX8_sum_30 : decode cX8_sum 30 = .ok (.bipush 45, 2) := by decide +kernel
theorem dX8_sum_32 : decode cX8_sum 32 = .ok (.invokevirtual 23, 3) := by decide +kernel
theorem dX8_sum_35 : decode cX8_sum 35 = .ok (.ifCond .eq 45, 3) := by decide +kernel
theorem dX8_sum_38 : decode cX8_sum 38 = .ok (.aload_n 0, 1) := by decide +kernel
theorem dX8_sum_39 : decode cX8_sum 39 = .ok (.getfield 15, 3) := by decide +kernel
theorem dX8_sum_42 : decode cX8_sum 42 = .ok (.bipush 43, 2) := by decide +kernel
theorem dX8_sum_44 : decode cX8_sum 44 = .ok (.invokevirtual 23, 3) := by decide +kernel
theorem dX8_sum_47 : decode cX8_sum 47 = .ok (.ifCond .eq 7, 3) := by decide +kernel
theorem dX8_sum_50 : decode cX8_sum 50 = .ok (.iconst 4, 1) := by decide +kernel
theorem dX8_sum_51 : decode cX8_sum 51 = .ok (.goto 4, 3) := by decide +kernel
theorem dX8_sum_54 : decode cX8_sum 54 = .ok (.iconst 5, 1) := by decide +kernel
theorem dX8_sum_55 : decode cX8_sum 55 = .ok (.istore_n 3, 1) := by decide +kernel
theorem dX8_sum_56 : decode cX8_sum 56 = .ok (.aload_n 0, 1) := by decide +kernel
theorem dX8_sum_57 : decode cX8_sum 57 = .ok (.getfield 15, 3) := by decide +kernel
theorem dX8_sum_60 : decode cX8_sum 60 = .ok (.invokevirtual 29, 3) := by decide +kernel
theorem dX8_sum_63 : decode cX8_sum 63 = .ok (.aload_n 0, 1) := by decide +kernel
theorem dX8_sum_64 : decode cX8_sum 64 = .ok (.aload_n 1, 1) := by decide +kernel
theorem dX8_sum_65 : decode cX8_sum 65 = .ok (.invokevirtual 19, 3) := by decide +kernel
theorem dX8_sum_68 : decode cX8_sum 68 = .ok (.aload_n 1, 1) := by decide +kernel
theorem dX8_sum_69 : decode cX8_sum 69 = .ok (.iload_n 3, 1) := by decide +kernel
theorem dX8_sum_70 : decode cX8_sum 70 = .ok (.iconst 0, 1) := by decide +kernel
theorem dX8_sum_71 : decode cX8_sum 71 = .ok (.invokevirtual 32, 3) := by decide +kernel
theorem dX8_sum_74 : decode cX8_sum 74 = .ok (.iinc 2 1, 3) := by decide +kernel
theorem dX8_sum_77 : decode cX8_sum 77 = .ok (.goto (-70), 3) := by decide +kernel
theorem dX8_sum_80 : decode cX8_sum 80 = .ok (.return_, 1) := by decide +kernel
theorem dX8_product_0 : decode cX8_product 0 = .ok (.aload_n 0, 1) := by decide +kernel
theorem dX8_product_1 : decode cX8_product 1 = .ok (.aload_n 1, 1) := by decide +kernel
theorem dX8_product_2 : decode cX8_product 2 = .ok (.invokevirtual 38, 3) := by decide +kernel
theorem dX8_product_5 : decode cX8_product 5 = .ok (.iconst 0, 1) := by decide +kernel
theorem dX8_product_6 : decode cX8_product 6 = .ok (.istore_n 2, 1) := by decide +kernel
theorem dX8_product_7 : decode cX8_product 7 = .ok (.iload_n 2, 1) := by decide +kernel
theorem dX8_product_8 : decode cX8_product 8 = .ok (.sipush 1600, 3) := by decide +kernel
theorem dX8_product_11 : decode cX8_product 11 = .ok (.if_icmp .ge 71, 3) := by decide +kernel
theorem dX8_product_14 : decode cX8_product 14 = .ok (.aload_n 0, 1) := by decide +kernel
theorem dX8_product_15 : decode cX8_product 15 = .ok (.getfield 15, 3) := by decide +kernel
theorem dX8_product_18 : decode cX8_product 18 = .ok (.bipush 42, 2) := by decide +kernel
theorem dX8_product_20 : decode cX8_product 20 = .ok (.invokevirtual 23, 3) := by decide +kernel
theorem dX8_product_23 : decode cX8_product 23 = .ok (.ifCond .ne 15, 3) := by decide +kernel
theorem dX8_product_26 : decode cX8_product 26 = .ok (.aload_n 0, 1) := by decide +kernel
theorem dX8_product_27 : decode cX8_product 27 = .ok (.getfield 15, 3) := by decide +kernel
theorem dX8_product_30 : decode cX8_product 30 = .ok (.bipush 47, 2) := by decide +kernel
theorem dX8_product_32 : decode cX8_product 32 = .ok (.invokevirtual 23, 3) := by decide +kernel
theorem dX8_product_35 : decode cX8_product 35 = .ok (.ifCond .eq 47, 3) := by decide +kernel
theorem dX8_product_38 : decode cX8_product 38 = .ok (.aload_n 0, 1) := by decide +kernel
theorem dX8_product_39 : decode cX8_product 39 = .ok (.getfield 15, 3) := by decide +kernel
theorem dX8_product_42 : decode cX8_product 42 = .ok (.bipush 42, 2) := by decide +kernel
theorem dX8_product_44 : decode cX8_product 44 = .ok (.invokevirtual 23, 3) := by decide +kernel
theorem dX8_product_47 : decode cX8_product 47 = .ok (.ifCond .eq 8, 3) := by decide +kernel
theorem dX8_product_50 : decode cX8_product 50 = .ok (.bipush 6, 2) := by decide +kernel
theorem dX8_product_52 : decode cX8_product 52 = .ok (.goto 5, 3) := by decide +kernel
theorem dX8_product_55 : decode cX8_product 55 = .ok (.bipush 7, 2) := by decide +kernel
theorem dX8_product_57 : decode cX8_product 57 = .ok (.istore_n 3, 1) := by decide +kernel
theorem dX8_product_58 : decode cX8_product 58 = .ok (.aload_n 0, 1) := by decide +kernel
theorem dX8_product_59 : decode cX8_product 59 = .ok (.getfield 15, 3) := by decide +kernel
theorem dX8_product_62 : decode cX8_product 62 = .ok (.invokevirtual 29, 3) := by decide +kernel
theorem dX8_product_65 : decode cX8_product 65 = .ok (.aload_n 0, 1) := by decide +kernel
theorem dX8_product_66 : decode cX8_product 66 = .ok (.aload_n 1, 1) := by decide +kernel
theorem dX8_product_67 : decode cX8_product 67 = .ok (.invokevirtual 38, 3) := by decide +kernel
theorem dX8_product_70 : decode cX8_product 70 = .ok (.aload_n 1, 1) := by decide +kernel
theorem dX8_product_71 : decode cX8_product 71 = .ok (.iload_n 3, 1) := by decide +kernel
theorem dX8_product_72 : decode cX8_product 72 = .ok (.iconst 0, 1) := by decide +kernel
theorem dX8_product_73 : decode cX8_product 73 = .ok (.invokevirtual 32, 3) := by decide +kernel
theorem dX8_product_76 : decode cX8_product 76 = .ok (.iinc 2 1, 3) := by decide +kernel
theorem dX8_product_79 : decode cX8_product 79 = .ok (.goto (-72), 3) := by decide +kernel
theorem dX8_product_82 : decode cX8_product 82 = .ok (.return_, 1) := by decide +kernel
theorem dX8_part_0 : decode cX8_part 0 = .ok (.aload_n 0, 1) := by decide +kernel
theorem dX8_part_1 : decode cX8_part 1 = .ok (.aload_n 0, 1) := by decide +kernel
theorem dX8_part_2 : decode cX8_part 2 = .ok (.getfield 15, 3) := by decide +kernel
theorem dX8_part_5 : decode cX8_part 5 = .ok (.invokevirtual 41, 3) := by decide +kernel
theorem dX8_part_8 : decode cX8_part 8 = .ok (.invokevirtual 45, 3) := by decide +kernel
theorem dX8_part_11 : decode cX8_part 11 = .ok (.istore_n 2, 1) := by decide +kernel
theorem dX8_part_12 : decode cX8_part 12 = .ok (.aload_n 0, 1) := by decide +kernel
theorem dX8_part_13 : decode cX8_part 13 = .ok (.getfield 15, 3) := by decide +kernel
theorem dX8_part_16 : decode cX8_part 16 = .ok (.invokevirtual 49, 3) := by decide +kernel
theorem dX8_part_19 : decode cX8_part 19 = .ok (.ifCond .eq 21, 3) := by decide +kernel
theorem dX8_part_22 : decode cX8_part 22 = .ok (.aload_n 1, 1) := by decide +kernel
theorem dX8_part_23 : decode cX8_part 23 = .ok (.iconst 0, 1) := by decide +kernel
theorem dX8_part_24 : decode cX8_part 24 = .ok (.aload_n 0, 1) := by decide +kernel
theorem dX8_part_25 : decode cX8_part 25 = .ok (.getfield 15, 3) := by decide +kernel
theorem dX8_part_28 : decode cX8_part 28 = .ok (.sipush 9999, 3) := by decide +kernel
theorem dX8_part_31 : decode cX8_part 31 = .ok (.invokevirtual 53, 3) := by decide +kernel
theorem dX8_part_34 : decode cX8_part 34 = .ok (.invokevirtual 32, 3) := by decide +kernel
theorem dX8_part_37 : decode cX8_part 37 = .ok (.goto 152, 3) := by decide +kernel
theorem dX8_part_40 : decode cX8_part 40 = .ok (.iload_n 2, 1) := by decide +kernel
theorem dX8_part_41 : decode cX8_part 41 = .ok (.iconst (-1), 1) := by decide +kernel
theorem dX8_part_42 : decode cX8_part 42 = .ok (.if_icmp .eq 19, 3) := by decide +kernel
theorem dX8_part_45 : decode cX8_part 45 = .ok (.aload_n 0, 1) := by decide +kernel
theorem dX8_part_46 : decode cX8_part 46 = .ok (.getfield 15, 3) := by decide +kernel
theorem dX8_part_49 : decode cX8_part 49 = .ok (.invokevirtual 29, 3) := by decide +kernel
theorem dX8_part_52 : decode cX8_part 52 = .ok (.aload_n 1, 1) := by decide +kernel
theorem dX8_part_53 : decode cX8_part 53 = .ok (.iconst 1, 1) := by decide +kernel
theorem dX8_part_54 : decode cX8_part 54 = .ok (.iload_n 2, 1) := by decide +kernel
theorem dX8_part_55 : decode cX8_part 55 = .ok (.invokevirtual 32, 3) := by decide +kernel
theorem dX8_part_58 : decode cX8_part 58 = .ok (.goto 131, 3) := by decide +kernel
theorem dX8_part_61 : decode cX8_part 61 = .ok (.aload_n 0, 1) := by decide +kernel
theorem dX8_part_62 : decode cX8_part 62 = .ok (.getfield 15, 3) := by decide +kernel
theorem dX8_part_65 : decode cX8_part 65 = .ok (.bipush 40, 2) := by decide +kernel
theorem dX8_part_67 : decode cX8_part 67 = .ok (.invokevirtual 23, 3) := by decide +kernel
theorem dX8_part_70 : decode cX8_part 70 = .ok (.ifCond .eq 34, 3) := by decide +kernel
theorem dX8_part_73 : decode cX8_part 73 = .ok (.aload_n 0, 1) := by decide +kernel
theorem dX8_part_74 : decode cX8_part 74 = .ok (.getfield 15, 3) := by decide +kernel
theorem dX8_part_77 : decode cX8_part 77 = .ok (.invokevirtual 56, 3) := by decide +kernel
theorem dX8_part_80 : decode cX8_part 80 = .ok (.aload_n 0, 1) := by decide +kernel
theorem dX8_part_81 : decode cX8_part 81 = .ok (.aload_n 1, 1) := by decide +kernel
theorem dX8_part_82 : decode cX8_part 82 = .ok (.invokevirtual 59, 3) := by decide +kernel
theorem dX8_part_85 : decode cX8_part 85 = .ok (.aload_n 0, 1) := by decide +kernel
theorem dX8_part_86 : decode cX8_part 86 = .ok (.getfield 15, 3) := by decide +kernel
theorem dX8_part_89 : decode cX8_part 89 = .ok (.bipush 41, 2) := by decide +kernel
theorem dX8_part_91 : decode cX8_part 91 = .ok (.invokevirtual 62, 3) := by decide +kernel
theorem dX8_part_94 : decode cX8_part 94 = .ok (.aload_n 0, 1) := by decide +kernel
theorem dX8_part_95 : decode cX8_part 95 = .ok (.getfield 15, 3) := by decide +kernel
theorem dX8_part_98 : decode cX8_part 98 = .ok (.invokevirtual 66, 3) := by decide +kernel
theorem dX8_part_101 : decode cX8_part 101 = .ok (.goto 88, 3) := by decide +kernel
theorem dX8_part_104 : decode cX8_part 104 = .ok (.aload_n 0, 1) := by decide +kernel
theorem dX8_part_105 : decode cX8_part 105 = .ok (.getfield 15, 3) := by decide +kernel
theorem dX8_part_108 : decode cX8_part 108 = .ok (.bipush 22, 2) := by decide +kernel
theorem dX8_part_110 : decode cX8_part 110 = .ok (.invokevirtual 69, 3) := by decide +kernel
theorem dX8_part_113 : decode cX8_part 113 = .ok (.ifCond .ne 15, 3) := by decide +kernel
theorem dX8_part_116 : decode cX8_part 116 = .ok (.aload_n 0, 1) := by decide +kernel
theorem dX8_part_117 : decode cX8_part 117 = .ok (.getfield 15, 3) := by decide +kernel
theorem dX8_part_120 : decode cX8_part 120 = .ok (.bipush 23, 2) := by decide +kernel
theorem dX8_part_122 : decode cX8_part 122 = .ok (.invokevirtual 69, 3) := by decide +kernel
theorem dX8_part_125 : decode cX8_part 125 = .ok (.ifCond .eq 30, 3) := by decide +kernel
theorem dX8_part_128 : decode cX8_part 128 = .ok (.aload_n 0, 1) := by decide +kernel
theorem dX8_part_129 : decode cX8_part 129 = .ok (.aload_n 1, 1) := by decide +kernel
theorem dX8_part_130 : decode cX8_part 130 = .ok (.aload_n 0, 1) := by decide +kernel
theorem dX8_part_131 : decode cX8_part 131 = .ok (.getfield 15, 3) := by decide +kernel
theorem dX8_part_134 : decode cX8_part 134 = .ok (.bipush 22, 2) := by decide +kernel
theorem dX8_part_136 : decode cX8_part 136 = .ok (.invokevirtual 69, 3) := by decide +kernel
theorem dX8_part_139 : decode cX8_part 139 = .ok (.ifCond .eq 8, 3) := by decide +kernel
theorem dX8_part_142 : decode cX8_part 142 = .ok (.bipush 8, 2) := by decide +kernel
theorem dX8_part_144 : decode cX8_part 144 = .ok (.goto 5, 3) := by decide +kernel
theorem dX8_part_147 : decode cX8_part 147 = .ok (.bipush 9, 2) := by decide +kernel
theorem dX8_part_149 : decode cX8_part 149 = .ok (.invokevirtual 72, 3) := by decide +kernel
theorem dX8_part_152 : decode cX8_part 152 = .ok (.goto 37, 3) := by decide +kernel
theorem dX8_part_155 : decode cX8_part 155 = .ok (.aload_n 0, 1) := by decide +kernel
theorem dX8_part_156 : decode cX8_part 156 = .ok (.getfield 9, 3) := by decide +kernel
theorem dX8_part_159 : decode cX8_part 159 = .ok (.ifCond .eq 23, 3) := by decide +kernel
theorem dX8_part_162 : decode cX8_part 162 = .ok (.aload_n 0, 1) := by decide +kernel
theorem dX8_part_163 : decode cX8_part 163 = .ok (.getfield 15, 3) := by decide +kernel
theorem dX8_part_166 : decode cX8_part 166 = .ok (.bipush 17, 2) := by decide +kernel
theorem dX8_part_168 : decode cX8_part 168 = .ok (.invokevirtual 69, 3) := by decide +kernel
theorem dX8_part_171 : decode cX8_part 171 = .ok (.ifCond .eq 11, 3) := by decide +kernel
theorem dX8_part_174 : decode cX8_part 174 = .ok (.aload_n 0, 1) := by decide +kernel
theorem dX8_part_175 : decode cX8_part 175 = .ok (.aload_n 1, 1) := by decide +kernel
theorem dX8_part_176 : decode cX8_part 176 = .ok (.invokevirtual 76, 3) := by decide +kernel
theorem dX8_part_179 : decode cX8_part 179 = .ok (.goto 10, 3) := by decide +kernel
theorem dX8_part_182 : decode cX8_part 182 = .ok (.aload_n 0, 1) := by decide +kernel
theorem dX8_part_183 : decode cX8_part 183 = .ok (.getfield 15, 3) := by decide +kernel
theorem dX8_part_186 : decode cX8_part 186 = .ok (.invokevirtual 79, 3) := by decide +kernel
theorem dX8_part_189 : decode cX8_part 189 = .ok (.return_, 1) := by decide +kernel
theorem dX8_wins_0 : decode cX8_wins 0 = .ok (.aload_n 0, 1) := by decide +kernel
theorem dX8_wins_1 : decode cX8_wins 1 = .ok (.getfield 15, 3) := by decide +kernel
theorem dX8_wins_4 : decode cX8_wins 4 = .ok (.invokevirtual 56, 3) := by decide +kernel
theorem dX8_wins_7 : decode cX8_wins 7 = .ok (.aload_n 0, 1) := by decide +kernel
theorem dX8_wins_8 : decode cX8_wins 8 = .ok (.aload_n 1, 1) := by decide +kernel
theorem dX8_wins_9 : decode cX8_wins 9 = .ok (.invokevirtual 38, 3) := by decide +kernel
theorem dX8_wins_12 : decode cX8_wins 12 = .ok (.aload_n 0, 1) := by decide +kernel
theorem dX8_wins_13 : decode cX8_wins 13 = .ok (.getfield 15, 3) := by decide +kernel
theorem dX8_wins_16 : decode cX8_wins 16 = .ok (.invokevirtual 66, 3) := by decide +kernel
theorem dX8_wins_19 : decode cX8_wins 19 = .ok (.aload_n 1, 1) := by decide +kernel
theorem dX8_wins_20 : decode cX8_wins 20 = .ok (.iconst 3, 1) := by decide +kernel
theorem dX8_wins_21 : decode cX8_wins 21 = .ok (.iconst 0, 1) := by decide +kernel
theorem dX8_wins_22 : decode cX8_wins 22 = .ok (.invokevirtual 32, 3) := by decide +kernel
theorem dX8_wins_25 : decode cX8_wins 25 = .ok (.return_, 1) := by decide +kernel
theorem dX8_ofTwo_0 : decode cX8_ofTwo 0 = .ok (.aload_n 0, 1) := by decide +kernel
theorem dX8_ofTwo_1 : decode cX8_ofTwo 1 = .ok (.getfield 15, 3) := by decide +kernel
theorem dX8_ofTwo_4 : decode cX8_ofTwo 4 = .ok (.invokevirtual 29, 3) := by decide +kernel
theorem dX8_ofTwo_7 : decode cX8_ofTwo 7 = .ok (.aload_n 0, 1) := by decide +kernel
theorem dX8_ofTwo_8 : decode cX8_ofTwo 8 = .ok (.getfield 15, 3) := by decide +kernel
theorem dX8_ofTwo_11 : decode cX8_ofTwo 11 = .ok (.bipush 40, 2) := by decide +kernel
theorem dX8_ofTwo_13 : decode cX8_ofTwo 13 = .ok (.invokevirtual 23, 3) := by decide +kernel
theorem dX8_ofTwo_16 : decode cX8_ofTwo 16 = .ok (.ifCond .ne 11, 3) := by decide +kernel
theorem dX8_ofTwo_19 : decode cX8_ofTwo 19 = .ok (.aload_n 0, 1) := by decide +kernel
theorem dX8_ofTwo_20 : decode cX8_ofTwo 20 = .ok (.getfield 15, 3) := by decide +kernel
theorem dX8_ofTwo_23 : decode cX8_ofTwo 23 = .ok (.invokevirtual 79, 3) := by decide +kernel
theorem dX8_ofTwo_26 : decode cX8_ofTwo 26 = .ok (.return_, 1) := by decide +kernel
theorem dX8_ofTwo_27 : decode cX8_ofTwo 27 = .ok (.aload_n 0, 1) := by decide +kernel
theorem dX8_ofTwo_28 : decode cX8_ofTwo 28 = .ok (.getfield 15, 3) := by decide +kernel
theorem dX8_ofTwo_31 : decode cX8_ofTwo 31 = .ok (.invokevirtual 56, 3) := by decide +kernel
theorem dX8_ofTwo_34 : decode cX8_ofTwo 34 = .ok (.aload_n 0, 1) := by decide +kernel
theorem dX8_ofTwo_35 : decode cX8_ofTwo 35 = .ok (.aload_n 1, 1) := by decide +kernel
theorem dX8_ofTwo_36 : decode cX8_ofTwo 36 = .ok (.invokevirtual 59, 3) := by decide +kernel
theorem dX8_ofTwo_39 : decode cX8_ofTwo 39 = .ok (.aload_n 0, 1) := by decide +kernel
theorem dX8_ofTwo_40 : decode cX8_ofTwo 40 = .ok (.getfield 15, 3) := by decide +kernel
theorem dX8_ofTwo_43 : decode cX8_ofTwo 43 = .ok (.bipush 44, 2) := by decide +kernel
theorem dX8_ofTwo_45 : decode cX8_ofTwo 45 = .ok (.invokevirtual 62, 3) := by decide +kernel
theorem dX8_ofTwo_48 : decode cX8_ofTwo 48 = .ok (.aload_n 0, 1) := by decide +kernel
theorem dX8_ofTwo_49 : decode cX8_ofTwo 49 = .ok (.aload_n 1, 1) := by decide +kernel
theorem dX8_ofTwo_50 : decode cX8_ofTwo 50 = .ok (.invokevirtual 59, 3) := by decide +kernel
theorem dX8_ofTwo_53 : decode cX8_ofTwo 53 = .ok (.aload_n 0, 1) := by decide +kernel
theorem dX8_ofTwo_54 : decode cX8_ofTwo 54 = .ok (.getfield 15, 3) := by decide +kernel
theorem dX8_ofTwo_57 : decode cX8_ofTwo 57 = .ok (.bipush 41, 2) := by decide +kernel
theorem dX8_ofTwo_59 : decode cX8_ofTwo 59 = .ok (.invokevirtual 62, 3) := by decide +kernel
theorem dX8_ofTwo_62 : decode cX8_ofTwo 62 = .ok (.aload_n 0, 1) := by decide +kernel
theorem dX8_ofTwo_63 : decode cX8_ofTwo 63 = .ok (.getfield 15, 3) := by decide +kernel
theorem dX8_ofTwo_66 : decode cX8_ofTwo 66 = .ok (.invokevirtual 66, 3) := by decide +kernel
theorem dX8_ofTwo_69 : decode cX8_ofTwo 69 = .ok (.aload_n 1, 1) := by decide +kernel
theorem dX8_ofTwo_70 : decode cX8_ofTwo 70 = .ok (.iload_n 2, 1) := by decide +kernel
theorem dX8_ofTwo_71 : decode cX8_ofTwo 71 = .ok (.iconst 0, 1) := by decide +kernel
theorem dX8_ofTwo_72 : decode cX8_ofTwo 72 = .ok (.invokevirtual 32, 3) := by decide +kernel
theorem dX8_ofTwo_75 : decode cX8_ofTwo 75 = .ok (.return_, 1) := by decide +kernel
theorem dX8_factOf_0 : decode cX8_factOf 0 = .ok (.aload_n 0, 1) := by decide +kernel
theorem dX8_factOf_1 : decode cX8_factOf 1 = .ok (.getfield 9, 3) := by decide +kernel
theorem dX8_factOf_4 : decode cX8_factOf 4 = .ok (.ifCond .eq 10, 3) := by decide +kernel
theorem dX8_factOf_7 : decode cX8_factOf 7 = .ok (.iload_n 1, 1) := by decide +kernel
theorem dX8_factOf_8 : decode cX8_factOf 8 = .ok (.invokestatic 82, 3) := by decide +kernel
theorem dX8_factOf_11 : decode cX8_factOf 11 = .ok (.goto 7, 3) := by decide +kernel
theorem dX8_factOf_14 : decode cX8_factOf 14 = .ok (.iload_n 1, 1) := by decide +kernel
theorem dX8_factOf_15 : decode cX8_factOf 15 = .ok (.invokestatic 85, 3) := by decide +kernel
theorem dX8_factOf_18 : decode cX8_factOf 18 = .ok (.ireturn, 1) := by decide +kernel
theorem dX8_factOfHand_0 : decode cX8_factOfHand 0 = .ok (.iload_n 0, 1) := by decide +kernel
theorem dX8_factOfHand_1 : decode cX8_factOfHand 1 = .ok (.tableswitch 75 4 15 #[69, 71, 73, 75, 75, 75, 75, 75, 75, 63, 65, 67], 63) := by decide +kernel
theorem dX8_factOfHand_64 : decode cX8_factOfHand 64 = .ok (.iconst 0, 1) := by decide +kernel
theorem dX8_factOfHand_65 : decode cX8_factOfHand 65 = .ok (.ireturn, 1) := by decide +kernel
theorem dX8_factOfHand_66 : decode cX8_factOfHand 66 = .ok (.iconst 1, 1) := by decide +kernel
theorem dX8_factOfHand_67 : decode cX8_factOfHand 67 = .ok (.ireturn, 1) := by decide +kernel
theorem dX8_factOfHand_68 : decode cX8_factOfHand 68 = .ok (.iconst 2, 1) := by decide +kernel
theorem dX8_factOfHand_69 : decode cX8_factOfHand 69 = .ok (.ireturn, 1) := by decide +kernel
theorem dX8_factOfHand_70 : decode cX8_factOfHand 70 = .ok (.iconst 3, 1) := by decide +kernel
theorem dX8_factOfHand_71 : decode cX8_factOfHand 71 = .ok (.ireturn, 1) := by decide +kernel
theorem dX8_factOfHand_72 : decode cX8_factOfHand 72 = .ok (.iconst 4, 1) := by decide +kernel
theorem dX8_factOfHand_73 : decode cX8_factOfHand 73 = .ok (.ireturn, 1) := by decide +kernel
theorem dX8_factOfHand_74 : decode cX8_factOfHand 74 = .ok (.iconst 5, 1) := by decide +kernel
theorem dX8_factOfHand_75 : decode cX8_factOfHand 75 = .ok (.ireturn, 1) := by decide +kernel
theorem dX8_factOfHand_76 : decode cX8_factOfHand 76 = .ok (.iconst (-1), 1) := by decide +kernel
theorem dX8_factOfHand_77 : decode cX8_factOfHand 77 = .ok (.ireturn, 1) := by decide +kernel
theorem dX8_factOfPerson_0 : decode cX8_factOfPerson 0 = .ok (.iload_n 0, 1) := by decide +kernel
theorem dX8_factOfPerson_1 : decode cX8_factOfPerson 1 = .ok (.lookupswitch 61 #[(1, 53), (2, 55), (6, 59), (9, 57), (16, 51)], 51) := by decide +kernel
theorem dX8_factOfPerson_52 : decode cX8_factOfPerson 52 = .ok (.iconst 0, 1) := by decide +kernel
theorem dX8_factOfPerson_53 : decode cX8_factOfPerson 53 = .ok (.ireturn, 1) := by decide +kernel
theorem dX8_factOfPerson_54 : decode cX8_factOfPerson 54 = .ok (.iconst 1, 1) := by decide +kernel
theorem dX8_factOfPerson_55 : decode cX8_factOfPerson 55 = .ok (.ireturn, 1) := by decide +kernel
theorem dX8_factOfPerson_56 : decode cX8_factOfPerson 56 = .ok (.iconst 2, 1) := by decide +kernel
theorem dX8_factOfPerson_57 : decode cX8_factOfPerson 57 = .ok (.ireturn, 1) := by decide +kernel
theorem dX8_factOfPerson_58 : decode cX8_factOfPerson 58 = .ok (.iconst 3, 1) := by decide +kernel
theorem dX8_factOfPerson_59 : decode cX8_factOfPerson 59 = .ok (.ireturn, 1) := by decide +kernel
theorem dX8_factOfPerson_60 : decode cX8_factOfPerson 60 = .ok (.iconst 4, 1) := by decide +kernel
theorem dX8_factOfPerson_61 : decode cX8_factOfPerson 61 = .ok (.ireturn, 1) := by decide +kernel
theorem dX8_factOfPerson_62 : decode cX8_factOfPerson 62 = .ok (.iconst (-1), 1) := by decide +kernel
theorem dX8_factOfPerson_63 : decode cX8_factOfPerson 63 = .ok (.ireturn, 1) := by decide +kernel
theorem dX9_init_0 : decode cX9_init 0 = .ok (.aload_n 0, 1) := by decide +kernel
theorem dX9_init_1 : decode cX9_init 1 = .ok (.invokespecial 3, 3) := by decide +kernel
theorem dX9_init_4 : decode cX9_init 4 = .ok (.aload_n 0, 1) := by decide +kernel
theorem dX9_init_5 : decode cX9_init 5 = .ok (.iconst 0, 1) := by decide +kernel
theorem dX9_init_6 : decode cX9_init 6 = .ok (.putfield 9, 3) := by decide +kernel
theorem dX9_init_9 : decode cX9_init 9 = .ok (.aload_n 0, 1) := by decide +kernel
theorem dX9_init_10 : decode cX9_init 10 = .ok (.iconst 0, 1) := by decide +kernel
theorem dX9_init_11 : decode cX9_init 11 = .ok (.putfield 15, 3) := by decide +kernel
theorem dX9_init_14 : decode cX9_init 14 = .ok (.aload_n 0, 1) := by decide +kernel
theorem dX9_init_15 : decode cX9_init 15 = .ok (.bipush 8, 2) := by decide +kernel
theorem dX9_init_17 : decode cX9_init 17 = .ok (.newarray .int, 2) := by decide +kernel
theorem dX9_init_19 : decode cX9_init 19 = .ok (.putfield 18, 3) := by decide +kernel
theorem dX9_init_22 : decode cX9_init 22 = .ok (.aload_n 0, 1) := by decide +kernel
theorem dX9_init_23 : decode cX9_init 23 = .ok (.bipush 16, 2) := by decide +kernel
theorem dX9_init_25 : decode cX9_init 25 = .ok (.newarray .int, 2) := by decide +kernel
theorem dX9_init_27 : decode cX9_init 27 = .ok (.putfield 22, 3) := by decide +kernel
theorem dX9_init_30 : decode cX9_init 30 = .ok (.aload_n 0, 1) := by decide +kernel
theorem dX9_init_31 : decode cX9_init 31 = .ok (.bipush 16, 2) := by decide +kernel
theorem dX9_init_33 : decode cX9_init 33 = .ok (.newarray .int, 2) := by decide +kernel
theorem dX9_init_35 : decode cX9_init 35 = .ok (.putfield 25, 3) := by decide +kernel
theorem dX9_init_38 : decode cX9_init 38 = .ok (.aload_n 0, 1) := by decide +kernel
theorem dX9_init_39 : decode cX9_init 39 = .ok (.bipush 16, 2) := by decide +kernel
theorem dX9_init_41 : decode cX9_init 41 = .ok (.newarray .int, 2) := by decide +kernel
theorem dX9_init_43 : decode cX9_init 43 = .ok (.putfield 28, 3) := by decide +kernel
theorem dX9_init_46 : decode cX9_init 46 = .ok (.aload_n 0, 1) := by decide +kernel
theorem dX9_init_47 : decode cX9_init 47 = .ok (.bipush 8, 2) := by decide +kernel
theorem dX9_init_49 : decode cX9_init 49 = .ok (.newarray .int, 2) := by decide +kernel
theorem dX9_init_51 : decode cX9_init 51 = .ok (.putfield 31, 3) := by decide +kernel
theorem dX9_init_54 : decode cX9_init 54 = .ok (.aload_n 0, 1) := by decide +kernel
theorem dX9_init_55 : decode cX9_init 55 = .ok (.iconst 0, 1) := by decide +kernel
theorem dX9_init_56 : decode cX9_init 56 = .ok (.putfield 34, 3) := by decide +kernel
theorem dX9_init_59 : decode cX9_init 59 = .ok (.aload_n 0, 1) := by decide +kernel
theorem dX9_init_60 : decode cX9_init 60 = .ok (.iconst 4, 1) := by decide +kernel
theorem dX9_init_61 : decode cX9_init 61 = .ok (.newarray .int, 2) := by decide +kernel
theorem dX9_init_63 : decode cX9_init 63 = .ok (.putfield 37, 3) := by decide +kernel
theorem dX9_init_66 : decode cX9_init 66 = .ok (.aload_n 0, 1) := by decide +kernel
theorem dX9_init_67 : decode cX9_init 67 = .ok (.iconst 4, 1) := by decide +kernel
theorem dX9_init_68 : decode cX9_init 68 = .ok (.newarray .int, 2) := by decide +kernel
theorem dX9_init_70 : decode cX9_init 70 = .ok (.putfield 40, 3) := by decide +kernel
theorem dX9_init_73 : decode cX9_init 73 = .ok (.aload_n 0, 1) := by decide +kernel
theorem dX9_init_74 : decode cX9_init 74 = .ok (.bipush 100, 2) := by decide +kernel
theorem dX9_init_76 : decode cX9_init 76 = .ok (.putfield 43, 3) := by decide +kernel
theorem dX9_init_79 : decode cX9_init 79 = .ok (.aload_n 0, 1) := by decide +kernel
theorem dX9_init_80 : decode cX9_init 80 = .ok (.iconst 0, 1) := by decide +kernel
theorem dX9_init_81 : decode cX9_init 81 = .ok (.putfield 46, 3) := by decide +kernel
theorem dX9_init_84 : decode cX9_init 84 = .ok (.aload_n 0, 1) := by decide +kernel
theorem dX9_init_85 : decode cX9_init 85 = .ok (.iconst 0, 1) := by decide +kernel
theorem dX9_init_86 : decode cX9_init 86 = .ok (.putfield 50, 3) := by decide +kernel
theorem dX9_init_89 : decode cX9_init 89 = .ok (.aload_n 0, 1) := by decide +kernel
theorem dX9_init_90 : decode cX9_init 90 = .ok (.new 53, 3) := by decide +kernel
theorem dX9_init_93 : decode cX9_init 93 = .ok (.dup, 1) := by decide +kernel
theorem dX9_init_94 : decode cX9_init 94 = .ok (.invokespecial 55, 3) := by decide +kernel
theorem dX9_init_97 : decode cX9_init 97 = .ok (.putfield 56, 3) := by decide +kernel
theorem dX9_init_100 : decode cX9_init 100 = .ok (.aload_n 0, 1) := by decide +kernel
theorem dX9_init_101 : decode cX9_init 101 = .ok (.new 53, 3) := by decide +kernel
theorem dX9_init_104 : decode cX9_init 104 = .ok (.dup, 1) := by decide +kernel
theorem dX9_init_105 : decode cX9_init 105 = .ok (.invokespecial 55, 3) := by decide +kernel
theorem dX9_init_108 : decode cX9_init 108 = .ok (.putfield 60, 3) := by decide +kernel
theorem dX9_init_111 : decode cX9_init 111 = .ok (.return_, 1) := by decide +kernel
theorem dX9_clear_0 : decode cX9_clear 0 = .ok (.aload_n 0, 1) := by decide +kernel
theorem dX9_clear_1 : decode cX9_clear 1 = .ok (.iconst 0, 1) := by decide +kernel
theorem dX9_clear_2 : decode cX9_clear 2 = .ok (.putfield 9, 3) := by decide +kernel
theorem dX9_clear_5 : decode cX9_clear 5 = .ok (.aload_n 0, 1) := by decide +kernel
theorem dX9_clear_6 : decode cX9_clear 6 = .ok (.iconst 0, 1) := by decide +kernel
theorem dX9_clear_7 : decode cX9_clear 7 = .ok (.putfield 15, 3) := by decide +kernel
theorem dX9_clear_10 : decode cX9_clear 10 = .ok (.aload_n 0, 1) := by decide +kernel
theorem dX9_clear_11 : decode cX9_clear 11 = .ok (.iconst 0, 1) := by decide +kernel
theorem dX9_clear_12 : decode cX9_clear 12 = .ok (.putfield 34, 3) := by decide +kernel
theorem dX9_clear_15 : decode cX9_clear 15 = .ok (.aload_n 0, 1) := by decide +kernel
theorem dX9_clear_16 : decode cX9_clear 16 = .ok (.bipush 100, 2) := by decide +kernel
theorem dX9_clear_18 : decode cX9_clear 18 = .ok (.putfield 43, 3) := by decide +kernel
theorem dX9_clear_21 : decode cX9_clear 21 = .ok (.aload_n 0, 1) := by decide +kernel
theorem dX9_clear_22 : decode cX9_clear 22 = .ok (.iconst 0, 1) := by decide +kernel
theorem dX9_clear_23 : decode cX9_clear 23 = .ok (.putfield 46, 3) := by decide +kernel
theorem dX9_clear_26 : decode cX9_clear 26 = .ok (.aload_n 0, 1) := by decide +kernel
theorem dX9_clear_27 : decode cX9_clear 27 = .ok (.iconst 0, 1) := by decide +kernel
theorem dX9_clear_28 : decode cX9_clear 28 = .ok (.putfield 50, 3) := by decide +kernel
theorem dX9_clear_31 : decode cX9_clear 31 = .ok (.return_, 1) := by decide +kernel
theorem dX9_readAll_0 : decode cX9_readAll 0 = .ok (.aload_n 0, 1) := by decide +kernel
theorem dX9_readAll_1 : decode cX9_readAll 1 = .ok (.invokevirtual 63, 3) := by decide +kernel
theorem dX9_readAll_4 : decode cX9_readAll 4 = .ok (.iconst 0, 1) := by decide +kernel
theorem dX9_readAll_5 : decode cX9_readAll 5 = .ok (.istore_n 3, 1) := by decide +kernel
theorem dX9_readAll_6 : decode cX9_readAll 6 = .ok (.iload_n 3, 1) := by decide +kernel
theorem dX9_readAll_7 : decode cX9_readAll 7 = .ok (.bipush 60, 2) := by decide +kernel
theorem dX9_readAll_9 : decode cX9_readAll 9 = .ok (.if_icmp .gt 40, 3) := by decide +kernel
theorem dX9_readAll_12 : decode cX9_readAll 12 = .ok (.aload_n 1, 1) := by decide +kernel
theorem dX9_readAll_13 : decode cX9_readAll 13 = .ok (.invokevirtual 66, 3) := by decide +kernel
theorem dX9_readAll_16 : decode cX9_readAll 16 = .ok (.ifCond .ne 33, 3) := by decide +kernel
theorem dX9_readAll_19 : decode cX9_readAll 19 = .ok (.iload_n 3, 1) := by decide +kernel
theorem dX9_readAll_20 : decode cX9_readAll 20 = .ok (.bipush 60, 2) := by decide +kernel
theorem dX9_readAll_22 : decode cX9_readAll 22 = .ok (.if_icmp .ne 15, 3) := by decide +kernel
theorem dX9_readAll_25 : decode cX9_readAll 25 = .ok (.aload_n 1, 1) := by decide +kernel
theorem dX9_readAll_26 : decode cX9_readAll 26 = .ok (.iconst 5, 1) := by decide +kernel
theorem dX9_readAll_27 : decode cX9_readAll 27 = .ok (.aload_n 1, 1) := by decide +kernel
theorem dX9_readAll_28 : decode cX9_readAll 28 = .ok (.invokevirtual 72, 3) := by decide +kernel
theorem dX9_readAll_31 : decode cX9_readAll 31 = .ok (.invokevirtual 76, 3) := by decide +kernel
theorem dX9_readAll_34 : decode cX9_readAll 34 = .ok (.goto 9, 3) := by decide +kernel
theorem dX9_readAll_37 : decode cX9_readAll 37 = .ok (.aload_n 0, 1) := by decide +kernel
theorem dX9_readAll_38 : decode cX9_readAll 38 = .ok (.aload_n 1, 1) := by decide +kernel
theorem dX9_readAll_39 : decode cX9_readAll 39 = .ok (.aload_n 2, 1) := by decide +kernel
theorem dX9_readAll_40 : decode cX9_readAll 40 = .ok (.invokevirtual 80, 3) := by decide +kernel
theorem dX9_readAll_43 : decode cX9_readAll 43 = .ok (.iinc 3 1, 3) := by decide +kernel
theorem dX9_readAll_46 : decode cX9_readAll 46 = .ok (.goto (-40), 3) := by decide +kernel
theorem dX9_readAll_49 : decode cX9_readAll 49 = .ok (.return_, 1) := by decide +kernel
theorem dX9_readOne_0 : decode cX9_readOne 0 = .ok (.aload_n 1, 1) := by decide +kernel
theorem dX9_readOne_1 : decode cX9_readOne 1 = .ok (.invokevirtual 84, 3) := by decide +kernel
theorem dX9_readOne_4 : decode cX9_readOne 4 = .ok (.tableswitch 152 0 12 #[68, 152, 152, 76, 152, 152, 152, 84, 152, 92, 108, 130, 100], 68) := by decide +kernel
theorem dX9_readOne_72 : decode cX9_readOne 72 = .ok (.aload_n 0, 1) := by decide +kernel
theorem dX9_readOne_73 : decode cX9_readOne 73 = .ok (.aload_n 1, 1) := by decide +kernel
theorem dX9_readOne_74 : decode cX9_readOne 74 = .ok (.invokevirtual 87, 3) := by decide +kernel
theorem dX9_readOne_77 : decode cX9_readOne 77 = .ok (.goto 83, 3) := by decide +kernel
theorem dX9_readOne_80 : decode cX9_readOne 80 = .ok (.aload_n 0, 1) := by decide +kernel
theorem dX9_readOne_81 : decode cX9_readOne 81 = .ok (.aload_n 1, 1) := by decide +kernel
theorem dX9_readOne_82 : decode cX9_readOne 82 = .ok (.invokevirtual 91, 3) := by decide +kernel
theorem dX9_readOne_85 : decode cX9_readOne 85 = .ok (.goto 75, 3) := by decide +kernel
theorem dX9_readOne_88 : decode cX9_readOne 88 = .ok (.aload_n 0, 1) := by decide +kernel
theorem dX9_readOne_89 : decode cX9_readOne 89 = .ok (.aload_n 1, 1) := by decide +kernel
theorem dX9_readOne_90 : decode cX9_readOne 90 = .ok (.invokevirtual 94, 3) := by decide +kernel
theorem dX9_readOne_93 : decode cX9_readOne 93 = .ok (.goto 67, 3) := by decide +kernel
theorem dX9_readOne_96 : decode cX9_readOne 96 = .ok (.aload_n 0, 1) := by decide +kernel
theorem dX9_readOne_97 : decode cX9_readOne 97 = .ok (.aload_n 1, 1) := by decide +kernel
theorem dX9_readOne_98 : decode cX9_readOne 98 = .ok (.invokevirtual 97, 3) := by decide +kernel
theorem dX9_readOne_101 : decode cX9_readOne 101 = .ok (.goto 59, 3) := by decide +kernel
theorem dX9_readOne_104 : decode cX9_readOne 104 = .ok (.aload_n 0, 1) := by decide +kernel
theorem dX9_readOne_105 : decode cX9_readOne 105 = .ok (.aload_n 1, 1) := by decide +kernel
theorem dX9_readOne_106 : decode cX9_readOne 106 = .ok (.invokevirtual 100, 3) := by decide +kernel
theorem dX9_readOne_109 : decode cX9_readOne 109 = .ok (.goto 51, 3) := by decide +kernel
theorem dX9_readOne_112 : decode cX9_readOne 112 = .ok (.aload_n 0, 1) := by decide +kernel
theorem dX9_readOne_113 : decode cX9_readOne 113 = .ok (.aload_n 1, 1) := by decide +kernel
theorem dX9_readOne_114 : decode cX9_readOne 114 = .ok (.aload_n 2, 1) := by decide +kernel
theorem dX9_readOne_115 : decode cX9_readOne 115 = .ok (.aload_n 0, 1) := by decide +kernel
theorem dX9_readOne_116 : decode cX9_readOne 116 = .ok (.getfield 56, 3) := by decide +kernel
theorem dX9_readOne_119 : decode cX9_readOne 119 = .ok (.aload_n 0, 1) := by decide +kernel
theorem dX9_readOne_120 : decode cX9_readOne 120 = .ok (.getfield 46, 3) := by decide +kernel
theorem dX9_readOne_123 : decode cX9_readOne 123 = .ok (.invokevirtual 103, 3) := by decide +kernel
theorem dX9_readOne_126 : decode cX9_readOne 126 = .ok (.aload_n 0, 1) := by decide +kernel
theorem dX9_readOne_127 : decode cX9_readOne 127 = .ok (.iconst 1, 1) := by decide +kernel
theorem dX9_readOne_128 : decode cX9_readOne 128 = .ok (.putfield 46, 3) := by decide +kernel
theorem dX9_readOne_131 : decode cX9_readOne 131 = .ok (.goto 29, 3) := by decide +kernel
theorem dX9_readOne_134 : decode cX9_readOne 134 = .ok (.aload_n 0, 1) := by decide +kernel
theorem dX9_readOne_135 : decode cX9_readOne 135 = .ok (.aload_n 1, 1) := by decide +kernel
theorem dX9_readOne_136 : decode cX9_readOne 136 = .ok (.aload_n 2, 1) := by decide +kernel
theorem dX9_readOne_137 : decode cX9_readOne 137 = .ok (.aload_n 0, 1) := by decide +kernel
theorem dX9_readOne_138 : decode cX9_readOne 138 = .ok (.getfield 60, 3) := by decide +kernel
theorem dX9_readOne_141 : decode cX9_readOne 141 = .ok (.aload_n 0, 1) := by decide +kernel
theorem dX9_readOne_142 : decode cX9_readOne 142 = .ok (.getfield 50, 3) := by decide +kernel
theorem dX9_readOne_145 : decode cX9_readOne 145 = .ok (.invokevirtual 103, 3) := by decide +kernel
theorem dX9_readOne_148 : decode cX9_readOne 148 = .ok (.aload_n 0, 1) := by decide +kernel
theorem dX9_readOne_149 : decode cX9_readOne 149 = .ok (.iconst 1, 1) := by decide +kernel
theorem dX9_readOne_150 : decode cX9_readOne 150 = .ok (.putfield 50, 3) := by decide +kernel
theorem dX9_readOne_153 : decode cX9_readOne 153 = .ok (.goto 7, 3) := by decide +kernel
theorem dX9_readOne_156 : decode cX9_readOne 156 = .ok (.aload_n 1, 1) := by decide +kernel
theorem dX9_readOne_157 : decode cX9_readOne 157 = .ok (.invokevirtual 107, 3) := by decide +kernel
theorem dX9_readOne_160 : decode cX9_readOne 160 = .ok (.aload_n 1, 1) := by decide +kernel
theorem dX9_readOne_161 : decode cX9_readOne 161 = .ok (.bipush 59, 2) := by decide +kernel
theorem dX9_readOne_163 : decode cX9_readOne 163 = .ok (.invokevirtual 110, 3) := by decide +kernel
theorem dX9_readOne_166 : decode cX9_readOne 166 = .ok (.aload_n 0, 1) := by decide +kernel
theorem dX9_readOne_167 : decode cX9_readOne 167 = .ok (.dup, 1) := by decide +kernel
theorem dX9_readOne_168 : decode cX9_readOne 168 = .ok (.getfield 9, 3) := by decide +kernel
theorem dX9_readOne_171 : decode cX9_readOne 171 = .ok (.iconst 1, 1) := by decide +kernel
theorem dX9_readOne_172 : decode cX9_readOne 172 = .ok (.iadd, 1) := by decide +kernel
theorem dX9_readOne_173 : decode cX9_readOne 173 = .ok (.putfield 9, 3) := by decide +kernel
theorem dX9_readOne_176 : decode cX9_readOne 176 = .ok (.return_, 1) := by decide +kernel
theorem dX9_readPerson_0 : decode cX9_readPerson 0 = .ok (.aload_n 0, 1) := by decide +kernel
theorem dX9_readPerson_1 : decode cX9_readPerson 1 = .ok (.getfield 15, 3) := by decide +kernel
theorem dX9_readPerson_4 : decode cX9_readPerson 4 = .ok (.bipush 8, 2) := by decide +kernel
theorem dX9_readPerson_6 : decode cX9_readPerson 6 = .ok (.if_icmp .lt 13, 3) := by decide +kernel
theorem dX9_readPerson_9 : decode cX9_readPerson 9 = .ok (.aload_n 1, 1) := by decide +kernel
theorem dX9_readPerson_10 : decode cX9_readPerson 10 = .ok (.iconst 5, 1) := by decide +kernel
theorem dX9_readPerson_11 : decode cX9_readPerson 11 = .ok (.aload_n 1, 1) := by decide +kernel
theorem dX9_readPerson_12 : decode cX9_readPerson 12 = .ok (.invokevirtual 72, 3) := by decide +kernel
theorem dX9_readPerson_15 : decode cX9_readPerson 15 = .ok (.invokevirtual 76, 3) := by decide +kernel
theorem dX9_readPerson_18 : decode cX9_readPerson 18 = .ok (.return_, 1) := by decide +kernel
theorem dX9_readPerson_19 : decode cX9_readPerson 19 = .ok (.aload_n 1, 1) := by decide +kernel
theorem dX9_readPerson_20 : decode cX9_readPerson 20 = .ok (.invokevirtual 114, 3) := by decide +kernel
theorem dX9_readPerson_23 : decode cX9_readPerson 23 = .ok (.aload_n 0, 1) := by decide +kernel
theorem dX9_readPerson_24 : decode cX9_readPerson 24 = .ok (.getfield 15, 3) := by decide +kernel
theorem dX9_readPerson_27 : decode cX9_readPerson 27 = .ok (.istore_n 2, 1) := by decide +kernel
theorem dX9_readPerson_28 : decode cX9_readPerson 28 = .ok (.aload_n 0, 1) := by decide +kernel
theorem dX9_readPerson_29 : decode cX9_readPerson 29 = .ok (.getfield 18, 3) := by decide +kernel
theorem dX9_readPerson_32 : decode cX9_readPerson 32 = .ok (.iload_n 2, 1) := by decide +kernel
theorem dX9_readPerson_33 : decode cX9_readPerson 33 = .ok (.aload_n 0, 1) := by decide +kernel
theorem dX9_readPerson_34 : decode cX9_readPerson 34 = .ok (.aload_n 1, 1) := by decide +kernel
theorem dX9_readPerson_35 : decode cX9_readPerson 35 = .ok (.invokevirtual 117, 3) := by decide +kernel
theorem dX9_readPerson_38 : decode cX9_readPerson 38 = .ok (.iastore, 1) := by decide +kernel
theorem dX9_readPerson_39 : decode cX9_readPerson 39 = .ok (.aload_n 1, 1) := by decide +kernel
theorem dX9_readPerson_40 : decode cX9_readPerson 40 = .ok (.iconst 1, 1) := by decide +kernel
theorem dX9_readPerson_41 : decode cX9_readPerson 41 = .ok (.invokevirtual 121, 3) := by decide +kernel
theorem dX9_readPerson_44 : decode cX9_readPerson 44 = .ok (.aload_n 0, 1) := by decide +kernel
theorem dX9_readPerson_45 : decode cX9_readPerson 45 = .ok (.getfield 22, 3) := by decide +kernel
theorem dX9_readPerson_48 : decode cX9_readPerson 48 = .ok (.iconst 2, 1) := by decide +kernel
theorem dX9_readPerson_49 : decode cX9_readPerson 49 = .ok (.iload_n 2, 1) := by decide +kernel
theorem dX9_readPerson_50 : decode cX9_readPerson 50 = .ok (.imul, 1) := by decide +kernel
theorem dX9_readPerson_51 : decode cX9_readPerson 51 = .ok (.iconst 0, 1) := by decide +kernel
theorem dX9_readPerson_52 : decode cX9_readPerson 52 = .ok (.iadd, 1) := by decide +kernel
theorem dX9_readPerson_53 : decode cX9_readPerson 53 = .ok (.aload_n 1, 1) := by decide +kernel
theorem dX9_readPerson_54 : decode cX9_readPerson 54 = .ok (.bipush 99, 2) := by decide +kernel
theorem dX9_readPerson_56 : decode cX9_readPerson 56 = .ok (.invokevirtual 124, 3) := by decide +kernel
theorem dX9_readPerson_59 : decode cX9_readPerson 59 = .ok (.iastore, 1) := by decide +kernel
theorem dX9_readPerson_60 : decode cX9_readPerson 60 = .ok (.aload_n 1, 1) := by decide +kernel
theorem dX9_readPerson_61 : decode cX9_readPerson 61 = .ok (.iconst 2, 1) := by decide +kernel
theorem dX9_readPerson_62 : decode cX9_readPerson 62 = .ok (.invokevirtual 121, 3) := by decide +kernel
theorem dX9_readPerson_65 : decode cX9_readPerson 65 = .ok (.aload_n 0, 1) := by decide +kernel
theorem dX9_readPerson_66 : decode cX9_readPerson 66 = .ok (.getfield 22, 3) := by decide +kernel
theorem dX9_readPerson_69 : decode cX9_readPerson 69 = .ok (.iconst 2, 1) := by decide +kernel
theorem dX9_readPerson_70 : decode cX9_readPerson 70 = .ok (.iload_n 2, 1) := by decide +kernel
theorem dX9_readPerson_71 : decode cX9_readPerson 71 = .ok (.imul, 1) := by decide +kernel
theorem dX9_readPerson_72 : decode cX9_readPerson 72 = .ok (.iconst 1, 1) := by decide +kernel
theorem dX9_readPerson_73 : decode cX9_readPerson 73 = .ok (.iadd, 1) := by decide +kernel
theorem dX9_readPerson_74 : decode cX9_readPerson 74 = .ok (.aload_n 1, 1) := by decide +kernel
theorem dX9_readPerson_75 : decode cX9_readPerson 75 = .ok (.bipush 99, 2) := by decide +kernel
theorem dX9_readPerson_77 : decode cX9_readPerson 77 = .ok (.invokevirtual 124, 3) := by decide +kernel
theorem dX9_readPerson_80 : decode cX9_readPerson 80 = .ok (.iastore, 1) := by decide +kernel
theorem dX9_readPerson_81 : decode cX9_readPerson 81 = .ok (.iconst 0, 1) := by decide +kernel
theorem dX9_readPerson_82 : decode cX9_readPerson 82 = .ok (.istore_n 3, 1) := by decide +kernel
theorem dX9_readPerson_83 : decode cX9_readPerson 83 = .ok (.iload_n 3, 1) := by decide +kernel
theorem dX9_readPerson_84 : decode cX9_readPerson 84 = .ok (.iconst 2, 1) := by decide +kernel
theorem dX9_readPerson_85 : decode cX9_readPerson 85 = .ok (.if_icmp .ge 31, 3) := by decide +kernel
theorem dX9_readPerson_88 : decode cX9_readPerson 88 = .ok (.aload_n 0, 1) := by decide +kernel
theorem dX9_readPerson_89 : decode cX9_readPerson 89 = .ok (.getfield 25, 3) := by decide +kernel
theorem dX9_readPerson_92 : decode cX9_readPerson 92 = .ok (.iconst 2, 1) := by decide +kernel
theorem dX9_readPerson_93 : decode cX9_readPerson 93 = .ok (.iload_n 2, 1) := by decide +kernel
theorem dX9_readPerson_94 : decode cX9_readPerson 94 = .ok (.imul, 1) := by decide +kernel
theorem dX9_readPerson_95 : decode cX9_readPerson 95 = .ok (.iload_n 3, 1) := by decide +kernel
theorem dX9_readPerson_96 : decode cX9_readPerson 96 = .ok (.iadd, 1) := by decide +kernel
theorem dX9_readPerson_97 : decode cX9_readPerson 97 = .ok (.iconst 0, 1) := by decide +kernel
theorem dX9_readPerson_98 : decode cX9_readPerson 98 = .ok (.iastore, 1) := by decide +kernel
theorem dX9_readPerson_99 : decode cX9_readPerson 99 = .ok (.aload_n 0, 1) := by decide +kernel
theorem dX9_readPerson_100 : decode cX9_readPerson 100 = .ok (.getfield 28, 3) := by decide +kernel
theorem dX9_readPerson_103 : decode cX9_readPerson 103 = .ok (.iconst 2, 1) := by decide +kernel
theorem dX9_readPerson_104 : decode cX9_readPerson 104 = .ok (.iload_n 2, 1) := by decide +kernel
theorem dX9_readPerson_105 : decode cX9_readPerson 105 = .ok (.imul, 1) := by decide +kernel
theorem dX9_readPerson_106 : decode cX9_readPerson 106 = .ok (.iload_n 3, 1) := by decide +kernel
theorem dX9_readPerson_107 : decode cX9_readPerson 107 = .ok (.iadd, 1) := by decide +kernel
theorem dX9_readPerson_108 : decode cX9_readPerson 108 = .ok (.iconst 5, 1) := by decide +kernel
theorem dX9_readPerson_109 : decode cX9_readPerson 109 = .ok (.iastore, 1) := by decide +kernel
theorem dX9_readPerson_110 : decode cX9_readPerson 110 = .ok (.iinc 3 1, 3) := by decide +kernel
theorem dX9_readPerson_113 : decode cX9_readPerson 113 = .ok (.goto (-30), 3) := by decide +kernel
theorem dX9_readPerson_116 : decode cX9_readPerson 116 = .ok (.aload_n 0, 1) := by decide +kernel
theorem dX9_readPerson_117 : decode cX9_readPerson 117 = .ok (.getfield 31, 3) := by decide +kernel
theorem dX9_readPerson_120 : decode cX9_readPerson 120 = .ok (.iload_n 2, 1) := by decide +kernel
theorem dX9_readPerson_121 : decode cX9_readPerson 121 = .ok (.iconst 0, 1) := by decide +kernel
theorem dX9_readPerson_122 : decode cX9_readPerson 122 = .ok (.iastore, 1) := by decide +kernel
theorem dX9_readPerson_123 : decode cX9_readPerson 123 = .ok (.aload_n 0, 1) := by decide +kernel
theorem dX9_readPerson_124 : decode cX9_readPerson 124 = .ok (.dup, 1) := by decide +kernel
theorem dX9_readPerson_125 : decode cX9_readPerson 125 = .ok (.getfield 15, 3) := by decide +kernel
theorem dX9_readPerson_128 : decode cX9_readPerson 128 = .ok (.iconst 1, 1) := by decide +kernel
theorem dX9_readPerson_129 : decode cX9_readPerson 129 = .ok (.iadd, 1) := by decide +kernel
theorem dX9_readPerson_130 : decode cX9_readPerson 130 = .ok (.putfield 15, 3) := by decide +kernel
theorem dX9_readPerson_133 : decode cX9_readPerson 133 = .ok (.return_, 1) := by decide +kernel
theorem dX9_readBox_0 : decode cX9_readBox 0 = .ok (.aload_n 0, 1) := by decide +kernel
theorem dX9_readBox_1 : decode cX9_readBox 1 = .ok (.getfield 34, 3) := by decide +kernel
theorem dX9_readBox_4 : decode cX9_readBox 4 = .ok (.iconst 4, 1) := by decide +kernel
theorem dX9_readBox_5 : decode cX9_readBox 5 = .ok (.if_icmp .lt 13, 3) := by decide +kernel
theorem dX9_readBox_8 : decode cX9_readBox 8 = .ok (.aload_n 1, 1) := by decide +kernel
theorem dX9_readBox_9 : decode cX9_readBox 9 = .ok (.iconst 5, 1) := by decide +kernel
theorem dX9_readBox_10 : decode cX9_readBox 10 = .ok (.aload_n 1, 1) := by decide +kernel
theorem dX9_readBox_11 : decode cX9_readBox 11 = .ok (.invokevirtual 72, 3) := by decide +kernel
theorem dX9_readBox_14 : decode cX9_readBox 14 = .ok (.invokevirtual 76, 3) := by decide +kernel
theorem dX9_readBox_17 : decode cX9_readBox 17 = .ok (.return_, 1) := by decide +kernel
theorem dX9_readBox_18 : decode cX9_readBox 18 = .ok (.aload_n 1, 1) := by decide +kernel
theorem dX9_readBox_19 : decode cX9_readBox 19 = .ok (.invokevirtual 114, 3) := by decide +kernel
theorem dX9_readBox_22 : decode cX9_readBox 22 = .ok (.aload_n 0, 1) := by decide +kernel
theorem dX9_readBox_23 : decode cX9_readBox 23 = .ok (.getfield 37, 3) := by decide +kernel
theorem dX9_readBox_26 : decode cX9_readBox 26 = .ok (.aload_n 0, 1) := by decide +kernel
theorem dX9_readBox_27 : decode cX9_readBox 27 = .ok (.getfield 34, 3) := by decide +kernel
theorem dX9_readBox_30 : decode cX9_readBox 30 = .ok (.aload_n 0, 1) := by decide +kernel
theorem dX9_readBox_31 : decode cX9_readBox 31 = .ok (.aload_n 1, 1) := by decide +kernel
theorem dX9_readBox_32 : decode cX9_readBox 32 = .ok (.invokevirtual 117, 3) := by decide +kernel
theorem dX9_readBox_35 : decode cX9_readBox 35 = .ok (.iastore, 1) := by decide +kernel
theorem dX9_readBox_36 : decode cX9_readBox 36 = .ok (.aload_n 1, 1) := by decide +kernel
theorem dX9_readBox_37 : decode cX9_readBox 37 = .ok (.bipush 8, 2) := by decide +kernel
theorem dX9_readBox_39 : decode cX9_readBox 39 = .ok (.invokevirtual 121, 3) := by decide +kernel
theorem dX9_readBox_42 : decode cX9_readBox 42 = .ok (.aload_n 0, 1) := by decide +kernel
theorem dX9_readBox_43 : decode cX9_readBox 43 = .ok (.getfield 40, 3) := by decide +kernel
theorem dX9_readBox_46 : decode cX9_readBox 46 = .ok (.aload_n 0, 1) := by decide +kernel
theorem dX9_readBox_47 : decode cX9_readBox 47 = .ok (.getfield 34, 3) := by decide +kernel
theorem dX9_readBox_50 : decode cX9_readBox 50 = .ok (.aload_n 1, 1) := by decide +kernel
theorem dX9_readBox_51 : decode cX9_readBox 51 = .ok (.bipush 100, 2) := by decide +kernel
theorem dX9_readBox_53 : decode cX9_readBox 53 = .ok (.invokevirtual 124, 3) := by decide +kernel
theorem dX9_readBox_56 : decode cX9_readBox 56 = .ok (.iastore, 1) := by decide +kernel
theorem dX9_readBox_57 : decode cX9_readBox 57 = .ok (.aload_n 0, 1) := by decide +kernel
theorem dX9_readBox_58 : decode cX9_readBox 58 = .ok (.dup, 1) := by decide +kernel
theorem dX9_readBox_59 : decode cX9_readBox 59 = .ok (.getfield 34, 3) := by decide +kernel
theorem dX9_readBox_62 : decode cX9_readBox 62 = .ok (.iconst 1, 1) := by decide +kernel
theorem dX9_readBox_63 : decode cX9_readBox 63 = .ok (.iadd, 1) := by decide +kernel
theorem dX9_readBox_64 : decode cX9_readBox 64 = .ok (.putfield 34, 3) := by decide +kernel
theorem dX9_readBox_67 : decode cX9_readBox 67 = .ok (.return_, 1) := by decide +kernel
theorem dX9_readHolds_0 : decode cX9_readHolds 0 = .ok (.aload_n 1, 1) := by decide +kernel
theorem dX9_readHolds_1 : decode cX9_readHolds 1 = .ok (.invokevirtual 114, 3) := by decide +kernel
theorem dX9_readHolds_4 : decode cX9_readHolds 4 = .ok (.aload_n 0, 1) := by decide +kernel
theorem dX9_readHolds_5 : decode cX9_readHolds 5 = .ok (.aload_n 1, 1) := by decide +kernel
theorem dX9_readHolds_6 : decode cX9_readHolds 6 = .ok (.invokevirtual 128, 3) := by decide +kernel
theorem dX9_readHolds_9 : decode cX9_readHolds 9 = .ok (.istore_n 2, 1) := by decide +kernel
theorem dX9_readHolds_10 : decode cX9_readHolds 10 = .ok (.aload_n 1, 1) := by decide +kernel
theorem dX9_readHolds_11 : decode cX9_readHolds 11 = .ok (.iconst 1, 1) := by decide +kernel
theorem dX9_readHolds_12 : decode cX9_readHolds 12 = .ok (.iconst 2, 1) := by decide +kernel
theorem dX9_readHolds_13 : decode cX9_readHolds 13 = .ok (.invokevirtual 131, 3) := by decide +kernel
theorem dX9_readHolds_16 : decode cX9_readHolds 16 = .ok (.istore_n 3, 1) := by decide +kernel
theorem dX9_readHolds_17 : decode cX9_readHolds 17 = .ok (.aload_n 1, 1) := by decide +kernel
theorem dX9_readHolds_18 : decode cX9_readHolds 18 = .ok (.iconst 4, 1) := by decide +kernel
theorem dX9_readHolds_19 : decode cX9_readHolds 19 = .ok (.bipush 6, 2) := by decide +kernel
theorem dX9_readHolds_21 : decode cX9_readHolds 21 = .ok (.invokevirtual 131, 3) := by decide +kernel
theorem dX9_readHolds_24 : decode cX9_readHolds 24 = .ok (.istore 4, 2) := by decide +kernel
theorem dX9_readHolds_26 : decode cX9_readHolds 26 = .ok (.aload_n 1, 1) := by decide +kernel
theorem dX9_readHolds_27 : decode cX9_readHolds 27 = .ok (.bipush 9, 2) := by decide +kernel
theorem dX9_readHolds_29 : decode cX9_readHolds 29 = .ok (.invokevirtual 124, 3) := by decide +kernel
theorem dX9_readHolds_32 : decode cX9_readHolds 32 = .ok (.istore 5, 2) := by decide +kernel
theorem dX9_readHolds_34 : decode cX9_readHolds 34 = .ok (.iload_n 2, 1) := by decide +kernel
theorem dX9_readHolds_35 : decode cX9_readHolds 35 = .ok (.iconst (-1), 1) := by decide +kernel
theorem dX9_readHolds_36 : decode cX9_readHolds 36 = .ok (.if_icmp .eq 27, 3) := by decide +kernel
theorem dX9_readHolds_39 : decode cX9_readHolds 39 = .ok (.aload_n 0, 1) := by decide +kernel
theorem dX9_readHolds_40 : decode cX9_readHolds 40 = .ok (.getfield 25, 3) := by decide +kernel
theorem dX9_readHolds_43 : decode cX9_readHolds 43 = .ok (.iconst 2, 1) := by decide +kernel
theorem dX9_readHolds_44 : decode cX9_readHolds 44 = .ok (.iload_n 2, 1) := by decide +kernel
theorem dX9_readHolds_45 : decode cX9_readHolds 45 = .ok (.imul, 1) := by decide +kernel
theorem dX9_readHolds_46 : decode cX9_readHolds 46 = .ok (.iload_n 3, 1) := by decide +kernel
theorem dX9_readHolds_47 : decode cX9_readHolds 47 = .ok (.iadd, 1) := by decide +kernel
theorem dX9_readHolds_48 : decode cX9_readHolds 48 = .ok (.iload 4, 2) := by decide +kernel
theorem dX9_readHolds_50 : decode cX9_readHolds 50 = .ok (.iastore, 1) := by decide +kernel
theorem dX9_readHolds_51 : decode cX9_readHolds 51 = .ok (.aload_n 0, 1) := by decide +kernel
theorem dX9_readHolds_52 : decode cX9_readHolds 52 = .ok (.getfield 28, 3) := by decide +kernel
theorem dX9_readHolds_55 : decode cX9_readHolds 55 = .ok (.iconst 2, 1) := by decide +kernel
theorem dX9_readHolds_56 : decode cX9_readHolds 56 = .ok (.iload_n 2, 1) := by decide +kernel
theorem dX9_readHolds_57 : decode cX9_readHolds 57 = .ok (.imul, 1) := by decide +kernel
theorem dX9_readHolds_58 : decode cX9_readHolds 58 = .ok (.iload_n 3, 1) := by decide +kernel
theorem dX9_readHolds_59 : decode cX9_readHolds 59 = .ok (.iadd, 1) := by decide +kernel
theorem dX9_readHolds_60 : decode cX9_readHolds 60 = .ok (.iload 5, 2) := by decide +kernel
theorem dX9_readHolds_62 : decode cX9_readHolds 62 = .ok (.iastore, 1) := by decide +kernel
theorem dX9_readHolds_63 : decode cX9_readHolds 63 = .ok (.return_, 1) := by decide +kernel
theorem dX9_readHats_0 : decode cX9_readHats 0 = .ok (.aload_n 1, 1) := by decide +kernel
theorem dX9_readHats_1 : decode cX9_readHats 1 = .ok (.invokevirtual 114, 3) := by decide +kernel
theorem dX9_readHats_4 : decode cX9_readHats 4 = .ok (.aload_n 0, 1) := by decide +kernel
theorem dX9_readHats_5 : decode cX9_readHats 5 = .ok (.aload_n 1, 1) := by decide +kernel
theorem dX9_readHats_6 : decode cX9_readHats 6 = .ok (.invokevirtual 128, 3) := by decide +kernel
theorem dX9_readHats_9 : decode cX9_readHats 9 = .ok (.istore_n 2, 1) := by decide +kernel
theorem dX9_readHats_10 : decode cX9_readHats 10 = .ok (.aload_n 1, 1) := by decide +kernel
theorem dX9_readHats_11 : decode cX9_readHats 11 = .ok (.bipush 9, 2) := by decide +kernel
theorem dX9_readHats_13 : decode cX9_readHats 13 = .ok (.invokevirtual 124, 3) := by decide +kernel
theorem dX9_readHats_16 : decode cX9_readHats 16 = .ok (.istore_n 3, 1) := by decide +kernel
theorem dX9_readHats_17 : decode cX9_readHats 17 = .ok (.iload_n 2, 1) := by decide +kernel
theorem dX9_readHats_18 : decode cX9_readHats 18 = .ok (.iconst (-1), 1) := by decide +kernel
theorem dX9_readHats_19 : decode cX9_readHats 19 = .ok (.if_icmp .eq 10, 3) := by decide +kernel
theorem dX9_readHats_22 : decode cX9_readHats 22 = .ok (.aload_n 0, 1) := by decide +kernel
theorem dX9_readHats_23 : decode cX9_readHats 23 = .ok (.getfield 31, 3) := by decide +kernel
theorem dX9_readHats_26 : decode cX9_readHats 26 = .ok (.iload_n 2, 1) := by decide +kernel
theorem dX9_readHats_27 : decode cX9_readHats 27 = .ok (.iload_n 3, 1) := by decide +kernel
theorem dX9_readHats_28 : decode cX9_readHats 28 = .ok (.iastore, 1) := by decide +kernel
theorem dX9_readHats_29 : decode cX9_readHats 29 = .ok (.return_, 1) := by decide +kernel
theorem dX9_readBang_0 : decode cX9_readBang 0 = .ok (.aload_n 1, 1) := by decide +kernel
theorem dX9_readBang_1 : decode cX9_readBang 1 = .ok (.invokevirtual 114, 3) := by decide +kernel
theorem dX9_readBang_4 : decode cX9_readBang 4 = .ok (.aload_n 0, 1) := by decide +kernel
theorem dX9_readBang_5 : decode cX9_readBang 5 = .ok (.aload_n 1, 1) := by decide +kernel
theorem dX9_readBang_6 : decode cX9_readBang 6 = .ok (.bipush 100, 2) := by decide +kernel
theorem dX9_readBang_8 : decode cX9_readBang 8 = .ok (.invokevirtual 124, 3) := by decide +kernel
theorem dX9_readBang_11 : decode cX9_readBang 11 = .ok (.putfield 43, 3) := by decide +kernel
theorem dX9_readBang_14 : decode cX9_readBang 14 = .ok (.return_, 1) := by decide +kernel
theorem dX9_readSum_0 : decode cX9_readSum 0 = .ok (.iload 4, 2) := by decide +kernel
theorem dX9_readSum_2 : decode cX9_readSum 2 = .ok (.ifCond .eq 13, 3) := by decide +kernel
theorem dX9_readSum_5 : decode cX9_readSum 5 = .ok (.aload_n 1, 1) := by decide +kernel
theorem dX9_readSum_6 : decode cX9_readSum 6 = .ok (.iconst 5, 1) := by decide +kernel
theorem dX9_readSum_7 : decode cX9_readSum 7 = .ok (.aload_n 1, 1) := by decide +kernel
theorem dX9_readSum_8 : decode cX9_readSum 8 = .ok (.invokevirtual 72, 3) := by decide +kernel
theorem dX9_readSum_11 : decode cX9_readSum 11 = .ok (.invokevirtual 76, 3) := by decide +kernel
theorem dX9_readSum_14 : decode cX9_readSum 14 = .ok (.return_, 1) := by decide +kernel
theorem dX9_readSum_15 : decode cX9_readSum 15 = .ok (.aload_n 1, 1) := by decide +kernel
theorem dX9_readSum_16 : decode cX9_readSum 16 = .ok (.invokevirtual 114, 3) := by decide +kernel
theorem dX9_readSum_19 : decode cX9_readSum 19 = .ok (.aload_n 3, 1) := by decide +kernel
theorem dX9_readSum_20 : decode cX9_readSum 20 = .ok (.invokevirtual 135, 3) := by decide +kernel
theorem dX9_readSum_23 : decode cX9_readSum 23 = .ok (.aload_n 2, 1) := by decide +kernel
theorem dX9_readSum_24 : decode cX9_readSum 24 = .ok (.iconst 0, 1) := by decide +kernel
theorem dX9_readSum_25 : decode cX9_readSum 25 = .ok (.putfield 136, 3) := by decide +kernel
theorem dX9_readSum_28 : decode cX9_readSum 28 = .ok (.aload_n 2, 1) := by decide +kernel
theorem dX9_readSum_29 : decode cX9_readSum 29 = .ok (.aload_n 3, 1) := by decide +kernel
theorem dX9_readSum_30 : decode cX9_readSum 30 = .ok (.invokevirtual 141, 3) := by decide +kernel
theorem dX9_readSum_33 : decode cX9_readSum 33 = .ok (.return_, 1) := by decide +kernel
theorem dX9_newName_0 : decode cX9_newName 0 = .ok (.aload_n 1, 1) := by decide +kernel
theorem dX9_newName_1 : decode cX9_newName 1 = .ok (.invokevirtual 72, 3) := by decide +kernel
theorem dX9_newName_4 : decode cX9_newName 4 = .ok (.istore_n 2, 1) := by decide +kernel
theorem dX9_newName_5 : decode cX9_newName 5 = .ok (.aload_n 1, 1) := by decide +kernel
theorem dX9_newName_6 : decode cX9_newName 6 = .ok (.invokevirtual 145, 3) := by decide +kernel
theorem dX9_newName_9 : decode cX9_newName 9 = .ok (.istore_n 3, 1) := by decide +kernel
theorem dX9_newName_10 : decode cX9_newName 10 = .ok (.aload_n 1, 1) := by decide +kernel
theorem dX9_newName_11 : decode cX9_newName 11 = .ok (.invokevirtual 148, 3) := by decide +kernel
theorem dX9_newName_14 : decode cX9_newName 14 = .ok (.ifCond .ne 27, 3) := by decide +kernel
theorem dX9_newName_17 : decode cX9_newName 17 = .ok (.aload_n 0, 1) := by decide +kernel
theorem dX9_newName_18 : decode cX9_newName 18 = .ok (.iload_n 3, 1) := by decide +kernel
theorem dX9_newName_19 : decode cX9_newName 19 = .ok (.invokevirtual 151, 3) := by decide +kernel
theorem dX9_newName_22 : decode cX9_newName 22 = .ok (.iconst (-1), 1) := by decide +kernel
theorem dX9_newName_23 : decode cX9_newName 23 = .ok (.if_icmp .ne 12, 3) := by decide +kernel
theorem dX9_newName_26 : decode cX9_newName 26 = .ok (.aload_n 0, 1) := by decide +kernel
theorem dX9_newName_27 : decode cX9_newName 27 = .ok (.iload_n 3, 1) := by decide +kernel
theorem dX9_newName_28 : decode cX9_newName 28 = .ok (.invokevirtual 154, 3) := by decide +kernel
theorem dX9_newName_31 : decode cX9_newName 31 = .ok (.iconst (-1), 1) := by decide +kernel
theorem dX9_newName_32 : decode cX9_newName 32 = .ok (.if_icmp .eq 9, 3) := by decide +kernel
theorem dX9_newName_35 : decode cX9_newName 35 = .ok (.aload_n 1, 1) := by decide +kernel
theorem dX9_newName_36 : decode cX9_newName 36 = .ok (.iconst 3, 1) := by decide +kernel
theorem dX9_newName_37 : decode cX9_newName 37 = .ok (.iload_n 2, 1) := by decide +kernel
theorem dX9_newName_38 : decode cX9_newName 38 = .ok (.invokevirtual 76, 3) := by decide +kernel
theorem dX9_newName_41 : decode cX9_newName 41 = .ok (.iload_n 3, 1) := by decide +kernel
theorem dX9_newName_42 : decode cX9_newName 42 = .ok (.ireturn, 1) := by decide +kernel
theorem dX9_toldPerson_0 : decode cX9_toldPerson 0 = .ok (.aload_n 1, 1) := by decide +kernel
theorem dX9_toldPerson_1 : decode cX9_toldPerson 1 = .ok (.invokevirtual 72, 3) := by decide +kernel
theorem dX9_toldPerson_4 : decode cX9_toldPerson 4 = .ok (.istore_n 2, 1) := by decide +kernel
theorem dX9_toldPerson_5 : decode cX9_toldPerson 5 = .ok (.aload_n 1, 1) := by decide +kernel
theorem dX9_toldPerson_6 : decode cX9_toldPerson 6 = .ok (.invokevirtual 145, 3) := by decide +kernel
theorem dX9_toldPerson_9 : decode cX9_toldPerson 9 = .ok (.istore_n 3, 1) := by decide +kernel
theorem dX9_toldPerson_10 : decode cX9_toldPerson 10 = .ok (.aload_n 1, 1) := by decide +kernel
theorem dX9_toldPerson_11 : decode cX9_toldPerson 11 = .ok (.invokevirtual 148, 3) := by decide +kernel
theorem dX9_toldPerson_14 : decode cX9_toldPerson 14 = .ok (.ifCond .eq 5, 3) := by decide +kernel
theorem dX9_toldPerson_17 : decode cX9_toldPerson 17 = .ok (.iconst (-1), 1) := by decide +kernel
theorem dX9_toldPerson_18 : decode cX9_toldPerson 18 = .ok (.ireturn, 1) := by decide +kernel
theorem dX9_toldPerson_19 : decode cX9_toldPerson 19 = .ok (.aload_n 0, 1) := by decide +kernel
theorem dX9_toldPerson_20 : decode cX9_toldPerson 20 = .ok (.iload_n 3, 1) := by decide +kernel
theorem dX9_toldPerson_21 : decode cX9_toldPerson 21 = .ok (.invokevirtual 151, 3) := by decide +kernel
theorem dX9_toldPerson_24 : decode cX9_toldPerson 24 = .ok (.istore 4, 2) := by decide +kernel
theorem dX9_toldPerson_26 : decode cX9_toldPerson 26 = .ok (.iload 4, 2) := by decide +kernel
theorem dX9_toldPerson_28 : decode cX9_toldPerson 28 = .ok (.iconst (-1), 1) := by decide +kernel
theorem dX9_toldPerson_29 : decode cX9_toldPerson 29 = .ok (.if_icmp .ne 9, 3) := by decide +kernel
theorem dX9_toldPerson_32 : decode cX9_toldPerson 32 = .ok (.aload_n 1, 1) := by decide +kernel
theorem dX9_toldPerson_33 : decode cX9_toldPerson 33 = .ok (.iconst 3, 1) := by decide +kernel
theorem dX9_toldPerson_34 : decode cX9_toldPerson 34 = .ok (.iload_n 2, 1) := by decide +kernel
theorem dX9_toldPerson_35 : decode cX9_toldPerson 35 = .ok (.invokevirtual 76, 3) := by decide +kernel
theorem dX9_toldPerson_38 : decode cX9_toldPerson 38 = .ok (.iload 4, 2) := by decide +kernel
theorem dX9_toldPerson_40 : decode cX9_toldPerson 40 = .ok (.ireturn, 1) := by decide +kernel
theorem dX9_personOf_0 : decode cX9_personOf 0 = .ok (.iconst 0, 1) := by decide +kernel
theorem dX9_personOf_1 : decode cX9_personOf 1 = .ok (.istore_n 2, 1) := by decide +kernel
theorem dX9_personOf_2 : decode cX9_personOf 2 = .ok (.iload_n 2, 1) := by decide +kernel
theorem dX9_personOf_3 : decode cX9_personOf 3 = .ok (.aload_n 0, 1) := by decide +kernel
theorem dX9_personOf_4 : decode cX9_personOf 4 = .ok (.getfield 15, 3) := by decide +kernel
theorem dX9_personOf_7 : decode cX9_personOf 7 = .ok (.if_icmp .ge 21, 3) := by decide +kernel
theorem dX9_personOf_10 : decode cX9_personOf 10 = .ok (.aload_n 0, 1) := by decide +kernel
theorem dX9_personOf_11 : decode cX9_personOf 11 = .ok (.getfield 18, 3) := by decide +kernel
theorem dX9_personOf_14 : decode cX9_personOf 14 = .ok (.iload_n 2, 1) := by decide +kernel
theorem dX9_personOf_15 : decode cX9_personOf 15 = .ok (.iaload, 1) := by decide +kernel
theorem dX9_personOf_16 : decode cX9_personOf 16 = .ok (.iload_n 1, 1) := by decide +kernel
theorem dX9_personOf_17 : decode cX9_personOf 17 = .ok (.if_icmp .ne 5, 3) := by decide +kernel
theorem dX9_personOf_20 : decode cX9_personOf 20 = .ok (.iload_n 2, 1) := by decide +kernel
theorem dX9_personOf_21 : decode cX9_personOf 21 = .ok (.ireturn, 1) := by decide +kernel
theorem dX9_personOf_22 : decode cX9_personOf 22 = .ok (.iinc 2 1, 3) := by decide +kernel
theorem dX9_personOf_25 : decode cX9_personOf 25 = .ok (.goto (-23), 3) := by decide +kernel
theorem dX9_personOf_28 : decode cX9_personOf 28 = .ok (.iconst (-1), 1) := by decide +kernel
theorem dX9_personOf_29 : decode cX9_personOf 29 = .ok (.ireturn, 1) := by decide +kernel
theorem dX9_boxOf_0 : decode cX9_boxOf 0 = .ok (.iconst 0, 1) := by decide +kernel
theorem dX9_boxOf_1 : decode cX9_boxOf 1 = .ok (.istore_n 2, 1) := by decide +kernel
theorem dX9_boxOf_2 : decode cX9_boxOf 2 = .ok (.iload_n 2, 1) := by decide +kernel
theorem dX9_boxOf_3 : decode cX9_boxOf 3 = .ok (.aload_n 0, 1) := by decide +kernel
theorem dX9_boxOf_4 : decode cX9_boxOf 4 = .ok (.getfield 34, 3) := by decide +kernel
theorem dX9_boxOf_7 : decode cX9_boxOf 7 = .ok (.if_icmp .ge 21, 3) := by decide +kernel
theorem dX9_boxOf_10 : decode cX9_boxOf 10 = .ok (.aload_n 0, 1) := by decide +kernel
theorem dX9_boxOf_11 : decode cX9_boxOf 11 = .ok (.getfield 37, 3) := by decide +kernel
theorem dX9_boxOf_14 : decode cX9_boxOf 14 = .ok (.iload_n 2, 1) := by decide +kernel
theorem dX9_boxOf_15 : decode cX9_boxOf 15 = .ok (.iaload, 1) := by decide +kernel
theorem dX9_boxOf_16 : decode cX9_boxOf 16 = .ok (.iload_n 1, 1) := by decide +kernel
theorem dX9_boxOf_17 : decode cX9_boxOf 17 = .ok (.if_icmp .ne 5, 3) := by decide +kernel
theorem dX9_boxOf_20 : decode cX9_boxOf 20 = .ok (.iload_n 2, 1) := by decide +kernel
theorem dX9_boxOf_21 : decode cX9_boxOf 21 = .ok (.ireturn, 1) := by decide +kernel
theorem dX9_boxOf_22 : decode cX9_boxOf 22 = .ok (.iinc 2 1, 3) := by decide +kernel
theorem dX9_boxOf_25 : decode cX9_boxOf 25 = .ok (.goto (-23), 3) := by decide +kernel
theorem dX9_boxOf_28 : decode cX9_boxOf 28 = .ok (.iconst (-1), 1) := by decide +kernel
theorem dX9_boxOf_29 : decode cX9_boxOf 29 = .ok (.ireturn, 1) := by decide +kernel
theorem dX10_init_0 : decode cX10_init 0 = .ok (.aload_n 0, 1) := by decide +kernel
theorem dX10_init_1 : decode cX10_init 1 = .ok (.invokespecial 3, 3) := by decide +kernel
theorem dX10_init_4 : decode cX10_init 4 = .ok (.aload_n 0, 1) := by decide +kernel
theorem dX10_init_5 : decode cX10_init 5 = .ok (.sipush 1601, 3) := by decide +kernel
theorem dX10_init_8 : decode cX10_init 8 = .ok (.newarray .int, 2) := by decide +kernel
theorem dX10_init_10 : decode cX10_init 10 = .ok (.putfield 9, 3) := by decide +kernel
theorem dX10_init_13 : decode cX10_init 13 = .ok (.aload_n 0, 1) := by decide +kernel
theorem dX10_init_14 : decode cX10_init 14 = .ok (.sipush 1601, 3) := by decide +kernel
theorem dX10_init_17 : decode cX10_init 17 = .ok (.newarray .int, 2) := by decide +kernel
theorem dX10_init_19 : decode cX10_init 19 = .ok (.putfield 15, 3) := by decide +kernel
theorem dX10_init_22 : decode cX10_init 22 = .ok (.aload_n 0, 1) := by decide +kernel
theorem dX10_init_23 : decode cX10_init 23 = .ok (.sipush 1601, 3) := by decide +kernel
theorem dX10_init_26 : decode cX10_init 26 = .ok (.newarray .int, 2) := by decide +kernel
theorem dX10_init_28 : decode cX10_init 28 = .ok (.putfield 18, 3) := by decide +kernel
theorem dX10_init_31 : decode cX10_init 31 = .ok (.aload_n 0, 1) := by decide +kernel
theorem dX10_init_32 : decode cX10_init 32 = .ok (.sipush 1601, 3) := by decide +kernel
theorem dX10_init_35 : decode cX10_init 35 = .ok (.newarray .int, 2) := by decide +kernel
theorem dX10_init_37 : decode cX10_init 37 = .ok (.putfield 21, 3) := by decide +kernel
theorem dX10_init_40 : decode cX10_init 40 = .ok (.aload_n 0, 1) := by decide +kernel
theorem dX10_init_41 : decode cX10_init 41 = .ok (.sipush 1601, 3) := by decide +kernel
theorem dX10_init_44 : decode cX10_init 44 = .ok (.newarray .int, 2) := by decide +kernel
theorem dX10_init_46 : decode cX10_init 46 = .ok (.putfield 24, 3) := by decide +kernel
theorem dX10_init_49 : decode cX10_init 49 = .ok (.aload_n 0, 1) := by decide +kernel
theorem dX10_init_50 : decode cX10_init 50 = .ok (.bipush 30, 2) := by decide +kernel
theorem dX10_init_52 : decode cX10_init 52 = .ok (.newarray .int, 2) := by decide +kernel
theorem dX10_init_54 : decode cX10_init 54 = .ok (.putfield 27, 3) := by decide +kernel
theorem dX10_init_57 : decode cX10_init 57 = .ok (.aload_n 0, 1) := by decide +kernel
theorem dX10_init_58 : decode cX10_init 58 = .ok (.iconst 0, 1) := by decide +kernel
theorem dX10_init_59 : decode cX10_init 59 = .ok (.putfield 30, 3) := by decide +kernel
theorem dX10_init_62 : decode cX10_init 62 = .ok (.aload_n 0, 1) := by decide +kernel
theorem dX10_init_63 : decode cX10_init 63 = .ok (.iconst 3, 1) := by decide +kernel
theorem dX10_init_64 : decode cX10_init 64 = .ok (.putfield 34, 3) := by decide +kernel
theorem dX10_init_67 : decode cX10_init 67 = .ok (.aload_n 0, 1) := by decide +kernel
theorem dX10_init_68 : decode cX10_init 68 = .ok (.iconst 0, 1) := by decide +kernel
theorem dX10_init_69 : decode cX10_init 69 = .ok (.putfield 37, 3) := by decide +kernel
theorem dX10_init_72 : decode cX10_init 72 = .ok (.aload_n 0, 1) := by decide +kernel
theorem dX10_init_73 : decode cX10_init 73 = .ok (.iconst 0, 1) := by decide +kernel
theorem dX10_init_74 : decode cX10_init 74 = .ok (.putfield 40, 3) := by decide +kernel
theorem dX10_init_77 : decode cX10_init 77 = .ok (.aload_n 0, 1) := by decide +kernel
theorem dX10_init_78 : decode cX10_init 78 = .ok (.iconst 0, 1) := by decide +kernel
theorem dX10_init_79 : decode cX10_init 79 = .ok (.putfield 43, 3) := by decide +kernel
theorem dX10_init_82 : decode cX10_init 82 = .ok (.aload_n 0, 1) := by decide +kernel
theorem dX10_init_83 : decode cX10_init 83 = .ok (.iconst (-1), 1) := by decide +kernel
theorem dX10_init_84 : decode cX10_init 84 = .ok (.putfield 46, 3) := by decide +kernel
theorem dX10_init_87 : decode cX10_init 87 = .ok (.iconst 0, 1) := by decide +kernel
theorem dX10_init_88 : decode cX10_init 88 = .ok (.istore_n 1, 1) := by decide +kernel
theorem dX10_init_89 : decode cX10_init 89 = .ok (.iconst 0, 1) := by decide +kernel
theorem dX10_init_90 : decode cX10_init 90 = .ok (.istore_n 2, 1) := by decide +kernel
theorem dX10_init_91 : decode cX10_init 91 = .ok (.iconst 0, 1) := by decide +kernel
theorem dX10_init_92 : decode cX10_init 92 = .ok (.istore_n 3, 1) := by decide +kernel
theorem dX10_init_93 : decode cX10_init 93 = .ok (.iload_n 3, 1) := by decide +kernel
theorem dX10_init_94 : decode cX10_init 94 = .ok (.ldc 49, 2) := by decide +kernel
theorem dX10_init_96 : decode cX10_init 96 = .ok (.invokevirtual 51, 3) := by decide +kernel
theorem dX10_init_99 : decode cX10_init 99 = .ok (.if_icmp .ge 69, 3) := by decide +kernel
theorem dX10_init_102 : decode cX10_init 102 = .ok (.iload_n 1, 1) := by decide +kernel
theorem dX10_init_103 : decode cX10_init 103 = .ok (.bipush 30, 2) := by decide +kernel
theorem dX10_init_105 : decode cX10_init 105 = .ok (.if_icmp .ge 63, 3) := by decide +kernel
theorem dX10_init_108 : decode cX10_init 108 = .ok (.ldc 49, 2) := by decide +kernel
theorem dX10_init_110 : decode cX10_init 110 = .ok (.iload_n 3, 1) := by decide +kernel
theorem dX10_init_111 : decode cX10_init 111 = .ok (.invokevirtual 57, 3) := by decide +kernel
theorem dX10_init_114 : decode cX10_init 114 = .ok (.bipush 32, 2) := by decide +kernel
theorem dX10_init_116 : decode cX10_init 116 = .ok (.if_icmp .ne 11, 3) := by decide +kernel
theorem dX10_init_119 : decode cX10_init 119 = .ok (.iinc 1 1, 3) := by decide +kernel
theorem dX10_init_122 : decode cX10_init 122 = .ok (.iconst 0, 1) := by decide +kernel
theorem dX10_init_123 : decode cX10_init 123 = .ok (.istore_n 2, 1) := by decide +kernel
theorem dX10_init_124 : decode cX10_init 124 = .ok (.goto 38, 3) := by decide +kernel
theorem dX10_init_127 : decode cX10_init 127 = .ok (.iload_n 2, 1) := by decide +kernel
theorem dX10_init_128 : decode cX10_init 128 = .ok (.bipush 6, 2) := by decide +kernel
theorem dX10_init_130 : decode cX10_init 130 = .ok (.if_icmp .ge 32, 3) := by decide +kernel
theorem dX10_init_133 : decode cX10_init 133 = .ok (.aload_n 0, 1) := by decide +kernel
theorem dX10_init_134 : decode cX10_init 134 = .ok (.getfield 27, 3) := by decide +kernel
theorem dX10_init_137 : decode cX10_init 137 = .ok (.iload_n 1, 1) := by decide +kernel
theorem dX10_init_138 : decode cX10_init 138 = .ok (.dup2, 1) := by decide +kernel
theorem dX10_init_139 : decode cX10_init 139 = .ok (.iaload, 1) := by decide +kernel
theorem dX10_init_140 : decode cX10_init 140 = .ok (.ldc 49, 2) := by decide +kernel
theorem dX10_init_142 : decode cX10_init 142 = .ok (.iload_n 3, 1) := by decide +kernel
theorem dX10_init_143 : decode cX10_init 143 = .ok (.invokevirtual 57, 3) := by decide +kernel
theorem dX10_init_146 : decode cX10_init 146 = .ok (.bipush 97, 2) := by decide +kernel
theorem dX10_init_148 : decode cX10_init 148 = .ok (.isub, 1) := by decide +kernel
theorem dX10_init_149 : decode cX10_init 149 = .ok (.iconst 1, 1) := by decide +kernel
theorem dX10_init_150 : decode cX10_init 150 = .ok (.iadd, 1) := by decide +kernel
theorem dX10_init_151 : decode cX10_init 151 = .ok (.getstatic 61, 3) := by decide +kernel
theorem dX10_init_154 : decode cX10_init 154 = .ok (.iload_n 2, 1) := by decide +kernel
theorem dX10_init_155 : decode cX10_init 155 = .ok (.iaload, 1) := by decide +kernel
theorem dX10_init_156 : decode cX10_init 156 = .ok (.imul, 1) := by decide +kernel
theorem dX10_init_157 : decode cX10_init 157 = .ok (.iadd, 1) := by decide +kernel
theorem dX10_init_158 : decode cX10_init 158 = .ok (.iastore, 1) := by decide +kernel
theorem dX10_init_159 : decode cX10_init 159 = .ok (.iinc 2 1, 3) := by decide +kernel
theorem dX10_init_162 : decode cX10_init 162 = .ok (.iinc 3 1, 3) := by decide +kernel
theorem dX10_init_165 : decode cX10_init 165 = .ok (.goto (-72), 3) := by decide +kernel
theorem dX10_init_168 : decode cX10_init 168 = .ok (.return_, 1) := by decide +kernel
theorem dX10_read_0 : decode cX10_read 0 = .ok (.aload_n 0, 1) := by decide +kernel
theorem dX10_read_1 : decode cX10_read 1 = .ok (.iconst 0, 1) := by decide +kernel
theorem dX10_read_2 : decode cX10_read 2 = .ok (.putfield 30, 3) := by decide +kernel
theorem dX10_read_5 : decode cX10_read 5 = .ok (.aload_n 0, 1) := by decide +kernel
theorem dX10_read_6 : decode cX10_read 6 = .ok (.iconst 3, 1) := by decide +kernel
theorem dX10_read_7 : decode cX10_read 7 = .ok (.putfield 34, 3) := by decide +kernel
theorem dX10_read_10 : decode cX10_read 10 = .ok (.aload_n 0, 1) := by decide +kernel
theorem dX10_read_11 : decode cX10_read 11 = .ok (.iconst 0, 1) := by decide +kernel
theorem dX10_read_12 : decode cX10_read 12 = .ok (.putfield 37, 3) := by decide +kernel
theorem dX10_read_15 : decode cX10_read 15 = .ok (.aload_n 0, 1) := by decide +kernel
theorem dX10_read_16 : decode cX10_read 16 = .ok (.iconst 0, 1) := by decide +kernel
theorem dX10_read_17 : decode cX10_read 17 = .ok (.putfield 40, 3) := by decide +kernel
theorem dX10_read_20 : decode cX10_read 20 = .ok (.aload_n 0, 1) := by decide +kernel
theorem dX10_read_21 : decode cX10_read 21 = .ok (.iconst 0, 1) := by decide +kernel
theorem dX10_read_22 : decode cX10_read 22 = .ok (.putfield 43, 3) := by decide +kernel
theorem dX10_read_25 : decode cX10_read 25 = .ok (.aload_n 0, 1) := by decide +kernel
theorem dX10_read_26 : decode cX10_read 26 = .ok (.iconst (-1), 1) := by decide +kernel
theorem dX10_read_27 : decode cX10_read 27 = .ok (.putfield 46, 3) := by decide +kernel
theorem dX10_read_30 : decode cX10_read 30 = .ok (.iconst 0, 1) := by decide +kernel
theorem dX10_read_31 : decode cX10_read 31 = .ok (.istore_n 3, 1) := by decide +kernel
theorem dX10_read_32 : decode cX10_read 32 = .ok (.iload_n 3, 1) := by decide +kernel
theorem dX10_read_33 : decode cX10_read 33 = .ok (.iload_n 2, 1) := by decide +kernel
theorem dX10_read_34 : decode cX10_read 34 = .ok (.if_icmp .ge 23, 3) := by decide +kernel
theorem dX10_read_37 : decode cX10_read 37 = .ok (.iload_n 3, 1) := by decide +kernel
theorem dX10_read_38 : decode cX10_read 38 = .ok (.aload_n 1, 1) := by decide +kernel
theorem dX10_read_39 : decode cX10_read 39 = .ok (.arraylength, 1) := by decide +kernel
theorem dX10_read_40 : decode cX10_read 40 = .ok (.if_icmp .ge 17, 3) := by decide +kernel
theorem dX10_read_43 : decode cX10_read 43 = .ok (.aload_n 0, 1) := by decide +kernel
theorem dX10_read_44 : decode cX10_read 44 = .ok (.aload_n 1, 1) := by decide +kernel
theorem dX10_read_45 : decode cX10_read 45 = .ok (.iload_n 3, 1) := by decide +kernel
theorem dX10_read_46 : decode cX10_read 46 = .ok (.iaload, 1) := by decide +kernel
theorem dX10_read_47 : decode cX10_read 47 = .ok (.iload_n 3, 1) := by decide +kernel
theorem dX10_read_48 : decode cX10_read 48 = .ok (.invokevirtual 64, 3) := by decide +kernel
theorem dX10_read_51 : decode cX10_read 51 = .ok (.iinc 3 1, 3) := by decide +kernel
theorem dX10_read_54 : decode cX10_read 54 = .ok (.goto (-22), 3) := by decide +kernel
theorem dX10_read_57 : decode cX10_read 57 = .ok (.aload_n 0, 1) := by decide +kernel
theorem dX10_read_58 : decode cX10_read 58 = .ok (.iconst 0, 1) := by decide +kernel
theorem dX10_read_59 : decode cX10_read 59 = .ok (.iload_n 2, 1) := by decide +kernel
theorem dX10_read_60 : decode cX10_read 60 = .ok (.invokevirtual 68, 3) := by decide +kernel
theorem dX10_read_63 : decode cX10_read 63 = .ok (.iconst 0, 1) := by decide +kernel
theorem dX10_read_64 : decode cX10_read 64 = .ok (.istore_n 3, 1) := by decide +kernel
theorem dX10_read_65 : decode cX10_read 65 = .ok (.iload_n 3, 1) := by decide +kernel
theorem dX10_read_66 : decode cX10_read 66 = .ok (.aload_n 0, 1) := by decide +kernel
theorem dX10_read_67 : decode cX10_read 67 = .ok (.getfield 30, 3) := by decide +kernel
theorem dX10_read_70 : decode cX10_read 70 = .ok (.if_icmp .ge 50, 3) := by decide +kernel
theorem dX10_read_73 : decode cX10_read 73 = .ok (.aload_n 0, 1) := by decide +kernel
theorem dX10_read_74 : decode cX10_read 74 = .ok (.getfield 24, 3) := by decide +kernel
theorem dX10_read_77 : decode cX10_read 77 = .ok (.iload_n 3, 1) := by decide +kernel
theorem dX10_read_78 : decode cX10_read 78 = .ok (.aload_n 0, 1) := by decide +kernel
theorem dX10_read_79 : decode cX10_read 79 = .ok (.getfield 9, 3) := by decide +kernel
theorem dX10_read_82 : decode cX10_read 82 = .ok (.iload_n 3, 1) := by decide +kernel
theorem dX10_read_83 : decode cX10_read 83 = .ok (.iaload, 1) := by decide +kernel
theorem dX10_read_84 : decode cX10_read 84 = .ok (.iconst 1, 1) := by decide +kernel
theorem dX10_read_85 : decode cX10_read 85 = .ok (.if_icmp .ne 27, 3) := by decide +kernel
theorem dX10_read_88 : decode cX10_read 88 = .ok (.aload_n 0, 1) := by decide +kernel
theorem dX10_read_89 : decode cX10_read 89 = .ok (.getfield 21, 3) := by decide +kernel
theorem dX10_read_92 : decode cX10_read 92 = .ok (.iload_n 3, 1) := by decide +kernel
theorem dX10_read_93 : decode cX10_read 93 = .ok (.iaload, 1) := by decide +kernel
theorem dX10_read_94 : decode cX10_read 94 = .ok (.bipush 6, 2) := by decide +kernel
theorem dX10_read_96 : decode cX10_read 96 = .ok (.if_icmp .gt 16, 3) := by decide +kernel
theorem dX10_read_99 : decode cX10_read 99 = .ok (.aload_n 0, 1) := by decide +kernel
theorem dX10_read_100 : decode cX10_read 100 = .ok (.aload_n 0, 1) := by decide +kernel
theorem dX10_read_101 : decode cX10_read 101 = .ok (.getfield 18, 3) := by decide +kernel
theorem dX10_read_104 : decode cX10_read 104 = .ok (.iload_n 3, 1) := by decide +kernel
theorem dX10_read_105 : decode cX10_read 105 = .ok (.iaload, 1) := by decide +kernel
theorem dX10_read_106 : decode cX10_read 106 = .ok (.invokevirtual 71, 3) := by decide +kernel
theorem dX10_read_109 : decode cX10_read 109 = .ok (.goto 4, 3) := by decide +kernel
theorem dX10_read_112 : decode cX10_read 112 = .ok (.iconst (-1), 1) := by decide +kernel
theorem dX10_read_113 : decode cX10_read 113 = .ok (.iastore, 1) := by decide +kernel
theorem dX10_read_114 : decode cX10_read 114 = .ok (.iinc 3 1, 3) := by decide +kernel
theorem dX10_read_117 : decode cX10_read 117 = .ok (.goto (-52), 3) := by decide +kernel
theorem dX10_read_120 : decode cX10_read 120 = .ok (.return_, 1) := by decide +kernel
theorem dX10_take_0 : decode cX10_take 0 = .ok (.iload_n 1, 1) := by decide +kernel
theorem dX10_take_1 : decode cX10_take 1 = .ok (.bipush 97, 2) := by decide +kernel
theorem dX10_take_3 : decode cX10_take 3 = .ok (.if_icmp .lt 36, 3) := by decide +kernel
theorem dX10_take_6 : decode cX10_take 6 = .ok (.iload_n 1, 1) := by decide +kernel
theorem dX10_take_7 : decode cX10_take 7 = .ok (.bipush 122, 2) := by decide +kernel
theorem dX10_take_9 : decode cX10_take 9 = .ok (.if_icmp .gt 30, 3) := by decide +kernel
theorem dX10_take_12 : decode cX10_take 12 = .ok (.aload_n 0, 1) := by decide +kernel
theorem dX10_take_13 : decode cX10_take 13 = .ok (.getfield 34, 3) := by decide +kernel
theorem dX10_take_16 : decode cX10_take 16 = .ok (.iconst 1, 1) := by decide +kernel
theorem dX10_take_17 : decode cX10_take 17 = .ok (.if_icmp .eq 9, 3) := by decide +kernel
theorem dX10_take_20 : decode cX10_take 20 = .ok (.aload_n 0, 1) := by decide +kernel
theorem dX10_take_21 : decode cX10_take 21 = .ok (.iconst 1, 1) := by decide +kernel
theorem dX10_take_22 : decode cX10_take 22 = .ok (.iload_n 2, 1) := by decide +kernel
theorem dX10_take_23 : decode cX10_take 23 = .ok (.invokevirtual 68, 3) := by decide +kernel
theorem dX10_take_26 : decode cX10_take 26 = .ok (.aload_n 0, 1) := by decide +kernel
theorem dX10_take_27 : decode cX10_take 27 = .ok (.iload_n 1, 1) := by decide +kernel
theorem dX10_take_28 : decode cX10_take 28 = .ok (.bipush 97, 2) := by decide +kernel
theorem dX10_take_30 : decode cX10_take 30 = .ok (.isub, 1) := by decide +kernel
theorem dX10_take_31 : decode cX10_take 31 = .ok (.iconst 1, 1) := by decide +kernel
theorem dX10_take_32 : decode cX10_take 32 = .ok (.iadd, 1) := by decide +kernel
theorem dX10_take_33 : decode cX10_take 33 = .ok (.invokevirtual 75, 3) := by decide +kernel
theorem dX10_take_36 : decode cX10_take 36 = .ok (.goto 78, 3) := by decide +kernel
theorem dX10_take_39 : decode cX10_take 39 = .ok (.iload_n 1, 1) := by decide +kernel
theorem dX10_take_40 : decode cX10_take 40 = .ok (.bipush 48, 2) := by decide +kernel
theorem dX10_take_42 : decode cX10_take 42 = .ok (.if_icmp .lt 34, 3) := by decide +kernel
theorem dX10_take_45 : decode cX10_take 45 = .ok (.iload_n 1, 1) := by decide +kernel
theorem dX10_take_46 : decode cX10_take 46 = .ok (.bipush 57, 2) := by decide +kernel
theorem dX10_take_48 : decode cX10_take 48 = .ok (.if_icmp .gt 28, 3) := by decide +kernel
theorem dX10_take_51 : decode cX10_take 51 = .ok (.aload_n 0, 1) := by decide +kernel
theorem dX10_take_52 : decode cX10_take 52 = .ok (.getfield 34, 3) := by decide +kernel
theorem dX10_take_55 : decode cX10_take 55 = .ok (.iconst 2, 1) := by decide +kernel
theorem dX10_take_56 : decode cX10_take 56 = .ok (.if_icmp .eq 9, 3) := by decide +kernel
theorem dX10_take_59 : decode cX10_take 59 = .ok (.aload_n 0, 1) := by decide +kernel
theorem dX10_take_60 : decode cX10_take 60 = .ok (.iconst 2, 1) := by decide +kernel
theorem dX10_take_61 : decode cX10_take 61 = .ok (.iload_n 2, 1) := by decide +kernel
theorem dX10_take_62 : decode cX10_take 62 = .ok (.invokevirtual 68, 3) := by decide +kernel
theorem dX10_take_65 : decode cX10_take 65 = .ok (.aload_n 0, 1) := by decide +kernel
theorem dX10_take_66 : decode cX10_take 66 = .ok (.iload_n 1, 1) := by decide +kernel
theorem dX10_take_67 : decode cX10_take 67 = .ok (.bipush 48, 2) := by decide +kernel
theorem dX10_take_69 : decode cX10_take 69 = .ok (.isub, 1) := by decide +kernel
theorem dX10_take_70 : decode cX10_take 70 = .ok (.invokevirtual 79, 3) := by decide +kernel
theorem dX10_take_73 : decode cX10_take 73 = .ok (.goto 41, 3) := by decide +kernel
theorem dX10_take_76 : decode cX10_take 76 = .ok (.iload_n 1, 1) := by decide +kernel
theorem dX10_take_77 : decode cX10_take 77 = .ok (.bipush 10, 2) := by decide +kernel
theorem dX10_take_79 : decode cX10_take 79 = .ok (.if_icmp .eq 9, 3) := by decide +kernel
theorem dX10_take_82 : decode cX10_take 82 = .ok (.iload_n 1, 1) := by decide +kernel
theorem dX10_take_83 : decode cX10_take 83 = .ok (.bipush 32, 2) := by decide +kernel
theorem dX10_take_85 : decode cX10_take 85 = .ok (.if_icmp .ne 11, 3) := by decide +kernel
theorem dX10_take_88 : decode cX10_take 88 = .ok (.aload_n 0, 1) := by decide +kernel
theorem dX10_take_89 : decode cX10_take 89 = .ok (.iconst 3, 1) := by decide +kernel
theorem dX10_take_90 : decode cX10_take 90 = .ok (.putfield 34, 3) := by decide +kernel
theorem dX10_take_93 : decode cX10_take 93 = .ok (.goto 21, 3) := by decide +kernel
theorem dX10_take_96 : decode cX10_take 96 = .ok (.aload_n 0, 1) := by decide +kernel
theorem dX10_take_97 : decode cX10_take 97 = .ok (.iconst 3, 1) := by decide +kernel
theorem dX10_take_98 : decode cX10_take 98 = .ok (.iload_n 2, 1) := by decide +kernel
theorem dX10_take_99 : decode cX10_take 99 = .ok (.invokevirtual 68, 3) := by decide +kernel
theorem dX10_take_102 : decode cX10_take 102 = .ok (.aload_n 0, 1) := by decide +kernel
theorem dX10_take_103 : decode cX10_take 103 = .ok (.getfield 18, 3) := by decide +kernel
theorem dX10_take_106 : decode cX10_take 106 = .ok (.aload_n 0, 1) := by decide +kernel
theorem dX10_take_107 : decode cX10_take 107 = .ok (.getfield 30, 3) := by decide +kernel
theorem dX10_take_110 : decode cX10_take 110 = .ok (.iconst 1, 1) := by decide +kernel
theorem dX10_take_111 : decode cX10_take 111 = .ok (.isub, 1) := by decide +kernel
theorem dX10_take_112 : decode cX10_take 112 = .ok (.iload_n 1, 1) := by decide +kernel
theorem dX10_take_113 : decode cX10_take 113 = .ok (.iastore, 1) := by decide +kernel
theorem dX10_take_114 : decode cX10_take 114 = .ok (.return_, 1) := by decide +kernel
theorem dX10_start_0 : decode cX10_start 0 = .ok (.iload_n 1, 1) := by decide +kernel
theorem dX10_start_1 : decode cX10_start 1 = .ok (.iconst 1, 1) := by decide +kernel
theorem dX10_start_2 : decode cX10_start 2 = .ok (.if_icmp .ne 11, 3) := by decide +kernel
theorem dX10_start_5 : decode cX10_start 5 = .ok (.aload_n 0, 1) := by decide +kernel
theorem dX10_start_6 : decode cX10_start 6 = .ok (.getfield 34, 3) := by decide +kernel
theorem dX10_start_9 : decode cX10_start 9 = .ok (.iconst 2, 1) := by decide +kernel
theorem dX10_start_10 : decode cX10_start 10 = .ok (.if_icmp .eq 16, 3) := by decide +kernel
theorem dX10_start_13 : decode cX10_start 13 = .ok (.iload_n 1, 1) := by decide +kernel
theorem dX10_start_14 : decode cX10_start 14 = .ok (.iconst 2, 1) := by decide +kernel
theorem dX10_start_15 : decode cX10_start 15 = .ok (.if_icmp .ne 15, 3) := by decide +kernel
theorem dX10_start_18 : decode cX10_start 18 = .ok (.aload_n 0, 1) := by decide +kernel
theorem dX10_start_19 : decode cX10_start 19 = .ok (.getfield 34, 3) := by decide +kernel
theorem dX10_start_22 : decode cX10_start 22 = .ok (.iconst 1, 1) := by decide +kernel
theorem dX10_start_23 : decode cX10_start 23 = .ok (.if_icmp .ne 7, 3) := by decide +kernel
theorem dX10_start_26 : decode cX10_start 26 = .ok (.iconst 1, 1) := by decide +kernel
theorem dX10_start_27 : decode cX10_start 27 = .ok (.goto 4, 3) := by decide +kernel
theorem dX10_start_30 : decode cX10_start 30 = .ok (.iconst 0, 1) := by decide +kernel
theorem dX10_start_31 : decode cX10_start 31 = .ok (.istore_n 3, 1) := by decide +kernel
theorem dX10_start_32 : decode cX10_start 32 = .ok (.aload_n 0, 1) := by decide +kernel
theorem dX10_start_33 : decode cX10_start 33 = .ok (.getfield 30, 3) := by decide +kernel
theorem dX10_start_36 : decode cX10_start 36 = .ok (.aload_n 0, 1) := by decide +kernel
theorem dX10_start_37 : decode cX10_start 37 = .ok (.getfield 9, 3) := by decide +kernel
theorem dX10_start_40 : decode cX10_start 40 = .ok (.arraylength, 1) := by decide +kernel
theorem dX10_start_41 : decode cX10_start 41 = .ok (.if_icmp .ge 61, 3) := by decide +kernel
theorem dX10_start_44 : decode cX10_start 44 = .ok (.aload_n 0, 1) := by decide +kernel
theorem dX10_start_45 : decode cX10_start 45 = .ok (.getfield 9, 3) := by decide +kernel
theorem dX10_start_48 : decode cX10_start 48 = .ok (.aload_n 0, 1) := by decide +kernel
theorem dX10_start_49 : decode cX10_start 49 = .ok (.getfield 30, 3) := by decide +kernel
theorem dX10_start_52 : decode cX10_start 52 = .ok (.iload_n 3, 1) := by decide +kernel
theorem dX10_start_53 : decode cX10_start 53 = .ok (.ifCond .eq 7, 3) := by decide +kernel
theorem dX10_start_56 : decode cX10_start 56 = .ok (.iconst 4, 1) := by decide +kernel
theorem dX10_start_57 : decode cX10_start 57 = .ok (.goto 4, 3) := by decide +kernel
theorem dX10_start_60 : decode cX10_start 60 = .ok (.iload_n 1, 1) := by decide +kernel
theorem dX10_start_61 : decode cX10_start 61 = .ok (.iastore, 1) := by decide +kernel
theorem dX10_start_62 : decode cX10_start 62 = .ok (.aload_n 0, 1) := by decide +kernel
theorem dX10_start_63 : decode cX10_start 63 = .ok (.getfield 15, 3) := by decide +kernel
theorem dX10_start_66 : decode cX10_start 66 = .ok (.aload_n 0, 1) := by decide +kernel
theorem dX10_start_67 : decode cX10_start 67 = .ok (.getfield 30, 3) := by decide +kernel
theorem dX10_start_70 : decode cX10_start 70 = .ok (.iload_n 2, 1) := by decide +kernel
theorem dX10_start_71 : decode cX10_start 71 = .ok (.iastore, 1) := by decide +kernel
theorem dX10_start_72 : decode cX10_start 72 = .ok (.aload_n 0, 1) := by decide +kernel
theorem dX10_start_73 : decode cX10_start 73 = .ok (.getfield 18, 3) := by decide +kernel
theorem dX10_start_76 : decode cX10_start 76 = .ok (.aload_n 0, 1) := by decide +kernel
theorem dX10_start_77 : decode cX10_start 77 = .ok (.getfield 30, 3) := by decide +kernel
theorem dX10_start_80 : decode cX10_start 80 = .ok (.iconst 0, 1) := by decide +kernel
theorem dX10_start_81 : decode cX10_start 81 = .ok (.iastore, 1) := by decide +kernel
theorem dX10_start_82 : decode cX10_start 82 = .ok (.aload_n 0, 1) := by decide +kernel
theorem dX10_start_83 : decode cX10_start 83 = .ok (.getfield 21, 3) := by decide +kernel
theorem dX10_start_86 : decode cX10_start 86 = .ok (.aload_n 0, 1) := by decide +kernel
theorem dX10_start_87 : decode cX10_start 87 = .ok (.getfield 30, 3) := by decide +kernel
theorem dX10_start_90 : decode cX10_start 90 = .ok (.iconst 0, 1) := by decide +kernel
theorem dX10_start_91 : decode cX10_start 91 = .ok (.iastore, 1) := by decide +kernel
theorem dX10_start_92 : decode cX10_start 92 = .ok (.aload_n 0, 1) := by decide +kernel
theorem dX10_start_93 : decode cX10_start 93 = .ok (.dup, 1) := by decide +kernel
theorem dX10_start_94 : decode cX10_start 94 = .ok (.getfield 30, 3) := by decide +kernel
theorem dX10_start_97 : decode cX10_start 97 = .ok (.iconst 1, 1) := by decide +kernel
theorem dX10_start_98 : decode cX10_start 98 = .ok (.iadd, 1) := by decide +kernel
theorem dX10_start_99 : decode cX10_start 99 = .ok (.putfield 30, 3) := by decide +kernel
theorem dX10_start_102 : decode cX10_start 102 = .ok (.aload_n 0, 1) := by decide +kernel
theorem dX10_start_103 : decode cX10_start 103 = .ok (.iload_n 1, 1) := by decide +kernel
theorem dX10_start_104 : decode cX10_start 104 = .ok (.putfield 34, 3) := by decide +kernel
theorem dX10_start_107 : decode cX10_start 107 = .ok (.return_, 1) := by decide +kernel
theorem dX10_addLetter_0 : decode cX10_addLetter 0 = .ok (.aload_n 0, 1) := by decide +kernel
theorem dX10_addLetter_1 : decode cX10_addLetter 1 = .ok (.getfield 30, 3) := by decide +kernel
theorem dX10_addLetter_4 : decode cX10_addLetter 4 = .ok (.iconst 1, 1) := by decide +kernel
theorem dX10_addLetter_5 : decode cX10_addLetter 5 = .ok (.isub, 1) := by decide +kernel
theorem dX10_addLetter_6 : decode cX10_addLetter 6 = .ok (.istore_n 2, 1) := by decide +kernel
theorem dX10_addLetter_7 : decode cX10_addLetter 7 = .ok (.aload_n 0, 1) := by decide +kernel
theorem dX10_addLetter_8 : decode cX10_addLetter 8 = .ok (.getfield 21, 3) := by decide +kernel
theorem dX10_addLetter_11 : decode cX10_addLetter 11 = .ok (.iload_n 2, 1) := by decide +kernel
theorem dX10_addLetter_12 : decode cX10_addLetter 12 = .ok (.iaload, 1) := by decide +kernel
theorem dX10_addLetter_13 : decode cX10_addLetter 13 = .ok (.bipush 6, 2) := by decide +kernel
theorem dX10_addLetter_15 : decode cX10_addLetter 15 = .ok (.if_icmp .ge 24, 3) := by decide +kernel
theorem dX10_addLetter_18 : decode cX10_addLetter 18 = .ok (.aload_n 0, 1) := by decide +kernel
theorem dX10_addLetter_19 : decode cX10_addLetter 19 = .ok (.getfield 18, 3) := by decide +kernel
theorem dX10_addLetter_22 : decode cX10_addLetter 22 = .ok (.iload_n 2, 1) := by decide +kernel
theorem dX10_addLetter_23 : decode cX10_addLetter 23 = .ok (.dup2, 1) := by decide +kernel
theorem dX10_addLetter_24 : decode cX10_addLetter 24 = .ok (.iaload, 1) := by decide +kernel
theorem dX10_addLetter_25 : decode cX10_addLetter 25 = .ok (.iload_n 1, 1) := by decide +kernel
theorem dX10_addLetter_26 : decode cX10_addLetter 26 = .ok (.getstatic 61, 3) := by decide +kernel
theorem dX10_addLetter_29 : decode cX10_addLetter 29 = .ok (.aload_n 0, 1) := by decide +kernel
theorem dX10_addLetter_30 : decode cX10_addLetter 30 = .ok (.getfield 21, 3) := by decide +kernel
theorem dX10_addLetter_33 : decode cX10_addLetter 33 = .ok (.iload_n 2, 1) := by decide +kernel
theorem dX10_addLetter_34 : decode cX10_addLetter 34 = .ok (.iaload, 1) := by decide +kernel
theorem dX10_addLetter_35 : decode cX10_addLetter 35 = .ok (.iaload, 1) := by decide +kernel
theorem dX10_addLetter_36 : decode cX10_addLetter 36 = .ok (.imul, 1) := by decide +kernel
theorem dX10_addLetter_37 : decode cX10_addLetter 37 = .ok (.iadd, 1) := by decide +kernel
theorem dX10_addLetter_38 : decode cX10_addLetter 38 = .ok (.iastore, 1) := by decide +kernel
theorem dX10_addLetter_39 : decode cX10_addLetter 39 = .ok (.aload_n 0, 1) := by decide +kernel
theorem dX10_addLetter_40 : decode cX10_addLetter 40 = .ok (.getfield 21, 3) := by decide +kernel
theorem dX10_addLetter_43 : decode cX10_addLetter 43 = .ok (.iload_n 2, 1) := by decide +kernel
theorem dX10_addLetter_44 : decode cX10_addLetter 44 = .ok (.dup2, 1) := by decide +kernel
theorem dX10_addLetter_45 : decode cX10_addLetter 45 = .ok (.iaload, 1) := by decide +kernel
theorem dX10_addLetter_46 : decode cX10_addLetter 46 = .ok (.iconst 1, 1) := by decide +kernel
theorem dX10_addLetter_47 : decode cX10_addLetter 47 = .ok (.iadd, 1) := by decide +kernel
theorem dX10_addLetter_48 : decode cX10_addLetter 48 = .ok (.iastore, 1) := by decide +kernel
theorem dX10_addLetter_49 : decode cX10_addLetter 49 = .ok (.return_, 1) := by decide +kernel
theorem dX10_addDigit_0 : decode cX10_addDigit 0 = .ok (.aload_n 0, 1) := by decide +kernel
theorem dX10_addDigit_1 : decode cX10_addDigit 1 = .ok (.getfield 30, 3) := by decide +kernel
theorem dX10_addDigit_4 : decode cX10_addDigit 4 = .ok (.iconst 1, 1) := by decide +kernel
theorem dX10_addDigit_5 : decode cX10_addDigit 5 = .ok (.isub, 1) := by decide +kernel
theorem dX10_addDigit_6 : decode cX10_addDigit 6 = .ok (.istore_n 2, 1) := by decide +kernel
theorem dX10_addDigit_7 : decode cX10_addDigit 7 = .ok (.aload_n 0, 1) := by decide +kernel
theorem dX10_addDigit_8 : decode cX10_addDigit 8 = .ok (.getfield 21, 3) := by decide +kernel
theorem dX10_addDigit_11 : decode cX10_addDigit 11 = .ok (.iload_n 2, 1) := by decide +kernel
theorem dX10_addDigit_12 : decode cX10_addDigit 12 = .ok (.iaload, 1) := by decide +kernel
theorem dX10_addDigit_13 : decode cX10_addDigit 13 = .ok (.iconst 4, 1) := by decide +kernel
theorem dX10_addDigit_14 : decode cX10_addDigit 14 = .ok (.if_icmp .ge 20, 3) := by decide +kernel
theorem dX10_addDigit_17 : decode cX10_addDigit 17 = .ok (.aload_n 0, 1) := by decide +kernel
theorem dX10_addDigit_18 : decode cX10_addDigit 18 = .ok (.getfield 18, 3) := by decide +kernel
theorem dX10_addDigit_21 : decode cX10_addDigit 21 = .ok (.iload_n 2, 1) := by decide +kernel
theorem dX10_addDigit_22 : decode cX10_addDigit 22 = .ok (.bipush 10, 2) := by decide +kernel
theorem dX10_addDigit_24 : decode cX10_addDigit 24 = .ok (.aload_n 0, 1) := by decide +kernel
theorem dX10_addDigit_25 : decode cX10_addDigit 25 = .ok (.getfield 18, 3) := by decide +kernel
theorem dX10_addDigit_28 : decode cX10_addDigit 28 = .ok (.iload_n 2, 1) := by decide +kernel
theorem dX10_addDigit_29 : decode cX10_addDigit 29 = .ok (.iaload, 1) := by decide +kernel
theorem dX10_addDigit_30 : decode cX10_addDigit 30 = .ok (.imul, 1) := by decide +kernel
theorem dX10_addDigit_31 : decode cX10_addDigit 31 = .ok (.iload_n 1, 1) := by decide +kernel
theorem dX10_addDigit_32 : decode cX10_addDigit 32 = .ok (.iadd, 1) := by decide +kernel
theorem dX10_addDigit_33 : decode cX10_addDigit 33 = .ok (.iastore, 1) := by decide +kernel
theorem dX10_addDigit_34 : decode cX10_addDigit 34 = .ok (.aload_n 0, 1) := by decide +kernel
theorem dX10_addDigit_35 : decode cX10_addDigit 35 = .ok (.getfield 21, 3) := by decide +kernel
theorem dX10_addDigit_38 : decode cX10_addDigit 38 = .ok (.iload_n 2, 1) := by decide +kernel
theorem dX10_addDigit_39 : decode cX10_addDigit 39 = .ok (.dup2, 1) := by decide +kernel
theorem dX10_addDigit_40 : decode cX10_addDigit 40 = .ok (.iaload, 1) := by decide +kernel
theorem dX10_addDigit_41 : decode cX10_addDigit 41 = .ok (.iconst 1, 1) := by decide +kernel
theorem dX10_addDigit_42 : decode cX10_addDigit 42 = .ok (.iadd, 1) := by decide +kernel
theorem dX10_addDigit_43 : decode cX10_addDigit 43 = .ok (.iastore, 1) := by decide +kernel
theorem dX10_addDigit_44 : decode cX10_addDigit 44 = .ok (.return_, 1) := by decide +kernel
theorem dX10_wordOf_0 : decode cX10_wordOf 0 = .ok (.iconst 0, 1) := by decide +kernel
theorem dX10_wordOf_1 : decode cX10_wordOf 1 = .ok (.istore_n 2, 1) := by decide +kernel
theorem dX10_wordOf_2 : decode cX10_wordOf 2 = .ok (.iload_n 2, 1) := by decide +kernel
theorem dX10_wordOf_3 : decode cX10_wordOf 3 = .ok (.bipush 30, 2) := by decide +kernel
theorem dX10_wordOf_5 : decode cX10_wordOf 5 = .ok (.if_icmp .ge 21, 3) := by decide +kernel
theorem dX10_wordOf_8 : decode cX10_wordOf 8 = .ok (.aload_n 0, 1) := by decide +kernel
theorem dX10_wordOf_9 : decode cX10_wordOf 9 = .ok (.getfield 27, 3) := by decide +kernel
theorem dX10_wordOf_12 : decode cX10_wordOf 12 = .ok (.iload_n 2, 1) := by decide +kernel
theorem dX10_wordOf_13 : decode cX10_wordOf 13 = .ok (.iaload, 1) := by decide +kernel
theorem dX10_wordOf_14 : decode cX10_wordOf 14 = .ok (.iload_n 1, 1) := by decide +kernel
theorem dX10_wordOf_15 : decode cX10_wordOf 15 = .ok (.if_icmp .ne 5, 3) := by decide +kernel
theorem dX10_wordOf_18 : decode cX10_wordOf 18 = .ok (.iload_n 2, 1) := by decide +kernel
theorem dX10_wordOf_19 : decode cX10_wordOf 19 = .ok (.ireturn, 1) := by decide +kernel
theorem dX10_wordOf_20 : decode cX10_wordOf 20 = .ok (.iinc 2 1, 3) := by decide +kernel
theorem dX10_wordOf_23 : decode cX10_wordOf 23 = .ok (.goto (-21), 3) := by decide +kernel
theorem dX10_wordOf_26 : decode cX10_wordOf 26 = .ok (.iconst (-1), 1) := by decide +kernel
theorem dX10_wordOf_27 : decode cX10_wordOf 27 = .ok (.ireturn, 1) := by decide +kernel
theorem dX10_failed_0 : decode cX10_failed 0 = .ok (.aload_n 0, 1) := by decide +kernel
theorem dX10_failed_1 : decode cX10_failed 1 = .ok (.getfield 43, 3) := by decide +kernel
theorem dX10_failed_4 : decode cX10_failed 4 = .ok (.ifCond .eq 7, 3) := by decide +kernel
theorem dX10_failed_7 : decode cX10_failed 7 = .ok (.iconst 1, 1) := by decide +kernel
theorem dX10_failed_8 : decode cX10_failed 8 = .ok (.goto 4, 3) := by decide +kernel
theorem dX10_failed_11 : decode cX10_failed 11 = .ok (.iconst 0, 1) := by decide +kernel
theorem dX10_failed_12 : decode cX10_failed 12 = .ok (.ireturn, 1) := by decide +kernel
theorem dX10_fail_0 : decode cX10_fail 0 = .ok (.aload_n 0, 1) := by decide +kernel
theorem dX10_fail_1 : decode cX10_fail 1 = .ok (.getfield 43, 3) := by decide +kernel
theorem dX10_fail_4 : decode cX10_fail 4 = .ok (.ifCond .ne 13, 3) := by decide +kernel
theorem dX10_fail_7 : decode cX10_fail 7 = .ok (.aload_n 0, 1) := by decide +kernel
theorem dX10_fail_8 : decode cX10_fail 8 = .ok (.iload_n 1, 1) := by decide +kernel
theorem dX10_fail_9 : decode cX10_fail 9 = .ok (.putfield 43, 3) := by decide +kernel
theorem dX10_fail_12 : decode cX10_fail 12 = .ok (.aload_n 0, 1) := by decide +kernel
theorem dX10_fail_13 : decode cX10_fail 13 = .ok (.iload_n 2, 1) := by decide +kernel
theorem dX10_fail_14 : decode cX10_fail 14 = .ok (.putfield 46, 3) := by decide +kernel
theorem dX10_fail_17 : decode cX10_fail 17 = .ok (.aload_n 0, 1) := by decide +kernel
theorem dX10_fail_18 : decode cX10_fail 18 = .ok (.aload_n 0, 1) := by decide +kernel
theorem dX10_fail_19 : decode cX10_fail 19 = .ok (.getfield 30, 3) := by decide +kernel
theorem dX10_fail_22 : decode cX10_fail 22 = .ok (.iconst 1, 1) := by decide +kernel
theorem dX10_fail_23 : decode cX10_fail 23 = .ok (.isub, 1) := by decide +kernel
theorem dX10_fail_24 : decode cX10_fail 24 = .ok (.putfield 37, 3) := by decide +kernel
theorem dX10_fail_27 : decode cX10_fail 27 = .ok (.return_, 1) := by decide +kernel
theorem dX10_failHere_0 : decode cX10_failHere 0 = .ok (.aload_n 0, 1) := by decide +kernel
theorem dX10_failHere_1 : decode cX10_failHere 1 = .ok (.iconst 1, 1) := by decide +kernel
theorem dX10_failHere_2 : decode cX10_failHere 2 = .ok (.aload_n 0, 1) := by decide +kernel
theorem dX10_failHere_3 : decode cX10_failHere 3 = .ok (.getfield 15, 3) := by decide +kernel
theorem dX10_failHere_6 : decode cX10_failHere 6 = .ok (.aload_n 0, 1) := by decide +kernel
theorem dX10_failHere_7 : decode cX10_failHere 7 = .ok (.getfield 37, 3) := by decide +kernel
theorem dX10_failHere_10 : decode cX10_failHere 10 = .ok (.iaload, 1) := by decide +kernel
theorem dX10_failHere_11 : decode cX10_failHere 11 = .ok (.invokevirtual 82, 3) := by decide +kernel
theorem dX10_failHere_14 : decode cX10_failHere 14 = .ok (.return_, 1) := by decide +kernel
theorem dX10_place_0 : decode cX10_place 0 = .ok (.aload_n 0, 1) := by decide +kernel
theorem dX10_place_1 : decode cX10_place 1 = .ok (.getfield 15, 3) := by decide +kernel
theorem dX10_place_4 : decode cX10_place 4 = .ok (.aload_n 0, 1) := by decide +kernel
theorem dX10_place_5 : decode cX10_place 5 = .ok (.getfield 37, 3) := by decide +kernel
theorem dX10_place_8 : decode cX10_place 8 = .ok (.iaload, 1) := by decide +kernel
theorem dX10_place_9 : decode cX10_place 9 = .ok (.ireturn, 1) := by decide +kernel
theorem dX10_atEnd_0 : decode cX10_atEnd 0 = .ok (.aload_n 0, 1) := by decide +kernel
theorem dX10_atEnd_1 : decode cX10_atEnd 1 = .ok (.getfield 9, 3) := by decide +kernel
theorem dX10_atEnd_4 : decode cX10_atEnd 4 = .ok (.aload_n 0, 1) := by decide +kernel
theorem dX10_atEnd_5 : decode cX10_atEnd 5 = .ok (.getfield 37, 3) := by decide +kernel
theorem dX10_atEnd_8 : decode cX10_atEnd 8 = .ok (.iaload, 1) := by decide +kernel
theorem dX10_atEnd_9 : decode cX10_atEnd 9 = .ok (.ifCond .ne 7, 3) := by decide +kernel
theorem dX10_atEnd_12 : decode cX10_atEnd 12 = .ok (.iconst 1, 1) := by decide +kernel
theorem dX10_atEnd_13 : decode cX10_atEnd 13 = .ok (.goto 4, 3) := by decide +kernel
theorem dX10_atEnd_16 : decode cX10_atEnd 16 = .ok (.iconst 0, 1) := by decide +kernel
theorem dX10_atEnd_17 : decode cX10_atEnd 17 = .ok (.ireturn, 1) := by decide +kernel
theorem dX10_atNumber_0 : decode cX10_atNumber 0 = .ok (.aload_n 0, 1) := by decide +kernel
theorem dX10_atNumber_1 : decode cX10_atNumber 1 = .ok (.getfield 9, 3) := by decide +kernel
theorem dX10_atNumber_4 : decode cX10_atNumber 4 = .ok (.aload_n 0, 1) := by decide +kernel
theorem dX10_atNumber_5 : decode cX10_atNumber 5 = .ok (.getfield 37, 3) := by decide +kernel
theorem dX10_atNumber_8 : decode cX10_atNumber 8 = .ok (.iaload, 1) := by decide +kernel
theorem dX10_atNumber_9 : decode cX10_atNumber 9 = .ok (.iconst 2, 1) := by decide +kernel
theorem dX10_atNumber_10 : decode cX10_atNumber 10 = .ok (.if_icmp .ne 7, 3) := by decide +kernel
theorem dX10_atNumber_13 : decode cX10_atNumber 13 = .ok (.iconst 1, 1) := by decide +kernel
theorem dX10_atNumber_14 : decode cX10_atNumber 14 = .ok (.goto 4, 3) := by decide +kernel
theorem dX10_atNumber_17 : decode cX10_atNumber 17 = .ok (.iconst 0, 1) := by decide +kernel
theorem dX10_atNumber_18 : decode cX10_atNumber 18 = .ok (.ireturn, 1) := by decide +kernel
theorem dX10_atSign_0 : decode cX10_atSign 0 = .ok (.aload_n 0, 1) := by decide +kernel
theorem dX10_atSign_1 : decode cX10_atSign 1 = .ok (.getfield 9, 3) := by decide +kernel
theorem dX10_atSign_4 : decode cX10_atSign 4 = .ok (.aload_n 0, 1) := by decide +kernel
theorem dX10_atSign_5 : decode cX10_atSign 5 = .ok (.getfield 37, 3) := by decide +kernel
theorem dX10_atSign_8 : decode cX10_atSign 8 = .ok (.iaload, 1) := by decide +kernel
theorem dX10_atSign_9 : decode cX10_atSign 9 = .ok (.iconst 3, 1) := by decide +kernel
theorem dX10_atSign_10 : decode cX10_atSign 10 = .ok (.if_icmp .ne 20, 3) := by decide +kernel
theorem dX10_atSign_13 : decode cX10_atSign 13 = .ok (.aload_n 0, 1) := by decide +kernel
theorem dX10_atSign_14 : decode cX10_atSign 14 = .ok (.getfield 18, 3) := by decide +kernel
theorem dX10_atSign_17 : decode cX10_atSign 17 = .ok (.aload_n 0, 1) := by decide +kernel
theorem dX10_atSign_18 : decode cX10_atSign 18 = .ok (.getfield 37, 3) := by decide +kernel
theorem dX10_atSign_21 : decode cX10_atSign 21 = .ok (.iaload, 1) := by decide +kernel
theorem dX10_atSign_22 : decode cX10_atSign 22 = .ok (.iload_n 1, 1) := by decide +kernel
theorem dX10_atSign_23 : decode cX10_atSign 23 = .ok (.if_icmp .ne 7, 3) := by decide +kernel
theorem dX10_atSign_26 : decode cX10_atSign 26 = .ok (.iconst 1, 1) := by decide +kernel
theorem dX10_atSign_27 : decode cX10_atSign 27 = .ok (.goto 4, 3) := by decide +kernel
theorem dX10_atSign_30 : decode cX10_atSign 30 = .ok (.iconst 0, 1) := by decide +kernel
theorem dX10_atSign_31 : decode cX10_atSign 31 = .ok (.ireturn, 1) := by decide +kernel
theorem dX10_atWord_0 : decode cX10_atWord 0 = .ok (.aload_n 0, 1) := by decide +kernel
theorem dX10_atWord_1 : decode cX10_atWord 1 = .ok (.getfield 24, 3) := by decide +kernel
theorem dX10_atWord_4 : decode cX10_atWord 4 = .ok (.aload_n 0, 1) := by decide +kernel
theorem dX10_atWord_5 : decode cX10_atWord 5 = .ok (.getfield 37, 3) := by decide +kernel
theorem dX10_atWord_8 : decode cX10_atWord 8 = .ok (.iaload, 1) := by decide +kernel
theorem dX10_atWord_9 : decode cX10_atWord 9 = .ok (.iload_n 1, 1) := by decide +kernel
theorem dX10_atWord_10 : decode cX10_atWord 10 = .ok (.if_icmp .ne 7, 3) := by decide +kernel
theorem dX10_atWord_13 : decode cX10_atWord 13 = .ok (.iconst 1, 1) := by decide +kernel
theorem dX10_atWord_14 : decode cX10_atWord 14 = .ok (.goto 4, 3) := by decide +kernel
theorem dX10_atWord_17 : decode cX10_atWord 17 = .ok (.iconst 0, 1) := by decide +kernel
theorem dX10_atWord_18 : decode cX10_atWord 18 = .ok (.ireturn, 1) := by decide +kernel
theorem dX10_word_0 : decode cX10_word 0 = .ok (.aload_n 0, 1) := by decide +kernel
theorem dX10_word_1 : decode cX10_word 1 = .ok (.getfield 24, 3) := by decide +kernel
theorem dX10_word_4 : decode cX10_word 4 = .ok (.aload_n 0, 1) := by decide +kernel
theorem dX10_word_5 : decode cX10_word 5 = .ok (.getfield 37, 3) := by decide +kernel
theorem dX10_word_8 : decode cX10_word 8 = .ok (.iaload, 1) := by decide +kernel
theorem dX10_word_9 : decode cX10_word 9 = .ok (.ireturn, 1) := by decide +kernel
theorem dX10_next_0 : decode cX10_next 0 = .ok (.aload_n 0, 1) := by decide +kernel
theorem dX10_next_1 : decode cX10_next 1 = .ok (.getfield 37, 3) := by decide +kernel
theorem dX10_next_4 : decode cX10_next 4 = .ok (.aload_n 0, 1) := by decide +kernel
theorem dX10_next_5 : decode cX10_next 5 = .ok (.getfield 30, 3) := by decide +kernel
theorem dX10_next_8 : decode cX10_next 8 = .ok (.iconst 1, 1) := by decide +kernel
theorem dX10_next_9 : decode cX10_next 9 = .ok (.isub, 1) := by decide +kernel
theorem dX10_next_10 : decode cX10_next 10 = .ok (.if_icmp .ge 13, 3) := by decide +kernel
theorem dX10_next_13 : decode cX10_next 13 = .ok (.aload_n 0, 1) := by decide +kernel
theorem dX10_next_14 : decode cX10_next 14 = .ok (.dup, 1) := by decide +kernel
theorem dX10_next_15 : decode cX10_next 15 = .ok (.getfield 37, 3) := by decide +kernel
theorem dX10_next_18 : decode cX10_next 18 = .ok (.iconst 1, 1) := by decide +kernel
theorem dX10_next_19 : decode cX10_next 19 = .ok (.iadd, 1) := by decide +kernel
theorem dX10_next_20 : decode cX10_next 20 = .ok (.putfield 37, 3) := by decide +kernel
theorem dX10_next_23 : decode cX10_next 23 = .ok (.return_, 1) := by decide +kernel
theorem dX10_enter_0 : decode cX10_enter 0 = .ok (.aload_n 0, 1) := by decide +kernel
theorem dX10_enter_1 : decode cX10_enter 1 = .ok (.getfield 40, 3) := by decide +kernel
theorem dX10_enter_4 : decode cX10_enter 4 = .ok (.bipush 6, 2) := by decide +kernel
theorem dX10_enter_6 : decode cX10_enter 6 = .ok (.if_icmp .lt 20, 3) := by decide +kernel
theorem dX10_enter_9 : decode cX10_enter 9 = .ok (.aload_n 0, 1) := by decide +kernel
theorem dX10_enter_10 : decode cX10_enter 10 = .ok (.iconst 4, 1) := by decide +kernel
theorem dX10_enter_11 : decode cX10_enter 11 = .ok (.aload_n 0, 1) := by decide +kernel
theorem dX10_enter_12 : decode cX10_enter 12 = .ok (.getfield 15, 3) := by decide +kernel
theorem dX10_enter_15 : decode cX10_enter 15 = .ok (.aload_n 0, 1) := by decide +kernel
theorem dX10_enter_16 : decode cX10_enter 16 = .ok (.getfield 37, 3) := by decide +kernel
theorem dX10_enter_19 : decode cX10_enter 19 = .ok (.iaload, 1) := by decide +kernel
theorem dX10_enter_20 : decode cX10_enter 20 = .ok (.invokevirtual 82, 3) := by decide +kernel
theorem dX10_enter_23 : decode cX10_enter 23 = .ok (.goto 17, 3) := by decide +kernel
theorem dX10_enter_26 : decode cX10_enter 26 = .ok (.aload_n 0, 1) := by decide +kernel
theorem dX10_enter_27 : decode cX10_enter 27 = .ok (.dup, 1) := by decide +kernel
theorem dX10_enter_28 : decode cX10_enter 28 = .ok (.getfield 40, 3) := by decide +kernel
theorem dX10_enter_31 : decode cX10_enter 31 = .ok (.iconst 1, 1) := by decide +kernel
theorem dX10_enter_32 : decode cX10_enter 32 = .ok (.iadd, 1) := by decide +kernel
theorem dX10_enter_33 : decode cX10_enter 33 = .ok (.putfield 40, 3) := by decide +kernel
theorem dX10_enter_36 : decode cX10_enter 36 = .ok (.aload_n 0, 1) := by decide +kernel
theorem dX10_enter_37 : decode cX10_enter 37 = .ok (.invokevirtual 85, 3) := by decide +kernel
theorem dX10_enter_40 : decode cX10_enter 40 = .ok (.return_, 1) := by decide +kernel
theorem dX10_leave_0 : decode cX10_leave 0 = .ok (.aload_n 0, 1) := by decide +kernel
theorem dX10_leave_1 : decode cX10_leave 1 = .ok (.dup, 1) := by decide +kernel
theorem dX10_leave_2 : decode cX10_leave 2 = .ok (.getfield 40, 3) := by decide +kernel
theorem dX10_leave_5 : decode cX10_leave 5 = .ok (.iconst 1, 1) := by decide +kernel
theorem dX10_leave_6 : decode cX10_leave 6 = .ok (.isub, 1) := by decide +kernel
theorem dX10_leave_7 : decode cX10_leave 7 = .ok (.putfield 40, 3) := by decide +kernel
theorem dX10_leave_10 : decode cX10_leave 10 = .ok (.return_, 1) := by decide +kernel
theorem dX10_needSign_0 : decode cX10_needSign 0 = .ok (.aload_n 0, 1) := by decide +kernel
theorem dX10_needSign_1 : decode cX10_needSign 1 = .ok (.iload_n 1, 1) := by decide +kernel
theorem dX10_needSign_2 : decode cX10_needSign 2 = .ok (.invokevirtual 88, 3) := by decide +kernel
theorem dX10_needSign_5 : decode cX10_needSign 5 = .ok (.ifCond .eq 10, 3) := by decide +kernel
theorem dX10_needSign_8 : decode cX10_needSign 8 = .ok (.aload_n 0, 1) := by decide +kernel
theorem dX10_needSign_9 : decode cX10_needSign 9 = .ok (.invokevirtual 85, 3) := by decide +kernel
theorem dX10_needSign_12 : decode cX10_needSign 12 = .ok (.goto 7, 3) := by decide +kernel
theorem dX10_needSign_15 : decode cX10_needSign 15 = .ok (.aload_n 0, 1) := by decide +kernel
theorem dX10_needSign_16 : decode cX10_needSign 16 = .ok (.invokevirtual 92, 3) := by decide +kernel
theorem dX10_needSign_19 : decode cX10_needSign 19 = .ok (.return_, 1) := by decide +kernel
theorem dX10_needWord_0 : decode cX10_needWord 0 = .ok (.aload_n 0, 1) := by decide +kernel
theorem dX10_needWord_1 : decode cX10_needWord 1 = .ok (.iload_n 1, 1) := by decide +kernel
theorem dX10_needWord_2 : decode cX10_needWord 2 = .ok (.iload_n 1, 1) := by decide +kernel
theorem dX10_needWord_3 : decode cX10_needWord 3 = .ok (.invokevirtual 95, 3) := by decide +kernel
theorem dX10_needWord_6 : decode cX10_needWord 6 = .ok (.pop, 1) := by decide +kernel
theorem dX10_needWord_7 : decode cX10_needWord 7 = .ok (.return_, 1) := by decide +kernel
theorem dX10_needWordOf_0 : decode cX10_needWordOf 0 = .ok (.aload_n 0, 1) := by decide +kernel
theorem dX10_needWordOf_1 : decode cX10_needWordOf 1 = .ok (.getfield 24, 3) := by decide +kernel
theorem dX10_needWordOf_4 : decode cX10_needWordOf 4 = .ok (.aload_n 0, 1) := by decide +kernel
theorem dX10_needWordOf_5 : decode cX10_needWordOf 5 = .ok (.getfield 37, 3) := by decide +kernel
theorem dX10_needWordOf_8 : decode cX10_needWordOf 8 = .ok (.iaload, 1) := by decide +kernel
theorem dX10_needWordOf_9 : decode cX10_needWordOf 9 = .ok (.istore_n 3, 1) := by decide +kernel
theorem dX10_needWordOf_10 : decode cX10_needWordOf 10 = .ok (.iload_n 3, 1) := by decide +kernel
theorem dX10_needWordOf_11 : decode cX10_needWordOf 11 = .ok (.iload_n 1, 1) := by decide +kernel
theorem dX10_needWordOf_12 : decode cX10_needWordOf 12 = .ok (.if_icmp .lt 8, 3) := by decide +kernel
theorem dX10_needWordOf_15 : decode cX10_needWordOf 15 = .ok (.iload_n 3, 1) := by decide +kernel
theorem dX10_needWordOf_16 : decode cX10_needWordOf 16 = .ok (.iload_n 2, 1) := by decide +kernel
theorem dX10_needWordOf_17 : decode cX10_needWordOf 17 = .ok (.if_icmp .le 9, 3) := by decide +kernel
theorem dX10_needWordOf_20 : decode cX10_needWordOf 20 = .ok (.aload_n 0, 1) := by decide +kernel
theorem dX10_needWordOf_21 : decode cX10_needWordOf 21 = .ok (.invokevirtual 92, 3) := by decide +kernel
theorem dX10_needWordOf_24 : decode cX10_needWordOf 24 = .ok (.iconst 0, 1) := by decide +kernel
theorem dX10_needWordOf_25 : decode cX10_needWordOf 25 = .ok (.ireturn, 1) := by decide +kernel
theorem dX10_needWordOf_26 : decode cX10_needWordOf 26 = .ok (.aload_n 0, 1) := by decide +kernel
theorem dX10_needWordOf_27 : decode cX10_needWordOf 27 = .ok (.invokevirtual 85, 3) := by decide +kernel
theorem dX10_needWordOf_30 : decode cX10_needWordOf 30 = .ok (.iload_n 3, 1) := by decide +kernel
theorem dX10_needWordOf_31 : decode cX10_needWordOf 31 = .ok (.iload_n 1, 1) := by decide +kernel
theorem dX10_needWordOf_32 : decode cX10_needWordOf 32 = .ok (.isub, 1) := by decide +kernel
theorem dX10_needWordOf_33 : decode cX10_needWordOf 33 = .ok (.ireturn, 1) := by decide +kernel
theorem dX10_needNumber_0 : decode cX10_needNumber 0 = .ok (.aload_n 0, 1) := by decide +kernel
theorem dX10_needNumber_1 : decode cX10_needNumber 1 = .ok (.getfield 18, 3) := by decide +kernel
theorem dX10_needNumber_4 : decode cX10_needNumber 4 = .ok (.aload_n 0, 1) := by decide +kernel
theorem dX10_needNumber_5 : decode cX10_needNumber 5 = .ok (.getfield 37, 3) := by decide +kernel
theorem dX10_needNumber_8 : decode cX10_needNumber 8 = .ok (.iaload, 1) := by decide +kernel
theorem dX10_needNumber_9 : decode cX10_needNumber 9 = .ok (.istore_n 2, 1) := by decide +kernel
theorem dX10_needNumber_10 : decode cX10_needNumber 10 = .ok (.aload_n 0, 1) := by decide +kernel
theorem dX10_needNumber_11 : decode cX10_needNumber 11 = .ok (.getfield 9, 3) := by decide +kernel
theorem dX10_needNumber_14 : decode cX10_needNumber 14 = .ok (.aload_n 0, 1) := by decide +kernel
theorem dX10_needNumber_15 : decode cX10_needNumber 15 = .ok (.getfield 37, 3) := by decide +kernel
theorem dX10_needNumber_18 : decode cX10_needNumber 18 = .ok (.iaload, 1) := by decide +kernel
theorem dX10_needNumber_19 : decode cX10_needNumber 19 = .ok (.iconst 2, 1) := by decide +kernel
theorem dX10_needNumber_20 : decode cX10_needNumber 20 = .ok (.if_icmp .eq 10, 3) := by decide +kernel
theorem dX10_needNumber_23 : decode cX10_needNumber 23 = .ok (.aload_n 0, 1) := by decide +kernel
theorem dX10_needNumber_24 : decode cX10_needNumber 24 = .ok (.invokevirtual 92, 3) := by decide +kernel
theorem dX10_needNumber_27 : decode cX10_needNumber 27 = .ok (.goto 63, 3) := by decide +kernel
theorem dX10_needNumber_30 : decode cX10_needNumber 30 = .ok (.aload_n 0, 1) := by decide +kernel
theorem dX10_needNumber_31 : decode cX10_needNumber 31 = .ok (.getfield 21, 3) := by decide +kernel
theorem dX10_needNumber_34 : decode cX10_needNumber 34 = .ok (.aload_n 0, 1) := by decide +kernel
theorem dX10_needNumber_35 : decode cX10_needNumber 35 = .ok (.getfield 37, 3) := by decide +kernel
theorem dX10_needNumber_38 : decode cX10_needNumber 38 = .ok (.iaload, 1) := by decide +kernel
theorem dX10_needNumber_39 : decode cX10_needNumber 39 = .ok (.iconst 4, 1) := by decide +kernel
theorem dX10_needNumber_40 : decode cX10_needNumber 40 = .ok (.if_icmp .le 22, 3) := by decide +kernel
theorem dX10_needNumber_43 : decode cX10_needNumber 43 = .ok (.aload_n 0, 1) := by decide +kernel
theorem dX10_needNumber_44 : decode cX10_needNumber 44 = .ok (.iconst 1, 1) := by decide +kernel
theorem dX10_needNumber_45 : decode cX10_needNumber 45 = .ok (.aload_n 0, 1) := by decide +kernel
theorem dX10_needNumber_46 : decode cX10_needNumber 46 = .ok (.getfield 15, 3) := by decide +kernel
theorem dX10_needNumber_49 : decode cX10_needNumber 49 = .ok (.aload_n 0, 1) := by decide +kernel
theorem dX10_needNumber_50 : decode cX10_needNumber 50 = .ok (.getfield 37, 3) := by decide +kernel
theorem dX10_needNumber_53 : decode cX10_needNumber 53 = .ok (.iaload, 1) := by decide +kernel
theorem dX10_needNumber_54 : decode cX10_needNumber 54 = .ok (.iconst 4, 1) := by decide +kernel
theorem dX10_needNumber_55 : decode cX10_needNumber 55 = .ok (.iadd, 1) := by decide +kernel
theorem dX10_needNumber_56 : decode cX10_needNumber 56 = .ok (.invokevirtual 82, 3) := by decide +kernel
theorem dX10_needNumber_59 : decode cX10_needNumber 59 = .ok (.goto 31, 3) := by decide +kernel
theorem dX10_needNumber_62 : decode cX10_needNumber 62 = .ok (.iload_n 2, 1) := by decide +kernel
theorem dX10_needNumber_63 : decode cX10_needNumber 63 = .ok (.iload_n 1, 1) := by decide +kernel
theorem dX10_needNumber_64 : decode cX10_needNumber 64 = .ok (.if_icmp .le 20, 3) := by decide +kernel
theorem dX10_needNumber_67 : decode cX10_needNumber 67 = .ok (.aload_n 0, 1) := by decide +kernel
theorem dX10_needNumber_68 : decode cX10_needNumber 68 = .ok (.iconst 2, 1) := by decide +kernel
theorem dX10_needNumber_69 : decode cX10_needNumber 69 = .ok (.aload_n 0, 1) := by decide +kernel
theorem dX10_needNumber_70 : decode cX10_needNumber 70 = .ok (.getfield 15, 3) := by decide +kernel
theorem dX10_needNumber_73 : decode cX10_needNumber 73 = .ok (.aload_n 0, 1) := by decide +kernel
theorem dX10_needNumber_74 : decode cX10_needNumber 74 = .ok (.getfield 37, 3) := by decide +kernel
theorem dX10_needNumber_77 : decode cX10_needNumber 77 = .ok (.iaload, 1) := by decide +kernel
theorem dX10_needNumber_78 : decode cX10_needNumber 78 = .ok (.invokevirtual 82, 3) := by decide +kernel
theorem dX10_needNumber_81 : decode cX10_needNumber 81 = .ok (.goto 9, 3) := by decide +kernel
theorem dX10_needNumber_84 : decode cX10_needNumber 84 = .ok (.aload_n 0, 1) := by decide +kernel
theorem dX10_needNumber_85 : decode cX10_needNumber 85 = .ok (.invokevirtual 85, 3) := by decide +kernel
theorem dX10_needNumber_88 : decode cX10_needNumber 88 = .ok (.iload_n 2, 1) := by decide +kernel
theorem dX10_needNumber_89 : decode cX10_needNumber 89 = .ok (.ireturn, 1) := by decide +kernel
theorem dX10_needNumber_90 : decode cX10_needNumber 90 = .ok (.iconst 0, 1) := by decide +kernel
theorem dX10_needNumber_91 : decode cX10_needNumber 91 = .ok (.ireturn, 1) := by decide +kernel
theorem dX10_needName_0 : decode cX10_needName 0 = .ok (.aload_n 0, 1) := by decide +kernel
theorem dX10_needName_1 : decode cX10_needName 1 = .ok (.getfield 18, 3) := by decide +kernel
theorem dX10_needName_4 : decode cX10_needName 4 = .ok (.aload_n 0, 1) := by decide +kernel
theorem dX10_needName_5 : decode cX10_needName 5 = .ok (.getfield 37, 3) := by decide +kernel
theorem dX10_needName_8 : decode cX10_needName 8 = .ok (.iaload, 1) := by decide +kernel
theorem dX10_needName_9 : decode cX10_needName 9 = .ok (.istore_n 1, 1) := by decide +kernel
theorem dX10_needName_10 : decode cX10_needName 10 = .ok (.aload_n 0, 1) := by decide +kernel
theorem dX10_needName_11 : decode cX10_needName 11 = .ok (.getfield 9, 3) := by decide +kernel
theorem dX10_needName_14 : decode cX10_needName 14 = .ok (.aload_n 0, 1) := by decide +kernel
theorem dX10_needName_15 : decode cX10_needName 15 = .ok (.getfield 37, 3) := by decide +kernel
theorem dX10_needName_18 : decode cX10_needName 18 = .ok (.iaload, 1) := by decide +kernel
theorem dX10_needName_19 : decode cX10_needName 19 = .ok (.iconst 1, 1) := by decide +kernel
theorem dX10_needName_20 : decode cX10_needName 20 = .ok (.if_icmp .ne 29, 3) := by decide +kernel
theorem dX10_needName_23 : decode cX10_needName 23 = .ok (.aload_n 0, 1) := by decide +kernel
theorem dX10_needName_24 : decode cX10_needName 24 = .ok (.getfield 24, 3) := by decide +kernel
theorem dX10_needName_27 : decode cX10_needName 27 = .ok (.aload_n 0, 1) := by decide +kernel
theorem dX10_needName_28 : decode cX10_needName 28 = .ok (.getfield 37, 3) := by decide +kernel
theorem dX10_needName_31 : decode cX10_needName 31 = .ok (.iaload, 1) := by decide +kernel
theorem dX10_needName_32 : decode cX10_needName 32 = .ok (.ifCond .lt 24, 3) := by decide +kernel
theorem dX10_needName_35 : decode cX10_needName 35 = .ok (.aload_n 0, 1) := by decide +kernel
theorem dX10_needName_36 : decode cX10_needName 36 = .ok (.getfield 24, 3) := by decide +kernel
theorem dX10_needName_39 : decode cX10_needName 39 = .ok (.aload_n 0, 1) := by decide +kernel
theorem dX10_needName_40 : decode cX10_needName 40 = .ok (.getfield 37, 3) := by decide +kernel
theorem dX10_needName_43 : decode cX10_needName 43 = .ok (.iaload, 1) := by decide +kernel
theorem dX10_needName_44 : decode cX10_needName 44 = .ok (.bipush 24, 2) := by decide +kernel
theorem dX10_needName_46 : decode cX10_needName 46 = .ok (.if_icmp .ge 10, 3) := by decide +kernel
theorem dX10_needName_49 : decode cX10_needName 49 = .ok (.aload_n 0, 1) := by decide +kernel
theorem dX10_needName_50 : decode cX10_needName 50 = .ok (.invokevirtual 92, 3) := by decide +kernel
theorem dX10_needName_53 : decode cX10_needName 53 = .ok (.goto 43, 3) := by decide +kernel
theorem dX10_needName_56 : decode cX10_needName 56 = .ok (.aload_n 0, 1) := by decide +kernel
theorem dX10_needName_57 : decode cX10_needName 57 = .ok (.getfield 21, 3) := by decide +kernel
theorem dX10_needName_60 : decode cX10_needName 60 = .ok (.aload_n 0, 1) := by decide +kernel
theorem dX10_needName_61 : decode cX10_needName 61 = .ok (.getfield 37, 3) := by decide +kernel
theorem dX10_needName_64 : decode cX10_needName 64 = .ok (.iaload, 1) := by decide +kernel
theorem dX10_needName_65 : decode cX10_needName 65 = .ok (.bipush 6, 2) := by decide +kernel
theorem dX10_needName_67 : decode cX10_needName 67 = .ok (.if_icmp .le 23, 3) := by decide +kernel
theorem dX10_needName_70 : decode cX10_needName 70 = .ok (.aload_n 0, 1) := by decide +kernel
theorem dX10_needName_71 : decode cX10_needName 71 = .ok (.iconst 1, 1) := by decide +kernel
theorem dX10_needName_72 : decode cX10_needName 72 = .ok (.aload_n 0, 1) := by decide +kernel
theorem dX10_needName_73 : decode cX10_needName 73 = .ok (.getfield 15, 3) := by decide +kernel
theorem dX10_needName_76 : decode cX10_needName 76 = .ok (.aload_n 0, 1) := by decide +kernel
theorem dX10_needName_77 : decode cX10_needName 77 = .ok (.getfield 37, 3) := by decide +kernel
theorem dX10_needName_80 : decode cX10_needName 80 = .ok (.iaload, 1) := by decide +kernel
theorem dX10_needName_81 : decode cX10_needName 81 = .ok (.bipush 6, 2) := by decide +kernel
theorem dX10_needName_83 : decode cX10_needName 83 = .ok (.iadd, 1) := by decide +kernel
theorem dX10_needName_84 : decode cX10_needName 84 = .ok (.invokevirtual 82, 3) := by decide +kernel
theorem dX10_needName_87 : decode cX10_needName 87 = .ok (.goto 9, 3) := by decide +kernel
theorem dX10_needName_90 : decode cX10_needName 90 = .ok (.aload_n 0, 1) := by decide +kernel
theorem dX10_needName_91 : decode cX10_needName 91 = .ok (.invokevirtual 85, 3) := by decide +kernel
theorem dX10_needName_94 : decode cX10_needName 94 = .ok (.iload_n 1, 1) := by decide +kernel
theorem dX10_needName_95 : decode cX10_needName 95 = .ok (.ireturn, 1) := by decide +kernel
theorem dX10_needName_96 : decode cX10_needName 96 = .ok (.iconst 0, 1) := by decide +kernel
theorem dX10_needName_97 : decode cX10_needName 97 = .ok (.ireturn, 1) := by decide +kernel
theorem dX11_init_0 : decode cX11_init 0 = .ok (.aload_n 0, 1) := by decide +kernel
theorem dX11_init_1 : decode cX11_init 1 = .ok (.invokespecial 1, 3) := by decide +kernel
theorem dX11_init_4 : decode cX11_init 4 = .ok (.aload_n 0, 1) := by decide +kernel
theorem dX11_init_5 : decode cX11_init 5 = .ok (.sipush 1600, 3) := by decide +kernel
theorem dX11_init_8 : decode cX11_init 8 = .ok (.newarray .int, 2) := by decide +kernel
theorem dX11_init_10 : decode cX11_init 10 = .ok (.putfield 9, 3) := by decide +kernel
theorem dX11_init_13 : decode cX11_init 13 = .ok (.aload_n 0, 1) := by decide +kernel
theorem dX11_init_14 : decode cX11_init 14 = .ok (.iconst 0, 1) := by decide +kernel
theorem dX11_init_15 : decode cX11_init 15 = .ok (.putfield 13, 3) := by decide +kernel
theorem dX11_init_18 : decode cX11_init 18 = .ok (.aload_n 0, 1) := by decide +kernel
theorem dX11_init_19 : decode cX11_init 19 = .ok (.new 17, 3) := by decide +kernel
theorem dX11_init_22 : decode cX11_init 22 = .ok (.dup, 1) := by decide +kernel
theorem dX11_init_23 : decode cX11_init 23 = .ok (.invokespecial 19, 3) := by decide +kernel
theorem dX11_init_26 : decode cX11_init 26 = .ok (.putfield 20, 3) := by decide +kernel
theorem dX11_init_29 : decode cX11_init 29 = .ok (.aload_n 0, 1) := by decide +kernel
theorem dX11_init_30 : decode cX11_init 30 = .ok (.new 24, 3) := by decide +kernel
theorem dX11_init_33 : decode cX11_init 33 = .ok (.dup, 1) := by decide +kernel
theorem dX11_init_34 : decode cX11_init 34 = .ok (.aload_n 0, 1) := by decide +kernel
theorem dX11_init_35 : decode cX11_init 35 = .ok (.getfield 20, 3) := by decide +kernel
theorem dX11_init_38 : decode cX11_init 38 = .ok (.invokespecial 26, 3) := by decide +kernel
theorem dX11_init_41 : decode cX11_init 41 = .ok (.putfield 29, 3) := by decide +kernel
theorem dX11_init_44 : decode cX11_init 44 = .ok (.aload_n 0, 1) := by decide +kernel
theorem dX11_init_45 : decode cX11_init 45 = .ok (.new 33, 3) := by decide +kernel
theorem dX11_init_48 : decode cX11_init 48 = .ok (.dup, 1) := by decide +kernel
theorem dX11_init_49 : decode cX11_init 49 = .ok (.invokespecial 35, 3) := by decide +kernel
theorem dX11_init_52 : decode cX11_init 52 = .ok (.putfield 36, 3) := by decide +kernel
theorem dX11_init_55 : decode cX11_init 55 = .ok (.aload_n 0, 1) := by decide +kernel
theorem dX11_init_56 : decode cX11_init 56 = .ok (.new 33, 3) := by decide +kernel
theorem dX11_init_59 : decode cX11_init 59 = .ok (.dup, 1) := by decide +kernel
theorem dX11_init_60 : decode cX11_init 60 = .ok (.invokespecial 35, 3) := by decide +kernel
theorem dX11_init_63 : decode cX11_init 63 = .ok (.putfield 40, 3) := by decide +kernel
theorem dX11_init_66 : decode cX11_init 66 = .ok (.aload_n 0, 1) := by decide +kernel
theorem dX11_init_67 : decode cX11_init 67 = .ok (.new 43, 3) := by decide +kernel
theorem dX11_init_70 : decode cX11_init 70 = .ok (.dup, 1) := by decide +kernel
theorem dX11_init_71 : decode cX11_init 71 = .ok (.aload_n 0, 1) := by decide +kernel
theorem dX11_init_72 : decode cX11_init 72 = .ok (.getfield 20, 3) := by decide +kernel
theorem dX11_init_75 : decode cX11_init 75 = .ok (.aload_n 0, 1) := by decide +kernel
theorem dX11_init_76 : decode cX11_init 76 = .ok (.getfield 29, 3) := by decide +kernel
theorem dX11_init_79 : decode cX11_init 79 = .ok (.invokespecial 45, 3) := by decide +kernel
theorem dX11_init_82 : decode cX11_init 82 = .ok (.putfield 48, 3) := by decide +kernel
theorem dX11_init_85 : decode cX11_init 85 = .ok (.aload_n 0, 1) := by decide +kernel
theorem dX11_init_86 : decode cX11_init 86 = .ok (.new 52, 3) := by decide +kernel
theorem dX11_init_89 : decode cX11_init 89 = .ok (.dup, 1) := by decide +kernel
theorem dX11_init_90 : decode cX11_init 90 = .ok (.invokespecial 54, 3) := by decide +kernel
theorem dX11_init_93 : decode cX11_init 93 = .ok (.putfield 55, 3) := by decide +kernel
theorem dX11_init_96 : decode cX11_init 96 = .ok (.aload_n 0, 1) := by decide +kernel
theorem dX11_init_97 : decode cX11_init 97 = .ok (.new 59, 3) := by decide +kernel
theorem dX11_init_100 : decode cX11_init 100 = .ok (.dup, 1) := by decide +kernel
theorem dX11_init_101 : decode cX11_init 101 = .ok (.invokespecial 61, 3) := by decide +kernel
theorem dX11_init_104 : decode cX11_init 104 = .ok (.putfield 62, 3) := by decide +kernel
theorem dX11_init_107 : decode cX11_init 107 = .ok (.aload_n 0, 1) := by decide +kernel
theorem dX11_init_108 : decode cX11_init 108 = .ok (.new 66, 3) := by decide +kernel
theorem dX11_init_111 : decode cX11_init 111 = .ok (.dup, 1) := by decide +kernel
theorem dX11_init_112 : decode cX11_init 112 = .ok (.aload_n 0, 1) := by decide +kernel
theorem dX11_init_113 : decode cX11_init 113 = .ok (.getfield 36, 3) := by decide +kernel
theorem dX11_init_116 : decode cX11_init 116 = .ok (.invokespecial 68, 3) := by decide +kernel
theorem dX11_init_119 : decode cX11_init 119 = .ok (.putfield 71, 3) := by decide +kernel
theorem dX11_init_122 : decode cX11_init 122 = .ok (.aload_n 0, 1) := by decide +kernel
theorem dX11_init_123 : decode cX11_init 123 = .ok (.new 75, 3) := by decide +kernel
theorem dX11_init_126 : decode cX11_init 126 = .ok (.dup, 1) := by decide +kernel
theorem dX11_init_127 : decode cX11_init 127 = .ok (.aload_n 0, 1) := by decide +kernel
theorem dX11_init_128 : decode cX11_init 128 = .ok (.getfield 71, 3) := by decide +kernel
theorem dX11_init_131 : decode cX11_init 131 = .ok (.invokespecial 77, 3) := by decide +kernel
theorem dX11_init_134 : decode cX11_init 134 = .ok (.putfield 80, 3) := by decide +kernel
theorem dX11_init_137 : decode cX11_init 137 = .ok (.aload_n 0, 1) := by decide +kernel
theorem dX11_init_138 : decode cX11_init 138 = .ok (.new 84, 3) := by decide +kernel
theorem dX11_init_141 : decode cX11_init 141 = .ok (.dup, 1) := by decide +kernel
theorem dX11_init_142 : decode cX11_init 142 = .ok (.aload_n 0, 1) := by decide +kernel
theorem dX11_init_143 : decode cX11_init 143 = .ok (.getfield 71, 3) := by decide +kernel
theorem dX11_init_146 : decode cX11_init 146 = .ok (.invokespecial 86, 3) := by decide +kernel
theorem dX11_init_149 : decode cX11_init 149 = .ok (.putfield 87, 3) := by decide +kernel
theorem dX11_init_152 : decode cX11_init 152 = .ok (.aload_n 0, 1) := by decide +kernel
theorem dX11_init_153 : decode cX11_init 153 = .ok (.new 91, 3) := by decide +kernel
theorem dX11_init_156 : decode cX11_init 156 = .ok (.dup, 1) := by decide +kernel
theorem dX11_init_157 : decode cX11_init 157 = .ok (.invokespecial 93, 3) := by decide +kernel
theorem dX11_init_160 : decode cX11_init 160 = .ok (.putfield 94, 3) := by decide +kernel
theorem dX11_init_163 : decode cX11_init 163 = .ok (.aload_n 0, 1) := by decide +kernel
theorem dX11_init_164 : decode cX11_init 164 = .ok (.bipush 55, 2) := by decide +kernel
theorem dX11_init_166 : decode cX11_init 166 = .ok (.newarray .int, 2) := by decide +kernel
theorem dX11_init_168 : decode cX11_init 168 = .ok (.putfield 98, 3) := by decide +kernel
theorem dX11_init_171 : decode cX11_init 171 = .ok (.aload_n 0, 1) := by decide +kernel
theorem dX11_init_172 : decode cX11_init 172 = .ok (.iconst 0, 1) := by decide +kernel
theorem dX11_init_173 : decode cX11_init 173 = .ok (.putfield 101, 3) := by decide +kernel
theorem dX11_init_176 : decode cX11_init 176 = .ok (.aload_n 0, 1) := by decide +kernel
theorem dX11_init_177 : decode cX11_init 177 = .ok (.iconst 1, 1) := by decide +kernel
theorem dX11_init_178 : decode cX11_init 178 = .ok (.putfield 104, 3) := by decide +kernel
theorem dX11_init_181 : decode cX11_init 181 = .ok (.aload_n 0, 1) := by decide +kernel
theorem dX11_init_182 : decode cX11_init 182 = .ok (.iconst 0, 1) := by decide +kernel
theorem dX11_init_183 : decode cX11_init 183 = .ok (.putfield 107, 3) := by decide +kernel
theorem dX11_init_186 : decode cX11_init 186 = .ok (.aload_n 0, 1) := by decide +kernel
theorem dX11_init_187 : decode cX11_init 187 = .ok (.iconst (-1), 1) := by decide +kernel
theorem dX11_init_188 : decode cX11_init 188 = .ok (.putfield 110, 3) := by decide +kernel
theorem dX11_init_191 : decode cX11_init 191 = .ok (.aload_n 0, 1) := by decide +kernel
theorem dX11_init_192 : decode cX11_init 192 = .ok (.bipush 6, 2) := by decide +kernel
theorem dX11_init_194 : decode cX11_init 194 = .ok (.newarray .int, 2) := by decide +kernel
theorem dX11_init_196 : decode cX11_init 196 = .ok (.putfield 113, 3) := by decide +kernel
theorem dX11_init_199 : decode cX11_init 199 = .ok (.return_, 1) := by decide +kernel
theorem dX11_feed_0 : decode cX11_feed 0 = .ok (.aload_n 0, 1) := by decide +kernel
theorem dX11_feed_1 : decode cX11_feed 1 = .ok (.getfield 13, 3) := by decide +kernel
theorem dX11_feed_4 : decode cX11_feed 4 = .ok (.bipush 20, 2) := by decide +kernel
theorem dX11_feed_6 : decode cX11_feed 6 = .ok (.iadd, 1) := by decide +kernel
theorem dX11_feed_7 : decode cX11_feed 7 = .ok (.sipush 1600, 3) := by decide +kernel
theorem dX11_feed_10 : decode cX11_feed 10 = .ok (.if_icmp .le 9, 3) := by decide +kernel
theorem dX11_feed_13 : decode cX11_feed 13 = .ok (.aload_n 0, 1) := by decide +kernel
theorem dX11_feed_14 : decode cX11_feed 14 = .ok (.iconst 0, 1) := by decide +kernel
theorem dX11_feed_15 : decode cX11_feed 15 = .ok (.invokevirtual 116, 3) := by decide +kernel
theorem dX11_feed_18 : decode cX11_feed 18 = .ok (.ireturn, 1) := by decide +kernel
theorem dX11_feed_19 : decode cX11_feed 19 = .ok (.aload_n 0, 1) := by decide +kernel
theorem dX11_feed_20 : decode cX11_feed 20 = .ok (.iload_n 1, 1) := by decide +kernel
theorem dX11_feed_21 : decode cX11_feed 21 = .ok (.invokevirtual 120, 3) := by decide +kernel
theorem dX11_feed_24 : decode cX11_feed 24 = .ok (.aload_n 0, 1) := by decide +kernel
theorem dX11_feed_25 : decode cX11_feed 25 = .ok (.iload_n 2, 1) := by decide +kernel
theorem dX11_feed_26 : decode cX11_feed 26 = .ok (.invokevirtual 120, 3) := by decide +kernel
theorem dX11_feed_29 : decode cX11_feed 29 = .ok (.aload_n 0, 1) := by decide +kernel
theorem dX11_feed_30 : decode cX11_feed 30 = .ok (.iload_n 3, 1) := by decide +kernel
theorem dX11_feed_31 : decode cX11_feed 31 = .ok (.invokevirtual 120, 3) := by decide +kernel
theorem dX11_feed_34 : decode cX11_feed 34 = .ok (.aload_n 0, 1) := by decide +kernel
theorem dX11_feed_35 : decode cX11_feed 35 = .ok (.iload 4, 2) := by decide +kernel
theorem dX11_feed_37 : decode cX11_feed 37 = .ok (.invokevirtual 120, 3) := by decide +kernel
theorem dX11_feed_40 : decode cX11_feed 40 = .ok (.aload_n 0, 1) := by decide +kernel
theorem dX11_feed_41 : decode cX11_feed 41 = .ok (.iload 5, 2) := by decide +kernel
theorem dX11_feed_43 : decode cX11_feed 43 = .ok (.invokevirtual 120, 3) := by decide +kernel
theorem dX11_feed_46 : decode cX11_feed 46 = .ok (.aload_n 0, 1) := by decide +kernel
theorem dX11_feed_47 : decode cX11_feed 47 = .ok (.getfield 13, 3) := by decide +kernel
theorem dX11_feed_50 : decode cX11_feed 50 = .ok (.ireturn, 1) := by decide +kernel
theorem dX11_tapeNumber_0 : decode cX11_tapeNumber 0 = .ok (.bipush 24, 2) := by decide +kernel
theorem dX11_tapeNumber_2 : decode cX11_tapeNumber 2 = .ok (.istore_n 2, 1) := by decide +kernel
theorem dX11_tapeNumber_3 : decode cX11_tapeNumber 3 = .ok (.iload_n 2, 1) := by decide +kernel
theorem dX11_tapeNumber_4 : decode cX11_tapeNumber 4 = .ok (.ifCond .lt 47, 3) := by decide +kernel
theorem dX11_tapeNumber_7 : decode cX11_tapeNumber 7 = .ok (.aload_n 0, 1) := by decide +kernel
theorem dX11_tapeNumber_8 : decode cX11_tapeNumber 8 = .ok (.getfield 13, 3) := by decide +kernel
theorem dX11_tapeNumber_11 : decode cX11_tapeNumber 11 = .ok (.aload_n 0, 1) := by decide +kernel
theorem dX11_tapeNumber_12 : decode cX11_tapeNumber 12 = .ok (.getfield 9, 3) := by decide +kernel
theorem dX11_tapeNumber_15 : decode cX11_tapeNumber 15 = .ok (.arraylength, 1) := by decide +kernel
theorem dX11_tapeNumber_16 : decode cX11_tapeNumber 16 = .ok (.if_icmp .ge 29, 3) := by decide +kernel
theorem dX11_tapeNumber_19 : decode cX11_tapeNumber 19 = .ok (.aload_n 0, 1) := by decide +kernel
theorem dX11_tapeNumber_20 : decode cX11_tapeNumber 20 = .ok (.getfield 9, 3) := by decide +kernel
theorem dX11_tapeNumber_23 : decode cX11_tapeNumber 23 = .ok (.aload_n 0, 1) := by decide +kernel
theorem dX11_tapeNumber_24 : decode cX11_tapeNumber 24 = .ok (.getfield 13, 3) := by decide +kernel
theorem dX11_tapeNumber_27 : decode cX11_tapeNumber 27 = .ok (.iload_n 1, 1) := by decide +kernel
theorem dX11_tapeNumber_28 : decode cX11_tapeNumber 28 = .ok (.iload_n 2, 1) := by decide +kernel
theorem dX11_tapeNumber_29 : decode cX11_tapeNumber 29 = .ok (.ishr, 1) := by decide +kernel
theorem dX11_tapeNumber_30 : decode cX11_tapeNumber 30 = .ok (.sipush 255, 3) := by decide +kernel
theorem dX11_tapeNumber_33 : decode cX11_tapeNumber 33 = .ok (.iand, 1) := by decide +kernel
theorem dX11_tapeNumber_34 : decode cX11_tapeNumber 34 = .ok (.iastore, 1) := by decide +kernel
theorem dX11_tapeNumber_35 : decode cX11_tapeNumber 35 = .ok (.aload_n 0, 1) := by decide +kernel
theorem dX11_tapeNumber_36 : decode cX11_tapeNumber 36 = .ok (.dup, 1) := by decide +kernel
theorem dX11_tapeNumber_37 : decode cX11_tapeNumber 37 = .ok (.getfield 13, 3) := by decide +kernel
theorem dX11_tapeNumber_40 : decode cX11_tapeNumber 40 = .ok (.iconst 1, 1) := by decide +kernel
theorem dX11_tapeNumber_41 : decode cX11_tapeNumber 41 = .ok (.iadd, 1) := by decide +kernel
theorem dX11_tapeNumber_42 : decode cX11_tapeNumber 42 = .ok (.putfield 13, 3) := by decide +kernel
theorem dX11_tapeNumber_45 : decode cX11_tapeNumber 45 = .ok (.iinc 2 (-8), 3) := by decide +kernel
theorem dX11_tapeNumber_48 : decode cX11_tapeNumber 48 = .ok (.goto (-45), 3) := by decide +kernel
theorem dX11_tapeNumber_51 : decode cX11_tapeNumber 51 = .ok (.return_, 1) := by decide +kernel
theorem dX11_refuse_0 : decode cX11_refuse 0 = .ok (.aload_n 0, 1) := by decide +kernel
theorem dX11_refuse_1 : decode cX11_refuse 1 = .ok (.getfield 113, 3) := by decide +kernel
theorem dX11_refuse_4 : decode cX11_refuse 4 = .ok (.iload_n 1, 1) := by decide +kernel
theorem dX11_refuse_5 : decode cX11_refuse 5 = .ok (.dup2, 1) := by decide +kernel
theorem dX11_refuse_6 : decode cX11_refuse 6 = .ok (.iaload, 1) := by decide +kernel
theorem dX11_refuse_7 : decode cX11_refuse 7 = .ok (.iconst 1, 1) := by decide +kernel
theorem dX11_refuse_8 : decode cX11_refuse 8 = .ok (.iadd, 1) := by decide +kernel
theorem dX11_refuse_9 : decode cX11_refuse 9 = .ok (.iastore, 1) := by decide +kernel
theorem dX11_refuse_10 : decode cX11_refuse 10 = .ok (.iconst (-1), 1) := by decide +kernel
theorem dX11_refuse_11 : decode cX11_refuse 11 = .ok (.ireturn, 1) := by decide +kernel
theorem dX11_deny_0 : decode cX11_deny 0 = .ok (.aload_n 0, 1) := by decide +kernel
theorem dX11_deny_1 : decode cX11_deny 1 = .ok (.getfield 113, 3) := by decide +kernel
theorem dX11_deny_4 : decode cX11_deny 4 = .ok (.iload_n 1, 1) := by decide +kernel
theorem dX11_deny_5 : decode cX11_deny 5 = .ok (.dup2, 1) := by decide +kernel
theorem dX11_deny_6 : decode cX11_deny 6 = .ok (.iaload, 1) := by decide +kernel
theorem dX11_deny_7 : decode cX11_deny 7 = .ok (.iconst 1, 1) := by decide +kernel
theorem dX11_deny_8 : decode cX11_deny 8 = .ok (.iadd, 1) := by decide +kernel
theorem dX11_deny_9 : decode cX11_deny 9 = .ok (.iastore, 1) := by decide +kernel
theorem dX11_deny_10 : decode cX11_deny 10 = .ok (.iconst 0, 1) := by decide +kernel
theorem dX11_deny_11 : decode cX11_deny 11 = .ok (.ireturn, 1) := by decide +kernel
theorem dX11_end_0 : decode cX11_end 0 = .ok (.iload_n 1, 1) := by decide +kernel
theorem dX11_end_1 : decode cX11_end 1 = .ok (.ifCond .lt 11, 3) := by decide +kernel
theorem dX11_end_4 : decode cX11_end 4 = .ok (.iload_n 1, 1) := by decide +kernel
theorem dX11_end_5 : decode cX11_end 5 = .ok (.aload_n 0, 1) := by decide +kernel
theorem dX11_end_6 : decode cX11_end 6 = .ok (.getfield 13, 3) := by decide +kernel
theorem dX11_end_9 : decode cX11_end 9 = .ok (.if_icmp .le 9, 3) := by decide +kernel
theorem dX11_end_12 : decode cX11_end 12 = .ok (.aload_n 0, 1) := by decide +kernel
theorem dX11_end_13 : decode cX11_end 13 = .ok (.iconst 0, 1) := by decide +kernel
theorem dX11_end_14 : decode cX11_end 14 = .ok (.invokevirtual 124, 3) := by decide +kernel
theorem dX11_end_17 : decode cX11_end 17 = .ok (.ireturn, 1) := by decide +kernel
theorem dX11_end_18 : decode cX11_end 18 = .ok (.aload_n 0, 1) := by decide +kernel
theorem dX11_end_19 : decode cX11_end 19 = .ok (.iload_n 1, 1) := by decide +kernel
theorem dX11_end_20 : decode cX11_end 20 = .ok (.putfield 13, 3) := by decide +kernel
theorem dX11_end_23 : decode cX11_end 23 = .ok (.iconst 1, 1) := by decide +kernel
theorem dX11_end_24 : decode cX11_end 24 = .ok (.ireturn, 1) := by decide +kernel
theorem dX11_table_0 : decode cX11_table 0 = .ok (.aload_n 0, 1) := by decide +kernel
theorem dX11_table_1 : decode cX11_table 1 = .ok (.invokevirtual 128, 3) := by decide +kernel
theorem dX11_table_4 : decode cX11_table 4 = .ok (.aload_n 0, 1) := by decide +kernel
theorem dX11_table_5 : decode cX11_table 5 = .ok (.getfield 40, 3) := by decide +kernel
theorem dX11_table_8 : decode cX11_table 8 = .ok (.aload_n 0, 1) := by decide +kernel
theorem dX11_table_9 : decode cX11_table 9 = .ok (.getfield 20, 3) := by decide +kernel
theorem dX11_table_12 : decode cX11_table 12 = .ok (.aload_n 0, 1) := by decide +kernel
theorem dX11_table_13 : decode cX11_table 13 = .ok (.getfield 29, 3) := by decide +kernel
theorem dX11_table_16 : decode cX11_table 16 = .ok (.invokevirtual 131, 3) := by decide +kernel
theorem dX11_table_19 : decode cX11_table 19 = .ok (.aload_n 0, 1) := by decide +kernel
theorem dX11_table_20 : decode cX11_table 20 = .ok (.invokevirtual 134, 3) := by decide +kernel
theorem dX11_table_23 : decode cX11_table 23 = .ok (.aload_n 0, 1) := by decide +kernel
theorem dX11_table_24 : decode cX11_table 24 = .ok (.getfield 107, 3) := by decide +kernel
theorem dX11_table_27 : decode cX11_table 27 = .ok (.ifCond .eq 9, 3) := by decide +kernel
theorem dX11_table_30 : decode cX11_table 30 = .ok (.aload_n 0, 1) := by decide +kernel
theorem dX11_table_31 : decode cX11_table 31 = .ok (.iconst 1, 1) := by decide +kernel
theorem dX11_table_32 : decode cX11_table 32 = .ok (.invokevirtual 116, 3) := by decide +kernel
theorem dX11_table_35 : decode cX11_table 35 = .ok (.ireturn, 1) := by decide +kernel
theorem dX11_table_36 : decode cX11_table 36 = .ok (.aload_n 0, 1) := by decide +kernel
theorem dX11_table_37 : decode cX11_table 37 = .ok (.getfield 36, 3) := by decide +kernel
theorem dX11_table_40 : decode cX11_table 40 = .ok (.astore_n 1, 1) := by decide +kernel
theorem dX11_table_41 : decode cX11_table 41 = .ok (.aload_n 0, 1) := by decide +kernel
theorem dX11_table_42 : decode cX11_table 42 = .ok (.aload_n 0, 1) := by decide +kernel
theorem dX11_table_43 : decode cX11_table 43 = .ok (.getfield 40, 3) := by decide +kernel
theorem dX11_table_46 : decode cX11_table 46 = .ok (.putfield 36, 3) := by decide +kernel
theorem dX11_table_49 : decode cX11_table 49 = .ok (.aload_n 0, 1) := by decide +kernel
theorem dX11_table_50 : decode cX11_table 50 = .ok (.aload_n 1, 1) := by decide +kernel
theorem dX11_table_51 : decode cX11_table 51 = .ok (.putfield 40, 3) := by decide +kernel
theorem dX11_table_54 : decode cX11_table 54 = .ok (.aload_n 0, 1) := by decide +kernel
theorem dX11_table_55 : decode cX11_table 55 = .ok (.getfield 71, 3) := by decide +kernel
theorem dX11_table_58 : decode cX11_table 58 = .ok (.aload_n 0, 1) := by decide +kernel
theorem dX11_table_59 : decode cX11_table 59 = .ok (.getfield 36, 3) := by decide +kernel
theorem dX11_table_62 : decode cX11_table 62 = .ok (.putfield 137, 3) := by decide +kernel
theorem dX11_table_65 : decode cX11_table 65 = .ok (.aload_n 0, 1) := by decide +kernel
theorem dX11_table_66 : decode cX11_table 66 = .ok (.getfield 55, 3) := by decide +kernel
theorem dX11_table_69 : decode cX11_table 69 = .ok (.aload_n 0, 1) := by decide +kernel
theorem dX11_table_70 : decode cX11_table 70 = .ok (.getfield 36, 3) := by decide +kernel
theorem dX11_table_73 : decode cX11_table 73 = .ok (.invokevirtual 138, 3) := by decide +kernel
theorem dX11_table_76 : decode cX11_table 76 = .ok (.aload_n 0, 1) := by decide +kernel
theorem dX11_table_77 : decode cX11_table 77 = .ok (.getfield 62, 3) := by decide +kernel
theorem dX11_table_80 : decode cX11_table 80 = .ok (.invokevirtual 141, 3) := by decide +kernel
theorem dX11_table_83 : decode cX11_table 83 = .ok (.aload_n 0, 1) := by decide +kernel
theorem dX11_table_84 : decode cX11_table 84 = .ok (.invokevirtual 144, 3) := by decide +kernel
theorem dX11_table_87 : decode cX11_table 87 = .ok (.aload_n 0, 1) := by decide +kernel
theorem dX11_table_88 : decode cX11_table 88 = .ok (.getfield 36, 3) := by decide +kernel
theorem dX11_table_91 : decode cX11_table 91 = .ok (.getfield 147, 3) := by decide +kernel
theorem dX11_table_94 : decode cX11_table 94 = .ok (.ireturn, 1) := by decide +kernel
theorem dX11_readTape_0 : decode cX11_readTape 0 = .ok (.aload_n 0, 1) := by decide +kernel
theorem dX11_readTape_1 : decode cX11_readTape 1 = .ok (.getfield 20, 3) := by decide +kernel
theorem dX11_readTape_4 : decode cX11_readTape 4 = .ok (.aload_n 0, 1) := by decide +kernel
theorem dX11_readTape_5 : decode cX11_readTape 5 = .ok (.getfield 9, 3) := by decide +kernel
theorem dX11_readTape_8 : decode cX11_readTape 8 = .ok (.aload_n 0, 1) := by decide +kernel
theorem dX11_readTape_9 : decode cX11_readTape 9 = .ok (.getfield 13, 3) := by decide +kernel
theorem dX11_readTape_12 : decode cX11_readTape 12 = .ok (.invokevirtual 150, 3) := by decide +kernel
theorem dX11_readTape_15 : decode cX11_readTape 15 = .ok (.aload_n 0, 1) := by decide +kernel
theorem dX11_readTape_16 : decode cX11_readTape 16 = .ok (.iconst 0, 1) := by decide +kernel
theorem dX11_readTape_17 : decode cX11_readTape 17 = .ok (.putfield 13, 3) := by decide +kernel
theorem dX11_readTape_20 : decode cX11_readTape 20 = .ok (.return_, 1) := by decide +kernel
theorem dX11_keepFault_0 : decode cX11_keepFault 0 = .ok (.aload_n 0, 1) := by decide +kernel
theorem dX11_keepFault_1 : decode cX11_keepFault 1 = .ok (.aload_n 0, 1) := by decide +kernel
theorem dX11_keepFault_2 : decode cX11_keepFault 2 = .ok (.getfield 20, 3) := by decide +kernel
theorem dX11_keepFault_5 : decode cX11_keepFault 5 = .ok (.getfield 154, 3) := by decide +kernel
theorem dX11_keepFault_8 : decode cX11_keepFault 8 = .ok (.putfield 107, 3) := by decide +kernel
theorem dX11_keepFault_11 : decode cX11_keepFault 11 = .ok (.aload_n 0, 1) := by decide +kernel
theorem dX11_keepFault_12 : decode cX11_keepFault 12 = .ok (.aload_n 0, 1) := by decide +kernel
theorem dX11_keepFault_13 : decode cX11_keepFault 13 = .ok (.getfield 20, 3) := by decide +kernel
theorem dX11_keepFault_16 : decode cX11_keepFault 16 = .ok (.getfield 157, 3) := by decide +kernel
theorem dX11_keepFault_19 : decode cX11_keepFault 19 = .ok (.putfield 110, 3) := by decide +kernel
theorem dX11_keepFault_22 : decode cX11_keepFault 22 = .ok (.return_, 1) := by decide +kernel
theorem dX11_forgetAnswers_0 : decode cX11_forgetAnswers 0 = .ok (.aload_n 0, 1) := by decide +kernel
theorem dX11_forgetAnswers_1 : decode cX11_forgetAnswers 1 = .ok (.getfield 80, 3) := by decide +kernel
theorem dX11_forgetAnswers_4 : decode cX11_forgetAnswers 4 = .ok (.iconst 0, 1) := by decide +kernel
theorem dX11_forgetAnswers_5 : decode cX11_forgetAnswers 5 = .ok (.putfield 160, 3) := by decide +kernel
theorem dX11_forgetAnswers_8 : decode cX11_forgetAnswers 8 = .ok (.aload_n 0, 1) := by decide +kernel
theorem dX11_forgetAnswers_9 : decode cX11_forgetAnswers 9 = .ok (.getfield 87, 3) := by decide +kernel
theorem dX11_forgetAnswers_12 : decode cX11_forgetAnswers 12 = .ok (.iconst 0, 1) := by decide +kernel
theorem dX11_forgetAnswers_13 : decode cX11_forgetAnswers 13 = .ok (.putfield 164, 3) := by decide +kernel
theorem dX11_forgetAnswers_16 : decode cX11_forgetAnswers 16 = .ok (.return_, 1) := by decide +kernel
theorem dX11_fault_0 : decode cX11_fault 0 = .ok (.iload_n 1, 1) := by decide +kernel
theorem dX11_fault_1 : decode cX11_fault 1 = .ok (.ifCond .ne 8, 3) := by decide +kernel
theorem dX11_fault_4 : decode cX11_fault 4 = .ok (.aload_n 0, 1) := by decide +kernel
theorem dX11_fault_5 : decode cX11_fault 5 = .ok (.getfield 107, 3) := by decide +kernel
theorem dX11_fault_8 : decode cX11_fault 8 = .ok (.ireturn, 1) := by decide +kernel
theorem dX11_fault_9 : decode cX11_fault 9 = .ok (.iload_n 1, 1) := by decide +kernel
theorem dX11_fault_10 : decode cX11_fault 10 = .ok (.iconst 1, 1) := by decide +kernel
theorem dX11_fault_11 : decode cX11_fault 11 = .ok (.if_icmp .ne 10, 3) := by decide +kernel
theorem dX11_fault_14 : decode cX11_fault 14 = .ok (.aload_n 0, 1) := by decide +kernel
theorem dX11_fault_15 : decode cX11_fault 15 = .ok (.getfield 110, 3) := by decide +kernel
theorem dX11_fault_18 : decode cX11_fault 18 = .ok (.goto 4, 3) := by decide +kernel
theorem dX11_fault_21 : decode cX11_fault 21 = .ok (.iconst (-1), 1) := by decide +kernel
theorem dX11_fault_22 : decode cX11_fault 22 = .ok (.ireturn, 1) := by decide +kernel
theorem dX11_has_0 : decode cX11_has 0 = .ok (.iload_n 1, 1) := by decide +kernel
theorem dX11_has_1 : decode cX11_has 1 = .ok (.tableswitch 135 0 9 #[55, 63, 71, 79, 87, 95, 103, 111, 119, 127], 55) := by decide +kernel
theorem dX11_has_56 : decode cX11_has 56 = .ok (.aload_n 0, 1) := by decide +kernel
theorem dX11_has_57 : decode cX11_has 57 = .ok (.getfield 55, 3) := by decide +kernel
theorem dX11_has_60 : decode cX11_has 60 = .ok (.getfield 165, 3) := by decide +kernel
theorem dX11_has_63 : decode cX11_has 63 = .ok (.ireturn, 1) := by decide +kernel
theorem dX11_has_64 : decode cX11_has 64 = .ok (.aload_n 0, 1) := by decide +kernel
theorem dX11_has_65 : decode cX11_has 65 = .ok (.getfield 55, 3) := by decide +kernel
theorem dX11_has_68 : decode cX11_has 68 = .ok (.invokevirtual 168, 3) := by decide +kernel
theorem dX11_has_71 : decode cX11_has 71 = .ok (.ireturn, 1) := by decide +kernel
theorem dX11_has_72 : decode cX11_has 72 = .ok (.aload_n 0, 1) := by decide +kernel
theorem dX11_has_73 : decode cX11_has 73 = .ok (.getfield 36, 3) := by decide +kernel
theorem dX11_has_76 : decode cX11_has 76 = .ok (.getfield 172, 3) := by decide +kernel
theorem dX11_has_79 : decode cX11_has 79 = .ok (.ireturn, 1) := by decide +kernel
theorem dX11_has_80 : decode cX11_has 80 = .ok (.aload_n 0, 1) := by decide +kernel
theorem dX11_has_81 : decode cX11_has 81 = .ok (.getfield 36, 3) := by decide +kernel
theorem dX11_has_84 : decode cX11_has 84 = .ok (.getfield 175, 3) := by decide +kernel
theorem dX11_has_87 : decode cX11_has 87 = .ok (.ireturn, 1) := by decide +kernel
theorem dX11_has_88 : decode cX11_has 88 = .ok (.aload_n 0, 1) := by decide +kernel
theorem dX11_has_89 : decode cX11_has 89 = .ok (.getfield 55, 3) := by decide +kernel
theorem dX11_has_92 : decode cX11_has 92 = .ok (.getfield 178, 3) := by decide +kernel
theorem dX11_has_95 : decode cX11_has 95 = .ok (.ireturn, 1) := by decide +kernel
theorem dX11_has_96 : decode cX11_has 96 = .ok (.aload_n 0, 1) := by decide +kernel
theorem dX11_has_97 : decode cX11_has 97 = .ok (.getfield 55, 3) := by decide +kernel
theorem dX11_has_100 : decode cX11_has 100 = .ok (.getfield 181, 3) := by decide +kernel
theorem dX11_has_103 : decode cX11_has 103 = .ok (.ireturn, 1) := by decide +kernel
theorem dX11_has_104 : decode cX11_has 104 = .ok (.aload_n 0, 1) := by decide +kernel
theorem dX11_has_105 : decode cX11_has 105 = .ok (.getfield 55, 3) := by decide +kernel
theorem dX11_has_108 : decode cX11_has 108 = .ok (.getfield 184, 3) := by decide +kernel
theorem dX11_has_111 : decode cX11_has 111 = .ok (.ireturn, 1) := by decide +kernel
theorem dX11_has_112 : decode cX11_has 112 = .ok (.aload_n 0, 1) := by decide +kernel
theorem dX11_has_113 : decode cX11_has 113 = .ok (.getfield 55, 3) := by decide +kernel
theorem dX11_has_116 : decode cX11_has 116 = .ok (.invokevirtual 187, 3) := by decide +kernel
theorem dX11_has_119 : decode cX11_has 119 = .ok (.ireturn, 1) := by decide +kernel
theorem dX11_has_120 : decode cX11_has 120 = .ok (.aload_n 0, 1) := by decide +kernel
theorem dX11_has_121 : decode cX11_has 121 = .ok (.getfield 55, 3) := by decide +kernel
theorem dX11_has_124 : decode cX11_has 124 = .ok (.invokevirtual 190, 3) := by decide +kernel
theorem dX11_has_127 : decode cX11_has 127 = .ok (.ireturn, 1) := by decide +kernel
theorem dX11_has_128 : decode cX11_has 128 = .ok (.aload_n 0, 1) := by decide +kernel
theorem dX11_has_129 : decode cX11_has 129 = .ok (.getfield 62, 3) := by decide +kernel
theorem dX11_has_132 : decode cX11_has 132 = .ok (.getfield 193, 3) := by decide +kernel
theorem dX11_has_135 : decode cX11_has 135 = .ok (.ireturn, 1) := by decide +kernel
theorem dX11_has_136 : decode cX11_has 136 = .ok (.iconst (-1), 1) := by decide +kernel
theorem dX11_has_137 : decode cX11_has 137 = .ok (.ireturn, 1) := by decide +kernel
theorem dX11_isSeat_0 : decode cX11_isSeat 0 = .ok (.iload_n 1, 1) := by decide +kernel
theorem dX11_isSeat_1 : decode cX11_isSeat 1 = .ok (.ifCond .lt 18, 3) := by decide +kernel
theorem dX11_isSeat_4 : decode cX11_isSeat 4 = .ok (.iload_n 1, 1) := by decide +kernel
theorem dX11_isSeat_5 : decode cX11_isSeat 5 = .ok (.aload_n 0, 1) := by decide +kernel
theorem dX11_isSeat_6 : decode cX11_isSeat 6 = .ok (.getfield 55, 3) := by decide +kernel
theorem dX11_isSeat_9 : decode cX11_isSeat 9 = .ok (.getfield 165, 3) := by decide +kernel
theorem dX11_isSeat_12 : decode cX11_isSeat 12 = .ok (.if_icmp .ge 7, 3) := by decide +kernel
theorem dX11_isSeat_15 : decode cX11_isSeat 15 = .ok (.iconst 1, 1) := by decide +kernel
theorem dX11_isSeat_16 : decode cX11_isSeat 16 = .ok (.goto 4, 3) := by decide +kernel
theorem dX11_isSeat_19 : decode cX11_isSeat 19 = .ok (.iconst 0, 1) := by decide +kernel
theorem dX11_isSeat_20 : decode cX11_isSeat 20 = .ok (.ireturn, 1) := by decide +kernel
theorem dX11_pulls_0 : decode cX11_pulls 0 = .ok (.aload_n 0, 1) := by decide +kernel
theorem dX11_pulls_1 : decode cX11_pulls 1 = .ok (.iload_n 1, 1) := by decide +kernel
theorem dX11_pulls_2 : decode cX11_pulls 2 = .ok (.invokevirtual 196, 3) := by decide +kernel
theorem dX11_pulls_5 : decode cX11_pulls 5 = .ok (.ifCond .eq 17, 3) := by decide +kernel
theorem dX11_pulls_8 : decode cX11_pulls 8 = .ok (.aload_n 0, 1) := by decide +kernel
theorem dX11_pulls_9 : decode cX11_pulls 9 = .ok (.getfield 55, 3) := by decide +kernel
theorem dX11_pulls_12 : decode cX11_pulls 12 = .ok (.invokevirtual 168, 3) := by decide +kernel
theorem dX11_pulls_15 : decode cX11_pulls 15 = .ok (.ifCond .le 7, 3) := by decide +kernel
theorem dX11_pulls_18 : decode cX11_pulls 18 = .ok (.iconst 1, 1) := by decide +kernel
theorem dX11_pulls_19 : decode cX11_pulls 19 = .ok (.goto 4, 3) := by decide +kernel
theorem dX11_pulls_22 : decode cX11_pulls 22 = .ok (.iconst 0, 1) := by decide +kernel
theorem dX11_pulls_23 : decode cX11_pulls 23 = .ok (.ireturn, 1) := by decide +kernel
theorem dX11_isHand_0 : decode cX11_isHand 0 = .ok (.iload_n 1, 1) := by decide +kernel
theorem dX11_isHand_1 : decode cX11_isHand 1 = .ok (.ifCond .eq 8, 3) := by decide +kernel
theorem dX11_isHand_4 : decode cX11_isHand 4 = .ok (.iload_n 1, 1) := by decide +kernel
theorem dX11_isHand_5 : decode cX11_isHand 5 = .ok (.iconst 1, 1) := by decide +kernel
theorem dX11_isHand_6 : decode cX11_isHand 6 = .ok (.if_icmp .ne 7, 3) := by decide +kernel
theorem dX11_isHand_9 : decode cX11_isHand 9 = .ok (.iconst 1, 1) := by decide +kernel
theorem dX11_isHand_10 : decode cX11_isHand 10 = .ok (.goto 4, 3) := by decide +kernel
theorem dX11_isHand_13 : decode cX11_isHand 13 = .ok (.iconst 0, 1) := by decide +kernel
theorem dX11_isHand_14 : decode cX11_isHand 14 = .ok (.ireturn, 1) := by decide +kernel
theorem dX11_letter_0 : decode cX11_letter 0 = .ok (.iload_n 3, 1) := by decide +kernel
theorem dX11_letter_1 : decode cX11_letter 1 = .ok (.ifCond .lt 9, 3) := by decide +kernel
theorem dX11_letter_4 : decode cX11_letter 4 = .ok (.iload_n 3, 1) := by decide +kernel
theorem dX11_letter_5 : decode cX11_letter 5 = .ok (.bipush 6, 2) := by decide +kernel
theorem dX11_letter_7 : decode cX11_letter 7 = .ok (.if_icmp .lt 5, 3) := by decide +kernel
theorem dX11_letter_10 : decode cX11_letter 10 = .ok (.iconst (-1), 1) := by decide +kernel
theorem dX11_letter_11 : decode cX11_letter 11 = .ok (.ireturn, 1) := by decide +kernel
theorem dX11_letter_12 : decode cX11_letter 12 = .ok (.iload_n 1, 1) := by decide +kernel
theorem dX11_letter_13 : decode cX11_letter 13 = .ok (.ifCond .ne 34, 3) := by decide +kernel
theorem dX11_letter_16 : decode cX11_letter 16 = .ok (.aload_n 0, 1) := by decide +kernel
theorem dX11_letter_17 : decode cX11_letter 17 = .ok (.iload_n 2, 1) := by decide +kernel
theorem dX11_letter_18 : decode cX11_letter 18 = .ok (.invokevirtual 196, 3) := by decide +kernel
theorem dX11_letter_21 : decode cX11_letter 21 = .ok (.ifCond .eq 26, 3) := by decide +kernel
theorem dX11_letter_24 : decode cX11_letter 24 = .ok (.aload_n 0, 1) := by decide +kernel
theorem dX11_letter_25 : decode cX11_letter 25 = .ok (.aload_n 0, 1) := by decide +kernel
theorem dX11_letter_26 : decode cX11_letter 26 = .ok (.getfield 36, 3) := by decide +kernel
theorem dX11_letter_29 : decode cX11_letter 29 = .ok (.getfield 199, 3) := by decide +kernel
theorem dX11_letter_32 : decode cX11_letter 32 = .ok (.aload_n 0, 1) := by decide +kernel
theorem dX11_letter_33 : decode cX11_letter 33 = .ok (.getfield 55, 3) := by decide +kernel
theorem dX11_letter_36 : decode cX11_letter 36 = .ok (.getfield 202, 3) := by decide +kernel
theorem dX11_letter_39 : decode cX11_letter 39 = .ok (.iload_n 2, 1) := by decide +kernel
theorem dX11_letter_40 : decode cX11_letter 40 = .ok (.iaload, 1) := by decide +kernel
theorem dX11_letter_41 : decode cX11_letter 41 = .ok (.iaload, 1) := by decide +kernel
theorem dX11_letter_42 : decode cX11_letter 42 = .ok (.iload_n 3, 1) := by decide +kernel
theorem dX11_letter_43 : decode cX11_letter 43 = .ok (.invokevirtual 205, 3) := by decide +kernel
theorem dX11_letter_46 : decode cX11_letter 46 = .ok (.ireturn, 1) := by decide +kernel
theorem dX11_letter_47 : decode cX11_letter 47 = .ok (.iload_n 1, 1) := by decide +kernel
theorem dX11_letter_48 : decode cX11_letter 48 = .ok (.iconst 1, 1) := by decide +kernel
theorem dX11_letter_49 : decode cX11_letter 49 = .ok (.if_icmp .ne 33, 3) := by decide +kernel
theorem dX11_letter_52 : decode cX11_letter 52 = .ok (.iload_n 2, 1) := by decide +kernel
theorem dX11_letter_53 : decode cX11_letter 53 = .ok (.ifCond .lt 29, 3) := by decide +kernel
theorem dX11_letter_56 : decode cX11_letter 56 = .ok (.iload_n 2, 1) := by decide +kernel
theorem dX11_letter_57 : decode cX11_letter 57 = .ok (.aload_n 0, 1) := by decide +kernel
theorem dX11_letter_58 : decode cX11_letter 58 = .ok (.getfield 36, 3) := by decide +kernel
theorem dX11_letter_61 : decode cX11_letter 61 = .ok (.getfield 172, 3) := by decide +kernel
theorem dX11_letter_64 : decode cX11_letter 64 = .ok (.if_icmp .ge 18, 3) := by decide +kernel
theorem dX11_letter_67 : decode cX11_letter 67 = .ok (.aload_n 0, 1) := by decide +kernel
theorem dX11_letter_68 : decode cX11_letter 68 = .ok (.aload_n 0, 1) := by decide +kernel
theorem dX11_letter_69 : decode cX11_letter 69 = .ok (.getfield 36, 3) := by decide +kernel
theorem dX11_letter_72 : decode cX11_letter 72 = .ok (.getfield 209, 3) := by decide +kernel
theorem dX11_letter_75 : decode cX11_letter 75 = .ok (.iload_n 2, 1) := by decide +kernel
theorem dX11_letter_76 : decode cX11_letter 76 = .ok (.iaload, 1) := by decide +kernel
theorem dX11_letter_77 : decode cX11_letter 77 = .ok (.iload_n 3, 1) := by decide +kernel
theorem dX11_letter_78 : decode cX11_letter 78 = .ok (.invokevirtual 205, 3) := by decide +kernel
theorem dX11_letter_81 : decode cX11_letter 81 = .ok (.ireturn, 1) := by decide +kernel
theorem dX11_letter_82 : decode cX11_letter 82 = .ok (.iconst (-1), 1) := by decide +kernel
theorem dX11_letter_83 : decode cX11_letter 83 = .ok (.ireturn, 1) := by decide +kernel
theorem dX11_letterOf_0 : decode cX11_letterOf 0 = .ok (.iload_n 1, 1) := by decide +kernel
theorem dX11_letterOf_1 : decode cX11_letterOf 1 = .ok (.getstatic 212, 3) := by decide +kernel
theorem dX11_letterOf_4 : decode cX11_letterOf 4 = .ok (.iload_n 2, 1) := by decide +kernel
theorem dX11_letterOf_5 : decode cX11_letterOf 5 = .ok (.iaload, 1) := by decide +kernel
theorem dX11_letterOf_6 : decode cX11_letterOf 6 = .ok (.idiv, 1) := by decide +kernel
theorem dX11_letterOf_7 : decode cX11_letterOf 7 = .ok (.bipush 27, 2) := by decide +kernel
theorem dX11_letterOf_9 : decode cX11_letterOf 9 = .ok (.irem, 1) := by decide +kernel
theorem dX11_letterOf_10 : decode cX11_letterOf 10 = .ok (.ireturn, 1) := by decide +kernel
theorem dX11_seat_0 : decode cX11_seat 0 = .ok (.aload_n 0, 1) := by decide +kernel
theorem dX11_seat_1 : decode cX11_seat 1 = .ok (.iload_n 1, 1) := by decide +kernel
theorem dX11_seat_2 : decode cX11_seat 2 = .ok (.invokevirtual 196, 3) := by decide +kernel
theorem dX11_seat_5 : decode cX11_seat 5 = .ok (.ifCond .ne 5, 3) := by decide +kernel
theorem dX11_seat_8 : decode cX11_seat 8 = .ok (.iconst (-1), 1) := by decide +kernel
theorem dX11_seat_9 : decode cX11_seat 9 = .ok (.ireturn, 1) := by decide +kernel
theorem dX11_seat_10 : decode cX11_seat 10 = .ok (.aload_n 0, 1) := by decide +kernel
theorem dX11_seat_11 : decode cX11_seat 11 = .ok (.getfield 55, 3) := by decide +kernel
theorem dX11_seat_14 : decode cX11_seat 14 = .ok (.iload_n 1, 1) := by decide +kernel
theorem dX11_seat_15 : decode cX11_seat 15 = .ok (.iconst 0, 1) := by decide +kernel
theorem dX11_seat_16 : decode cX11_seat 16 = .ok (.invokevirtual 215, 3) := by decide +kernel
theorem dX11_seat_19 : decode cX11_seat 19 = .ok (.istore_n 3, 1) := by decide +kernel
theorem dX11_seat_20 : decode cX11_seat 20 = .ok (.aload_n 0, 1) := by decide +kernel
theorem dX11_seat_21 : decode cX11_seat 21 = .ok (.getfield 55, 3) := by decide +kernel
theorem dX11_seat_24 : decode cX11_seat 24 = .ok (.iload_n 1, 1) := by decide +kernel
theorem dX11_seat_25 : decode cX11_seat 25 = .ok (.iconst 1, 1) := by decide +kernel
theorem dX11_seat_26 : decode cX11_seat 26 = .ok (.invokevirtual 215, 3) := by decide +kernel
theorem dX11_seat_29 : decode cX11_seat 29 = .ok (.istore 4, 2) := by decide +kernel
theorem dX11_seat_31 : decode cX11_seat 31 = .ok (.iload_n 2, 1) := by decide +kernel
theorem dX11_seat_32 : decode cX11_seat 32 = .ok (.tableswitch 139 0 7 #[48, 58, 76, 86, 97, 107, 118, 128], 48) := by decide +kernel
theorem dX11_seat_80 : decode cX11_seat 80 = .ok (.aload_n 0, 1) := by decide +kernel
theorem dX11_seat_81 : decode cX11_seat 81 = .ok (.getfield 55, 3) := by decide +kernel
theorem dX11_seat_84 : decode cX11_seat 84 = .ok (.getfield 202, 3) := by decide +kernel
theorem dX11_seat_87 : decode cX11_seat 87 = .ok (.iload_n 1, 1) := by decide +kernel
theorem dX11_seat_88 : decode cX11_seat 88 = .ok (.iaload, 1) := by decide +kernel
theorem dX11_seat_89 : decode cX11_seat 89 = .ok (.ireturn, 1) := by decide +kernel
theorem dX11_seat_90 : decode cX11_seat 90 = .ok (.aload_n 0, 1) := by decide +kernel
theorem dX11_seat_91 : decode cX11_seat 91 = .ok (.getfield 55, 3) := by decide +kernel
theorem dX11_seat_94 : decode cX11_seat 94 = .ok (.getfield 218, 3) := by decide +kernel
theorem dX11_seat_97 : decode cX11_seat 97 = .ok (.aload_n 0, 1) := by decide +kernel
theorem dX11_seat_98 : decode cX11_seat 98 = .ok (.getfield 55, 3) := by decide +kernel
theorem dX11_seat_101 : decode cX11_seat 101 = .ok (.getfield 202, 3) := by decide +kernel
theorem dX11_seat_104 : decode cX11_seat 104 = .ok (.iload_n 1, 1) := by decide +kernel
theorem dX11_seat_105 : decode cX11_seat 105 = .ok (.iaload, 1) := by decide +kernel
theorem dX11_seat_106 : decode cX11_seat 106 = .ok (.iaload, 1) := by decide +kernel
theorem dX11_seat_107 : decode cX11_seat 107 = .ok (.ireturn, 1) := by decide +kernel
theorem dX11_seat_108 : decode cX11_seat 108 = .ok (.aload_n 0, 1) := by decide +kernel
theorem dX11_seat_109 : decode cX11_seat 109 = .ok (.getfield 36, 3) := by decide +kernel
theorem dX11_seat_112 : decode cX11_seat 112 = .ok (.getfield 221, 3) := by decide +kernel
theorem dX11_seat_115 : decode cX11_seat 115 = .ok (.iload_n 3, 1) := by decide +kernel
theorem dX11_seat_116 : decode cX11_seat 116 = .ok (.iaload, 1) := by decide +kernel
theorem dX11_seat_117 : decode cX11_seat 117 = .ok (.ireturn, 1) := by decide +kernel
theorem dX11_seat_118 : decode cX11_seat 118 = .ok (.aload_n 0, 1) := by decide +kernel
theorem dX11_seat_119 : decode cX11_seat 119 = .ok (.getfield 36, 3) := by decide +kernel
theorem dX11_seat_122 : decode cX11_seat 122 = .ok (.getfield 221, 3) := by decide +kernel
theorem dX11_seat_125 : decode cX11_seat 125 = .ok (.iload 4, 2) := by decide +kernel
theorem dX11_seat_127 : decode cX11_seat 127 = .ok (.iaload, 1) := by decide +kernel
theorem dX11_seat_128 : decode cX11_seat 128 = .ok (.ireturn, 1) := by decide +kernel
theorem dX11_seat_129 : decode cX11_seat 129 = .ok (.aload_n 0, 1) := by decide +kernel
theorem dX11_seat_130 : decode cX11_seat 130 = .ok (.getfield 55, 3) := by decide +kernel
theorem dX11_seat_133 : decode cX11_seat 133 = .ok (.getfield 224, 3) := by decide +kernel
theorem dX11_seat_136 : decode cX11_seat 136 = .ok (.iload_n 3, 1) := by decide +kernel
theorem dX11_seat_137 : decode cX11_seat 137 = .ok (.iaload, 1) := by decide +kernel
theorem dX11_seat_138 : decode cX11_seat 138 = .ok (.ireturn, 1) := by decide +kernel
theorem dX11_seat_139 : decode cX11_seat 139 = .ok (.aload_n 0, 1) := by decide +kernel
theorem dX11_seat_140 : decode cX11_seat 140 = .ok (.getfield 55, 3) := by decide +kernel
theorem dX11_seat_143 : decode cX11_seat 143 = .ok (.getfield 224, 3) := by decide +kernel
theorem dX11_seat_146 : decode cX11_seat 146 = .ok (.iload 4, 2) := by decide +kernel
theorem dX11_seat_148 : decode cX11_seat 148 = .ok (.iaload, 1) := by decide +kernel
theorem dX11_seat_149 : decode cX11_seat 149 = .ok (.ireturn, 1) := by decide +kernel
theorem dX11_seat_150 : decode cX11_seat 150 = .ok (.aload_n 0, 1) := by decide +kernel
theorem dX11_seat_151 : decode cX11_seat 151 = .ok (.getfield 55, 3) := by decide +kernel
theorem dX11_seat_154 : decode cX11_seat 154 = .ok (.getfield 227, 3) := by decide +kernel
theorem dX11_seat_157 : decode cX11_seat 157 = .ok (.iload_n 3, 1) := by decide +kernel
theorem dX11_seat_158 : decode cX11_seat 158 = .ok (.iaload, 1) := by decide +kernel
theorem dX11_seat_159 : decode cX11_seat 159 = .ok (.ireturn, 1) := by decide +kernel
theorem dX11_seat_160 : decode cX11_seat 160 = .ok (.aload_n 0, 1) := by decide +kernel
theorem dX11_seat_161 : decode cX11_seat 161 = .ok (.getfield 55, 3) := by decide +kernel
theorem dX11_seat_164 : decode cX11_seat 164 = .ok (.getfield 227, 3) := by decide +kernel
theorem dX11_seat_167 : decode cX11_seat 167 = .ok (.iload 4, 2) := by decide +kernel
theorem dX11_seat_169 : decode cX11_seat 169 = .ok (.iaload, 1) := by decide +kernel
theorem dX11_seat_170 : decode cX11_seat 170 = .ok (.ireturn, 1) := by decide +kernel
theorem dX11_seat_171 : decode cX11_seat 171 = .ok (.iconst (-1), 1) := by decide +kernel
theorem dX11_seat_172 : decode cX11_seat 172 = .ok (.ireturn, 1) := by decide +kernel
theorem dX11_box_0 : decode cX11_box 0 = .ok (.iload_n 1, 1) := by decide +kernel
theorem dX11_box_1 : decode cX11_box 1 = .ok (.ifCond .lt 26, 3) := by decide +kernel
theorem dX11_box_4 : decode cX11_box 4 = .ok (.iload_n 1, 1) := by decide +kernel
theorem dX11_box_5 : decode cX11_box 5 = .ok (.aload_n 0, 1) := by decide +kernel
theorem dX11_box_6 : decode cX11_box 6 = .ok (.getfield 36, 3) := by decide +kernel
theorem dX11_box_9 : decode cX11_box 9 = .ok (.getfield 172, 3) := by decide +kernel
theorem dX11_box_12 : decode cX11_box 12 = .ok (.if_icmp .ge 15, 3) := by decide +kernel
theorem dX11_box_15 : decode cX11_box 15 = .ok (.aload_n 0, 1) := by decide +kernel
theorem dX11_box_16 : decode cX11_box 16 = .ok (.getfield 36, 3) := by decide +kernel
theorem dX11_box_19 : decode cX11_box 19 = .ok (.getfield 230, 3) := by decide +kernel
theorem dX11_box_22 : decode cX11_box 22 = .ok (.iload_n 1, 1) := by decide +kernel
theorem dX11_box_23 : decode cX11_box 23 = .ok (.iaload, 1) := by decide +kernel
theorem dX11_box_24 : decode cX11_box 24 = .ok (.goto 4, 3) := by decide +kernel
theorem dX11_box_27 : decode cX11_box 27 = .ok (.iconst (-1), 1) := by decide +kernel
theorem dX11_box_28 : decode cX11_box 28 = .ok (.ireturn, 1) := by decide +kernel
theorem dX11_cracker_0 : decode cX11_cracker 0 = .ok (.iload_n 1, 1) := by decide +kernel
theorem dX11_cracker_1 : decode cX11_cracker 1 = .ok (.ifCond .lt 24, 3) := by decide +kernel
theorem dX11_cracker_4 : decode cX11_cracker 4 = .ok (.iload_n 1, 1) := by decide +kernel
theorem dX11_cracker_5 : decode cX11_cracker 5 = .ok (.aload_n 0, 1) := by decide +kernel
theorem dX11_cracker_6 : decode cX11_cracker 6 = .ok (.getfield 55, 3) := by decide +kernel
theorem dX11_cracker_9 : decode cX11_cracker 9 = .ok (.invokevirtual 168, 3) := by decide +kernel
theorem dX11_cracker_12 : decode cX11_cracker 12 = .ok (.if_icmp .ge 13, 3) := by decide +kernel
theorem dX11_cracker_15 : decode cX11_cracker 15 = .ok (.iload_n 2, 1) := by decide +kernel
theorem dX11_cracker_16 : decode cX11_cracker 16 = .ok (.ifCond .lt 9, 3) := by decide +kernel
theorem dX11_cracker_19 : decode cX11_cracker 19 = .ok (.iload_n 2, 1) := by decide +kernel
theorem dX11_cracker_20 : decode cX11_cracker 20 = .ok (.bipush 7, 2) := by decide +kernel
theorem dX11_cracker_22 : decode cX11_cracker 22 = .ok (.if_icmp .lt 5, 3) := by decide +kernel
theorem dX11_cracker_25 : decode cX11_cracker 25 = .ok (.iconst (-1), 1) := by decide +kernel
theorem dX11_cracker_26 : decode cX11_cracker 26 = .ok (.ireturn, 1) := by decide +kernel
theorem dX11_cracker_27 : decode cX11_cracker 27 = .ok (.aload_n 0, 1) := by decide +kernel
theorem dX11_cracker_28 : decode cX11_cracker 28 = .ok (.getfield 71, 3) := by decide +kernel
theorem dX11_cracker_31 : decode cX11_cracker 31 = .ok (.aload_n 0, 1) := by decide +kernel
theorem dX11_cracker_32 : decode cX11_cracker 32 = .ok (.getfield 55, 3) := by decide +kernel
theorem dX11_cracker_35 : decode cX11_cracker 35 = .ok (.iload_n 1, 1) := by decide +kernel
theorem dX11_cracker_36 : decode cX11_cracker 36 = .ok (.aload_n 0, 1) := by decide +kernel
theorem dX11_cracker_37 : decode cX11_cracker 37 = .ok (.getfield 55, 3) := by decide +kernel
theorem dX11_cracker_40 : decode cX11_cracker 40 = .ok (.iload_n 1, 1) := by decide +kernel
theorem dX11_cracker_41 : decode cX11_cracker 41 = .ok (.invokevirtual 233, 3) := by decide +kernel
theorem dX11_cracker_44 : decode cX11_cracker 44 = .ok (.invokevirtual 236, 3) := by decide +kernel
theorem dX11_cracker_47 : decode cX11_cracker 47 = .ok (.aload_n 0, 1) := by decide +kernel
theorem dX11_cracker_48 : decode cX11_cracker 48 = .ok (.getfield 71, 3) := by decide +kernel
theorem dX11_cracker_51 : decode cX11_cracker 51 = .ok (.getfield 240, 3) := by decide +kernel
theorem dX11_cracker_54 : decode cX11_cracker 54 = .ok (.iload_n 2, 1) := by decide +kernel
theorem dX11_cracker_55 : decode cX11_cracker 55 = .ok (.iaload, 1) := by decide +kernel
theorem dX11_cracker_56 : decode cX11_cracker 56 = .ok (.ireturn, 1) := by decide +kernel
theorem dX11_odds_0 : decode cX11_odds 0 = .ok (.aload_n 0, 1) := by decide +kernel
theorem dX11_odds_1 : decode cX11_odds 1 = .ok (.iload_n 1, 1) := by decide +kernel
theorem dX11_odds_2 : decode cX11_odds 2 = .ok (.invokevirtual 243, 3) := by decide +kernel
theorem dX11_odds_5 : decode cX11_odds 5 = .ok (.ifCond .eq 11, 3) := by decide +kernel
theorem dX11_odds_8 : decode cX11_odds 8 = .ok (.aload_n 0, 1) := by decide +kernel
theorem dX11_odds_9 : decode cX11_odds 9 = .ok (.iload_n 2, 1) := by decide +kernel
theorem dX11_odds_10 : decode cX11_odds 10 = .ok (.invokevirtual 246, 3) := by decide +kernel
theorem dX11_odds_13 : decode cX11_odds 13 = .ok (.ifCond .ne 5, 3) := by decide +kernel
theorem dX11_odds_16 : decode cX11_odds 16 = .ok (.iconst (-1), 1) := by decide +kernel
theorem dX11_odds_17 : decode cX11_odds 17 = .ok (.ireturn, 1) := by decide +kernel
theorem dX11_odds_18 : decode cX11_odds 18 = .ok (.aload_n 0, 1) := by decide +kernel
theorem dX11_odds_19 : decode cX11_odds 19 = .ok (.getfield 71, 3) := by decide +kernel
theorem dX11_odds_22 : decode cX11_odds 22 = .ok (.aload_n 0, 1) := by decide +kernel
theorem dX11_odds_23 : decode cX11_odds 23 = .ok (.getfield 55, 3) := by decide +kernel
theorem dX11_odds_26 : decode cX11_odds 26 = .ok (.invokevirtual 249, 3) := by decide +kernel
theorem dX11_odds_29 : decode cX11_odds 29 = .ok (.aload_n 0, 1) := by decide +kernel
theorem dX11_odds_30 : decode cX11_odds 30 = .ok (.getfield 71, 3) := by decide +kernel
theorem dX11_odds_33 : decode cX11_odds 33 = .ok (.aload_n 0, 1) := by decide +kernel
theorem dX11_odds_34 : decode cX11_odds 34 = .ok (.getfield 55, 3) := by decide +kernel
theorem dX11_odds_37 : decode cX11_odds 37 = .ok (.iload_n 1, 1) := by decide +kernel
theorem dX11_odds_38 : decode cX11_odds 38 = .ok (.iload_n 2, 1) := by decide +kernel
theorem dX11_odds_39 : decode cX11_odds 39 = .ok (.invokevirtual 253, 3) := by decide +kernel
theorem dX11_odds_42 : decode cX11_odds 42 = .ok (.ldc2_w 257, 3) := by decide +kernel
theorem dX11_odds_45 : decode cX11_odds 45 = .ok (.ldiv, 1) := by decide +kernel
theorem dX11_odds_46 : decode cX11_odds 46 = .ok (.l2i, 1) := by decide +kernel
theorem dX11_odds_47 : decode cX11_odds 47 = .ok (.ireturn, 1) := by decide +kernel
theorem dX11_isDinnersHats_0 : decode cX11_isDinnersHats 0 = .ok (.iload_n 1, 1) := by decide +kernel
theorem dX11_isDinnersHats_1 : decode cX11_isDinnersHats 1 = .ok (.ifCond .lt 12, 3) := by decide +kernel
theorem dX11_isDinnersHats_4 : decode cX11_isDinnersHats 4 = .ok (.iload_n 1, 1) := by decide +kernel
theorem dX11_isDinnersHats_5 : decode cX11_isDinnersHats 5 = .ok (.iconst 2, 1) := by decide +kernel
theorem dX11_isDinnersHats_6 : decode cX11_isDinnersHats 6 = .ok (.if_icmp .gt 7, 3) := by decide +kernel
theorem dX11_isDinnersHats_9 : decode cX11_isDinnersHats 9 = .ok (.iconst 1, 1) := by decide +kernel
theorem dX11_isDinnersHats_10 : decode cX11_isDinnersHats 10 = .ok (.goto 4, 3) := by decide +kernel
theorem dX11_isDinnersHats_13 : decode cX11_isDinnersHats 13 = .ok (.iconst 0, 1) := by decide +kernel
theorem dX11_isDinnersHats_14 : decode cX11_isDinnersHats 14 = .ok (.ireturn, 1) := by decide +kernel
theorem dX11_mean_0 : decode cX11_mean 0 = .ok (.aload_n 0, 1) := by decide +kernel
theorem dX11_mean_1 : decode cX11_mean 1 = .ok (.getfield 55, 3) := by decide +kernel
theorem dX11_mean_4 : decode cX11_mean 4 = .ok (.invokevirtual 168, 3) := by decide +kernel
theorem dX11_mean_7 : decode cX11_mean 7 = .ok (.ifCond .eq 11, 3) := by decide +kernel
theorem dX11_mean_10 : decode cX11_mean 10 = .ok (.aload_n 0, 1) := by decide +kernel
theorem dX11_mean_11 : decode cX11_mean 11 = .ok (.iload_n 1, 1) := by decide +kernel
theorem dX11_mean_12 : decode cX11_mean 12 = .ok (.invokevirtual 246, 3) := by decide +kernel
theorem dX11_mean_15 : decode cX11_mean 15 = .ok (.ifCond .ne 5, 3) := by decide +kernel
theorem dX11_mean_18 : decode cX11_mean 18 = .ok (.iconst (-1), 1) := by decide +kernel
theorem dX11_mean_19 : decode cX11_mean 19 = .ok (.ireturn, 1) := by decide +kernel
theorem dX11_mean_20 : decode cX11_mean 20 = .ok (.aload_n 0, 1) := by decide +kernel
theorem dX11_mean_21 : decode cX11_mean 21 = .ok (.getfield 71, 3) := by decide +kernel
theorem dX11_mean_24 : decode cX11_mean 24 = .ok (.aload_n 0, 1) := by decide +kernel
theorem dX11_mean_25 : decode cX11_mean 25 = .ok (.getfield 55, 3) := by decide +kernel
theorem dX11_mean_28 : decode cX11_mean 28 = .ok (.invokevirtual 249, 3) := by decide +kernel
theorem dX11_mean_31 : decode cX11_mean 31 = .ok (.lconst 0, 1) := by decide +kernel
theorem dX11_mean_32 : decode cX11_mean 32 = .ok (.lstore_n 2, 1) := by decide +kernel
theorem dX11_mean_33 : decode cX11_mean 33 = .ok (.iconst 0, 1) := by decide +kernel
theorem dX11_mean_34 : decode cX11_mean 34 = .ok (.istore 4, 2) := by decide +kernel
theorem dX11_mean_36 : decode cX11_mean 36 = .ok (.iload 4, 2) := by decide +kernel
theorem dX11_mean_38 : decode cX11_mean 38 = .ok (.aload_n 0, 1) := by decide +kernel
theorem dX11_mean_39 : decode cX11_mean 39 = .ok (.getfield 55, 3) := by decide +kernel
theorem dX11_mean_42 : decode cX11_mean 42 = .ok (.getfield 165, 3) := by decide +kernel
theorem dX11_mean_45 : decode cX11_mean 45 = .ok (.if_icmp .ge 26, 3) := by decide +kernel
theorem dX11_mean_48 : decode cX11_mean 48 = .ok (.lload_n 2, 1) := by decide +kernel
theorem dX11_mean_49 : decode cX11_mean 49 = .ok (.aload_n 0, 1) := by decide +kernel
theorem dX11_mean_50 : decode cX11_mean 50 = .ok (.getfield 71, 3) := by decide +kernel
theorem dX11_mean_53 : decode cX11_mean 53 = .ok (.aload_n 0, 1) := by decide +kernel
theorem dX11_mean_54 : decode cX11_mean 54 = .ok (.getfield 55, 3) := by decide +kernel
theorem dX11_mean_57 : decode cX11_mean 57 = .ok (.iload 4, 2) := by decide +kernel
theorem dX11_mean_59 : decode cX11_mean 59 = .ok (.iload_n 1, 1) := by decide +kernel
theorem dX11_mean_60 : decode cX11_mean 60 = .ok (.invokevirtual 253, 3) := by decide +kernel
theorem dX11_mean_63 : decode cX11_mean 63 = .ok (.ladd, 1) := by decide +kernel
theorem dX11_mean_64 : decode cX11_mean 64 = .ok (.lstore_n 2, 1) := by decide +kernel
theorem dX11_mean_65 : decode cX11_mean 65 = .ok (.iinc 4 1, 3) := by decide +kernel
theorem dX11_mean_68 : decode cX11_mean 68 = .ok (.goto (-32), 3) := by decide +kernel
theorem dX11_mean_71 : decode cX11_mean 71 = .ok (.aload_n 0, 1) := by decide +kernel
theorem dX11_mean_72 : decode cX11_mean 72 = .ok (.lload_n 2, 1) := by decide +kernel
theorem dX11_mean_73 : decode cX11_mean 73 = .ok (.invokevirtual 259, 3) := by decide +kernel
theorem dX11_mean_76 : decode cX11_mean 76 = .ok (.ireturn, 1) := by decide +kernel
theorem dX11_thousandths_0 : decode cX11_thousandths 0 = .ok (.lload_n 1, 1) := by decide +kernel
theorem dX11_thousandths_1 : decode cX11_thousandths 1 = .ok (.ldc2_w 263, 3) := by decide +kernel
theorem dX11_thousandths_4 : decode cX11_thousandths 4 = .ok (.ldiv, 1) := by decide +kernel
theorem dX11_thousandths_5 : decode cX11_thousandths 5 = .ok (.l2i, 1) := by decide +kernel
theorem dX11_thousandths_6 : decode cX11_thousandths 6 = .ok (.ireturn, 1) := by decide +kernel
theorem dX11_most_0 : decode cX11_most 0 = .ok (.aload_n 0, 1) := by decide +kernel
theorem dX11_most_1 : decode cX11_most 1 = .ok (.getfield 55, 3) := by decide +kernel
theorem dX11_most_4 : decode cX11_most 4 = .ok (.invokevirtual 168, 3) := by decide +kernel
theorem dX11_most_7 : decode cX11_most 7 = .ok (.ifCond .ne 5, 3) := by decide +kernel
theorem dX11_most_10 : decode cX11_most 10 = .ok (.iconst (-1), 1) := by decide +kernel
theorem dX11_most_11 : decode cX11_most 11 = .ok (.ireturn, 1) := by decide +kernel
theorem dX11_most_12 : decode cX11_most 12 = .ok (.aload_n 0, 1) := by decide +kernel
theorem dX11_most_13 : decode cX11_most 13 = .ok (.getfield 71, 3) := by decide +kernel
theorem dX11_most_16 : decode cX11_most 16 = .ok (.aload_n 0, 1) := by decide +kernel
theorem dX11_most_17 : decode cX11_most 17 = .ok (.getfield 55, 3) := by decide +kernel
theorem dX11_most_20 : decode cX11_most 20 = .ok (.invokevirtual 249, 3) := by decide +kernel
theorem dX11_most_23 : decode cX11_most 23 = .ok (.iconst 0, 1) := by decide +kernel
theorem dX11_most_24 : decode cX11_most 24 = .ok (.istore_n 1, 1) := by decide +kernel
theorem dX11_most_25 : decode cX11_most 25 = .ok (.iconst 0, 1) := by decide +kernel
theorem dX11_most_26 : decode cX11_most 26 = .ok (.istore_n 2, 1) := by decide +kernel
theorem dX11_most_27 : decode cX11_most 27 = .ok (.iload_n 2, 1) := by decide +kernel
theorem dX11_most_28 : decode cX11_most 28 = .ok (.iconst 1, 1) := by decide +kernel
theorem dX11_most_29 : decode cX11_most 29 = .ok (.aload_n 0, 1) := by decide +kernel
theorem dX11_most_30 : decode cX11_most 30 = .ok (.getfield 55, 3) := by decide +kernel
theorem dX11_most_33 : decode cX11_most 33 = .ok (.getfield 165, 3) := by decide +kernel
theorem dX11_most_36 : decode cX11_most 36 = .ok (.ishl, 1) := by decide +kernel
theorem dX11_most_37 : decode cX11_most 37 = .ok (.if_icmp .ge 37, 3) := by decide +kernel
theorem dX11_most_40 : decode cX11_most 40 = .ok (.iload_n 2, 1) := by decide +kernel
theorem dX11_most_41 : decode cX11_most 41 = .ok (.invokestatic 265, 3) := by decide +kernel
theorem dX11_most_44 : decode cX11_most 44 = .ok (.iload_n 1, 1) := by decide +kernel
theorem dX11_most_45 : decode cX11_most 45 = .ok (.if_icmp .le 23, 3) := by decide +kernel
theorem dX11_most_48 : decode cX11_most 48 = .ok (.aload_n 0, 1) := by decide +kernel
theorem dX11_most_49 : decode cX11_most 49 = .ok (.getfield 71, 3) := by decide +kernel
theorem dX11_most_52 : decode cX11_most 52 = .ok (.aload_n 0, 1) := by decide +kernel
theorem dX11_most_53 : decode cX11_most 53 = .ok (.getfield 55, 3) := by decide +kernel
theorem dX11_most_56 : decode cX11_most 56 = .ok (.iload_n 2, 1) := by decide +kernel
theorem dX11_most_57 : decode cX11_most 57 = .ok (.invokevirtual 270, 3) := by decide +kernel
theorem dX11_most_60 : decode cX11_most 60 = .ok (.ifCond .eq 8, 3) := by decide +kernel
theorem dX11_most_63 : decode cX11_most 63 = .ok (.iload_n 2, 1) := by decide +kernel
theorem dX11_most_64 : decode cX11_most 64 = .ok (.invokestatic 265, 3) := by decide +kernel
theorem dX11_most_67 : decode cX11_most 67 = .ok (.istore_n 1, 1) := by decide +kernel
theorem dX11_most_68 : decode cX11_most 68 = .ok (.iinc 2 1, 3) := by decide +kernel
theorem dX11_most_71 : decode cX11_most 71 = .ok (.goto (-44), 3) := by decide +kernel
theorem dX11_most_74 : decode cX11_most 74 = .ok (.iload_n 1, 1) := by decide +kernel
theorem dX11_most_75 : decode cX11_most 75 = .ok (.ireturn, 1) := by decide +kernel
theorem dX11_seats_0 : decode cX11_seats 0 = .ok (.aload_n 0, 1) := by decide +kernel
theorem dX11_seats_1 : decode cX11_seats 1 = .ok (.getfield 55, 3) := by decide +kernel
theorem dX11_seats_4 : decode cX11_seats 4 = .ok (.invokevirtual 168, 3) := by decide +kernel
theorem dX11_seats_7 : decode cX11_seats 7 = .ok (.ifCond .eq 19, 3) := by decide +kernel
theorem dX11_seats_10 : decode cX11_seats 10 = .ok (.iload_n 1, 1) := by decide +kernel
theorem dX11_seats_11 : decode cX11_seats 11 = .ok (.iconst (-1), 1) := by decide +kernel
theorem dX11_seats_12 : decode cX11_seats 12 = .ok (.if_icmp .lt 14, 3) := by decide +kernel
theorem dX11_seats_15 : decode cX11_seats 15 = .ok (.iload_n 1, 1) := by decide +kernel
theorem dX11_seats_16 : decode cX11_seats 16 = .ok (.aload_n 0, 1) := by decide +kernel
theorem dX11_seats_17 : decode cX11_seats 17 = .ok (.getfield 55, 3) := by decide +kernel
theorem dX11_seats_20 : decode cX11_seats 20 = .ok (.getfield 165, 3) := by decide +kernel
theorem dX11_seats_23 : decode cX11_seats 23 = .ok (.if_icmp .lt 5, 3) := by decide +kernel
theorem dX11_seats_26 : decode cX11_seats 26 = .ok (.iconst (-1), 1) := by decide +kernel
theorem dX11_seats_27 : decode cX11_seats 27 = .ok (.ireturn, 1) := by decide +kernel
theorem dX11_seats_28 : decode cX11_seats 28 = .ok (.aload_n 0, 1) := by decide +kernel
theorem dX11_seats_29 : decode cX11_seats 29 = .ok (.getfield 87, 3) := by decide +kernel
theorem dX11_seats_32 : decode cX11_seats 32 = .ok (.aload_n 0, 1) := by decide +kernel
theorem dX11_seats_33 : decode cX11_seats 33 = .ok (.getfield 55, 3) := by decide +kernel
theorem dX11_seats_36 : decode cX11_seats 36 = .ok (.invokevirtual 274, 3) := by decide +kernel
theorem dX11_seats_39 : decode cX11_seats 39 = .ok (.iload_n 1, 1) := by decide +kernel
theorem dX11_seats_40 : decode cX11_seats 40 = .ok (.iconst (-1), 1) := by decide +kernel
theorem dX11_seats_41 : decode cX11_seats 41 = .ok (.if_icmp .ne 17, 3) := by decide +kernel
theorem dX11_seats_44 : decode cX11_seats 44 = .ok (.aload_n 0, 1) := by decide +kernel
theorem dX11_seats_45 : decode cX11_seats 45 = .ok (.aload_n 0, 1) := by decide +kernel
theorem dX11_seats_46 : decode cX11_seats 46 = .ok (.getfield 87, 3) := by decide +kernel
theorem dX11_seats_49 : decode cX11_seats 49 = .ok (.getfield 277, 3) := by decide +kernel
theorem dX11_seats_52 : decode cX11_seats 52 = .ok (.invokevirtual 259, 3) := by decide +kernel
theorem dX11_seats_55 : decode cX11_seats 55 = .ok (.goto 12, 3) := by decide +kernel
theorem dX11_seats_58 : decode cX11_seats 58 = .ok (.aload_n 0, 1) := by decide +kernel
theorem dX11_seats_59 : decode cX11_seats 59 = .ok (.getfield 87, 3) := by decide +kernel
theorem dX11_seats_62 : decode cX11_seats 62 = .ok (.getfield 281, 3) := by decide +kernel
theorem dX11_seats_65 : decode cX11_seats 65 = .ok (.iload_n 1, 1) := by decide +kernel
theorem dX11_seats_66 : decode cX11_seats 66 = .ok (.iaload, 1) := by decide +kernel
theorem dX11_seats_67 : decode cX11_seats 67 = .ok (.ireturn, 1) := by decide +kernel
theorem dX11_best_0 : decode cX11_best 0 = .ok (.aload_n 0, 1) := by decide +kernel
theorem dX11_best_1 : decode cX11_best 1 = .ok (.iload_n 1, 1) := by decide +kernel
theorem dX11_best_2 : decode cX11_best 2 = .ok (.invokevirtual 243, 3) := by decide +kernel
theorem dX11_best_5 : decode cX11_best 5 = .ok (.ifCond .eq 20, 3) := by decide +kernel
theorem dX11_best_8 : decode cX11_best 8 = .ok (.aload_n 0, 1) := by decide +kernel
theorem dX11_best_9 : decode cX11_best 9 = .ok (.iload_n 2, 1) := by decide +kernel
theorem dX11_best_10 : decode cX11_best 10 = .ok (.invokevirtual 284, 3) := by decide +kernel
theorem dX11_best_13 : decode cX11_best 13 = .ok (.ifCond .eq 12, 3) := by decide +kernel
theorem dX11_best_16 : decode cX11_best 16 = .ok (.iload_n 3, 1) := by decide +kernel
theorem dX11_best_17 : decode cX11_best 17 = .ok (.ifCond .lt 8, 3) := by decide +kernel
theorem dX11_best_20 : decode cX11_best 20 = .ok (.iload_n 3, 1) := by decide +kernel
theorem dX11_best_21 : decode cX11_best 21 = .ok (.iconst 1, 1) := by decide +kernel
theorem dX11_best_22 : decode cX11_best 22 = .ok (.if_icmp .le 5, 3) := by decide +kernel
theorem dX11_best_25 : decode cX11_best 25 = .ok (.iconst (-1), 1) := by decide +kernel
theorem dX11_best_26 : decode cX11_best 26 = .ok (.ireturn, 1) := by decide +kernel
theorem dX11_best_27 : decode cX11_best 27 = .ok (.aload_n 0, 1) := by decide +kernel
theorem dX11_best_28 : decode cX11_best 28 = .ok (.getfield 80, 3) := by decide +kernel
theorem dX11_best_31 : decode cX11_best 31 = .ok (.getfield 287, 3) := by decide +kernel
theorem dX11_best_34 : decode cX11_best 34 = .ok (.aload_n 0, 1) := by decide +kernel
theorem dX11_best_35 : decode cX11_best 35 = .ok (.getfield 55, 3) := by decide +kernel
theorem dX11_best_38 : decode cX11_best 38 = .ok (.invokevirtual 290, 3) := by decide +kernel
theorem dX11_best_41 : decode cX11_best 41 = .ok (.aload_n 0, 1) := by decide +kernel
theorem dX11_best_42 : decode cX11_best 42 = .ok (.getfield 80, 3) := by decide +kernel
theorem dX11_best_45 : decode cX11_best 45 = .ok (.aload_n 0, 1) := by decide +kernel
theorem dX11_best_46 : decode cX11_best 46 = .ok (.getfield 80, 3) := by decide +kernel
theorem dX11_best_49 : decode cX11_best 49 = .ok (.getfield 287, 3) := by decide +kernel
theorem dX11_best_52 : decode cX11_best 52 = .ok (.iload_n 1, 1) := by decide +kernel
theorem dX11_best_53 : decode cX11_best 53 = .ok (.iload_n 2, 1) := by decide +kernel
theorem dX11_best_54 : decode cX11_best 54 = .ok (.invokevirtual 293, 3) := by decide +kernel
theorem dX11_best_57 : decode cX11_best 57 = .ok (.iload_n 3, 1) := by decide +kernel
theorem dX11_best_58 : decode cX11_best 58 = .ok (.ifCond .ne 13, 3) := by decide +kernel
theorem dX11_best_61 : decode cX11_best 61 = .ok (.aload_n 0, 1) := by decide +kernel
theorem dX11_best_62 : decode cX11_best 62 = .ok (.getfield 80, 3) := by decide +kernel
theorem dX11_best_65 : decode cX11_best 65 = .ok (.getfield 296, 3) := by decide +kernel
theorem dX11_best_68 : decode cX11_best 68 = .ok (.goto 10, 3) := by decide +kernel
theorem dX11_best_71 : decode cX11_best 71 = .ok (.aload_n 0, 1) := by decide +kernel
theorem dX11_best_72 : decode cX11_best 72 = .ok (.getfield 80, 3) := by decide +kernel
theorem dX11_best_75 : decode cX11_best 75 = .ok (.getfield 299, 3) := by decide +kernel
theorem dX11_best_78 : decode cX11_best 78 = .ok (.ireturn, 1) := by decide +kernel
theorem dX11_rests_0 : decode cX11_rests 0 = .ok (.aload_n 0, 1) := by decide +kernel
theorem dX11_rests_1 : decode cX11_rests 1 = .ok (.getfield 55, 3) := by decide +kernel
theorem dX11_rests_4 : decode cX11_rests 4 = .ok (.invokevirtual 168, 3) := by decide +kernel
theorem dX11_rests_7 : decode cX11_rests 7 = .ok (.ifCond .eq 24, 3) := by decide +kernel
theorem dX11_rests_10 : decode cX11_rests 10 = .ok (.iload_n 1, 1) := by decide +kernel
theorem dX11_rests_11 : decode cX11_rests 11 = .ok (.iconst (-1), 1) := by decide +kernel
theorem dX11_rests_12 : decode cX11_rests 12 = .ok (.if_icmp .eq 21, 3) := by decide +kernel
theorem dX11_rests_15 : decode cX11_rests 15 = .ok (.aload_n 0, 1) := by decide +kernel
theorem dX11_rests_16 : decode cX11_rests 16 = .ok (.iload_n 1, 1) := by decide +kernel
theorem dX11_rests_17 : decode cX11_rests 17 = .ok (.invokevirtual 196, 3) := by decide +kernel
theorem dX11_rests_20 : decode cX11_rests 20 = .ok (.ifCond .eq 11, 3) := by decide +kernel
theorem dX11_rests_23 : decode cX11_rests 23 = .ok (.aload_n 0, 1) := by decide +kernel
theorem dX11_rests_24 : decode cX11_rests 24 = .ok (.iload_n 2, 1) := by decide +kernel
theorem dX11_rests_25 : decode cX11_rests 25 = .ok (.invokevirtual 284, 3) := by decide +kernel
theorem dX11_rests_28 : decode cX11_rests 28 = .ok (.ifCond .ne 5, 3) := by decide +kernel
theorem dX11_rests_31 : decode cX11_rests 31 = .ok (.iconst (-1), 1) := by decide +kernel
theorem dX11_rests_32 : decode cX11_rests 32 = .ok (.ireturn, 1) := by decide +kernel
theorem dX11_rests_33 : decode cX11_rests 33 = .ok (.aload_n 0, 1) := by decide +kernel
theorem dX11_rests_34 : decode cX11_rests 34 = .ok (.getfield 80, 3) := by decide +kernel
theorem dX11_rests_37 : decode cX11_rests 37 = .ok (.aload_n 0, 1) := by decide +kernel
theorem dX11_rests_38 : decode cX11_rests 38 = .ok (.getfield 55, 3) := by decide +kernel
theorem dX11_rests_41 : decode cX11_rests 41 = .ok (.invokevirtual 302, 3) := by decide +kernel
theorem dX11_rests_44 : decode cX11_rests 44 = .ok (.iload_n 1, 1) := by decide +kernel
theorem dX11_rests_45 : decode cX11_rests 45 = .ok (.iconst (-1), 1) := by decide +kernel
theorem dX11_rests_46 : decode cX11_rests 46 = .ok (.if_icmp .ne 13, 3) := by decide +kernel
theorem dX11_rests_49 : decode cX11_rests 49 = .ok (.aload_n 0, 1) := by decide +kernel
theorem dX11_rests_50 : decode cX11_rests 50 = .ok (.getfield 80, 3) := by decide +kernel
theorem dX11_rests_53 : decode cX11_rests 53 = .ok (.getfield 305, 3) := by decide +kernel
theorem dX11_rests_56 : decode cX11_rests 56 = .ok (.goto 22, 3) := by decide +kernel
theorem dX11_rests_59 : decode cX11_rests 59 = .ok (.aload_n 0, 1) := by decide +kernel
theorem dX11_rests_60 : decode cX11_rests 60 = .ok (.getfield 80, 3) := by decide +kernel
theorem dX11_rests_63 : decode cX11_rests 63 = .ok (.getfield 308, 3) := by decide +kernel
theorem dX11_rests_66 : decode cX11_rests 66 = .ok (.aload_n 0, 1) := by decide +kernel
theorem dX11_rests_67 : decode cX11_rests 67 = .ok (.getfield 55, 3) := by decide +kernel
theorem dX11_rests_70 : decode cX11_rests 70 = .ok (.iload_n 1, 1) := by decide +kernel
theorem dX11_rests_71 : decode cX11_rests 71 = .ok (.iload_n 2, 1) := by decide +kernel
theorem dX11_rests_72 : decode cX11_rests 72 = .ok (.invokevirtual 215, 3) := by decide +kernel
theorem dX11_rests_75 : decode cX11_rests 75 = .ok (.invokevirtual 311, 3) := by decide +kernel
theorem dX11_rests_78 : decode cX11_rests 78 = .ok (.ireturn, 1) := by decide +kernel
theorem dX11_thumb_0 : decode cX11_thumb 0 = .ok (.aload_n 0, 1) := by decide +kernel
theorem dX11_thumb_1 : decode cX11_thumb 1 = .ok (.iload_n 1, 1) := by decide +kernel
theorem dX11_thumb_2 : decode cX11_thumb 2 = .ok (.invokevirtual 243, 3) := by decide +kernel
theorem dX11_thumb_5 : decode cX11_thumb 5 = .ok (.ifCond .eq 32, 3) := by decide +kernel
theorem dX11_thumb_8 : decode cX11_thumb 8 = .ok (.aload_n 0, 1) := by decide +kernel
theorem dX11_thumb_9 : decode cX11_thumb 9 = .ok (.iload_n 2, 1) := by decide +kernel
theorem dX11_thumb_10 : decode cX11_thumb 10 = .ok (.invokevirtual 284, 3) := by decide +kernel
theorem dX11_thumb_13 : decode cX11_thumb 13 = .ok (.ifCond .eq 24, 3) := by decide +kernel
theorem dX11_thumb_16 : decode cX11_thumb 16 = .ok (.iload_n 3, 1) := by decide +kernel
theorem dX11_thumb_17 : decode cX11_thumb 17 = .ok (.iconst 1, 1) := by decide +kernel
theorem dX11_thumb_18 : decode cX11_thumb 18 = .ok (.if_icmp .lt 19, 3) := by decide +kernel
theorem dX11_thumb_21 : decode cX11_thumb 21 = .ok (.iload_n 3, 1) := by decide +kernel
theorem dX11_thumb_22 : decode cX11_thumb 22 = .ok (.iconst 3, 1) := by decide +kernel
theorem dX11_thumb_23 : decode cX11_thumb 23 = .ok (.if_icmp .gt 14, 3) := by decide +kernel
theorem dX11_thumb_26 : decode cX11_thumb 26 = .ok (.iload 4, 2) := by decide +kernel
theorem dX11_thumb_28 : decode cX11_thumb 28 = .ok (.ifCond .lt 9, 3) := by decide +kernel
theorem dX11_thumb_31 : decode cX11_thumb 31 = .ok (.iload 4, 2) := by decide +kernel
theorem dX11_thumb_33 : decode cX11_thumb 33 = .ok (.iload_n 3, 1) := by decide +kernel
theorem dX11_thumb_34 : decode cX11_thumb 34 = .ok (.if_icmp .le 5, 3) := by decide +kernel
theorem dX11_thumb_37 : decode cX11_thumb 37 = .ok (.iconst (-1), 1) := by decide +kernel
theorem dX11_thumb_38 : decode cX11_thumb 38 = .ok (.ireturn, 1) := by decide +kernel
theorem dX11_thumb_39 : decode cX11_thumb 39 = .ok (.aload_n 0, 1) := by decide +kernel
theorem dX11_thumb_40 : decode cX11_thumb 40 = .ok (.getfield 80, 3) := by decide +kernel
theorem dX11_thumb_43 : decode cX11_thumb 43 = .ok (.getfield 287, 3) := by decide +kernel
theorem dX11_thumb_46 : decode cX11_thumb 46 = .ok (.aload_n 0, 1) := by decide +kernel
theorem dX11_thumb_47 : decode cX11_thumb 47 = .ok (.getfield 55, 3) := by decide +kernel
theorem dX11_thumb_50 : decode cX11_thumb 50 = .ok (.invokevirtual 290, 3) := by decide +kernel
theorem dX11_thumb_53 : decode cX11_thumb 53 = .ok (.aload_n 0, 1) := by decide +kernel
theorem dX11_thumb_54 : decode cX11_thumb 54 = .ok (.aload_n 0, 1) := by decide +kernel
theorem dX11_thumb_55 : decode cX11_thumb 55 = .ok (.getfield 80, 3) := by decide +kernel
theorem dX11_thumb_58 : decode cX11_thumb 58 = .ok (.aload_n 0, 1) := by decide +kernel
theorem dX11_thumb_59 : decode cX11_thumb 59 = .ok (.getfield 80, 3) := by decide +kernel
theorem dX11_thumb_62 : decode cX11_thumb 62 = .ok (.getfield 287, 3) := by decide +kernel
theorem dX11_thumb_65 : decode cX11_thumb 65 = .ok (.iload_n 1, 1) := by decide +kernel
theorem dX11_thumb_66 : decode cX11_thumb 66 = .ok (.iload_n 2, 1) := by decide +kernel
theorem dX11_thumb_67 : decode cX11_thumb 67 = .ok (.iconst 2, 1) := by decide +kernel
theorem dX11_thumb_68 : decode cX11_thumb 68 = .ok (.invokevirtual 314, 3) := by decide +kernel
theorem dX11_thumb_71 : decode cX11_thumb 71 = .ok (.sipush 10000, 3) := by decide +kernel
theorem dX11_thumb_74 : decode cX11_thumb 74 = .ok (.iload_n 3, 1) := by decide +kernel
theorem dX11_thumb_75 : decode cX11_thumb 75 = .ok (.iload 4, 2) := by decide +kernel
theorem dX11_thumb_77 : decode cX11_thumb 77 = .ok (.invokevirtual 318, 3) := by decide +kernel
theorem dX11_thumb_80 : decode cX11_thumb 80 = .ok (.lstore 5, 2) := by decide +kernel
theorem dX11_thumb_82 : decode cX11_thumb 82 = .ok (.aload_n 0, 1) := by decide +kernel
theorem dX11_thumb_83 : decode cX11_thumb 83 = .ok (.aload_n 0, 1) := by decide +kernel
theorem dX11_thumb_84 : decode cX11_thumb 84 = .ok (.getfield 80, 3) := by decide +kernel
theorem dX11_thumb_87 : decode cX11_thumb 87 = .ok (.aload_n 0, 1) := by decide +kernel
theorem dX11_thumb_88 : decode cX11_thumb 88 = .ok (.getfield 80, 3) := by decide +kernel
theorem dX11_thumb_91 : decode cX11_thumb 91 = .ok (.getfield 287, 3) := by decide +kernel
theorem dX11_thumb_94 : decode cX11_thumb 94 = .ok (.iload_n 1, 1) := by decide +kernel
theorem dX11_thumb_95 : decode cX11_thumb 95 = .ok (.iload_n 2, 1) := by decide +kernel
theorem dX11_thumb_96 : decode cX11_thumb 96 = .ok (.iconst 0, 1) := by decide +kernel
theorem dX11_thumb_97 : decode cX11_thumb 97 = .ok (.invokevirtual 314, 3) := by decide +kernel
theorem dX11_thumb_100 : decode cX11_thumb 100 = .ok (.sipush 10000, 3) := by decide +kernel
theorem dX11_thumb_103 : decode cX11_thumb 103 = .ok (.iload_n 3, 1) := by decide +kernel
theorem dX11_thumb_104 : decode cX11_thumb 104 = .ok (.iload 4, 2) := by decide +kernel
theorem dX11_thumb_106 : decode cX11_thumb 106 = .ok (.invokevirtual 318, 3) := by decide +kernel
theorem dX11_thumb_109 : decode cX11_thumb 109 = .ok (.lstore 7, 2) := by decide +kernel
theorem dX11_thumb_111 : decode cX11_thumb 111 = .ok (.aload_n 0, 1) := by decide +kernel
theorem dX11_thumb_112 : decode cX11_thumb 112 = .ok (.lload 5, 2) := by decide +kernel
theorem dX11_thumb_114 : decode cX11_thumb 114 = .ok (.lload 5, 2) := by decide +kernel
theorem dX11_thumb_116 : decode cX11_thumb 116 = .ok (.lload 7, 2) := by decide +kernel
theorem dX11_thumb_118 : decode cX11_thumb 118 = .ok (.ladd, 1) := by decide +kernel
theorem dX11_thumb_119 : decode cX11_thumb 119 = .ok (.sipush 500, 3) := by decide +kernel
theorem dX11_thumb_122 : decode cX11_thumb 122 = .ok (.invokevirtual 322, 3) := by decide +kernel
theorem dX11_thumb_125 : decode cX11_thumb 125 = .ok (.ireturn, 1) := by decide +kernel
theorem dX11_inARow_0 : decode cX11_inARow 0 = .ok (.lconst 1, 1) := by decide +kernel
theorem dX11_inARow_1 : decode cX11_inARow 1 = .ok (.lstore 5, 2) := by decide +kernel
theorem dX11_inARow_3 : decode cX11_inARow 3 = .ok (.iconst 0, 1) := by decide +kernel
theorem dX11_inARow_4 : decode cX11_inARow 4 = .ok (.istore 7, 2) := by decide +kernel
theorem dX11_inARow_6 : decode cX11_inARow 6 = .ok (.iload 7, 2) := by decide +kernel
theorem dX11_inARow_8 : decode cX11_inARow 8 = .ok (.iload_n 3, 1) := by decide +kernel
theorem dX11_inARow_9 : decode cX11_inARow 9 = .ok (.if_icmp .ge 30, 3) := by decide +kernel
theorem dX11_inARow_12 : decode cX11_inARow 12 = .ok (.lload 5, 2) := by decide +kernel
theorem dX11_inARow_14 : decode cX11_inARow 14 = .ok (.iload 7, 2) := by decide +kernel
theorem dX11_inARow_16 : decode cX11_inARow 16 = .ok (.iload 4, 2) := by decide +kernel
theorem dX11_inARow_18 : decode cX11_inARow 18 = .ok (.if_icmp .ge 8, 3) := by decide +kernel
theorem dX11_inARow_21 : decode cX11_inARow 21 = .ok (.iload_n 1, 1) := by decide +kernel
theorem dX11_inARow_22 : decode cX11_inARow 22 = .ok (.i2l, 1) := by decide +kernel
theorem dX11_inARow_23 : decode cX11_inARow 23 = .ok (.goto 7, 3) := by decide +kernel
theorem dX11_inARow_26 : decode cX11_inARow 26 = .ok (.iload_n 2, 1) := by decide +kernel
theorem dX11_inARow_27 : decode cX11_inARow 27 = .ok (.iload_n 1, 1) := by decide +kernel
theorem dX11_inARow_28 : decode cX11_inARow 28 = .ok (.isub, 1) := by decide +kernel
theorem dX11_inARow_29 : decode cX11_inARow 29 = .ok (.i2l, 1) := by decide +kernel
theorem dX11_inARow_30 : decode cX11_inARow 30 = .ok (.lmul, 1) := by decide +kernel
theorem dX11_inARow_31 : decode cX11_inARow 31 = .ok (.lstore 5, 2) := by decide +kernel
theorem dX11_inARow_33 : decode cX11_inARow 33 = .ok (.iinc 7 1, 3) := by decide +kernel
theorem dX11_inARow_36 : decode cX11_inARow 36 = .ok (.goto (-30), 3) := by decide +kernel
theorem dX11_inARow_39 : decode cX11_inARow 39 = .ok (.lload 5, 2) := by decide +kernel
theorem dX11_inARow_41 : decode cX11_inARow 41 = .ok (.lreturn, 1) := by decide +kernel
theorem dX11_share_0 : decode cX11_share 0 = .ok (.lload_n 3, 1) := by decide +kernel
theorem dX11_share_1 : decode cX11_share 1 = .ok (.lconst 0, 1) := by decide +kernel
theorem dX11_share_2 : decode cX11_share 2 = .ok (.lcmp, 1) := by decide +kernel
theorem dX11_share_3 : decode cX11_share 3 = .ok (.ifCond .gt 8, 3) := by decide +kernel
theorem dX11_share_6 : decode cX11_share 6 = .ok (.iload 5, 2) := by decide +kernel
theorem dX11_share_8 : decode cX11_share 8 = .ok (.goto 11, 3) := by decide +kernel
theorem dX11_share_11 : decode cX11_share 11 = .ok (.ldc2_w 326, 3) := by decide +kernel
theorem dX11_share_14 : decode cX11_share 14 = .ok (.lload_n 1, 1) := by decide +kernel
theorem dX11_share_15 : decode cX11_share 15 = .ok (.lmul, 1) := by decide +kernel
theorem dX11_share_16 : decode cX11_share 16 = .ok (.lload_n 3, 1) := by decide +kernel
theorem dX11_share_17 : decode cX11_share 17 = .ok (.ldiv, 1) := by decide +kernel
theorem dX11_share_18 : decode cX11_share 18 = .ok (.l2i, 1) := by decide +kernel
theorem dX11_share_19 : decode cX11_share 19 = .ok (.ireturn, 1) := by decide +kernel
theorem dX11_duds_0 : decode cX11_duds 0 = .ok (.aload_n 0, 1) := by decide +kernel
theorem dX11_duds_1 : decode cX11_duds 1 = .ok (.getfield 36, 3) := by decide +kernel
theorem dX11_duds_4 : decode cX11_duds 4 = .ok (.getfield 172, 3) := by decide +kernel
theorem dX11_duds_7 : decode cX11_duds 7 = .ok (.ifCond .eq 32, 3) := by decide +kernel
theorem dX11_duds_10 : decode cX11_duds 10 = .ok (.iload_n 1, 1) := by decide +kernel
theorem dX11_duds_11 : decode cX11_duds 11 = .ok (.iconst 1, 1) := by decide +kernel
theorem dX11_duds_12 : decode cX11_duds 12 = .ok (.if_icmp .lt 27, 3) := by decide +kernel
theorem dX11_duds_15 : decode cX11_duds 15 = .ok (.iload_n 1, 1) := by decide +kernel
theorem dX11_duds_16 : decode cX11_duds 16 = .ok (.bipush 6, 2) := by decide +kernel
theorem dX11_duds_18 : decode cX11_duds 18 = .ok (.if_icmp .gt 21, 3) := by decide +kernel
theorem dX11_duds_21 : decode cX11_duds 21 = .ok (.iload_n 2, 1) := by decide +kernel
theorem dX11_duds_22 : decode cX11_duds 22 = .ok (.ifCond .lt 17, 3) := by decide +kernel
theorem dX11_duds_25 : decode cX11_duds 25 = .ok (.iload_n 2, 1) := by decide +kernel
theorem dX11_duds_26 : decode cX11_duds 26 = .ok (.iload_n 1, 1) := by decide +kernel
theorem dX11_duds_27 : decode cX11_duds 27 = .ok (.if_icmp .gt 12, 3) := by decide +kernel
theorem dX11_duds_30 : decode cX11_duds 30 = .ok (.iload_n 3, 1) := by decide +kernel
theorem dX11_duds_31 : decode cX11_duds 31 = .ok (.ifCond .lt 8, 3) := by decide +kernel
theorem dX11_duds_34 : decode cX11_duds 34 = .ok (.iload_n 3, 1) := by decide +kernel
theorem dX11_duds_35 : decode cX11_duds 35 = .ok (.iconst 1, 1) := by decide +kernel
theorem dX11_duds_36 : decode cX11_duds 36 = .ok (.if_icmp .le 5, 3) := by decide +kernel
theorem dX11_duds_39 : decode cX11_duds 39 = .ok (.iconst (-1), 1) := by decide +kernel
theorem dX11_duds_40 : decode cX11_duds 40 = .ok (.ireturn, 1) := by decide +kernel
theorem dX11_duds_41 : decode cX11_duds 41 = .ok (.iconst 0, 1) := by decide +kernel
theorem dX11_duds_42 : decode cX11_duds 42 = .ok (.istore 4, 2) := by decide +kernel
theorem dX11_duds_44 : decode cX11_duds 44 = .ok (.ldc2_w 328, 3) := by decide +kernel
theorem dX11_duds_47 : decode cX11_duds 47 = .ok (.lstore 5, 2) := by decide +kernel
theorem dX11_duds_49 : decode cX11_duds 49 = .ok (.lconst 0, 1) := by decide +kernel
theorem dX11_duds_50 : decode cX11_duds 50 = .ok (.lstore 7, 2) := by decide +kernel
theorem dX11_duds_52 : decode cX11_duds 52 = .ok (.iconst 0, 1) := by decide +kernel
theorem dX11_duds_53 : decode cX11_duds 53 = .ok (.istore 9, 2) := by decide +kernel
theorem dX11_duds_55 : decode cX11_duds 55 = .ok (.iload 9, 2) := by decide +kernel
theorem dX11_duds_57 : decode cX11_duds 57 = .ok (.aload_n 0, 1) := by decide +kernel
theorem dX11_duds_58 : decode cX11_duds 58 = .ok (.getfield 36, 3) := by decide +kernel
theorem dX11_duds_61 : decode cX11_duds 61 = .ok (.getfield 172, 3) := by decide +kernel
theorem dX11_duds_64 : decode cX11_duds 64 = .ok (.if_icmp .ge 52, 3) := by decide +kernel
theorem dX11_duds_67 : decode cX11_duds 67 = .ok (.aload_n 0, 1) := by decide +kernel
theorem dX11_duds_68 : decode cX11_duds 68 = .ok (.aload_n 0, 1) := by decide +kernel
theorem dX11_duds_69 : decode cX11_duds 69 = .ok (.getfield 36, 3) := by decide +kernel
theorem dX11_duds_72 : decode cX11_duds 72 = .ok (.getfield 230, 3) := by decide +kernel
theorem dX11_duds_75 : decode cX11_duds 75 = .ok (.iload 9, 2) := by decide +kernel
theorem dX11_duds_77 : decode cX11_duds 77 = .ok (.iaload, 1) := by decide +kernel
theorem dX11_duds_78 : decode cX11_duds 78 = .ok (.bipush 100, 2) := by decide +kernel
theorem dX11_duds_80 : decode cX11_duds 80 = .ok (.iload_n 1, 1) := by decide +kernel
theorem dX11_duds_81 : decode cX11_duds 81 = .ok (.iload_n 2, 1) := by decide +kernel
theorem dX11_duds_82 : decode cX11_duds 82 = .ok (.invokevirtual 318, 3) := by decide +kernel
theorem dX11_duds_85 : decode cX11_duds 85 = .ok (.lstore 10, 2) := by decide +kernel
theorem dX11_duds_87 : decode cX11_duds 87 = .ok (.lload 7, 2) := by decide +kernel
theorem dX11_duds_89 : decode cX11_duds 89 = .ok (.lload 10, 2) := by decide +kernel
theorem dX11_duds_91 : decode cX11_duds 91 = .ok (.ladd, 1) := by decide +kernel
theorem dX11_duds_92 : decode cX11_duds 92 = .ok (.lstore 7, 2) := by decide +kernel
theorem dX11_duds_94 : decode cX11_duds 94 = .ok (.lload 10, 2) := by decide +kernel
theorem dX11_duds_96 : decode cX11_duds 96 = .ok (.lload 5, 2) := by decide +kernel
theorem dX11_duds_98 : decode cX11_duds 98 = .ok (.lcmp, 1) := by decide +kernel
theorem dX11_duds_99 : decode cX11_duds 99 = .ok (.ifCond .le 11, 3) := by decide +kernel
theorem dX11_duds_102 : decode cX11_duds 102 = .ok (.lload 10, 2) := by decide +kernel
theorem dX11_duds_104 : decode cX11_duds 104 = .ok (.lstore 5, 2) := by decide +kernel
theorem dX11_duds_106 : decode cX11_duds 106 = .ok (.iload 9, 2) := by decide +kernel
theorem dX11_duds_108 : decode cX11_duds 108 = .ok (.istore 4, 2) := by decide +kernel
theorem dX11_duds_110 : decode cX11_duds 110 = .ok (.iinc 9 1, 3) := by decide +kernel
theorem dX11_duds_113 : decode cX11_duds 113 = .ok (.goto (-58), 3) := by decide +kernel
theorem dX11_duds_116 : decode cX11_duds 116 = .ok (.iload_n 3, 1) := by decide +kernel
theorem dX11_duds_117 : decode cX11_duds 117 = .ok (.ifCond .ne 8, 3) := by decide +kernel
theorem dX11_duds_120 : decode cX11_duds 120 = .ok (.iload 4, 2) := by decide +kernel
theorem dX11_duds_122 : decode cX11_duds 122 = .ok (.goto 12, 3) := by decide +kernel
theorem dX11_duds_125 : decode cX11_duds 125 = .ok (.aload_n 0, 1) := by decide +kernel
theorem dX11_duds_126 : decode cX11_duds 126 = .ok (.lload 5, 2) := by decide +kernel
theorem dX11_duds_128 : decode cX11_duds 128 = .ok (.lload 7, 2) := by decide +kernel
theorem dX11_duds_130 : decode cX11_duds 130 = .ok (.iconst 0, 1) := by decide +kernel
theorem dX11_duds_131 : decode cX11_duds 131 = .ok (.invokevirtual 322, 3) := by decide +kernel
theorem dX11_duds_134 : decode cX11_duds 134 = .ok (.ireturn, 1) := by decide +kernel
theorem dX11_pairs_0 : decode cX11_pairs 0 = .ok (.aload_n 0, 1) := by decide +kernel
theorem dX11_pairs_1 : decode cX11_pairs 1 = .ok (.getfield 55, 3) := by decide +kernel
theorem dX11_pairs_4 : decode cX11_pairs 4 = .ok (.invokevirtual 168, 3) := by decide +kernel
theorem dX11_pairs_7 : decode cX11_pairs 7 = .ok (.ifCond .ne 5, 3) := by decide +kernel
theorem dX11_pairs_10 : decode cX11_pairs 10 = .ok (.iconst (-1), 1) := by decide +kernel
theorem dX11_pairs_11 : decode cX11_pairs 11 = .ok (.ireturn, 1) := by decide +kernel
theorem dX11_pairs_12 : decode cX11_pairs 12 = .ok (.aload_n 0, 1) := by decide +kernel
theorem dX11_pairs_13 : decode cX11_pairs 13 = .ok (.getfield 71, 3) := by decide +kernel
theorem dX11_pairs_16 : decode cX11_pairs 16 = .ok (.aload_n 0, 1) := by decide +kernel
theorem dX11_pairs_17 : decode cX11_pairs 17 = .ok (.getfield 55, 3) := by decide +kernel
theorem dX11_pairs_20 : decode cX11_pairs 20 = .ok (.invokevirtual 249, 3) := by decide +kernel
theorem dX11_pairs_23 : decode cX11_pairs 23 = .ok (.aload_n 0, 1) := by decide +kernel
theorem dX11_pairs_24 : decode cX11_pairs 24 = .ok (.getfield 55, 3) := by decide +kernel
theorem dX11_pairs_27 : decode cX11_pairs 27 = .ok (.getfield 165, 3) := by decide +kernel
theorem dX11_pairs_30 : decode cX11_pairs 30 = .ok (.iconst 2, 1) := by decide +kernel
theorem dX11_pairs_31 : decode cX11_pairs 31 = .ok (.irem, 1) := by decide +kernel
theorem dX11_pairs_32 : decode cX11_pairs 32 = .ok (.ifCond .ne 7, 3) := by decide +kernel
theorem dX11_pairs_35 : decode cX11_pairs 35 = .ok (.iconst 0, 1) := by decide +kernel
theorem dX11_pairs_36 : decode cX11_pairs 36 = .ok (.goto 6, 3) := by decide +kernel
theorem dX11_pairs_39 : decode cX11_pairs 39 = .ok (.sipush 10000, 3) := by decide +kernel
theorem dX11_pairs_42 : decode cX11_pairs 42 = .ok (.istore_n 1, 1) := by decide +kernel
theorem dX11_pairs_43 : decode cX11_pairs 43 = .ok (.iconst 0, 1) := by decide +kernel
theorem dX11_pairs_44 : decode cX11_pairs 44 = .ok (.istore_n 2, 1) := by decide +kernel
theorem dX11_pairs_45 : decode cX11_pairs 45 = .ok (.iload_n 2, 1) := by decide +kernel
theorem dX11_pairs_46 : decode cX11_pairs 46 = .ok (.iconst 1, 1) := by decide +kernel
theorem dX11_pairs_47 : decode cX11_pairs 47 = .ok (.iadd, 1) := by decide +kernel
theorem dX11_pairs_48 : decode cX11_pairs 48 = .ok (.aload_n 0, 1) := by decide +kernel
theorem dX11_pairs_49 : decode cX11_pairs 49 = .ok (.getfield 55, 3) := by decide +kernel
theorem dX11_pairs_52 : decode cX11_pairs 52 = .ok (.getfield 165, 3) := by decide +kernel
theorem dX11_pairs_55 : decode cX11_pairs 55 = .ok (.if_icmp .ge 35, 3) := by decide +kernel
theorem dX11_pairs_58 : decode cX11_pairs 58 = .ok (.iload_n 1, 1) := by decide +kernel
theorem dX11_pairs_59 : decode cX11_pairs 59 = .ok (.sipush 20000, 3) := by decide +kernel
theorem dX11_pairs_62 : decode cX11_pairs 62 = .ok (.aload_n 0, 1) := by decide +kernel
theorem dX11_pairs_63 : decode cX11_pairs 63 = .ok (.getfield 71, 3) := by decide +kernel
theorem dX11_pairs_66 : decode cX11_pairs 66 = .ok (.getfield 330, 3) := by decide +kernel
theorem dX11_pairs_69 : decode cX11_pairs 69 = .ok (.iload_n 2, 1) := by decide +kernel
theorem dX11_pairs_70 : decode cX11_pairs 70 = .ok (.iaload, 1) := by decide +kernel
theorem dX11_pairs_71 : decode cX11_pairs 71 = .ok (.isub, 1) := by decide +kernel
theorem dX11_pairs_72 : decode cX11_pairs 72 = .ok (.aload_n 0, 1) := by decide +kernel
theorem dX11_pairs_73 : decode cX11_pairs 73 = .ok (.getfield 71, 3) := by decide +kernel
theorem dX11_pairs_76 : decode cX11_pairs 76 = .ok (.getfield 333, 3) := by decide +kernel
theorem dX11_pairs_79 : decode cX11_pairs 79 = .ok (.iload_n 2, 1) := by decide +kernel
theorem dX11_pairs_80 : decode cX11_pairs 80 = .ok (.iaload, 1) := by decide +kernel
theorem dX11_pairs_81 : decode cX11_pairs 81 = .ok (.isub, 1) := by decide +kernel
theorem dX11_pairs_82 : decode cX11_pairs 82 = .ok (.iadd, 1) := by decide +kernel
theorem dX11_pairs_83 : decode cX11_pairs 83 = .ok (.istore_n 1, 1) := by decide +kernel
theorem dX11_pairs_84 : decode cX11_pairs 84 = .ok (.iinc 2 2, 3) := by decide +kernel
theorem dX11_pairs_87 : decode cX11_pairs 87 = .ok (.goto (-42), 3) := by decide +kernel
theorem dX11_pairs_90 : decode cX11_pairs 90 = .ok (.iload_n 1, 1) := by decide +kernel
theorem dX11_pairs_91 : decode cX11_pairs 91 = .ok (.bipush 10, 2) := by decide +kernel
theorem dX11_pairs_93 : decode cX11_pairs 93 = .ok (.idiv, 1) := by decide +kernel
theorem dX11_pairs_94 : decode cX11_pairs 94 = .ok (.ireturn, 1) := by decide +kernel
theorem dX11_gifts_0 : decode cX11_gifts 0 = .ok (.aload_n 0, 1) := by decide +kernel
theorem dX11_gifts_1 : decode cX11_gifts 1 = .ok (.getfield 55, 3) := by decide +kernel
theorem dX11_gifts_4 : decode cX11_gifts 4 = .ok (.invokevirtual 168, 3) := by decide +kernel
theorem dX11_gifts_7 : decode cX11_gifts 7 = .ok (.ifCond .eq 20, 3) := by decide +kernel
theorem dX11_gifts_10 : decode cX11_gifts 10 = .ok (.aload_n 0, 1) := by decide +kernel
theorem dX11_gifts_11 : decode cX11_gifts 11 = .ok (.getfield 55, 3) := by decide +kernel
theorem dX11_gifts_14 : decode cX11_gifts 14 = .ok (.invokevirtual 187, 3) := by decide +kernel
theorem dX11_gifts_17 : decode cX11_gifts 17 = .ok (.aload_n 0, 1) := by decide +kernel
theorem dX11_gifts_18 : decode cX11_gifts 18 = .ok (.getfield 55, 3) := by decide +kernel
theorem dX11_gifts_21 : decode cX11_gifts 21 = .ok (.getfield 165, 3) := by decide +kernel
theorem dX11_gifts_24 : decode cX11_gifts 24 = .ok (.if_icmp .ge 5, 3) := by decide +kernel
theorem dX11_gifts_27 : decode cX11_gifts 27 = .ok (.iconst (-1), 1) := by decide +kernel
theorem dX11_gifts_28 : decode cX11_gifts 28 = .ok (.ireturn, 1) := by decide +kernel
theorem dX11_gifts_29 : decode cX11_gifts 29 = .ok (.aload_n 0, 1) := by decide +kernel
theorem dX11_gifts_30 : decode cX11_gifts 30 = .ok (.getfield 94, 3) := by decide +kernel
theorem dX11_gifts_33 : decode cX11_gifts 33 = .ok (.aload_n 0, 1) := by decide +kernel
theorem dX11_gifts_34 : decode cX11_gifts 34 = .ok (.getfield 55, 3) := by decide +kernel
theorem dX11_gifts_37 : decode cX11_gifts 37 = .ok (.invokevirtual 336, 3) := by decide +kernel
theorem dX11_gifts_40 : decode cX11_gifts 40 = .ok (.ireturn, 1) := by decide +kernel
theorem dX11_left_0 : decode cX11_left 0 = .ok (.aload_n 0, 1) := by decide +kernel
theorem dX11_left_1 : decode cX11_left 1 = .ok (.getfield 55, 3) := by decide +kernel
theorem dX11_left_4 : decode cX11_left 4 = .ok (.invokevirtual 168, 3) := by decide +kernel
theorem dX11_left_7 : decode cX11_left 7 = .ok (.ifCond .eq 12, 3) := by decide +kernel
theorem dX11_left_10 : decode cX11_left 10 = .ok (.iload_n 1, 1) := by decide +kernel
theorem dX11_left_11 : decode cX11_left 11 = .ok (.ifCond .lt 8, 3) := by decide +kernel
theorem dX11_left_14 : decode cX11_left 14 = .ok (.iload_n 1, 1) := by decide +kernel
theorem dX11_left_15 : decode cX11_left 15 = .ok (.iconst 1, 1) := by decide +kernel
theorem dX11_left_16 : decode cX11_left 16 = .ok (.if_icmp .le 5, 3) := by decide +kernel
theorem dX11_left_19 : decode cX11_left 19 = .ok (.iconst (-1), 1) := by decide +kernel
theorem dX11_left_20 : decode cX11_left 20 = .ok (.ireturn, 1) := by decide +kernel
theorem dX11_left_21 : decode cX11_left 21 = .ok (.aload_n 0, 1) := by decide +kernel
theorem dX11_left_22 : decode cX11_left 22 = .ok (.getfield 80, 3) := by decide +kernel
theorem dX11_left_25 : decode cX11_left 25 = .ok (.getfield 287, 3) := by decide +kernel
theorem dX11_left_28 : decode cX11_left 28 = .ok (.aload_n 0, 1) := by decide +kernel
theorem dX11_left_29 : decode cX11_left 29 = .ok (.getfield 55, 3) := by decide +kernel
theorem dX11_left_32 : decode cX11_left 32 = .ok (.invokevirtual 290, 3) := by decide +kernel
theorem dX11_left_35 : decode cX11_left 35 = .ok (.iconst 0, 1) := by decide +kernel
theorem dX11_left_36 : decode cX11_left 36 = .ok (.istore_n 2, 1) := by decide +kernel
theorem dX11_left_37 : decode cX11_left 37 = .ok (.iconst 0, 1) := by decide +kernel
theorem dX11_left_38 : decode cX11_left 38 = .ok (.istore_n 3, 1) := by decide +kernel
theorem dX11_left_39 : decode cX11_left 39 = .ok (.iload_n 3, 1) := by decide +kernel
theorem dX11_left_40 : decode cX11_left 40 = .ok (.bipush 60, 2) := by decide +kernel
theorem dX11_left_42 : decode cX11_left 42 = .ok (.if_icmp .gt 45, 3) := by decide +kernel
theorem dX11_left_45 : decode cX11_left 45 = .ok (.aload_n 0, 1) := by decide +kernel
theorem dX11_left_46 : decode cX11_left 46 = .ok (.getfield 80, 3) := by decide +kernel
theorem dX11_left_49 : decode cX11_left 49 = .ok (.getfield 287, 3) := by decide +kernel
theorem dX11_left_52 : decode cX11_left 52 = .ok (.invokevirtual 190, 3) := by decide +kernel
theorem dX11_left_55 : decode cX11_left 55 = .ok (.ifCond .ne 13, 3) := by decide +kernel
theorem dX11_left_58 : decode cX11_left 58 = .ok (.iload_n 1, 1) := by decide +kernel
theorem dX11_left_59 : decode cX11_left 59 = .ok (.ifCond .ne 7, 3) := by decide +kernel
theorem dX11_left_62 : decode cX11_left 62 = .ok (.iload_n 3, 1) := by decide +kernel
theorem dX11_left_63 : decode cX11_left 63 = .ok (.goto 4, 3) := by decide +kernel
theorem dX11_left_66 : decode cX11_left 66 = .ok (.iload_n 2, 1) := by decide +kernel
theorem dX11_left_67 : decode cX11_left 67 = .ok (.ireturn, 1) := by decide +kernel
theorem dX11_left_68 : decode cX11_left 68 = .ok (.iload_n 2, 1) := by decide +kernel
theorem dX11_left_69 : decode cX11_left 69 = .ok (.aload_n 0, 1) := by decide +kernel
theorem dX11_left_70 : decode cX11_left 70 = .ok (.getfield 80, 3) := by decide +kernel
theorem dX11_left_73 : decode cX11_left 73 = .ok (.getfield 287, 3) := by decide +kernel
theorem dX11_left_76 : decode cX11_left 76 = .ok (.invokevirtual 339, 3) := by decide +kernel
theorem dX11_left_79 : decode cX11_left 79 = .ok (.iadd, 1) := by decide +kernel
theorem dX11_left_80 : decode cX11_left 80 = .ok (.istore_n 2, 1) := by decide +kernel
theorem dX11_left_81 : decode cX11_left 81 = .ok (.iinc 3 1, 3) := by decide +kernel
theorem dX11_left_84 : decode cX11_left 84 = .ok (.goto (-45), 3) := by decide +kernel
theorem dX11_left_87 : decode cX11_left 87 = .ok (.iconst (-1), 1) := by decide +kernel
theorem dX11_left_88 : decode cX11_left 88 = .ok (.ireturn, 1) := by decide +kernel
theorem dX11_act_0 : decode cX11_act 0 = .ok (.aload_n 0, 1) := by decide +kernel
theorem dX11_act_1 : decode cX11_act 1 = .ok (.getfield 62, 3) := by decide +kernel
theorem dX11_act_4 : decode cX11_act 4 = .ok (.aload_n 0, 1) := by decide +kernel
theorem dX11_act_5 : decode cX11_act 5 = .ok (.getfield 55, 3) := by decide +kernel
theorem dX11_act_8 : decode cX11_act 8 = .ok (.invokevirtual 342, 3) := by decide +kernel
theorem dX11_act_11 : decode cX11_act 11 = .ok (.aload_n 0, 1) := by decide +kernel
theorem dX11_act_12 : decode cX11_act 12 = .ok (.invokevirtual 144, 3) := by decide +kernel
theorem dX11_act_15 : decode cX11_act 15 = .ok (.return_, 1) := by decide +kernel
theorem dX11_dine_0 : decode cX11_dine 0 = .ok (.iload_n 1, 1) := by decide +kernel
theorem dX11_dine_1 : decode cX11_dine 1 = .ok (.iconst 1, 1) := by decide +kernel
theorem dX11_dine_2 : decode cX11_dine 2 = .ok (.if_icmp .lt 34, 3) := by decide +kernel
theorem dX11_dine_5 : decode cX11_dine 5 = .ok (.iload_n 1, 1) := by decide +kernel
theorem dX11_dine_6 : decode cX11_dine 6 = .ok (.bipush 50, 2) := by decide +kernel
theorem dX11_dine_8 : decode cX11_dine 8 = .ok (.if_icmp .gt 28, 3) := by decide +kernel
theorem dX11_dine_11 : decode cX11_dine 11 = .ok (.aload_n 0, 1) := by decide +kernel
theorem dX11_dine_12 : decode cX11_dine 12 = .ok (.getfield 55, 3) := by decide +kernel
theorem dX11_dine_15 : decode cX11_dine 15 = .ok (.invokevirtual 168, 3) := by decide +kernel
theorem dX11_dine_18 : decode cX11_dine 18 = .ok (.ifCond .eq 18, 3) := by decide +kernel
theorem dX11_dine_21 : decode cX11_dine 21 = .ok (.aload_n 0, 1) := by decide +kernel
theorem dX11_dine_22 : decode cX11_dine 22 = .ok (.getfield 55, 3) := by decide +kernel
theorem dX11_dine_25 : decode cX11_dine 25 = .ok (.getfield 178, 3) := by decide +kernel
theorem dX11_dine_28 : decode cX11_dine 28 = .ok (.iload_n 1, 1) := by decide +kernel
theorem dX11_dine_29 : decode cX11_dine 29 = .ok (.iadd, 1) := by decide +kernel
theorem dX11_dine_30 : decode cX11_dine 30 = .ok (.sipush 9999, 3) := by decide +kernel
theorem dX11_dine_33 : decode cX11_dine 33 = .ok (.if_icmp .le 9, 3) := by decide +kernel
theorem dX11_dine_36 : decode cX11_dine 36 = .ok (.aload_n 0, 1) := by decide +kernel
theorem dX11_dine_37 : decode cX11_dine 37 = .ok (.iconst 2, 1) := by decide +kernel
theorem dX11_dine_38 : decode cX11_dine 38 = .ok (.invokevirtual 116, 3) := by decide +kernel
theorem dX11_dine_41 : decode cX11_dine 41 = .ok (.ireturn, 1) := by decide +kernel
theorem dX11_dine_42 : decode cX11_dine 42 = .ok (.aload_n 0, 1) := by decide +kernel
theorem dX11_dine_43 : decode cX11_dine 43 = .ok (.invokevirtual 345, 3) := by decide +kernel
theorem dX11_dine_46 : decode cX11_dine 46 = .ok (.aload_n 0, 1) := by decide +kernel
theorem dX11_dine_47 : decode cX11_dine 47 = .ok (.getfield 71, 3) := by decide +kernel
theorem dX11_dine_50 : decode cX11_dine 50 = .ok (.aload_n 0, 1) := by decide +kernel
theorem dX11_dine_51 : decode cX11_dine 51 = .ok (.getfield 55, 3) := by decide +kernel
theorem dX11_dine_54 : decode cX11_dine 54 = .ok (.invokevirtual 249, 3) := by decide +kernel
theorem dX11_dine_57 : decode cX11_dine 57 = .ok (.iconst 0, 1) := by decide +kernel
theorem dX11_dine_58 : decode cX11_dine 58 = .ok (.istore_n 2, 1) := by decide +kernel
theorem dX11_dine_59 : decode cX11_dine 59 = .ok (.iconst 0, 1) := by decide +kernel
theorem dX11_dine_60 : decode cX11_dine 60 = .ok (.istore_n 3, 1) := by decide +kernel
theorem dX11_dine_61 : decode cX11_dine 61 = .ok (.iload_n 3, 1) := by decide +kernel
theorem dX11_dine_62 : decode cX11_dine 62 = .ok (.iload_n 1, 1) := by decide +kernel
theorem dX11_dine_63 : decode cX11_dine 63 = .ok (.if_icmp .ge 55, 3) := by decide +kernel
theorem dX11_dine_66 : decode cX11_dine 66 = .ok (.iconst 0, 1) := by decide +kernel
theorem dX11_dine_67 : decode cX11_dine 67 = .ok (.istore 4, 2) := by decide +kernel
theorem dX11_dine_69 : decode cX11_dine 69 = .ok (.iload 4, 2) := by decide +kernel
theorem dX11_dine_71 : decode cX11_dine 71 = .ok (.aload_n 0, 1) := by decide +kernel
theorem dX11_dine_72 : decode cX11_dine 72 = .ok (.getfield 55, 3) := by decide +kernel
theorem dX11_dine_75 : decode cX11_dine 75 = .ok (.getfield 165, 3) := by decide +kernel
theorem dX11_dine_78 : decode cX11_dine 78 = .ok (.if_icmp .ge 34, 3) := by decide +kernel
theorem dX11_dine_81 : decode cX11_dine 81 = .ok (.aload_n 0, 1) := by decide +kernel
theorem dX11_dine_82 : decode cX11_dine 82 = .ok (.iload 4, 2) := by decide +kernel
theorem dX11_dine_84 : decode cX11_dine 84 = .ok (.invokevirtual 348, 3) := by decide +kernel
theorem dX11_dine_87 : decode cX11_dine 87 = .ok (.aload_n 0, 1) := by decide +kernel
theorem dX11_dine_88 : decode cX11_dine 88 = .ok (.bipush 100, 2) := by decide +kernel
theorem dX11_dine_90 : decode cX11_dine 90 = .ok (.invokevirtual 351, 3) := by decide +kernel
theorem dX11_dine_93 : decode cX11_dine 93 = .ok (.aload_n 0, 1) := by decide +kernel
theorem dX11_dine_94 : decode cX11_dine 94 = .ok (.getfield 36, 3) := by decide +kernel
theorem dX11_dine_97 : decode cX11_dine 97 = .ok (.getfield 175, 3) := by decide +kernel
theorem dX11_dine_100 : decode cX11_dine 100 = .ok (.if_icmp .ge 6, 3) := by decide +kernel
theorem dX11_dine_103 : decode cX11_dine 103 = .ok (.iinc 2 1, 3) := by decide +kernel
theorem dX11_dine_106 : decode cX11_dine 106 = .ok (.iinc 4 1, 3) := by decide +kernel
theorem dX11_dine_109 : decode cX11_dine 109 = .ok (.goto (-40), 3) := by decide +kernel
theorem dX11_dine_112 : decode cX11_dine 112 = .ok (.iinc 3 1, 3) := by decide +kernel
theorem dX11_dine_115 : decode cX11_dine 115 = .ok (.goto (-54), 3) := by decide +kernel
theorem dX11_dine_118 : decode cX11_dine 118 = .ok (.aload_n 0, 1) := by decide +kernel
theorem dX11_dine_119 : decode cX11_dine 119 = .ok (.getfield 55, 3) := by decide +kernel
theorem dX11_dine_122 : decode cX11_dine 122 = .ok (.dup, 1) := by decide +kernel
theorem dX11_dine_123 : decode cX11_dine 123 = .ok (.getfield 178, 3) := by decide +kernel
theorem dX11_dine_126 : decode cX11_dine 126 = .ok (.iload_n 1, 1) := by decide +kernel
theorem dX11_dine_127 : decode cX11_dine 127 = .ok (.iadd, 1) := by decide +kernel
theorem dX11_dine_128 : decode cX11_dine 128 = .ok (.putfield 178, 3) := by decide +kernel
theorem dX11_dine_131 : decode cX11_dine 131 = .ok (.aload_n 0, 1) := by decide +kernel
theorem dX11_dine_132 : decode cX11_dine 132 = .ok (.getfield 55, 3) := by decide +kernel
theorem dX11_dine_135 : decode cX11_dine 135 = .ok (.sipush 9999, 3) := by decide +kernel
theorem dX11_dine_138 : decode cX11_dine 138 = .ok (.aload_n 0, 1) := by decide +kernel
theorem dX11_dine_139 : decode cX11_dine 139 = .ok (.getfield 55, 3) := by decide +kernel
theorem dX11_dine_142 : decode cX11_dine 142 = .ok (.getfield 181, 3) := by decide +kernel
theorem dX11_dine_145 : decode cX11_dine 145 = .ok (.iload_n 2, 1) := by decide +kernel
theorem dX11_dine_146 : decode cX11_dine 146 = .ok (.iadd, 1) := by decide +kernel
theorem dX11_dine_147 : decode cX11_dine 147 = .ok (.invokestatic 354, 3) := by decide +kernel
theorem dX11_dine_150 : decode cX11_dine 150 = .ok (.putfield 181, 3) := by decide +kernel
theorem dX11_dine_153 : decode cX11_dine 153 = .ok (.iload_n 2, 1) := by decide +kernel
theorem dX11_dine_154 : decode cX11_dine 154 = .ok (.ireturn, 1) := by decide +kernel
theorem dX11_pullOne_0 : decode cX11_pullOne 0 = .ok (.aload_n 0, 1) := by decide +kernel
theorem dX11_pullOne_1 : decode cX11_pullOne 1 = .ok (.sipush 10000, 3) := by decide +kernel
theorem dX11_pullOne_4 : decode cX11_pullOne 4 = .ok (.invokevirtual 351, 3) := by decide +kernel
theorem dX11_pullOne_7 : decode cX11_pullOne 7 = .ok (.istore_n 2, 1) := by decide +kernel
theorem dX11_pullOne_8 : decode cX11_pullOne 8 = .ok (.iload_n 2, 1) := by decide +kernel
theorem dX11_pullOne_9 : decode cX11_pullOne 9 = .ok (.aload_n 0, 1) := by decide +kernel
theorem dX11_pullOne_10 : decode cX11_pullOne 10 = .ok (.getfield 71, 3) := by decide +kernel
theorem dX11_pullOne_13 : decode cX11_pullOne 13 = .ok (.getfield 330, 3) := by decide +kernel
theorem dX11_pullOne_16 : decode cX11_pullOne 16 = .ok (.iload_n 1, 1) := by decide +kernel
theorem dX11_pullOne_17 : decode cX11_pullOne 17 = .ok (.iaload, 1) := by decide +kernel
theorem dX11_pullOne_18 : decode cX11_pullOne 18 = .ok (.if_icmp .ge 14, 3) := by decide +kernel
theorem dX11_pullOne_21 : decode cX11_pullOne 21 = .ok (.aload_n 0, 1) := by decide +kernel
theorem dX11_pullOne_22 : decode cX11_pullOne 22 = .ok (.getfield 55, 3) := by decide +kernel
theorem dX11_pullOne_25 : decode cX11_pullOne 25 = .ok (.iload_n 1, 1) := by decide +kernel
theorem dX11_pullOne_26 : decode cX11_pullOne 26 = .ok (.invokevirtual 359, 3) := by decide +kernel
theorem dX11_pullOne_29 : decode cX11_pullOne 29 = .ok (.goto 66, 3) := by decide +kernel
theorem dX11_pullOne_32 : decode cX11_pullOne 32 = .ok (.iload_n 2, 1) := by decide +kernel
theorem dX11_pullOne_33 : decode cX11_pullOne 33 = .ok (.aload_n 0, 1) := by decide +kernel
theorem dX11_pullOne_34 : decode cX11_pullOne 34 = .ok (.getfield 71, 3) := by decide +kernel
theorem dX11_pullOne_37 : decode cX11_pullOne 37 = .ok (.getfield 330, 3) := by decide +kernel
theorem dX11_pullOne_40 : decode cX11_pullOne 40 = .ok (.iload_n 1, 1) := by decide +kernel
theorem dX11_pullOne_41 : decode cX11_pullOne 41 = .ok (.iaload, 1) := by decide +kernel
theorem dX11_pullOne_42 : decode cX11_pullOne 42 = .ok (.aload_n 0, 1) := by decide +kernel
theorem dX11_pullOne_43 : decode cX11_pullOne 43 = .ok (.getfield 71, 3) := by decide +kernel
theorem dX11_pullOne_46 : decode cX11_pullOne 46 = .ok (.getfield 333, 3) := by decide +kernel
theorem dX11_pullOne_49 : decode cX11_pullOne 49 = .ok (.iload_n 1, 1) := by decide +kernel
theorem dX11_pullOne_50 : decode cX11_pullOne 50 = .ok (.iaload, 1) := by decide +kernel
theorem dX11_pullOne_51 : decode cX11_pullOne 51 = .ok (.iadd, 1) := by decide +kernel
theorem dX11_pullOne_52 : decode cX11_pullOne 52 = .ok (.if_icmp .ge 21, 3) := by decide +kernel
theorem dX11_pullOne_55 : decode cX11_pullOne 55 = .ok (.aload_n 0, 1) := by decide +kernel
theorem dX11_pullOne_56 : decode cX11_pullOne 56 = .ok (.getfield 55, 3) := by decide +kernel
theorem dX11_pullOne_59 : decode cX11_pullOne 59 = .ok (.aload_n 0, 1) := by decide +kernel
theorem dX11_pullOne_60 : decode cX11_pullOne 60 = .ok (.getfield 55, 3) := by decide +kernel
theorem dX11_pullOne_63 : decode cX11_pullOne 63 = .ok (.iload_n 1, 1) := by decide +kernel
theorem dX11_pullOne_64 : decode cX11_pullOne 64 = .ok (.invokevirtual 233, 3) := by decide +kernel
theorem dX11_pullOne_67 : decode cX11_pullOne 67 = .ok (.invokevirtual 359, 3) := by decide +kernel
theorem dX11_pullOne_70 : decode cX11_pullOne 70 = .ok (.goto 25, 3) := by decide +kernel
theorem dX11_pullOne_73 : decode cX11_pullOne 73 = .ok (.aload_n 0, 1) := by decide +kernel
theorem dX11_pullOne_74 : decode cX11_pullOne 74 = .ok (.getfield 55, 3) := by decide +kernel
theorem dX11_pullOne_77 : decode cX11_pullOne 77 = .ok (.sipush 9999, 3) := by decide +kernel
theorem dX11_pullOne_80 : decode cX11_pullOne 80 = .ok (.aload_n 0, 1) := by decide +kernel
theorem dX11_pullOne_81 : decode cX11_pullOne 81 = .ok (.getfield 55, 3) := by decide +kernel
theorem dX11_pullOne_84 : decode cX11_pullOne 84 = .ok (.getfield 184, 3) := by decide +kernel
theorem dX11_pullOne_87 : decode cX11_pullOne 87 = .ok (.iconst 1, 1) := by decide +kernel
theorem dX11_pullOne_88 : decode cX11_pullOne 88 = .ok (.iadd, 1) := by decide +kernel
theorem dX11_pullOne_89 : decode cX11_pullOne 89 = .ok (.invokestatic 354, 3) := by decide +kernel
theorem dX11_pullOne_92 : decode cX11_pullOne 92 = .ok (.putfield 184, 3) := by decide +kernel
theorem dX11_pullOne_95 : decode cX11_pullOne 95 = .ok (.return_, 1) := by decide +kernel
theorem dX11_draw_0 : decode cX11_draw 0 = .ok (.aload_n 0, 1) := by decide +kernel
theorem dX11_draw_1 : decode cX11_draw 1 = .ok (.ldc_w 362, 3) := by decide +kernel
theorem dX11_draw_4 : decode cX11_draw 4 = .ok (.aload_n 0, 1) := by decide +kernel
theorem dX11_draw_5 : decode cX11_draw 5 = .ok (.getfield 104, 3) := by decide +kernel
theorem dX11_draw_8 : decode cX11_draw 8 = .ok (.imul, 1) := by decide +kernel
theorem dX11_draw_9 : decode cX11_draw 9 = .ok (.sipush 12345, 3) := by decide +kernel
theorem dX11_draw_12 : decode cX11_draw 12 = .ok (.iadd, 1) := by decide +kernel
theorem dX11_draw_13 : decode cX11_draw 13 = .ok (.ldc_w 363, 3) := by decide +kernel
theorem dX11_draw_16 : decode cX11_draw 16 = .ok (.iand, 1) := by decide +kernel
theorem dX11_draw_17 : decode cX11_draw 17 = .ok (.putfield 104, 3) := by decide +kernel
theorem dX11_draw_20 : decode cX11_draw 20 = .ok (.iload_n 1, 1) := by decide +kernel
theorem dX11_draw_21 : decode cX11_draw 21 = .ok (.ifCond .le 15, 3) := by decide +kernel
theorem dX11_draw_24 : decode cX11_draw 24 = .ok (.aload_n 0, 1) := by decide +kernel
theorem dX11_draw_25 : decode cX11_draw 25 = .ok (.getfield 104, 3) := by decide +kernel
theorem dX11_draw_28 : decode cX11_draw 28 = .ok (.bipush 64, 2) := by decide +kernel
theorem dX11_draw_30 : decode cX11_draw 30 = .ok (.idiv, 1) := by decide +kernel
theorem dX11_draw_31 : decode cX11_draw 31 = .ok (.iload_n 1, 1) := by decide +kernel
theorem dX11_draw_32 : decode cX11_draw 32 = .ok (.irem, 1) := by decide +kernel
theorem dX11_draw_33 : decode cX11_draw 33 = .ok (.goto 4, 3) := by decide +kernel
theorem dX11_draw_36 : decode cX11_draw 36 = .ok (.iconst 0, 1) := by decide +kernel
theorem dX11_draw_37 : decode cX11_draw 37 = .ok (.ireturn, 1) := by decide +kernel
theorem dX11_hold_0 : decode cX11_hold 0 = .ok (.aload_n 0, 1) := by decide +kernel
theorem dX11_hold_1 : decode cX11_hold 1 = .ok (.iload_n 1, 1) := by decide +kernel
theorem dX11_hold_2 : decode cX11_hold 2 = .ok (.invokevirtual 196, 3) := by decide +kernel
theorem dX11_hold_5 : decode cX11_hold 5 = .ok (.ifCond .eq 32, 3) := by decide +kernel
theorem dX11_hold_8 : decode cX11_hold 8 = .ok (.aload_n 0, 1) := by decide +kernel
theorem dX11_hold_9 : decode cX11_hold 9 = .ok (.iload_n 2, 1) := by decide +kernel
theorem dX11_hold_10 : decode cX11_hold 10 = .ok (.invokevirtual 284, 3) := by decide +kernel
theorem dX11_hold_13 : decode cX11_hold 13 = .ok (.ifCond .eq 24, 3) := by decide +kernel
theorem dX11_hold_16 : decode cX11_hold 16 = .ok (.iload_n 3, 1) := by decide +kernel
theorem dX11_hold_17 : decode cX11_hold 17 = .ok (.ifCond .lt 20, 3) := by decide +kernel
theorem dX11_hold_20 : decode cX11_hold 20 = .ok (.iload_n 3, 1) := by decide +kernel
theorem dX11_hold_21 : decode cX11_hold 21 = .ok (.iconst 2, 1) := by decide +kernel
theorem dX11_hold_22 : decode cX11_hold 22 = .ok (.if_icmp .gt 15, 3) := by decide +kernel
theorem dX11_hold_25 : decode cX11_hold 25 = .ok (.iload 4, 2) := by decide +kernel
theorem dX11_hold_27 : decode cX11_hold 27 = .ok (.ifCond .lt 10, 3) := by decide +kernel
theorem dX11_hold_30 : decode cX11_hold 30 = .ok (.iload 4, 2) := by decide +kernel
theorem dX11_hold_32 : decode cX11_hold 32 = .ok (.bipush 9, 2) := by decide +kernel
theorem dX11_hold_34 : decode cX11_hold 34 = .ok (.if_icmp .le 9, 3) := by decide +kernel
theorem dX11_hold_37 : decode cX11_hold 37 = .ok (.aload_n 0, 1) := by decide +kernel
theorem dX11_hold_38 : decode cX11_hold 38 = .ok (.iconst 2, 1) := by decide +kernel
theorem dX11_hold_39 : decode cX11_hold 39 = .ok (.invokevirtual 124, 3) := by decide +kernel
theorem dX11_hold_42 : decode cX11_hold 42 = .ok (.ireturn, 1) := by decide +kernel
theorem dX11_hold_43 : decode cX11_hold 43 = .ok (.aload_n 0, 1) := by decide +kernel
theorem dX11_hold_44 : decode cX11_hold 44 = .ok (.invokevirtual 345, 3) := by decide +kernel
theorem dX11_hold_47 : decode cX11_hold 47 = .ok (.aload_n 0, 1) := by decide +kernel
theorem dX11_hold_48 : decode cX11_hold 48 = .ok (.getfield 55, 3) := by decide +kernel
theorem dX11_hold_51 : decode cX11_hold 51 = .ok (.iload_n 1, 1) := by decide +kernel
theorem dX11_hold_52 : decode cX11_hold 52 = .ok (.iload_n 2, 1) := by decide +kernel
theorem dX11_hold_53 : decode cX11_hold 53 = .ok (.invokevirtual 215, 3) := by decide +kernel
theorem dX11_hold_56 : decode cX11_hold 56 = .ok (.istore 5, 2) := by decide +kernel
theorem dX11_hold_58 : decode cX11_hold 58 = .ok (.aload_n 0, 1) := by decide +kernel
theorem dX11_hold_59 : decode cX11_hold 59 = .ok (.getfield 55, 3) := by decide +kernel
theorem dX11_hold_62 : decode cX11_hold 62 = .ok (.getfield 224, 3) := by decide +kernel
theorem dX11_hold_65 : decode cX11_hold 65 = .ok (.iload 5, 2) := by decide +kernel
theorem dX11_hold_67 : decode cX11_hold 67 = .ok (.iload_n 3, 1) := by decide +kernel
theorem dX11_hold_68 : decode cX11_hold 68 = .ok (.iastore, 1) := by decide +kernel
theorem dX11_hold_69 : decode cX11_hold 69 = .ok (.aload_n 0, 1) := by decide +kernel
theorem dX11_hold_70 : decode cX11_hold 70 = .ok (.getfield 55, 3) := by decide +kernel
theorem dX11_hold_73 : decode cX11_hold 73 = .ok (.getfield 227, 3) := by decide +kernel
theorem dX11_hold_76 : decode cX11_hold 76 = .ok (.iload 5, 2) := by decide +kernel
theorem dX11_hold_78 : decode cX11_hold 78 = .ok (.iload 4, 2) := by decide +kernel
theorem dX11_hold_80 : decode cX11_hold 80 = .ok (.iastore, 1) := by decide +kernel
theorem dX11_hold_81 : decode cX11_hold 81 = .ok (.iconst 1, 1) := by decide +kernel
theorem dX11_hold_82 : decode cX11_hold 82 = .ok (.ireturn, 1) := by decide +kernel
theorem dX11_give_0 : decode cX11_give 0 = .ok (.aload_n 0, 1) := by decide +kernel
theorem dX11_give_1 : decode cX11_give 1 = .ok (.iload_n 1, 1) := by decide +kernel
theorem dX11_give_2 : decode cX11_give 2 = .ok (.invokevirtual 196, 3) := by decide +kernel
theorem dX11_give_5 : decode cX11_give 5 = .ok (.ifCond .eq 16, 3) := by decide +kernel
theorem dX11_give_8 : decode cX11_give 8 = .ok (.aload_n 0, 1) := by decide +kernel
theorem dX11_give_9 : decode cX11_give 9 = .ok (.iload_n 2, 1) := by decide +kernel
theorem dX11_give_10 : decode cX11_give 10 = .ok (.invokevirtual 196, 3) := by decide +kernel
theorem dX11_give_13 : decode cX11_give 13 = .ok (.ifCond .eq 8, 3) := by decide +kernel
theorem dX11_give_16 : decode cX11_give 16 = .ok (.iload_n 1, 1) := by decide +kernel
theorem dX11_give_17 : decode cX11_give 17 = .ok (.iload_n 2, 1) := by decide +kernel
theorem dX11_give_18 : decode cX11_give 18 = .ok (.if_icmp .ne 9, 3) := by decide +kernel
theorem dX11_give_21 : decode cX11_give 21 = .ok (.aload_n 0, 1) := by decide +kernel
theorem dX11_give_22 : decode cX11_give 22 = .ok (.iconst 3, 1) := by decide +kernel
theorem dX11_give_23 : decode cX11_give 23 = .ok (.invokevirtual 124, 3) := by decide +kernel
theorem dX11_give_26 : decode cX11_give 26 = .ok (.ireturn, 1) := by decide +kernel
theorem dX11_give_27 : decode cX11_give 27 = .ok (.aload_n 0, 1) := by decide +kernel
theorem dX11_give_28 : decode cX11_give 28 = .ok (.getfield 55, 3) := by decide +kernel
theorem dX11_give_31 : decode cX11_give 31 = .ok (.getfield 202, 3) := by decide +kernel
theorem dX11_give_34 : decode cX11_give 34 = .ok (.iload_n 1, 1) := by decide +kernel
theorem dX11_give_35 : decode cX11_give 35 = .ok (.iaload, 1) := by decide +kernel
theorem dX11_give_36 : decode cX11_give 36 = .ok (.istore_n 3, 1) := by decide +kernel
theorem dX11_give_37 : decode cX11_give 37 = .ok (.aload_n 0, 1) := by decide +kernel
theorem dX11_give_38 : decode cX11_give 38 = .ok (.getfield 55, 3) := by decide +kernel
theorem dX11_give_41 : decode cX11_give 41 = .ok (.getfield 202, 3) := by decide +kernel
theorem dX11_give_44 : decode cX11_give 44 = .ok (.iload_n 2, 1) := by decide +kernel
theorem dX11_give_45 : decode cX11_give 45 = .ok (.iaload, 1) := by decide +kernel
theorem dX11_give_46 : decode cX11_give 46 = .ok (.istore 4, 2) := by decide +kernel
theorem dX11_give_48 : decode cX11_give 48 = .ok (.aload_n 0, 1) := by decide +kernel
theorem dX11_give_49 : decode cX11_give 49 = .ok (.getfield 55, 3) := by decide +kernel
theorem dX11_give_52 : decode cX11_give 52 = .ok (.getfield 218, 3) := by decide +kernel
theorem dX11_give_55 : decode cX11_give 55 = .ok (.iload_n 3, 1) := by decide +kernel
theorem dX11_give_56 : decode cX11_give 56 = .ok (.iaload, 1) := by decide +kernel
theorem dX11_give_57 : decode cX11_give 57 = .ok (.ifCond .eq 18, 3) := by decide +kernel
theorem dX11_give_60 : decode cX11_give 60 = .ok (.aload_n 0, 1) := by decide +kernel
theorem dX11_give_61 : decode cX11_give 61 = .ok (.getfield 55, 3) := by decide +kernel
theorem dX11_give_64 : decode cX11_give 64 = .ok (.getfield 218, 3) := by decide +kernel
theorem dX11_give_67 : decode cX11_give 67 = .ok (.iload 4, 2) := by decide +kernel
theorem dX11_give_69 : decode cX11_give 69 = .ok (.iaload, 1) := by decide +kernel
theorem dX11_give_70 : decode cX11_give 70 = .ok (.bipush 99, 2) := by decide +kernel
theorem dX11_give_72 : decode cX11_give 72 = .ok (.if_icmp .lt 9, 3) := by decide +kernel
theorem dX11_give_75 : decode cX11_give 75 = .ok (.aload_n 0, 1) := by decide +kernel
theorem dX11_give_76 : decode cX11_give 76 = .ok (.iconst 3, 1) := by decide +kernel
theorem dX11_give_77 : decode cX11_give 77 = .ok (.invokevirtual 124, 3) := by decide +kernel
theorem dX11_give_80 : decode cX11_give 80 = .ok (.ireturn, 1) := by decide +kernel
theorem dX11_give_81 : decode cX11_give 81 = .ok (.aload_n 0, 1) := by decide +kernel
theorem dX11_give_82 : decode cX11_give 82 = .ok (.invokevirtual 345, 3) := by decide +kernel
theorem dX11_give_85 : decode cX11_give 85 = .ok (.aload_n 0, 1) := by decide +kernel
theorem dX11_give_86 : decode cX11_give 86 = .ok (.getfield 55, 3) := by decide +kernel
theorem dX11_give_89 : decode cX11_give 89 = .ok (.getfield 218, 3) := by decide +kernel
theorem dX11_give_92 : decode cX11_give 92 = .ok (.iload_n 3, 1) := by decide +kernel
theorem dX11_give_93 : decode cX11_give 93 = .ok (.dup2, 1) := by decide +kernel
theorem dX11_give_94 : decode cX11_give 94 = .ok (.iaload, 1) := by decide +kernel
theorem dX11_give_95 : decode cX11_give 95 = .ok (.iconst 1, 1) := by decide +kernel
theorem dX11_give_96 : decode cX11_give 96 = .ok (.isub, 1) := by decide +kernel
theorem dX11_give_97 : decode cX11_give 97 = .ok (.iastore, 1) := by decide +kernel
theorem dX11_give_98 : decode cX11_give 98 = .ok (.aload_n 0, 1) := by decide +kernel
theorem dX11_give_99 : decode cX11_give 99 = .ok (.getfield 55, 3) := by decide +kernel
theorem dX11_give_102 : decode cX11_give 102 = .ok (.getfield 218, 3) := by decide +kernel
theorem dX11_give_105 : decode cX11_give 105 = .ok (.iload 4, 2) := by decide +kernel
theorem dX11_give_107 : decode cX11_give 107 = .ok (.dup2, 1) := by decide +kernel
theorem dX11_give_108 : decode cX11_give 108 = .ok (.iaload, 1) := by decide +kernel
theorem dX11_give_109 : decode cX11_give 109 = .ok (.iconst 1, 1) := by decide +kernel
theorem dX11_give_110 : decode cX11_give 110 = .ok (.iadd, 1) := by decide +kernel
theorem dX11_give_111 : decode cX11_give 111 = .ok (.iastore, 1) := by decide +kernel
theorem dX11_give_112 : decode cX11_give 112 = .ok (.iconst 1, 1) := by decide +kernel
theorem dX11_give_113 : decode cX11_give 113 = .ok (.ireturn, 1) := by decide +kernel
theorem dX11_pass_0 : decode cX11_pass 0 = .ok (.aload_n 0, 1) := by decide +kernel
theorem dX11_pass_1 : decode cX11_pass 1 = .ok (.getfield 55, 3) := by decide +kernel
theorem dX11_pass_4 : decode cX11_pass 4 = .ok (.invokevirtual 168, 3) := by decide +kernel
theorem dX11_pass_7 : decode cX11_pass 7 = .ok (.ifCond .ne 9, 3) := by decide +kernel
theorem dX11_pass_10 : decode cX11_pass 10 = .ok (.aload_n 0, 1) := by decide +kernel
theorem dX11_pass_11 : decode cX11_pass 11 = .ok (.iconst 3, 1) := by decide +kernel
theorem dX11_pass_12 : decode cX11_pass 12 = .ok (.invokevirtual 116, 3) := by decide +kernel
theorem dX11_pass_15 : decode cX11_pass 15 = .ok (.ireturn, 1) := by decide +kernel
theorem dX11_pass_16 : decode cX11_pass 16 = .ok (.aload_n 0, 1) := by decide +kernel
theorem dX11_pass_17 : decode cX11_pass 17 = .ok (.invokevirtual 345, 3) := by decide +kernel
theorem dX11_pass_20 : decode cX11_pass 20 = .ok (.aload_n 0, 1) := by decide +kernel
theorem dX11_pass_21 : decode cX11_pass 21 = .ok (.getfield 55, 3) := by decide +kernel
theorem dX11_pass_24 : decode cX11_pass 24 = .ok (.invokevirtual 339, 3) := by decide +kernel
theorem dX11_pass_27 : decode cX11_pass 27 = .ok (.ireturn, 1) := by decide +kernel
theorem dX11_change_0 : decode cX11_change 0 = .ok (.aload_n 0, 1) := by decide +kernel
theorem dX11_change_1 : decode cX11_change 1 = .ok (.iload_n 1, 1) := by decide +kernel
theorem dX11_change_2 : decode cX11_change 2 = .ok (.invokevirtual 196, 3) := by decide +kernel
theorem dX11_change_5 : decode cX11_change 5 = .ok (.ifCond .eq 16, 3) := by decide +kernel
theorem dX11_change_8 : decode cX11_change 8 = .ok (.aload_n 0, 1) := by decide +kernel
theorem dX11_change_9 : decode cX11_change 9 = .ok (.iload_n 2, 1) := by decide +kernel
theorem dX11_change_10 : decode cX11_change 10 = .ok (.invokevirtual 196, 3) := by decide +kernel
theorem dX11_change_13 : decode cX11_change 13 = .ok (.ifCond .eq 8, 3) := by decide +kernel
theorem dX11_change_16 : decode cX11_change 16 = .ok (.iload_n 1, 1) := by decide +kernel
theorem dX11_change_17 : decode cX11_change 17 = .ok (.iload_n 2, 1) := by decide +kernel
theorem dX11_change_18 : decode cX11_change 18 = .ok (.if_icmp .ne 9, 3) := by decide +kernel
theorem dX11_change_21 : decode cX11_change 21 = .ok (.aload_n 0, 1) := by decide +kernel
theorem dX11_change_22 : decode cX11_change 22 = .ok (.iconst 3, 1) := by decide +kernel
theorem dX11_change_23 : decode cX11_change 23 = .ok (.invokevirtual 124, 3) := by decide +kernel
theorem dX11_change_26 : decode cX11_change 26 = .ok (.ireturn, 1) := by decide +kernel
theorem dX11_change_27 : decode cX11_change 27 = .ok (.aload_n 0, 1) := by decide +kernel
theorem dX11_change_28 : decode cX11_change 28 = .ok (.invokevirtual 345, 3) := by decide +kernel
theorem dX11_change_31 : decode cX11_change 31 = .ok (.aload_n 0, 1) := by decide +kernel
theorem dX11_change_32 : decode cX11_change 32 = .ok (.getfield 55, 3) := by decide +kernel
theorem dX11_change_35 : decode cX11_change 35 = .ok (.getfield 202, 3) := by decide +kernel
theorem dX11_change_38 : decode cX11_change 38 = .ok (.iload_n 1, 1) := by decide +kernel
theorem dX11_change_39 : decode cX11_change 39 = .ok (.iaload, 1) := by decide +kernel
theorem dX11_change_40 : decode cX11_change 40 = .ok (.istore_n 3, 1) := by decide +kernel
theorem dX11_change_41 : decode cX11_change 41 = .ok (.aload_n 0, 1) := by decide +kernel
theorem dX11_change_42 : decode cX11_change 42 = .ok (.getfield 55, 3) := by decide +kernel
theorem dX11_change_45 : decode cX11_change 45 = .ok (.getfield 202, 3) := by decide +kernel
theorem dX11_change_48 : decode cX11_change 48 = .ok (.iload_n 1, 1) := by decide +kernel
theorem dX11_change_49 : decode cX11_change 49 = .ok (.aload_n 0, 1) := by decide +kernel
theorem dX11_change_50 : decode cX11_change 50 = .ok (.getfield 55, 3) := by decide +kernel
theorem dX11_change_53 : decode cX11_change 53 = .ok (.getfield 202, 3) := by decide +kernel
theorem dX11_change_56 : decode cX11_change 56 = .ok (.iload_n 2, 1) := by decide +kernel
theorem dX11_change_57 : decode cX11_change 57 = .ok (.iaload, 1) := by decide +kernel
theorem dX11_change_58 : decode cX11_change 58 = .ok (.iastore, 1) := by decide +kernel
theorem dX11_change_59 : decode cX11_change 59 = .ok (.aload_n 0, 1) := by decide +kernel
theorem dX11_change_60 : decode cX11_change 60 = .ok (.getfield 55, 3) := by decide +kernel
theorem dX11_change_63 : decode cX11_change 63 = .ok (.getfield 202, 3) := by decide +kernel
theorem dX11_change_66 : decode cX11_change 66 = .ok (.iload_n 2, 1) := by decide +kernel
theorem dX11_change_67 : decode cX11_change 67 = .ok (.iload_n 3, 1) := by decide +kernel
theorem dX11_change_68 : decode cX11_change 68 = .ok (.iastore, 1) := by decide +kernel
theorem dX11_change_69 : decode cX11_change 69 = .ok (.iconst 1, 1) := by decide +kernel
theorem dX11_change_70 : decode cX11_change 70 = .ok (.ireturn, 1) := by decide +kernel
theorem dX11_undo_0 : decode cX11_undo 0 = .ok (.aload_n 0, 1) := by decide +kernel
theorem dX11_undo_1 : decode cX11_undo 1 = .ok (.getfield 62, 3) := by decide +kernel
theorem dX11_undo_4 : decode cX11_undo 4 = .ok (.getfield 193, 3) := by decide +kernel
theorem dX11_undo_7 : decode cX11_undo 7 = .ok (.ifCond .ne 9, 3) := by decide +kernel
theorem dX11_undo_10 : decode cX11_undo 10 = .ok (.aload_n 0, 1) := by decide +kernel
theorem dX11_undo_11 : decode cX11_undo 11 = .ok (.iconst 4, 1) := by decide +kernel
theorem dX11_undo_12 : decode cX11_undo 12 = .ok (.invokevirtual 124, 3) := by decide +kernel
theorem dX11_undo_15 : decode cX11_undo 15 = .ok (.ireturn, 1) := by decide +kernel
theorem dX11_undo_16 : decode cX11_undo 16 = .ok (.aload_n 0, 1) := by decide +kernel
theorem dX11_undo_17 : decode cX11_undo 17 = .ok (.getfield 62, 3) := by decide +kernel
theorem dX11_undo_20 : decode cX11_undo 20 = .ok (.aload_n 0, 1) := by decide +kernel
theorem dX11_undo_21 : decode cX11_undo 21 = .ok (.getfield 55, 3) := by decide +kernel
theorem dX11_undo_24 : decode cX11_undo 24 = .ok (.invokevirtual 364, 3) := by decide +kernel
theorem dX11_undo_27 : decode cX11_undo 27 = .ok (.aload_n 0, 1) := by decide +kernel
theorem dX11_undo_28 : decode cX11_undo 28 = .ok (.invokevirtual 144, 3) := by decide +kernel
theorem dX11_undo_31 : decode cX11_undo 31 = .ok (.iconst 1, 1) := by decide +kernel
theorem dX11_undo_32 : decode cX11_undo 32 = .ok (.ireturn, 1) := by decide +kernel
theorem dX11_seed_0 : decode cX11_seed 0 = .ok (.iload_n 1, 1) := by decide +kernel
theorem dX11_seed_1 : decode cX11_seed 1 = .ok (.ifCond .ge 9, 3) := by decide +kernel
theorem dX11_seed_4 : decode cX11_seed 4 = .ok (.aload_n 0, 1) := by decide +kernel
theorem dX11_seed_5 : decode cX11_seed 5 = .ok (.iconst 5, 1) := by decide +kernel
theorem dX11_seed_6 : decode cX11_seed 6 = .ok (.invokevirtual 124, 3) := by decide +kernel
theorem dX11_seed_9 : decode cX11_seed 9 = .ok (.ireturn, 1) := by decide +kernel
theorem dX11_seed_10 : decode cX11_seed 10 = .ok (.aload_n 0, 1) := by decide +kernel
theorem dX11_seed_11 : decode cX11_seed 11 = .ok (.iload_n 1, 1) := by decide +kernel
theorem dX11_seed_12 : decode cX11_seed 12 = .ok (.putfield 104, 3) := by decide +kernel
theorem dX11_seed_15 : decode cX11_seed 15 = .ok (.iconst 1, 1) := by decide +kernel
theorem dX11_seed_16 : decode cX11_seed 16 = .ok (.ireturn, 1) := by decide +kernel
theorem dX11_ask_0 : decode cX11_ask 0 = .ok (.aload_n 0, 1) := by decide +kernel
theorem dX11_ask_1 : decode cX11_ask 1 = .ok (.invokevirtual 128, 3) := by decide +kernel
theorem dX11_ask_4 : decode cX11_ask 4 = .ok (.aload_n 0, 1) := by decide +kernel
theorem dX11_ask_5 : decode cX11_ask 5 = .ok (.getfield 48, 3) := by decide +kernel
theorem dX11_ask_8 : decode cX11_ask 8 = .ok (.invokevirtual 367, 3) := by decide +kernel
theorem dX11_ask_11 : decode cX11_ask 11 = .ok (.aload_n 0, 1) := by decide +kernel
theorem dX11_ask_12 : decode cX11_ask 12 = .ok (.invokevirtual 134, 3) := by decide +kernel
theorem dX11_ask_15 : decode cX11_ask 15 = .ok (.aload_n 0, 1) := by decide +kernel
theorem dX11_ask_16 : decode cX11_ask 16 = .ok (.getfield 107, 3) := by decide +kernel
theorem dX11_ask_19 : decode cX11_ask 19 = .ok (.ifCond .eq 7, 3) := by decide +kernel
theorem dX11_ask_22 : decode cX11_ask 22 = .ok (.ldc2_w 369, 3) := by decide +kernel
theorem dX11_ask_25 : decode cX11_ask 25 = .ok (.lreturn, 1) := by decide +kernel
theorem dX11_ask_26 : decode cX11_ask 26 = .ok (.aload_n 0, 1) := by decide +kernel
theorem dX11_ask_27 : decode cX11_ask 27 = .ok (.getfield 71, 3) := by decide +kernel
theorem dX11_ask_30 : decode cX11_ask 30 = .ok (.aload_n 0, 1) := by decide +kernel
theorem dX11_ask_31 : decode cX11_ask 31 = .ok (.getfield 55, 3) := by decide +kernel
theorem dX11_ask_34 : decode cX11_ask 34 = .ok (.invokevirtual 249, 3) := by decide +kernel
theorem dX11_ask_37 : decode cX11_ask 37 = .ok (.aload_n 0, 1) := by decide +kernel
theorem dX11_ask_38 : decode cX11_ask 38 = .ok (.getfield 48, 3) := by decide +kernel
theorem dX11_ask_41 : decode cX11_ask 41 = .ok (.aload_n 0, 1) := by decide +kernel
theorem dX11_ask_42 : decode cX11_ask 42 = .ok (.getfield 55, 3) := by decide +kernel
theorem dX11_ask_45 : decode cX11_ask 45 = .ok (.aload_n 0, 1) := by decide +kernel
theorem dX11_ask_46 : decode cX11_ask 46 = .ok (.getfield 71, 3) := by decide +kernel
theorem dX11_ask_49 : decode cX11_ask 49 = .ok (.invokevirtual 371, 3) := by decide +kernel
theorem dX11_ask_52 : decode cX11_ask 52 = .ok (.lreturn, 1) := by decide +kernel
theorem dX11_image_0 : decode cX11_image 0 = .ok (.aload_n 0, 1) := by decide +kernel
theorem dX11_image_1 : decode cX11_image 1 = .ok (.iconst 0, 1) := by decide +kernel
theorem dX11_image_2 : decode cX11_image 2 = .ok (.putfield 101, 3) := by decide +kernel
theorem dX11_image_5 : decode cX11_image 5 = .ok (.aload_n 0, 1) := by decide +kernel
theorem dX11_image_6 : decode cX11_image 6 = .ok (.aload_n 0, 1) := by decide +kernel
theorem dX11_image_7 : decode cX11_image 7 = .ok (.getfield 55, 3) := by decide +kernel
theorem dX11_image_10 : decode cX11_image 10 = .ok (.getfield 178, 3) := by decide +kernel
theorem dX11_image_13 : decode cX11_image 13 = .ok (.invokevirtual 375, 3) := by decide +kernel
theorem dX11_image_16 : decode cX11_image 16 = .ok (.aload_n 0, 1) := by decide +kernel
theorem dX11_image_17 : decode cX11_image 17 = .ok (.aload_n 0, 1) := by decide +kernel
theorem dX11_image_18 : decode cX11_image 18 = .ok (.getfield 55, 3) := by decide +kernel
theorem dX11_image_21 : decode cX11_image 21 = .ok (.getfield 181, 3) := by decide +kernel
theorem dX11_image_24 : decode cX11_image 24 = .ok (.invokevirtual 375, 3) := by decide +kernel
theorem dX11_image_27 : decode cX11_image 27 = .ok (.aload_n 0, 1) := by decide +kernel
theorem dX11_image_28 : decode cX11_image 28 = .ok (.aload_n 0, 1) := by decide +kernel
theorem dX11_image_29 : decode cX11_image 29 = .ok (.getfield 55, 3) := by decide +kernel
theorem dX11_image_32 : decode cX11_image 32 = .ok (.getfield 184, 3) := by decide +kernel
theorem dX11_image_35 : decode cX11_image 35 = .ok (.invokevirtual 375, 3) := by decide +kernel
theorem dX11_image_38 : decode cX11_image 38 = .ok (.iconst 0, 1) := by decide +kernel
theorem dX11_image_39 : decode cX11_image 39 = .ok (.istore_n 1, 1) := by decide +kernel
theorem dX11_image_40 : decode cX11_image 40 = .ok (.iload_n 1, 1) := by decide +kernel
theorem dX11_image_41 : decode cX11_image 41 = .ok (.aload_n 0, 1) := by decide +kernel
theorem dX11_image_42 : decode cX11_image 42 = .ok (.getfield 55, 3) := by decide +kernel
theorem dX11_image_45 : decode cX11_image 45 = .ok (.getfield 165, 3) := by decide +kernel
theorem dX11_image_48 : decode cX11_image 48 = .ok (.if_icmp .ge 98, 3) := by decide +kernel
theorem dX11_image_51 : decode cX11_image 51 = .ok (.aload_n 0, 1) := by decide +kernel
theorem dX11_image_52 : decode cX11_image 52 = .ok (.aload_n 0, 1) := by decide +kernel
theorem dX11_image_53 : decode cX11_image 53 = .ok (.getfield 55, 3) := by decide +kernel
theorem dX11_image_56 : decode cX11_image 56 = .ok (.getfield 202, 3) := by decide +kernel
theorem dX11_image_59 : decode cX11_image 59 = .ok (.iload_n 1, 1) := by decide +kernel
theorem dX11_image_60 : decode cX11_image 60 = .ok (.iaload, 1) := by decide +kernel
theorem dX11_image_61 : decode cX11_image 61 = .ok (.invokevirtual 378, 3) := by decide +kernel
theorem dX11_image_64 : decode cX11_image 64 = .ok (.aload_n 0, 1) := by decide +kernel
theorem dX11_image_65 : decode cX11_image 65 = .ok (.aload_n 0, 1) := by decide +kernel
theorem dX11_image_66 : decode cX11_image 66 = .ok (.getfield 55, 3) := by decide +kernel
theorem dX11_image_69 : decode cX11_image 69 = .ok (.getfield 218, 3) := by decide +kernel
theorem dX11_image_72 : decode cX11_image 72 = .ok (.aload_n 0, 1) := by decide +kernel
theorem dX11_image_73 : decode cX11_image 73 = .ok (.getfield 55, 3) := by decide +kernel
theorem dX11_image_76 : decode cX11_image 76 = .ok (.getfield 202, 3) := by decide +kernel
theorem dX11_image_79 : decode cX11_image 79 = .ok (.iload_n 1, 1) := by decide +kernel
theorem dX11_image_80 : decode cX11_image 80 = .ok (.iaload, 1) := by decide +kernel
theorem dX11_image_81 : decode cX11_image 81 = .ok (.iaload, 1) := by decide +kernel
theorem dX11_image_82 : decode cX11_image 82 = .ok (.invokevirtual 378, 3) := by decide +kernel
theorem dX11_image_85 : decode cX11_image 85 = .ok (.iconst 0, 1) := by decide +kernel
theorem dX11_image_86 : decode cX11_image 86 = .ok (.istore_n 2, 1) := by decide +kernel
theorem dX11_image_87 : decode cX11_image 87 = .ok (.iload_n 2, 1) := by decide +kernel
theorem dX11_image_88 : decode cX11_image 88 = .ok (.iconst 2, 1) := by decide +kernel
theorem dX11_image_89 : decode cX11_image 89 = .ok (.if_icmp .ge 51, 3) := by decide +kernel
theorem dX11_image_92 : decode cX11_image 92 = .ok (.aload_n 0, 1) := by decide +kernel
theorem dX11_image_93 : decode cX11_image 93 = .ok (.aload_n 0, 1) := by decide +kernel
theorem dX11_image_94 : decode cX11_image 94 = .ok (.getfield 55, 3) := by decide +kernel
theorem dX11_image_97 : decode cX11_image 97 = .ok (.getfield 224, 3) := by decide +kernel
theorem dX11_image_100 : decode cX11_image 100 = .ok (.aload_n 0, 1) := by decide +kernel
theorem dX11_image_101 : decode cX11_image 101 = .ok (.getfield 55, 3) := by decide +kernel
theorem dX11_image_104 : decode cX11_image 104 = .ok (.iload_n 1, 1) := by decide +kernel
theorem dX11_image_105 : decode cX11_image 105 = .ok (.iload_n 2, 1) := by decide +kernel
theorem dX11_image_106 : decode cX11_image 106 = .ok (.invokevirtual 215, 3) := by decide +kernel
theorem dX11_image_109 : decode cX11_image 109 = .ok (.iaload, 1) := by decide +kernel
theorem dX11_image_110 : decode cX11_image 110 = .ok (.invokevirtual 378, 3) := by decide +kernel
theorem dX11_image_113 : decode cX11_image 113 = .ok (.aload_n 0, 1) := by decide +kernel
theorem dX11_image_114 : decode cX11_image 114 = .ok (.aload_n 0, 1) := by decide +kernel
theorem dX11_image_115 : decode cX11_image 115 = .ok (.getfield 55, 3) := by decide +kernel
theorem dX11_image_118 : decode cX11_image 118 = .ok (.getfield 227, 3) := by decide +kernel
theorem dX11_image_121 : decode cX11_image 121 = .ok (.aload_n 0, 1) := by decide +kernel
theorem dX11_image_122 : decode cX11_image 122 = .ok (.getfield 55, 3) := by decide +kernel
theorem dX11_image_125 : decode cX11_image 125 = .ok (.iload_n 1, 1) := by decide +kernel
theorem dX11_image_126 : decode cX11_image 126 = .ok (.iload_n 2, 1) := by decide +kernel
theorem dX11_image_127 : decode cX11_image 127 = .ok (.invokevirtual 215, 3) := by decide +kernel
theorem dX11_image_130 : decode cX11_image 130 = .ok (.iaload, 1) := by decide +kernel
theorem dX11_image_131 : decode cX11_image 131 = .ok (.invokevirtual 378, 3) := by decide +kernel
theorem dX11_image_134 : decode cX11_image 134 = .ok (.iinc 2 1, 3) := by decide +kernel
theorem dX11_image_137 : decode cX11_image 137 = .ok (.goto (-50), 3) := by decide +kernel
theorem dX11_image_140 : decode cX11_image 140 = .ok (.iinc 1 1, 3) := by decide +kernel
theorem dX11_image_143 : decode cX11_image 143 = .ok (.goto (-103), 3) := by decide +kernel
theorem dX11_image_146 : decode cX11_image 146 = .ok (.aload_n 0, 1) := by decide +kernel
theorem dX11_image_147 : decode cX11_image 147 = .ok (.aload_n 0, 1) := by decide +kernel
theorem dX11_image_148 : decode cX11_image 148 = .ok (.aload_n 0, 1) := by decide +kernel
theorem dX11_image_149 : decode cX11_image 149 = .ok (.getfield 98, 3) := by decide +kernel
theorem dX11_image_152 : decode cX11_image 152 = .ok (.aload_n 0, 1) := by decide +kernel
theorem dX11_image_153 : decode cX11_image 153 = .ok (.getfield 101, 3) := by decide +kernel
theorem dX11_image_156 : decode cX11_image 156 = .ok (.invokevirtual 381, 3) := by decide +kernel
theorem dX11_image_159 : decode cX11_image 159 = .ok (.invokevirtual 378, 3) := by decide +kernel
theorem dX11_image_162 : decode cX11_image 162 = .ok (.aload_n 0, 1) := by decide +kernel
theorem dX11_image_163 : decode cX11_image 163 = .ok (.getfield 101, 3) := by decide +kernel
theorem dX11_image_166 : decode cX11_image 166 = .ok (.ireturn, 1) := by decide +kernel
theorem dX11_putTwo_0 : decode cX11_putTwo 0 = .ok (.aload_n 0, 1) := by decide +kernel
theorem dX11_putTwo_1 : decode cX11_putTwo 1 = .ok (.iload_n 1, 1) := by decide +kernel
theorem dX11_putTwo_2 : decode cX11_putTwo 2 = .ok (.sipush 256, 3) := by decide +kernel
theorem dX11_putTwo_5 : decode cX11_putTwo 5 = .ok (.idiv, 1) := by decide +kernel
theorem dX11_putTwo_6 : decode cX11_putTwo 6 = .ok (.invokevirtual 378, 3) := by decide +kernel
theorem dX11_putTwo_9 : decode cX11_putTwo 9 = .ok (.aload_n 0, 1) := by decide +kernel
theorem dX11_putTwo_10 : decode cX11_putTwo 10 = .ok (.iload_n 1, 1) := by decide +kernel
theorem dX11_putTwo_11 : decode cX11_putTwo 11 = .ok (.sipush 256, 3) := by decide +kernel
theorem dX11_putTwo_14 : decode cX11_putTwo 14 = .ok (.irem, 1) := by decide +kernel
theorem dX11_putTwo_15 : decode cX11_putTwo 15 = .ok (.invokevirtual 378, 3) := by decide +kernel
theorem dX11_putTwo_18 : decode cX11_putTwo 18 = .ok (.return_, 1) := by decide +kernel
theorem dX11_put_0 : decode cX11_put 0 = .ok (.aload_n 0, 1) := by decide +kernel
theorem dX11_put_1 : decode cX11_put 1 = .ok (.getfield 101, 3) := by decide +kernel
theorem dX11_put_4 : decode cX11_put 4 = .ok (.aload_n 0, 1) := by decide +kernel
theorem dX11_put_5 : decode cX11_put 5 = .ok (.getfield 98, 3) := by decide +kernel
theorem dX11_put_8 : decode cX11_put 8 = .ok (.arraylength, 1) := by decide +kernel
theorem dX11_put_9 : decode cX11_put 9 = .ok (.if_icmp .ge 23, 3) := by decide +kernel
theorem dX11_put_12 : decode cX11_put 12 = .ok (.aload_n 0, 1) := by decide +kernel
theorem dX11_put_13 : decode cX11_put 13 = .ok (.getfield 98, 3) := by decide +kernel
theorem dX11_put_16 : decode cX11_put 16 = .ok (.aload_n 0, 1) := by decide +kernel
theorem dX11_put_17 : decode cX11_put 17 = .ok (.getfield 101, 3) := by decide +kernel
theorem dX11_put_20 : decode cX11_put 20 = .ok (.iload_n 1, 1) := by decide +kernel
theorem dX11_put_21 : decode cX11_put 21 = .ok (.iastore, 1) := by decide +kernel
theorem dX11_put_22 : decode cX11_put 22 = .ok (.aload_n 0, 1) := by decide +kernel
theorem dX11_put_23 : decode cX11_put 23 = .ok (.dup, 1) := by decide +kernel
theorem dX11_put_24 : decode cX11_put 24 = .ok (.getfield 101, 3) := by decide +kernel
theorem dX11_put_27 : decode cX11_put 27 = .ok (.iconst 1, 1) := by decide +kernel
theorem dX11_put_28 : decode cX11_put 28 = .ok (.iadd, 1) := by decide +kernel
theorem dX11_put_29 : decode cX11_put 29 = .ok (.putfield 101, 3) := by decide +kernel
theorem dX11_put_32 : decode cX11_put 32 = .ok (.return_, 1) := by decide +kernel
theorem dX11_check_0 : decode cX11_check 0 = .ok (.sipush 227, 3) := by decide +kernel
theorem dX11_check_3 : decode cX11_check 3 = .ok (.istore_n 3, 1) := by decide +kernel
theorem dX11_check_4 : decode cX11_check 4 = .ok (.iconst 0, 1) := by decide +kernel
theorem dX11_check_5 : decode cX11_check 5 = .ok (.istore 4, 2) := by decide +kernel
theorem dX11_check_7 : decode cX11_check 7 = .ok (.iload 4, 2) := by decide +kernel
theorem dX11_check_9 : decode cX11_check 9 = .ok (.iload_n 2, 1) := by decide +kernel
theorem dX11_check_10 : decode cX11_check 10 = .ok (.if_icmp .ge 22, 3) := by decide +kernel
theorem dX11_check_13 : decode cX11_check 13 = .ok (.iconst 3, 1) := by decide +kernel
theorem dX11_check_14 : decode cX11_check 14 = .ok (.iload_n 3, 1) := by decide +kernel
theorem dX11_check_15 : decode cX11_check 15 = .ok (.imul, 1) := by decide +kernel
theorem dX11_check_16 : decode cX11_check 16 = .ok (.aload_n 1, 1) := by decide +kernel
theorem dX11_check_17 : decode cX11_check 17 = .ok (.iload 4, 2) := by decide +kernel
theorem dX11_check_19 : decode cX11_check 19 = .ok (.iaload, 1) := by decide +kernel
theorem dX11_check_20 : decode cX11_check 20 = .ok (.iadd, 1) := by decide +kernel
theorem dX11_check_21 : decode cX11_check 21 = .ok (.sipush 251, 3) := by decide +kernel
theorem dX11_check_24 : decode cX11_check 24 = .ok (.irem, 1) := by decide +kernel
theorem dX11_check_25 : decode cX11_check 25 = .ok (.istore_n 3, 1) := by decide +kernel
theorem dX11_check_26 : decode cX11_check 26 = .ok (.iinc 4 1, 3) := by decide +kernel
theorem dX11_check_29 : decode cX11_check 29 = .ok (.goto (-22), 3) := by decide +kernel
theorem dX11_check_32 : decode cX11_check 32 = .ok (.iload_n 3, 1) := by decide +kernel
theorem dX11_check_33 : decode cX11_check 33 = .ok (.ireturn, 1) := by decide +kernel
theorem dX11_octet_0 : decode cX11_octet 0 = .ok (.iload_n 1, 1) := by decide +kernel
theorem dX11_octet_1 : decode cX11_octet 1 = .ok (.ifCond .lt 20, 3) := by decide +kernel
theorem dX11_octet_4 : decode cX11_octet 4 = .ok (.iload_n 1, 1) := by decide +kernel
theorem dX11_octet_5 : decode cX11_octet 5 = .ok (.aload_n 0, 1) := by decide +kernel
theorem dX11_octet_6 : decode cX11_octet 6 = .ok (.getfield 101, 3) := by decide +kernel
theorem dX11_octet_9 : decode cX11_octet 9 = .ok (.if_icmp .ge 12, 3) := by decide +kernel
theorem dX11_octet_12 : decode cX11_octet 12 = .ok (.aload_n 0, 1) := by decide +kernel
theorem dX11_octet_13 : decode cX11_octet 13 = .ok (.getfield 98, 3) := by decide +kernel
theorem dX11_octet_16 : decode cX11_octet 16 = .ok (.iload_n 1, 1) := by decide +kernel
theorem dX11_octet_17 : decode cX11_octet 17 = .ok (.iaload, 1) := by decide +kernel
theorem dX11_octet_18 : decode cX11_octet 18 = .ok (.goto 4, 3) := by decide +kernel
theorem dX11_octet_21 : decode cX11_octet 21 = .ok (.iconst (-1), 1) := by decide +kernel
theorem dX11_octet_22 : decode cX11_octet 22 = .ok (.ireturn, 1) := by decide +kernel
theorem dX11_restore_0 : decode cX11_restore 0 = .ok (.aload_n 0, 1) := by decide +kernel
theorem dX11_restore_1 : decode cX11_restore 1 = .ok (.getfield 13, 3) := by decide +kernel
theorem dX11_restore_4 : decode cX11_restore 4 = .ok (.istore_n 1, 1) := by decide +kernel
theorem dX11_restore_5 : decode cX11_restore 5 = .ok (.aload_n 0, 1) := by decide +kernel
theorem dX11_restore_6 : decode cX11_restore 6 = .ok (.iconst 0, 1) := by decide +kernel
theorem dX11_restore_7 : decode cX11_restore 7 = .ok (.putfield 13, 3) := by decide +kernel
theorem dX11_restore_10 : decode cX11_restore 10 = .ok (.aload_n 0, 1) := by decide +kernel
theorem dX11_restore_11 : decode cX11_restore 11 = .ok (.iload_n 1, 1) := by decide +kernel
theorem dX11_restore_12 : decode cX11_restore 12 = .ok (.invokevirtual 385, 3) := by decide +kernel
theorem dX11_restore_15 : decode cX11_restore 15 = .ok (.ifCond .ne 9, 3) := by decide +kernel
theorem dX11_restore_18 : decode cX11_restore 18 = .ok (.aload_n 0, 1) := by decide +kernel
theorem dX11_restore_19 : decode cX11_restore 19 = .ok (.iconst 5, 1) := by decide +kernel
theorem dX11_restore_20 : decode cX11_restore 20 = .ok (.invokevirtual 124, 3) := by decide +kernel
theorem dX11_restore_23 : decode cX11_restore 23 = .ok (.ireturn, 1) := by decide +kernel
theorem dX11_restore_24 : decode cX11_restore 24 = .ok (.aload_n 0, 1) := by decide +kernel
theorem dX11_restore_25 : decode cX11_restore 25 = .ok (.getfield 55, 3) := by decide +kernel
theorem dX11_restore_28 : decode cX11_restore 28 = .ok (.aload_n 0, 1) := by decide +kernel
theorem dX11_restore_29 : decode cX11_restore 29 = .ok (.iconst 0, 1) := by decide +kernel
theorem dX11_restore_30 : decode cX11_restore 30 = .ok (.invokevirtual 388, 3) := by decide +kernel
theorem dX11_restore_33 : decode cX11_restore 33 = .ok (.putfield 178, 3) := by decide +kernel
theorem dX11_restore_36 : decode cX11_restore 36 = .ok (.aload_n 0, 1) := by decide +kernel
theorem dX11_restore_37 : decode cX11_restore 37 = .ok (.getfield 55, 3) := by decide +kernel
theorem dX11_restore_40 : decode cX11_restore 40 = .ok (.aload_n 0, 1) := by decide +kernel
theorem dX11_restore_41 : decode cX11_restore 41 = .ok (.iconst 2, 1) := by decide +kernel
theorem dX11_restore_42 : decode cX11_restore 42 = .ok (.invokevirtual 388, 3) := by decide +kernel
theorem dX11_restore_45 : decode cX11_restore 45 = .ok (.putfield 181, 3) := by decide +kernel
theorem dX11_restore_48 : decode cX11_restore 48 = .ok (.aload_n 0, 1) := by decide +kernel
theorem dX11_restore_49 : decode cX11_restore 49 = .ok (.getfield 55, 3) := by decide +kernel
theorem dX11_restore_52 : decode cX11_restore 52 = .ok (.aload_n 0, 1) := by decide +kernel
theorem dX11_restore_53 : decode cX11_restore 53 = .ok (.iconst 4, 1) := by decide +kernel
theorem dX11_restore_54 : decode cX11_restore 54 = .ok (.invokevirtual 388, 3) := by decide +kernel
theorem dX11_restore_57 : decode cX11_restore 57 = .ok (.putfield 184, 3) := by decide +kernel
theorem dX11_restore_60 : decode cX11_restore 60 = .ok (.iconst 0, 1) := by decide +kernel
theorem dX11_restore_61 : decode cX11_restore 61 = .ok (.istore_n 2, 1) := by decide +kernel
theorem dX11_restore_62 : decode cX11_restore 62 = .ok (.iload_n 2, 1) := by decide +kernel
theorem dX11_restore_63 : decode cX11_restore 63 = .ok (.aload_n 0, 1) := by decide +kernel
theorem dX11_restore_64 : decode cX11_restore 64 = .ok (.getfield 55, 3) := by decide +kernel
theorem dX11_restore_67 : decode cX11_restore 67 = .ok (.getfield 165, 3) := by decide +kernel
theorem dX11_restore_70 : decode cX11_restore 70 = .ok (.if_icmp .ge 127, 3) := by decide +kernel
theorem dX11_restore_73 : decode cX11_restore 73 = .ok (.bipush 6, 2) := by decide +kernel
theorem dX11_restore_75 : decode cX11_restore 75 = .ok (.bipush 6, 2) := by decide +kernel
theorem dX11_restore_77 : decode cX11_restore 77 = .ok (.iload_n 2, 1) := by decide +kernel
theorem dX11_restore_78 : decode cX11_restore 78 = .ok (.imul, 1) := by decide +kernel
theorem dX11_restore_79 : decode cX11_restore 79 = .ok (.iadd, 1) := by decide +kernel
theorem dX11_restore_80 : decode cX11_restore 80 = .ok (.istore_n 3, 1) := by decide +kernel
theorem dX11_restore_81 : decode cX11_restore 81 = .ok (.aload_n 0, 1) := by decide +kernel
theorem dX11_restore_82 : decode cX11_restore 82 = .ok (.getfield 55, 3) := by decide +kernel
theorem dX11_restore_85 : decode cX11_restore 85 = .ok (.getfield 202, 3) := by decide +kernel
theorem dX11_restore_88 : decode cX11_restore 88 = .ok (.iload_n 2, 1) := by decide +kernel
theorem dX11_restore_89 : decode cX11_restore 89 = .ok (.aload_n 0, 1) := by decide +kernel
theorem dX11_restore_90 : decode cX11_restore 90 = .ok (.getfield 9, 3) := by decide +kernel
theorem dX11_restore_93 : decode cX11_restore 93 = .ok (.iload_n 3, 1) := by decide +kernel
theorem dX11_restore_94 : decode cX11_restore 94 = .ok (.iaload, 1) := by decide +kernel
theorem dX11_restore_95 : decode cX11_restore 95 = .ok (.iastore, 1) := by decide +kernel
theorem dX11_restore_96 : decode cX11_restore 96 = .ok (.aload_n 0, 1) := by decide +kernel
theorem dX11_restore_97 : decode cX11_restore 97 = .ok (.getfield 55, 3) := by decide +kernel
theorem dX11_restore_100 : decode cX11_restore 100 = .ok (.getfield 218, 3) := by decide +kernel
theorem dX11_restore_103 : decode cX11_restore 103 = .ok (.aload_n 0, 1) := by decide +kernel
theorem dX11_restore_104 : decode cX11_restore 104 = .ok (.getfield 9, 3) := by decide +kernel
theorem dX11_restore_107 : decode cX11_restore 107 = .ok (.iload_n 3, 1) := by decide +kernel
theorem dX11_restore_108 : decode cX11_restore 108 = .ok (.iaload, 1) := by decide +kernel
theorem dX11_restore_109 : decode cX11_restore 109 = .ok (.aload_n 0, 1) := by decide +kernel
theorem dX11_restore_110 : decode cX11_restore 110 = .ok (.getfield 9, 3) := by decide +kernel
theorem dX11_restore_113 : decode cX11_restore 113 = .ok (.iload_n 3, 1) := by decide +kernel
theorem dX11_restore_114 : decode cX11_restore 114 = .ok (.iconst 1, 1) := by decide +kernel
theorem dX11_restore_115 : decode cX11_restore 115 = .ok (.iadd, 1) := by decide +kernel
theorem dX11_restore_116 : decode cX11_restore 116 = .ok (.iaload, 1) := by decide +kernel
theorem dX11_restore_117 : decode cX11_restore 117 = .ok (.iastore, 1) := by decide +kernel
theorem dX11_restore_118 : decode cX11_restore 118 = .ok (.iconst 0, 1) := by decide +kernel
theorem dX11_restore_119 : decode cX11_restore 119 = .ok (.istore 4, 2) := by decide +kernel
theorem dX11_restore_121 : decode cX11_restore 121 = .ok (.iload 4, 2) := by decide +kernel
theorem dX11_restore_123 : decode cX11_restore 123 = .ok (.iconst 2, 1) := by decide +kernel
theorem dX11_restore_124 : decode cX11_restore 124 = .ok (.if_icmp .ge 67, 3) := by decide +kernel
theorem dX11_restore_127 : decode cX11_restore 127 = .ok (.aload_n 0, 1) := by decide +kernel
theorem dX11_restore_128 : decode cX11_restore 128 = .ok (.getfield 55, 3) := by decide +kernel
theorem dX11_restore_131 : decode cX11_restore 131 = .ok (.iload_n 2, 1) := by decide +kernel
theorem dX11_restore_132 : decode cX11_restore 132 = .ok (.iload 4, 2) := by decide +kernel
theorem dX11_restore_134 : decode cX11_restore 134 = .ok (.invokevirtual 215, 3) := by decide +kernel
theorem dX11_restore_137 : decode cX11_restore 137 = .ok (.istore 5, 2) := by decide +kernel
theorem dX11_restore_139 : decode cX11_restore 139 = .ok (.aload_n 0, 1) := by decide +kernel
theorem dX11_restore_140 : decode cX11_restore 140 = .ok (.getfield 55, 3) := by decide +kernel
theorem dX11_restore_143 : decode cX11_restore 143 = .ok (.getfield 224, 3) := by decide +kernel
theorem dX11_restore_146 : decode cX11_restore 146 = .ok (.iload 5, 2) := by decide +kernel
theorem dX11_restore_148 : decode cX11_restore 148 = .ok (.aload_n 0, 1) := by decide +kernel
theorem dX11_restore_149 : decode cX11_restore 149 = .ok (.getfield 9, 3) := by decide +kernel
theorem dX11_restore_152 : decode cX11_restore 152 = .ok (.iload_n 3, 1) := by decide +kernel
theorem dX11_restore_153 : decode cX11_restore 153 = .ok (.iconst 2, 1) := by decide +kernel
theorem dX11_restore_154 : decode cX11_restore 154 = .ok (.iadd, 1) := by decide +kernel
theorem dX11_restore_155 : decode cX11_restore 155 = .ok (.iconst 2, 1) := by decide +kernel
theorem dX11_restore_156 : decode cX11_restore 156 = .ok (.iload 4, 2) := by decide +kernel
theorem dX11_restore_158 : decode cX11_restore 158 = .ok (.imul, 1) := by decide +kernel
theorem dX11_restore_159 : decode cX11_restore 159 = .ok (.iadd, 1) := by decide +kernel
theorem dX11_restore_160 : decode cX11_restore 160 = .ok (.iaload, 1) := by decide +kernel
theorem dX11_restore_161 : decode cX11_restore 161 = .ok (.iastore, 1) := by decide +kernel
theorem dX11_restore_162 : decode cX11_restore 162 = .ok (.aload_n 0, 1) := by decide +kernel
theorem dX11_restore_163 : decode cX11_restore 163 = .ok (.getfield 55, 3) := by decide +kernel
theorem dX11_restore_166 : decode cX11_restore 166 = .ok (.getfield 227, 3) := by decide +kernel
theorem dX11_restore_169 : decode cX11_restore 169 = .ok (.iload 5, 2) := by decide +kernel
theorem dX11_restore_171 : decode cX11_restore 171 = .ok (.aload_n 0, 1) := by decide +kernel
theorem dX11_restore_172 : decode cX11_restore 172 = .ok (.getfield 9, 3) := by decide +kernel
theorem dX11_restore_175 : decode cX11_restore 175 = .ok (.iload_n 3, 1) := by decide +kernel
theorem dX11_restore_176 : decode cX11_restore 176 = .ok (.iconst 3, 1) := by decide +kernel
theorem dX11_restore_177 : decode cX11_restore 177 = .ok (.iadd, 1) := by decide +kernel
theorem dX11_restore_178 : decode cX11_restore 178 = .ok (.iconst 2, 1) := by decide +kernel
theorem dX11_restore_179 : decode cX11_restore 179 = .ok (.iload 4, 2) := by decide +kernel
theorem dX11_restore_181 : decode cX11_restore 181 = .ok (.imul, 1) := by decide +kernel
theorem dX11_restore_182 : decode cX11_restore 182 = .ok (.iadd, 1) := by decide +kernel
theorem dX11_restore_183 : decode cX11_restore 183 = .ok (.iaload, 1) := by decide +kernel
theorem dX11_restore_184 : decode cX11_restore 184 = .ok (.iastore, 1) := by decide +kernel
theorem dX11_restore_185 : decode cX11_restore 185 = .ok (.iinc 4 1, 3) := by decide +kernel
theorem dX11_restore_188 : decode cX11_restore 188 = .ok (.goto (-67), 3) := by decide +kernel
theorem dX11_restore_191 : decode cX11_restore 191 = .ok (.iinc 2 1, 3) := by decide +kernel
theorem dX11_restore_194 : decode cX11_restore 194 = .ok (.goto (-132), 3) := by decide +kernel
theorem dX11_restore_197 : decode cX11_restore 197 = .ok (.aload_n 0, 1) := by decide +kernel
theorem dX11_restore_198 : decode cX11_restore 198 = .ok (.getfield 62, 3) := by decide +kernel
theorem dX11_restore_201 : decode cX11_restore 201 = .ok (.invokevirtual 141, 3) := by decide +kernel
theorem dX11_restore_204 : decode cX11_restore 204 = .ok (.aload_n 0, 1) := by decide +kernel
theorem dX11_restore_205 : decode cX11_restore 205 = .ok (.invokevirtual 144, 3) := by decide +kernel
theorem dX11_restore_208 : decode cX11_restore 208 = .ok (.iconst 1, 1) := by decide +kernel
theorem dX11_restore_209 : decode cX11_restore 209 = .ok (.ireturn, 1) := by decide +kernel
theorem dX11_isImage_0 : decode cX11_isImage 0 = .ok (.iload_n 1, 1) := by decide +kernel
theorem dX11_isImage_1 : decode cX11_isImage 1 = .ok (.bipush 6, 2) := by decide +kernel
theorem dX11_isImage_3 : decode cX11_isImage 3 = .ok (.bipush 6, 2) := by decide +kernel
theorem dX11_isImage_5 : decode cX11_isImage 5 = .ok (.aload_n 0, 1) := by decide +kernel
theorem dX11_isImage_6 : decode cX11_isImage 6 = .ok (.getfield 55, 3) := by decide +kernel
theorem dX11_isImage_9 : decode cX11_isImage 9 = .ok (.getfield 165, 3) := by decide +kernel
theorem dX11_isImage_12 : decode cX11_isImage 12 = .ok (.imul, 1) := by decide +kernel
theorem dX11_isImage_13 : decode cX11_isImage 13 = .ok (.iadd, 1) := by decide +kernel
theorem dX11_isImage_14 : decode cX11_isImage 14 = .ok (.iconst 1, 1) := by decide +kernel
theorem dX11_isImage_15 : decode cX11_isImage 15 = .ok (.iadd, 1) := by decide +kernel
theorem dX11_isImage_16 : decode cX11_isImage 16 = .ok (.if_icmp .ne 25, 3) := by decide +kernel
theorem dX11_isImage_19 : decode cX11_isImage 19 = .ok (.aload_n 0, 1) := by decide +kernel
theorem dX11_isImage_20 : decode cX11_isImage 20 = .ok (.getfield 9, 3) := by decide +kernel
theorem dX11_isImage_23 : decode cX11_isImage 23 = .ok (.iload_n 1, 1) := by decide +kernel
theorem dX11_isImage_24 : decode cX11_isImage 24 = .ok (.iconst 1, 1) := by decide +kernel
theorem dX11_isImage_25 : decode cX11_isImage 25 = .ok (.isub, 1) := by decide +kernel
theorem dX11_isImage_26 : decode cX11_isImage 26 = .ok (.iaload, 1) := by decide +kernel
theorem dX11_isImage_27 : decode cX11_isImage 27 = .ok (.aload_n 0, 1) := by decide +kernel
theorem dX11_isImage_28 : decode cX11_isImage 28 = .ok (.aload_n 0, 1) := by decide +kernel
theorem dX11_isImage_29 : decode cX11_isImage 29 = .ok (.getfield 9, 3) := by decide +kernel
theorem dX11_isImage_32 : decode cX11_isImage 32 = .ok (.iload_n 1, 1) := by decide +kernel
theorem dX11_isImage_33 : decode cX11_isImage 33 = .ok (.iconst 1, 1) := by decide +kernel
theorem dX11_isImage_34 : decode cX11_isImage 34 = .ok (.isub, 1) := by decide +kernel
theorem dX11_isImage_35 : decode cX11_isImage 35 = .ok (.invokevirtual 381, 3) := by decide +kernel
theorem dX11_isImage_38 : decode cX11_isImage 38 = .ok (.if_icmp .eq 5, 3) := by decide +kernel
theorem dX11_isImage_41 : decode cX11_isImage 41 = .ok (.iconst 0, 1) := by decide +kernel
theorem dX11_isImage_42 : decode cX11_isImage 42 = .ok (.ireturn, 1) := by decide +kernel
theorem dX11_isImage_43 : decode cX11_isImage 43 = .ok (.aload_n 0, 1) := by decide +kernel
theorem dX11_isImage_44 : decode cX11_isImage 44 = .ok (.iconst 0, 1) := by decide +kernel
theorem dX11_isImage_45 : decode cX11_isImage 45 = .ok (.invokevirtual 388, 3) := by decide +kernel
theorem dX11_isImage_48 : decode cX11_isImage 48 = .ok (.sipush 9999, 3) := by decide +kernel
theorem dX11_isImage_51 : decode cX11_isImage 51 = .ok (.if_icmp .gt 25, 3) := by decide +kernel
theorem dX11_isImage_54 : decode cX11_isImage 54 = .ok (.aload_n 0, 1) := by decide +kernel
theorem dX11_isImage_55 : decode cX11_isImage 55 = .ok (.iconst 2, 1) := by decide +kernel
theorem dX11_isImage_56 : decode cX11_isImage 56 = .ok (.invokevirtual 388, 3) := by decide +kernel
theorem dX11_isImage_59 : decode cX11_isImage 59 = .ok (.sipush 9999, 3) := by decide +kernel
theorem dX11_isImage_62 : decode cX11_isImage 62 = .ok (.if_icmp .gt 14, 3) := by decide +kernel
theorem dX11_isImage_65 : decode cX11_isImage 65 = .ok (.aload_n 0, 1) := by decide +kernel
theorem dX11_isImage_66 : decode cX11_isImage 66 = .ok (.iconst 4, 1) := by decide +kernel
theorem dX11_isImage_67 : decode cX11_isImage 67 = .ok (.invokevirtual 388, 3) := by decide +kernel
theorem dX11_isImage_70 : decode cX11_isImage 70 = .ok (.sipush 9999, 3) := by decide +kernel
theorem dX11_isImage_73 : decode cX11_isImage 73 = .ok (.if_icmp .le 5, 3) := by decide +kernel
theorem dX11_isImage_76 : decode cX11_isImage 76 = .ok (.iconst 0, 1) := by decide +kernel
theorem dX11_isImage_77 : decode cX11_isImage 77 = .ok (.ireturn, 1) := by decide +kernel
theorem dX11_isImage_78 : decode cX11_isImage 78 = .ok (.iconst 0, 1) := by decide +kernel
theorem dX11_isImage_79 : decode cX11_isImage 79 = .ok (.istore_n 2, 1) := by decide +kernel
theorem dX11_isImage_80 : decode cX11_isImage 80 = .ok (.iconst 0, 1) := by decide +kernel
theorem dX11_isImage_81 : decode cX11_isImage 81 = .ok (.istore_n 3, 1) := by decide +kernel
theorem dX11_isImage_82 : decode cX11_isImage 82 = .ok (.iload_n 3, 1) := by decide +kernel
theorem dX11_isImage_83 : decode cX11_isImage 83 = .ok (.aload_n 0, 1) := by decide +kernel
theorem dX11_isImage_84 : decode cX11_isImage 84 = .ok (.getfield 55, 3) := by decide +kernel
theorem dX11_isImage_87 : decode cX11_isImage 87 = .ok (.getfield 165, 3) := by decide +kernel
theorem dX11_isImage_90 : decode cX11_isImage 90 = .ok (.if_icmp .ge 56, 3) := by decide +kernel
theorem dX11_isImage_93 : decode cX11_isImage 93 = .ok (.bipush 6, 2) := by decide +kernel
theorem dX11_isImage_95 : decode cX11_isImage 95 = .ok (.bipush 6, 2) := by decide +kernel
theorem dX11_isImage_97 : decode cX11_isImage 97 = .ok (.iload_n 3, 1) := by decide +kernel
theorem dX11_isImage_98 : decode cX11_isImage 98 = .ok (.imul, 1) := by decide +kernel
theorem dX11_isImage_99 : decode cX11_isImage 99 = .ok (.iadd, 1) := by decide +kernel
theorem dX11_isImage_100 : decode cX11_isImage 100 = .ok (.istore 4, 2) := by decide +kernel
theorem dX11_isImage_102 : decode cX11_isImage 102 = .ok (.aload_n 0, 1) := by decide +kernel
theorem dX11_isImage_103 : decode cX11_isImage 103 = .ok (.iload 4, 2) := by decide +kernel
theorem dX11_isImage_105 : decode cX11_isImage 105 = .ok (.invokevirtual 391, 3) := by decide +kernel
theorem dX11_isImage_108 : decode cX11_isImage 108 = .ok (.ifCond .eq 18, 3) := by decide +kernel
theorem dX11_isImage_111 : decode cX11_isImage 111 = .ok (.iload_n 2, 1) := by decide +kernel
theorem dX11_isImage_112 : decode cX11_isImage 112 = .ok (.aload_n 0, 1) := by decide +kernel
theorem dX11_isImage_113 : decode cX11_isImage 113 = .ok (.getfield 9, 3) := by decide +kernel
theorem dX11_isImage_116 : decode cX11_isImage 116 = .ok (.iload 4, 2) := by decide +kernel
theorem dX11_isImage_118 : decode cX11_isImage 118 = .ok (.iaload, 1) := by decide +kernel
theorem dX11_isImage_119 : decode cX11_isImage 119 = .ok (.ishr, 1) := by decide +kernel
theorem dX11_isImage_120 : decode cX11_isImage 120 = .ok (.iconst 1, 1) := by decide +kernel
theorem dX11_isImage_121 : decode cX11_isImage 121 = .ok (.iand, 1) := by decide +kernel
theorem dX11_isImage_122 : decode cX11_isImage 122 = .ok (.iconst 1, 1) := by decide +kernel
theorem dX11_isImage_123 : decode cX11_isImage 123 = .ok (.if_icmp .ne 5, 3) := by decide +kernel
theorem dX11_isImage_126 : decode cX11_isImage 126 = .ok (.iconst 0, 1) := by decide +kernel
theorem dX11_isImage_127 : decode cX11_isImage 127 = .ok (.ireturn, 1) := by decide +kernel
theorem dX11_isImage_128 : decode cX11_isImage 128 = .ok (.iload_n 2, 1) := by decide +kernel
theorem dX11_isImage_129 : decode cX11_isImage 129 = .ok (.iconst 1, 1) := by decide +kernel
theorem dX11_isImage_130 : decode cX11_isImage 130 = .ok (.aload_n 0, 1) := by decide +kernel
theorem dX11_isImage_131 : decode cX11_isImage 131 = .ok (.getfield 9, 3) := by decide +kernel
theorem dX11_isImage_134 : decode cX11_isImage 134 = .ok (.iload 4, 2) := by decide +kernel
theorem dX11_isImage_136 : decode cX11_isImage 136 = .ok (.iaload, 1) := by decide +kernel
theorem dX11_isImage_137 : decode cX11_isImage 137 = .ok (.ishl, 1) := by decide +kernel
theorem dX11_isImage_138 : decode cX11_isImage 138 = .ok (.ior, 1) := by decide +kernel
theorem dX11_isImage_139 : decode cX11_isImage 139 = .ok (.istore_n 2, 1) := by decide +kernel
theorem dX11_isImage_140 : decode cX11_isImage 140 = .ok (.iinc 3 1, 3) := by decide +kernel
theorem dX11_isImage_143 : decode cX11_isImage 143 = .ok (.goto (-61), 3) := by decide +kernel
theorem dX11_isImage_146 : decode cX11_isImage 146 = .ok (.iconst 1, 1) := by decide +kernel
theorem dX11_isImage_147 : decode cX11_isImage 147 = .ok (.ireturn, 1) := by decide +kernel
theorem dX11_isSitting_0 : decode cX11_isSitting 0 = .ok (.aload_n 0, 1) := by decide +kernel
theorem dX11_isSitting_1 : decode cX11_isSitting 1 = .ok (.getfield 9, 3) := by decide +kernel
theorem dX11_isSitting_4 : decode cX11_isSitting 4 = .ok (.iload_n 1, 1) := by decide +kernel
theorem dX11_isSitting_5 : decode cX11_isSitting 5 = .ok (.iaload, 1) := by decide +kernel
theorem dX11_isSitting_6 : decode cX11_isSitting 6 = .ok (.aload_n 0, 1) := by decide +kernel
theorem dX11_isSitting_7 : decode cX11_isSitting 7 = .ok (.getfield 55, 3) := by decide +kernel
theorem dX11_isSitting_10 : decode cX11_isSitting 10 = .ok (.getfield 165, 3) := by decide +kernel
theorem dX11_isSitting_13 : decode cX11_isSitting 13 = .ok (.if_icmp .ge 70, 3) := by decide +kernel
theorem dX11_isSitting_16 : decode cX11_isSitting 16 = .ok (.aload_n 0, 1) := by decide +kernel
theorem dX11_isSitting_17 : decode cX11_isSitting 17 = .ok (.getfield 9, 3) := by decide +kernel
theorem dX11_isSitting_20 : decode cX11_isSitting 20 = .ok (.iload_n 1, 1) := by decide +kernel
theorem dX11_isSitting_21 : decode cX11_isSitting 21 = .ok (.iconst 1, 1) := by decide +kernel
theorem dX11_isSitting_22 : decode cX11_isSitting 22 = .ok (.iadd, 1) := by decide +kernel
theorem dX11_isSitting_23 : decode cX11_isSitting 23 = .ok (.iaload, 1) := by decide +kernel
theorem dX11_isSitting_24 : decode cX11_isSitting 24 = .ok (.bipush 99, 2) := by decide +kernel
theorem dX11_isSitting_26 : decode cX11_isSitting 26 = .ok (.if_icmp .gt 57, 3) := by decide +kernel
theorem dX11_isSitting_29 : decode cX11_isSitting 29 = .ok (.aload_n 0, 1) := by decide +kernel
theorem dX11_isSitting_30 : decode cX11_isSitting 30 = .ok (.getfield 9, 3) := by decide +kernel
theorem dX11_isSitting_33 : decode cX11_isSitting 33 = .ok (.iload_n 1, 1) := by decide +kernel
theorem dX11_isSitting_34 : decode cX11_isSitting 34 = .ok (.iconst 2, 1) := by decide +kernel
theorem dX11_isSitting_35 : decode cX11_isSitting 35 = .ok (.iadd, 1) := by decide +kernel
theorem dX11_isSitting_36 : decode cX11_isSitting 36 = .ok (.iaload, 1) := by decide +kernel
theorem dX11_isSitting_37 : decode cX11_isSitting 37 = .ok (.iconst 2, 1) := by decide +kernel
theorem dX11_isSitting_38 : decode cX11_isSitting 38 = .ok (.if_icmp .gt 45, 3) := by decide +kernel
theorem dX11_isSitting_41 : decode cX11_isSitting 41 = .ok (.aload_n 0, 1) := by decide +kernel
theorem dX11_isSitting_42 : decode cX11_isSitting 42 = .ok (.getfield 9, 3) := by decide +kernel
theorem dX11_isSitting_45 : decode cX11_isSitting 45 = .ok (.iload_n 1, 1) := by decide +kernel
theorem dX11_isSitting_46 : decode cX11_isSitting 46 = .ok (.iconst 3, 1) := by decide +kernel
theorem dX11_isSitting_47 : decode cX11_isSitting 47 = .ok (.iadd, 1) := by decide +kernel
theorem dX11_isSitting_48 : decode cX11_isSitting 48 = .ok (.iaload, 1) := by decide +kernel
theorem dX11_isSitting_49 : decode cX11_isSitting 49 = .ok (.bipush 9, 2) := by decide +kernel
theorem dX11_isSitting_51 : decode cX11_isSitting 51 = .ok (.if_icmp .gt 32, 3) := by decide +kernel
theorem dX11_isSitting_54 : decode cX11_isSitting 54 = .ok (.aload_n 0, 1) := by decide +kernel
theorem dX11_isSitting_55 : decode cX11_isSitting 55 = .ok (.getfield 9, 3) := by decide +kernel
theorem dX11_isSitting_58 : decode cX11_isSitting 58 = .ok (.iload_n 1, 1) := by decide +kernel
theorem dX11_isSitting_59 : decode cX11_isSitting 59 = .ok (.iconst 4, 1) := by decide +kernel
theorem dX11_isSitting_60 : decode cX11_isSitting 60 = .ok (.iadd, 1) := by decide +kernel
theorem dX11_isSitting_61 : decode cX11_isSitting 61 = .ok (.iaload, 1) := by decide +kernel
theorem dX11_isSitting_62 : decode cX11_isSitting 62 = .ok (.iconst 2, 1) := by decide +kernel
theorem dX11_isSitting_63 : decode cX11_isSitting 63 = .ok (.if_icmp .gt 20, 3) := by decide +kernel
theorem dX11_isSitting_66 : decode cX11_isSitting 66 = .ok (.aload_n 0, 1) := by decide +kernel
theorem dX11_isSitting_67 : decode cX11_isSitting 67 = .ok (.getfield 9, 3) := by decide +kernel
theorem dX11_isSitting_70 : decode cX11_isSitting 70 = .ok (.iload_n 1, 1) := by decide +kernel
theorem dX11_isSitting_71 : decode cX11_isSitting 71 = .ok (.iconst 5, 1) := by decide +kernel
theorem dX11_isSitting_72 : decode cX11_isSitting 72 = .ok (.iadd, 1) := by decide +kernel
theorem dX11_isSitting_73 : decode cX11_isSitting 73 = .ok (.iaload, 1) := by decide +kernel
theorem dX11_isSitting_74 : decode cX11_isSitting 74 = .ok (.bipush 9, 2) := by decide +kernel
theorem dX11_isSitting_76 : decode cX11_isSitting 76 = .ok (.if_icmp .gt 7, 3) := by decide +kernel
theorem dX11_isSitting_79 : decode cX11_isSitting 79 = .ok (.iconst 1, 1) := by decide +kernel
theorem dX11_isSitting_80 : decode cX11_isSitting 80 = .ok (.goto 4, 3) := by decide +kernel
theorem dX11_isSitting_83 : decode cX11_isSitting 83 = .ok (.iconst 0, 1) := by decide +kernel
theorem dX11_isSitting_84 : decode cX11_isSitting 84 = .ok (.ireturn, 1) := by decide +kernel
theorem dX11_two_0 : decode cX11_two 0 = .ok (.sipush 256, 3) := by decide +kernel
theorem dX11_two_3 : decode cX11_two 3 = .ok (.aload_n 0, 1) := by decide +kernel
theorem dX11_two_4 : decode cX11_two 4 = .ok (.getfield 9, 3) := by decide +kernel
theorem dX11_two_7 : decode cX11_two 7 = .ok (.iload_n 1, 1) := by decide +kernel
theorem dX11_two_8 : decode cX11_two 8 = .ok (.iaload, 1) := by decide +kernel
theorem dX11_two_9 : decode cX11_two 9 = .ok (.imul, 1) := by decide +kernel
theorem dX11_two_10 : decode cX11_two 10 = .ok (.aload_n 0, 1) := by decide +kernel
theorem dX11_two_11 : decode cX11_two 11 = .ok (.getfield 9, 3) := by decide +kernel
theorem dX11_two_14 : decode cX11_two 14 = .ok (.iload_n 1, 1) := by decide +kernel
theorem dX11_two_15 : decode cX11_two 15 = .ok (.iconst 1, 1) := by decide +kernel
theorem dX11_two_16 : decode cX11_two 16 = .ok (.iadd, 1) := by decide +kernel
theorem dX11_two_17 : decode cX11_two 17 = .ok (.iaload, 1) := by decide +kernel
theorem dX11_two_18 : decode cX11_two 18 = .ok (.iadd, 1) := by decide +kernel
theorem dX11_two_19 : decode cX11_two 19 = .ok (.ireturn, 1) := by decide +kernel
theorem dX11_status_0 : decode cX11_status 0 = .ok (.iload_n 1, 1) := by decide +kernel
theorem dX11_status_1 : decode cX11_status 1 = .ok (.ifCond .lt 18, 3) := by decide +kernel
theorem dX11_status_4 : decode cX11_status 4 = .ok (.iload_n 1, 1) := by decide +kernel
theorem dX11_status_5 : decode cX11_status 5 = .ok (.bipush 6, 2) := by decide +kernel
theorem dX11_status_7 : decode cX11_status 7 = .ok (.if_icmp .ge 12, 3) := by decide +kernel
theorem dX11_status_10 : decode cX11_status 10 = .ok (.aload_n 0, 1) := by decide +kernel
theorem dX11_status_11 : decode cX11_status 11 = .ok (.getfield 113, 3) := by decide +kernel
theorem dX11_status_14 : decode cX11_status 14 = .ok (.iload_n 1, 1) := by decide +kernel
theorem dX11_status_15 : decode cX11_status 15 = .ok (.iaload, 1) := by decide +kernel
theorem dX11_status_16 : decode cX11_status 16 = .ok (.goto 4, 3) := by decide +kernel
theorem dX11_status_19 : decode cX11_status 19 = .ok (.iconst (-1), 1) := by decide +kernel
theorem dX11_status_20 : decode cX11_status 20 = .ok (.ireturn, 1) := by decide +kernel
theorem dJ6_bitCount_0f7a4_0 : decode cJ6_bitCount_0f7a4 0 = .ok (.iload_n 0, 1) := by decide +kernel
theorem dJ6_bitCount_0f7a4_1 : decode cJ6_bitCount_0f7a4 1 = .ok (.iload_n 0, 1) := by decide +kernel
theorem dJ6_bitCount_0f7a4_2 : decode cJ6_bitCount_0f7a4 2 = .ok (.iconst 1, 1) := by decide +kernel
theorem dJ6_bitCount_0f7a4_3 : decode cJ6_bitCount_0f7a4 3 = .ok (.iushr, 1) := by decide +kernel
theorem dJ6_bitCount_0f7a4_4 : decode cJ6_bitCount_0f7a4 4 = .ok (.ldc_w 265, 3) := by decide +kernel
theorem dJ6_bitCount_0f7a4_7 : decode cJ6_bitCount_0f7a4 7 = .ok (.iand, 1) := by decide +kernel
theorem dJ6_bitCount_0f7a4_8 : decode cJ6_bitCount_0f7a4 8 = .ok (.isub, 1) := by decide +kernel
theorem dJ6_bitCount_0f7a4_9 : decode cJ6_bitCount_0f7a4 9 = .ok (.istore_n 0, 1) := by decide +kernel
theorem dJ6_bitCount_0f7a4_10 : decode cJ6_bitCount_0f7a4 10 = .ok (.iload_n 0, 1) := by decide +kernel
theorem dJ6_bitCount_0f7a4_11 : decode cJ6_bitCount_0f7a4 11 = .ok (.ldc_w 266, 3) := by decide +kernel
theorem dJ6_bitCount_0f7a4_14 : decode cJ6_bitCount_0f7a4 14 = .ok (.iand, 1) := by decide +kernel
theorem dJ6_bitCount_0f7a4_15 : decode cJ6_bitCount_0f7a4 15 = .ok (.iload_n 0, 1) := by decide +kernel
theorem dJ6_bitCount_0f7a4_16 : decode cJ6_bitCount_0f7a4 16 = .ok (.iconst 2, 1) := by decide +kernel
theorem dJ6_bitCount_0f7a4_17 : decode cJ6_bitCount_0f7a4 17 = .ok (.iushr, 1) := by decide +kernel
theorem dJ6_bitCount_0f7a4_18 : decode cJ6_bitCount_0f7a4 18 = .ok (.ldc_w 266, 3) := by decide +kernel
theorem dJ6_bitCount_0f7a4_21 : decode cJ6_bitCount_0f7a4 21 = .ok (.iand, 1) := by decide +kernel
theorem dJ6_bitCount_0f7a4_22 : decode cJ6_bitCount_0f7a4 22 = .ok (.iadd, 1) := by decide +kernel
theorem dJ6_bitCount_0f7a4_23 : decode cJ6_bitCount_0f7a4 23 = .ok (.istore_n 0, 1) := by decide +kernel
theorem dJ6_bitCount_0f7a4_24 : decode cJ6_bitCount_0f7a4 24 = .ok (.iload_n 0, 1) := by decide +kernel
theorem dJ6_bitCount_0f7a4_25 : decode cJ6_bitCount_0f7a4 25 = .ok (.iload_n 0, 1) := by decide +kernel
theorem dJ6_bitCount_0f7a4_26 : decode cJ6_bitCount_0f7a4 26 = .ok (.iconst 4, 1) := by decide +kernel
theorem dJ6_bitCount_0f7a4_27 : decode cJ6_bitCount_0f7a4 27 = .ok (.iushr, 1) := by decide +kernel
theorem dJ6_bitCount_0f7a4_28 : decode cJ6_bitCount_0f7a4 28 = .ok (.iadd, 1) := by decide +kernel
theorem dJ6_bitCount_0f7a4_29 : decode cJ6_bitCount_0f7a4 29 = .ok (.ldc_w 267, 3) := by decide +kernel
theorem dJ6_bitCount_0f7a4_32 : decode cJ6_bitCount_0f7a4 32 = .ok (.iand, 1) := by decide +kernel
theorem dJ6_bitCount_0f7a4_33 : decode cJ6_bitCount_0f7a4 33 = .ok (.istore_n 0, 1) := by decide +kernel
theorem dJ6_bitCount_0f7a4_34 : decode cJ6_bitCount_0f7a4 34 = .ok (.iload_n 0, 1) := by decide +kernel
theorem dJ6_bitCount_0f7a4_35 : decode cJ6_bitCount_0f7a4 35 = .ok (.iload_n 0, 1) := by decide +kernel
theorem dJ6_bitCount_0f7a4_36 : decode cJ6_bitCount_0f7a4 36 = .ok (.bipush 8, 2) := by decide +kernel
theorem dJ6_bitCount_0f7a4_38 : decode cJ6_bitCount_0f7a4 38 = .ok (.iushr, 1) := by decide +kernel
theorem dJ6_bitCount_0f7a4_39 : decode cJ6_bitCount_0f7a4 39 = .ok (.iadd, 1) := by decide +kernel
theorem dJ6_bitCount_0f7a4_40 : decode cJ6_bitCount_0f7a4 40 = .ok (.istore_n 0, 1) := by decide +kernel
theorem dJ6_bitCount_0f7a4_41 : decode cJ6_bitCount_0f7a4 41 = .ok (.iload_n 0, 1) := by decide +kernel
theorem dJ6_bitCount_0f7a4_42 : decode cJ6_bitCount_0f7a4 42 = .ok (.iload_n 0, 1) := by decide +kernel
theorem dJ6_bitCount_0f7a4_43 : decode cJ6_bitCount_0f7a4 43 = .ok (.bipush 16, 2) := by decide +kernel
theorem dJ6_bitCount_0f7a4_45 : decode cJ6_bitCount_0f7a4 45 = .ok (.iushr, 1) := by decide +kernel
theorem dJ6_bitCount_0f7a4_46 : decode cJ6_bitCount_0f7a4 46 = .ok (.iadd, 1) := by decide +kernel
theorem dJ6_bitCount_0f7a4_47 : decode cJ6_bitCount_0f7a4 47 = .ok (.istore_n 0, 1) := by decide +kernel
theorem dJ6_bitCount_0f7a4_48 : decode cJ6_bitCount_0f7a4 48 = .ok (.iload_n 0, 1) := by decide +kernel
theorem dJ6_bitCount_0f7a4_49 : decode cJ6_bitCount_0f7a4 49 = .ok (.bipush 63, 2) := by decide +kernel
theorem dJ6_bitCount_0f7a4_51 : decode cJ6_bitCount_0f7a4 51 = .ok (.iand, 1) := by decide +kernel
theorem dJ6_bitCount_0f7a4_52 : decode cJ6_bitCount_0f7a4 52 = .ok (.ireturn, 1) := by decide +kernel
theorem dJ9_floorDiv_7cf53_0 : decode cJ9_floorDiv_7cf53 0 = .ok (.iload_n 0, 1) := by decide +kernel
theorem dJ9_floorDiv_7cf53_1 : decode cJ9_floorDiv_7cf53 1 = .ok (.iload_n 1, 1) := by decide +kernel
theorem dJ9_floorDiv_7cf53_2 : decode cJ9_floorDiv_7cf53 2 = .ok (.idiv, 1) := by decide +kernel
theorem dJ9_floorDiv_7cf53_3 : decode cJ9_floorDiv_7cf53 3 = .ok (.istore_n 2, 1) := by decide +kernel
theorem dJ9_floorDiv_7cf53_4 : decode cJ9_floorDiv_7cf53 4 = .ok (.iload_n 0, 1) := by decide +kernel
theorem dJ9_floorDiv_7cf53_5 : decode cJ9_floorDiv_7cf53 5 = .ok (.iload_n 1, 1) := by decide +kernel
theorem dJ9_floorDiv_7cf53_6 : decode cJ9_floorDiv_7cf53 6 = .ok (.ixor, 1) := by decide +kernel
theorem dJ9_floorDiv_7cf53_7 : decode cJ9_floorDiv_7cf53 7 = .ok (.ifCond .ge 14, 3) := by decide +kernel
theorem dJ9_floorDiv_7cf53_10 : decode cJ9_floorDiv_7cf53 10 = .ok (.iload_n 2, 1) := by decide +kernel
theorem dJ9_floorDiv_7cf53_11 : decode cJ9_floorDiv_7cf53 11 = .ok (.iload_n 1, 1) := by decide +kernel
theorem dJ9_floorDiv_7cf53_12 : decode cJ9_floorDiv_7cf53 12 = .ok (.imul, 1) := by decide +kernel
theorem dJ9_floorDiv_7cf53_13 : decode cJ9_floorDiv_7cf53 13 = .ok (.iload_n 0, 1) := by decide +kernel
theorem dJ9_floorDiv_7cf53_14 : decode cJ9_floorDiv_7cf53 14 = .ok (.if_icmp .eq 7, 3) := by decide +kernel
theorem dJ9_floorDiv_7cf53_17 : decode cJ9_floorDiv_7cf53 17 = .ok (.iload_n 2, 1) := by decide +kernel
theorem dJ9_floorDiv_7cf53_18 : decode cJ9_floorDiv_7cf53 18 = .ok (.iconst 1, 1) := by decide +kernel
theorem dJ9_floorDiv_7cf53_19 : decode cJ9_floorDiv_7cf53 19 = .ok (.isub, 1) := by decide +kernel
theorem dJ9_floorDiv_7cf53_20 : decode cJ9_floorDiv_7cf53 20 = .ok (.ireturn, 1) := by decide +kernel
theorem dJ9_floorDiv_7cf53_21 : decode cJ9_floorDiv_7cf53 21 = .ok (.iload_n 2, 1) := by decide +kernel
theorem dJ9_floorDiv_7cf53_22 : decode cJ9_floorDiv_7cf53 22 = .ok (.ireturn, 1) := by decide +kernel
theorem dJ9_abs_0f7a4_0 : decode cJ9_abs_0f7a4 0 = .ok (.iload_n 0, 1) := by decide +kernel
theorem dJ9_abs_0f7a4_1 : decode cJ9_abs_0f7a4 1 = .ok (.ifCond .ge 8, 3) := by decide +kernel
theorem dJ9_abs_0f7a4_4 : decode cJ9_abs_0f7a4 4 = .ok (.iload_n 0, 1) := by decide +kernel
theorem dJ9_abs_0f7a4_5 : decode cJ9_abs_0f7a4 5 = .ok (.ineg, 1) := by decide +kernel
theorem dJ9_abs_0f7a4_6 : decode cJ9_abs_0f7a4 6 = .ok (.goto 4, 3) := by decide +kernel
theorem dJ9_abs_0f7a4_9 : decode cJ9_abs_0f7a4 9 = .ok (.iload_n 0, 1) := by decide +kernel
theorem dJ9_abs_0f7a4_10 : decode cJ9_abs_0f7a4 10 = .ok (.ireturn, 1) := by decide +kernel
theorem dJ9_max_7cf53_0 : decode cJ9_max_7cf53 0 = .ok (.iload_n 0, 1) := by decide +kernel
theorem dJ9_max_7cf53_1 : decode cJ9_max_7cf53 1 = .ok (.iload_n 1, 1) := by decide +kernel
theorem dJ9_max_7cf53_2 : decode cJ9_max_7cf53 2 = .ok (.if_icmp .lt 7, 3) := by decide +kernel
theorem dJ9_max_7cf53_5 : decode cJ9_max_7cf53 5 = .ok (.iload_n 0, 1) := by decide +kernel
theorem dJ9_max_7cf53_6 : decode cJ9_max_7cf53 6 = .ok (.goto 4, 3) := by decide +kernel
theorem dJ9_max_7cf53_9 : decode cJ9_max_7cf53 9 = .ok (.iload_n 1, 1) := by decide +kernel
theorem dJ9_max_7cf53_10 : decode cJ9_max_7cf53 10 = .ok (.ireturn, 1) := by decide +kernel
theorem dJ9_min_7cf53_0 : decode cJ9_min_7cf53 0 = .ok (.iload_n 0, 1) := by decide +kernel
theorem dJ9_min_7cf53_1 : decode cJ9_min_7cf53 1 = .ok (.iload_n 1, 1) := by decide +kernel
theorem dJ9_min_7cf53_2 : decode cJ9_min_7cf53 2 = .ok (.if_icmp .gt 7, 3) := by decide +kernel
theorem dJ9_min_7cf53_5 : decode cJ9_min_7cf53 5 = .ok (.iload_n 0, 1) := by decide +kernel
theorem dJ9_min_7cf53_6 : decode cJ9_min_7cf53 6 = .ok (.goto 4, 3) := by decide +kernel
theorem dJ9_min_7cf53_9 : decode cJ9_min_7cf53 9 = .ok (.iload_n 1, 1) := by decide +kernel
theorem dJ9_min_7cf53_10 : decode cJ9_min_7cf53 10 = .ok (.ireturn, 1) := by decide +kernel
theorem dJ0_length_8abf5_0 : decode cJ0_length_8abf5 0 = .ok (.aload_n 0, 1) := by decide +kernel
theorem dJ0_length_8abf5_1 : decode cJ0_length_8abf5 1 = .ok (.getfield 9, 3) := by decide +kernel
theorem dJ0_length_8abf5_4 : decode cJ0_length_8abf5 4 = .ok (.arraylength, 1) := by decide +kernel
theorem dJ0_length_8abf5_5 : decode cJ0_length_8abf5 5 = .ok (.aload_n 0, 1) := by decide +kernel
theorem dJ0_length_8abf5_6 : decode cJ0_length_8abf5 6 = .ok (.invokevirtual 335, 3) := by decide +kernel
theorem dJ0_length_8abf5_9 : decode cJ0_length_8abf5 9 = .ok (.ishr, 1) := by decide +kernel
theorem dJ0_length_8abf5_10 : decode cJ0_length_8abf5 10 = .ok (.ireturn, 1) := by decide +kernel
theorem dJ0_charAt_5068e_0 : decode cJ0_charAt_5068e 0 = .ok (.aload_n 0, 1) := by decide +kernel
theorem dJ0_charAt_5068e_1 : decode cJ0_charAt_5068e 1 = .ok (.invokevirtual 492, 3) := by decide +kernel
theorem dJ0_charAt_5068e_4 : decode cJ0_charAt_5068e 4 = .ok (.ifCond .eq 12, 3) := by decide +kernel
theorem dJ0_charAt_5068e_7 : decode cJ0_charAt_5068e 7 = .ok (.aload_n 0, 1) := by decide +kernel
theorem dJ0_charAt_5068e_8 : decode cJ0_charAt_5068e 8 = .ok (.getfield 9, 3) := by decide +kernel
theorem dJ0_charAt_5068e_11 : decode cJ0_charAt_5068e 11 = .ok (.iload_n 1, 1) := by decide +kernel
theorem dJ0_charAt_5068e_12 : decode cJ0_charAt_5068e 12 = .ok (.invokestatic 495, 3) := by decide +kernel
theorem dJ0_charAt_5068e_15 : decode cJ0_charAt_5068e 15 = .ok (.ireturn, 1) := by decide +kernel
theorem dJ0_charAt_5068e_16 : decode cJ0_charAt_5068e 16 = .ok (.aload_n 0, 1) := by decide +kernel
theorem dJ0_charAt_5068e_17 : decode cJ0_charAt_5068e 17 = .ok (.getfield 9, 3) := by decide +kernel
theorem dJ0_charAt_5068e_20 : decode cJ0_charAt_5068e 20 = .ok (.iload_n 1, 1) := by decide +kernel
theorem dJ0_charAt_5068e_21 : decode cJ0_charAt_5068e 21 = .ok (.invokestatic 498, 3) := by decide +kernel
theorem dJ0_charAt_5068e_24 : decode cJ0_charAt_5068e 24 = .ok (.ireturn, 1) := by decide +kernel
theorem dJ0_coder_7d493_0 : decode cJ0_coder_7d493 0 = .ok (.getstatic 38, 3) := by decide +kernel
theorem dJ0_coder_7d493_3 : decode cJ0_coder_7d493 3 = .ok (.ifCond .eq 10, 3) := by decide +kernel
theorem dJ0_coder_7d493_6 : decode cJ0_coder_7d493 6 = .ok (.aload_n 0, 1) := by decide +kernel
theorem dJ0_coder_7d493_7 : decode cJ0_coder_7d493 7 = .ok (.getfield 15, 3) := by decide +kernel
theorem dJ0_coder_7d493_10 : decode cJ0_coder_7d493 10 = .ok (.goto 4, 3) := by decide +kernel
theorem dJ0_coder_7d493_13 : decode cJ0_coder_7d493 13 = .ok (.iconst 1, 1) := by decide +kernel
theorem dJ0_coder_7d493_14 : decode cJ0_coder_7d493 14 = .ok (.ireturn, 1) := by decide +kernel
theorem dJ0_isLatin1_aae02_0 : decode cJ0_isLatin1_aae02 0 = .ok (.getstatic 38, 3) := by decide +kernel
theorem dJ0_isLatin1_aae02_3 : decode cJ0_isLatin1_aae02 3 = .ok (.ifCond .eq 14, 3) := by decide +kernel
theorem dJ0_isLatin1_aae02_6 : decode cJ0_isLatin1_aae02 6 = .ok (.aload_n 0, 1) := by decide +kernel
theorem dJ0_isLatin1_aae02_7 : decode cJ0_isLatin1_aae02 7 = .ok (.getfield 15, 3) := by decide +kernel
theorem dJ0_isLatin1_aae02_10 : decode cJ0_isLatin1_aae02 10 = .ok (.ifCond .ne 7, 3) := by decide +kernel
theorem dJ0_isLatin1_aae02_13 : decode cJ0_isLatin1_aae02 13 = .ok (.iconst 1, 1) := by decide +kernel
theorem dJ0_isLatin1_aae02_14 : decode cJ0_isLatin1_aae02 14 = .ok (.goto 4, 3) := by decide +kernel
theorem dJ0_isLatin1_aae02_17 : decode cJ0_isLatin1_aae02 17 = .ok (.iconst 0, 1) := by decide +kernel
theorem dJ0_isLatin1_aae02_18 : decode cJ0_isLatin1_aae02 18 = .ok (.ireturn, 1) := by decide +kernel
theorem dJ0_checkIndex_df160_0 : decode cJ0_checkIndex_df160 0 = .ok (.iload_n 0, 1) := by decide +kernel
theorem dJ0_checkIndex_df160_1 : decode cJ0_checkIndex_df160 1 = .ok (.iload_n 1, 1) := by decide +kernel
theorem dJ0_checkIndex_df160_2 : decode cJ0_checkIndex_df160 2 = .ok (.getstatic 1053, 3) := by decide +kernel
theorem dJ0_checkIndex_df160_5 : decode cJ0_checkIndex_df160 5 = .ok (.invokestatic 1059, 3) := by decide +kernel
theorem dJ0_checkIndex_df160_8 : decode cJ0_checkIndex_df160 8 = .ok (.pop, 1) := by decide +kernel
theorem dJ0_checkIndex_df160_9 : decode cJ0_checkIndex_df160 9 = .ok (.return_, 1) := by decide +kernel
theorem dJ1_charAt_3b067_0 : decode cJ1_charAt_3b067 0 = .ok (.iload_n 1, 1) := by decide +kernel
theorem dJ1_charAt_3b067_1 : decode cJ1_charAt_3b067 1 = .ok (.aload_n 0, 1) := by decide +kernel
theorem dJ1_charAt_3b067_2 : decode cJ1_charAt_3b067 2 = .ok (.arraylength, 1) := by decide +kernel
theorem dJ1_charAt_3b067_3 : decode cJ1_charAt_3b067 3 = .ok (.invokestatic 9, 3) := by decide +kernel
theorem dJ1_charAt_3b067_6 : decode cJ1_charAt_3b067 6 = .ok (.aload_n 0, 1) := by decide +kernel
theorem dJ1_charAt_3b067_7 : decode cJ1_charAt_3b067 7 = .ok (.iload_n 1, 1) := by decide +kernel
theorem dJ1_charAt_3b067_8 : decode cJ1_charAt_3b067 8 = .ok (.baload, 1) := by decide +kernel
theorem dJ1_charAt_3b067_9 : decode cJ1_charAt_3b067 9 = .ok (.sipush 255, 3) := by decide +kernel
theorem dJ1_charAt_3b067_12 : decode cJ1_charAt_3b067 12 = .ok (.iand, 1) := by decide +kernel
theorem dJ1_charAt_3b067_13 : decode cJ1_charAt_3b067 13 = .ok (.i2c, 1) := by decide +kernel
theorem dJ1_charAt_3b067_14 : decode cJ1_charAt_3b067 14 = .ok (.ireturn, 1) := by decide +kernel
theorem dJ2_getChar_3b067_0 : decode cJ2_getChar_3b067 0 = .ok (.getstatic 44, 3) := by decide +kernel
theorem dJ2_getChar_3b067_3 : decode cJ2_getChar_3b067 3 = .ok (.ifCond .ne 25, 3) := by decide +kernel
theorem dJ2_getChar_3b067_6 : decode cJ2_getChar_3b067 6 = .ok (.iload_n 1, 1) := by decide +kernel
theorem dJ2_getChar_3b067_7 : decode cJ2_getChar_3b067 7 = .ok (.ifCond .lt 11, 3) := by decide +kernel
theorem dJ2_getChar_3b067_10 : decode cJ2_getChar_3b067 10 = .ok (.iload_n 1, 1) := by decide +kernel
theorem dJ2_getChar_3b067_11 : decode cJ2_getChar_3b067 11 = .ok (.aload_n 0, 1) := by decide +kernel
theorem dJ2_getChar_3b067_12 : decode cJ2_getChar_3b067 12 = .ok (.invokestatic 48, 3) := by decide +kernel
theorem dJ2_getChar_3b067_15 : decode cJ2_getChar_3b067 15 = .ok (.if_icmp .lt 13, 3) := by decide +kernel
theorem dJ2_getChar_3b067_18 : decode cJ2_getChar_3b067 18 = .ok (.new 52, 3) := by decide +kernel
theorem dJ2_getChar_3b067_21 : decode cJ2_getChar_3b067 21 = .ok (.dup, 1) := by decide +kernel
theorem dJ2_getChar_3b067_22 : decode cJ2_getChar_3b067 22 = .ok (.ldc 54, 2) := by decide +kernel
theorem dJ2_getChar_3b067_24 : decode cJ2_getChar_3b067 24 = .ok (.invokespecial 56, 3) := by decide +kernel
theorem dJ2_getChar_3b067_27 : decode cJ2_getChar_3b067 27 = .ok (.athrow, 1) := by decide +kernel
theorem dJ2_getChar_3b067_28 : decode cJ2_getChar_3b067 28 = .ok (.iload_n 1, 1) := by decide +kernel
theorem dJ2_getChar_3b067_29 : decode cJ2_getChar_3b067 29 = .ok (.iconst 1, 1) := by decide +kernel
theorem dJ2_getChar_3b067_30 : decode cJ2_getChar_3b067 30 = .ok (.ishl, 1) := by decide +kernel
theorem dJ2_getChar_3b067_31 : decode cJ2_getChar_3b067 31 = .ok (.istore_n 1, 1) := by decide +kernel
theorem dJ2_getChar_3b067_32 : decode cJ2_getChar_3b067 32 = .ok (.aload_n 0, 1) := by decide +kernel
theorem dJ2_getChar_3b067_33 : decode cJ2_getChar_3b067 33 = .ok (.iload_n 1, 1) := by decide +kernel
theorem dJ2_getChar_3b067_34 : decode cJ2_getChar_3b067 34 = .ok (.iinc 1 1, 3) := by decide +kernel
theorem dJ2_getChar_3b067_37 : decode cJ2_getChar_3b067 37 = .ok (.baload, 1) := by decide +kernel
theorem dJ2_getChar_3b067_38 : decode cJ2_getChar_3b067 38 = .ok (.sipush 255, 3) := by decide +kernel
theorem dJ2_getChar_3b067_41 : decode cJ2_getChar_3b067 41 = .ok (.iand, 1) := by decide +kernel
theorem dJ2_getChar_3b067_42 : decode cJ2_getChar_3b067 42 = .ok (.getstatic 59, 3) := by decide +kernel
theorem dJ2_getChar_3b067_45 : decode cJ2_getChar_3b067 45 = .ok (.ishl, 1) := by decide +kernel
theorem dJ2_getChar_3b067_46 : decode cJ2_getChar_3b067 46 = .ok (.aload_n 0, 1) := by decide +kernel
theorem dJ2_getChar_3b067_47 : decode cJ2_getChar_3b067 47 = .ok (.iload_n 1, 1) := by decide +kernel
theorem dJ2_getChar_3b067_48 : decode cJ2_getChar_3b067 48 = .ok (.baload, 1) := by decide +kernel
theorem dJ2_getChar_3b067_49 : decode cJ2_getChar_3b067 49 = .ok (.sipush 255, 3) := by decide +kernel
theorem dJ2_getChar_3b067_52 : decode cJ2_getChar_3b067 52 = .ok (.iand, 1) := by decide +kernel
theorem dJ2_getChar_3b067_53 : decode cJ2_getChar_3b067 53 = .ok (.getstatic 63, 3) := by decide +kernel
theorem dJ2_getChar_3b067_56 : decode cJ2_getChar_3b067 56 = .ok (.ishl, 1) := by decide +kernel
theorem dJ2_getChar_3b067_57 : decode cJ2_getChar_3b067 57 = .ok (.ior, 1) := by decide +kernel
theorem dJ2_getChar_3b067_58 : decode cJ2_getChar_3b067 58 = .ok (.i2c, 1) := by decide +kernel
theorem dJ2_getChar_3b067_59 : decode cJ2_getChar_3b067 59 = .ok (.ireturn, 1) := by decide +kernel
theorem dJ2_length_9d52b_0 : decode cJ2_length_9d52b 0 = .ok (.aload_n 0, 1) := by decide +kernel
theorem dJ2_length_9d52b_1 : decode cJ2_length_9d52b 1 = .ok (.arraylength, 1) := by decide +kernel
theorem dJ2_length_9d52b_2 : decode cJ2_length_9d52b 2 = .ok (.iconst 1, 1) := by decide +kernel
theorem dJ2_length_9d52b_3 : decode cJ2_length_9d52b 3 = .ok (.ishr, 1) := by decide +kernel
theorem dJ2_length_9d52b_4 : decode cJ2_length_9d52b 4 = .ok (.ireturn, 1) := by decide +kernel
theorem dJ2_charAt_3b067_0 : decode cJ2_charAt_3b067 0 = .ok (.iload_n 1, 1) := by decide +kernel
theorem dJ2_charAt_3b067_1 : decode cJ2_charAt_3b067 1 = .ok (.aload_n 0, 1) := by decide +kernel
theorem dJ2_charAt_3b067_2 : decode cJ2_charAt_3b067 2 = .ok (.invokestatic 67, 3) := by decide +kernel
theorem dJ2_charAt_3b067_5 : decode cJ2_charAt_3b067 5 = .ok (.aload_n 0, 1) := by decide +kernel
theorem dJ2_charAt_3b067_6 : decode cJ2_charAt_3b067 6 = .ok (.iload_n 1, 1) := by decide +kernel
theorem dJ2_charAt_3b067_7 : decode cJ2_charAt_3b067 7 = .ok (.invokestatic 71, 3) := by decide +kernel
theorem dJ2_charAt_3b067_10 : decode cJ2_charAt_3b067 10 = .ok (.ireturn, 1) := by decide +kernel
theorem dJ2_checkIndex_2214a_0 : decode cJ2_checkIndex_2214a 0 = .ok (.iload_n 0, 1) := by decide +kernel
theorem dJ2_checkIndex_2214a_1 : decode cJ2_checkIndex_2214a 1 = .ok (.aload_n 1, 1) := by decide +kernel
theorem dJ2_checkIndex_2214a_2 : decode cJ2_checkIndex_2214a 2 = .ok (.invokestatic 48, 3) := by decide +kernel
theorem dJ2_checkIndex_2214a_5 : decode cJ2_checkIndex_2214a 5 = .ok (.invokestatic 414, 3) := by decide +kernel
theorem dJ2_checkIndex_2214a_8 : decode cJ2_checkIndex_2214a 8 = .ok (.return_, 1) := by decide +kernel
theorem dJ3_checkIndex_8e157_0 : decode cJ3_checkIndex_8e157 0 = .ok (.iload_n 0, 1) := by decide +kernel
theorem dJ3_checkIndex_8e157_1 : decode cJ3_checkIndex_8e157 1 = .ok (.ifCond .lt 8, 3) := by decide +kernel
theorem dJ3_checkIndex_8e157_4 : decode cJ3_checkIndex_8e157 4 = .ok (.iload_n 0, 1) := by decide +kernel
theorem dJ3_checkIndex_8e157_5 : decode cJ3_checkIndex_8e157 5 = .ok (.iload_n 1, 1) := by decide +kernel
theorem dJ3_checkIndex_8e157_6 : decode cJ3_checkIndex_8e157 6 = .ok (.if_icmp .lt 10, 3) := by decide +kernel
theorem dJ3_checkIndex_8e157_9 : decode cJ3_checkIndex_8e157 9 = .ok (.aload_n 2, 1) := by decide +kernel
theorem dJ3_checkIndex_8e157_10 : decode cJ3_checkIndex_8e157 10 = .ok (.iload_n 0, 1) := by decide +kernel
theorem dJ3_checkIndex_8e157_11 : decode cJ3_checkIndex_8e157 11 = .ok (.iload_n 1, 1) := by decide +kernel
theorem dJ3_checkIndex_8e157_12 : decode cJ3_checkIndex_8e157 12 = .ok (.invokestatic 95, 3) := by decide +kernel
theorem dJ3_checkIndex_8e157_15 : decode cJ3_checkIndex_8e157 15 = .ok (.athrow, 1) := by decide +kernel
theorem dJ3_checkIndex_8e157_16 : decode cJ3_checkIndex_8e157 16 = .ok (.iload_n 0, 1) := by decide +kernel
theorem dJ3_checkIndex_8e157_17 : decode cJ3_checkIndex_8e157 17 = .ok (.ireturn, 1) := by decide +kernel
