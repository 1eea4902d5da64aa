theorem ctX12_177 : Sp yX12_init YX12_init 1 [.ref 177] (SS.take 178) (cqM 254) (cqL 0) (cqQ 182) 71 15033 (cqS 249 429 253 1) := by
  refine Sp.of (by decide +kernel) rfl (fun _ => rfl) (Nat.le_of_ble_eq_true rfl) ?_
  intro w G
  show WP w YX12_init (1, SS.take 178, 71, 15033) G _ 0 [(0, .ref 177)] [] (SS.take 178) (cqM 254) (cqL 0) (cqQ 182)
  refine wp_aload_n (k := 0) dX12_init_0 0 rfl rfl ?_
  refine wp_objInit dX12_init_1 zl_RX12_1 (by decide) (by decide) rfl ?_
  refine wp_aload_n (k := 0) dX12_init_4 0 rfl rfl ?_
  refine wp_sipush (v := nI 1600) dX12_init_5 (by decide) rfl ?_
  refine st_newaI (N := 1600) (n' := 179) dX12_init_8 rfl zsh_178 (by decide) (by decide) (by decide +kernel) rfl (by decide +kernel) (by decide +kernel) rfl ?_
  refine st_putRF (r' := 183) dX12_init_10 zf_RX12_7 rfl zsh_177 (by decide) (by decide +kernel) rfl (by decide) rfl rfl ?_
  refine wp_aload_n (k := 0) dX12_init_13 0 rfl rfl ?_
  refine wp_iconst (v := (-1)) dX12_init_14 (by decide) rfl ?_
  refine st_putI (i' := 255) dX12_init_15 zf_RX12_13 rfl zsh_177 (by decide) (by decide +kernel) rfl rfl ?_
  refine wp_aload_n (k := 0) dX12_init_18 0 rfl rfl ?_
  refine wp_bipush (v := nI 6) dX12_init_19 (by decide) rfl ?_
  refine st_newaI (N := 6) (n' := 180) dX12_init_21 rfl zsh_179 (by decide) (by decide) (by decide +kernel) rfl (by decide +kernel) (by decide +kernel) rfl ?_
  refine st_putRF (r' := 184) dX12_init_23 zf_RX12_17 rfl zsh_177 (by decide) (by decide +kernel) rfl (by decide) rfl rfl ?_
  refine wp_aload_n (k := 0) dX12_init_26 0 rfl rfl ?_
  refine wp_bipush (v := nI 6) dX12_init_27 (by decide) rfl ?_
  refine st_newaC (N := 6) (n' := 181) dX12_init_29 rfl zsh_180 (by decide) (by decide) (by decide +kernel) rfl (by decide +kernel) (by decide +kernel) rfl ?_
  refine wp_dup dX12_init_31 rfl rfl ?_
  refine wp_iconst (v := nI 0) dX12_init_32 (by decide) rfl ?_
  refine wp_bipush (v := nI 112) dX12_init_33 (by decide) rfl ?_
  refine st_cast (j := 0) (i' := 256) dX12_init_35 zsh_180 (by decide) rfl (by decide) (by decide) (by decide) (by decide +kernel) rfl rfl ?_
  refine wp_dup dX12_init_36 rfl rfl ?_
  refine wp_iconst (v := nI 1) dX12_init_37 (by decide) rfl ?_
  refine wp_bipush (v := nI 101) dX12_init_38 (by decide) rfl ?_
  refine st_cast (j := 1) (i' := 257) dX12_init_40 zsh_180 (by decide) rfl (by decide) (by decide) (by decide) (by decide +kernel) rfl rfl ?_
  refine wp_dup dX12_init_41 rfl rfl ?_
  refine wp_iconst (v := nI 2) dX12_init_42 (by decide) rfl ?_
  refine wp_bipush (v := nI 114) dX12_init_43 (by decide) rfl ?_
  refine st_cast (j := 2) (i' := 258) dX12_init_45 zsh_180 (by decide) rfl (by decide) (by decide) (by decide) (by decide +kernel) rfl rfl ?_
  refine wp_dup dX12_init_46 rfl rfl ?_
  refine wp_iconst (v := nI 3) dX12_init_47 (by decide) rfl ?_
  refine wp_bipush (v := nI 115) dX12_init_48 (by decide) rfl ?_
  refine st_cast (j := 3) (i' := 259) dX12_init_50 zsh_180 (by decide) rfl (by decide) (by decide) (by decide) (by decide +kernel) rfl rfl ?_
  refine wp_dup dX12_init_51 rfl rfl ?_
  refine wp_iconst (v := nI 4) dX12_init_52 (by decide) rfl ?_
  refine wp_bipush (v := nI 111) dX12_init_53 (by decide) rfl ?_
  refine st_cast (j := 4) (i' := 260) dX12_init_55 zsh_180 (by decide) rfl (by decide) (by decide) (by decide) (by decide +kernel) rfl rfl ?_
  refine wp_dup dX12_init_56 rfl rfl ?_
  refine wp_iconst (v := nI 5) dX12_init_57 (by decide) rfl ?_
  refine wp_bipush (v := nI 110) dX12_init_58 (by decide) rfl ?_
  refine st_cast (j := 5) (i' := 261) dX12_init_60 zsh_180 (by decide) rfl (by decide) (by decide) (by decide) (by decide +kernel) rfl rfl ?_
  refine st_putRF (r' := 185) dX12_init_61 zf_RX12_20 rfl zsh_177 (by decide) (by decide +kernel) rfl (by decide) rfl rfl ?_
  refine wp_aload_n (k := 0) dX12_init_64 0 rfl rfl ?_
  refine wp_iconst (v := nI 5) dX12_init_65 (by decide) rfl ?_
  refine st_newaC (N := 5) (n' := 182) dX12_init_66 rfl zsh_181 (by decide) (by decide) (by decide +kernel) rfl (by decide +kernel) (by decide +kernel) rfl ?_
  refine wp_dup dX12_init_68 rfl rfl ?_
  refine wp_iconst (v := nI 0) dX12_init_69 (by decide) rfl ?_
  refine wp_bipush (v := nI 114) dX12_init_70 (by decide) rfl ?_
  refine st_cast (j := 0) (i' := 262) dX12_init_72 zsh_181 (by decide) rfl (by decide) (by decide) (by decide) (by decide +kernel) rfl rfl ?_
  refine wp_dup dX12_init_73 rfl rfl ?_
  refine wp_iconst (v := nI 1) dX12_init_74 (by decide) rfl ?_
  refine wp_bipush (v := nI 105) dX12_init_75 (by decide) rfl ?_
  refine st_cast (j := 1) (i' := 263) dX12_init_77 zsh_181 (by decide) rfl (by decide) (by decide) (by decide) (by decide +kernel) rfl rfl ?_
  refine wp_dup dX12_init_78 rfl rfl ?_
  refine wp_iconst (v := nI 2) dX12_init_79 (by decide) rfl ?_
  refine wp_bipush (v := nI 103) dX12_init_80 (by decide) rfl ?_
  refine st_cast (j := 2) (i' := 264) dX12_init_82 zsh_181 (by decide) rfl (by decide) (by decide) (by decide) (by decide +kernel) rfl rfl ?_
  refine wp_dup dX12_init_83 rfl rfl ?_
  refine wp_iconst (v := nI 3) dX12_init_84 (by decide) rfl ?_
  refine wp_bipush (v := nI 104) dX12_init_85 (by decide) rfl ?_
  refine st_cast (j := 3) (i' := 265) dX12_init_87 zsh_181 (by decide) rfl (by decide) (by decide) (by decide) (by decide +kernel) rfl rfl ?_
  refine wp_dup dX12_init_88 rfl rfl ?_
  refine wp_iconst (v := nI 4) dX12_init_89 (by decide) rfl ?_
  refine wp_bipush (v := nI 116) dX12_init_90 (by decide) rfl ?_
  refine st_cast (j := 4) (i' := 266) dX12_init_92 zsh_181 (by decide) rfl (by decide) (by decide) (by decide) (by decide +kernel) rfl rfl ?_
  refine st_putRF (r' := 186) dX12_init_93 zf_RX12_24 rfl zsh_177 (by decide) (by decide +kernel) rfl (by decide) rfl rfl ?_
  refine wp_aload_n (k := 0) dX12_init_96 0 rfl rfl ?_
  refine wp_iconst (v := nI 4) dX12_init_97 (by decide) rfl ?_
  refine st_newaC (N := 4) (n' := 183) dX12_init_98 rfl zsh_182 (by decide) (by decide) (by decide +kernel) rfl (by decide +kernel) (by decide +kernel) rfl ?_
  refine wp_dup dX12_init_100 rfl rfl ?_
  refine wp_iconst (v := nI 0) dX12_init_101 (by decide) rfl ?_
  refine wp_bipush (v := nI 108) dX12_init_102 (by decide) rfl ?_
  refine st_cast (j := 0) (i' := 267) dX12_init_104 zsh_182 (by decide) rfl (by decide) (by decide) (by decide) (by decide +kernel) rfl rfl ?_
  refine wp_dup dX12_init_105 rfl rfl ?_
  refine wp_iconst (v := nI 1) dX12_init_106 (by decide) rfl ?_
  refine wp_bipush (v := nI 101) dX12_init_107 (by decide) rfl ?_
  refine st_cast (j := 1) (i' := 268) dX12_init_109 zsh_182 (by decide) rfl (by decide) (by decide) (by decide) (by decide +kernel) rfl rfl ?_
  refine wp_dup dX12_init_110 rfl rfl ?_
  refine wp_iconst (v := nI 2) dX12_init_111 (by decide) rfl ?_
  refine wp_bipush (v := nI 102) dX12_init_112 (by decide) rfl ?_
  refine st_cast (j := 2) (i' := 269) dX12_init_114 zsh_182 (by decide) rfl (by decide) (by decide) (by decide) (by decide +kernel) rfl rfl ?_
  refine wp_dup dX12_init_115 rfl rfl ?_
  refine wp_iconst (v := nI 3) dX12_init_116 (by decide) rfl ?_
  refine wp_bipush (v := nI 116) dX12_init_117 (by decide) rfl ?_
  refine st_cast (j := 3) (i' := 270) dX12_init_119 zsh_182 (by decide) rfl (by decide) (by decide) (by decide) (by decide +kernel) rfl rfl ?_
  refine st_putRF (r' := 187) dX12_init_120 zf_RX12_27 rfl zsh_177 (by decide) (by decide +kernel) rfl (by decide) rfl rfl ?_
  refine wp_aload_n (k := 0) dX12_init_123 0 rfl rfl ?_
  refine wp_iconst (v := nI 5) dX12_init_124 (by decide) rfl ?_
  refine st_newaC (N := 5) (n' := 184) dX12_init_125 rfl zsh_183 (by decide) (by decide) (by decide +kernel) rfl (by decide +kernel) (by decide +kernel) rfl ?_
  refine wp_dup dX12_init_127 rfl rfl ?_
  refine wp_iconst (v := nI 0) dX12_init_128 (by decide) rfl ?_
  refine wp_bipush (v := nI 104) dX12_init_129 (by decide) rfl ?_
  refine st_cast (j := 0) (i' := 271) dX12_init_131 zsh_183 (by decide) rfl (by decide) (by decide) (by decide) (by decide +kernel) rfl rfl ?_
  refine wp_dup dX12_init_132 rfl rfl ?_
  refine wp_iconst (v := nI 1) dX12_init_133 (by decide) rfl ?_
  refine wp_bipush (v := nI 111) dX12_init_134 (by decide) rfl ?_
  refine st_cast (j := 1) (i' := 272) dX12_init_136 zsh_183 (by decide) rfl (by decide) (by decide) (by decide) (by decide +kernel) rfl rfl ?_
  refine wp_dup dX12_init_137 rfl rfl ?_
  refine wp_iconst (v := nI 2) dX12_init_138 (by decide) rfl ?_
  refine wp_bipush (v := nI 108) dX12_init_139 (by decide) rfl ?_
  refine st_cast (j := 2) (i' := 273) dX12_init_141 zsh_183 (by decide) rfl (by decide) (by decide) (by decide) (by decide +kernel) rfl rfl ?_
  refine wp_dup dX12_init_142 rfl rfl ?_
  refine wp_iconst (v := nI 3) dX12_init_143 (by decide) rfl ?_
  refine wp_bipush (v := nI 100) dX12_init_144 (by decide) rfl ?_
  refine st_cast (j := 3) (i' := 274) dX12_init_146 zsh_183 (by decide) rfl (by decide) (by decide) (by decide) (by decide +kernel) rfl rfl ?_
  refine wp_dup dX12_init_147 rfl rfl ?_
  refine wp_iconst (v := nI 4) dX12_init_148 (by decide) rfl ?_
  refine wp_bipush (v := nI 115) dX12_init_149 (by decide) rfl ?_
  refine st_cast (j := 4) (i' := 275) dX12_init_151 zsh_183 (by decide) rfl (by decide) (by decide) (by decide) (by decide +kernel) rfl rfl ?_
  refine st_putRF (r' := 188) dX12_init_152 zf_RX12_30 rfl zsh_177 (by decide) (by decide +kernel) rfl (by decide) rfl rfl ?_
  refine wp_aload_n (k := 0) dX12_init_155 0 rfl rfl ?_
  refine wp_iconst (v := nI 4) dX12_init_156 (by decide) rfl ?_
  refine st_newaC (N := 4) (n' := 185) dX12_init_157 rfl zsh_184 (by decide) (by decide) (by decide +kernel) rfl (by decide +kernel) (by decide +kernel) rfl ?_
  refine wp_dup dX12_init_159 rfl rfl ?_
  refine wp_iconst (v := nI 0) dX12_init_160 (by decide) rfl ?_
  refine wp_bipush (v := nI 115) dX12_init_161 (by decide) rfl ?_
  refine st_cast (j := 0) (i' := 276) dX12_init_163 zsh_184 (by decide) rfl (by decide) (by decide) (by decide) (by decide +kernel) rfl rfl ?_
  refine wp_dup dX12_init_164 rfl rfl ?_
  refine wp_iconst (v := nI 1) dX12_init_165 (by decide) rfl ?_
  refine wp_bipush (v := nI 101) dX12_init_166 (by decide) rfl ?_
  refine st_cast (j := 1) (i' := 277) dX12_init_168 zsh_184 (by decide) rfl (by decide) (by decide) (by decide) (by decide +kernel) rfl rfl ?_
  refine wp_dup dX12_init_169 rfl rfl ?_
  refine wp_iconst (v := nI 2) dX12_init_170 (by decide) rfl ?_
  refine wp_bipush (v := nI 97) dX12_init_171 (by decide) rfl ?_
  refine st_cast (j := 2) (i' := 278) dX12_init_173 zsh_184 (by decide) rfl (by decide) (by decide) (by decide) (by decide +kernel) rfl rfl ?_
  refine wp_dup dX12_init_174 rfl rfl ?_
  refine wp_iconst (v := nI 3) dX12_init_175 (by decide) rfl ?_
  refine wp_bipush (v := nI 109) dX12_init_176 (by decide) rfl ?_
  refine st_cast (j := 3) (i' := 279) dX12_init_178 zsh_184 (by decide) rfl (by decide) (by decide) (by decide) (by decide +kernel) rfl rfl ?_
  refine st_putRF (r' := 189) dX12_init_179 zf_RX12_33 rfl zsh_177 (by decide) (by decide +kernel) rfl (by decide) rfl rfl ?_
  refine wp_aload_n (k := 0) dX12_init_182 0 rfl rfl ?_
  refine wp_iconst (v := nI 5) dX12_init_183 (by decide) rfl ?_
  refine st_newaC (N := 5) (n' := 186) dX12_init_184 rfl zsh_185 (by decide) (by decide) (by decide +kernel) rfl (by decide +kernel) (by decide +kernel) rfl ?_
  refine wp_dup dX12_init_186 rfl rfl ?_
  refine wp_iconst (v := nI 0) dX12_init_187 (by decide) rfl ?_
  refine wp_bipush (v := nI 112) dX12_init_188 (by decide) rfl ?_
  refine st_cast (j := 0) (i' := 280) dX12_init_190 zsh_185 (by decide) rfl (by decide) (by decide) (by decide) (by decide +kernel) rfl rfl ?_
  refine wp_dup dX12_init_191 rfl rfl ?_
  refine wp_iconst (v := nI 1) dX12_init_192 (by decide) rfl ?_
  refine wp_bipush (v := nI 97) dX12_init_193 (by decide) rfl ?_
  refine st_cast (j := 1) (i' := 281) dX12_init_195 zsh_185 (by decide) rfl (by decide) (by decide) (by decide) (by decide +kernel) rfl rfl ?_
  refine wp_dup dX12_init_196 rfl rfl ?_
  refine wp_iconst (v := nI 2) dX12_init_197 (by decide) rfl ?_
  refine wp_bipush (v := nI 112) dX12_init_198 (by decide) rfl ?_
  refine st_cast (j := 2) (i' := 282) dX12_init_200 zsh_185 (by decide) rfl (by decide) (by decide) (by decide) (by decide +kernel) rfl rfl ?_
  refine wp_dup dX12_init_201 rfl rfl ?_
  refine wp_iconst (v := nI 3) dX12_init_202 (by decide) rfl ?_
  refine wp_bipush (v := nI 101) dX12_init_203 (by decide) rfl ?_
  refine st_cast (j := 3) (i' := 283) dX12_init_205 zsh_185 (by decide) rfl (by decide) (by decide) (by decide) (by decide +kernel) rfl rfl ?_
  refine wp_dup dX12_init_206 rfl rfl ?_
  refine wp_iconst (v := nI 4) dX12_init_207 (by decide) rfl ?_
  refine wp_bipush (v := nI 114) dX12_init_208 (by decide) rfl ?_
  refine st_cast (j := 4) (i' := 284) dX12_init_210 zsh_185 (by decide) rfl (by decide) (by decide) (by decide) (by decide +kernel) rfl rfl ?_
  refine st_putRF (r' := 190) dX12_init_211 zf_RX12_36 rfl zsh_177 (by decide) (by decide +kernel) rfl (by decide) rfl rfl ?_
  refine wp_aload_n (k := 0) dX12_init_214 0 rfl rfl ?_
  refine wp_iconst (v := nI 5) dX12_init_215 (by decide) rfl ?_
  refine st_newaC (N := 5) (n' := 187) dX12_init_216 rfl zsh_186 (by decide) (by decide) (by decide +kernel) rfl (by decide +kernel) (by decide +kernel) rfl ?_
  refine wp_dup dX12_init_218 rfl rfl ?_
  refine wp_iconst (v := nI 0) dX12_init_219 (by decide) rfl ?_
  refine wp_bipush (v := nI 116) dX12_init_220 (by decide) rfl ?_
  refine st_cast (j := 0) (i' := 285) dX12_init_222 zsh_186 (by decide) rfl (by decide) (by decide) (by decide) (by decide +kernel) rfl rfl ?_
  refine wp_dup dX12_init_223 rfl rfl ?_
  refine wp_iconst (v := nI 1) dX12_init_224 (by decide) rfl ?_
  refine wp_bipush (v := nI 104) dX12_init_225 (by decide) rfl ?_
  refine st_cast (j := 1) (i' := 286) dX12_init_227 zsh_186 (by decide) rfl (by decide) (by decide) (by decide) (by decide +kernel) rfl rfl ?_
  refine wp_dup dX12_init_228 rfl rfl ?_
  refine wp_iconst (v := nI 2) dX12_init_229 (by decide) rfl ?_
  refine wp_bipush (v := nI 117) dX12_init_230 (by decide) rfl ?_
  refine st_cast (j := 2) (i' := 287) dX12_init_232 zsh_186 (by decide) rfl (by decide) (by decide) (by decide) (by decide +kernel) rfl rfl ?_
  refine wp_dup dX12_init_233 rfl rfl ?_
  refine wp_iconst (v := nI 3) dX12_init_234 (by decide) rfl ?_
  refine wp_bipush (v := nI 109) dX12_init_235 (by decide) rfl ?_
  refine st_cast (j := 3) (i' := 288) dX12_init_237 zsh_186 (by decide) rfl (by decide) (by decide) (by decide) (by decide +kernel) rfl rfl ?_
  refine wp_dup dX12_init_238 rfl rfl ?_
  refine wp_iconst (v := nI 4) dX12_init_239 (by decide) rfl ?_
  refine wp_bipush (v := nI 98) dX12_init_240 (by decide) rfl ?_
  refine st_cast (j := 4) (i' := 289) dX12_init_242 zsh_186 (by decide) rfl (by decide) (by decide) (by decide) (by decide +kernel) rfl rfl ?_
  refine st_putRF (r' := 191) dX12_init_243 zf_RX12_39 rfl zsh_177 (by decide) (by decide +kernel) rfl (by decide) rfl rfl ?_
  refine wp_aload_n (k := 0) dX12_init_246 0 rfl rfl ?_
  refine wp_iconst (v := nI 3) dX12_init_247 (by decide) rfl ?_
  refine st_newaC (N := 3) (n' := 188) dX12_init_248 rfl zsh_187 (by decide) (by decide) (by decide +kernel) rfl (by decide +kernel) (by decide +kernel) rfl ?_
  refine wp_dup dX12_init_250 rfl rfl ?_
  refine wp_iconst (v := nI 0) dX12_init_251 (by decide) rfl ?_
  refine wp_bipush (v := nI 98) dX12_init_252 (by decide) rfl ?_
  refine st_cast (j := 0) (i' := 290) dX12_init_254 zsh_187 (by decide) rfl (by decide) (by decide) (by decide) (by decide +kernel) rfl rfl ?_
  refine wp_dup dX12_init_255 rfl rfl ?_
  refine wp_iconst (v := nI 1) dX12_init_256 (by decide) rfl ?_
  refine wp_bipush (v := nI 111) dX12_init_257 (by decide) rfl ?_
  refine st_cast (j := 1) (i' := 291) dX12_init_259 zsh_187 (by decide) rfl (by decide) (by decide) (by decide) (by decide +kernel) rfl rfl ?_
  refine wp_dup dX12_init_260 rfl rfl ?_
  refine wp_iconst (v := nI 2) dX12_init_261 (by decide) rfl ?_
  refine wp_bipush (v := nI 120) dX12_init_262 (by decide) rfl ?_
  refine st_cast (j := 2) (i' := 292) dX12_init_264 zsh_187 (by decide) rfl (by decide) (by decide) (by decide) (by decide +kernel) rfl rfl ?_
  refine st_putRF (r' := 192) dX12_init_265 zf_RX12_42 rfl zsh_177 (by decide) (by decide +kernel) rfl (by decide) rfl rfl ?_
  refine wp_aload_n (k := 0) dX12_init_268 0 rfl rfl ?_
  refine wp_iconst (v := nI 4) dX12_init_269 (by decide) rfl ?_
  refine st_newaC (N := 4) (n' := 189) dX12_init_270 rfl zsh_188 (by decide) (by decide) (by decide +kernel) rfl (by decide +kernel) (by decide +kernel) rfl ?_
  refine wp_dup dX12_init_272 rfl rfl ?_
  refine wp_iconst (v := nI 0) dX12_init_273 (by decide) rfl ?_
  refine wp_bipush (v := nI 100) dX12_init_274 (by decide) rfl ?_
  refine st_cast (j := 0) (i' := 293) dX12_init_276 zsh_188 (by decide) rfl (by decide) (by decide) (by decide) (by decide +kernel) rfl rfl ?_
  refine wp_dup dX12_init_277 rfl rfl ?_
  refine wp_iconst (v := nI 1) dX12_init_278 (by decide) rfl ?_
  refine wp_bipush (v := nI 117) dX12_init_279 (by decide) rfl ?_
  refine st_cast (j := 1) (i' := 294) dX12_init_281 zsh_188 (by decide) rfl (by decide) (by decide) (by decide) (by decide +kernel) rfl rfl ?_
  refine wp_dup dX12_init_282 rfl rfl ?_
  refine wp_iconst (v := nI 2) dX12_init_283 (by decide) rfl ?_
  refine wp_bipush (v := nI 100) dX12_init_284 (by decide) rfl ?_
  refine st_cast (j := 2) (i' := 295) dX12_init_286 zsh_188 (by decide) rfl (by decide) (by decide) (by decide) (by decide +kernel) rfl rfl ?_
  refine wp_dup dX12_init_287 rfl rfl ?_
  refine wp_iconst (v := nI 3) dX12_init_288 (by decide) rfl ?_
  refine wp_bipush (v := nI 115) dX12_init_289 (by decide) rfl ?_
  refine st_cast (j := 3) (i' := 296) dX12_init_291 zsh_188 (by decide) rfl (by decide) (by decide) (by decide) (by decide +kernel) rfl rfl ?_
  refine st_putRF (r' := 193) dX12_init_292 zf_RX12_45 rfl zsh_177 (by decide) (by decide +kernel) rfl (by decide) rfl rfl ?_
  refine wp_aload_n (k := 0) dX12_init_295 0 rfl rfl ?_
  refine wp_iconst (v := nI 4) dX12_init_296 (by decide) rfl ?_
  refine st_newaC (N := 4) (n' := 190) dX12_init_297 rfl zsh_189 (by decide) (by decide) (by decide +kernel) rfl (by decide +kernel) (by decide +kernel) rfl ?_
  refine wp_dup dX12_init_299 rfl rfl ?_
  refine wp_iconst (v := nI 0) dX12_init_300 (by decide) rfl ?_
  refine wp_bipush (v := nI 104) dX12_init_301 (by decide) rfl ?_
  refine st_cast (j := 0) (i' := 297) dX12_init_303 zsh_189 (by decide) rfl (by decide) (by decide) (by decide) (by decide +kernel) rfl rfl ?_
  refine wp_dup dX12_init_304 rfl rfl ?_
  refine wp_iconst (v := nI 1) dX12_init_305 (by decide) rfl ?_
  refine wp_bipush (v := nI 97) dX12_init_306 (by decide) rfl ?_
  refine st_cast (j := 1) (i' := 298) dX12_init_308 zsh_189 (by decide) rfl (by decide) (by decide) (by decide) (by decide +kernel) rfl rfl ?_
  refine wp_dup dX12_init_309 rfl rfl ?_
  refine wp_iconst (v := nI 2) dX12_init_310 (by decide) rfl ?_
  refine wp_bipush (v := nI 116) dX12_init_311 (by decide) rfl ?_
  refine st_cast (j := 2) (i' := 299) dX12_init_313 zsh_189 (by decide) rfl (by decide) (by decide) (by decide) (by decide +kernel) rfl rfl ?_
  refine wp_dup dX12_init_314 rfl rfl ?_
  refine wp_iconst (v := nI 3) dX12_init_315 (by decide) rfl ?_
  refine wp_bipush (v := nI 115) dX12_init_316 (by decide) rfl ?_
  refine st_cast (j := 3) (i' := 300) dX12_init_318 zsh_189 (by decide) rfl (by decide) (by decide) (by decide) (by decide +kernel) rfl rfl ?_
  refine st_putRF (r' := 194) dX12_init_319 zf_RX12_48 rfl zsh_177 (by decide) (by decide +kernel) rfl (by decide) rfl rfl ?_
  refine wp_aload_n (k := 0) dX12_init_322 0 rfl rfl ?_
  refine wp_iconst (v := nI 4) dX12_init_323 (by decide) rfl ?_
  refine st_newaC (N := 4) (n' := 191) dX12_init_324 rfl zsh_190 (by decide) (by decide) (by decide +kernel) rfl (by decide +kernel) (by decide +kernel) rfl ?_
  refine wp_dup dX12_init_326 rfl rfl ?_
  refine wp_iconst (v := nI 0) dX12_init_327 (by decide) rfl ?_
  refine wp_bipush (v := nI 112) dX12_init_328 (by decide) rfl ?_
  refine st_cast (j := 0) (i' := 301) dX12_init_330 zsh_190 (by decide) rfl (by decide) (by decide) (by decide) (by decide +kernel) rfl rfl ?_
  refine wp_dup dX12_init_331 rfl rfl ?_
  refine wp_iconst (v := nI 1) dX12_init_332 (by decide) rfl ?_
  refine wp_bipush (v := nI 117) dX12_init_333 (by decide) rfl ?_
  refine st_cast (j := 1) (i' := 302) dX12_init_335 zsh_190 (by decide) rfl (by decide) (by decide) (by decide) (by decide +kernel) rfl rfl ?_
  refine wp_dup dX12_init_336 rfl rfl ?_
  refine wp_iconst (v := nI 2) dX12_init_337 (by decide) rfl ?_
  refine wp_bipush (v := nI 108) dX12_init_338 (by decide) rfl ?_
  refine st_cast (j := 2) (i' := 303) dX12_init_340 zsh_190 (by decide) rfl (by decide) (by decide) (by decide) (by decide +kernel) rfl rfl ?_
  refine wp_dup dX12_init_341 rfl rfl ?_
  refine wp_iconst (v := nI 3) dX12_init_342 (by decide) rfl ?_
  refine wp_bipush (v := nI 108) dX12_init_343 (by decide) rfl ?_
  refine st_cast (j := 3) (i' := 304) dX12_init_345 zsh_190 (by decide) rfl (by decide) (by decide) (by decide) (by decide +kernel) rfl rfl ?_
  refine st_putRF (r' := 195) dX12_init_346 zf_RX12_51 rfl zsh_177 (by decide) (by decide +kernel) rfl (by decide) rfl rfl ?_
  refine wp_aload_n (k := 0) dX12_init_349 0 rfl rfl ?_
  refine wp_iconst (v := nI 4) dX12_init_350 (by decide) rfl ?_
  refine st_newaC (N := 4) (n' := 192) dX12_init_351 rfl zsh_191 (by decide) (by decide) (by decide +kernel) rfl (by decide +kernel) (by decide +kernel) rfl ?_
  refine wp_dup dX12_init_353 rfl rfl ?_
  refine wp_iconst (v := nI 0) dX12_init_354 (by decide) rfl ?_
  refine wp_bipush (v := nI 115) dX12_init_355 (by decide) rfl ?_
  refine st_cast (j := 0) (i' := 305) dX12_init_357 zsh_191 (by decide) rfl (by decide) (by decide) (by decide) (by decide +kernel) rfl rfl ?_
  refine wp_dup dX12_init_358 rfl rfl ?_
  refine wp_iconst (v := nI 1) dX12_init_359 (by decide) rfl ?_
  refine wp_bipush (v := nI 108) dX12_init_360 (by decide) rfl ?_
  refine st_cast (j := 1) (i' := 306) dX12_init_362 zsh_191 (by decide) rfl (by decide) (by decide) (by decide) (by decide +kernel) rfl rfl ?_
  refine wp_dup dX12_init_363 rfl rfl ?_
  refine wp_iconst (v := nI 2) dX12_init_364 (by decide) rfl ?_
  refine wp_bipush (v := nI 105) dX12_init_365 (by decide) rfl ?_
  refine st_cast (j := 2) (i' := 307) dX12_init_367 zsh_191 (by decide) rfl (by decide) (by decide) (by decide) (by decide +kernel) rfl rfl ?_
  refine wp_dup dX12_init_368 rfl rfl ?_
  refine wp_iconst (v := nI 3) dX12_init_369 (by decide) rfl ?_
  refine wp_bipush (v := nI 112) dX12_init_370 (by decide) rfl ?_
  refine st_cast (j := 3) (i' := 308) dX12_init_372 zsh_191 (by decide) rfl (by decide) (by decide) (by decide) (by decide +kernel) rfl rfl ?_
  refine st_putRF (r' := 196) dX12_init_373 zf_RX12_54 rfl zsh_177 (by decide) (by decide +kernel) rfl (by decide) rfl rfl ?_
  refine wp_aload_n (k := 0) dX12_init_376 0 rfl rfl ?_
  refine wp_iconst (v := nI 4) dX12_init_377 (by decide) rfl ?_
  refine st_newaC (N := 4) (n' := 193) dX12_init_378 rfl zsh_192 (by decide) (by decide) (by decide +kernel) rfl (by decide +kernel) (by decide +kernel) rfl ?_
  refine wp_dup dX12_init_380 rfl rfl ?_
  refine wp_iconst (v := nI 0) dX12_init_381 (by decide) rfl ?_
  refine wp_bipush (v := nI 98) dX12_init_382 (by decide) rfl ?_
  refine st_cast (j := 0) (i' := 309) dX12_init_384 zsh_192 (by decide) rfl (by decide) (by decide) (by decide) (by decide +kernel) rfl rfl ?_
  refine wp_dup dX12_init_385 rfl rfl ?_
  refine wp_iconst (v := nI 1) dX12_init_386 (by decide) rfl ?_
  refine wp_bipush (v := nI 97) dX12_init_387 (by decide) rfl ?_
  refine st_cast (j := 1) (i' := 310) dX12_init_389 zsh_192 (by decide) rfl (by decide) (by decide) (by decide) (by decide +kernel) rfl rfl ?_
  refine wp_dup dX12_init_390 rfl rfl ?_
  refine wp_iconst (v := nI 2) dX12_init_391 (by decide) rfl ?_
  refine wp_bipush (v := nI 110) dX12_init_392 (by decide) rfl ?_
  refine st_cast (j := 2) (i' := 311) dX12_init_394 zsh_192 (by decide) rfl (by decide) (by decide) (by decide) (by decide +kernel) rfl rfl ?_
  refine wp_dup dX12_init_395 rfl rfl ?_
  refine wp_iconst (v := nI 3) dX12_init_396 (by decide) rfl ?_
  refine wp_bipush (v := nI 103) dX12_init_397 (by decide) rfl ?_
  refine st_cast (j := 3) (i' := 312) dX12_init_399 zsh_192 (by decide) rfl (by decide) (by decide) (by decide) (by decide +kernel) rfl rfl ?_
  refine st_putRF (r' := 197) dX12_init_400 zf_RX12_57 rfl zsh_177 (by decide) (by decide +kernel) rfl (by decide) rfl rfl ?_
  refine wp_aload_n (k := 0) dX12_init_403 0 rfl rfl ?_
  refine wp_iconst (v := nI 3) dX12_init_404 (by decide) rfl ?_
  refine st_newaC (N := 3) (n' := 194) dX12_init_405 rfl zsh_193 (by decide) (by decide) (by decide +kernel) rfl (by decide +kernel) (by decide +kernel) rfl ?_
  refine wp_dup dX12_init_407 rfl rfl ?_
  refine wp_iconst (v := nI 0) dX12_init_408 (by decide) rfl ?_
  refine wp_bipush (v := nI 97) dX12_init_409 (by decide) rfl ?_
  refine st_cast (j := 0) (i' := 313) dX12_init_411 zsh_193 (by decide) rfl (by decide) (by decide) (by decide) (by decide +kernel) rfl rfl ?_
  refine wp_dup dX12_init_412 rfl rfl ?_
  refine wp_iconst (v := nI 1) dX12_init_413 (by decide) rfl ?_
  refine wp_bipush (v := nI 114) dX12_init_414 (by decide) rfl ?_
  refine st_cast (j := 1) (i' := 314) dX12_init_416 zsh_193 (by decide) rfl (by decide) (by decide) (by decide) (by decide +kernel) rfl rfl ?_
  refine wp_dup dX12_init_417 rfl rfl ?_
  refine wp_iconst (v := nI 2) dX12_init_418 (by decide) rfl ?_
  refine wp_bipush (v := nI 109) dX12_init_419 (by decide) rfl ?_
  refine st_cast (j := 2) (i' := 315) dX12_init_421 zsh_193 (by decide) rfl (by decide) (by decide) (by decide) (by decide +kernel) rfl rfl ?_
  refine st_putRF (r' := 198) dX12_init_422 zf_RX12_60 rfl zsh_177 (by decide) (by decide +kernel) rfl (by decide) rfl rfl ?_
  refine wp_aload_n (k := 0) dX12_init_425 0 rfl rfl ?_
  refine wp_iconst (v := nI 3) dX12_init_426 (by decide) rfl ?_
  refine st_newaC (N := 3) (n' := 195) dX12_init_427 rfl zsh_194 (by decide) (by decide) (by decide +kernel) rfl (by decide +kernel) (by decide +kernel) rfl ?_
  refine wp_dup dX12_init_429 rfl rfl ?_
  refine wp_iconst (v := nI 0) dX12_init_430 (by decide) rfl ?_
  refine wp_bipush (v := nI 108) dX12_init_431 (by decide) rfl ?_
  refine st_cast (j := 0) (i' := 316) dX12_init_433 zsh_194 (by decide) rfl (by decide) (by decide) (by decide) (by decide +kernel) rfl rfl ?_
  refine wp_dup dX12_init_434 rfl rfl ?_
  refine wp_iconst (v := nI 1) dX12_init_435 (by decide) rfl ?_
  refine wp_bipush (v := nI 111) dX12_init_436 (by decide) rfl ?_
  refine st_cast (j := 1) (i' := 317) dX12_init_438 zsh_194 (by decide) rfl (by decide) (by decide) (by decide) (by decide +kernel) rfl rfl ?_
  refine wp_dup dX12_init_439 rfl rfl ?_
  refine wp_iconst (v := nI 2) dX12_init_440 (by decide) rfl ?_
  refine wp_bipush (v := nI 119) dX12_init_441 (by decide) rfl ?_
  refine st_cast (j := 2) (i' := 318) dX12_init_443 zsh_194 (by decide) rfl (by decide) (by decide) (by decide) (by decide +kernel) rfl rfl ?_
  refine st_putRF (r' := 199) dX12_init_444 zf_RX12_63 rfl zsh_177 (by decide) (by decide +kernel) rfl (by decide) rfl rfl ?_
  refine wp_aload_n (k := 0) dX12_init_447 0 rfl rfl ?_
  refine wp_iconst (v := nI 5) dX12_init_448 (by decide) rfl ?_
  refine st_newaC (N := 5) (n' := 196) dX12_init_449 rfl zsh_195 (by decide) (by decide) (by decide +kernel) rfl (by decide +kernel) (by decide +kernel) rfl ?_
  refine wp_dup dX12_init_451 rfl rfl ?_
  refine wp_iconst (v := nI 0) dX12_init_452 (by decide) rfl ?_
  refine wp_bipush (v := nI 111) dX12_init_453 (by decide) rfl ?_
  refine st_cast (j := 0) (i' := 319) dX12_init_455 zsh_195 (by decide) rfl (by decide) (by decide) (by decide) (by decide +kernel) rfl rfl ?_
  refine wp_dup dX12_init_456 rfl rfl ?_
  refine wp_iconst (v := nI 1) dX12_init_457 (by decide) rfl ?_
  refine wp_bipush (v := nI 116) dX12_init_458 (by decide) rfl ?_
  refine st_cast (j := 1) (i' := 320) dX12_init_460 zsh_195 (by decide) rfl (by decide) (by decide) (by decide) (by decide +kernel) rfl rfl ?_
  refine wp_dup dX12_init_461 rfl rfl ?_
  refine wp_iconst (v := nI 2) dX12_init_462 (by decide) rfl ?_
  refine wp_bipush (v := nI 104) dX12_init_463 (by decide) rfl ?_
  refine st_cast (j := 2) (i' := 321) dX12_init_465 zsh_195 (by decide) rfl (by decide) (by decide) (by decide) (by decide +kernel) rfl rfl ?_
  refine wp_dup dX12_init_466 rfl rfl ?_
  refine wp_iconst (v := nI 3) dX12_init_467 (by decide) rfl ?_
  refine wp_bipush (v := nI 101) dX12_init_468 (by decide) rfl ?_
  refine st_cast (j := 3) (i' := 322) dX12_init_470 zsh_195 (by decide) rfl (by decide) (by decide) (by decide) (by decide +kernel) rfl rfl ?_
  refine wp_dup dX12_init_471 rfl rfl ?_
  refine wp_iconst (v := nI 4) dX12_init_472 (by decide) rfl ?_
  refine wp_bipush (v := nI 114) dX12_init_473 (by decide) rfl ?_
  refine st_cast (j := 4) (i' := 323) dX12_init_475 zsh_195 (by decide) rfl (by decide) (by decide) (by decide) (by decide +kernel) rfl rfl ?_
  refine st_putRF (r' := 200) dX12_init_476 zf_RX12_66 rfl zsh_177 (by decide) (by decide +kernel) rfl (by decide) rfl rfl ?_
  refine wp_aload_n (k := 0) dX12_init_479 0 rfl rfl ?_
  refine wp_bipush (v := nI 6) dX12_init_480 (by decide) rfl ?_
  refine st_newaC (N := 6) (n' := 197) dX12_init_482 rfl zsh_196 (by decide) (by decide) (by decide +kernel) rfl (by decide +kernel) (by decide +kernel) rfl ?_
  refine wp_dup dX12_init_484 rfl rfl ?_
  refine wp_iconst (v := nI 0) dX12_init_485 (by decide) rfl ?_
  refine wp_bipush (v := nI 110) dX12_init_486 (by decide) rfl ?_
  refine st_cast (j := 0) (i' := 324) dX12_init_488 zsh_196 (by decide) rfl (by decide) (by decide) (by decide) (by decide +kernel) rfl rfl ?_
  refine wp_dup dX12_init_489 rfl rfl ?_
  refine wp_iconst (v := nI 1) dX12_init_490 (by decide) rfl ?_
  refine wp_bipush (v := nI 117) dX12_init_491 (by decide) rfl ?_
  refine st_cast (j := 1) (i' := 325) dX12_init_493 zsh_196 (by decide) rfl (by decide) (by decide) (by decide) (by decide +kernel) rfl rfl ?_
  refine wp_dup dX12_init_494 rfl rfl ?_
  refine wp_iconst (v := nI 2) dX12_init_495 (by decide) rfl ?_
  refine wp_bipush (v := nI 109) dX12_init_496 (by decide) rfl ?_
  refine st_cast (j := 2) (i' := 326) dX12_init_498 zsh_196 (by decide) rfl (by decide) (by decide) (by decide) (by decide +kernel) rfl rfl ?_
  refine wp_dup dX12_init_499 rfl rfl ?_
  refine wp_iconst (v := nI 3) dX12_init_500 (by decide) rfl ?_
  refine wp_bipush (v := nI 98) dX12_init_501 (by decide) rfl ?_
  refine st_cast (j := 3) (i' := 327) dX12_init_503 zsh_196 (by decide) rfl (by decide) (by decide) (by decide) (by decide +kernel) rfl rfl ?_
  refine wp_dup dX12_init_504 rfl rfl ?_
  refine wp_iconst (v := nI 4) dX12_init_505 (by decide) rfl ?_
  refine wp_bipush (v := nI 101) dX12_init_506 (by decide) rfl ?_
  refine st_cast (j := 4) (i' := 328) dX12_init_508 zsh_196 (by decide) rfl (by decide) (by decide) (by decide) (by decide +kernel) rfl rfl ?_
  refine wp_dup dX12_init_509 rfl rfl ?_
  refine wp_iconst (v := nI 5) dX12_init_510 (by decide) rfl ?_
  refine wp_bipush (v := nI 114) dX12_init_511 (by decide) rfl ?_
  refine st_cast (j := 5) (i' := 329) dX12_init_513 zsh_196 (by decide) rfl (by decide) (by decide) (by decide) (by decide +kernel) rfl rfl ?_
  refine st_putRF (r' := 201) dX12_init_514 zf_RX12_69 rfl zsh_177 (by decide) (by decide +kernel) rfl (by decide) rfl rfl ?_
  refine wp_aload_n (k := 0) dX12_init_517 0 rfl rfl ?_
  refine wp_iconst (v := nI 4) dX12_init_518 (by decide) rfl ?_
  refine st_newaC (N := 4) (n' := 198) dX12_init_519 rfl zsh_197 (by decide) (by decide) (by decide +kernel) rfl (by decide +kernel) (by decide +kernel) rfl ?_
  refine wp_dup dX12_init_521 rfl rfl ?_
  refine wp_iconst (v := nI 0) dX12_init_522 (by decide) rfl ?_
  refine wp_bipush (v := nI 119) dX12_init_523 (by decide) rfl ?_
  refine st_cast (j := 0) (i' := 330) dX12_init_525 zsh_197 (by decide) rfl (by decide) (by decide) (by decide) (by decide +kernel) rfl rfl ?_
  refine wp_dup dX12_init_526 rfl rfl ?_
  refine wp_iconst (v := nI 1) dX12_init_527 (by decide) rfl ?_
  refine wp_bipush (v := nI 105) dX12_init_528 (by decide) rfl ?_
  refine st_cast (j := 1) (i' := 331) dX12_init_530 zsh_197 (by decide) rfl (by decide) (by decide) (by decide) (by decide +kernel) rfl rfl ?_
  refine wp_dup dX12_init_531 rfl rfl ?_
  refine wp_iconst (v := nI 2) dX12_init_532 (by decide) rfl ?_
  refine wp_bipush (v := nI 110) dX12_init_533 (by decide) rfl ?_
  refine st_cast (j := 2) (i' := 332) dX12_init_535 zsh_197 (by decide) rfl (by decide) (by decide) (by decide) (by decide +kernel) rfl rfl ?_
  refine wp_dup dX12_init_536 rfl rfl ?_
  refine wp_iconst (v := nI 3) dX12_init_537 (by decide) rfl ?_
  refine wp_bipush (v := nI 115) dX12_init_538 (by decide) rfl ?_
  refine st_cast (j := 3) (i' := 333) dX12_init_540 zsh_197 (by decide) rfl (by decide) (by decide) (by decide) (by decide +kernel) rfl rfl ?_
  refine st_putRF (r' := 202) dX12_init_541 zf_RX12_72 rfl zsh_177 (by decide) (by decide +kernel) rfl (by decide) rfl rfl ?_
  refine wp_aload_n (k := 0) dX12_init_544 0 rfl rfl ?_
  refine wp_iconst (v := nI 2) dX12_init_545 (by decide) rfl ?_
  refine st_newaC (N := 2) (n' := 199) dX12_init_546 rfl zsh_198 (by decide) (by decide) (by decide +kernel) rfl (by decide +kernel) (by decide +kernel) rfl ?_
  refine wp_dup dX12_init_548 rfl rfl ?_
  refine wp_iconst (v := nI 0) dX12_init_549 (by decide) rfl ?_
  refine wp_bipush (v := nI 111) dX12_init_550 (by decide) rfl ?_
  refine st_cast (j := 0) (i' := 334) dX12_init_552 zsh_198 (by decide) rfl (by decide) (by decide) (by decide) (by decide +kernel) rfl rfl ?_
  refine wp_dup dX12_init_553 rfl rfl ?_
  refine wp_iconst (v := nI 1) dX12_init_554 (by decide) rfl ?_
  refine wp_bipush (v := nI 114) dX12_init_555 (by decide) rfl ?_
  refine st_cast (j := 1) (i' := 335) dX12_init_557 zsh_198 (by decide) rfl (by decide) (by decide) (by decide) (by decide +kernel) rfl rfl ?_
  refine st_putRF (r' := 203) dX12_init_558 zf_RX12_75 rfl zsh_177 (by decide) (by decide +kernel) rfl (by decide) rfl rfl ?_
  refine wp_aload_n (k := 0) dX12_init_561 0 rfl rfl ?_
  refine wp_iconst (v := nI 3) dX12_init_562 (by decide) rfl ?_
  refine st_newaC (N := 3) (n' := 200) dX12_init_563 rfl zsh_199 (by decide) (by decide) (by decide +kernel) rfl (by decide +kernel) (by decide +kernel) rfl ?_
  refine wp_dup dX12_init_565 rfl rfl ?_
  refine wp_iconst (v := nI 0) dX12_init_566 (by decide) rfl ?_
  refine wp_bipush (v := nI 97) dX12_init_567 (by decide) rfl ?_
  refine st_cast (j := 0) (i' := 336) dX12_init_569 zsh_199 (by decide) rfl (by decide) (by decide) (by decide) (by decide +kernel) rfl rfl ?_
  refine wp_dup dX12_init_570 rfl rfl ?_
  refine wp_iconst (v := nI 1) dX12_init_571 (by decide) rfl ?_
  refine wp_bipush (v := nI 110) dX12_init_572 (by decide) rfl ?_
  refine st_cast (j := 1) (i' := 337) dX12_init_574 zsh_199 (by decide) rfl (by decide) (by decide) (by decide) (by decide +kernel) rfl rfl ?_
  refine wp_dup dX12_init_575 rfl rfl ?_
  refine wp_iconst (v := nI 2) dX12_init_576 (by decide) rfl ?_
  refine wp_bipush (v := nI 100) dX12_init_577 (by decide) rfl ?_
  refine st_cast (j := 2) (i' := 338) dX12_init_579 zsh_199 (by decide) rfl (by decide) (by decide) (by decide) (by decide +kernel) rfl rfl ?_
  refine st_putRF (r' := 204) dX12_init_580 zf_RX12_78 rfl zsh_177 (by decide) (by decide +kernel) rfl (by decide) rfl rfl ?_
  refine wp_aload_n (k := 0) dX12_init_583 0 rfl rfl ?_
  refine wp_iconst (v := nI 3) dX12_init_584 (by decide) rfl ?_
  refine st_newaC (N := 3) (n' := 201) dX12_init_585 rfl zsh_200 (by decide) (by decide) (by decide +kernel) rfl (by decide +kernel) (by decide +kernel) rfl ?_
  refine wp_dup dX12_init_587 rfl rfl ?_
  refine wp_iconst (v := nI 0) dX12_init_588 (by decide) rfl ?_
  refine wp_bipush (v := nI 110) dX12_init_589 (by decide) rfl ?_
  refine st_cast (j := 0) (i' := 339) dX12_init_591 zsh_200 (by decide) rfl (by decide) (by decide) (by decide) (by decide +kernel) rfl rfl ?_
  refine wp_dup dX12_init_592 rfl rfl ?_
  refine wp_iconst (v := nI 1) dX12_init_593 (by decide) rfl ?_
  refine wp_bipush (v := nI 111) dX12_init_594 (by decide) rfl ?_
  refine st_cast (j := 1) (i' := 340) dX12_init_596 zsh_200 (by decide) rfl (by decide) (by decide) (by decide) (by decide +kernel) rfl rfl ?_
  refine wp_dup dX12_init_597 rfl rfl ?_
  refine wp_iconst (v := nI 2) dX12_init_598 (by decide) rfl ?_
  refine wp_bipush (v := nI 116) dX12_init_599 (by decide) rfl ?_
  refine st_cast (j := 2) (i' := 341) dX12_init_601 zsh_200 (by decide) rfl (by decide) (by decide) (by decide) (by decide +kernel) rfl rfl ?_
  refine st_putRF (r' := 205) dX12_init_602 zf_RX12_81 rfl zsh_177 (by decide) (by decide +kernel) rfl (by decide) rfl rfl ?_
  refine wp_aload_n (k := 0) dX12_init_605 0 rfl rfl ?_
  refine wp_iconst (v := nI 3) dX12_init_606 (by decide) rfl ?_
  refine st_newaC (N := 3) (n' := 202) dX12_init_607 rfl zsh_201 (by decide) (by decide) (by decide +kernel) rfl (by decide +kernel) (by decide +kernel) rfl ?_
  refine wp_dup dX12_init_609 rfl rfl ?_
  refine wp_iconst (v := nI 0) dX12_init_610 (by decide) rfl ?_
  refine wp_bipush (v := nI 97) dX12_init_611 (by decide) rfl ?_
  refine st_cast (j := 0) (i' := 342) dX12_init_613 zsh_201 (by decide) rfl (by decide) (by decide) (by decide) (by decide +kernel) rfl rfl ?_
  refine wp_dup dX12_init_614 rfl rfl ?_
  refine wp_iconst (v := nI 1) dX12_init_615 (by decide) rfl ?_
  refine wp_bipush (v := nI 108) dX12_init_616 (by decide) rfl ?_
  refine st_cast (j := 1) (i' := 343) dX12_init_618 zsh_201 (by decide) rfl (by decide) (by decide) (by decide) (by decide +kernel) rfl rfl ?_
  refine wp_dup dX12_init_619 rfl rfl ?_
  refine wp_iconst (v := nI 2) dX12_init_620 (by decide) rfl ?_
  refine wp_bipush (v := nI 108) dX12_init_621 (by decide) rfl ?_
  refine st_cast (j := 2) (i' := 344) dX12_init_623 zsh_201 (by decide) rfl (by decide) (by decide) (by decide) (by decide +kernel) rfl rfl ?_
  refine st_putRF (r' := 206) dX12_init_624 zf_RX12_84 rfl zsh_177 (by decide) (by decide +kernel) rfl (by decide) rfl rfl ?_
  refine wp_aload_n (k := 0) dX12_init_627 0 rfl rfl ?_
  refine wp_iconst (v := nI 3) dX12_init_628 (by decide) rfl ?_
  refine st_newaC (N := 3) (n' := 203) dX12_init_629 rfl zsh_202 (by decide) (by decide) (by decide +kernel) rfl (by decide +kernel) (by decide +kernel) rfl ?_
  refine wp_dup dX12_init_631 rfl rfl ?_
  refine wp_iconst (v := nI 0) dX12_init_632 (by decide) rfl ?_
  refine wp_bipush (v := nI 109) dX12_init_633 (by decide) rfl ?_
  refine st_cast (j := 0) (i' := 345) dX12_init_635 zsh_202 (by decide) rfl (by decide) (by decide) (by decide) (by decide +kernel) rfl rfl ?_
  refine wp_dup dX12_init_636 rfl rfl ?_
  refine wp_iconst (v := nI 1) dX12_init_637 (by decide) rfl ?_
  refine wp_bipush (v := nI 105) dX12_init_638 (by decide) rfl ?_
  refine st_cast (j := 1) (i' := 346) dX12_init_640 zsh_202 (by decide) rfl (by decide) (by decide) (by decide) (by decide +kernel) rfl rfl ?_
  refine wp_dup dX12_init_641 rfl rfl ?_
  refine wp_iconst (v := nI 2) dX12_init_642 (by decide) rfl ?_
  refine wp_bipush (v := nI 110) dX12_init_643 (by decide) rfl ?_
  refine st_cast (j := 2) (i' := 347) dX12_init_645 zsh_202 (by decide) rfl (by decide) (by decide) (by decide) (by decide +kernel) rfl rfl ?_
  refine st_putRF (r' := 207) dX12_init_646 zf_RX12_87 rfl zsh_177 (by decide) (by decide +kernel) rfl (by decide) rfl rfl ?_
  refine wp_aload_n (k := 0) dX12_init_649 0 rfl rfl ?_
  refine wp_iconst (v := nI 3) dX12_init_650 (by decide) rfl ?_
  refine st_newaC (N := 3) (n' := 204) dX12_init_651 rfl zsh_203 (by decide) (by decide) (by decide +kernel) rfl (by decide +kernel) (by decide +kernel) rfl ?_
  refine wp_dup dX12_init_653 rfl rfl ?_
  refine wp_iconst (v := nI 0) dX12_init_654 (by decide) rfl ?_
  refine wp_bipush (v := nI 109) dX12_init_655 (by decide) rfl ?_
  refine st_cast (j := 0) (i' := 348) dX12_init_657 zsh_203 (by decide) rfl (by decide) (by decide) (by decide) (by decide +kernel) rfl rfl ?_
  refine wp_dup dX12_init_658 rfl rfl ?_
  refine wp_iconst (v := nI 1) dX12_init_659 (by decide) rfl ?_
  refine wp_bipush (v := nI 97) dX12_init_660 (by decide) rfl ?_
  refine st_cast (j := 1) (i' := 349) dX12_init_662 zsh_203 (by decide) rfl (by decide) (by decide) (by decide) (by decide +kernel) rfl rfl ?_
  refine wp_dup dX12_init_663 rfl rfl ?_
  refine wp_iconst (v := nI 2) dX12_init_664 (by decide) rfl ?_
  refine wp_bipush (v := nI 120) dX12_init_665 (by decide) rfl ?_
  refine st_cast (j := 2) (i' := 350) dX12_init_667 zsh_203 (by decide) rfl (by decide) (by decide) (by decide) (by decide +kernel) rfl rfl ?_
  refine st_putRF (r' := 208) dX12_init_668 zf_RX12_90 rfl zsh_177 (by decide) (by decide +kernel) rfl (by decide) rfl rfl ?_
  refine wp_aload_n (k := 0) dX12_init_671 0 rfl rfl ?_
  refine wp_iconst (v := nI 4) dX12_init_672 (by decide) rfl ?_
  refine st_newaI (N := 4) (n' := 205) dX12_init_673 rfl zsh_204 (by decide) (by decide) (by decide +kernel) rfl (by decide +kernel) (by decide +kernel) rfl ?_
  refine st_putRF (r' := 209) dX12_init_675 zf_RX12_93 rfl zsh_177 (by decide) (by decide +kernel) rfl (by decide) rfl rfl ?_
  refine wp_aload_n (k := 0) dX12_init_678 0 rfl rfl ?_
  refine wp_bipush (v := nI 24) dX12_init_679 (by decide) rfl ?_
  refine st_newaL (N := 24) (n' := 206) dX12_init_681 rfl zsh_205 (by decide) (by decide) (by decide +kernel) rfl (by decide +kernel) (by decide +kernel) rfl ?_
  refine st_putRF (r' := 210) dX12_init_683 zf_RX12_96 rfl zsh_177 (by decide) (by decide +kernel) rfl (by decide) rfl rfl ?_
  refine wp_aload_n (k := 0) dX12_init_686 0 rfl rfl ?_
  refine wp_bipush (v := nI 112) dX12_init_687 (by decide) rfl ?_
  refine st_newaI (N := 112) (n' := 207) dX12_init_689 rfl zsh_206 (by decide) (by decide) (by decide +kernel) rfl (by decide +kernel) (by decide +kernel) rfl ?_
  refine st_putRF (r' := 211) dX12_init_691 zf_RX12_100 rfl zsh_177 (by decide) (by decide +kernel) rfl (by decide) rfl rfl ?_
  refine wp_aload_n (k := 0) dX12_init_694 0 rfl rfl ?_
  refine wp_bipush (v := nI 8) dX12_init_695 (by decide) rfl ?_
  refine st_newaI (N := 8) (n' := 208) dX12_init_697 rfl zsh_207 (by decide) (by decide) (by decide +kernel) rfl (by decide +kernel) (by decide +kernel) rfl ?_
  refine st_putRF (r' := 212) dX12_init_699 zf_RX12_103 rfl zsh_177 (by decide) (by decide +kernel) rfl (by decide) rfl rfl ?_
  refine wp_aload_n (k := 0) dX12_init_702 0 rfl rfl ?_
  refine wp_iconst (v := nI 2) dX12_init_703 (by decide) rfl ?_
  refine st_newaI (N := 2) (n' := 209) dX12_init_704 rfl zsh_208 (by decide) (by decide) (by decide +kernel) rfl (by decide +kernel) (by decide +kernel) rfl ?_
  refine wp_dup dX12_init_706 rfl rfl ?_
  refine wp_iconst (v := nI 0) dX12_init_707 (by decide) rfl ?_
  refine wp_bipush (v := nI 100) dX12_init_708 (by decide) rfl ?_
  refine st_iast (j := 0) (i' := 351) dX12_init_710 zsh_208 (by decide) rfl (by decide) (by decide) (by decide +kernel) rfl rfl ?_
  refine wp_dup dX12_init_711 rfl rfl ?_
  refine wp_iconst (v := nI 1) dX12_init_712 (by decide) rfl ?_
  refine wp_bipush (v := nI 100) dX12_init_713 (by decide) rfl ?_
  refine st_iast (j := 1) (i' := 352) dX12_init_715 zsh_208 (by decide) rfl (by decide) (by decide) (by decide +kernel) rfl rfl ?_
  refine st_putRF (r' := 213) dX12_init_716 zf_RX12_106 rfl zsh_177 (by decide) (by decide +kernel) rfl (by decide) rfl rfl ?_
  refine wp_aload_n (k := 0) dX12_init_719 0 rfl rfl ?_
  refine wp_iconst (v := nI 4) dX12_init_720 (by decide) rfl ?_
  refine st_newaI (N := 4) (n' := 210) dX12_init_721 rfl zsh_209 (by decide) (by decide) (by decide +kernel) rfl (by decide +kernel) (by decide +kernel) rfl ?_
  refine wp_dup dX12_init_723 rfl rfl ?_
  refine wp_iconst (v := nI 0) dX12_init_724 (by decide) rfl ?_
  refine wp_iconst (v := (-1)) dX12_init_725 (by decide) rfl ?_
  refine st_iast (j := 0) (i' := 353) dX12_init_726 zsh_209 (by decide) rfl (by decide) (by decide) (by decide +kernel) rfl rfl ?_
  refine wp_dup dX12_init_727 rfl rfl ?_
  refine wp_iconst (v := nI 1) dX12_init_728 (by decide) rfl ?_
  refine wp_iconst (v := (-1)) dX12_init_729 (by decide) rfl ?_
  refine st_iast (j := 1) (i' := 354) dX12_init_730 zsh_209 (by decide) rfl (by decide) (by decide) (by decide +kernel) rfl rfl ?_
  refine wp_dup dX12_init_731 rfl rfl ?_
  refine wp_iconst (v := nI 2) dX12_init_732 (by decide) rfl ?_
  refine wp_iconst (v := (-1)) dX12_init_733 (by decide) rfl ?_
  refine st_iast (j := 2) (i' := 355) dX12_init_734 zsh_209 (by decide) rfl (by decide) (by decide) (by decide +kernel) rfl rfl ?_
  refine wp_dup dX12_init_735 rfl rfl ?_
  refine wp_iconst (v := nI 3) dX12_init_736 (by decide) rfl ?_
  refine wp_iconst (v := (-1)) dX12_init_737 (by decide) rfl ?_
  refine st_iast (j := 3) (i' := 356) dX12_init_738 zsh_209 (by decide) rfl (by decide) (by decide) (by decide +kernel) rfl rfl ?_
  refine st_putRF (r' := 214) dX12_init_739 zf_RX12_109 rfl zsh_177 (by decide) (by decide +kernel) rfl (by decide) rfl rfl ?_
  refine wp_aload_n (k := 0) dX12_init_742 0 rfl rfl ?_
  refine wp_iconst (v := nI 4) dX12_init_743 (by decide) rfl ?_
  refine st_newaI (N := 4) (n' := 211) dX12_init_744 rfl zsh_210 (by decide) (by decide) (by decide +kernel) rfl (by decide +kernel) (by decide +kernel) rfl ?_
  refine st_putRF (r' := 215) dX12_init_746 zf_RX12_112 rfl zsh_177 (by decide) (by decide +kernel) rfl (by decide) rfl rfl ?_
  refine wp_aload_n (k := 0) dX12_init_749 0 rfl rfl ?_
  refine wp_sipush (v := nI 3200) dX12_init_750 (by decide) rfl ?_
  refine st_newaI (N := 3200) (n' := 212) dX12_init_753 rfl zsh_211 (by decide) (by decide) (by decide +kernel) rfl (by decide +kernel) (by decide +kernel) rfl ?_
  refine st_putRF (r' := 216) dX12_init_755 zf_RX12_115 rfl zsh_177 (by decide) (by decide +kernel) rfl (by decide) rfl rfl ?_
  refine wp_aload_n (k := 0) dX12_init_758 0 rfl rfl ?_
  refine wp_sipush (v := nI 1700) dX12_init_759 (by decide) rfl ?_
  refine st_newaI (N := 1700) (n' := 213) dX12_init_762 rfl zsh_212 (by decide) (by decide) (by decide +kernel) rfl (by decide +kernel) (by decide +kernel) rfl ?_
  refine st_putRF (r' := 217) dX12_init_764 zf_RX12_118 rfl zsh_177 (by decide) (by decide +kernel) rfl (by decide) rfl rfl ?_
  refine wp_aload_n (k := 0) dX12_init_767 0 rfl rfl ?_
  refine wp_sipush (v := nI 1700) dX12_init_768 (by decide) rfl ?_
  refine st_newaL (N := 1700) (n' := 214) dX12_init_771 rfl zsh_213 (by decide) (by decide) (by decide +kernel) rfl (by decide +kernel) (by decide +kernel) rfl ?_
  refine st_putRF (r' := 218) dX12_init_773 zf_RX12_121 rfl zsh_177 (by decide) (by decide +kernel) rfl (by decide) rfl rfl ?_
  refine wp_aload_n (k := 0) dX12_init_776 0 rfl rfl ?_
  refine wp_bipush (v := nI 6) dX12_init_777 (by decide) rfl ?_
  refine st_newaI (N := 6) (n' := 215) dX12_init_779 rfl zsh_214 (by decide) (by decide) (by decide +kernel) rfl (by decide +kernel) (by decide +kernel) rfl ?_
  refine st_putRF (r' := 219) dX12_init_781 zf_RX12_124 rfl zsh_177 (by decide) (by decide +kernel) rfl (by decide) rfl rfl ?_
  refine wp_aload_n (k := 0) dX12_init_784 0 rfl rfl ?_
  refine wp_bipush (v := nI 51) dX12_init_785 (by decide) rfl ?_
  refine st_newaI (N := 51) (n' := 216) dX12_init_787 rfl zsh_215 (by decide) (by decide) (by decide +kernel) rfl (by decide +kernel) (by decide +kernel) rfl ?_
  refine st_putRF (r' := 220) dX12_init_789 zf_RX12_127 rfl zsh_177 (by decide) (by decide +kernel) rfl (by decide) rfl rfl ?_
  refine wp_aload_n (k := 0) dX12_init_792 0 rfl rfl ?_
  refine wp_bipush (v := nI 51) dX12_init_793 (by decide) rfl ?_
  refine st_newaI (N := 51) (n' := 217) dX12_init_795 rfl zsh_216 (by decide) (by decide) (by decide +kernel) rfl (by decide +kernel) (by decide +kernel) rfl ?_
  refine st_putRF (r' := 221) dX12_init_797 zf_RX12_130 rfl zsh_177 (by decide) (by decide +kernel) rfl (by decide) rfl rfl ?_
  refine wp_aload_n (k := 0) dX12_init_800 0 rfl rfl ?_
  refine wp_bipush (v := nI 8) dX12_init_801 (by decide) rfl ?_
  refine st_newaI (N := 8) (n' := 218) dX12_init_803 rfl zsh_217 (by decide) (by decide) (by decide +kernel) rfl (by decide +kernel) (by decide +kernel) rfl ?_
  refine st_putRF (r' := 222) dX12_init_805 zf_RX12_133 rfl zsh_177 (by decide) (by decide +kernel) rfl (by decide) rfl rfl ?_
  refine wp_aload_n (k := 0) dX12_init_808 0 rfl rfl ?_
  refine wp_bipush (v := nI 24) dX12_init_809 (by decide) rfl ?_
  refine st_newaI (N := 24) (n' := 219) dX12_init_811 rfl zsh_218 (by decide) (by decide) (by decide +kernel) rfl (by decide +kernel) (by decide +kernel) rfl ?_
  refine st_putRF (r' := 223) dX12_init_813 zf_RX12_136 rfl zsh_177 (by decide) (by decide +kernel) rfl (by decide) rfl rfl ?_
  refine wp_aload_n (k := 0) dX12_init_816 0 rfl rfl ?_
  refine wp_bipush (v := nI 64) dX12_init_817 (by decide) rfl ?_
  refine st_newaI (N := 64) (n' := 220) dX12_init_819 rfl zsh_219 (by decide) (by decide) (by decide +kernel) rfl (by decide +kernel) (by decide +kernel) rfl ?_
  refine st_putRF (r' := 224) dX12_init_821 zf_RX12_139 rfl zsh_177 (by decide) (by decide +kernel) rfl (by decide) rfl rfl ?_
  refine wp_aload_n (k := 0) dX12_init_824 0 rfl rfl ?_
  refine wp_bipush (v := nI 64) dX12_init_825 (by decide) rfl ?_
  refine st_newaI (N := 64) (n' := 221) dX12_init_827 rfl zsh_220 (by decide) (by decide) (by decide +kernel) rfl (by decide +kernel) (by decide +kernel) rfl ?_
  refine st_putRF (r' := 225) dX12_init_829 zf_RX12_142 rfl zsh_177 (by decide) (by decide +kernel) rfl (by decide) rfl rfl ?_
  refine wp_aload_n (k := 0) dX12_init_832 0 rfl rfl ?_
  refine wp_bipush (v := nI 8) dX12_init_833 (by decide) rfl ?_
  refine st_newaI (N := 8) (n' := 222) dX12_init_835 rfl zsh_221 (by decide) (by decide) (by decide +kernel) rfl (by decide +kernel) (by decide +kernel) rfl ?_
  refine st_putRF (r' := 226) dX12_init_837 zf_RX12_145 rfl zsh_177 (by decide) (by decide +kernel) rfl (by decide) rfl rfl ?_
  refine wp_aload_n (k := 0) dX12_init_840 0 rfl rfl ?_
  refine wp_bipush (v := nI 8) dX12_init_841 (by decide) rfl ?_
  refine st_newaI (N := 8) (n' := 223) dX12_init_843 rfl zsh_222 (by decide) (by decide) (by decide +kernel) rfl (by decide +kernel) (by decide +kernel) rfl ?_
  refine st_putRF (r' := 227) dX12_init_845 zf_RX12_148 rfl zsh_177 (by decide) (by decide +kernel) rfl (by decide) rfl rfl ?_
  refine wp_aload_n (k := 0) dX12_init_848 0 rfl rfl ?_
  refine wp_bipush (v := nI 17) dX12_init_849 (by decide) rfl ?_
  refine st_newaI (N := 17) (n' := 224) dX12_init_851 rfl zsh_223 (by decide) (by decide) (by decide +kernel) rfl (by decide +kernel) (by decide +kernel) rfl ?_
  refine st_putRF (r' := 228) dX12_init_853 zf_RX12_151 rfl zsh_177 (by decide) (by decide +kernel) rfl (by decide) rfl rfl ?_
  refine wp_aload_n (k := 0) dX12_init_856 0 rfl rfl ?_
  refine wp_bipush (v := nI 17) dX12_init_857 (by decide) rfl ?_
  refine st_newaI (N := 17) (n' := 225) dX12_init_859 rfl zsh_224 (by decide) (by decide) (by decide +kernel) rfl (by decide +kernel) (by decide +kernel) rfl ?_
  refine st_putRF (r' := 229) dX12_init_861 zf_RX12_154 rfl zsh_177 (by decide) (by decide +kernel) rfl (by decide) rfl rfl ?_
  refine wp_aload_n (k := 0) dX12_init_864 0 rfl rfl ?_
  refine wp_bipush (v := nI 8) dX12_init_865 (by decide) rfl ?_
  refine st_newaI (N := 8) (n' := 226) dX12_init_867 rfl zsh_225 (by decide) (by decide) (by decide +kernel) rfl (by decide +kernel) (by decide +kernel) rfl ?_
  refine st_putRF (r' := 230) dX12_init_869 zf_RX12_157 rfl zsh_177 (by decide) (by decide +kernel) rfl (by decide) rfl rfl ?_
  refine wp_aload_n (k := 0) dX12_init_872 0 rfl rfl ?_
  refine wp_sipush (v := nI 1020) dX12_init_873 (by decide) rfl ?_
  refine st_newaI (N := 1020) (n' := 227) dX12_init_876 rfl zsh_226 (by decide) (by decide) (by decide +kernel) rfl (by decide +kernel) (by decide +kernel) rfl ?_
  refine st_putRF (r' := 231) dX12_init_878 zf_RX12_160 rfl zsh_177 (by decide) (by decide +kernel) rfl (by decide) rfl rfl ?_
  refine wp_aload_n (k := 0) dX12_init_881 0 rfl rfl ?_
  refine wp_lconst (v := 1) dX12_init_882 rfl rfl ?_
  refine st_putL1 dX12_init_883 zf_RX12_163 rfl (by decide) rfl ?_
  refine wp_aload_n (k := 0) dX12_init_886 0 rfl rfl ?_
  refine wp_iconst (v := nI 5) dX12_init_887 (by decide) rfl ?_
  refine st_newaC (N := 5) (n' := 228) dX12_init_888 rfl zsh_227 (by decide) (by decide) (by decide +kernel) rfl (by decide +kernel) (by decide +kernel) rfl ?_
  refine wp_dup dX12_init_890 rfl rfl ?_
  refine wp_iconst (v := nI 0) dX12_init_891 (by decide) rfl ?_
  refine wp_bipush (v := nI 102) dX12_init_892 (by decide) rfl ?_
  refine st_cast (j := 0) (i' := 357) dX12_init_894 zsh_227 (by decide) rfl (by decide) (by decide) (by decide) (by decide +kernel) rfl rfl ?_
  refine wp_dup dX12_init_895 rfl rfl ?_
  refine wp_iconst (v := nI 1) dX12_init_896 (by decide) rfl ?_
  refine wp_bipush (v := nI 105) dX12_init_897 (by decide) rfl ?_
  refine st_cast (j := 1) (i' := 358) dX12_init_899 zsh_227 (by decide) rfl (by decide) (by decide) (by decide) (by decide +kernel) rfl rfl ?_
  refine wp_dup dX12_init_900 rfl rfl ?_
  refine wp_iconst (v := nI 2) dX12_init_901 (by decide) rfl ?_
  refine wp_bipush (v := nI 114) dX12_init_902 (by decide) rfl ?_
  refine st_cast (j := 2) (i' := 359) dX12_init_904 zsh_227 (by decide) rfl (by decide) (by decide) (by decide) (by decide +kernel) rfl rfl ?_
  refine wp_dup dX12_init_905 rfl rfl ?_
  refine wp_iconst (v := nI 3) dX12_init_906 (by decide) rfl ?_
  refine wp_bipush (v := nI 115) dX12_init_907 (by decide) rfl ?_
  refine st_cast (j := 3) (i' := 360) dX12_init_909 zsh_227 (by decide) rfl (by decide) (by decide) (by decide) (by decide +kernel) rfl rfl ?_
  refine wp_dup dX12_init_910 rfl rfl ?_
  refine wp_iconst (v := nI 4) dX12_init_911 (by decide) rfl ?_
  refine wp_bipush (v := nI 116) dX12_init_912 (by decide) rfl ?_
  refine st_cast (j := 4) (i' := 361) dX12_init_914 zsh_227 (by decide) rfl (by decide) (by decide) (by decide) (by decide +kernel) rfl rfl ?_
  refine st_putRF (r' := 232) dX12_init_915 zf_RX12_167 rfl zsh_177 (by decide) (by decide +kernel) rfl (by decide) rfl rfl ?_
  refine wp_aload_n (k := 0) dX12_init_918 0 rfl rfl ?_
  refine wp_iconst (v := nI 4) dX12_init_919 (by decide) rfl ?_
  refine st_newaC (N := 4) (n' := 229) dX12_init_920 rfl zsh_228 (by decide) (by decide) (by decide +kernel) rfl (by decide +kernel) (by decide +kernel) rfl ?_
  refine wp_dup dX12_init_922 rfl rfl ?_
  refine wp_iconst (v := nI 0) dX12_init_923 (by decide) rfl ?_
  refine wp_bipush (v := nI 108) dX12_init_924 (by decide) rfl ?_
  refine st_cast (j := 0) (i' := 362) dX12_init_926 zsh_228 (by decide) rfl (by decide) (by decide) (by decide) (by decide +kernel) rfl rfl ?_
  refine wp_dup dX12_init_927 rfl rfl ?_
  refine wp_iconst (v := nI 1) dX12_init_928 (by decide) rfl ?_
  refine wp_bipush (v := nI 97) dX12_init_929 (by decide) rfl ?_
  refine st_cast (j := 1) (i' := 363) dX12_init_931 zsh_228 (by decide) rfl (by decide) (by decide) (by decide) (by decide +kernel) rfl rfl ?_
  refine wp_dup dX12_init_932 rfl rfl ?_
  refine wp_iconst (v := nI 2) dX12_init_933 (by decide) rfl ?_
  refine wp_bipush (v := nI 115) dX12_init_934 (by decide) rfl ?_
  refine st_cast (j := 2) (i' := 364) dX12_init_936 zsh_228 (by decide) rfl (by decide) (by decide) (by decide) (by decide +kernel) rfl rfl ?_
  refine wp_dup dX12_init_937 rfl rfl ?_
  refine wp_iconst (v := nI 3) dX12_init_938 (by decide) rfl ?_
  refine wp_bipush (v := nI 116) dX12_init_939 (by decide) rfl ?_
  refine st_cast (j := 3) (i' := 365) dX12_init_941 zsh_228 (by decide) rfl (by decide) (by decide) (by decide) (by decide +kernel) rfl rfl ?_
  refine st_putRF (r' := 233) dX12_init_942 zf_RX12_170 rfl zsh_177 (by decide) (by decide +kernel) rfl (by decide) rfl rfl ?_
  refine wp_aload_n (k := 0) dX12_init_945 0 rfl rfl ?_
  refine wp_iconst (v := nI 5) dX12_init_946 (by decide) rfl ?_
  refine st_newaC (N := 5) (n' := 230) dX12_init_947 rfl zsh_229 (by decide) (by decide) (by decide +kernel) rfl (by decide +kernel) (by decide +kernel) rfl ?_
  refine wp_dup dX12_init_949 rfl rfl ?_
  refine wp_iconst (v := nI 0) dX12_init_950 (by decide) rfl ?_
  refine wp_bipush (v := nI 111) dX12_init_951 (by decide) rfl ?_
  refine st_cast (j := 0) (i' := 366) dX12_init_953 zsh_229 (by decide) rfl (by decide) (by decide) (by decide) (by decide +kernel) rfl rfl ?_
  refine wp_dup dX12_init_954 rfl rfl ?_
  refine wp_iconst (v := nI 1) dX12_init_955 (by decide) rfl ?_
  refine wp_bipush (v := nI 102) dX12_init_956 (by decide) rfl ?_
  refine st_cast (j := 1) (i' := 367) dX12_init_958 zsh_229 (by decide) rfl (by decide) (by decide) (by decide) (by decide +kernel) rfl rfl ?_
  refine wp_dup dX12_init_959 rfl rfl ?_
  refine wp_iconst (v := nI 2) dX12_init_960 (by decide) rfl ?_
  refine wp_bipush (v := nI 116) dX12_init_961 (by decide) rfl ?_
  refine st_cast (j := 2) (i' := 368) dX12_init_963 zsh_229 (by decide) rfl (by decide) (by decide) (by decide) (by decide +kernel) rfl rfl ?_
  refine wp_dup dX12_init_964 rfl rfl ?_
  refine wp_iconst (v := nI 3) dX12_init_965 (by decide) rfl ?_
  refine wp_bipush (v := nI 101) dX12_init_966 (by decide) rfl ?_
  refine st_cast (j := 3) (i' := 369) dX12_init_968 zsh_229 (by decide) rfl (by decide) (by decide) (by decide) (by decide +kernel) rfl rfl ?_
  refine wp_dup dX12_init_969 rfl rfl ?_
  refine wp_iconst (v := nI 4) dX12_init_970 (by decide) rfl ?_
  refine wp_bipush (v := nI 110) dX12_init_971 (by decide) rfl ?_
  refine st_cast (j := 4) (i' := 370) dX12_init_973 zsh_229 (by decide) rfl (by decide) (by decide) (by decide) (by decide +kernel) rfl rfl ?_
  refine st_putRF (r' := 234) dX12_init_974 zf_RX12_173 rfl zsh_177 (by decide) (by decide +kernel) rfl (by decide) rfl rfl ?_
  refine wp_aload_n (k := 0) dX12_init_977 0 rfl rfl ?_
  refine wp_iconst (v := nI 5) dX12_init_978 (by decide) rfl ?_
  refine st_newaC (N := 5) (n' := 231) dX12_init_979 rfl zsh_230 (by decide) (by decide) (by decide +kernel) rfl (by decide +kernel) (by decide +kernel) rfl ?_
  refine wp_dup dX12_init_981 rfl rfl ?_
  refine wp_iconst (v := nI 0) dX12_init_982 (by decide) rfl ?_
  refine wp_bipush (v := nI 116) dX12_init_983 (by decide) rfl ?_
  refine st_cast (j := 0) (i' := 371) dX12_init_985 zsh_230 (by decide) rfl (by decide) (by decide) (by decide) (by decide +kernel) rfl rfl ?_
  refine wp_dup dX12_init_986 rfl rfl ?_
  refine wp_iconst (v := nI 1) dX12_init_987 (by decide) rfl ?_
  refine wp_bipush (v := nI 111) dX12_init_988 (by decide) rfl ?_
  refine st_cast (j := 1) (i' := 372) dX12_init_990 zsh_230 (by decide) rfl (by decide) (by decide) (by decide) (by decide +kernel) rfl rfl ?_
  refine wp_dup dX12_init_991 rfl rfl ?_
  refine wp_iconst (v := nI 2) dX12_init_992 (by decide) rfl ?_
  refine wp_bipush (v := nI 116) dX12_init_993 (by decide) rfl ?_
  refine st_cast (j := 2) (i' := 373) dX12_init_995 zsh_230 (by decide) rfl (by decide) (by decide) (by decide) (by decide +kernel) rfl rfl ?_
  refine wp_dup dX12_init_996 rfl rfl ?_
  refine wp_iconst (v := nI 3) dX12_init_997 (by decide) rfl ?_
  refine wp_bipush (v := nI 97) dX12_init_998 (by decide) rfl ?_
  refine st_cast (j := 3) (i' := 374) dX12_init_1000 zsh_230 (by decide) rfl (by decide) (by decide) (by decide) (by decide +kernel) rfl rfl ?_
  refine wp_dup dX12_init_1001 rfl rfl ?_
  refine wp_iconst (v := nI 4) dX12_init_1002 (by decide) rfl ?_
  refine wp_bipush (v := nI 108) dX12_init_1003 (by decide) rfl ?_
  refine st_cast (j := 4) (i' := 375) dX12_init_1005 zsh_230 (by decide) rfl (by decide) (by decide) (by decide) (by decide +kernel) rfl rfl ?_
  refine st_putRF (r' := 235) dX12_init_1006 zf_RX12_176 rfl zsh_177 (by decide) (by decide +kernel) rfl (by decide) rfl rfl ?_
  refine wp_aload_n (k := 0) dX12_init_1009 0 rfl rfl ?_
  refine wp_iconst (v := nI 4) dX12_init_1010 (by decide) rfl ?_
  refine st_newaC (N := 4) (n' := 232) dX12_init_1011 rfl zsh_231 (by decide) (by decide) (by decide +kernel) rfl (by decide +kernel) (by decide +kernel) rfl ?_
  refine wp_dup dX12_init_1013 rfl rfl ?_
  refine wp_iconst (v := nI 0) dX12_init_1014 (by decide) rfl ?_
  refine wp_bipush (v := nI 109) dX12_init_1015 (by decide) rfl ?_
  refine st_cast (j := 0) (i' := 376) dX12_init_1017 zsh_231 (by decide) rfl (by decide) (by decide) (by decide) (by decide +kernel) rfl rfl ?_
  refine wp_dup dX12_init_1018 rfl rfl ?_
  refine wp_iconst (v := nI 1) dX12_init_1019 (by decide) rfl ?_
  refine wp_bipush (v := nI 111) dX12_init_1020 (by decide) rfl ?_
  refine st_cast (j := 1) (i' := 377) dX12_init_1022 zsh_231 (by decide) rfl (by decide) (by decide) (by decide) (by decide +kernel) rfl rfl ?_
  refine wp_dup dX12_init_1023 rfl rfl ?_
  refine wp_iconst (v := nI 2) dX12_init_1024 (by decide) rfl ?_
  refine wp_bipush (v := nI 115) dX12_init_1025 (by decide) rfl ?_
  refine st_cast (j := 2) (i' := 378) dX12_init_1027 zsh_231 (by decide) rfl (by decide) (by decide) (by decide) (by decide +kernel) rfl rfl ?_
  refine wp_dup dX12_init_1028 rfl rfl ?_
  refine wp_iconst (v := nI 3) dX12_init_1029 (by decide) rfl ?_
  refine wp_bipush (v := nI 116) dX12_init_1030 (by decide) rfl ?_
  refine st_cast (j := 3) (i' := 379) dX12_init_1032 zsh_231 (by decide) rfl (by decide) (by decide) (by decide) (by decide +kernel) rfl rfl ?_
  refine st_putRF (r' := 236) dX12_init_1033 zf_RX12_179 rfl zsh_177 (by decide) (by decide +kernel) rfl (by decide) rfl rfl ?_
  refine wp_aload_n (k := 0) dX12_init_1036 0 rfl rfl ?_
  refine wp_iconst (v := nI 5) dX12_init_1037 (by decide) rfl ?_
  refine st_newaC (N := 5) (n' := 233) dX12_init_1038 rfl zsh_232 (by decide) (by decide) (by decide +kernel) rfl (by decide +kernel) (by decide +kernel) rfl ?_
  refine wp_dup dX12_init_1040 rfl rfl ?_
  refine wp_iconst (v := nI 0) dX12_init_1041 (by decide) rfl ?_
  refine wp_bipush (v := nI 108) dX12_init_1042 (by decide) rfl ?_
  refine st_cast (j := 0) (i' := 380) dX12_init_1044 zsh_232 (by decide) rfl (by decide) (by decide) (by decide) (by decide +kernel) rfl rfl ?_
  refine wp_dup dX12_init_1045 rfl rfl ?_
  refine wp_iconst (v := nI 1) dX12_init_1046 (by decide) rfl ?_
  refine wp_bipush (v := nI 101) dX12_init_1047 (by decide) rfl ?_
  refine st_cast (j := 1) (i' := 381) dX12_init_1049 zsh_232 (by decide) rfl (by decide) (by decide) (by decide) (by decide +kernel) rfl rfl ?_
  refine wp_dup dX12_init_1050 rfl rfl ?_
  refine wp_iconst (v := nI 2) dX12_init_1051 (by decide) rfl ?_
  refine wp_bipush (v := nI 97) dX12_init_1052 (by decide) rfl ?_
  refine st_cast (j := 2) (i' := 382) dX12_init_1054 zsh_232 (by decide) rfl (by decide) (by decide) (by decide) (by decide +kernel) rfl rfl ?_
  refine wp_dup dX12_init_1055 rfl rfl ?_
  refine wp_iconst (v := nI 3) dX12_init_1056 (by decide) rfl ?_
  refine wp_bipush (v := nI 115) dX12_init_1057 (by decide) rfl ?_
  refine st_cast (j := 3) (i' := 383) dX12_init_1059 zsh_232 (by decide) rfl (by decide) (by decide) (by decide) (by decide +kernel) rfl rfl ?_
  refine wp_dup dX12_init_1060 rfl rfl ?_
  refine wp_iconst (v := nI 4) dX12_init_1061 (by decide) rfl ?_
  refine wp_bipush (v := nI 116) dX12_init_1062 (by decide) rfl ?_
  refine st_cast (j := 4) (i' := 384) dX12_init_1064 zsh_232 (by decide) rfl (by decide) (by decide) (by decide) (by decide +kernel) rfl rfl ?_
  refine st_putRF (r' := 237) dX12_init_1065 zf_RX12_182 rfl zsh_177 (by decide) (by decide +kernel) rfl (by decide) rfl rfl ?_
  refine wp_aload_n (k := 0) dX12_init_1068 0 rfl rfl ?_
  refine wp_iconst (v := nI 3) dX12_init_1069 (by decide) rfl ?_
  refine st_newaC (N := 3) (n' := 234) dX12_init_1070 rfl zsh_233 (by decide) (by decide) (by decide +kernel) rfl (by decide +kernel) (by decide +kernel) rfl ?_
  refine wp_dup dX12_init_1072 rfl rfl ?_
  refine wp_iconst (v := nI 0) dX12_init_1073 (by decide) rfl ?_
  refine wp_bipush (v := nI 110) dX12_init_1074 (by decide) rfl ?_
  refine st_cast (j := 0) (i' := 385) dX12_init_1076 zsh_233 (by decide) rfl (by decide) (by decide) (by decide) (by decide +kernel) rfl rfl ?_
  refine wp_dup dX12_init_1077 rfl rfl ?_
  refine wp_iconst (v := nI 1) dX12_init_1078 (by decide) rfl ?_
  refine wp_bipush (v := nI 111) dX12_init_1079 (by decide) rfl ?_
  refine st_cast (j := 1) (i' := 386) dX12_init_1081 zsh_233 (by decide) rfl (by decide) (by decide) (by decide) (by decide +kernel) rfl rfl ?_
  refine wp_dup dX12_init_1082 rfl rfl ?_
  refine wp_iconst (v := nI 2) dX12_init_1083 (by decide) rfl ?_
  refine wp_bipush (v := nI 116) dX12_init_1084 (by decide) rfl ?_
  refine st_cast (j := 2) (i' := 387) dX12_init_1086 zsh_233 (by decide) rfl (by decide) (by decide) (by decide) (by decide +kernel) rfl rfl ?_
  refine st_putRF (r' := 238) dX12_init_1087 zf_RX12_185 rfl zsh_177 (by decide) (by decide +kernel) rfl (by decide) rfl rfl ?_
  refine wp_aload_n (k := 0) dX12_init_1090 0 rfl rfl ?_
  refine wp_iconst (v := nI 3) dX12_init_1091 (by decide) rfl ?_
  refine st_newaC (N := 3) (n' := 235) dX12_init_1092 rfl zsh_234 (by decide) (by decide) (by decide +kernel) rfl (by decide +kernel) (by decide +kernel) rfl ?_
  refine wp_dup dX12_init_1094 rfl rfl ?_
  refine wp_iconst (v := nI 0) dX12_init_1095 (by decide) rfl ?_
  refine wp_bipush (v := nI 97) dX12_init_1096 (by decide) rfl ?_
  refine st_cast (j := 0) (i' := 388) dX12_init_1098 zsh_234 (by decide) rfl (by decide) (by decide) (by decide) (by decide +kernel) rfl rfl ?_
  refine wp_dup dX12_init_1099 rfl rfl ?_
  refine wp_iconst (v := nI 1) dX12_init_1100 (by decide) rfl ?_
  refine wp_bipush (v := nI 110) dX12_init_1101 (by decide) rfl ?_
  refine st_cast (j := 1) (i' := 389) dX12_init_1103 zsh_234 (by decide) rfl (by decide) (by decide) (by decide) (by decide +kernel) rfl rfl ?_
  refine wp_dup dX12_init_1104 rfl rfl ?_
  refine wp_iconst (v := nI 2) dX12_init_1105 (by decide) rfl ?_
  refine wp_bipush (v := nI 100) dX12_init_1106 (by decide) rfl ?_
  refine st_cast (j := 2) (i' := 390) dX12_init_1108 zsh_234 (by decide) rfl (by decide) (by decide) (by decide) (by decide +kernel) rfl rfl ?_
  refine st_putRF (r' := 239) dX12_init_1109 zf_RX12_188 rfl zsh_177 (by decide) (by decide +kernel) rfl (by decide) rfl rfl ?_
  refine wp_aload_n (k := 0) dX12_init_1112 0 rfl rfl ?_
  refine wp_iconst (v := nI 2) dX12_init_1113 (by decide) rfl ?_
  refine st_newaC (N := 2) (n' := 236) dX12_init_1114 rfl zsh_235 (by decide) (by decide) (by decide +kernel) rfl (by decide +kernel) (by decide +kernel) rfl ?_
  refine wp_dup dX12_init_1116 rfl rfl ?_
  refine wp_iconst (v := nI 0) dX12_init_1117 (by decide) rfl ?_
  refine wp_bipush (v := nI 111) dX12_init_1118 (by decide) rfl ?_
  refine st_cast (j := 0) (i' := 391) dX12_init_1120 zsh_235 (by decide) rfl (by decide) (by decide) (by decide) (by decide +kernel) rfl rfl ?_
  refine wp_dup dX12_init_1121 rfl rfl ?_
  refine wp_iconst (v := nI 1) dX12_init_1122 (by decide) rfl ?_
  refine wp_bipush (v := nI 114) dX12_init_1123 (by decide) rfl ?_
  refine st_cast (j := 1) (i' := 392) dX12_init_1125 zsh_235 (by decide) rfl (by decide) (by decide) (by decide) (by decide +kernel) rfl rfl ?_
  refine st_putRF (r' := 240) dX12_init_1126 zf_RX12_191 rfl zsh_177 (by decide) (by decide +kernel) rfl (by decide) rfl rfl ?_
  refine wp_aload_n (k := 0) dX12_init_1129 0 rfl rfl ?_
  refine wp_iconst (v := nI 3) dX12_init_1130 (by decide) rfl ?_
  refine st_newaC (N := 3) (n' := 237) dX12_init_1131 rfl zsh_236 (by decide) (by decide) (by decide +kernel) rfl (by decide +kernel) (by decide +kernel) rfl ?_
  refine wp_dup dX12_init_1133 rfl rfl ?_
  refine wp_iconst (v := nI 0) dX12_init_1134 (by decide) rfl ?_
  refine wp_bipush (v := nI 97) dX12_init_1135 (by decide) rfl ?_
  refine st_cast (j := 0) (i' := 393) dX12_init_1137 zsh_236 (by decide) rfl (by decide) (by decide) (by decide) (by decide +kernel) rfl rfl ?_
  refine wp_dup dX12_init_1138 rfl rfl ?_
  refine wp_iconst (v := nI 1) dX12_init_1139 (by decide) rfl ?_
  refine wp_bipush (v := nI 108) dX12_init_1140 (by decide) rfl ?_
  refine st_cast (j := 1) (i' := 394) dX12_init_1142 zsh_236 (by decide) rfl (by decide) (by decide) (by decide) (by decide +kernel) rfl rfl ?_
  refine wp_dup dX12_init_1143 rfl rfl ?_
  refine wp_iconst (v := nI 2) dX12_init_1144 (by decide) rfl ?_
  refine wp_bipush (v := nI 108) dX12_init_1145 (by decide) rfl ?_
  refine st_cast (j := 2) (i' := 395) dX12_init_1147 zsh_236 (by decide) rfl (by decide) (by decide) (by decide) (by decide +kernel) rfl rfl ?_
  refine st_putRF (r' := 241) dX12_init_1148 zf_RX12_194 rfl zsh_177 (by decide) (by decide +kernel) rfl (by decide) rfl rfl ?_
  refine wp_aload_n (k := 0) dX12_init_1151 0 rfl rfl ?_
  refine wp_iconst (v := nI 3) dX12_init_1152 (by decide) rfl ?_
  refine st_newaC (N := 3) (n' := 238) dX12_init_1153 rfl zsh_237 (by decide) (by decide) (by decide +kernel) rfl (by decide +kernel) (by decide +kernel) rfl ?_
  refine wp_dup dX12_init_1155 rfl rfl ?_
  refine wp_iconst (v := nI 0) dX12_init_1156 (by decide) rfl ?_
  refine wp_bipush (v := nI 109) dX12_init_1157 (by decide) rfl ?_
  refine st_cast (j := 0) (i' := 396) dX12_init_1159 zsh_237 (by decide) rfl (by decide) (by decide) (by decide) (by decide +kernel) rfl rfl ?_
  refine wp_dup dX12_init_1160 rfl rfl ?_
  refine wp_iconst (v := nI 1) dX12_init_1161 (by decide) rfl ?_
  refine wp_bipush (v := nI 105) dX12_init_1162 (by decide) rfl ?_
  refine st_cast (j := 1) (i' := 397) dX12_init_1164 zsh_237 (by decide) rfl (by decide) (by decide) (by decide) (by decide +kernel) rfl rfl ?_
  refine wp_dup dX12_init_1165 rfl rfl ?_
  refine wp_iconst (v := nI 2) dX12_init_1166 (by decide) rfl ?_
  refine wp_bipush (v := nI 110) dX12_init_1167 (by decide) rfl ?_
  refine st_cast (j := 2) (i' := 398) dX12_init_1169 zsh_237 (by decide) rfl (by decide) (by decide) (by decide) (by decide +kernel) rfl rfl ?_
  refine st_putRF (r' := 242) dX12_init_1170 zf_RX12_197 rfl zsh_177 (by decide) (by decide +kernel) rfl (by decide) rfl rfl ?_
  refine wp_aload_n (k := 0) dX12_init_1173 0 rfl rfl ?_
  refine wp_iconst (v := nI 3) dX12_init_1174 (by decide) rfl ?_
  refine st_newaC (N := 3) (n' := 239) dX12_init_1175 rfl zsh_238 (by decide) (by decide) (by decide +kernel) rfl (by decide +kernel) (by decide +kernel) rfl ?_
  refine wp_dup dX12_init_1177 rfl rfl ?_
  refine wp_iconst (v := nI 0) dX12_init_1178 (by decide) rfl ?_
  refine wp_bipush (v := nI 109) dX12_init_1179 (by decide) rfl ?_
  refine st_cast (j := 0) (i' := 399) dX12_init_1181 zsh_238 (by decide) rfl (by decide) (by decide) (by decide) (by decide +kernel) rfl rfl ?_
  refine wp_dup dX12_init_1182 rfl rfl ?_
  refine wp_iconst (v := nI 1) dX12_init_1183 (by decide) rfl ?_
  refine wp_bipush (v := nI 97) dX12_init_1184 (by decide) rfl ?_
  refine st_cast (j := 1) (i' := 400) dX12_init_1186 zsh_238 (by decide) rfl (by decide) (by decide) (by decide) (by decide +kernel) rfl rfl ?_
  refine wp_dup dX12_init_1187 rfl rfl ?_
  refine wp_iconst (v := nI 2) dX12_init_1188 (by decide) rfl ?_
  refine wp_bipush (v := nI 120) dX12_init_1189 (by decide) rfl ?_
  refine st_cast (j := 2) (i' := 401) dX12_init_1191 zsh_238 (by decide) rfl (by decide) (by decide) (by decide) (by decide +kernel) rfl rfl ?_
  refine st_putRF (r' := 243) dX12_init_1192 zf_RX12_200 rfl zsh_177 (by decide) (by decide +kernel) rfl (by decide) rfl rfl ?_
  refine wp_aload_n (k := 0) dX12_init_1195 0 rfl rfl ?_
  refine wp_bipush (v := nI 6) dX12_init_1196 (by decide) rfl ?_
  refine st_newaC (N := 6) (n' := 240) dX12_init_1198 rfl zsh_239 (by decide) (by decide) (by decide +kernel) rfl (by decide +kernel) (by decide +kernel) rfl ?_
  refine wp_dup dX12_init_1200 rfl rfl ?_
  refine wp_iconst (v := nI 0) dX12_init_1201 (by decide) rfl ?_
  refine wp_bipush (v := nI 110) dX12_init_1202 (by decide) rfl ?_
  refine st_cast (j := 0) (i' := 402) dX12_init_1204 zsh_239 (by decide) rfl (by decide) (by decide) (by decide) (by decide +kernel) rfl rfl ?_
  refine wp_dup dX12_init_1205 rfl rfl ?_
  refine wp_iconst (v := nI 1) dX12_init_1206 (by decide) rfl ?_
  refine wp_bipush (v := nI 117) dX12_init_1207 (by decide) rfl ?_
  refine st_cast (j := 1) (i' := 403) dX12_init_1209 zsh_239 (by decide) rfl (by decide) (by decide) (by decide) (by decide +kernel) rfl rfl ?_
  refine wp_dup dX12_init_1210 rfl rfl ?_
  refine wp_iconst (v := nI 2) dX12_init_1211 (by decide) rfl ?_
  refine wp_bipush (v := nI 109) dX12_init_1212 (by decide) rfl ?_
  refine st_cast (j := 2) (i' := 404) dX12_init_1214 zsh_239 (by decide) rfl (by decide) (by decide) (by decide) (by decide +kernel) rfl rfl ?_
  refine wp_dup dX12_init_1215 rfl rfl ?_
  refine wp_iconst (v := nI 3) dX12_init_1216 (by decide) rfl ?_
  refine wp_bipush (v := nI 98) dX12_init_1217 (by decide) rfl ?_
  refine st_cast (j := 3) (i' := 405) dX12_init_1219 zsh_239 (by decide) rfl (by decide) (by decide) (by decide) (by decide +kernel) rfl rfl ?_
  refine wp_dup dX12_init_1220 rfl rfl ?_
  refine wp_iconst (v := nI 4) dX12_init_1221 (by decide) rfl ?_
  refine wp_bipush (v := nI 101) dX12_init_1222 (by decide) rfl ?_
  refine st_cast (j := 4) (i' := 406) dX12_init_1224 zsh_239 (by decide) rfl (by decide) (by decide) (by decide) (by decide +kernel) rfl rfl ?_
  refine wp_dup dX12_init_1225 rfl rfl ?_
  refine wp_iconst (v := nI 5) dX12_init_1226 (by decide) rfl ?_
  refine wp_bipush (v := nI 114) dX12_init_1227 (by decide) rfl ?_
  refine st_cast (j := 5) (i' := 407) dX12_init_1229 zsh_239 (by decide) rfl (by decide) (by decide) (by decide) (by decide +kernel) rfl rfl ?_
  refine st_putRF (r' := 244) dX12_init_1230 zf_RX12_203 rfl zsh_177 (by decide) (by decide +kernel) rfl (by decide) rfl rfl ?_
  refine wp_aload_n (k := 0) dX12_init_1233 0 rfl rfl ?_
  refine wp_iconst (v := nI 5) dX12_init_1234 (by decide) rfl ?_
  refine st_newaC (N := 5) (n' := 241) dX12_init_1235 rfl zsh_240 (by decide) (by decide) (by decide +kernel) rfl (by decide +kernel) (by decide +kernel) rfl ?_
  refine wp_dup dX12_init_1237 rfl rfl ?_
  refine wp_iconst (v := nI 0) dX12_init_1238 (by decide) rfl ?_
  refine wp_bipush (v := nI 114) dX12_init_1239 (by decide) rfl ?_
  refine st_cast (j := 0) (i' := 408) dX12_init_1241 zsh_240 (by decide) rfl (by decide) (by decide) (by decide) (by decide +kernel) rfl rfl ?_
  refine wp_dup dX12_init_1242 rfl rfl ?_
  refine wp_iconst (v := nI 1) dX12_init_1243 (by decide) rfl ?_
  refine wp_bipush (v := nI 105) dX12_init_1244 (by decide) rfl ?_
  refine st_cast (j := 1) (i' := 409) dX12_init_1246 zsh_240 (by decide) rfl (by decide) (by decide) (by decide) (by decide +kernel) rfl rfl ?_
  refine wp_dup dX12_init_1247 rfl rfl ?_
  refine wp_iconst (v := nI 2) dX12_init_1248 (by decide) rfl ?_
  refine wp_bipush (v := nI 103) dX12_init_1249 (by decide) rfl ?_
  refine st_cast (j := 2) (i' := 410) dX12_init_1251 zsh_240 (by decide) rfl (by decide) (by decide) (by decide) (by decide +kernel) rfl rfl ?_
  refine wp_dup dX12_init_1252 rfl rfl ?_
  refine wp_iconst (v := nI 3) dX12_init_1253 (by decide) rfl ?_
  refine wp_bipush (v := nI 104) dX12_init_1254 (by decide) rfl ?_
  refine st_cast (j := 3) (i' := 411) dX12_init_1256 zsh_240 (by decide) rfl (by decide) (by decide) (by decide) (by decide +kernel) rfl rfl ?_
  refine wp_dup dX12_init_1257 rfl rfl ?_
  refine wp_iconst (v := nI 4) dX12_init_1258 (by decide) rfl ?_
  refine wp_bipush (v := nI 116) dX12_init_1259 (by decide) rfl ?_
  refine st_cast (j := 4) (i' := 412) dX12_init_1261 zsh_240 (by decide) rfl (by decide) (by decide) (by decide) (by decide +kernel) rfl rfl ?_
  refine st_putRF (r' := 245) dX12_init_1262 zf_RX12_206 rfl zsh_177 (by decide) (by decide +kernel) rfl (by decide) rfl rfl ?_
  refine wp_aload_n (k := 0) dX12_init_1265 0 rfl rfl ?_
  refine wp_iconst (v := nI 4) dX12_init_1266 (by decide) rfl ?_
  refine st_newaC (N := 4) (n' := 242) dX12_init_1267 rfl zsh_241 (by decide) (by decide) (by decide +kernel) rfl (by decide +kernel) (by decide +kernel) rfl ?_
  refine wp_dup dX12_init_1269 rfl rfl ?_
  refine wp_iconst (v := nI 0) dX12_init_1270 (by decide) rfl ?_
  refine wp_bipush (v := nI 108) dX12_init_1271 (by decide) rfl ?_
  refine st_cast (j := 0) (i' := 413) dX12_init_1273 zsh_241 (by decide) rfl (by decide) (by decide) (by decide) (by decide +kernel) rfl rfl ?_
  refine wp_dup dX12_init_1274 rfl rfl ?_
  refine wp_iconst (v := nI 1) dX12_init_1275 (by decide) rfl ?_
  refine wp_bipush (v := nI 101) dX12_init_1276 (by decide) rfl ?_
  refine st_cast (j := 1) (i' := 414) dX12_init_1278 zsh_241 (by decide) rfl (by decide) (by decide) (by decide) (by decide +kernel) rfl rfl ?_
  refine wp_dup dX12_init_1279 rfl rfl ?_
  refine wp_iconst (v := nI 2) dX12_init_1280 (by decide) rfl ?_
  refine wp_bipush (v := nI 102) dX12_init_1281 (by decide) rfl ?_
  refine st_cast (j := 2) (i' := 415) dX12_init_1283 zsh_241 (by decide) rfl (by decide) (by decide) (by decide) (by decide +kernel) rfl rfl ?_
  refine wp_dup dX12_init_1284 rfl rfl ?_
  refine wp_iconst (v := nI 3) dX12_init_1285 (by decide) rfl ?_
  refine wp_bipush (v := nI 116) dX12_init_1286 (by decide) rfl ?_
  refine st_cast (j := 3) (i' := 416) dX12_init_1288 zsh_241 (by decide) rfl (by decide) (by decide) (by decide) (by decide +kernel) rfl rfl ?_
  refine st_putRF (r' := 246) dX12_init_1289 zf_RX12_209 rfl zsh_177 (by decide) (by decide +kernel) rfl (by decide) rfl rfl ?_
  refine wp_aload_n (k := 0) dX12_init_1292 0 rfl rfl ?_
  refine wp_iconst (v := nI 4) dX12_init_1293 (by decide) rfl ?_
  refine st_newaC (N := 4) (n' := 243) dX12_init_1294 rfl zsh_242 (by decide) (by decide) (by decide +kernel) rfl (by decide +kernel) (by decide +kernel) rfl ?_
  refine wp_dup dX12_init_1296 rfl rfl ?_
  refine wp_iconst (v := nI 0) dX12_init_1297 (by decide) rfl ?_
  refine wp_bipush (v := nI 104) dX12_init_1298 (by decide) rfl ?_
  refine st_cast (j := 0) (i' := 417) dX12_init_1300 zsh_242 (by decide) rfl (by decide) (by decide) (by decide) (by decide +kernel) rfl rfl ?_
  refine wp_dup dX12_init_1301 rfl rfl ?_
  refine wp_iconst (v := nI 1) dX12_init_1302 (by decide) rfl ?_
  refine wp_bipush (v := nI 97) dX12_init_1303 (by decide) rfl ?_
  refine st_cast (j := 1) (i' := 418) dX12_init_1305 zsh_242 (by decide) rfl (by decide) (by decide) (by decide) (by decide +kernel) rfl rfl ?_
  refine wp_dup dX12_init_1306 rfl rfl ?_
  refine wp_iconst (v := nI 2) dX12_init_1307 (by decide) rfl ?_
  refine wp_bipush (v := nI 116) dX12_init_1308 (by decide) rfl ?_
  refine st_cast (j := 2) (i' := 419) dX12_init_1310 zsh_242 (by decide) rfl (by decide) (by decide) (by decide) (by decide +kernel) rfl rfl ?_
  refine wp_dup dX12_init_1311 rfl rfl ?_
  refine wp_iconst (v := nI 3) dX12_init_1312 (by decide) rfl ?_
  refine wp_bipush (v := nI 115) dX12_init_1313 (by decide) rfl ?_
  refine st_cast (j := 3) (i' := 420) dX12_init_1315 zsh_242 (by decide) rfl (by decide) (by decide) (by decide) (by decide +kernel) rfl rfl ?_
  refine st_putRF (r' := 247) dX12_init_1316 zf_RX12_212 rfl zsh_177 (by decide) (by decide +kernel) rfl (by decide) rfl rfl ?_
  refine wp_aload_n (k := 0) dX12_init_1319 0 rfl rfl ?_
  refine wp_iconst (v := nI 5) dX12_init_1320 (by decide) rfl ?_
  refine st_newaC (N := 5) (n' := 244) dX12_init_1321 rfl zsh_243 (by decide) (by decide) (by decide +kernel) rfl (by decide +kernel) (by decide +kernel) rfl ?_
  refine wp_dup dX12_init_1323 rfl rfl ?_
  refine wp_iconst (v := nI 0) dX12_init_1324 (by decide) rfl ?_
  refine wp_bipush (v := nI 116) dX12_init_1325 (by decide) rfl ?_
  refine st_cast (j := 0) (i' := 421) dX12_init_1327 zsh_243 (by decide) rfl (by decide) (by decide) (by decide) (by decide +kernel) rfl rfl ?_
  refine wp_dup dX12_init_1328 rfl rfl ?_
  refine wp_iconst (v := nI 1) dX12_init_1329 (by decide) rfl ?_
  refine wp_bipush (v := nI 104) dX12_init_1330 (by decide) rfl ?_
  refine st_cast (j := 1) (i' := 422) dX12_init_1332 zsh_243 (by decide) rfl (by decide) (by decide) (by decide) (by decide +kernel) rfl rfl ?_
  refine wp_dup dX12_init_1333 rfl rfl ?_
  refine wp_iconst (v := nI 2) dX12_init_1334 (by decide) rfl ?_
  refine wp_bipush (v := nI 117) dX12_init_1335 (by decide) rfl ?_
  refine st_cast (j := 2) (i' := 423) dX12_init_1337 zsh_243 (by decide) rfl (by decide) (by decide) (by decide) (by decide +kernel) rfl rfl ?_
  refine wp_dup dX12_init_1338 rfl rfl ?_
  refine wp_iconst (v := nI 3) dX12_init_1339 (by decide) rfl ?_
  refine wp_bipush (v := nI 109) dX12_init_1340 (by decide) rfl ?_
  refine st_cast (j := 3) (i' := 424) dX12_init_1342 zsh_243 (by decide) rfl (by decide) (by decide) (by decide) (by decide +kernel) rfl rfl ?_
  refine wp_dup dX12_init_1343 rfl rfl ?_
  refine wp_iconst (v := nI 4) dX12_init_1344 (by decide) rfl ?_
  refine wp_bipush (v := nI 98) dX12_init_1345 (by decide) rfl ?_
  refine st_cast (j := 4) (i' := 425) dX12_init_1347 zsh_243 (by decide) rfl (by decide) (by decide) (by decide) (by decide +kernel) rfl rfl ?_
  refine st_putRF (r' := 248) dX12_init_1348 zf_RX12_215 rfl zsh_177 (by decide) (by decide +kernel) rfl (by decide) rfl rfl ?_
  refine wp_aload_n (k := 0) dX12_init_1351 0 rfl rfl ?_
  refine wp_iconst (v := nI 4) dX12_init_1352 (by decide) rfl ?_
  refine st_newaC (N := 4) (n' := 245) dX12_init_1353 rfl zsh_244 (by decide) (by decide) (by decide +kernel) rfl (by decide +kernel) (by decide +kernel) rfl ?_
  refine wp_dup dX12_init_1355 rfl rfl ?_
  refine wp_iconst (v := nI 0) dX12_init_1356 (by decide) rfl ?_
  refine wp_bipush (v := nI 119) dX12_init_1357 (by decide) rfl ?_
  refine st_cast (j := 0) (i' := 426) dX12_init_1359 zsh_244 (by decide) rfl (by decide) (by decide) (by decide) (by decide +kernel) rfl rfl ?_
  refine wp_dup dX12_init_1360 rfl rfl ?_
  refine wp_iconst (v := nI 1) dX12_init_1361 (by decide) rfl ?_
  refine wp_bipush (v := nI 105) dX12_init_1362 (by decide) rfl ?_
  refine st_cast (j := 1) (i' := 427) dX12_init_1364 zsh_244 (by decide) rfl (by decide) (by decide) (by decide) (by decide +kernel) rfl rfl ?_
  refine wp_dup dX12_init_1365 rfl rfl ?_
  refine wp_iconst (v := nI 2) dX12_init_1366 (by decide) rfl ?_
  refine wp_bipush (v := nI 110) dX12_init_1367 (by decide) rfl ?_
  refine st_cast (j := 2) (i' := 428) dX12_init_1369 zsh_244 (by decide) rfl (by decide) (by decide) (by decide) (by decide +kernel) rfl rfl ?_
  refine wp_dup dX12_init_1370 rfl rfl ?_
  refine wp_iconst (v := nI 3) dX12_init_1371 (by decide) rfl ?_
  refine wp_bipush (v := nI 115) dX12_init_1372 (by decide) rfl ?_
  refine st_cast (j := 3) (i' := 429) dX12_init_1374 zsh_244 (by decide) rfl (by decide) (by decide) (by decide) (by decide +kernel) rfl rfl ?_
  refine st_putRF (r' := 249) dX12_init_1375 zf_RX12_218 rfl zsh_177 (by decide) (by decide +kernel) rfl (by decide) rfl rfl ?_
  refine wp_aload_n (k := 0) dX12_init_1378 0 rfl rfl ?_
  refine wp_sipush (v := nI 1700) dX12_init_1379 (by decide) rfl ?_
  refine st_newaI (N := 1700) (n' := 246) dX12_init_1382 rfl zsh_245 (by decide) (by decide) (by decide +kernel) rfl (by decide +kernel) (by decide +kernel) rfl ?_
  refine st_putRF (r' := 250) dX12_init_1384 zf_RX12_221 rfl zsh_177 (by decide) (by decide +kernel) rfl (by decide) rfl rfl ?_
  refine wp_aload_n (k := 0) dX12_init_1387 0 rfl rfl ?_
  refine wp_sipush (v := nI 1700) dX12_init_1388 (by decide) rfl ?_
  refine st_newaI (N := 1700) (n' := 247) dX12_init_1391 rfl zsh_246 (by decide) (by decide) (by decide +kernel) rfl (by decide +kernel) (by decide +kernel) rfl ?_
  refine st_putRF (r' := 251) dX12_init_1393 zf_RX12_224 rfl zsh_177 (by decide) (by decide +kernel) rfl (by decide) rfl rfl ?_
  refine wp_aload_n (k := 0) dX12_init_1396 0 rfl rfl ?_
  refine wp_sipush (v := nI 1700) dX12_init_1397 (by decide) rfl ?_
  refine st_newaL (N := 1700) (n' := 248) dX12_init_1400 rfl zsh_247 (by decide) (by decide) (by decide +kernel) rfl (by decide +kernel) (by decide +kernel) rfl ?_
  refine st_putRF (r' := 252) dX12_init_1402 zf_RX12_227 rfl zsh_177 (by decide) (by decide +kernel) rfl (by decide) rfl rfl ?_
  refine wp_aload_n (k := 0) dX12_init_1405 0 rfl rfl ?_
  refine wp_bipush (v := nI 55) dX12_init_1406 (by decide) rfl ?_
  refine st_newaI (N := 55) (n' := 249) dX12_init_1408 rfl zsh_248 (by decide) (by decide) (by decide +kernel) rfl (by decide +kernel) (by decide +kernel) rfl ?_
  refine st_putRF (r' := 253) dX12_init_1410 zf_RX12_230 rfl zsh_177 (by decide) (by decide +kernel) rfl (by decide) rfl rfl ?_
  exact wp_return dX12_init_1413 rfl ⟨rfl, rfl, rfl, rfl, rfl⟩ (by decide +kernel) (by decide +kernel)

