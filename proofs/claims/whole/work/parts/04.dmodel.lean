theorem dX12_init_0 : decode cX12_init 0 = .ok (.aload_n 0, 1) := by decide +kernel
theorem dX12_init_1 : decode cX12_init 1 = .ok (.invokespecial 1, 3) := by decide +kernel
theorem dX12_init_4 : decode cX12_init 4 = .ok (.aload_n 0, 1) := by decide +kernel
theorem dX12_init_5 : decode cX12_init 5 = .ok (.sipush 1600, 3) := by decide +kernel
theorem dX12_init_8 : decode cX12_init 8 = .ok (.newarray .int, 2) := by decide +kernel
theorem dX12_init_10 : decode cX12_init 10 = .ok (.putfield 7, 3) := by decide +kernel
theorem dX12_init_13 : decode cX12_init 13 = .ok (.aload_n 0, 1) := by decide +kernel
theorem dX12_init_14 : decode cX12_init 14 = .ok (.iconst (-1), 1) := by decide +kernel
theorem dX12_init_15 : decode cX12_init 15 = .ok (.putfield 13, 3) := by decide +kernel
theorem dX12_init_18 : decode cX12_init 18 = .ok (.aload_n 0, 1) := by decide +kernel
theorem dX12_init_19 : decode cX12_init 19 = .ok (.bipush 6, 2) := by decide +kernel
theorem dX12_init_21 : decode cX12_init 21 = .ok (.newarray .int, 2) := by decide +kernel
theorem dX12_init_23 : decode cX12_init 23 = .ok (.putfield 17, 3) := by decide +kernel
theorem dX12_init_26 : decode cX12_init 26 = .ok (.aload_n 0, 1) := by decide +kernel
theorem dX12_init_27 : decode cX12_init 27 = .ok (.bipush 6, 2) := by decide +kernel
theorem dX12_init_29 : decode cX12_init 29 = .ok (.newarray .char, 2) := by decide +kernel
theorem dX12_init_31 : decode cX12_init 31 = .ok (.dup, 1) := by decide +kernel
theorem dX12_init_32 : decode cX12_init 32 = .ok (.iconst 0, 1) := by decide +kernel
theorem dX12_init_33 : decode cX12_init 33 = .ok (.bipush 112, 2) := by decide +kernel
theorem dX12_init_35 : decode cX12_init 35 = .ok (.castore, 1) := by decide +kernel
theorem dX12_init_36 : decode cX12_init 36 = .ok (.dup, 1) := by decide +kernel
theorem dX12_init_37 : decode cX12_init 37 = .ok (.iconst 1, 1) := by decide +kernel
theorem dX12_init_38 : decode cX12_init 38 = .ok (.bipush 101, 2) := by decide +kernel
theorem dX12_init_40 : decode cX12_init 40 = .ok (.castore, 1) := by decide +kernel
theorem dX12_init_41 : decode cX12_init 41 = .ok (.dup, 1) := by decide +kernel
theorem dX12_init_42 : decode cX12_init 42 = .ok (.iconst 2, 1) := by decide +kernel
theorem dX12_init_43 : decode cX12_init 43 = .ok (.bipush 114, 2) := by decide +kernel
theorem dX12_init_45 : decode cX12_init 45 = .ok (.castore, 1) := by decide +kernel
theorem dX12_init_46 : decode cX12_init 46 = .ok (.dup, 1) := by decide +kernel
theorem dX12_init_47 : decode cX12_init 47 = .ok (.iconst 3, 1) := by decide +kernel
theorem dX12_init_48 : decode cX12_init 48 = .ok (.bipush 115, 2) := by decide +kernel
theorem dX12_init_50 : decode cX12_init 50 = .ok (.castore, 1) := by decide +kernel
theorem dX12_init_51 : decode cX12_init 51 = .ok (.dup, 1) := by decide +kernel
theorem dX12_init_52 : decode cX12_init 52 = .ok (.iconst 4, 1) := by decide +kernel
theorem dX12_init_53 : decode cX12_init 53 = .ok (.bipush 111, 2) := by decide +kernel
theorem dX12_init_55 : decode cX12_init 55 = .ok (.castore, 1) := by decide +kernel
theorem dX12_init_56 : decode cX12_init 56 = .ok (.dup, 1) := by decide +kernel
theorem dX12_init_57 : decode cX12_init 57 = .ok (.iconst 5, 1) := by decide +kernel
theorem dX12_init_58 : decode cX12_init 58 = .ok (.bipush 110, 2) := by decide +kernel
theorem dX12_init_60 : decode cX12_init 60 = .ok (.castore, 1) := by decide +kernel
theorem dX12_init_61 : decode cX12_init 61 = .ok (.putfield 20, 3) := by decide +kernel
theorem dX12_init_64 : decode cX12_init 64 = .ok (.aload_n 0, 1) := by decide +kernel
theorem dX12_init_65 : decode cX12_init 65 = .ok (.iconst 5, 1) := by decide +kernel
theorem dX12_init_66 : decode cX12_init 66 = .ok (.newarray .char, 2) := by decide +kernel
theorem dX12_init_68 : decode cX12_init 68 = .ok (.dup, 1) := by decide +kernel
theorem dX12_init_69 : decode cX12_init 69 = .ok (.iconst 0, 1) := by decide +kernel
theorem dX12_init_70 : decode cX12_init 70 = .ok (.bipush 114, 2) := by decide +kernel
theorem dX12_init_72 : decode cX12_init 72 = .ok (.castore, 1) := by decide +kernel
theorem dX12_init_73 : decode cX12_init 73 = .ok (.dup, 1) := by decide +kernel
theorem dX12_init_74 : decode cX12_init 74 = .ok (.iconst 1, 1) := by decide +kernel
theorem dX12_init_75 : decode cX12_init 75 = .ok (.bipush 105, 2) := by decide +kernel
theorem dX12_init_77 : decode cX12_init 77 = .ok (.castore, 1) := by decide +kernel
theorem dX12_init_78 : decode cX12_init 78 = .ok (.dup, 1) := by decide +kernel
theorem dX12_init_79 : decode cX12_init 79 = .ok (.iconst 2, 1) := by decide +kernel
theorem dX12_init_80 : decode cX12_init 80 = .ok (.bipush 103, 2) := by decide +kernel
theorem dX12_init_82 : decode cX12_init 82 = .ok (.castore, 1) := by decide +kernel
theorem dX12_init_83 : decode cX12_init 83 = .ok (.dup, 1) := by decide +kernel
theorem dX12_init_84 : decode cX12_init 84 = .ok (.iconst 3, 1) := by decide +kernel
theorem dX12_init_85 : decode cX12_init 85 = .ok (.bipush 104, 2) := by decide +kernel
theorem dX12_init_87 : decode cX12_init 87 = .ok (.castore, 1) := by decide +kernel
theorem dX12_init_88 : decode cX12_init 88 = .ok (.dup, 1) := by decide +kernel
theorem dX12_init_89 : decode cX12_init 89 = .ok (.iconst 4, 1) := by decide +kernel
theorem dX12_init_90 : decode cX12_init 90 = .ok (.bipush 116, 2) := by decide +kernel
theorem dX12_init_92 : decode cX12_init 92 = .ok (.castore, 1) := by decide +kernel
theorem dX12_init_93 : decode cX12_init 93 = .ok (.putfield 24, 3) := by decide +kernel
theorem dX12_init_96 : decode cX12_init 96 = .ok (.aload_n 0, 1) := by decide +kernel
theorem dX12_init_97 : decode cX12_init 97 = .ok (.iconst 4, 1) := by decide +kernel
theorem dX12_init_98 : decode cX12_init 98 = .ok (.newarray .char, 2) := by decide +kernel
theorem dX12_init_100 : decode cX12_init 100 = .ok (.dup, 1) := by decide +kernel
theorem dX12_init_101 : decode cX12_init 101 = .ok (.iconst 0, 1) := by decide +kernel
theorem dX12_init_102 : decode cX12_init 102 = .ok (.bipush 108, 2) := by decide +kernel
theorem dX12_init_104 : decode cX12_init 104 = .ok (.castore, 1) := by decide +kernel
theorem dX12_init_105 : decode cX12_init 105 = .ok (.dup, 1) := by decide +kernel
theorem dX12_init_106 : decode cX12_init 106 = .ok (.iconst 1, 1) := by decide +kernel
theorem dX12_init_107 : decode cX12_init 107 = .ok (.bipush 101, 2) := by decide +kernel
theorem dX12_init_109 : decode cX12_init 109 = .ok (.castore, 1) := by decide +kernel
theorem dX12_init_110 : decode cX12_init 110 = .ok (.dup, 1) := by decide +kernel
theorem dX12_init_111 : decode cX12_init 111 = .ok (.iconst 2, 1) := by decide +kernel
theorem dX12_init_112 : decode cX12_init 112 = .ok (.bipush 102, 2) := by decide +kernel
theorem dX12_init_114 : decode cX12_init 114 = .ok (.castore, 1) := by decide +kernel
theorem dX12_init_115 : decode cX12_init 115 = .ok (.dup, 1) := by decide +kernel
theorem dX12_init_116 : decode cX12_init 116 = .ok (.iconst 3, 1) := by decide +kernel
theorem dX12_init_117 : decode cX12_init 117 = .ok (.bipush 116, 2) := by decide +kernel
theorem dX12_init_119 : decode cX12_init 119 = .ok (.castore, 1) := by decide +kernel
theorem dX12_init_120 : decode cX12_init 120 = .ok (.putfield 27, 3) := by decide +kernel
theorem dX12_init_123 : decode cX12_init 123 = .ok (.aload_n 0, 1) := by decide +kernel
theorem dX12_init_124 : decode cX12_init 124 = .ok (.iconst 5, 1) := by decide +kernel
theorem dX12_init_125 : decode cX12_init 125 = .ok (.newarray .char, 2) := by decide +kernel
theorem dX12_init_127 : decode cX12_init 127 = .ok (.dup, 1) := by decide +kernel
theorem dX12_init_128 : decode cX12_init 128 = .ok (.iconst 0, 1) := by decide +kernel
theorem dX12_init_129 : decode cX12_init 129 = .ok (.bipush 104, 2) := by decide +kernel
theorem dX12_init_131 : decode cX12_init 131 = .ok (.castore, 1) := by decide +kernel
theorem dX12_init_132 : decode cX12_init 132 = .ok (.dup, 1) := by decide +kernel
theorem dX12_init_133 : decode cX12_init 133 = .ok (.iconst 1, 1) := by decide +kernel
theorem dX12_init_134 : decode cX12_init 134 = .ok (.bipush 111, 2) := by decide +kernel
theorem dX12_init_136 : decode cX12_init 136 = .ok (.castore, 1) := by decide +kernel
theorem dX12_init_137 : decode cX12_init 137 = .ok (.dup, 1) := by decide +kernel
theorem dX12_init_138 : decode cX12_init 138 = .ok (.iconst 2, 1) := by decide +kernel
theorem dX12_init_139 : decode cX12_init 139 = .ok (.bipush 108, 2) := by decide +kernel
theorem dX12_init_141 : decode cX12_init 141 = .ok (.castore, 1) := by decide +kernel
theorem dX12_init_142 : decode cX12_init 142 = .ok (.dup, 1) := by decide +kernel
theorem dX12_init_143 : decode cX12_init 143 = .ok (.iconst 3, 1) := by decide +kernel
theorem dX12_init_144 : decode cX12_init 144 = .ok (.bipush 100, 2) := by decide +kernel
theorem dX12_init_146 : decode cX12_init 146 = .ok (.castore, 1) := by decide +kernel
theorem dX12_init_147 : decode cX12_init 147 = .ok (.dup, 1) := by decide +kernel
theorem dX12_init_148 : decode cX12_init 148 = .ok (.iconst 4, 1) := by decide +kernel
theorem dX12_init_149 : decode cX12_init 149 = .ok (.bipush 115, 2) := by decide +kernel
theorem dX12_init_151 : decode cX12_init 151 = .ok (.castore, 1) := by decide +kernel
theorem dX12_init_152 : decode cX12_init 152 = .ok (.putfield 30, 3) := by decide +kernel
theorem dX12_init_155 : decode cX12_init 155 = .ok (.aload_n 0, 1) := by decide +kernel
theorem dX12_init_156 : decode cX12_init 156 = .ok (.iconst 4, 1) := by decide +kernel
theorem dX12_init_157 : decode cX12_init 157 = .ok (.newarray .char, 2) := by decide +kernel
theorem dX12_init_159 : decode cX12_init 159 = .ok (.dup, 1) := by decide +kernel
theorem dX12_init_160 : decode cX12_init 160 = .ok (.iconst 0, 1) := by decide +kernel
theorem dX12_init_161 : decode cX12_init 161 = .ok (.bipush 115, 2) := by decide +kernel
theorem dX12_init_163 : decode cX12_init 163 = .ok (.castore, 1) := by decide +kernel
theorem dX12_init_164 : decode cX12_init 164 = .ok (.dup, 1) := by decide +kernel
theorem dX12_init_165 : decode cX12_init 165 = .ok (.iconst 1, 1) := by decide +kernel
theorem dX12_init_166 : decode cX12_init 166 = .ok (.bipush 101, 2) := by decide +kernel
theorem dX12_init_168 : decode cX12_init 168 = .ok (.castore, 1) := by decide +kernel
theorem dX12_init_169 : decode cX12_init 169 = .ok (.dup, 1) := by decide +kernel
theorem dX12_init_170 : decode cX12_init 170 = .ok (.iconst 2, 1) := by decide +kernel
theorem dX12_init_171 : decode cX12_init 171 = .ok (.bipush 97, 2) := by decide +kernel
theorem dX12_init_173 : decode cX12_init 173 = .ok (.castore, 1) := by decide +kernel
theorem dX12_init_174 : decode cX12_init 174 = .ok (.dup, 1) := by decide +kernel
theorem dX12_init_175 : decode cX12_init 175 = .ok (.iconst 3, 1) := by decide +kernel
theorem dX12_init_176 : decode cX12_init 176 = .ok (.bipush 109, 2) := by decide +kernel
theorem dX12_init_178 : decode cX12_init 178 = .ok (.castore, 1) := by decide +kernel
theorem dX12_init_179 : decode cX12_init 179 = .ok (.putfield 33, 3) := by decide +kernel
theorem dX12_init_182 : decode cX12_init 182 = .ok (.aload_n 0, 1) := by decide +kernel
theorem dX12_init_183 : decode cX12_init 183 = .ok (.iconst 5, 1) := by decide +kernel
theorem dX12_init_184 : decode cX12_init 184 = .ok (.newarray .char, 2) := by decide +kernel
theorem dX12_init_186 : decode cX12_init 186 = .ok (.dup, 1) := by decide +kernel
theorem dX12_init_187 : decode cX12_init 187 = .ok (.iconst 0, 1) := by decide +kernel
theorem dX12_init_188 : decode cX12_init 188 = .ok (.bipush 112, 2) := by decide +kernel
theorem dX12_init_190 : decode cX12_init 190 = .ok (.castore, 1) := by decide +kernel
theorem dX12_init_191 : decode cX12_init 191 = .ok (.dup, 1) := by decide +kernel
theorem dX12_init_192 : decode cX12_init 192 = .ok (.iconst 1, 1) := by decide +kernel
theorem dX12_init_193 : decode cX12_init 193 = .ok (.bipush 97, 2) := by decide +kernel
theorem dX12_init_195 : decode cX12_init 195 = .ok (.castore, 1) := by decide +kernel
theorem dX12_init_196 : decode cX12_init 196 = .ok (.dup, 1) := by decide +kernel
theorem dX12_init_197 : decode cX12_init 197 = .ok (.iconst 2, 1) := by decide +kernel
theorem dX12_init_198 : decode cX12_init 198 = .ok (.bipush 112, 2) := by decide +kernel
theorem dX12_init_200 : decode cX12_init 200 = .ok (.castore, 1) := by decide +kernel
theorem dX12_init_201 : decode cX12_init 201 = .ok (.dup, 1) := by decide +kernel
theorem dX12_init_202 : decode cX12_init 202 = .ok (.iconst 3, 1) := by decide +kernel
theorem dX12_init_203 : decode cX12_init 203 = .ok (.bipush 101, 2) := by decide +kernel
theorem dX12_init_205 : decode cX12_init 205 = .ok (.castore, 1) := by decide +kernel
theorem dX12_init_206 : decode cX12_init 206 = .ok (.dup, 1) := by decide +kernel
theorem dX12_init_207 : decode cX12_init 207 = .ok (.iconst 4, 1) := by decide +kernel
theorem dX12_init_208 : decode cX12_init 208 = .ok (.bipush 114, 2) := by decide +kernel
theorem dX12_init_210 : decode cX12_init 210 = .ok (.castore, 1) := by decide +kernel
theorem dX12_init_211 : decode cX12_init 211 = .ok (.putfield 36, 3) := by decide +kernel
theorem dX12_init_214 : decode cX12_init 214 = .ok (.aload_n 0, 1) := by decide +kernel
theorem dX12_init_215 : decode cX12_init 215 = .ok (.iconst 5, 1) := by decide +kernel
theorem dX12_init_216 : decode cX12_init 216 = .ok (.newarray .char, 2) := by decide +kernel
theorem dX12_init_218 : decode cX12_init 218 = .ok (.dup, 1) := by decide +kernel
theorem dX12_init_219 : decode cX12_init 219 = .ok (.iconst 0, 1) := by decide +kernel
theorem dX12_init_220 : decode cX12_init 220 = .ok (.bipush 116, 2) := by decide +kernel
theorem dX12_init_222 : decode cX12_init 222 = .ok (.castore, 1) := by decide +kernel
theorem dX12_init_223 : decode cX12_init 223 = .ok (.dup, 1) := by decide +kernel
theorem dX12_init_224 : decode cX12_init 224 = .ok (.iconst 1, 1) := by decide +kernel
theorem dX12_init_225 : decode cX12_init 225 = .ok (.bipush 104, 2) := by decide +kernel
theorem dX12_init_227 : decode cX12_init 227 = .ok (.castore, 1) := by decide +kernel
theorem dX12_init_228 : decode cX12_init 228 = .ok (.dup, 1) := by decide +kernel
theorem dX12_init_229 : decode cX12_init 229 = .ok (.iconst 2, 1) := by decide +kernel
theorem dX12_init_230 : decode cX12_init 230 = .ok (.bipush 117, 2) := by decide +kernel
theorem dX12_init_232 : decode cX12_init 232 = .ok (.castore, 1) := by decide +kernel
theorem dX12_init_233 : decode cX12_init 233 = .ok (.dup, 1) := by decide +kernel
theorem dX12_init_234 : decode cX12_init 234 = .ok (.iconst 3, 1) := by decide +kernel
theorem dX12_init_235 : decode cX12_init 235 = .ok (.bipush 109, 2) := by decide +kernel
theorem dX12_init_237 : decode cX12_init 237 = .ok (.castore, 1) := by decide +kernel
theorem dX12_init_238 : decode cX12_init 238 = .ok (.dup, 1) := by decide +kernel
theorem dX12_init_239 : decode cX12_init 239 = .ok (.iconst 4, 1) := by decide +kernel
theorem dX12_init_240 : decode cX12_init 240 = .ok (.bipush 98, 2) := by decide +kernel
theorem dX12_init_242 : decode cX12_init 242 = .ok (.castore, 1) := by decide +kernel
theorem dX12_init_243 : decode cX12_init 243 = .ok (.putfield 39, 3) := by decide +kernel
theorem dX12_init_246 : decode cX12_init 246 = .ok (.aload_n 0, 1) := by decide +kernel
theorem dX12_init_247 : decode cX12_init 247 = .ok (.iconst 3, 1) := by decide +kernel
theorem dX12_init_248 : decode cX12_init 248 = .ok (.newarray .char, 2) := by decide +kernel
theorem dX12_init_250 : decode cX12_init 250 = .ok (.dup, 1) := by decide +kernel
theorem dX12_init_251 : decode cX12_init 251 = .ok (.iconst 0, 1) := by decide +kernel
theorem dX12_init_252 : decode cX12_init 252 = .ok (.bipush 98, 2) := by decide +kernel
theorem dX12_init_254 : decode cX12_init 254 = .ok (.castore, 1) := by decide +kernel
theorem dX12_init_255 : decode cX12_init 255 = .ok (.dup, 1) := by decide +kernel
theorem dX12_init_256 : decode cX12_init 256 = .ok (.iconst 1, 1) := by decide +kernel
theorem dX12_init_257 : decode cX12_init 257 = .ok (.bipush 111, 2) := by decide +kernel
theorem dX12_init_259 : decode cX12_init 259 = .ok (.castore, 1) := by decide +kernel
theorem dX12_init_260 : decode cX12_init 260 = .ok (.dup, 1) := by decide +kernel
theorem dX12_init_261 : decode cX12_init 261 = .ok (.iconst 2, 1) := by decide +kernel
theorem dX12_init_262 : decode cX12_init 262 = .ok (.bipush 120, 2) := by decide +kernel
theorem dX12_init_264 : decode cX12_init 264 = .ok (.castore, 1) := by decide +kernel
theorem dX12_init_265 : decode cX12_init 265 = .ok (.putfield 42, 3) := by decide +kernel
theorem dX12_init_268 : decode cX12_init 268 = .ok (.aload_n 0, 1) := by decide +kernel
theorem dX12_init_269 : decode cX12_init 269 = .ok (.iconst 4, 1) := by decide +kernel
theorem dX12_init_270 : decode cX12_init 270 = .ok (.newarray .char, 2) := by decide +kernel
theorem dX12_init_272 : decode cX12_init 272 = .ok (.dup, 1) := by decide +kernel
theorem dX12_init_273 : decode cX12_init 273 = .ok (.iconst 0, 1) := by decide +kernel
theorem dX12_init_274 : decode cX12_init 274 = .ok (.bipush 100, 2) := by decide +kernel
theorem dX12_init_276 : decode cX12_init 276 = .ok (.castore, 1) := by decide +kernel
theorem dX12_init_277 : decode cX12_init 277 = .ok (.dup, 1) := by decide +kernel
theorem dX12_init_278 : decode cX12_init 278 = .ok (.iconst 1, 1) := by decide +kernel
theorem dX12_init_279 : decode cX12_init 279 = .ok (.bipush 117, 2) := by decide +kernel
theorem dX12_init_281 : decode cX12_init 281 = .ok (.castore, 1) := by decide +kernel
theorem dX12_init_282 : decode cX12_init 282 = .ok (.dup, 1) := by decide +kernel
theorem dX12_init_283 : decode cX12_init 283 = .ok (.iconst 2, 1) := by decide +kernel
theorem dX12_init_284 : decode cX12_init 284 = .ok (.bipush 100, 2) := by decide +kernel
theorem dX12_init_286 : decode cX12_init 286 = .ok (.castore, 1) := by decide +kernel
theorem dX12_init_287 : decode cX12_init 287 = .ok (.dup, 1) := by decide +kernel
theorem dX12_init_288 : decode cX12_init 288 = .ok (.iconst 3, 1) := by decide +kernel
theorem dX12_init_289 : decode cX12_init 289 = .ok (.bipush 115, 2) := by decide +kernel
theorem dX12_init_291 : decode cX12_init 291 = .ok (.castore, 1) := by decide +kernel
theorem dX12_init_292 : decode cX12_init 292 = .ok (.putfield 45, 3) := by decide +kernel
theorem dX12_init_295 : decode cX12_init 295 = .ok (.aload_n 0, 1) := by decide +kernel
theorem dX12_init_296 : decode cX12_init 296 = .ok (.iconst 4, 1) := by decide +kernel
theorem dX12_init_297 : decode cX12_init 297 = .ok (.newarray .char, 2) := by decide +kernel
theorem dX12_init_299 : decode cX12_init 299 = .ok (.dup, 1) := by decide +kernel
theorem dX12_init_300 : decode cX12_init 300 = .ok (.iconst 0, 1) := by decide +kernel
theorem dX12_init_301 : decode cX12_init 301 = .ok (.bipush 104, 2) := by decide +kernel
theorem dX12_init_303 : decode cX12_init 303 = .ok (.castore, 1) := by decide +kernel
theorem dX12_init_304 : decode cX12_init 304 = .ok (.dup, 1) := by decide +kernel
theorem dX12_init_305 : decode cX12_init 305 = .ok (.iconst 1, 1) := by decide +kernel
theorem dX12_init_306 : decode cX12_init 306 = .ok (.bipush 97, 2) := by decide +kernel
theorem dX12_init_308 : decode cX12_init 308 = .ok (.castore, 1) := by decide +kernel
theorem dX12_init_309 : decode cX12_init 309 = .ok (.dup, 1) := by decide +kernel
theorem dX12_init_310 : decode cX12_init 310 = .ok (.iconst 2, 1) := by decide +kernel
theorem dX12_init_311 : decode cX12_init 311 = .ok (.bipush 116, 2) := by decide +kernel
theorem dX12_init_313 : decode cX12_init 313 = .ok (.castore, 1) := by decide +kernel
theorem dX12_init_314 : decode cX12_init 314 = .ok (.dup, 1) := by decide +kernel
theorem dX12_init_315 : decode cX12_init 315 = .ok (.iconst 3, 1) := by decide +kernel
theorem dX12_init_316 : decode cX12_init 316 = .ok (.bipush 115, 2) := by decide +kernel
theorem dX12_init_318 : decode cX12_init 318 = .ok (.castore, 1) := by decide +kernel
theorem dX12_init_319 : decode cX12_init 319 = .ok (.putfield 48, 3) := by decide +kernel
theorem dX12_init_322 : decode cX12_init 322 = .ok (.aload_n 0, 1) := by decide +kernel
theorem dX12_init_323 : decode cX12_init 323 = .ok (.iconst 4, 1) := by decide +kernel
theorem dX12_init_324 : decode cX12_init 324 = .ok (.newarray .char, 2) := by decide +kernel
theorem dX12_init_326 : decode cX12_init 326 = .ok (.dup, 1) := by decide +kernel
theorem dX12_init_327 : decode cX12_init 327 = .ok (.iconst 0, 1) := by decide +kernel
theorem dX12_init_328 : decode cX12_init 328 = .ok (.bipush 112, 2) := by decide +kernel
theorem dX12_init_330 : decode cX12_init 330 = .ok (.castore, 1) := by decide +kernel
theorem dX12_init_331 : decode cX12_init 331 = .ok (.dup, 1) := by decide +kernel
theorem dX12_init_332 : decode cX12_init 332 = .ok (.iconst 1, 1) := by decide +kernel
theorem dX12_init_333 : decode cX12_init 333 = .ok (.bipush 117, 2) := by decide +kernel
theorem dX12_init_335 : decode cX12_init 335 = .ok (.castore, 1) := by decide +kernel
theorem dX12_init_336 : decode cX12_init 336 = .ok (.dup, 1) := by decide +kernel
theorem dX12_init_337 : decode cX12_init 337 = .ok (.iconst 2, 1) := by decide +kernel
theorem dX12_init_338 : decode cX12_init 338 = .ok (.bipush 108, 2) := by decide +kernel
theorem dX12_init_340 : decode cX12_init 340 = .ok (.castore, 1) := by decide +kernel
theorem dX12_init_341 : decode cX12_init 341 = .ok (.dup, 1) := by decide +kernel
theorem dX12_init_342 : decode cX12_init 342 = .ok (.iconst 3, 1) := by decide +kernel
theorem dX12_init_343 : decode cX12_init 343 = .ok (.bipush 108, 2) := by decide +kernel
theorem dX12_init_345 : decode cX12_init 345 = .ok (.castore, 1) := by decide +kernel
theorem dX12_init_346 : decode cX12_init 346 = .ok (.putfield 51, 3) := by decide +kernel
theorem dX12_init_349 : decode cX12_init 349 = .ok (.aload_n 0, 1) := by decide +kernel
theorem dX12_init_350 : decode cX12_init 350 = .ok (.iconst 4, 1) := by decide +kernel
theorem dX12_init_351 : decode cX12_init 351 = .ok (.newarray .char, 2) := by decide +kernel
theorem dX12_init_353 : decode cX12_init 353 = .ok (.dup, 1) := by decide +kernel
theorem dX12_init_354 : decode cX12_init 354 = .ok (.iconst 0, 1) := by decide +kernel
theorem dX12_init_355 : decode cX12_init 355 = .ok (.bipush 115, 2) := by decide +kernel
theorem dX12_init_357 : decode cX12_init 357 = .ok (.castore, 1) := by decide +kernel
theorem dX12_init_358 : decode cX12_init 358 = .ok (.dup, 1) := by decide +kernel
theorem dX12_init_359 : decode cX12_init 359 = .ok (.iconst 1, 1) := by decide +kernel
theorem dX12_init_360 : decode cX12_init 360 = .ok (.bipush 108, 2) := by decide +kernel
theorem dX12_init_362 : decode cX12_init 362 = .ok (.castore, 1) := by decide +kernel
theorem dX12_init_363 : decode cX12_init 363 = .ok (.dup, 1) := by decide +kernel
theorem dX12_init_364 : decode cX12_init 364 = .ok (.iconst 2, 1) := by decide +kernel
theorem dX12_init_365 : decode cX12_init 365 = .ok (.bipush 105, 2) := by decide +kernel
theorem dX12_init_367 : decode cX12_init 367 = .ok (.castore, 1) := by decide +kernel
theorem dX12_init_368 : decode cX12_init 368 = .ok (.dup, 1) := by decide +kernel
theorem dX12_init_369 : decode cX12_init 369 = .ok (.iconst 3, 1) := by decide +kernel
theorem dX12_init_370 : decode cX12_init 370 = .ok (.bipush 112, 2) := by decide +kernel
theorem dX12_init_372 : decode cX12_init 372 = .ok (.castore, 1) := by decide +kernel
theorem dX12_init_373 : decode cX12_init 373 = .ok (.putfield 54, 3) := by decide +kernel
theorem dX12_init_376 : decode cX12_init 376 = .ok (.aload_n 0, 1) := by decide +kernel
theorem dX12_init_377 : decode cX12_init 377 = .ok (.iconst 4, 1) := by decide +kernel
theorem dX12_init_378 : decode cX12_init 378 = .ok (.newarray .char, 2) := by decide +kernel
theorem dX12_init_380 : decode cX12_init 380 = .ok (.dup, 1) := by decide +kernel
theorem dX12_init_381 : decode cX12_init 381 = .ok (.iconst 0, 1) := by decide +kernel
theorem dX12_init_382 : decode cX12_init 382 = .ok (.bipush 98, 2) := by decide +kernel
theorem dX12_init_384 : decode cX12_init 384 = .ok (.castore, 1) := by decide +kernel
theorem dX12_init_385 : decode cX12_init 385 = .ok (.dup, 1) := by decide +kernel
theorem dX12_init_386 : decode cX12_init 386 = .ok (.iconst 1, 1) := by decide +kernel
theorem dX12_init_387 : decode cX12_init 387 = .ok (.bipush 97, 2) := by decide +kernel
theorem dX12_init_389 : decode cX12_init 389 = .ok (.castore, 1) := by decide +kernel
theorem dX12_init_390 : decode cX12_init 390 = .ok (.dup, 1) := by decide +kernel
theorem dX12_init_391 : decode cX12_init 391 = .ok (.iconst 2, 1) := by decide +kernel
theorem dX12_init_392 : decode cX12_init 392 = .ok (.bipush 110, 2) := by decide +kernel
theorem dX12_init_394 : decode cX12_init 394 = .ok (.castore, 1) := by decide +kernel
theorem dX12_init_395 : decode cX12_init 395 = .ok (.dup, 1) := by decide +kernel
theorem dX12_init_396 : decode cX12_init 396 = .ok (.iconst 3, 1) := by decide +kernel
theorem dX12_init_397 : decode cX12_init 397 = .ok (.bipush 103, 2) := by decide +kernel
theorem dX12_init_399 : decode cX12_init 399 = .ok (.castore, 1) := by decide +kernel
theorem dX12_init_400 : decode cX12_init 400 = .ok (.putfield 57, 3) := by decide +kernel
theorem dX12_init_403 : decode cX12_init 403 = .ok (.aload_n 0, 1) := by decide +kernel
theorem dX12_init_404 : decode cX12_init 404 = .ok (.iconst 3, 1) := by decide +kernel
theorem dX12_init_405 : decode cX12_init 405 = .ok (.newarray .char, 2) := by decide +kernel
theorem dX12_init_407 : decode cX12_init 407 = .ok (.dup, 1) := by decide +kernel
theorem dX12_init_408 : decode cX12_init 408 = .ok (.iconst 0, 1) := by decide +kernel
theorem dX12_init_409 : decode cX12_init 409 = .ok (.bipush 97, 2) := by decide +kernel
theorem dX12_init_411 : decode cX12_init 411 = .ok (.castore, 1) := by decide +kernel
theorem dX12_init_412 : decode cX12_init 412 = .ok (.dup, 1) := by decide +kernel
theorem dX12_init_413 : decode cX12_init 413 = .ok (.iconst 1, 1) := by decide +kernel
theorem dX12_init_414 : decode cX12_init 414 = .ok (.bipush 114, 2) := by decide +kernel
theorem dX12_init_416 : decode cX12_init 416 = .ok (.castore, 1) := by decide +kernel
theorem dX12_init_417 : decode cX12_init 417 = .ok (.dup, 1) := by decide +kernel
theorem dX12_init_418 : decode cX12_init 418 = .ok (.iconst 2, 1) := by decide +kernel
theorem dX12_init_419 : decode cX12_init 419 = .ok (.bipush 109, 2) := by decide +kernel
theorem dX12_init_421 : decode cX12_init 421 = .ok (.castore, 1) := by decide +kernel
theorem dX12_init_422 : decode cX12_init 422 = .ok (.putfield 60, 3) := by decide +kernel
theorem dX12_init_425 : decode cX12_init 425 = .ok (.aload_n 0, 1) := by decide +kernel
theorem dX12_init_426 : decode cX12_init 426 = .ok (.iconst 3, 1) := by decide +kernel
theorem dX12_init_427 : decode cX12_init 427 = .ok (.newarray .char, 2) := by decide +kernel
theorem dX12_init_429 : decode cX12_init 429 = .ok (.dup, 1) := by decide +kernel
theorem dX12_init_430 : decode cX12_init 430 = .ok (.iconst 0, 1) := by decide +kernel
theorem dX12_init_431 : decode cX12_init 431 = .ok (.bipush 108, 2) := by decide +kernel
theorem dX12_init_433 : decode cX12_init 433 = .ok (.castore, 1) := by decide +kernel
theorem dX12_init_434 : decode cX12_init 434 = .ok (.dup, 1) := by decide +kernel
theorem dX12_init_435 : decode cX12_init 435 = .ok (.iconst 1, 1) := by decide +kernel
theorem dX12_init_436 : decode cX12_init 436 = .ok (.bipush 111, 2) := by decide +kernel
theorem dX12_init_438 : decode cX12_init 438 = .ok (.castore, 1) := by decide +kernel
theorem dX12_init_439 : decode cX12_init 439 = .ok (.dup, 1) := by decide +kernel
theorem dX12_init_440 : decode cX12_init 440 = .ok (.iconst 2, 1) := by decide +kernel
theorem dX12_init_441 : decode cX12_init 441 = .ok (.bipush 119, 2) := by decide +kernel
theorem dX12_init_443 : decode cX12_init 443 = .ok (.castore, 1) := by decide +kernel
theorem dX12_init_444 : decode cX12_init 444 = .ok (.putfield 63, 3) := by decide +kernel
theorem dX12_init_447 : decode cX12_init 447 = .ok (.aload_n 0, 1) := by decide +kernel
theorem dX12_init_448 : decode cX12_init 448 = .ok (.iconst 5, 1) := by decide +kernel
theorem dX12_init_449 : decode cX12_init 449 = .ok (.newarray .char, 2) := by decide +kernel
theorem dX12_init_451 : decode cX12_init 451 = .ok (.dup, 1) := by decide +kernel
theorem dX12_init_452 : decode cX12_init 452 = .ok (.iconst 0, 1) := by decide +kernel
theorem dX12_init_453 : decode cX12_init 453 = .ok (.bipush 111, 2) := by decide +kernel
theorem dX12_init_455 : decode cX12_init 455 = .ok (.castore, 1) := by decide +kernel
theorem dX12_init_456 : decode cX12_init 456 = .ok (.dup, 1) := by decide +kernel
theorem dX12_init_457 : decode cX12_init 457 = .ok (.iconst 1, 1) := by decide +kernel
theorem dX12_init_458 : decode cX12_init 458 = .ok (.bipush 116, 2) := by decide +kernel
theorem dX12_init_460 : decode cX12_init 460 = .ok (.castore, 1) := by decide +kernel
theorem dX12_init_461 : decode cX12_init 461 = .ok (.dup, 1) := by decide +kernel
theorem dX12_init_462 : decode cX12_init 462 = .ok (.iconst 2, 1) := by decide +kernel
theorem dX12_init_463 : decode cX12_init 463 = .ok (.bipush 104, 2) := by decide +kernel
theorem dX12_init_465 : decode cX12_init 465 = .ok (.castore, 1) := by decide +kernel
theorem dX12_init_466 : decode cX12_init 466 = .ok (.dup, 1) := by decide +kernel
theorem dX12_init_467 : decode cX12_init 467 = .ok (.iconst 3, 1) := by decide +kernel
theorem dX12_init_468 : decode cX12_init 468 = .ok (.bipush 101, 2) := by decide +kernel
theorem dX12_init_470 : decode cX12_init 470 = .ok (.castore, 1) := by decide +kernel
theorem dX12_init_471 : decode cX12_init 471 = .ok (.dup, 1) := by decide +kernel
theorem dX12_init_472 : decode cX12_init 472 = .ok (.iconst 4, 1) := by decide +kernel
theorem dX12_init_473 : decode cX12_init 473 = .ok (.bipush 114, 2) := by decide +kernel
theorem dX12_init_475 : decode cX12_init 475 = .ok (.castore, 1) := by decide +kernel
theorem dX12_init_476 : decode cX12_init 476 = .ok (.putfield 66, 3) := by decide +kernel
theorem dX12_init_479 : decode cX12_init 479 = .ok (.aload_n 0, 1) := by decide +kernel
theorem dX12_init_480 : decode cX12_init 480 = .ok (.bipush 6, 2) := by decide +kernel
theorem dX12_init_482 : decode cX12_init 482 = .ok (.newarray .char, 2) := by decide +kernel
theorem dX12_init_484 : decode cX12_init 484 = .ok (.dup, 1) := by decide +kernel
theorem dX12_init_485 : decode cX12_init 485 = .ok (.iconst 0, 1) := by decide +kernel
theorem dX12_init_486 : decode cX12_init 486 = .ok (.bipush 110, 2) := by decide +kernel
theorem dX12_init_488 : decode cX12_init 488 = .ok (.castore, 1) := by decide +kernel
theorem dX12_init_489 : decode cX12_init 489 = .ok (.dup, 1) := by decide +kernel
theorem dX12_init_490 : decode cX12_init 490 = .ok (.iconst 1, 1) := by decide +kernel
theorem dX12_init_491 : decode cX12_init 491 = .ok (.bipush 117, 2) := by decide +kernel
theorem dX12_init_493 : decode cX12_init 493 = .ok (.castore, 1) := by decide +kernel
theorem dX12_init_494 : decode cX12_init 494 = .ok (.dup, 1) := by decide +kernel
theorem dX12_init_495 : decode cX12_init 495 = .ok (.iconst 2, 1) := by decide +kernel
theorem dX12_init_496 : decode cX12_init 496 = .ok (.bipush 109, 2) := by decide +kernel
theorem dX12_init_498 : decode cX12_init 498 = .ok (.castore, 1) := by decide +kernel
theorem dX12_init_499 : decode cX12_init 499 = .ok (.dup, 1) := by decide +kernel
theorem dX12_init_500 : decode cX12_init 500 = .ok (.iconst 3, 1) := by decide +kernel
theorem dX12_init_501 : decode cX12_init 501 = .ok (.bipush 98, 2) := by decide +kernel
theorem dX12_init_503 : decode cX12_init 503 = .ok (.castore, 1) := by decide +kernel
theorem dX12_init_504 : decode cX12_init 504 = .ok (.dup, 1) := by decide +kernel
theorem dX12_init_505 : decode cX12_init 505 = .ok (.iconst 4, 1) := by decide +kernel
theorem dX12_init_506 : decode cX12_init 506 = .ok (.bipush 101, 2) := by decide +kernel
theorem dX12_init_508 : decode cX12_init 508 = .ok (.castore, 1) := by decide +kernel
theorem dX12_init_509 : decode cX12_init 509 = .ok (.dup, 1) := by decide +kernel
theorem dX12_init_510 : decode cX12_init 510 = .ok (.iconst 5, 1) := by decide +kernel
theorem dX12_init_511 : decode cX12_init 511 = .ok (.bipush 114, 2) := by decide +kernel
theorem dX12_init_513 : decode cX12_init 513 = .ok (.castore, 1) := by decide +kernel
theorem dX12_init_514 : decode cX12_init 514 = .ok (.putfield 69, 3) := by decide +kernel
theorem dX12_init_517 : decode cX12_init 517 = .ok (.aload_n 0, 1) := by decide +kernel
theorem dX12_init_518 : decode cX12_init 518 = .ok (.iconst 4, 1) := by decide +kernel
theorem dX12_init_519 : decode cX12_init 519 = .ok (.newarray .char, 2) := by decide +kernel
theorem dX12_init_521 : decode cX12_init 521 = .ok (.dup, 1) := by decide +kernel
theorem dX12_init_522 : decode cX12_init 522 = .ok (.iconst 0, 1) := by decide +kernel
theorem dX12_init_523 : decode cX12_init 523 = .ok (.bipush 119, 2) := by decide +kernel
theorem dX12_init_525 : decode cX12_init 525 = .ok (.castore, 1) := by decide +kernel
theorem dX12_init_526 : decode cX12_init 526 = .ok (.dup, 1) := by decide +kernel
theorem dX12_init_527 : decode cX12_init 527 = .ok (.iconst 1, 1) := by decide +kernel
theorem dX12_init_528 : decode cX12_init 528 = .ok (.bipush 105, 2) := by decide +kernel
theorem dX12_init_530 : decode cX12_init 530 = .ok (.castore, 1) := by decide +kernel
theorem dX12_init_531 : decode cX12_init 531 = .ok (.dup, 1) := by decide +kernel
theorem dX12_init_532 : decode cX12_init 532 = .ok (.iconst 2, 1) := by decide +kernel
theorem dX12_init_533 : decode cX12_init 533 = .ok (.bipush 110, 2) := by decide +kernel
theorem dX12_init_535 : decode cX12_init 535 = .ok (.castore, 1) := by decide +kernel
theorem dX12_init_536 : decode cX12_init 536 = .ok (.dup, 1) := by decide +kernel
theorem dX12_init_537 : decode cX12_init 537 = .ok (.iconst 3, 1) := by decide +kernel
theorem dX12_init_538 : decode cX12_init 538 = .ok (.bipush 115, 2) := by decide +kernel
theorem dX12_init_540 : decode cX12_init 540 = .ok (.castore, 1) := by decide +kernel
theorem dX12_init_541 : decode cX12_init 541 = .ok (.putfield 72, 3) := by decide +kernel
theorem dX12_init_544 : decode cX12_init 544 = .ok (.aload_n 0, 1) := by decide +kernel
theorem dX12_init_545 : decode cX12_init 545 = .ok (.iconst 2, 1) := by decide +kernel
theorem dX12_init_546 : decode cX12_init 546 = .ok (.newarray .char, 2) := by decide +kernel
theorem dX12_init_548 : decode cX12_init 548 = .ok (.dup, 1) := by decide +kernel
theorem dX12_init_549 : decode cX12_init 549 = .ok (.iconst 0, 1) := by decide +kernel
theorem dX12_init_550 : decode cX12_init 550 = .ok (.bipush 111, 2) := by decide +kernel
theorem dX12_init_552 : decode cX12_init 552 = .ok (.castore, 1) := by decide +kernel
theorem dX12_init_553 : decode cX12_init 553 = .ok (.dup, 1) := by decide +kernel
theorem dX12_init_554 : decode cX12_init 554 = .ok (.iconst 1, 1) := by decide +kernel
theorem dX12_init_555 : decode cX12_init 555 = .ok (.bipush 114, 2) := by decide +kernel
theorem dX12_init_557 : decode cX12_init 557 = .ok (.castore, 1) := by decide +kernel
theorem dX12_init_558 : decode cX12_init 558 = .ok (.putfield 75, 3) := by decide +kernel
theorem dX12_init_561 : decode cX12_init 561 = .ok (.aload_n 0, 1) := by decide +kernel
theorem dX12_init_562 : decode cX12_init 562 = .ok (.iconst 3, 1) := by decide +kernel
theorem dX12_init_563 : decode cX12_init 563 = .ok (.newarray .char, 2) := by decide +kernel
theorem dX12_init_565 : decode cX12_init 565 = .ok (.dup, 1) := by decide +kernel
theorem dX12_init_566 : decode cX12_init 566 = .ok (.iconst 0, 1) := by decide +kernel
theorem dX12_init_567 : decode cX12_init 567 = .ok (.bipush 97, 2) := by decide +kernel
theorem dX12_init_569 : decode cX12_init 569 = .ok (.castore, 1) := by decide +kernel
theorem dX12_init_570 : decode cX12_init 570 = .ok (.dup, 1) := by decide +kernel
theorem dX12_init_571 : decode cX12_init 571 = .ok (.iconst 1, 1) := by decide +kernel
theorem dX12_init_572 : decode cX12_init 572 = .ok (.bipush 110, 2) := by decide +kernel
theorem dX12_init_574 : decode cX12_init 574 = .ok (.castore, 1) := by decide +kernel
theorem dX12_init_575 : decode cX12_init 575 = .ok (.dup, 1) := by decide +kernel
theorem dX12_init_576 : decode cX12_init 576 = .ok (.iconst 2, 1) := by decide +kernel
theorem dX12_init_577 : decode cX12_init 577 = .ok (.bipush 100, 2) := by decide +kernel
theorem dX12_init_579 : decode cX12_init 579 = .ok (.castore, 1) := by decide +kernel
theorem dX12_init_580 : decode cX12_init 580 = .ok (.putfield 78, 3) := by decide +kernel
theorem dX12_init_583 : decode cX12_init 583 = .ok (.aload_n 0, 1) := by decide +kernel
theorem dX12_init_584 : decode cX12_init 584 = .ok (.iconst 3, 1) := by decide +kernel
theorem dX12_init_585 : decode cX12_init 585 = .ok (.newarray .char, 2) := by decide +kernel
theorem dX12_init_587 : decode cX12_init 587 = .ok (.dup, 1) := by decide +kernel
theorem dX12_init_588 : decode cX12_init 588 = .ok (.iconst 0, 1) := by decide +kernel
theorem dX12_init_589 : decode cX12_init 589 = .ok (.bipush 110, 2) := by decide +kernel
theorem dX12_init_591 : decode cX12_init 591 = .ok (.castore, 1) := by decide +kernel
theorem dX12_init_592 : decode cX12_init 592 = .ok (.dup, 1) := by decide +kernel
theorem dX12_init_593 : decode cX12_init 593 = .ok (.iconst 1, 1) := by decide +kernel
theorem dX12_init_594 : decode cX12_init 594 = .ok (.bipush 111, 2) := by decide +kernel
theorem dX12_init_596 : decode cX12_init 596 = .ok (.castore, 1) := by decide +kernel
theorem dX12_init_597 : decode cX12_init 597 = .ok (.dup, 1) := by decide +kernel
theorem dX12_init_598 : decode cX12_init 598 = .ok (.iconst 2, 1) := by decide +kernel
theorem dX12_init_599 : decode cX12_init 599 = .ok (.bipush 116, 2) := by decide +kernel
theorem dX12_init_601 : decode cX12_init 601 = .ok (.castore, 1) := by decide +kernel
theorem dX12_init_602 : decode cX12_init 602 = .ok (.putfield 81, 3) := by decide +kernel
theorem dX12_init_605 : decode cX12_init 605 = .ok (.aload_n 0, 1) := by decide +kernel
theorem dX12_init_606 : decode cX12_init 606 = .ok (.iconst 3, 1) := by decide +kernel
theorem dX12_init_607 : decode cX12_init 607 = .ok (.newarray .char, 2) := by decide +kernel
theorem dX12_init_609 : decode cX12_init 609 = .ok (.dup, 1) := by decide +kernel
theorem dX12_init_610 : decode cX12_init 610 = .ok (.iconst 0, 1) := by decide +kernel
theorem dX12_init_611 : decode cX12_init 611 = .ok (.bipush 97, 2) := by decide +kernel
theorem dX12_init_613 : decode cX12_init 613 = .ok (.castore, 1) := by decide +kernel
theorem dX12_init_614 : decode cX12_init 614 = .ok (.dup, 1) := by decide +kernel
theorem dX12_init_615 : decode cX12_init 615 = .ok (.iconst 1, 1) := by decide +kernel
theorem dX12_init_616 : decode cX12_init 616 = .ok (.bipush 108, 2) := by decide +kernel
theorem dX12_init_618 : decode cX12_init 618 = .ok (.castore, 1) := by decide +kernel
theorem dX12_init_619 : decode cX12_init 619 = .ok (.dup, 1) := by decide +kernel
theorem dX12_init_620 : decode cX12_init 620 = .ok (.iconst 2, 1) := by decide +kernel
theorem dX12_init_621 : decode cX12_init 621 = .ok (.bipush 108, 2) := by decide +kernel
theorem dX12_init_623 : decode cX12_init 623 = .ok (.castore, 1) := by decide +kernel
theorem dX12_init_624 : decode cX12_init 624 = .ok (.putfield 84, 3) := by decide +kernel
theorem dX12_init_627 : decode cX12_init 627 = .ok (.aload_n 0, 1) := by decide +kernel
theorem dX12_init_628 : decode cX12_init 628 = .ok (.iconst 3, 1) := by decide +kernel
theorem dX12_init_629 : decode cX12_init 629 = .ok (.newarray .char, 2) := by decide +kernel
theorem dX12_init_631 : decode cX12_init 631 = .ok (.dup, 1) := by decide +kernel
theorem dX12_init_632 : decode cX12_init 632 = .ok (.iconst 0, 1) := by decide +kernel
theorem dX12_init_633 : decode cX12_init 633 = .ok (.bipush 109, 2) := by decide +kernel
theorem dX12_init_635 : decode cX12_init 635 = .ok (.castore, 1) := by decide +kernel
theorem dX12_init_636 : decode cX12_init 636 = .ok (.dup, 1) := by decide +kernel
theorem dX12_init_637 : decode cX12_init 637 = .ok (.iconst 1, 1) := by decide +kernel
theorem dX12_init_638 : decode cX12_init 638 = .ok (.bipush 105, 2) := by decide +kernel
theorem dX12_init_640 : decode cX12_init 640 = .ok (.castore, 1) := by decide +kernel
theorem dX12_init_641 : decode cX12_init 641 = .ok (.dup, 1) := by decide +kernel
theorem dX12_init_642 : decode cX12_init 642 = .ok (.iconst 2, 1) := by decide +kernel
theorem dX12_init_643 : decode cX12_init 643 = .ok (.bipush 110, 2) := by decide +kernel
theorem dX12_init_645 : decode cX12_init 645 = .ok (.castore, 1) := by decide +kernel
theorem dX12_init_646 : decode cX12_init 646 = .ok (.putfield 87, 3) := by decide +kernel
theorem dX12_init_649 : decode cX12_init 649 = .ok (.aload_n 0, 1) := by decide +kernel
theorem dX12_init_650 : decode cX12_init 650 = .ok (.iconst 3, 1) := by decide +kernel
theorem dX12_init_651 : decode cX12_init 651 = .ok (.newarray .char, 2) := by decide +kernel
theorem dX12_init_653 : decode cX12_init 653 = .ok (.dup, 1) := by decide +kernel
theorem dX12_init_654 : decode cX12_init 654 = .ok (.iconst 0, 1) := by decide +kernel
theorem dX12_init_655 : decode cX12_init 655 = .ok (.bipush 109, 2) := by decide +kernel
theorem dX12_init_657 : decode cX12_init 657 = .ok (.castore, 1) := by decide +kernel
theorem dX12_init_658 : decode cX12_init 658 = .ok (.dup, 1) := by decide +kernel
theorem dX12_init_659 : decode cX12_init 659 = .ok (.iconst 1, 1) := by decide +kernel
theorem dX12_init_660 : decode cX12_init 660 = .ok (.bipush 97, 2) := by decide +kernel
theorem dX12_init_662 : decode cX12_init 662 = .ok (.castore, 1) := by decide +kernel
theorem dX12_init_663 : decode cX12_init 663 = .ok (.dup, 1) := by decide +kernel
theorem dX12_init_664 : decode cX12_init 664 = .ok (.iconst 2, 1) := by decide +kernel
theorem dX12_init_665 : decode cX12_init 665 = .ok (.bipush 120, 2) := by decide +kernel
theorem dX12_init_667 : decode cX12_init 667 = .ok (.castore, 1) := by decide +kernel
theorem dX12_init_668 : decode cX12_init 668 = .ok (.putfield 90, 3) := by decide +kernel
theorem dX12_init_671 : decode cX12_init 671 = .ok (.aload_n 0, 1) := by decide +kernel
theorem dX12_init_672 : decode cX12_init 672 = .ok (.iconst 4, 1) := by decide +kernel
theorem dX12_init_673 : decode cX12_init 673 = .ok (.newarray .int, 2) := by decide +kernel
theorem dX12_init_675 : decode cX12_init 675 = .ok (.putfield 93, 3) := by decide +kernel
theorem dX12_init_678 : decode cX12_init 678 = .ok (.aload_n 0, 1) := by decide +kernel
theorem dX12_init_679 : decode cX12_init 679 = .ok (.bipush 24, 2) := by decide +kernel
theorem dX12_init_681 : decode cX12_init 681 = .ok (.newarray .long, 2) := by decide +kernel
theorem dX12_init_683 : decode cX12_init 683 = .ok (.putfield 96, 3) := by decide +kernel
theorem dX12_init_686 : decode cX12_init 686 = .ok (.aload_n 0, 1) := by decide +kernel
theorem dX12_init_687 : decode cX12_init 687 = .ok (.bipush 112, 2) := by decide +kernel
theorem dX12_init_689 : decode cX12_init 689 = .ok (.newarray .int, 2) := by decide +kernel
theorem dX12_init_691 : decode cX12_init 691 = .ok (.putfield 100, 3) := by decide +kernel
theorem dX12_init_694 : decode cX12_init 694 = .ok (.aload_n 0, 1) := by decide +kernel
theorem dX12_init_695 : decode cX12_init 695 = .ok (.bipush 8, 2) := by decide +kernel
theorem dX12_init_697 : decode cX12_init 697 = .ok (.newarray .int, 2) := by decide +kernel
theorem dX12_init_699 : decode cX12_init 699 = .ok (.putfield 103, 3) := by decide +kernel
theorem dX12_init_702 : decode cX12_init 702 = .ok (.aload_n 0, 1) := by decide +kernel
theorem dX12_init_703 : decode cX12_init 703 = .ok (.iconst 2, 1) := by decide +kernel
theorem dX12_init_704 : decode cX12_init 704 = .ok (.newarray .int, 2) := by decide +kernel
theorem dX12_init_706 : decode cX12_init 706 = .ok (.dup, 1) := by decide +kernel
theorem dX12_init_707 : decode cX12_init 707 = .ok (.iconst 0, 1) := by decide +kernel
theorem dX12_init_708 : decode cX12_init 708 = .ok (.bipush 100, 2) := by decide +kernel
theorem dX12_init_710 : decode cX12_init 710 = .ok (.iastore, 1) := by decide +kernel
theorem dX12_init_711 : decode cX12_init 711 = .ok (.dup, 1) := by decide +kernel
theorem dX12_init_712 : decode cX12_init 712 = .ok (.iconst 1, 1) := by decide +kernel
theorem dX12_init_713 : decode cX12_init 713 = .ok (.bipush 100, 2) := by decide +kernel
theorem dX12_init_715 : decode cX12_init 715 = .ok (.iastore, 1) := by decide +kernel
theorem dX12_init_716 : decode cX12_init 716 = .ok (.putfield 106, 3) := by decide +kernel
theorem dX12_init_719 : decode cX12_init 719 = .ok (.aload_n 0, 1) := by decide +kernel
theorem dX12_init_720 : decode cX12_init 720 = .ok (.iconst 4, 1) := by decide +kernel
theorem dX12_init_721 : decode cX12_init 721 = .ok (.newarray .int, 2) := by decide +kernel
theorem dX12_init_723 : decode cX12_init 723 = .ok (.dup, 1) := by decide +kernel
theorem dX12_init_724 : decode cX12_init 724 = .ok (.iconst 0, 1) := by decide +kernel
theorem dX12_init_725 : decode cX12_init 725 = .ok (.iconst (-1), 1) := by decide +kernel
theorem dX12_init_726 : decode cX12_init 726 = .ok (.iastore, 1) := by decide +kernel
theorem dX12_init_727 : decode cX12_init 727 = .ok (.dup, 1) := by decide +kernel
theorem dX12_init_728 : decode cX12_init 728 = .ok (.iconst 1, 1) := by decide +kernel
theorem dX12_init_729 : decode cX12_init 729 = .ok (.iconst (-1), 1) := by decide +kernel
theorem dX12_init_730 : decode cX12_init 730 = .ok (.iastore, 1) := by decide +kernel
theorem dX12_init_731 : decode cX12_init 731 = .ok (.dup, 1) := by decide +kernel
theorem dX12_init_732 : decode cX12_init 732 = .ok (.iconst 2, 1) := by decide +kernel
theorem dX12_init_733 : decode cX12_init 733 = .ok (.iconst (-1), 1) := by decide +kernel
theorem dX12_init_734 : decode cX12_init 734 = .ok (.iastore, 1) := by decide +kernel
theorem dX12_init_735 : decode cX12_init 735 = .ok (.dup, 1) := by decide +kernel
theorem dX12_init_736 : decode cX12_init 736 = .ok (.iconst 3, 1) := by decide +kernel
theorem dX12_init_737 : decode cX12_init 737 = .ok (.iconst (-1), 1) := by decide +kernel
theorem dX12_init_738 : decode cX12_init 738 = .ok (.iastore, 1) := by decide +kernel
theorem dX12_init_739 : decode cX12_init 739 = .ok (.putfield 109, 3) := by decide +kernel
theorem dX12_init_742 : decode cX12_init 742 = .ok (.aload_n 0, 1) := by decide +kernel
theorem dX12_init_743 : decode cX12_init 743 = .ok (.iconst 4, 1) := by decide +kernel
theorem dX12_init_744 : decode cX12_init 744 = .ok (.newarray .int, 2) := by decide +kernel
theorem dX12_init_746 : decode cX12_init 746 = .ok (.putfield 112, 3) := by decide +kernel
theorem dX12_init_749 : decode cX12_init 749 = .ok (.aload_n 0, 1) := by decide +kernel
theorem dX12_init_750 : decode cX12_init 750 = .ok (.sipush 3200, 3) := by decide +kernel
theorem dX12_init_753 : decode cX12_init 753 = .ok (.newarray .int, 2) := by decide +kernel
theorem dX12_init_755 : decode cX12_init 755 = .ok (.putfield 115, 3) := by decide +kernel
theorem dX12_init_758 : decode cX12_init 758 = .ok (.aload_n 0, 1) := by decide +kernel
theorem dX12_init_759 : decode cX12_init 759 = .ok (.sipush 1700, 3) := by decide +kernel
theorem dX12_init_762 : decode cX12_init 762 = .ok (.newarray .int, 2) := by decide +kernel
theorem dX12_init_764 : decode cX12_init 764 = .ok (.putfield 118, 3) := by decide +kernel
theorem dX12_init_767 : decode cX12_init 767 = .ok (.aload_n 0, 1) := by decide +kernel
theorem dX12_init_768 : decode cX12_init 768 = .ok (.sipush 1700, 3) := by decide +kernel
theorem dX12_init_771 : decode cX12_init 771 = .ok (.newarray .long, 2) := by decide +kernel
theorem dX12_init_773 : decode cX12_init 773 = .ok (.putfield 121, 3) := by decide +kernel
theorem dX12_init_776 : decode cX12_init 776 = .ok (.aload_n 0, 1) := by decide +kernel
theorem dX12_init_777 : decode cX12_init 777 = .ok (.bipush 6, 2) := by decide +kernel
theorem dX12_init_779 : decode cX12_init 779 = .ok (.newarray .int, 2) := by decide +kernel
theorem dX12_init_781 : decode cX12_init 781 = .ok (.putfield 124, 3) := by decide +kernel
theorem dX12_init_784 : decode cX12_init 784 = .ok (.aload_n 0, 1) := by decide +kernel
theorem dX12_init_785 : decode cX12_init 785 = .ok (.bipush 51, 2) := by decide +kernel
theorem dX12_init_787 : decode cX12_init 787 = .ok (.newarray .int, 2) := by decide +kernel
theorem dX12_init_789 : decode cX12_init 789 = .ok (.putfield 127, 3) := by decide +kernel
theorem dX12_init_792 : decode cX12_init 792 = .ok (.aload_n 0, 1) := by decide +kernel
theorem dX12_init_793 : decode cX12_init 793 = .ok (.bipush 51, 2) := by decide +kernel
theorem dX12_init_795 : decode cX12_init 795 = .ok (.newarray .int, 2) := by decide +kernel
theorem dX12_init_797 : decode cX12_init 797 = .ok (.putfield 130, 3) := by decide +kernel
theorem dX12_init_800 : decode cX12_init 800 = .ok (.aload_n 0, 1) := by decide +kernel
theorem dX12_init_801 : decode cX12_init 801 = .ok (.bipush 8, 2) := by decide +kernel
theorem dX12_init_803 : decode cX12_init 803 = .ok (.newarray .int, 2) := by decide +kernel
theorem dX12_init_805 : decode cX12_init 805 = .ok (.putfield 133, 3) := by decide +kernel
theorem dX12_init_808 : decode cX12_init 808 = .ok (.aload_n 0, 1) := by decide +kernel
theorem dX12_init_809 : decode cX12_init 809 = .ok (.bipush 24, 2) := by decide +kernel
theorem dX12_init_811 : decode cX12_init 811 = .ok (.newarray .int, 2) := by decide +kernel
theorem dX12_init_813 : decode cX12_init 813 = .ok (.putfield 136, 3) := by decide +kernel
theorem dX12_init_816 : decode cX12_init 816 = .ok (.aload_n 0, 1) := by decide +kernel
theorem dX12_init_817 : decode cX12_init 817 = .ok (.bipush 64, 2) := by decide +kernel
theorem dX12_init_819 : decode cX12_init 819 = .ok (.newarray .int, 2) := by decide +kernel
theorem dX12_init_821 : decode cX12_init 821 = .ok (.putfield 139, 3) := by decide +kernel
theorem dX12_init_824 : decode cX12_init 824 = .ok (.aload_n 0, 1) := by decide +kernel
theorem dX12_init_825 : decode cX12_init 825 = .ok (.bipush 64, 2) := by decide +kernel
theorem dX12_init_827 : decode cX12_init 827 = .ok (.newarray .int, 2) := by decide +kernel
theorem dX12_init_829 : decode cX12_init 829 = .ok (.putfield 142, 3) := by decide +kernel
theorem dX12_init_832 : decode cX12_init 832 = .ok (.aload_n 0, 1) := by decide +kernel
theorem dX12_init_833 : decode cX12_init 833 = .ok (.bipush 8, 2) := by decide +kernel
theorem dX12_init_835 : decode cX12_init 835 = .ok (.newarray .int, 2) := by decide +kernel
theorem dX12_init_837 : decode cX12_init 837 = .ok (.putfield 145, 3) := by decide +kernel
theorem dX12_init_840 : decode cX12_init 840 = .ok (.aload_n 0, 1) := by decide +kernel
theorem dX12_init_841 : decode cX12_init 841 = .ok (.bipush 8, 2) := by decide +kernel
theorem dX12_init_843 : decode cX12_init 843 = .ok (.newarray .int, 2) := by decide +kernel
theorem dX12_init_845 : decode cX12_init 845 = .ok (.putfield 148, 3) := by decide +kernel
theorem dX12_init_848 : decode cX12_init 848 = .ok (.aload_n 0, 1) := by decide +kernel
theorem dX12_init_849 : decode cX12_init 849 = .ok (.bipush 17, 2) := by decide +kernel
theorem dX12_init_851 : decode cX12_init 851 = .ok (.newarray .int, 2) := by decide +kernel
theorem dX12_init_853 : decode cX12_init 853 = .ok (.putfield 151, 3) := by decide +kernel
theorem dX12_init_856 : decode cX12_init 856 = .ok (.aload_n 0, 1) := by decide +kernel
theorem dX12_init_857 : decode cX12_init 857 = .ok (.bipush 17, 2) := by decide +kernel
theorem dX12_init_859 : decode cX12_init 859 = .ok (.newarray .int, 2) := by decide +kernel
theorem dX12_init_861 : decode cX12_init 861 = .ok (.putfield 154, 3) := by decide +kernel
theorem dX12_init_864 : decode cX12_init 864 = .ok (.aload_n 0, 1) := by decide +kernel
theorem dX12_init_865 : decode cX12_init 865 = .ok (.bipush 8, 2) := by decide +kernel
theorem dX12_init_867 : decode cX12_init 867 = .ok (.newarray .int, 2) := by decide +kernel
theorem dX12_init_869 : decode cX12_init 869 = .ok (.putfield 157, 3) := by decide +kernel
theorem dX12_init_872 : decode cX12_init 872 = .ok (.aload_n 0, 1) := by decide +kernel
theorem dX12_init_873 : decode cX12_init 873 = .ok (.sipush 1020, 3) := by decide +kernel
theorem dX12_init_876 : decode cX12_init 876 = .ok (.newarray .int, 2) := by decide +kernel
theorem dX12_init_878 : decode cX12_init 878 = .ok (.putfield 160, 3) := by decide +kernel
theorem dX12_init_881 : decode cX12_init 881 = .ok (.aload_n 0, 1) := by decide +kernel
theorem dX12_init_882 : decode cX12_init 882 = .ok (.lconst 1, 1) := by decide +kernel
theorem dX12_init_883 : decode cX12_init 883 = .ok (.putfield 163, 3) := by decide +kernel
theorem dX12_init_886 : decode cX12_init 886 = .ok (.aload_n 0, 1) := by decide +kernel
theorem dX12_init_887 : decode cX12_init 887 = .ok (.iconst 5, 1) := by decide +kernel
theorem dX12_init_888 : decode cX12_init 888 = .ok (.newarray .char, 2) := by decide +kernel
theorem dX12_init_890 : decode cX12_init 890 = .ok (.dup, 1) := by decide +kernel
theorem dX12_init_891 : decode cX12_init 891 = .ok (.iconst 0, 1) := by decide +kernel
theorem dX12_init_892 : decode cX12_init 892 = .ok (.bipush 102, 2) := by decide +kernel
theorem dX12_init_894 : decode cX12_init 894 = .ok (.castore, 1) := by decide +kernel
theorem dX12_init_895 : decode cX12_init 895 = .ok (.dup, 1) := by decide +kernel
theorem dX12_init_896 : decode cX12_init 896 = .ok (.iconst 1, 1) := by decide +kernel
theorem dX12_init_897 : decode cX12_init 897 = .ok (.bipush 105, 2) := by decide +kernel
theorem dX12_init_899 : decode cX12_init 899 = .ok (.castore, 1) := by decide +kernel
theorem dX12_init_900 : decode cX12_init 900 = .ok (.dup, 1) := by decide +kernel
theorem dX12_init_901 : decode cX12_init 901 = .ok (.iconst 2, 1) := by decide +kernel
theorem dX12_init_902 : decode cX12_init 902 = .ok (.bipush 114, 2) := by decide +kernel
theorem dX12_init_904 : decode cX12_init 904 = .ok (.castore, 1) := by decide +kernel
theorem dX12_init_905 : decode cX12_init 905 = .ok (.dup, 1) := by decide +kernel
theorem dX12_init_906 : decode cX12_init 906 = .ok (.iconst 3, 1) := by decide +kernel
theorem dX12_init_907 : decode cX12_init 907 = .ok (.bipush 115, 2) := by decide +kernel
theorem dX12_init_909 : decode cX12_init 909 = .ok (.castore, 1) := by decide +kernel
theorem dX12_init_910 : decode cX12_init 910 = .ok (.dup, 1) := by decide +kernel
theorem dX12_init_911 : decode cX12_init 911 = .ok (.iconst 4, 1) := by decide +kernel
theorem dX12_init_912 : decode cX12_init 912 = .ok (.bipush 116, 2) := by decide +kernel
theorem dX12_init_914 : decode cX12_init 914 = .ok (.castore, 1) := by decide +kernel
theorem dX12_init_915 : decode cX12_init 915 = .ok (.putfield 167, 3) := by decide +kernel
theorem dX12_init_918 : decode cX12_init 918 = .ok (.aload_n 0, 1) := by decide +kernel
theorem dX12_init_919 : decode cX12_init 919 = .ok (.iconst 4, 1) := by decide +kernel
theorem dX12_init_920 : decode cX12_init 920 = .ok (.newarray .char, 2) := by decide +kernel
theorem dX12_init_922 : decode cX12_init 922 = .ok (.dup, 1) := by decide +kernel
theorem dX12_init_923 : decode cX12_init 923 = .ok (.iconst 0, 1) := by decide +kernel
theorem dX12_init_924 : decode cX12_init 924 = .ok (.bipush 108, 2) := by decide +kernel
theorem dX12_init_926 : decode cX12_init 926 = .ok (.castore, 1) := by decide +kernel
theorem dX12_init_927 : decode cX12_init 927 = .ok (.dup, 1) := by decide +kernel
theorem dX12_init_928 : decode cX12_init 928 = .ok (.iconst 1, 1) := by decide +kernel
theorem dX12_init_929 : decode cX12_init 929 = .ok (.bipush 97, 2) := by decide +kernel
theorem dX12_init_931 : decode cX12_init 931 = .ok (.castore, 1) := by decide +kernel
theorem dX12_init_932 : decode cX12_init 932 = .ok (.dup, 1) := by decide +kernel
theorem dX12_init_933 : decode cX12_init 933 = .ok (.iconst 2, 1) := by decide +kernel
theorem dX12_init_934 : decode cX12_init 934 = .ok (.bipush 115, 2) := by decide +kernel
theorem dX12_init_936 : decode cX12_init 936 = .ok (.castore, 1) := by decide +kernel
theorem dX12_init_937 : decode cX12_init 937 = .ok (.dup, 1) := by decide +kernel
theorem dX12_init_938 : decode cX12_init 938 = .ok (.iconst 3, 1) := by decide +kernel
theorem dX12_init_939 : decode cX12_init 939 = .ok (.bipush 116, 2) := by decide +kernel
theorem dX12_init_941 : decode cX12_init 941 = .ok (.castore, 1) := by decide +kernel
theorem dX12_init_942 : decode cX12_init 942 = .ok (.putfield 170, 3) := by decide +kernel
theorem dX12_init_945 : decode cX12_init 945 = .ok (.aload_n 0, 1) := by decide +kernel
theorem dX12_init_946 : decode cX12_init 946 = .ok (.iconst 5, 1) := by decide +kernel
theorem dX12_init_947 : decode cX12_init 947 = .ok (.newarray .char, 2) := by decide +kernel
theorem dX12_init_949 : decode cX12_init 949 = .ok (.dup, 1) := by decide +kernel
theorem dX12_init_950 : decode cX12_init 950 = .ok (.iconst 0, 1) := by decide +kernel
theorem dX12_init_951 : decode cX12_init 951 = .ok (.bipush 111, 2) := by decide +kernel
theorem dX12_init_953 : decode cX12_init 953 = .ok (.castore, 1) := by decide +kernel
theorem dX12_init_954 : decode cX12_init 954 = .ok (.dup, 1) := by decide +kernel
theorem dX12_init_955 : decode cX12_init 955 = .ok (.iconst 1, 1) := by decide +kernel
theorem dX12_init_956 : decode cX12_init 956 = .ok (.bipush 102, 2) := by decide +kernel
theorem dX12_init_958 : decode cX12_init 958 = .ok (.castore, 1) := by decide +kernel
theorem dX12_init_959 : decode cX12_init 959 = .ok (.dup, 1) := by decide +kernel
theorem dX12_init_960 : decode cX12_init 960 = .ok (.iconst 2, 1) := by decide +kernel
theorem dX12_init_961 : decode cX12_init 961 = .ok (.bipush 116, 2) := by decide +kernel
theorem dX12_init_963 : decode cX12_init 963 = .ok (.castore, 1) := by decide +kernel
theorem dX12_init_964 : decode cX12_init 964 = .ok (.dup, 1) := by decide +kernel
theorem dX12_init_965 : decode cX12_init 965 = .ok (.iconst 3, 1) := by decide +kernel
theorem dX12_init_966 : decode cX12_init 966 = .ok (.bipush 101, 2) := by decide +kernel
theorem dX12_init_968 : decode cX12_init 968 = .ok (.castore, 1) := by decide +kernel
theorem dX12_init_969 : decode cX12_init 969 = .ok (.dup, 1) := by decide +kernel
theorem dX12_init_970 : decode cX12_init 970 = .ok (.iconst 4, 1) := by decide +kernel
theorem dX12_init_971 : decode cX12_init 971 = .ok (.bipush 110, 2) := by decide +kernel
theorem dX12_init_973 : decode cX12_init 973 = .ok (.castore, 1) := by decide +kernel
theorem dX12_init_974 : decode cX12_init 974 = .ok (.putfield 173, 3) := by decide +kernel
theorem dX12_init_977 : decode cX12_init 977 = .ok (.aload_n 0, 1) := by decide +kernel
theorem dX12_init_978 : decode cX12_init 978 = .ok (.iconst 5, 1) := by decide +kernel
theorem dX12_init_979 : decode cX12_init 979 = .ok (.newarray .char, 2) := by decide +kernel
theorem dX12_init_981 : decode cX12_init 981 = .ok (.dup, 1) := by decide +kernel
theorem dX12_init_982 : decode cX12_init 982 = .ok (.iconst 0, 1) := by decide +kernel
theorem dX12_init_983 : decode cX12_init 983 = .ok (.bipush 116, 2) := by decide +kernel
theorem dX12_init_985 : decode cX12_init 985 = .ok (.castore, 1) := by decide +kernel
theorem dX12_init_986 : decode cX12_init 986 = .ok (.dup, 1) := by decide +kernel
theorem dX12_init_987 : decode cX12_init 987 = .ok (.iconst 1, 1) := by decide +kernel
theorem dX12_init_988 : decode cX12_init 988 = .ok (.bipush 111, 2) := by decide +kernel
theorem dX12_init_990 : decode cX12_init 990 = .ok (.castore, 1) := by decide +kernel
theorem dX12_init_991 : decode cX12_init 991 = .ok (.dup, 1) := by decide +kernel
theorem dX12_init_992 : decode cX12_init 992 = .ok (.iconst 2, 1) := by decide +kernel
theorem dX12_init_993 : decode cX12_init 993 = .ok (.bipush 116, 2) := by decide +kernel
theorem dX12_init_995 : decode cX12_init 995 = .ok (.castore, 1) := by decide +kernel
theorem dX12_init_996 : decode cX12_init 996 = .ok (.dup, 1) := by decide +kernel
theorem dX12_init_997 : decode cX12_init 997 = .ok (.iconst 3, 1) := by decide +kernel
theorem dX12_init_998 : decode cX12_init 998 = .ok (.bipush 97, 2) := by decide +kernel
theorem dX12_init_1000 : decode cX12_init 1000 = .ok (.castore, 1) := by decide +kernel
theorem dX12_init_1001 : decode cX12_init 1001 = .ok (.dup, 1) := by decide +kernel
theorem dX12_init_1002 : decode cX12_init 1002 = .ok (.iconst 4, 1) := by decide +kernel
theorem dX12_init_1003 : decode cX12_init 1003 = .ok (.bipush 108, 2) := by decide +kernel
theorem dX12_init_1005 : decode cX12_init 1005 = .ok (.castore, 1) := by decide +kernel
theorem dX12_init_1006 : decode cX12_init 1006 = .ok (.putfield 176, 3) := by decide +kernel
theorem dX12_init_1009 : decode cX12_init 1009 = .ok (.aload_n 0, 1) := by decide +kernel
theorem dX12_init_1010 : decode cX12_init 1010 = .ok (.iconst 4, 1) := by decide +kernel
theorem dX12_init_1011 : decode cX12_init 1011 = .ok (.newarray .char, 2) := by decide +kernel
theorem dX12_init_1013 : decode cX12_init 1013 = .ok (.dup, 1) := by decide +kernel
theorem dX12_init_1014 : decode cX12_init 1014 = .ok (.iconst 0, 1) := by decide +kernel
theorem dX12_init_1015 : decode cX12_init 1015 = .ok (.bipush 109, 2) := by decide +kernel
theorem dX12_init_1017 : decode cX12_init 1017 = .ok (.castore, 1) := by decide +kernel
theorem dX12_init_1018 : decode cX12_init 1018 = .ok (.dup, 1) := by decide +kernel
theorem dX12_init_1019 : decode cX12_init 1019 = .ok (.iconst 1, 1) := by decide +kernel
theorem dX12_init_1020 : decode cX12_init 1020 = .ok (.bipush 111, 2) := by decide +kernel
theorem dX12_init_1022 : decode cX12_init 1022 = .ok (.castore, 1) := by decide +kernel
theorem dX12_init_1023 : decode cX12_init 1023 = .ok (.dup, 1) := by decide +kernel
theorem dX12_init_1024 : decode cX12_init 1024 = .ok (.iconst 2, 1) := by decide +kernel
theorem dX12_init_1025 : decode cX12_init 1025 = .ok (.bipush 115, 2) := by decide +kernel
theorem dX12_init_1027 : decode cX12_init 1027 = .ok (.castore, 1) := by decide +kernel
theorem dX12_init_1028 : decode cX12_init 1028 = .ok (.dup, 1) := by decide +kernel
theorem dX12_init_1029 : decode cX12_init 1029 = .ok (.iconst 3, 1) := by decide +kernel
theorem dX12_init_1030 : decode cX12_init 1030 = .ok (.bipush 116, 2) := by decide +kernel
theorem dX12_init_1032 : decode cX12_init 1032 = .ok (.castore, 1) := by decide +kernel
theorem dX12_init_1033 : decode cX12_init 1033 = .ok (.putfield 179, 3) := by decide +kernel
theorem dX12_init_1036 : decode cX12_init 1036 = .ok (.aload_n 0, 1) := by decide +kernel
theorem dX12_init_1037 : decode cX12_init 1037 = .ok (.iconst 5, 1) := by decide +kernel
theorem dX12_init_1038 : decode cX12_init 1038 = .ok (.newarray .char, 2) := by decide +kernel
theorem dX12_init_1040 : decode cX12_init 1040 = .ok (.dup, 1) := by decide +kernel
theorem dX12_init_1041 : decode cX12_init 1041 = .ok (.iconst 0, 1) := by decide +kernel
theorem dX12_init_1042 : decode cX12_init 1042 = .ok (.bipush 108, 2) := by decide +kernel
theorem dX12_init_1044 : decode cX12_init 1044 = .ok (.castore, 1) := by decide +kernel
theorem dX12_init_1045 : decode cX12_init 1045 = .ok (.dup, 1) := by decide +kernel
theorem dX12_init_1046 : decode cX12_init 1046 = .ok (.iconst 1, 1) := by decide +kernel
theorem dX12_init_1047 : decode cX12_init 1047 = .ok (.bipush 101, 2) := by decide +kernel
theorem dX12_init_1049 : decode cX12_init 1049 = .ok (.castore, 1) := by decide +kernel
theorem dX12_init_1050 : decode cX12_init 1050 = .ok (.dup, 1) := by decide +kernel
theorem dX12_init_1051 : decode cX12_init 1051 = .ok (.iconst 2, 1) := by decide +kernel
theorem dX12_init_1052 : decode cX12_init 1052 = .ok (.bipush 97, 2) := by decide +kernel
theorem dX12_init_1054 : decode cX12_init 1054 = .ok (.castore, 1) := by decide +kernel
theorem dX12_init_1055 : decode cX12_init 1055 = .ok (.dup, 1) := by decide +kernel
theorem dX12_init_1056 : decode cX12_init 1056 = .ok (.iconst 3, 1) := by decide +kernel
theorem dX12_init_1057 : decode cX12_init 1057 = .ok (.bipush 115, 2) := by decide +kernel
theorem dX12_init_1059 : decode cX12_init 1059 = .ok (.castore, 1) := by decide +kernel
theorem dX12_init_1060 : decode cX12_init 1060 = .ok (.dup, 1) := by decide +kernel
theorem dX12_init_1061 : decode cX12_init 1061 = .ok (.iconst 4, 1) := by decide +kernel
theorem dX12_init_1062 : decode cX12_init 1062 = .ok (.bipush 116, 2) := by decide +kernel
theorem dX12_init_1064 : decode cX12_init 1064 = .ok (.castore, 1) := by decide +kernel
theorem dX12_init_1065 : decode cX12_init 1065 = .ok (.putfield 182, 3) := by decide +kernel
theorem dX12_init_1068 : decode cX12_init 1068 = .ok (.aload_n 0, 1) := by decide +kernel
theorem dX12_init_1069 : decode cX12_init 1069 = .ok (.iconst 3, 1) := by decide +kernel
theorem dX12_init_1070 : decode cX12_init 1070 = .ok (.newarray .char, 2) := by decide +kernel
theorem dX12_init_1072 : decode cX12_init 1072 = .ok (.dup, 1) := by decide +kernel
theorem dX12_init_1073 : decode cX12_init 1073 = .ok (.iconst 0, 1) := by decide +kernel
theorem dX12_init_1074 : decode cX12_init 1074 = .ok (.bipush 110, 2) := by decide +kernel
theorem dX12_init_1076 : decode cX12_init 1076 = .ok (.castore, 1) := by decide +kernel
theorem dX12_init_1077 : decode cX12_init 1077 = .ok (.dup, 1) := by decide +kernel
theorem dX12_init_1078 : decode cX12_init 1078 = .ok (.iconst 1, 1) := by decide +kernel
theorem dX12_init_1079 : decode cX12_init 1079 = .ok (.bipush 111, 2) := by decide +kernel
theorem dX12_init_1081 : decode cX12_init 1081 = .ok (.castore, 1) := by decide +kernel
theorem dX12_init_1082 : decode cX12_init 1082 = .ok (.dup, 1) := by decide +kernel
theorem dX12_init_1083 : decode cX12_init 1083 = .ok (.iconst 2, 1) := by decide +kernel
theorem dX12_init_1084 : decode cX12_init 1084 = .ok (.bipush 116, 2) := by decide +kernel
theorem dX12_init_1086 : decode cX12_init 1086 = .ok (.castore, 1) := by decide +kernel
theorem dX12_init_1087 : decode cX12_init 1087 = .ok (.putfield 185, 3) := by decide +kernel
theorem dX12_init_1090 : decode cX12_init 1090 = .ok (.aload_n 0, 1) := by decide +kernel
theorem dX12_init_1091 : decode cX12_init 1091 = .ok (.iconst 3, 1) := by decide +kernel
theorem dX12_init_1092 : decode cX12_init 1092 = .ok (.newarray .char, 2) := by decide +kernel
theorem dX12_init_1094 : decode cX12_init 1094 = .ok (.dup, 1) := by decide +kernel
theorem dX12_init_1095 : decode cX12_init 1095 = .ok (.iconst 0, 1) := by decide +kernel
theorem dX12_init_1096 : decode cX12_init 1096 = .ok (.bipush 97, 2) := by decide +kernel
theorem dX12_init_1098 : decode cX12_init 1098 = .ok (.castore, 1) := by decide +kernel
theorem dX12_init_1099 : decode cX12_init 1099 = .ok (.dup, 1) := by decide +kernel
theorem dX12_init_1100 : decode cX12_init 1100 = .ok (.iconst 1, 1) := by decide +kernel
theorem dX12_init_1101 : decode cX12_init 1101 = .ok (.bipush 110, 2) := by decide +kernel
theorem dX12_init_1103 : decode cX12_init 1103 = .ok (.castore, 1) := by decide +kernel
theorem dX12_init_1104 : decode cX12_init 1104 = .ok (.dup, 1) := by decide +kernel
theorem dX12_init_1105 : decode cX12_init 1105 = .ok (.iconst 2, 1) := by decide +kernel
theorem dX12_init_1106 : decode cX12_init 1106 = .ok (.bipush 100, 2) := by decide +kernel
theorem dX12_init_1108 : decode cX12_init 1108 = .ok (.castore, 1) := by decide +kernel
theorem dX12_init_1109 : decode cX12_init 1109 = .ok (.putfield 188, 3) := by decide +kernel
theorem dX12_init_1112 : decode cX12_init 1112 = .ok (.aload_n 0, 1) := by decide +kernel
theorem dX12_init_1113 : decode cX12_init 1113 = .ok (.iconst 2, 1) := by decide +kernel
theorem dX12_init_1114 : decode cX12_init 1114 = .ok (.newarray .char, 2) := by decide +kernel
theorem dX12_init_1116 : decode cX12_init 1116 = .ok (.dup, 1) := by decide +kernel
theorem dX12_init_1117 : decode cX12_init 1117 = .ok (.iconst 0, 1) := by decide +kernel
theorem dX12_init_1118 : decode cX12_init 1118 = .ok (.bipush 111, 2) := by decide +kernel
theorem dX12_init_1120 : decode cX12_init 1120 = .ok (.castore, 1) := by decide +kernel
theorem dX12_init_1121 : decode cX12_init 1121 = .ok (.dup, 1) := by decide +kernel
theorem dX12_init_1122 : decode cX12_init 1122 = .ok (.iconst 1, 1) := by decide +kernel
theorem dX12_init_1123 : decode cX12_init 1123 = .ok (.bipush 114, 2) := by decide +kernel
theorem dX12_init_1125 : decode cX12_init 1125 = .ok (.castore, 1) := by decide +kernel
theorem dX12_init_1126 : decode cX12_init 1126 = .ok (.putfield 191, 3) := by decide +kernel
theorem dX12_init_1129 : decode cX12_init 1129 = .ok (.aload_n 0, 1) := by decide +kernel
theorem dX12_init_1130 : decode cX12_init 1130 = .ok (.iconst 3, 1) := by decide +kernel
theorem dX12_init_1131 : decode cX12_init 1131 = .ok (.newarray .char, 2) := by decide +kernel
theorem dX12_init_1133 : decode cX12_init 1133 = .ok (.dup, 1) := by decide +kernel
theorem dX12_init_1134 : decode cX12_init 1134 = .ok (.iconst 0, 1) := by decide +kernel
theorem dX12_init_1135 : decode cX12_init 1135 = .ok (.bipush 97, 2) := by decide +kernel
theorem dX12_init_1137 : decode cX12_init 1137 = .ok (.castore, 1) := by decide +kernel
theorem dX12_init_1138 : decode cX12_init 1138 = .ok (.dup, 1) := by decide +kernel
theorem dX12_init_1139 : decode cX12_init 1139 = .ok (.iconst 1, 1) := by decide +kernel
theorem dX12_init_1140 : decode cX12_init 1140 = .ok (.bipush 108, 2) := by decide +kernel
theorem dX12_init_1142 : decode cX12_init 1142 = .ok (.castore, 1) := by decide +kernel
theorem dX12_init_1143 : decode cX12_init 1143 = .ok (.dup, 1) := by decide +kernel
theorem dX12_init_1144 : decode cX12_init 1144 = .ok (.iconst 2, 1) := by decide +kernel
theorem dX12_init_1145 : decode cX12_init 1145 = .ok (.bipush 108, 2) := by decide +kernel
theorem dX12_init_1147 : decode cX12_init 1147 = .ok (.castore, 1) := by decide +kernel
theorem dX12_init_1148 : decode cX12_init 1148 = .ok (.putfield 194, 3) := by decide +kernel
theorem dX12_init_1151 : decode cX12_init 1151 = .ok (.aload_n 0, 1) := by decide +kernel
theorem dX12_init_1152 : decode cX12_init 1152 = .ok (.iconst 3, 1) := by decide +kernel
theorem dX12_init_1153 : decode cX12_init 1153 = .ok (.newarray .char, 2) := by decide +kernel
theorem dX12_init_1155 : decode cX12_init 1155 = .ok (.dup, 1) := by decide +kernel
theorem dX12_init_1156 : decode cX12_init 1156 = .ok (.iconst 0, 1) := by decide +kernel
theorem dX12_init_1157 : decode cX12_init 1157 = .ok (.bipush 109, 2) := by decide +kernel
theorem dX12_init_1159 : decode cX12_init 1159 = .ok (.castore, 1) := by decide +kernel
theorem dX12_init_1160 : decode cX12_init 1160 = .ok (.dup, 1) := by decide +kernel
theorem dX12_init_1161 : decode cX12_init 1161 = .ok (.iconst 1, 1) := by decide +kernel
theorem dX12_init_1162 : decode cX12_init 1162 = .ok (.bipush 105, 2) := by decide +kernel
theorem dX12_init_1164 : decode cX12_init 1164 = .ok (.castore, 1) := by decide +kernel
theorem dX12_init_1165 : decode cX12_init 1165 = .ok (.dup, 1) := by decide +kernel
theorem dX12_init_1166 : decode cX12_init 1166 = .ok (.iconst 2, 1) := by decide +kernel
theorem dX12_init_1167 : decode cX12_init 1167 = .ok (.bipush 110, 2) := by decide +kernel
theorem dX12_init_1169 : decode cX12_init 1169 = .ok (.castore, 1) := by decide +kernel
theorem dX12_init_1170 : decode cX12_init 1170 = .ok (.putfield 197, 3) := by decide +kernel
theorem dX12_init_1173 : decode cX12_init 1173 = .ok (.aload_n 0, 1) := by decide +kernel
theorem dX12_init_1174 : decode cX12_init 1174 = .ok (.iconst 3, 1) := by decide +kernel
theorem dX12_init_1175 : decode cX12_init 1175 = .ok (.newarray .char, 2) := by decide +kernel
theorem dX12_init_1177 : decode cX12_init 1177 = .ok (.dup, 1) := by decide +kernel
theorem dX12_init_1178 : decode cX12_init 1178 = .ok (.iconst 0, 1) := by decide +kernel
theorem dX12_init_1179 : decode cX12_init 1179 = .ok (.bipush 109, 2) := by decide +kernel
theorem dX12_init_1181 : decode cX12_init 1181 = .ok (.castore, 1) := by decide +kernel
theorem dX12_init_1182 : decode cX12_init 1182 = .ok (.dup, 1) := by decide +kernel
theorem dX12_init_1183 : decode cX12_init 1183 = .ok (.iconst 1, 1) := by decide +kernel
theorem dX12_init_1184 : decode cX12_init 1184 = .ok (.bipush 97, 2) := by decide +kernel
theorem dX12_init_1186 : decode cX12_init 1186 = .ok (.castore, 1) := by decide +kernel
theorem dX12_init_1187 : decode cX12_init 1187 = .ok (.dup, 1) := by decide +kernel
theorem dX12_init_1188 : decode cX12_init 1188 = .ok (.iconst 2, 1) := by decide +kernel
theorem dX12_init_1189 : decode cX12_init 1189 = .ok (.bipush 120, 2) := by decide +kernel
theorem dX12_init_1191 : decode cX12_init 1191 = .ok (.castore, 1) := by decide +kernel
theorem dX12_init_1192 : decode cX12_init 1192 = .ok (.putfield 200, 3) := by decide +kernel
theorem dX12_init_1195 : decode cX12_init 1195 = .ok (.aload_n 0, 1) := by decide +kernel
theorem dX12_init_1196 : decode cX12_init 1196 = .ok (.bipush 6, 2) := by decide +kernel
theorem dX12_init_1198 : decode cX12_init 1198 = .ok (.newarray .char, 2) := by decide +kernel
theorem dX12_init_1200 : decode cX12_init 1200 = .ok (.dup, 1) := by decide +kernel
theorem dX12_init_1201 : decode cX12_init 1201 = .ok (.iconst 0, 1) := by decide +kernel
theorem dX12_init_1202 : decode cX12_init 1202 = .ok (.bipush 110, 2) := by decide +kernel
theorem dX12_init_1204 : decode cX12_init 1204 = .ok (.castore, 1) := by decide +kernel
theorem dX12_init_1205 : decode cX12_init 1205 = .ok (.dup, 1) := by decide +kernel
theorem dX12_init_1206 : decode cX12_init 1206 = .ok (.iconst 1, 1) := by decide +kernel
theorem dX12_init_1207 : decode cX12_init 1207 = .ok (.bipush 117, 2) := by decide +kernel
theorem dX12_init_1209 : decode cX12_init 1209 = .ok (.castore, 1) := by decide +kernel
theorem dX12_init_1210 : decode cX12_init 1210 = .ok (.dup, 1) := by decide +kernel
theorem dX12_init_1211 : decode cX12_init 1211 = .ok (.iconst 2, 1) := by decide +kernel
theorem dX12_init_1212 : decode cX12_init 1212 = .ok (.bipush 109, 2) := by decide +kernel
theorem dX12_init_1214 : decode cX12_init 1214 = .ok (.castore, 1) := by decide +kernel
theorem dX12_init_1215 : decode cX12_init 1215 = .ok (.dup, 1) := by decide +kernel
theorem dX12_init_1216 : decode cX12_init 1216 = .ok (.iconst 3, 1) := by decide +kernel
theorem dX12_init_1217 : decode cX12_init 1217 = .ok (.bipush 98, 2) := by decide +kernel
theorem dX12_init_1219 : decode cX12_init 1219 = .ok (.castore, 1) := by decide +kernel
theorem dX12_init_1220 : decode cX12_init 1220 = .ok (.dup, 1) := by decide +kernel
theorem dX12_init_1221 : decode cX12_init 1221 = .ok (.iconst 4, 1) := by decide +kernel
theorem dX12_init_1222 : decode cX12_init 1222 = .ok (.bipush 101, 2) := by decide +kernel
theorem dX12_init_1224 : decode cX12_init 1224 = .ok (.castore, 1) := by decide +kernel
theorem dX12_init_1225 : decode cX12_init 1225 = .ok (.dup, 1) := by decide +kernel
theorem dX12_init_1226 : decode cX12_init 1226 = .ok (.iconst 5, 1) := by decide +kernel
theorem dX12_init_1227 : decode cX12_init 1227 = .ok (.bipush 114, 2) := by decide +kernel
theorem dX12_init_1229 : decode cX12_init 1229 = .ok (.castore, 1) := by decide +kernel
theorem dX12_init_1230 : decode cX12_init 1230 = .ok (.putfield 203, 3) := by decide +kernel
theorem dX12_init_1233 : decode cX12_init 1233 = .ok (.aload_n 0, 1) := by decide +kernel
theorem dX12_init_1234 : decode cX12_init 1234 = .ok (.iconst 5, 1) := by decide +kernel
theorem dX12_init_1235 : decode cX12_init 1235 = .ok (.newarray .char, 2) := by decide +kernel
theorem dX12_init_1237 : decode cX12_init 1237 = .ok (.dup, 1) := by decide +kernel
theorem dX12_init_1238 : decode cX12_init 1238 = .ok (.iconst 0, 1) := by decide +kernel
theorem dX12_init_1239 : decode cX12_init 1239 = .ok (.bipush 114, 2) := by decide +kernel
theorem dX12_init_1241 : decode cX12_init 1241 = .ok (.castore, 1) := by decide +kernel
theorem dX12_init_1242 : decode cX12_init 1242 = .ok (.dup, 1) := by decide +kernel
theorem dX12_init_1243 : decode cX12_init 1243 = .ok (.iconst 1, 1) := by decide +kernel
theorem dX12_init_1244 : decode cX12_init 1244 = .ok (.bipush 105, 2) := by decide +kernel
theorem dX12_init_1246 : decode cX12_init 1246 = .ok (.castore, 1) := by decide +kernel
theorem dX12_init_1247 : decode cX12_init 1247 = .ok (.dup, 1) := by decide +kernel
theorem dX12_init_1248 : decode cX12_init 1248 = .ok (.iconst 2, 1) := by decide +kernel
theorem dX12_init_1249 : decode cX12_init 1249 = .ok (.bipush 103, 2) := by decide +kernel
theorem dX12_init_1251 : decode cX12_init 1251 = .ok (.castore, 1) := by decide +kernel
theorem dX12_init_1252 : decode cX12_init 1252 = .ok (.dup, 1) := by decide +kernel
theorem dX12_init_1253 : decode cX12_init 1253 = .ok (.iconst 3, 1) := by decide +kernel
theorem dX12_init_1254 : decode cX12_init 1254 = .ok (.bipush 104, 2) := by decide +kernel
theorem dX12_init_1256 : decode cX12_init 1256 = .ok (.castore, 1) := by decide +kernel
theorem dX12_init_1257 : decode cX12_init 1257 = .ok (.dup, 1) := by decide +kernel
theorem dX12_init_1258 : decode cX12_init 1258 = .ok (.iconst 4, 1) := by decide +kernel
theorem dX12_init_1259 : decode cX12_init 1259 = .ok (.bipush 116, 2) := by decide +kernel
theorem dX12_init_1261 : decode cX12_init 1261 = .ok (.castore, 1) := by decide +kernel
theorem dX12_init_1262 : decode cX12_init 1262 = .ok (.putfield 206, 3) := by decide +kernel
theorem dX12_init_1265 : decode cX12_init 1265 = .ok (.aload_n 0, 1) := by decide +kernel
theorem dX12_init_1266 : decode cX12_init 1266 = .ok (.iconst 4, 1) := by decide +kernel
theorem dX12_init_1267 : decode cX12_init 1267 = .ok (.newarray .char, 2) := by decide +kernel
theorem dX12_init_1269 : decode cX12_init 1269 = .ok (.dup, 1) := by decide +kernel
theorem dX12_init_1270 : decode cX12_init 1270 = .ok (.iconst 0, 1) := by decide +kernel
theorem dX12_init_1271 : decode cX12_init 1271 = .ok (.bipush 108, 2) := by decide +kernel
theorem dX12_init_1273 : decode cX12_init 1273 = .ok (.castore, 1) := by decide +kernel
theorem dX12_init_1274 : decode cX12_init 1274 = .ok (.dup, 1) := by decide +kernel
theorem dX12_init_1275 : decode cX12_init 1275 = .ok (.iconst 1, 1) := by decide +kernel
theorem dX12_init_1276 : decode cX12_init 1276 = .ok (.bipush 101, 2) := by decide +kernel
theorem dX12_init_1278 : decode cX12_init 1278 = .ok (.castore, 1) := by decide +kernel
theorem dX12_init_1279 : decode cX12_init 1279 = .ok (.dup, 1) := by decide +kernel
theorem dX12_init_1280 : decode cX12_init 1280 = .ok (.iconst 2, 1) := by decide +kernel
theorem dX12_init_1281 : decode cX12_init 1281 = .ok (.bipush 102, 2) := by decide +kernel
theorem dX12_init_1283 : decode cX12_init 1283 = .ok (.castore, 1) := by decide +kernel
theorem dX12_init_1284 : decode cX12_init 1284 = .ok (.dup, 1) := by decide +kernel
theorem dX12_init_1285 : decode cX12_init 1285 = .ok (.iconst 3, 1) := by decide +kernel
theorem dX12_init_1286 : decode cX12_init 1286 = .ok (.bipush 116, 2) := by decide +kernel
theorem dX12_init_1288 : decode cX12_init 1288 = .ok (.castore, 1) := by decide +kernel
theorem dX12_init_1289 : decode cX12_init 1289 = .ok (.putfield 209, 3) := by decide +kernel
theorem dX12_init_1292 : decode cX12_init 1292 = .ok (.aload_n 0, 1) := by decide +kernel
theorem dX12_init_1293 : decode cX12_init 1293 = .ok (.iconst 4, 1) := by decide +kernel
theorem dX12_init_1294 : decode cX12_init 1294 = .ok (.newarray .char, 2) := by decide +kernel
theorem dX12_init_1296 : decode cX12_init 1296 = .ok (.dup, 1) := by decide +kernel
theorem dX12_init_1297 : decode cX12_init 1297 = .ok (.iconst 0, 1) := by decide +kernel
theorem dX12_init_1298 : decode cX12_init 1298 = .ok (.bipush 104, 2) := by decide +kernel
theorem dX12_init_1300 : decode cX12_init 1300 = .ok (.castore, 1) := by decide +kernel
theorem dX12_init_1301 : decode cX12_init 1301 = .ok (.dup, 1) := by decide +kernel
theorem dX12_init_1302 : decode cX12_init 1302 = .ok (.iconst 1, 1) := by decide +kernel
theorem dX12_init_1303 : decode cX12_init 1303 = .ok (.bipush 97, 2) := by decide +kernel
theorem dX12_init_1305 : decode cX12_init 1305 = .ok (.castore, 1) := by decide +kernel
theorem dX12_init_1306 : decode cX12_init 1306 = .ok (.dup, 1) := by decide +kernel
theorem dX12_init_1307 : decode cX12_init 1307 = .ok (.iconst 2, 1) := by decide +kernel
theorem dX12_init_1308 : decode cX12_init 1308 = .ok (.bipush 116, 2) := by decide +kernel
theorem dX12_init_1310 : decode cX12_init 1310 = .ok (.castore, 1) := by decide +kernel
theorem dX12_init_1311 : decode cX12_init 1311 = .ok (.dup, 1) := by decide +kernel
theorem dX12_init_1312 : decode cX12_init 1312 = .ok (.iconst 3, 1) := by decide +kernel
theorem dX12_init_1313 : decode cX12_init 1313 = .ok (.bipush 115, 2) := by decide +kernel
theorem dX12_init_1315 : decode cX12_init 1315 = .ok (.castore, 1) := by decide +kernel
theorem dX12_init_1316 : decode cX12_init 1316 = .ok (.putfield 212, 3) := by decide +kernel
theorem dX12_init_1319 : decode cX12_init 1319 = .ok (.aload_n 0, 1) := by decide +kernel
theorem dX12_init_1320 : decode cX12_init 1320 = .ok (.iconst 5, 1) := by decide +kernel
theorem dX12_init_1321 : decode cX12_init 1321 = .ok (.newarray .char, 2) := by decide +kernel
theorem dX12_init_1323 : decode cX12_init 1323 = .ok (.dup, 1) := by decide +kernel
theorem dX12_init_1324 : decode cX12_init 1324 = .ok (.iconst 0, 1) := by decide +kernel
theorem dX12_init_1325 : decode cX12_init 1325 = .ok (.bipush 116, 2) := by decide +kernel
theorem dX12_init_1327 : decode cX12_init 1327 = .ok (.castore, 1) := by decide +kernel
theorem dX12_init_1328 : decode cX12_init 1328 = .ok (.dup, 1) := by decide +kernel
theorem dX12_init_1329 : decode cX12_init 1329 = .ok (.iconst 1, 1) := by decide +kernel
theorem dX12_init_1330 : decode cX12_init 1330 = .ok (.bipush 104, 2) := by decide +kernel
theorem dX12_init_1332 : decode cX12_init 1332 = .ok (.castore, 1) := by decide +kernel
theorem dX12_init_1333 : decode cX12_init 1333 = .ok (.dup, 1) := by decide +kernel
theorem dX12_init_1334 : decode cX12_init 1334 = .ok (.iconst 2, 1) := by decide +kernel
theorem dX12_init_1335 : decode cX12_init 1335 = .ok (.bipush 117, 2) := by decide +kernel
theorem dX12_init_1337 : decode cX12_init 1337 = .ok (.castore, 1) := by decide +kernel
theorem dX12_init_1338 : decode cX12_init 1338 = .ok (.dup, 1) := by decide +kernel
theorem dX12_init_1339 : decode cX12_init 1339 = .ok (.iconst 3, 1) := by decide +kernel
theorem dX12_init_1340 : decode cX12_init 1340 = .ok (.bipush 109, 2) := by decide +kernel
theorem dX12_init_1342 : decode cX12_init 1342 = .ok (.castore, 1) := by decide +kernel
theorem dX12_init_1343 : decode cX12_init 1343 = .ok (.dup, 1) := by decide +kernel
theorem dX12_init_1344 : decode cX12_init 1344 = .ok (.iconst 4, 1) := by decide +kernel
theorem dX12_init_1345 : decode cX12_init 1345 = .ok (.bipush 98, 2) := by decide +kernel
theorem dX12_init_1347 : decode cX12_init 1347 = .ok (.castore, 1) := by decide +kernel
theorem dX12_init_1348 : decode cX12_init 1348 = .ok (.putfield 215, 3) := by decide +kernel
theorem dX12_init_1351 : decode cX12_init 1351 = .ok (.aload_n 0, 1) := by decide +kernel
theorem dX12_init_1352 : decode cX12_init 1352 = .ok (.iconst 4, 1) := by decide +kernel
theorem dX12_init_1353 : decode cX12_init 1353 = .ok (.newarray .char, 2) := by decide +kernel
theorem dX12_init_1355 : decode cX12_init 1355 = .ok (.dup, 1) := by decide +kernel
theorem dX12_init_1356 : decode cX12_init 1356 = .ok (.iconst 0, 1) := by decide +kernel
theorem dX12_init_1357 : decode cX12_init 1357 = .ok (.bipush 119, 2) := by decide +kernel
theorem dX12_init_1359 : decode cX12_init 1359 = .ok (.castore, 1) := by decide +kernel
theorem dX12_init_1360 : decode cX12_init 1360 = .ok (.dup, 1) := by decide +kernel
theorem dX12_init_1361 : decode cX12_init 1361 = .ok (.iconst 1, 1) := by decide +kernel
theorem dX12_init_1362 : decode cX12_init 1362 = .ok (.bipush 105, 2) := by decide +kernel
theorem dX12_init_1364 : decode cX12_init 1364 = .ok (.castore, 1) := by decide +kernel
theorem dX12_init_1365 : decode cX12_init 1365 = .ok (.dup, 1) := by decide +kernel
theorem dX12_init_1366 : decode cX12_init 1366 = .ok (.iconst 2, 1) := by decide +kernel
theorem dX12_init_1367 : decode cX12_init 1367 = .ok (.bipush 110, 2) := by decide +kernel
theorem dX12_init_1369 : decode cX12_init 1369 = .ok (.castore, 1) := by decide +kernel
theorem dX12_init_1370 : decode cX12_init 1370 = .ok (.dup, 1) := by decide +kernel
theorem dX12_init_1371 : decode cX12_init 1371 = .ok (.iconst 3, 1) := by decide +kernel
theorem dX12_init_1372 : decode cX12_init 1372 = .ok (.bipush 115, 2) := by decide +kernel
theorem dX12_init_1374 : decode cX12_init 1374 = .ok (.castore, 1) := by decide +kernel
theorem dX12_init_1375 : decode cX12_init 1375 = .ok (.putfield 218, 3) := by decide +kernel
theorem dX12_init_1378 : decode cX12_init 1378 = .ok (.aload_n 0, 1) := by decide +kernel
theorem dX12_init_1379 : decode cX12_init 1379 = .ok (.sipush 1700, 3) := by decide +kernel
theorem dX12_init_1382 : decode cX12_init 1382 = .ok (.newarray .int, 2) := by decide +kernel
theorem dX12_init_1384 : decode cX12_init 1384 = .ok (.putfield 221, 3) := by decide +kernel
theorem dX12_init_1387 : decode cX12_init 1387 = .ok (.aload_n 0, 1) := by decide +kernel
theorem dX12_init_1388 : decode cX12_init 1388 = .ok (.sipush 1700, 3) := by decide +kernel
theorem dX12_init_1391 : decode cX12_init 1391 = .ok (.newarray .int, 2) := by decide +kernel
theorem dX12_init_1393 : decode cX12_init 1393 = .ok (.putfield 224, 3) := by decide +kernel
theorem dX12_init_1396 : decode cX12_init 1396 = .ok (.aload_n 0, 1) := by decide +kernel
theorem dX12_init_1397 : decode cX12_init 1397 = .ok (.sipush 1700, 3) := by decide +kernel
theorem dX12_init_1400 : decode cX12_init 1400 = .ok (.newarray .long, 2) := by decide +kernel
theorem dX12_init_1402 : decode cX12_init 1402 = .ok (.putfield 227, 3) := by decide +kernel
theorem dX12_init_1405 : decode cX12_init 1405 = .ok (.aload_n 0, 1) := by decide +kernel
theorem dX12_init_1406 : decode cX12_init 1406 = .ok (.bipush 55, 2) := by decide +kernel
theorem dX12_init_1408 : decode cX12_init 1408 = .ok (.newarray .int, 2) := by decide +kernel
theorem dX12_init_1410 : decode cX12_init 1410 = .ok (.putfield 230, 3) := by decide +kernel
theorem dX12_init_1413 : decode cX12_init 1413 = .ok (.return_, 1) := by decide +kernel
theorem dX12_isIn_0 : decode cX12_isIn 0 = .ok (.lload_n 0, 1) := by decide +kernel
theorem dX12_isIn_1 : decode cX12_isIn 1 = .ok (.lload_n 2, 1) := by decide +kernel
theorem dX12_isIn_2 : decode cX12_isIn 2 = .ok (.lcmp, 1) := by decide +kernel
theorem dX12_isIn_3 : decode cX12_isIn 3 = .ok (.ifCond .lt 14, 3) := by decide +kernel
theorem dX12_isIn_6 : decode cX12_isIn 6 = .ok (.lload_n 0, 1) := by decide +kernel
theorem dX12_isIn_7 : decode cX12_isIn 7 = .ok (.lload 4, 2) := by decide +kernel
theorem dX12_isIn_9 : decode cX12_isIn 9 = .ok (.lcmp, 1) := by decide +kernel
theorem dX12_isIn_10 : decode cX12_isIn 10 = .ok (.ifCond .gt 7, 3) := by decide +kernel
theorem dX12_isIn_13 : decode cX12_isIn 13 = .ok (.iconst 1, 1) := by decide +kernel
theorem dX12_isIn_14 : decode cX12_isIn 14 = .ok (.goto 4, 3) := by decide +kernel
theorem dX12_isIn_17 : decode cX12_isIn 17 = .ok (.iconst 0, 1) := by decide +kernel
theorem dX12_isIn_18 : decode cX12_isIn 18 = .ok (.ireturn, 1) := by decide +kernel
theorem dX12_feed_0 : decode cX12_feed 0 = .ok (.aload_n 0, 1) := by decide +kernel
theorem dX12_feed_1 : decode cX12_feed 1 = .ok (.getfield 233, 3) := by decide +kernel
theorem dX12_feed_4 : decode cX12_feed 4 = .ok (.bipush 20, 2) := by decide +kernel
theorem dX12_feed_6 : decode cX12_feed 6 = .ok (.iadd, 1) := by decide +kernel
theorem dX12_feed_7 : decode cX12_feed 7 = .ok (.sipush 1600, 3) := by decide +kernel
theorem dX12_feed_10 : decode cX12_feed 10 = .ok (.if_icmp .le 15, 3) := by decide +kernel
theorem dX12_feed_13 : decode cX12_feed 13 = .ok (.aload_n 0, 1) := by decide +kernel
theorem dX12_feed_14 : decode cX12_feed 14 = .ok (.getfield 17, 3) := by decide +kernel
theorem dX12_feed_17 : decode cX12_feed 17 = .ok (.iconst 0, 1) := by decide +kernel
theorem dX12_feed_18 : decode cX12_feed 18 = .ok (.dup2, 1) := by decide +kernel
theorem dX12_feed_19 : decode cX12_feed 19 = .ok (.iaload, 1) := by decide +kernel
theorem dX12_feed_20 : decode cX12_feed 20 = .ok (.iconst 1, 1) := by decide +kernel
theorem dX12_feed_21 : decode cX12_feed 21 = .ok (.iadd, 1) := by decide +kernel
theorem dX12_feed_22 : decode cX12_feed 22 = .ok (.iastore, 1) := by decide +kernel
theorem dX12_feed_23 : decode cX12_feed 23 = .ok (.iconst (-1), 1) := by decide +kernel
theorem dX12_feed_24 : decode cX12_feed 24 = .ok (.ireturn, 1) := by decide +kernel
theorem dX12_feed_25 : decode cX12_feed 25 = .ok (.iconst 0, 1) := by decide +kernel
theorem dX12_feed_26 : decode cX12_feed 26 = .ok (.istore 6, 2) := by decide +kernel
theorem dX12_feed_28 : decode cX12_feed 28 = .ok (.iload 6, 2) := by decide +kernel
theorem dX12_feed_30 : decode cX12_feed 30 = .ok (.bipush 20, 2) := by decide +kernel
theorem dX12_feed_32 : decode cX12_feed 32 = .ok (.if_icmp .ge 92, 3) := by decide +kernel
theorem dX12_feed_35 : decode cX12_feed 35 = .ok (.iload 6, 2) := by decide +kernel
theorem dX12_feed_37 : decode cX12_feed 37 = .ok (.iconst 4, 1) := by decide +kernel
theorem dX12_feed_38 : decode cX12_feed 38 = .ok (.if_icmp .ge 7, 3) := by decide +kernel
theorem dX12_feed_41 : decode cX12_feed 41 = .ok (.iload_n 1, 1) := by decide +kernel
theorem dX12_feed_42 : decode cX12_feed 42 = .ok (.goto 39, 3) := by decide +kernel
theorem dX12_feed_45 : decode cX12_feed 45 = .ok (.iload 6, 2) := by decide +kernel
theorem dX12_feed_47 : decode cX12_feed 47 = .ok (.bipush 8, 2) := by decide +kernel
theorem dX12_feed_49 : decode cX12_feed 49 = .ok (.if_icmp .ge 7, 3) := by decide +kernel
theorem dX12_feed_52 : decode cX12_feed 52 = .ok (.iload_n 2, 1) := by decide +kernel
theorem dX12_feed_53 : decode cX12_feed 53 = .ok (.goto 28, 3) := by decide +kernel
theorem dX12_feed_56 : decode cX12_feed 56 = .ok (.iload 6, 2) := by decide +kernel
theorem dX12_feed_58 : decode cX12_feed 58 = .ok (.bipush 12, 2) := by decide +kernel
theorem dX12_feed_60 : decode cX12_feed 60 = .ok (.if_icmp .ge 7, 3) := by decide +kernel
theorem dX12_feed_63 : decode cX12_feed 63 = .ok (.iload_n 3, 1) := by decide +kernel
theorem dX12_feed_64 : decode cX12_feed 64 = .ok (.goto 17, 3) := by decide +kernel
theorem dX12_feed_67 : decode cX12_feed 67 = .ok (.iload 6, 2) := by decide +kernel
theorem dX12_feed_69 : decode cX12_feed 69 = .ok (.bipush 16, 2) := by decide +kernel
theorem dX12_feed_71 : decode cX12_feed 71 = .ok (.if_icmp .ge 8, 3) := by decide +kernel
theorem dX12_feed_74 : decode cX12_feed 74 = .ok (.iload 4, 2) := by decide +kernel
theorem dX12_feed_76 : decode cX12_feed 76 = .ok (.goto 5, 3) := by decide +kernel
theorem dX12_feed_79 : decode cX12_feed 79 = .ok (.iload 5, 2) := by decide +kernel
theorem dX12_feed_81 : decode cX12_feed 81 = .ok (.istore 7, 2) := by decide +kernel
theorem dX12_feed_83 : decode cX12_feed 83 = .ok (.aload_n 0, 1) := by decide +kernel
theorem dX12_feed_84 : decode cX12_feed 84 = .ok (.getfield 7, 3) := by decide +kernel
theorem dX12_feed_87 : decode cX12_feed 87 = .ok (.aload_n 0, 1) := by decide +kernel
theorem dX12_feed_88 : decode cX12_feed 88 = .ok (.getfield 233, 3) := by decide +kernel
theorem dX12_feed_91 : decode cX12_feed 91 = .ok (.iload 7, 2) := by decide +kernel
theorem dX12_feed_93 : decode cX12_feed 93 = .ok (.bipush 8, 2) := by decide +kernel
theorem dX12_feed_95 : decode cX12_feed 95 = .ok (.iconst 3, 1) := by decide +kernel
theorem dX12_feed_96 : decode cX12_feed 96 = .ok (.iload 6, 2) := by decide +kernel
theorem dX12_feed_98 : decode cX12_feed 98 = .ok (.iconst 4, 1) := by decide +kernel
theorem dX12_feed_99 : decode cX12_feed 99 = .ok (.irem, 1) := by decide +kernel
theorem dX12_feed_100 : decode cX12_feed 100 = .ok (.isub, 1) := by decide +kernel
theorem dX12_feed_101 : decode cX12_feed 101 = .ok (.imul, 1) := by decide +kernel
theorem dX12_feed_102 : decode cX12_feed 102 = .ok (.ishr, 1) := by decide +kernel
theorem dX12_feed_103 : decode cX12_feed 103 = .ok (.sipush 255, 3) := by decide +kernel
theorem dX12_feed_106 : decode cX12_feed 106 = .ok (.iand, 1) := by decide +kernel
theorem dX12_feed_107 : decode cX12_feed 107 = .ok (.iastore, 1) := by decide +kernel
theorem dX12_feed_108 : decode cX12_feed 108 = .ok (.aload_n 0, 1) := by decide +kernel
theorem dX12_feed_109 : decode cX12_feed 109 = .ok (.dup, 1) := by decide +kernel
theorem dX12_feed_110 : decode cX12_feed 110 = .ok (.getfield 233, 3) := by decide +kernel
theorem dX12_feed_113 : decode cX12_feed 113 = .ok (.iconst 1, 1) := by decide +kernel
theorem dX12_feed_114 : decode cX12_feed 114 = .ok (.iadd, 1) := by decide +kernel
theorem dX12_feed_115 : decode cX12_feed 115 = .ok (.putfield 233, 3) := by decide +kernel
theorem dX12_feed_118 : decode cX12_feed 118 = .ok (.iinc 6 1, 3) := by decide +kernel
theorem dX12_feed_121 : decode cX12_feed 121 = .ok (.goto (-93), 3) := by decide +kernel
theorem dX12_feed_124 : decode cX12_feed 124 = .ok (.aload_n 0, 1) := by decide +kernel
theorem dX12_feed_125 : decode cX12_feed 125 = .ok (.getfield 233, 3) := by decide +kernel
theorem dX12_feed_128 : decode cX12_feed 128 = .ok (.ireturn, 1) := by decide +kernel
theorem dX12_end_0 : decode cX12_end 0 = .ok (.iload_n 1, 1) := by decide +kernel
theorem dX12_end_1 : decode cX12_end 1 = .ok (.ifCond .lt 11, 3) := by decide +kernel
theorem dX12_end_4 : decode cX12_end 4 = .ok (.iload_n 1, 1) := by decide +kernel
theorem dX12_end_5 : decode cX12_end 5 = .ok (.aload_n 0, 1) := by decide +kernel
theorem dX12_end_6 : decode cX12_end 6 = .ok (.getfield 233, 3) := by decide +kernel
theorem dX12_end_9 : decode cX12_end 9 = .ok (.if_icmp .le 15, 3) := by decide +kernel
theorem dX12_end_12 : decode cX12_end 12 = .ok (.aload_n 0, 1) := by decide +kernel
theorem dX12_end_13 : decode cX12_end 13 = .ok (.getfield 17, 3) := by decide +kernel
theorem dX12_end_16 : decode cX12_end 16 = .ok (.iconst 0, 1) := by decide +kernel
theorem dX12_end_17 : decode cX12_end 17 = .ok (.dup2, 1) := by decide +kernel
theorem dX12_end_18 : decode cX12_end 18 = .ok (.iaload, 1) := by decide +kernel
theorem dX12_end_19 : decode cX12_end 19 = .ok (.iconst 1, 1) := by decide +kernel
theorem dX12_end_20 : decode cX12_end 20 = .ok (.iadd, 1) := by decide +kernel
theorem dX12_end_21 : decode cX12_end 21 = .ok (.iastore, 1) := by decide +kernel
theorem dX12_end_22 : decode cX12_end 22 = .ok (.iconst 0, 1) := by decide +kernel
theorem dX12_end_23 : decode cX12_end 23 = .ok (.ireturn, 1) := by decide +kernel
theorem dX12_end_24 : decode cX12_end 24 = .ok (.aload_n 0, 1) := by decide +kernel
theorem dX12_end_25 : decode cX12_end 25 = .ok (.iload_n 1, 1) := by decide +kernel
theorem dX12_end_26 : decode cX12_end 26 = .ok (.putfield 233, 3) := by decide +kernel
theorem dX12_end_29 : decode cX12_end 29 = .ok (.iconst 1, 1) := by decide +kernel
theorem dX12_end_30 : decode cX12_end 30 = .ok (.ireturn, 1) := by decide +kernel
theorem dX12_fail_0 : decode cX12_fail 0 = .ok (.aload_n 0, 1) := by decide +kernel
theorem dX12_fail_1 : decode cX12_fail 1 = .ok (.getfield 236, 3) := by decide +kernel
theorem dX12_fail_4 : decode cX12_fail 4 = .ok (.ifCond .eq 4, 3) := by decide +kernel
theorem dX12_fail_7 : decode cX12_fail 7 = .ok (.return_, 1) := by decide +kernel
theorem dX12_fail_8 : decode cX12_fail 8 = .ok (.aload_n 0, 1) := by decide +kernel
theorem dX12_fail_9 : decode cX12_fail 9 = .ok (.iload_n 1, 1) := by decide +kernel
theorem dX12_fail_10 : decode cX12_fail 10 = .ok (.putfield 236, 3) := by decide +kernel
theorem dX12_fail_13 : decode cX12_fail 13 = .ok (.aload_n 0, 1) := by decide +kernel
theorem dX12_fail_14 : decode cX12_fail 14 = .ok (.iload_n 2, 1) := by decide +kernel
theorem dX12_fail_15 : decode cX12_fail 15 = .ok (.putfield 239, 3) := by decide +kernel
theorem dX12_fail_18 : decode cX12_fail 18 = .ok (.return_, 1) := by decide +kernel
theorem dX12_isLetter_0 : decode cX12_isLetter 0 = .ok (.iload_n 0, 1) := by decide +kernel
theorem dX12_isLetter_1 : decode cX12_isLetter 1 = .ok (.bipush 97, 2) := by decide +kernel
theorem dX12_isLetter_3 : decode cX12_isLetter 3 = .ok (.if_icmp .lt 13, 3) := by decide +kernel
theorem dX12_isLetter_6 : decode cX12_isLetter 6 = .ok (.iload_n 0, 1) := by decide +kernel
theorem dX12_isLetter_7 : decode cX12_isLetter 7 = .ok (.bipush 122, 2) := by decide +kernel
theorem dX12_isLetter_9 : decode cX12_isLetter 9 = .ok (.if_icmp .gt 7, 3) := by decide +kernel
theorem dX12_isLetter_12 : decode cX12_isLetter 12 = .ok (.iconst 1, 1) := by decide +kernel
theorem dX12_isLetter_13 : decode cX12_isLetter 13 = .ok (.goto 4, 3) := by decide +kernel
theorem dX12_isLetter_16 : decode cX12_isLetter 16 = .ok (.iconst 0, 1) := by decide +kernel
theorem dX12_isLetter_17 : decode cX12_isLetter 17 = .ok (.ireturn, 1) := by decide +kernel
theorem dX12_isDigit_0 : decode cX12_isDigit 0 = .ok (.iload_n 0, 1) := by decide +kernel
theorem dX12_isDigit_1 : decode cX12_isDigit 1 = .ok (.bipush 48, 2) := by decide +kernel
theorem dX12_isDigit_3 : decode cX12_isDigit 3 = .ok (.if_icmp .lt 13, 3) := by decide +kernel
theorem dX12_isDigit_6 : decode cX12_isDigit 6 = .ok (.iload_n 0, 1) := by decide +kernel
theorem dX12_isDigit_7 : decode cX12_isDigit 7 = .ok (.bipush 57, 2) := by decide +kernel
theorem dX12_isDigit_9 : decode cX12_isDigit 9 = .ok (.if_icmp .gt 7, 3) := by decide +kernel
theorem dX12_isDigit_12 : decode cX12_isDigit 12 = .ok (.iconst 1, 1) := by decide +kernel
theorem dX12_isDigit_13 : decode cX12_isDigit 13 = .ok (.goto 4, 3) := by decide +kernel
theorem dX12_isDigit_16 : decode cX12_isDigit 16 = .ok (.iconst 0, 1) := by decide +kernel
theorem dX12_isDigit_17 : decode cX12_isDigit 17 = .ok (.ireturn, 1) := by decide +kernel
theorem dX12_look_0 : decode cX12_look 0 = .ok (.aload_n 0, 1) := by decide +kernel
theorem dX12_look_1 : decode cX12_look 1 = .ok (.getfield 242, 3) := by decide +kernel
theorem dX12_look_4 : decode cX12_look 4 = .ok (.aload_n 0, 1) := by decide +kernel
theorem dX12_look_5 : decode cX12_look 5 = .ok (.getfield 245, 3) := by decide +kernel
theorem dX12_look_8 : decode cX12_look 8 = .ok (.if_icmp .ge 44, 3) := by decide +kernel
theorem dX12_look_11 : decode cX12_look 11 = .ok (.aload_n 0, 1) := by decide +kernel
theorem dX12_look_12 : decode cX12_look 12 = .ok (.getfield 7, 3) := by decide +kernel
theorem dX12_look_15 : decode cX12_look 15 = .ok (.aload_n 0, 1) := by decide +kernel
theorem dX12_look_16 : decode cX12_look 16 = .ok (.getfield 242, 3) := by decide +kernel
theorem dX12_look_19 : decode cX12_look 19 = .ok (.iaload, 1) := by decide +kernel
theorem dX12_look_20 : decode cX12_look 20 = .ok (.bipush 10, 2) := by decide +kernel
theorem dX12_look_22 : decode cX12_look 22 = .ok (.if_icmp .eq 17, 3) := by decide +kernel
theorem dX12_look_25 : decode cX12_look 25 = .ok (.aload_n 0, 1) := by decide +kernel
theorem dX12_look_26 : decode cX12_look 26 = .ok (.getfield 7, 3) := by decide +kernel
theorem dX12_look_29 : decode cX12_look 29 = .ok (.aload_n 0, 1) := by decide +kernel
theorem dX12_look_30 : decode cX12_look 30 = .ok (.getfield 242, 3) := by decide +kernel
theorem dX12_look_33 : decode cX12_look 33 = .ok (.iaload, 1) := by decide +kernel
theorem dX12_look_34 : decode cX12_look 34 = .ok (.bipush 32, 2) := by decide +kernel
theorem dX12_look_36 : decode cX12_look 36 = .ok (.if_icmp .ne 16, 3) := by decide +kernel
theorem dX12_look_39 : decode cX12_look 39 = .ok (.aload_n 0, 1) := by decide +kernel
theorem dX12_look_40 : decode cX12_look 40 = .ok (.dup, 1) := by decide +kernel
theorem dX12_look_41 : decode cX12_look 41 = .ok (.getfield 242, 3) := by decide +kernel
theorem dX12_look_44 : decode cX12_look 44 = .ok (.iconst 1, 1) := by decide +kernel
theorem dX12_look_45 : decode cX12_look 45 = .ok (.iadd, 1) := by decide +kernel
theorem dX12_look_46 : decode cX12_look 46 = .ok (.putfield 242, 3) := by decide +kernel
theorem dX12_look_49 : decode cX12_look 49 = .ok (.goto (-49), 3) := by decide +kernel
theorem dX12_look_52 : decode cX12_look 52 = .ok (.aload_n 0, 1) := by decide +kernel
theorem dX12_look_53 : decode cX12_look 53 = .ok (.getfield 242, 3) := by decide +kernel
theorem dX12_look_56 : decode cX12_look 56 = .ok (.aload_n 0, 1) := by decide +kernel
theorem dX12_look_57 : decode cX12_look 57 = .ok (.getfield 245, 3) := by decide +kernel
theorem dX12_look_60 : decode cX12_look 60 = .ok (.if_icmp .ge 15, 3) := by decide +kernel
theorem dX12_look_63 : decode cX12_look 63 = .ok (.aload_n 0, 1) := by decide +kernel
theorem dX12_look_64 : decode cX12_look 64 = .ok (.getfield 7, 3) := by decide +kernel
theorem dX12_look_67 : decode cX12_look 67 = .ok (.aload_n 0, 1) := by decide +kernel
theorem dX12_look_68 : decode cX12_look 68 = .ok (.getfield 242, 3) := by decide +kernel
theorem dX12_look_71 : decode cX12_look 71 = .ok (.iaload, 1) := by decide +kernel
theorem dX12_look_72 : decode cX12_look 72 = .ok (.goto 4, 3) := by decide +kernel
theorem dX12_look_75 : decode cX12_look 75 = .ok (.iconst (-1), 1) := by decide +kernel
theorem dX12_look_76 : decode cX12_look 76 = .ok (.ireturn, 1) := by decide +kernel
theorem dX12_isHere_0 : decode cX12_isHere 0 = .ok (.aload_n 0, 1) := by decide +kernel
theorem dX12_isHere_1 : decode cX12_isHere 1 = .ok (.getfield 236, 3) := by decide +kernel
theorem dX12_isHere_4 : decode cX12_isHere 4 = .ok (.ifCond .ne 24, 3) := by decide +kernel
theorem dX12_isHere_7 : decode cX12_isHere 7 = .ok (.aload_n 0, 1) := by decide +kernel
theorem dX12_isHere_8 : decode cX12_isHere 8 = .ok (.invokevirtual 248, 3) := by decide +kernel
theorem dX12_isHere_11 : decode cX12_isHere 11 = .ok (.invokestatic 252, 3) := by decide +kernel
theorem dX12_isHere_14 : decode cX12_isHere 14 = .ok (.ifCond .eq 14, 3) := by decide +kernel
theorem dX12_isHere_17 : decode cX12_isHere 17 = .ok (.aload_n 0, 1) := by decide +kernel
theorem dX12_isHere_18 : decode cX12_isHere 18 = .ok (.getfield 242, 3) := by decide +kernel
theorem dX12_isHere_21 : decode cX12_isHere 21 = .ok (.aload_n 0, 1) := by decide +kernel
theorem dX12_isHere_22 : decode cX12_isHere 22 = .ok (.getfield 256, 3) := by decide +kernel
theorem dX12_isHere_25 : decode cX12_isHere 25 = .ok (.if_icmp .ne 5, 3) := by decide +kernel
theorem dX12_isHere_28 : decode cX12_isHere 28 = .ok (.iconst 0, 1) := by decide +kernel
theorem dX12_isHere_29 : decode cX12_isHere 29 = .ok (.ireturn, 1) := by decide +kernel
theorem dX12_isHere_30 : decode cX12_isHere 30 = .ok (.aload_n 0, 1) := by decide +kernel
theorem dX12_isHere_31 : decode cX12_isHere 31 = .ok (.getfield 242, 3) := by decide +kernel
theorem dX12_isHere_34 : decode cX12_isHere 34 = .ok (.istore_n 2, 1) := by decide +kernel
theorem dX12_isHere_35 : decode cX12_isHere 35 = .ok (.iload_n 2, 1) := by decide +kernel
theorem dX12_isHere_36 : decode cX12_isHere 36 = .ok (.aload_n 0, 1) := by decide +kernel
theorem dX12_isHere_37 : decode cX12_isHere 37 = .ok (.getfield 245, 3) := by decide +kernel
theorem dX12_isHere_40 : decode cX12_isHere 40 = .ok (.if_icmp .ge 21, 3) := by decide +kernel
theorem dX12_isHere_43 : decode cX12_isHere 43 = .ok (.aload_n 0, 1) := by decide +kernel
theorem dX12_isHere_44 : decode cX12_isHere 44 = .ok (.getfield 7, 3) := by decide +kernel
theorem dX12_isHere_47 : decode cX12_isHere 47 = .ok (.iload_n 2, 1) := by decide +kernel
theorem dX12_isHere_48 : decode cX12_isHere 48 = .ok (.iaload, 1) := by decide +kernel
theorem dX12_isHere_49 : decode cX12_isHere 49 = .ok (.invokestatic 252, 3) := by decide +kernel
theorem dX12_isHere_52 : decode cX12_isHere 52 = .ok (.ifCond .eq 9, 3) := by decide +kernel
theorem dX12_isHere_55 : decode cX12_isHere 55 = .ok (.iinc 2 1, 3) := by decide +kernel
theorem dX12_isHere_58 : decode cX12_isHere 58 = .ok (.goto (-23), 3) := by decide +kernel
theorem dX12_isHere_61 : decode cX12_isHere 61 = .ok (.iload_n 2, 1) := by decide +kernel
theorem dX12_isHere_62 : decode cX12_isHere 62 = .ok (.aload_n 0, 1) := by decide +kernel
theorem dX12_isHere_63 : decode cX12_isHere 63 = .ok (.getfield 242, 3) := by decide +kernel
theorem dX12_isHere_66 : decode cX12_isHere 66 = .ok (.isub, 1) := by decide +kernel
theorem dX12_isHere_67 : decode cX12_isHere 67 = .ok (.aload_n 1, 1) := by decide +kernel
theorem dX12_isHere_68 : decode cX12_isHere 68 = .ok (.arraylength, 1) := by decide +kernel
theorem dX12_isHere_69 : decode cX12_isHere 69 = .ok (.if_icmp .eq 5, 3) := by decide +kernel
theorem dX12_isHere_72 : decode cX12_isHere 72 = .ok (.iconst 0, 1) := by decide +kernel
theorem dX12_isHere_73 : decode cX12_isHere 73 = .ok (.ireturn, 1) := by decide +kernel
theorem dX12_isHere_74 : decode cX12_isHere 74 = .ok (.iconst 0, 1) := by decide +kernel
theorem dX12_isHere_75 : decode cX12_isHere 75 = .ok (.istore_n 3, 1) := by decide +kernel
theorem dX12_isHere_76 : decode cX12_isHere 76 = .ok (.iload_n 3, 1) := by decide +kernel
theorem dX12_isHere_77 : decode cX12_isHere 77 = .ok (.aload_n 1, 1) := by decide +kernel
theorem dX12_isHere_78 : decode cX12_isHere 78 = .ok (.arraylength, 1) := by decide +kernel
theorem dX12_isHere_79 : decode cX12_isHere 79 = .ok (.if_icmp .ge 28, 3) := by decide +kernel
theorem dX12_isHere_82 : decode cX12_isHere 82 = .ok (.aload_n 0, 1) := by decide +kernel
theorem dX12_isHere_83 : decode cX12_isHere 83 = .ok (.getfield 7, 3) := by decide +kernel
theorem dX12_isHere_86 : decode cX12_isHere 86 = .ok (.aload_n 0, 1) := by decide +kernel
theorem dX12_isHere_87 : decode cX12_isHere 87 = .ok (.getfield 242, 3) := by decide +kernel
theorem dX12_isHere_90 : decode cX12_isHere 90 = .ok (.iload_n 3, 1) := by decide +kernel
theorem dX12_isHere_91 : decode cX12_isHere 91 = .ok (.iadd, 1) := by decide +kernel
theorem dX12_isHere_92 : decode cX12_isHere 92 = .ok (.iaload, 1) := by decide +kernel
theorem dX12_isHere_93 : decode cX12_isHere 93 = .ok (.aload_n 1, 1) := by decide +kernel
theorem dX12_isHere_94 : decode cX12_isHere 94 = .ok (.iload_n 3, 1) := by decide +kernel
theorem dX12_isHere_95 : decode cX12_isHere 95 = .ok (.caload, 1) := by decide +kernel
theorem dX12_isHere_96 : decode cX12_isHere 96 = .ok (.if_icmp .eq 5, 3) := by decide +kernel
theorem dX12_isHere_99 : decode cX12_isHere 99 = .ok (.iconst 0, 1) := by decide +kernel
theorem dX12_isHere_100 : decode cX12_isHere 100 = .ok (.ireturn, 1) := by decide +kernel
theorem dX12_isHere_101 : decode cX12_isHere 101 = .ok (.iinc 3 1, 3) := by decide +kernel
theorem dX12_isHere_104 : decode cX12_isHere 104 = .ok (.goto (-28), 3) := by decide +kernel
theorem dX12_isHere_107 : decode cX12_isHere 107 = .ok (.iconst 1, 1) := by decide +kernel
theorem dX12_isHere_108 : decode cX12_isHere 108 = .ok (.ireturn, 1) := by decide +kernel
theorem dX12_takes_0 : decode cX12_takes 0 = .ok (.aload_n 0, 1) := by decide +kernel
theorem dX12_takes_1 : decode cX12_takes 1 = .ok (.aload_n 1, 1) := by decide +kernel
theorem dX12_takes_2 : decode cX12_takes 2 = .ok (.invokevirtual 259, 3) := by decide +kernel
theorem dX12_takes_5 : decode cX12_takes 5 = .ok (.ifCond .ne 5, 3) := by decide +kernel
theorem dX12_takes_8 : decode cX12_takes 8 = .ok (.iconst 0, 1) := by decide +kernel
theorem dX12_takes_9 : decode cX12_takes 9 = .ok (.ireturn, 1) := by decide +kernel
theorem dX12_takes_10 : decode cX12_takes 10 = .ok (.aload_n 0, 1) := by decide +kernel
theorem dX12_takes_11 : decode cX12_takes 11 = .ok (.dup, 1) := by decide +kernel
theorem dX12_takes_12 : decode cX12_takes 12 = .ok (.getfield 242, 3) := by decide +kernel
theorem dX12_takes_15 : decode cX12_takes 15 = .ok (.aload_n 1, 1) := by decide +kernel
theorem dX12_takes_16 : decode cX12_takes 16 = .ok (.arraylength, 1) := by decide +kernel
theorem dX12_takes_17 : decode cX12_takes 17 = .ok (.iadd, 1) := by decide +kernel
theorem dX12_takes_18 : decode cX12_takes 18 = .ok (.putfield 242, 3) := by decide +kernel
theorem dX12_takes_21 : decode cX12_takes 21 = .ok (.aload_n 0, 1) := by decide +kernel
theorem dX12_takes_22 : decode cX12_takes 22 = .ok (.aload_n 0, 1) := by decide +kernel
theorem dX12_takes_23 : decode cX12_takes 23 = .ok (.getfield 242, 3) := by decide +kernel
theorem dX12_takes_26 : decode cX12_takes 26 = .ok (.putfield 256, 3) := by decide +kernel
theorem dX12_takes_29 : decode cX12_takes 29 = .ok (.iconst 1, 1) := by decide +kernel
theorem dX12_takes_30 : decode cX12_takes 30 = .ok (.ireturn, 1) := by decide +kernel
theorem dX12_asks_0 : decode cX12_asks 0 = .ok (.aload_n 0, 1) := by decide +kernel
theorem dX12_asks_1 : decode cX12_asks 1 = .ok (.getfield 236, 3) := by decide +kernel
theorem dX12_asks_4 : decode cX12_asks 4 = .ok (.ifCond .ne 20, 3) := by decide +kernel
theorem dX12_asks_7 : decode cX12_asks 7 = .ok (.aload_n 0, 1) := by decide +kernel
theorem dX12_asks_8 : decode cX12_asks 8 = .ok (.aload_n 1, 1) := by decide +kernel
theorem dX12_asks_9 : decode cX12_asks 9 = .ok (.invokevirtual 263, 3) := by decide +kernel
theorem dX12_asks_12 : decode cX12_asks 12 = .ok (.ifCond .ne 12, 3) := by decide +kernel
theorem dX12_asks_15 : decode cX12_asks 15 = .ok (.aload_n 0, 1) := by decide +kernel
theorem dX12_asks_16 : decode cX12_asks 16 = .ok (.iconst 1, 1) := by decide +kernel
theorem dX12_asks_17 : decode cX12_asks 17 = .ok (.aload_n 0, 1) := by decide +kernel
theorem dX12_asks_18 : decode cX12_asks 18 = .ok (.getfield 242, 3) := by decide +kernel
theorem dX12_asks_21 : decode cX12_asks 21 = .ok (.invokevirtual 266, 3) := by decide +kernel
theorem dX12_asks_24 : decode cX12_asks 24 = .ok (.return_, 1) := by decide +kernel
theorem dX12_takesSign_0 : decode cX12_takesSign 0 = .ok (.aload_n 0, 1) := by decide +kernel
theorem dX12_takesSign_1 : decode cX12_takesSign 1 = .ok (.getfield 236, 3) := by decide +kernel
theorem dX12_takesSign_4 : decode cX12_takesSign 4 = .ok (.ifCond .ne 11, 3) := by decide +kernel
theorem dX12_takesSign_7 : decode cX12_takesSign 7 = .ok (.aload_n 0, 1) := by decide +kernel
theorem dX12_takesSign_8 : decode cX12_takesSign 8 = .ok (.invokevirtual 248, 3) := by decide +kernel
theorem dX12_takesSign_11 : decode cX12_takesSign 11 = .ok (.iload_n 1, 1) := by decide +kernel
theorem dX12_takesSign_12 : decode cX12_takesSign 12 = .ok (.if_icmp .eq 5, 3) := by decide +kernel
theorem dX12_takesSign_15 : decode cX12_takesSign 15 = .ok (.iconst 0, 1) := by decide +kernel
theorem dX12_takesSign_16 : decode cX12_takesSign 16 = .ok (.ireturn, 1) := by decide +kernel
theorem dX12_takesSign_17 : decode cX12_takesSign 17 = .ok (.aload_n 0, 1) := by decide +kernel
theorem dX12_takesSign_18 : decode cX12_takesSign 18 = .ok (.dup, 1) := by decide +kernel
theorem dX12_takesSign_19 : decode cX12_takesSign 19 = .ok (.getfield 242, 3) := by decide +kernel
theorem dX12_takesSign_22 : decode cX12_takesSign 22 = .ok (.iconst 1, 1) := by decide +kernel
theorem dX12_takesSign_23 : decode cX12_takesSign 23 = .ok (.iadd, 1) := by decide +kernel
theorem dX12_takesSign_24 : decode cX12_takesSign 24 = .ok (.putfield 242, 3) := by decide +kernel
theorem dX12_takesSign_27 : decode cX12_takesSign 27 = .ok (.iconst 1, 1) := by decide +kernel
theorem dX12_takesSign_28 : decode cX12_takesSign 28 = .ok (.ireturn, 1) := by decide +kernel
theorem dX12_asksSign_0 : decode cX12_asksSign 0 = .ok (.aload_n 0, 1) := by decide +kernel
theorem dX12_asksSign_1 : decode cX12_asksSign 1 = .ok (.getfield 236, 3) := by decide +kernel
theorem dX12_asksSign_4 : decode cX12_asksSign 4 = .ok (.ifCond .ne 20, 3) := by decide +kernel
theorem dX12_asksSign_7 : decode cX12_asksSign 7 = .ok (.aload_n 0, 1) := by decide +kernel
theorem dX12_asksSign_8 : decode cX12_asksSign 8 = .ok (.iload_n 1, 1) := by decide +kernel
theorem dX12_asksSign_9 : decode cX12_asksSign 9 = .ok (.invokevirtual 270, 3) := by decide +kernel
theorem dX12_asksSign_12 : decode cX12_asksSign 12 = .ok (.ifCond .ne 12, 3) := by decide +kernel
theorem dX12_asksSign_15 : decode cX12_asksSign 15 = .ok (.aload_n 0, 1) := by decide +kernel
theorem dX12_asksSign_16 : decode cX12_asksSign 16 = .ok (.iconst 1, 1) := by decide +kernel
theorem dX12_asksSign_17 : decode cX12_asksSign 17 = .ok (.aload_n 0, 1) := by decide +kernel
theorem dX12_asksSign_18 : decode cX12_asksSign 18 = .ok (.getfield 242, 3) := by decide +kernel
theorem dX12_asksSign_21 : decode cX12_asksSign 21 = .ok (.invokevirtual 266, 3) := by decide +kernel
theorem dX12_asksSign_24 : decode cX12_asksSign 24 = .ok (.return_, 1) := by decide +kernel
theorem dX12_number_0 : decode cX12_number 0 = .ok (.aload_n 0, 1) := by decide +kernel
theorem dX12_number_1 : decode cX12_number 1 = .ok (.getfield 236, 3) := by decide +kernel
theorem dX12_number_4 : decode cX12_number 4 = .ok (.ifCond .eq 5, 3) := by decide +kernel
theorem dX12_number_7 : decode cX12_number 7 = .ok (.iconst 0, 1) := by decide +kernel
theorem dX12_number_8 : decode cX12_number 8 = .ok (.ireturn, 1) := by decide +kernel
theorem dX12_number_9 : decode cX12_number 9 = .ok (.aload_n 0, 1) := by decide +kernel
theorem dX12_number_10 : decode cX12_number 10 = .ok (.invokevirtual 248, 3) := by decide +kernel
theorem dX12_number_13 : decode cX12_number 13 = .ok (.invokestatic 273, 3) := by decide +kernel
theorem dX12_number_16 : decode cX12_number 16 = .ok (.ifCond .eq 14, 3) := by decide +kernel
theorem dX12_number_19 : decode cX12_number 19 = .ok (.aload_n 0, 1) := by decide +kernel
theorem dX12_number_20 : decode cX12_number 20 = .ok (.getfield 242, 3) := by decide +kernel
theorem dX12_number_23 : decode cX12_number 23 = .ok (.aload_n 0, 1) := by decide +kernel
theorem dX12_number_24 : decode cX12_number 24 = .ok (.getfield 256, 3) := by decide +kernel
theorem dX12_number_27 : decode cX12_number 27 = .ok (.if_icmp .ne 14, 3) := by decide +kernel
theorem dX12_number_30 : decode cX12_number 30 = .ok (.aload_n 0, 1) := by decide +kernel
theorem dX12_number_31 : decode cX12_number 31 = .ok (.iconst 1, 1) := by decide +kernel
theorem dX12_number_32 : decode cX12_number 32 = .ok (.aload_n 0, 1) := by decide +kernel
theorem dX12_number_33 : decode cX12_number 33 = .ok (.getfield 242, 3) := by decide +kernel
theorem dX12_number_36 : decode cX12_number 36 = .ok (.invokevirtual 266, 3) := by decide +kernel
theorem dX12_number_39 : decode cX12_number 39 = .ok (.iconst 0, 1) := by decide +kernel
theorem dX12_number_40 : decode cX12_number 40 = .ok (.ireturn, 1) := by decide +kernel
theorem dX12_number_41 : decode cX12_number 41 = .ok (.aload_n 0, 1) := by decide +kernel
theorem dX12_number_42 : decode cX12_number 42 = .ok (.getfield 242, 3) := by decide +kernel
theorem dX12_number_45 : decode cX12_number 45 = .ok (.istore_n 3, 1) := by decide +kernel
theorem dX12_number_46 : decode cX12_number 46 = .ok (.iconst 0, 1) := by decide +kernel
theorem dX12_number_47 : decode cX12_number 47 = .ok (.istore 4, 2) := by decide +kernel
theorem dX12_number_49 : decode cX12_number 49 = .ok (.aload_n 0, 1) := by decide +kernel
theorem dX12_number_50 : decode cX12_number 50 = .ok (.getfield 242, 3) := by decide +kernel
theorem dX12_number_53 : decode cX12_number 53 = .ok (.aload_n 0, 1) := by decide +kernel
theorem dX12_number_54 : decode cX12_number 54 = .ok (.getfield 245, 3) := by decide +kernel
theorem dX12_number_57 : decode cX12_number 57 = .ok (.if_icmp .ge 72, 3) := by decide +kernel
theorem dX12_number_60 : decode cX12_number 60 = .ok (.aload_n 0, 1) := by decide +kernel
theorem dX12_number_61 : decode cX12_number 61 = .ok (.getfield 7, 3) := by decide +kernel
theorem dX12_number_64 : decode cX12_number 64 = .ok (.aload_n 0, 1) := by decide +kernel
theorem dX12_number_65 : decode cX12_number 65 = .ok (.getfield 242, 3) := by decide +kernel
theorem dX12_number_68 : decode cX12_number 68 = .ok (.iaload, 1) := by decide +kernel
theorem dX12_number_69 : decode cX12_number 69 = .ok (.invokestatic 273, 3) := by decide +kernel
theorem dX12_number_72 : decode cX12_number 72 = .ok (.ifCond .eq 57, 3) := by decide +kernel
theorem dX12_number_75 : decode cX12_number 75 = .ok (.aload_n 0, 1) := by decide +kernel
theorem dX12_number_76 : decode cX12_number 76 = .ok (.getfield 242, 3) := by decide +kernel
theorem dX12_number_79 : decode cX12_number 79 = .ok (.iload_n 3, 1) := by decide +kernel
theorem dX12_number_80 : decode cX12_number 80 = .ok (.isub, 1) := by decide +kernel
theorem dX12_number_81 : decode cX12_number 81 = .ok (.iconst 4, 1) := by decide +kernel
theorem dX12_number_82 : decode cX12_number 82 = .ok (.if_icmp .ne 14, 3) := by decide +kernel
theorem dX12_number_85 : decode cX12_number 85 = .ok (.aload_n 0, 1) := by decide +kernel
theorem dX12_number_86 : decode cX12_number 86 = .ok (.iconst 1, 1) := by decide +kernel
theorem dX12_number_87 : decode cX12_number 87 = .ok (.aload_n 0, 1) := by decide +kernel
theorem dX12_number_88 : decode cX12_number 88 = .ok (.getfield 242, 3) := by decide +kernel
theorem dX12_number_91 : decode cX12_number 91 = .ok (.invokevirtual 266, 3) := by decide +kernel
theorem dX12_number_94 : decode cX12_number 94 = .ok (.iconst 0, 1) := by decide +kernel
theorem dX12_number_95 : decode cX12_number 95 = .ok (.ireturn, 1) := by decide +kernel
theorem dX12_number_96 : decode cX12_number 96 = .ok (.bipush 10, 2) := by decide +kernel
theorem dX12_number_98 : decode cX12_number 98 = .ok (.iload 4, 2) := by decide +kernel
theorem dX12_number_100 : decode cX12_number 100 = .ok (.imul, 1) := by decide +kernel
theorem dX12_number_101 : decode cX12_number 101 = .ok (.aload_n 0, 1) := by decide +kernel
theorem dX12_number_102 : decode cX12_number 102 = .ok (.getfield 7, 3) := by decide +kernel
theorem dX12_number_105 : decode cX12_number 105 = .ok (.aload_n 0, 1) := by decide +kernel
theorem dX12_number_106 : decode cX12_number 106 = .ok (.getfield 242, 3) := by decide +kernel
theorem dX12_number_109 : decode cX12_number 109 = .ok (.iaload, 1) := by decide +kernel
theorem dX12_number_110 : decode cX12_number 110 = .ok (.iadd, 1) := by decide +kernel
theorem dX12_number_111 : decode cX12_number 111 = .ok (.bipush 48, 2) := by decide +kernel
theorem dX12_number_113 : decode cX12_number 113 = .ok (.isub, 1) := by decide +kernel
theorem dX12_number_114 : decode cX12_number 114 = .ok (.istore 4, 2) := by decide +kernel
theorem dX12_number_116 : decode cX12_number 116 = .ok (.aload_n 0, 1) := by decide +kernel
theorem dX12_number_117 : decode cX12_number 117 = .ok (.dup, 1) := by decide +kernel
theorem dX12_number_118 : decode cX12_number 118 = .ok (.getfield 242, 3) := by decide +kernel
theorem dX12_number_121 : decode cX12_number 121 = .ok (.iconst 1, 1) := by decide +kernel
theorem dX12_number_122 : decode cX12_number 122 = .ok (.iadd, 1) := by decide +kernel
theorem dX12_number_123 : decode cX12_number 123 = .ok (.putfield 242, 3) := by decide +kernel
theorem dX12_number_126 : decode cX12_number 126 = .ok (.goto (-77), 3) := by decide +kernel
theorem dX12_number_129 : decode cX12_number 129 = .ok (.aload_n 0, 1) := by decide +kernel
theorem dX12_number_130 : decode cX12_number 130 = .ok (.aload_n 0, 1) := by decide +kernel
theorem dX12_number_131 : decode cX12_number 131 = .ok (.getfield 242, 3) := by decide +kernel
theorem dX12_number_134 : decode cX12_number 134 = .ok (.putfield 256, 3) := by decide +kernel
theorem dX12_number_137 : decode cX12_number 137 = .ok (.iload 4, 2) := by decide +kernel
theorem dX12_number_139 : decode cX12_number 139 = .ok (.i2l, 1) := by decide +kernel
theorem dX12_number_140 : decode cX12_number 140 = .ok (.iload_n 1, 1) := by decide +kernel
theorem dX12_number_141 : decode cX12_number 141 = .ok (.i2l, 1) := by decide +kernel
theorem dX12_number_142 : decode cX12_number 142 = .ok (.iload_n 2, 1) := by decide +kernel
theorem dX12_number_143 : decode cX12_number 143 = .ok (.i2l, 1) := by decide +kernel
theorem dX12_number_144 : decode cX12_number 144 = .ok (.invokestatic 276, 3) := by decide +kernel
theorem dX12_number_147 : decode cX12_number 147 = .ok (.ifCond .ne 9, 3) := by decide +kernel
theorem dX12_number_150 : decode cX12_number 150 = .ok (.aload_n 0, 1) := by decide +kernel
theorem dX12_number_151 : decode cX12_number 151 = .ok (.iconst 2, 1) := by decide +kernel
theorem dX12_number_152 : decode cX12_number 152 = .ok (.iload_n 3, 1) := by decide +kernel
theorem dX12_number_153 : decode cX12_number 153 = .ok (.invokevirtual 266, 3) := by decide +kernel
theorem dX12_number_156 : decode cX12_number 156 = .ok (.iload 4, 2) := by decide +kernel
theorem dX12_number_158 : decode cX12_number 158 = .ok (.ireturn, 1) := by decide +kernel
theorem dX12_isOwnHere_0 : decode cX12_isOwnHere 0 = .ok (.aload_n 0, 1) := by decide +kernel
theorem dX12_isOwnHere_1 : decode cX12_isOwnHere 1 = .ok (.aload_n 0, 1) := by decide +kernel
theorem dX12_isOwnHere_2 : decode cX12_isOwnHere 2 = .ok (.getfield 20, 3) := by decide +kernel
theorem dX12_isOwnHere_5 : decode cX12_isOwnHere 5 = .ok (.invokevirtual 259, 3) := by decide +kernel
theorem dX12_isOwnHere_8 : decode cX12_isOwnHere 8 = .ok (.ifCond .ne 58, 3) := by decide +kernel
theorem dX12_isOwnHere_11 : decode cX12_isOwnHere 11 = .ok (.aload_n 0, 1) := by decide +kernel
theorem dX12_isOwnHere_12 : decode cX12_isOwnHere 12 = .ok (.aload_n 0, 1) := by decide +kernel
theorem dX12_isOwnHere_13 : decode cX12_isOwnHere 13 = .ok (.getfield 24, 3) := by decide +kernel
theorem dX12_isOwnHere_16 : decode cX12_isOwnHere 16 = .ok (.invokevirtual 259, 3) := by decide +kernel
theorem dX12_isOwnHere_19 : decode cX12_isOwnHere 19 = .ok (.ifCond .ne 47, 3) := by decide +kernel
theorem dX12_isOwnHere_22 : decode cX12_isOwnHere 22 = .ok (.aload_n 0, 1) := by decide +kernel
theorem dX12_isOwnHere_23 : decode cX12_isOwnHere 23 = .ok (.aload_n 0, 1) := by decide +kernel
theorem dX12_isOwnHere_24 : decode cX12_isOwnHere 24 = .ok (.getfield 27, 3) := by decide +kernel
theorem dX12_isOwnHere_27 : decode cX12_isOwnHere 27 = .ok (.invokevirtual 259, 3) := by decide +kernel
theorem dX12_isOwnHere_30 : decode cX12_isOwnHere 30 = .ok (.ifCond .ne 36, 3) := by decide +kernel
theorem dX12_isOwnHere_33 : decode cX12_isOwnHere 33 = .ok (.aload_n 0, 1) := by decide +kernel
theorem dX12_isOwnHere_34 : decode cX12_isOwnHere 34 = .ok (.aload_n 0, 1) := by decide +kernel
theorem dX12_isOwnHere_35 : decode cX12_isOwnHere 35 = .ok (.getfield 30, 3) := by decide +kernel
theorem dX12_isOwnHere_38 : decode cX12_isOwnHere 38 = .ok (.invokevirtual 259, 3) := by decide +kernel
theorem dX12_isOwnHere_41 : decode cX12_isOwnHere 41 = .ok (.ifCond .ne 25, 3) := by decide +kernel
theorem dX12_isOwnHere_44 : decode cX12_isOwnHere 44 = .ok (.aload_n 0, 1) := by decide +kernel
theorem dX12_isOwnHere_45 : decode cX12_isOwnHere 45 = .ok (.aload_n 0, 1) := by decide +kernel
theorem dX12_isOwnHere_46 : decode cX12_isOwnHere 46 = .ok (.getfield 33, 3) := by decide +kernel
theorem dX12_isOwnHere_49 : decode cX12_isOwnHere 49 = .ok (.invokevirtual 259, 3) := by decide +kernel
theorem dX12_isOwnHere_52 : decode cX12_isOwnHere 52 = .ok (.ifCond .ne 14, 3) := by decide +kernel
theorem dX12_isOwnHere_55 : decode cX12_isOwnHere 55 = .ok (.aload_n 0, 1) := by decide +kernel
theorem dX12_isOwnHere_56 : decode cX12_isOwnHere 56 = .ok (.aload_n 0, 1) := by decide +kernel
theorem dX12_isOwnHere_57 : decode cX12_isOwnHere 57 = .ok (.getfield 36, 3) := by decide +kernel
theorem dX12_isOwnHere_60 : decode cX12_isOwnHere 60 = .ok (.invokevirtual 259, 3) := by decide +kernel
theorem dX12_isOwnHere_63 : decode cX12_isOwnHere 63 = .ok (.ifCond .eq 7, 3) := by decide +kernel
theorem dX12_isOwnHere_66 : decode cX12_isOwnHere 66 = .ok (.iconst 1, 1) := by decide +kernel
theorem dX12_isOwnHere_67 : decode cX12_isOwnHere 67 = .ok (.goto 4, 3) := by decide +kernel
theorem dX12_isOwnHere_70 : decode cX12_isOwnHere 70 = .ok (.iconst 0, 1) := by decide +kernel
theorem dX12_isOwnHere_71 : decode cX12_isOwnHere 71 = .ok (.istore_n 1, 1) := by decide +kernel
theorem dX12_isOwnHere_72 : decode cX12_isOwnHere 72 = .ok (.iload_n 1, 1) := by decide +kernel
theorem dX12_isOwnHere_73 : decode cX12_isOwnHere 73 = .ok (.ifCond .ne 69, 3) := by decide +kernel
theorem dX12_isOwnHere_76 : decode cX12_isOwnHere 76 = .ok (.aload_n 0, 1) := by decide +kernel
theorem dX12_isOwnHere_77 : decode cX12_isOwnHere 77 = .ok (.aload_n 0, 1) := by decide +kernel
theorem dX12_isOwnHere_78 : decode cX12_isOwnHere 78 = .ok (.getfield 39, 3) := by decide +kernel
theorem dX12_isOwnHere_81 : decode cX12_isOwnHere 81 = .ok (.invokevirtual 259, 3) := by decide +kernel
theorem dX12_isOwnHere_84 : decode cX12_isOwnHere 84 = .ok (.ifCond .ne 58, 3) := by decide +kernel
theorem dX12_isOwnHere_87 : decode cX12_isOwnHere 87 = .ok (.aload_n 0, 1) := by decide +kernel
theorem dX12_isOwnHere_88 : decode cX12_isOwnHere 88 = .ok (.aload_n 0, 1) := by decide +kernel
theorem dX12_isOwnHere_89 : decode cX12_isOwnHere 89 = .ok (.getfield 42, 3) := by decide +kernel
theorem dX12_isOwnHere_92 : decode cX12_isOwnHere 92 = .ok (.invokevirtual 259, 3) := by decide +kernel
theorem dX12_isOwnHere_95 : decode cX12_isOwnHere 95 = .ok (.ifCond .ne 47, 3) := by decide +kernel
theorem dX12_isOwnHere_98 : decode cX12_isOwnHere 98 = .ok (.aload_n 0, 1) := by decide +kernel
theorem dX12_isOwnHere_99 : decode cX12_isOwnHere 99 = .ok (.aload_n 0, 1) := by decide +kernel
theorem dX12_isOwnHere_100 : decode cX12_isOwnHere 100 = .ok (.getfield 45, 3) := by decide +kernel
theorem dX12_isOwnHere_103 : decode cX12_isOwnHere 103 = .ok (.invokevirtual 259, 3) := by decide +kernel
theorem dX12_isOwnHere_106 : decode cX12_isOwnHere 106 = .ok (.ifCond .ne 36, 3) := by decide +kernel
theorem dX12_isOwnHere_109 : decode cX12_isOwnHere 109 = .ok (.aload_n 0, 1) := by decide +kernel
theorem dX12_isOwnHere_110 : decode cX12_isOwnHere 110 = .ok (.aload_n 0, 1) := by decide +kernel
theorem dX12_isOwnHere_111 : decode cX12_isOwnHere 111 = .ok (.getfield 48, 3) := by decide +kernel
theorem dX12_isOwnHere_114 : decode cX12_isOwnHere 114 = .ok (.invokevirtual 259, 3) := by decide +kernel
theorem dX12_isOwnHere_117 : decode cX12_isOwnHere 117 = .ok (.ifCond .ne 25, 3) := by decide +kernel
theorem dX12_isOwnHere_120 : decode cX12_isOwnHere 120 = .ok (.aload_n 0, 1) := by decide +kernel
theorem dX12_isOwnHere_121 : decode cX12_isOwnHere 121 = .ok (.aload_n 0, 1) := by decide +kernel
theorem dX12_isOwnHere_122 : decode cX12_isOwnHere 122 = .ok (.getfield 51, 3) := by decide +kernel
theorem dX12_isOwnHere_125 : decode cX12_isOwnHere 125 = .ok (.invokevirtual 259, 3) := by decide +kernel
theorem dX12_isOwnHere_128 : decode cX12_isOwnHere 128 = .ok (.ifCond .ne 14, 3) := by decide +kernel
theorem dX12_isOwnHere_131 : decode cX12_isOwnHere 131 = .ok (.aload_n 0, 1) := by decide +kernel
theorem dX12_isOwnHere_132 : decode cX12_isOwnHere 132 = .ok (.aload_n 0, 1) := by decide +kernel
theorem dX12_isOwnHere_133 : decode cX12_isOwnHere 133 = .ok (.getfield 54, 3) := by decide +kernel
theorem dX12_isOwnHere_136 : decode cX12_isOwnHere 136 = .ok (.invokevirtual 259, 3) := by decide +kernel
theorem dX12_isOwnHere_139 : decode cX12_isOwnHere 139 = .ok (.ifCond .eq 7, 3) := by decide +kernel
theorem dX12_isOwnHere_142 : decode cX12_isOwnHere 142 = .ok (.iconst 1, 1) := by decide +kernel
theorem dX12_isOwnHere_143 : decode cX12_isOwnHere 143 = .ok (.goto 4, 3) := by decide +kernel
theorem dX12_isOwnHere_146 : decode cX12_isOwnHere 146 = .ok (.iconst 0, 1) := by decide +kernel
theorem dX12_isOwnHere_147 : decode cX12_isOwnHere 147 = .ok (.istore_n 1, 1) := by decide +kernel
theorem dX12_isOwnHere_148 : decode cX12_isOwnHere 148 = .ok (.iload_n 1, 1) := by decide +kernel
theorem dX12_isOwnHere_149 : decode cX12_isOwnHere 149 = .ok (.ifCond .ne 69, 3) := by decide +kernel
theorem dX12_isOwnHere_152 : decode cX12_isOwnHere 152 = .ok (.aload_n 0, 1) := by decide +kernel
theorem dX12_isOwnHere_153 : decode cX12_isOwnHere 153 = .ok (.aload_n 0, 1) := by decide +kernel
theorem dX12_isOwnHere_154 : decode cX12_isOwnHere 154 = .ok (.getfield 57, 3) := by decide +kernel
theorem dX12_isOwnHere_157 : decode cX12_isOwnHere 157 = .ok (.invokevirtual 259, 3) := by decide +kernel
theorem dX12_isOwnHere_160 : decode cX12_isOwnHere 160 = .ok (.ifCond .ne 58, 3) := by decide +kernel
theorem dX12_isOwnHere_163 : decode cX12_isOwnHere 163 = .ok (.aload_n 0, 1) := by decide +kernel
theorem dX12_isOwnHere_164 : decode cX12_isOwnHere 164 = .ok (.aload_n 0, 1) := by decide +kernel
theorem dX12_isOwnHere_165 : decode cX12_isOwnHere 165 = .ok (.getfield 60, 3) := by decide +kernel
theorem dX12_isOwnHere_168 : decode cX12_isOwnHere 168 = .ok (.invokevirtual 259, 3) := by decide +kernel
theorem dX12_isOwnHere_171 : decode cX12_isOwnHere 171 = .ok (.ifCond .ne 47, 3) := by decide +kernel
theorem dX12_isOwnHere_174 : decode cX12_isOwnHere 174 = .ok (.aload_n 0, 1) := by decide +kernel
theorem dX12_isOwnHere_175 : decode cX12_isOwnHere 175 = .ok (.aload_n 0, 1) := by decide +kernel
theorem dX12_isOwnHere_176 : decode cX12_isOwnHere 176 = .ok (.getfield 63, 3) := by decide +kernel
theorem dX12_isOwnHere_179 : decode cX12_isOwnHere 179 = .ok (.invokevirtual 259, 3) := by decide +kernel
theorem dX12_isOwnHere_182 : decode cX12_isOwnHere 182 = .ok (.ifCond .ne 36, 3) := by decide +kernel
theorem dX12_isOwnHere_185 : decode cX12_isOwnHere 185 = .ok (.aload_n 0, 1) := by decide +kernel
theorem dX12_isOwnHere_186 : decode cX12_isOwnHere 186 = .ok (.aload_n 0, 1) := by decide +kernel
theorem dX12_isOwnHere_187 : decode cX12_isOwnHere 187 = .ok (.getfield 66, 3) := by decide +kernel
theorem dX12_isOwnHere_190 : decode cX12_isOwnHere 190 = .ok (.invokevirtual 259, 3) := by decide +kernel
theorem dX12_isOwnHere_193 : decode cX12_isOwnHere 193 = .ok (.ifCond .ne 25, 3) := by decide +kernel
theorem dX12_isOwnHere_196 : decode cX12_isOwnHere 196 = .ok (.aload_n 0, 1) := by decide +kernel
theorem dX12_isOwnHere_197 : decode cX12_isOwnHere 197 = .ok (.aload_n 0, 1) := by decide +kernel
theorem dX12_isOwnHere_198 : decode cX12_isOwnHere 198 = .ok (.getfield 69, 3) := by decide +kernel
theorem dX12_isOwnHere_201 : decode cX12_isOwnHere 201 = .ok (.invokevirtual 259, 3) := by decide +kernel
theorem dX12_isOwnHere_204 : decode cX12_isOwnHere 204 = .ok (.ifCond .ne 14, 3) := by decide +kernel
theorem dX12_isOwnHere_207 : decode cX12_isOwnHere 207 = .ok (.aload_n 0, 1) := by decide +kernel
theorem dX12_isOwnHere_208 : decode cX12_isOwnHere 208 = .ok (.aload_n 0, 1) := by decide +kernel
theorem dX12_isOwnHere_209 : decode cX12_isOwnHere 209 = .ok (.getfield 72, 3) := by decide +kernel
theorem dX12_isOwnHere_212 : decode cX12_isOwnHere 212 = .ok (.invokevirtual 259, 3) := by decide +kernel
theorem dX12_isOwnHere_215 : decode cX12_isOwnHere 215 = .ok (.ifCond .eq 7, 3) := by decide +kernel
theorem dX12_isOwnHere_218 : decode cX12_isOwnHere 218 = .ok (.iconst 1, 1) := by decide +kernel
theorem dX12_isOwnHere_219 : decode cX12_isOwnHere 219 = .ok (.goto 4, 3) := by decide +kernel
theorem dX12_isOwnHere_222 : decode cX12_isOwnHere 222 = .ok (.iconst 0, 1) := by decide +kernel
theorem dX12_isOwnHere_223 : decode cX12_isOwnHere 223 = .ok (.istore_n 1, 1) := by decide +kernel
theorem dX12_isOwnHere_224 : decode cX12_isOwnHere 224 = .ok (.iload_n 1, 1) := by decide +kernel
theorem dX12_isOwnHere_225 : decode cX12_isOwnHere 225 = .ok (.ifCond .ne 69, 3) := by decide +kernel
theorem dX12_isOwnHere_228 : decode cX12_isOwnHere 228 = .ok (.aload_n 0, 1) := by decide +kernel
theorem dX12_isOwnHere_229 : decode cX12_isOwnHere 229 = .ok (.aload_n 0, 1) := by decide +kernel
theorem dX12_isOwnHere_230 : decode cX12_isOwnHere 230 = .ok (.getfield 75, 3) := by decide +kernel
theorem dX12_isOwnHere_233 : decode cX12_isOwnHere 233 = .ok (.invokevirtual 259, 3) := by decide +kernel
theorem dX12_isOwnHere_236 : decode cX12_isOwnHere 236 = .ok (.ifCond .ne 58, 3) := by decide +kernel
theorem dX12_isOwnHere_239 : decode cX12_isOwnHere 239 = .ok (.aload_n 0, 1) := by decide +kernel
theorem dX12_isOwnHere_240 : decode cX12_isOwnHere 240 = .ok (.aload_n 0, 1) := by decide +kernel
theorem dX12_isOwnHere_241 : decode cX12_isOwnHere 241 = .ok (.getfield 78, 3) := by decide +kernel
theorem dX12_isOwnHere_244 : decode cX12_isOwnHere 244 = .ok (.invokevirtual 259, 3) := by decide +kernel
theorem dX12_isOwnHere_247 : decode cX12_isOwnHere 247 = .ok (.ifCond .ne 47, 3) := by decide +kernel
theorem dX12_isOwnHere_250 : decode cX12_isOwnHere 250 = .ok (.aload_n 0, 1) := by decide +kernel
theorem dX12_isOwnHere_251 : decode cX12_isOwnHere 251 = .ok (.aload_n 0, 1) := by decide +kernel
theorem dX12_isOwnHere_252 : decode cX12_isOwnHere 252 = .ok (.getfield 81, 3) := by decide +kernel
theorem dX12_isOwnHere_255 : decode cX12_isOwnHere 255 = .ok (.invokevirtual 259, 3) := by decide +kernel
theorem dX12_isOwnHere_258 : decode cX12_isOwnHere 258 = .ok (.ifCond .ne 36, 3) := by decide +kernel
theorem dX12_isOwnHere_261 : decode cX12_isOwnHere 261 = .ok (.aload_n 0, 1) := by decide +kernel
theorem dX12_isOwnHere_262 : decode cX12_isOwnHere 262 = .ok (.aload_n 0, 1) := by decide +kernel
theorem dX12_isOwnHere_263 : decode cX12_isOwnHere 263 = .ok (.getfield 84, 3) := by decide +kernel
theorem dX12_isOwnHere_266 : decode cX12_isOwnHere 266 = .ok (.invokevirtual 259, 3) := by decide +kernel
theorem dX12_isOwnHere_269 : decode cX12_isOwnHere 269 = .ok (.ifCond .ne 25, 3) := by decide +kernel
theorem dX12_isOwnHere_272 : decode cX12_isOwnHere 272 = .ok (.aload_n 0, 1) := by decide +kernel
theorem dX12_isOwnHere_273 : decode cX12_isOwnHere 273 = .ok (.aload_n 0, 1) := by decide +kernel
theorem dX12_isOwnHere_274 : decode cX12_isOwnHere 274 = .ok (.getfield 87, 3) := by decide +kernel
theorem dX12_isOwnHere_277 : decode cX12_isOwnHere 277 = .ok (.invokevirtual 259, 3) := by decide +kernel
theorem dX12_isOwnHere_280 : decode cX12_isOwnHere 280 = .ok (.ifCond .ne 14, 3) := by decide +kernel
theorem dX12_isOwnHere_283 : decode cX12_isOwnHere 283 = .ok (.aload_n 0, 1) := by decide +kernel
theorem dX12_isOwnHere_284 : decode cX12_isOwnHere 284 = .ok (.aload_n 0, 1) := by decide +kernel
theorem dX12_isOwnHere_285 : decode cX12_isOwnHere 285 = .ok (.getfield 90, 3) := by decide +kernel
theorem dX12_isOwnHere_288 : decode cX12_isOwnHere 288 = .ok (.invokevirtual 259, 3) := by decide +kernel
theorem dX12_isOwnHere_291 : decode cX12_isOwnHere 291 = .ok (.ifCond .eq 7, 3) := by decide +kernel
theorem dX12_isOwnHere_294 : decode cX12_isOwnHere 294 = .ok (.iconst 1, 1) := by decide +kernel
theorem dX12_isOwnHere_295 : decode cX12_isOwnHere 295 = .ok (.goto 4, 3) := by decide +kernel
theorem dX12_isOwnHere_298 : decode cX12_isOwnHere 298 = .ok (.iconst 0, 1) := by decide +kernel
theorem dX12_isOwnHere_299 : decode cX12_isOwnHere 299 = .ok (.istore_n 1, 1) := by decide +kernel
theorem dX12_isOwnHere_300 : decode cX12_isOwnHere 300 = .ok (.iload_n 1, 1) := by decide +kernel
theorem dX12_isOwnHere_301 : decode cX12_isOwnHere 301 = .ok (.ireturn, 1) := by decide +kernel
theorem dX12_name_0 : decode cX12_name 0 = .ok (.aload_n 0, 1) := by decide +kernel
theorem dX12_name_1 : decode cX12_name 1 = .ok (.getfield 236, 3) := by decide +kernel
theorem dX12_name_4 : decode cX12_name 4 = .ok (.ifCond .eq 5, 3) := by decide +kernel
theorem dX12_name_7 : decode cX12_name 7 = .ok (.lconst 0, 1) := by decide +kernel
theorem dX12_name_8 : decode cX12_name 8 = .ok (.lreturn, 1) := by decide +kernel
theorem dX12_name_9 : decode cX12_name 9 = .ok (.aload_n 0, 1) := by decide +kernel
theorem dX12_name_10 : decode cX12_name 10 = .ok (.invokevirtual 248, 3) := by decide +kernel
theorem dX12_name_13 : decode cX12_name 13 = .ok (.invokestatic 252, 3) := by decide +kernel
theorem dX12_name_16 : decode cX12_name 16 = .ok (.ifCond .eq 21, 3) := by decide +kernel
theorem dX12_name_19 : decode cX12_name 19 = .ok (.aload_n 0, 1) := by decide +kernel
theorem dX12_name_20 : decode cX12_name 20 = .ok (.getfield 242, 3) := by decide +kernel
theorem dX12_name_23 : decode cX12_name 23 = .ok (.aload_n 0, 1) := by decide +kernel
theorem dX12_name_24 : decode cX12_name 24 = .ok (.getfield 256, 3) := by decide +kernel
theorem dX12_name_27 : decode cX12_name 27 = .ok (.if_icmp .eq 10, 3) := by decide +kernel
theorem dX12_name_30 : decode cX12_name 30 = .ok (.aload_n 0, 1) := by decide +kernel
theorem dX12_name_31 : decode cX12_name 31 = .ok (.invokevirtual 280, 3) := by decide +kernel
theorem dX12_name_34 : decode cX12_name 34 = .ok (.ifCond .eq 14, 3) := by decide +kernel
theorem dX12_name_37 : decode cX12_name 37 = .ok (.aload_n 0, 1) := by decide +kernel
theorem dX12_name_38 : decode cX12_name 38 = .ok (.iconst 1, 1) := by decide +kernel
theorem dX12_name_39 : decode cX12_name 39 = .ok (.aload_n 0, 1) := by decide +kernel
theorem dX12_name_40 : decode cX12_name 40 = .ok (.getfield 242, 3) := by decide +kernel
theorem dX12_name_43 : decode cX12_name 43 = .ok (.invokevirtual 266, 3) := by decide +kernel
theorem dX12_name_46 : decode cX12_name 46 = .ok (.lconst 0, 1) := by decide +kernel
theorem dX12_name_47 : decode cX12_name 47 = .ok (.lreturn, 1) := by decide +kernel
theorem dX12_name_48 : decode cX12_name 48 = .ok (.aload_n 0, 1) := by decide +kernel
theorem dX12_name_49 : decode cX12_name 49 = .ok (.aload_n 0, 1) := by decide +kernel
theorem dX12_name_50 : decode cX12_name 50 = .ok (.getfield 242, 3) := by decide +kernel
theorem dX12_name_53 : decode cX12_name 53 = .ok (.putfield 284, 3) := by decide +kernel
theorem dX12_name_56 : decode cX12_name 56 = .ok (.lconst 0, 1) := by decide +kernel
theorem dX12_name_57 : decode cX12_name 57 = .ok (.lstore_n 1, 1) := by decide +kernel
theorem dX12_name_58 : decode cX12_name 58 = .ok (.aload_n 0, 1) := by decide +kernel
theorem dX12_name_59 : decode cX12_name 59 = .ok (.getfield 242, 3) := by decide +kernel
theorem dX12_name_62 : decode cX12_name 62 = .ok (.aload_n 0, 1) := by decide +kernel
theorem dX12_name_63 : decode cX12_name 63 = .ok (.getfield 245, 3) := by decide +kernel
theorem dX12_name_66 : decode cX12_name 66 = .ok (.if_icmp .ge 79, 3) := by decide +kernel
theorem dX12_name_69 : decode cX12_name 69 = .ok (.aload_n 0, 1) := by decide +kernel
theorem dX12_name_70 : decode cX12_name 70 = .ok (.getfield 7, 3) := by decide +kernel
theorem dX12_name_73 : decode cX12_name 73 = .ok (.aload_n 0, 1) := by decide +kernel
theorem dX12_name_74 : decode cX12_name 74 = .ok (.getfield 242, 3) := by decide +kernel
theorem dX12_name_77 : decode cX12_name 77 = .ok (.iaload, 1) := by decide +kernel
theorem dX12_name_78 : decode cX12_name 78 = .ok (.invokestatic 252, 3) := by decide +kernel
theorem dX12_name_81 : decode cX12_name 81 = .ok (.ifCond .eq 64, 3) := by decide +kernel
theorem dX12_name_84 : decode cX12_name 84 = .ok (.aload_n 0, 1) := by decide +kernel
theorem dX12_name_85 : decode cX12_name 85 = .ok (.getfield 242, 3) := by decide +kernel
theorem dX12_name_88 : decode cX12_name 88 = .ok (.aload_n 0, 1) := by decide +kernel
theorem dX12_name_89 : decode cX12_name 89 = .ok (.getfield 284, 3) := by decide +kernel
theorem dX12_name_92 : decode cX12_name 92 = .ok (.isub, 1) := by decide +kernel
theorem dX12_name_93 : decode cX12_name 93 = .ok (.bipush 6, 2) := by decide +kernel
theorem dX12_name_95 : decode cX12_name 95 = .ok (.if_icmp .ne 14, 3) := by decide +kernel
theorem dX12_name_98 : decode cX12_name 98 = .ok (.aload_n 0, 1) := by decide +kernel
theorem dX12_name_99 : decode cX12_name 99 = .ok (.iconst 1, 1) := by decide +kernel
theorem dX12_name_100 : decode cX12_name 100 = .ok (.aload_n 0, 1) := by decide +kernel
theorem dX12_name_101 : decode cX12_name 101 = .ok (.getfield 242, 3) := by decide +kernel
theorem dX12_name_104 : decode cX12_name 104 = .ok (.invokevirtual 266, 3) := by decide +kernel
theorem dX12_name_107 : decode cX12_name 107 = .ok (.lconst 0, 1) := by decide +kernel
theorem dX12_name_108 : decode cX12_name 108 = .ok (.lreturn, 1) := by decide +kernel
theorem dX12_name_109 : decode cX12_name 109 = .ok (.ldc2_w 287, 3) := by decide +kernel
theorem dX12_name_112 : decode cX12_name 112 = .ok (.lload_n 1, 1) := by decide +kernel
theorem dX12_name_113 : decode cX12_name 113 = .ok (.lmul, 1) := by decide +kernel
theorem dX12_name_114 : decode cX12_name 114 = .ok (.aload_n 0, 1) := by decide +kernel
theorem dX12_name_115 : decode cX12_name 115 = .ok (.getfield 7, 3) := by decide +kernel
theorem dX12_name_118 : decode cX12_name 118 = .ok (.aload_n 0, 1) := by decide +kernel
theorem dX12_name_119 : decode cX12_name 119 = .ok (.getfield 242, 3) := by decide +kernel
theorem dX12_name_122 : decode cX12_name 122 = .ok (.iaload, 1) := by decide +kernel
theorem dX12_name_123 : decode cX12_name 123 = .ok (.i2l, 1) := by decide +kernel
theorem dX12_name_124 : decode cX12_name 124 = .ok (.ladd, 1) := by decide +kernel
theorem dX12_name_125 : decode cX12_name 125 = .ok (.ldc2_w 289, 3) := by decide +kernel
theorem dX12_name_128 : decode cX12_name 128 = .ok (.lsub, 1) := by decide +kernel
theorem dX12_name_129 : decode cX12_name 129 = .ok (.lconst 1, 1) := by decide +kernel
theorem dX12_name_130 : decode cX12_name 130 = .ok (.ladd, 1) := by decide +kernel
theorem dX12_name_131 : decode cX12_name 131 = .ok (.lstore_n 1, 1) := by decide +kernel
theorem dX12_name_132 : decode cX12_name 132 = .ok (.aload_n 0, 1) := by decide +kernel
theorem dX12_name_133 : decode cX12_name 133 = .ok (.dup, 1) := by decide +kernel
theorem dX12_name_134 : decode cX12_name 134 = .ok (.getfield 242, 3) := by decide +kernel
theorem dX12_name_137 : decode cX12_name 137 = .ok (.iconst 1, 1) := by decide +kernel
theorem dX12_name_138 : decode cX12_name 138 = .ok (.iadd, 1) := by decide +kernel
theorem dX12_name_139 : decode cX12_name 139 = .ok (.putfield 242, 3) := by decide +kernel
theorem dX12_name_142 : decode cX12_name 142 = .ok (.goto (-84), 3) := by decide +kernel
theorem dX12_name_145 : decode cX12_name 145 = .ok (.aload_n 0, 1) := by decide +kernel
theorem dX12_name_146 : decode cX12_name 146 = .ok (.aload_n 0, 1) := by decide +kernel
theorem dX12_name_147 : decode cX12_name 147 = .ok (.getfield 242, 3) := by decide +kernel
theorem dX12_name_150 : decode cX12_name 150 = .ok (.putfield 256, 3) := by decide +kernel
theorem dX12_name_153 : decode cX12_name 153 = .ok (.lload_n 1, 1) := by decide +kernel
theorem dX12_name_154 : decode cX12_name 154 = .ok (.lreturn, 1) := by decide +kernel
theorem dX12_nameOf_0 : decode cX12_nameOf 0 = .ok (.iconst 0, 1) := by decide +kernel
theorem dX12_nameOf_1 : decode cX12_nameOf 1 = .ok (.istore 4, 2) := by decide +kernel
theorem dX12_nameOf_3 : decode cX12_nameOf 3 = .ok (.iload 4, 2) := by decide +kernel
theorem dX12_nameOf_5 : decode cX12_nameOf 5 = .ok (.aload_n 0, 1) := by decide +kernel
theorem dX12_nameOf_6 : decode cX12_nameOf 6 = .ok (.getfield 93, 3) := by decide +kernel
theorem dX12_nameOf_9 : decode cX12_nameOf 9 = .ok (.iload_n 1, 1) := by decide +kernel
theorem dX12_nameOf_10 : decode cX12_nameOf 10 = .ok (.iaload, 1) := by decide +kernel
theorem dX12_nameOf_11 : decode cX12_nameOf 11 = .ok (.if_icmp .ge 29, 3) := by decide +kernel
theorem dX12_nameOf_14 : decode cX12_nameOf 14 = .ok (.aload_n 0, 1) := by decide +kernel
theorem dX12_nameOf_15 : decode cX12_nameOf 15 = .ok (.getfield 96, 3) := by decide +kernel
theorem dX12_nameOf_18 : decode cX12_nameOf 18 = .ok (.bipush 8, 2) := by decide +kernel
theorem dX12_nameOf_20 : decode cX12_nameOf 20 = .ok (.iload_n 1, 1) := by decide +kernel
theorem dX12_nameOf_21 : decode cX12_nameOf 21 = .ok (.imul, 1) := by decide +kernel
theorem dX12_nameOf_22 : decode cX12_nameOf 22 = .ok (.iload 4, 2) := by decide +kernel
theorem dX12_nameOf_24 : decode cX12_nameOf 24 = .ok (.iadd, 1) := by decide +kernel
theorem dX12_nameOf_25 : decode cX12_nameOf 25 = .ok (.laload, 1) := by decide +kernel
theorem dX12_nameOf_26 : decode cX12_nameOf 26 = .ok (.lload_n 2, 1) := by decide +kernel
theorem dX12_nameOf_27 : decode cX12_nameOf 27 = .ok (.lcmp, 1) := by decide +kernel
theorem dX12_nameOf_28 : decode cX12_nameOf 28 = .ok (.ifCond .ne 6, 3) := by decide +kernel
theorem dX12_nameOf_31 : decode cX12_nameOf 31 = .ok (.iload 4, 2) := by decide +kernel
theorem dX12_nameOf_33 : decode cX12_nameOf 33 = .ok (.ireturn, 1) := by decide +kernel
theorem dX12_nameOf_34 : decode cX12_nameOf 34 = .ok (.iinc 4 1, 3) := by decide +kernel
theorem dX12_nameOf_37 : decode cX12_nameOf 37 = .ok (.goto (-34), 3) := by decide +kernel
theorem dX12_nameOf_40 : decode cX12_nameOf 40 = .ok (.iconst (-1), 1) := by decide +kernel
theorem dX12_nameOf_41 : decode cX12_nameOf 41 = .ok (.ireturn, 1) := by decide +kernel
theorem dX12_newName_0 : decode cX12_newName 0 = .ok (.aload_n 0, 1) := by decide +kernel
theorem dX12_newName_1 : decode cX12_newName 1 = .ok (.invokevirtual 291, 3) := by decide +kernel
theorem dX12_newName_4 : decode cX12_newName 4 = .ok (.lstore_n 1, 1) := by decide +kernel
theorem dX12_newName_5 : decode cX12_newName 5 = .ok (.iconst 0, 1) := by decide +kernel
theorem dX12_newName_6 : decode cX12_newName 6 = .ok (.istore_n 3, 1) := by decide +kernel
theorem dX12_newName_7 : decode cX12_newName 7 = .ok (.iload_n 3, 1) := by decide +kernel
theorem dX12_newName_8 : decode cX12_newName 8 = .ok (.iconst 2, 1) := by decide +kernel
theorem dX12_newName_9 : decode cX12_newName 9 = .ok (.if_icmp .ge 35, 3) := by decide +kernel
theorem dX12_newName_12 : decode cX12_newName 12 = .ok (.aload_n 0, 1) := by decide +kernel
theorem dX12_newName_13 : decode cX12_newName 13 = .ok (.getfield 236, 3) := by decide +kernel
theorem dX12_newName_16 : decode cX12_newName 16 = .ok (.ifCond .ne 22, 3) := by decide +kernel
theorem dX12_newName_19 : decode cX12_newName 19 = .ok (.aload_n 0, 1) := by decide +kernel
theorem dX12_newName_20 : decode cX12_newName 20 = .ok (.iload_n 3, 1) := by decide +kernel
theorem dX12_newName_21 : decode cX12_newName 21 = .ok (.lload_n 1, 1) := by decide +kernel
theorem dX12_newName_22 : decode cX12_newName 22 = .ok (.invokevirtual 295, 3) := by decide +kernel
theorem dX12_newName_25 : decode cX12_newName 25 = .ok (.iconst (-1), 1) := by decide +kernel
theorem dX12_newName_26 : decode cX12_newName 26 = .ok (.if_icmp .eq 12, 3) := by decide +kernel
theorem dX12_newName_29 : decode cX12_newName 29 = .ok (.aload_n 0, 1) := by decide +kernel
theorem dX12_newName_30 : decode cX12_newName 30 = .ok (.iconst 3, 1) := by decide +kernel
theorem dX12_newName_31 : decode cX12_newName 31 = .ok (.aload_n 0, 1) := by decide +kernel
theorem dX12_newName_32 : decode cX12_newName 32 = .ok (.getfield 284, 3) := by decide +kernel
theorem dX12_newName_35 : decode cX12_newName 35 = .ok (.invokevirtual 266, 3) := by decide +kernel
theorem dX12_newName_38 : decode cX12_newName 38 = .ok (.iinc 3 1, 3) := by decide +kernel
theorem dX12_newName_41 : decode cX12_newName 41 = .ok (.goto (-34), 3) := by decide +kernel
theorem dX12_newName_44 : decode cX12_newName 44 = .ok (.lload_n 1, 1) := by decide +kernel
theorem dX12_newName_45 : decode cX12_newName 45 = .ok (.lreturn, 1) := by decide +kernel
theorem dX12_personHere_0 : decode cX12_personHere 0 = .ok (.aload_n 0, 1) := by decide +kernel
theorem dX12_personHere_1 : decode cX12_personHere 1 = .ok (.invokevirtual 291, 3) := by decide +kernel
theorem dX12_personHere_4 : decode cX12_personHere 4 = .ok (.lstore_n 1, 1) := by decide +kernel
theorem dX12_personHere_5 : decode cX12_personHere 5 = .ok (.aload_n 0, 1) := by decide +kernel
theorem dX12_personHere_6 : decode cX12_personHere 6 = .ok (.iconst 0, 1) := by decide +kernel
theorem dX12_personHere_7 : decode cX12_personHere 7 = .ok (.lload_n 1, 1) := by decide +kernel
theorem dX12_personHere_8 : decode cX12_personHere 8 = .ok (.invokevirtual 295, 3) := by decide +kernel
theorem dX12_personHere_11 : decode cX12_personHere 11 = .ok (.istore_n 3, 1) := by decide +kernel
theorem dX12_personHere_12 : decode cX12_personHere 12 = .ok (.aload_n 0, 1) := by decide +kernel
theorem dX12_personHere_13 : decode cX12_personHere 13 = .ok (.getfield 236, 3) := by decide +kernel
theorem dX12_personHere_16 : decode cX12_personHere 16 = .ok (.ifCond .ne 17, 3) := by decide +kernel
theorem dX12_personHere_19 : decode cX12_personHere 19 = .ok (.iload_n 3, 1) := by decide +kernel
theorem dX12_personHere_20 : decode cX12_personHere 20 = .ok (.iconst (-1), 1) := by decide +kernel
theorem dX12_personHere_21 : decode cX12_personHere 21 = .ok (.if_icmp .ne 12, 3) := by decide +kernel
theorem dX12_personHere_24 : decode cX12_personHere 24 = .ok (.aload_n 0, 1) := by decide +kernel
theorem dX12_personHere_25 : decode cX12_personHere 25 = .ok (.iconst 3, 1) := by decide +kernel
theorem dX12_personHere_26 : decode cX12_personHere 26 = .ok (.aload_n 0, 1) := by decide +kernel
theorem dX12_personHere_27 : decode cX12_personHere 27 = .ok (.getfield 284, 3) := by decide +kernel
theorem dX12_personHere_30 : decode cX12_personHere 30 = .ok (.invokevirtual 266, 3) := by decide +kernel
theorem dX12_personHere_33 : decode cX12_personHere 33 = .ok (.aload_n 0, 1) := by decide +kernel
theorem dX12_personHere_34 : decode cX12_personHere 34 = .ok (.getfield 236, 3) := by decide +kernel
theorem dX12_personHere_37 : decode cX12_personHere 37 = .ok (.ifCond .ne 7, 3) := by decide +kernel
theorem dX12_personHere_40 : decode cX12_personHere 40 = .ok (.iload_n 3, 1) := by decide +kernel
theorem dX12_personHere_41 : decode cX12_personHere 41 = .ok (.goto 4, 3) := by decide +kernel
theorem dX12_personHere_44 : decode cX12_personHere 44 = .ok (.iconst 0, 1) := by decide +kernel
theorem dX12_personHere_45 : decode cX12_personHere 45 = .ok (.ireturn, 1) := by decide +kernel
theorem dX12_personTold_0 : decode cX12_personTold 0 = .ok (.aload_n 0, 1) := by decide +kernel
theorem dX12_personTold_1 : decode cX12_personTold 1 = .ok (.getfield 93, 3) := by decide +kernel
theorem dX12_personTold_4 : decode cX12_personTold 4 = .ok (.iconst 0, 1) := by decide +kernel
theorem dX12_personTold_5 : decode cX12_personTold 5 = .ok (.iaload, 1) := by decide +kernel
theorem dX12_personTold_6 : decode cX12_personTold 6 = .ok (.bipush 8, 2) := by decide +kernel
theorem dX12_personTold_8 : decode cX12_personTold 8 = .ok (.if_icmp .ne 9, 3) := by decide +kernel
theorem dX12_personTold_11 : decode cX12_personTold 11 = .ok (.aload_n 0, 1) := by decide +kernel
theorem dX12_personTold_12 : decode cX12_personTold 12 = .ok (.iconst 5, 1) := by decide +kernel
theorem dX12_personTold_13 : decode cX12_personTold 13 = .ok (.iload_n 1, 1) := by decide +kernel
theorem dX12_personTold_14 : decode cX12_personTold 14 = .ok (.invokevirtual 266, 3) := by decide +kernel
theorem dX12_personTold_17 : decode cX12_personTold 17 = .ok (.aload_n 0, 1) := by decide +kernel
theorem dX12_personTold_18 : decode cX12_personTold 18 = .ok (.getfield 236, 3) := by decide +kernel
theorem dX12_personTold_21 : decode cX12_personTold 21 = .ok (.ifCond .eq 4, 3) := by decide +kernel
theorem dX12_personTold_24 : decode cX12_personTold 24 = .ok (.return_, 1) := by decide +kernel
theorem dX12_personTold_25 : decode cX12_personTold 25 = .ok (.aload_n 0, 1) := by decide +kernel
theorem dX12_personTold_26 : decode cX12_personTold 26 = .ok (.invokevirtual 299, 3) := by decide +kernel
theorem dX12_personTold_29 : decode cX12_personTold 29 = .ok (.lstore_n 2, 1) := by decide +kernel
theorem dX12_personTold_30 : decode cX12_personTold 30 = .ok (.aload_n 0, 1) := by decide +kernel
theorem dX12_personTold_31 : decode cX12_personTold 31 = .ok (.aload_n 0, 1) := by decide +kernel
theorem dX12_personTold_32 : decode cX12_personTold 32 = .ok (.getfield 24, 3) := by decide +kernel
theorem dX12_personTold_35 : decode cX12_personTold 35 = .ok (.invokevirtual 302, 3) := by decide +kernel
theorem dX12_personTold_38 : decode cX12_personTold 38 = .ok (.aload_n 0, 1) := by decide +kernel
theorem dX12_personTold_39 : decode cX12_personTold 39 = .ok (.iconst 0, 1) := by decide +kernel
theorem dX12_personTold_40 : decode cX12_personTold 40 = .ok (.bipush 99, 2) := by decide +kernel
theorem dX12_personTold_42 : decode cX12_personTold 42 = .ok (.invokevirtual 306, 3) := by decide +kernel
theorem dX12_personTold_45 : decode cX12_personTold 45 = .ok (.istore 4, 2) := by decide +kernel
theorem dX12_personTold_47 : decode cX12_personTold 47 = .ok (.aload_n 0, 1) := by decide +kernel
theorem dX12_personTold_48 : decode cX12_personTold 48 = .ok (.aload_n 0, 1) := by decide +kernel
theorem dX12_personTold_49 : decode cX12_personTold 49 = .ok (.getfield 27, 3) := by decide +kernel
theorem dX12_personTold_52 : decode cX12_personTold 52 = .ok (.invokevirtual 302, 3) := by decide +kernel
theorem dX12_personTold_55 : decode cX12_personTold 55 = .ok (.aload_n 0, 1) := by decide +kernel
theorem dX12_personTold_56 : decode cX12_personTold 56 = .ok (.iconst 0, 1) := by decide +kernel
theorem dX12_personTold_57 : decode cX12_personTold 57 = .ok (.bipush 99, 2) := by decide +kernel
theorem dX12_personTold_59 : decode cX12_personTold 59 = .ok (.invokevirtual 306, 3) := by decide +kernel
theorem dX12_personTold_62 : decode cX12_personTold 62 = .ok (.istore 5, 2) := by decide +kernel
theorem dX12_personTold_64 : decode cX12_personTold 64 = .ok (.aload_n 0, 1) := by decide +kernel
theorem dX12_personTold_65 : decode cX12_personTold 65 = .ok (.getfield 236, 3) := by decide +kernel
theorem dX12_personTold_68 : decode cX12_personTold 68 = .ok (.ifCond .eq 4, 3) := by decide +kernel
theorem dX12_personTold_71 : decode cX12_personTold 71 = .ok (.return_, 1) := by decide +kernel
theorem dX12_personTold_72 : decode cX12_personTold 72 = .ok (.bipush 7, 2) := by decide +kernel
theorem dX12_personTold_74 : decode cX12_personTold 74 = .ok (.aload_n 0, 1) := by decide +kernel
theorem dX12_personTold_75 : decode cX12_personTold 75 = .ok (.getfield 93, 3) := by decide +kernel
theorem dX12_personTold_78 : decode cX12_personTold 78 = .ok (.iconst 0, 1) := by decide +kernel
theorem dX12_personTold_79 : decode cX12_personTold 79 = .ok (.iaload, 1) := by decide +kernel
theorem dX12_personTold_80 : decode cX12_personTold 80 = .ok (.imul, 1) := by decide +kernel
theorem dX12_personTold_81 : decode cX12_personTold 81 = .ok (.istore 6, 2) := by decide +kernel
theorem dX12_personTold_83 : decode cX12_personTold 83 = .ok (.aload_n 0, 1) := by decide +kernel
theorem dX12_personTold_84 : decode cX12_personTold 84 = .ok (.getfield 96, 3) := by decide +kernel
theorem dX12_personTold_87 : decode cX12_personTold 87 = .ok (.aload_n 0, 1) := by decide +kernel
theorem dX12_personTold_88 : decode cX12_personTold 88 = .ok (.getfield 93, 3) := by decide +kernel
theorem dX12_personTold_91 : decode cX12_personTold 91 = .ok (.iconst 0, 1) := by decide +kernel
theorem dX12_personTold_92 : decode cX12_personTold 92 = .ok (.iaload, 1) := by decide +kernel
theorem dX12_personTold_93 : decode cX12_personTold 93 = .ok (.lload_n 2, 1) := by decide +kernel
theorem dX12_personTold_94 : decode cX12_personTold 94 = .ok (.lastore, 1) := by decide +kernel
theorem dX12_personTold_95 : decode cX12_personTold 95 = .ok (.aload_n 0, 1) := by decide +kernel
theorem dX12_personTold_96 : decode cX12_personTold 96 = .ok (.getfield 100, 3) := by decide +kernel
theorem dX12_personTold_99 : decode cX12_personTold 99 = .ok (.iload 6, 2) := by decide +kernel
theorem dX12_personTold_101 : decode cX12_personTold 101 = .ok (.iload 4, 2) := by decide +kernel
theorem dX12_personTold_103 : decode cX12_personTold 103 = .ok (.iastore, 1) := by decide +kernel
theorem dX12_personTold_104 : decode cX12_personTold 104 = .ok (.aload_n 0, 1) := by decide +kernel
theorem dX12_personTold_105 : decode cX12_personTold 105 = .ok (.getfield 100, 3) := by decide +kernel
theorem dX12_personTold_108 : decode cX12_personTold 108 = .ok (.iload 6, 2) := by decide +kernel
theorem dX12_personTold_110 : decode cX12_personTold 110 = .ok (.iconst 1, 1) := by decide +kernel
theorem dX12_personTold_111 : decode cX12_personTold 111 = .ok (.iadd, 1) := by decide +kernel
theorem dX12_personTold_112 : decode cX12_personTold 112 = .ok (.iload 5, 2) := by decide +kernel
theorem dX12_personTold_114 : decode cX12_personTold 114 = .ok (.iastore, 1) := by decide +kernel
theorem dX12_personTold_115 : decode cX12_personTold 115 = .ok (.aload_n 0, 1) := by decide +kernel
theorem dX12_personTold_116 : decode cX12_personTold 116 = .ok (.getfield 100, 3) := by decide +kernel
theorem dX12_personTold_119 : decode cX12_personTold 119 = .ok (.iload 6, 2) := by decide +kernel
theorem dX12_personTold_121 : decode cX12_personTold 121 = .ok (.iconst 2, 1) := by decide +kernel
theorem dX12_personTold_122 : decode cX12_personTold 122 = .ok (.iadd, 1) := by decide +kernel
theorem dX12_personTold_123 : decode cX12_personTold 123 = .ok (.iconst 0, 1) := by decide +kernel
theorem dX12_personTold_124 : decode cX12_personTold 124 = .ok (.iastore, 1) := by decide +kernel
theorem dX12_personTold_125 : decode cX12_personTold 125 = .ok (.aload_n 0, 1) := by decide +kernel
theorem dX12_personTold_126 : decode cX12_personTold 126 = .ok (.getfield 100, 3) := by decide +kernel
theorem dX12_personTold_129 : decode cX12_personTold 129 = .ok (.iload 6, 2) := by decide +kernel
theorem dX12_personTold_131 : decode cX12_personTold 131 = .ok (.iconst 3, 1) := by decide +kernel
theorem dX12_personTold_132 : decode cX12_personTold 132 = .ok (.iadd, 1) := by decide +kernel
theorem dX12_personTold_133 : decode cX12_personTold 133 = .ok (.iconst 0, 1) := by decide +kernel
theorem dX12_personTold_134 : decode cX12_personTold 134 = .ok (.iastore, 1) := by decide +kernel
theorem dX12_personTold_135 : decode cX12_personTold 135 = .ok (.aload_n 0, 1) := by decide +kernel
theorem dX12_personTold_136 : decode cX12_personTold 136 = .ok (.getfield 100, 3) := by decide +kernel
theorem dX12_personTold_139 : decode cX12_personTold 139 = .ok (.iload 6, 2) := by decide +kernel
theorem dX12_personTold_141 : decode cX12_personTold 141 = .ok (.iconst 4, 1) := by decide +kernel
theorem dX12_personTold_142 : decode cX12_personTold 142 = .ok (.iadd, 1) := by decide +kernel
theorem dX12_personTold_143 : decode cX12_personTold 143 = .ok (.iconst 5, 1) := by decide +kernel
theorem dX12_personTold_144 : decode cX12_personTold 144 = .ok (.iastore, 1) := by decide +kernel
theorem dX12_personTold_145 : decode cX12_personTold 145 = .ok (.aload_n 0, 1) := by decide +kernel
theorem dX12_personTold_146 : decode cX12_personTold 146 = .ok (.getfield 100, 3) := by decide +kernel
theorem dX12_personTold_149 : decode cX12_personTold 149 = .ok (.iload 6, 2) := by decide +kernel
theorem dX12_personTold_151 : decode cX12_personTold 151 = .ok (.iconst 5, 1) := by decide +kernel
theorem dX12_personTold_152 : decode cX12_personTold 152 = .ok (.iadd, 1) := by decide +kernel
theorem dX12_personTold_153 : decode cX12_personTold 153 = .ok (.iconst 0, 1) := by decide +kernel
theorem dX12_personTold_154 : decode cX12_personTold 154 = .ok (.iastore, 1) := by decide +kernel
theorem dX12_personTold_155 : decode cX12_personTold 155 = .ok (.aload_n 0, 1) := by decide +kernel
theorem dX12_personTold_156 : decode cX12_personTold 156 = .ok (.getfield 100, 3) := by decide +kernel
theorem dX12_personTold_159 : decode cX12_personTold 159 = .ok (.iload 6, 2) := by decide +kernel
theorem dX12_personTold_161 : decode cX12_personTold 161 = .ok (.bipush 6, 2) := by decide +kernel
theorem dX12_personTold_163 : decode cX12_personTold 163 = .ok (.iadd, 1) := by decide +kernel
theorem dX12_personTold_164 : decode cX12_personTold 164 = .ok (.iconst 5, 1) := by decide +kernel
theorem dX12_personTold_165 : decode cX12_personTold 165 = .ok (.iastore, 1) := by decide +kernel
theorem dX12_personTold_166 : decode cX12_personTold 166 = .ok (.aload_n 0, 1) := by decide +kernel
theorem dX12_personTold_167 : decode cX12_personTold 167 = .ok (.getfield 93, 3) := by decide +kernel
theorem dX12_personTold_170 : decode cX12_personTold 170 = .ok (.iconst 0, 1) := by decide +kernel
theorem dX12_personTold_171 : decode cX12_personTold 171 = .ok (.dup2, 1) := by decide +kernel
theorem dX12_personTold_172 : decode cX12_personTold 172 = .ok (.iaload, 1) := by decide +kernel
theorem dX12_personTold_173 : decode cX12_personTold 173 = .ok (.iconst 1, 1) := by decide +kernel
theorem dX12_personTold_174 : decode cX12_personTold 174 = .ok (.iadd, 1) := by decide +kernel
theorem dX12_personTold_175 : decode cX12_personTold 175 = .ok (.iastore, 1) := by decide +kernel
theorem dX12_personTold_176 : decode cX12_personTold 176 = .ok (.return_, 1) := by decide +kernel
theorem dX12_holdsTold_0 : decode cX12_holdsTold 0 = .ok (.aload_n 0, 1) := by decide +kernel
theorem dX12_holdsTold_1 : decode cX12_holdsTold 1 = .ok (.invokevirtual 310, 3) := by decide +kernel
theorem dX12_holdsTold_4 : decode cX12_holdsTold 4 = .ok (.istore_n 1, 1) := by decide +kernel
theorem dX12_holdsTold_5 : decode cX12_holdsTold 5 = .ok (.iconst 0, 1) := by decide +kernel
theorem dX12_holdsTold_6 : decode cX12_holdsTold 6 = .ok (.istore_n 2, 1) := by decide +kernel
theorem dX12_holdsTold_7 : decode cX12_holdsTold 7 = .ok (.aload_n 0, 1) := by decide +kernel
theorem dX12_holdsTold_8 : decode cX12_holdsTold 8 = .ok (.aload_n 0, 1) := by decide +kernel
theorem dX12_holdsTold_9 : decode cX12_holdsTold 9 = .ok (.getfield 24, 3) := by decide +kernel
theorem dX12_holdsTold_12 : decode cX12_holdsTold 12 = .ok (.invokevirtual 263, 3) := by decide +kernel
theorem dX12_holdsTold_15 : decode cX12_holdsTold 15 = .ok (.ifCond .ne 13, 3) := by decide +kernel
theorem dX12_holdsTold_18 : decode cX12_holdsTold 18 = .ok (.aload_n 0, 1) := by decide +kernel
theorem dX12_holdsTold_19 : decode cX12_holdsTold 19 = .ok (.aload_n 0, 1) := by decide +kernel
theorem dX12_holdsTold_20 : decode cX12_holdsTold 20 = .ok (.getfield 27, 3) := by decide +kernel
theorem dX12_holdsTold_23 : decode cX12_holdsTold 23 = .ok (.invokevirtual 302, 3) := by decide +kernel
theorem dX12_holdsTold_26 : decode cX12_holdsTold 26 = .ok (.iconst 1, 1) := by decide +kernel
theorem dX12_holdsTold_27 : decode cX12_holdsTold 27 = .ok (.istore_n 2, 1) := by decide +kernel
theorem dX12_holdsTold_28 : decode cX12_holdsTold 28 = .ok (.aload_n 0, 1) := by decide +kernel
theorem dX12_holdsTold_29 : decode cX12_holdsTold 29 = .ok (.aload_n 0, 1) := by decide +kernel
theorem dX12_holdsTold_30 : decode cX12_holdsTold 30 = .ok (.getfield 33, 3) := by decide +kernel
theorem dX12_holdsTold_33 : decode cX12_holdsTold 33 = .ok (.invokevirtual 263, 3) := by decide +kernel
theorem dX12_holdsTold_36 : decode cX12_holdsTold 36 = .ok (.ifCond .eq 7, 3) := by decide +kernel
theorem dX12_holdsTold_39 : decode cX12_holdsTold 39 = .ok (.iconst 0, 1) := by decide +kernel
theorem dX12_holdsTold_40 : decode cX12_holdsTold 40 = .ok (.goto 19, 3) := by decide +kernel
theorem dX12_holdsTold_43 : decode cX12_holdsTold 43 = .ok (.aload_n 0, 1) := by decide +kernel
theorem dX12_holdsTold_44 : decode cX12_holdsTold 44 = .ok (.aload_n 0, 1) := by decide +kernel
theorem dX12_holdsTold_45 : decode cX12_holdsTold 45 = .ok (.getfield 36, 3) := by decide +kernel
theorem dX12_holdsTold_48 : decode cX12_holdsTold 48 = .ok (.invokevirtual 263, 3) := by decide +kernel
theorem dX12_holdsTold_51 : decode cX12_holdsTold 51 = .ok (.ifCond .eq 7, 3) := by decide +kernel
theorem dX12_holdsTold_54 : decode cX12_holdsTold 54 = .ok (.iconst 1, 1) := by decide +kernel
theorem dX12_holdsTold_55 : decode cX12_holdsTold 55 = .ok (.goto 4, 3) := by decide +kernel
theorem dX12_holdsTold_58 : decode cX12_holdsTold 58 = .ok (.iconst 2, 1) := by decide +kernel
theorem dX12_holdsTold_59 : decode cX12_holdsTold 59 = .ok (.istore_n 3, 1) := by decide +kernel
theorem dX12_holdsTold_60 : decode cX12_holdsTold 60 = .ok (.iload_n 3, 1) := by decide +kernel
theorem dX12_holdsTold_61 : decode cX12_holdsTold 61 = .ok (.iconst 2, 1) := by decide +kernel
theorem dX12_holdsTold_62 : decode cX12_holdsTold 62 = .ok (.if_icmp .ne 11, 3) := by decide +kernel
theorem dX12_holdsTold_65 : decode cX12_holdsTold 65 = .ok (.aload_n 0, 1) := by decide +kernel
theorem dX12_holdsTold_66 : decode cX12_holdsTold 66 = .ok (.aload_n 0, 1) := by decide +kernel
theorem dX12_holdsTold_67 : decode cX12_holdsTold 67 = .ok (.getfield 39, 3) := by decide +kernel
theorem dX12_holdsTold_70 : decode cX12_holdsTold 70 = .ok (.invokevirtual 302, 3) := by decide +kernel
theorem dX12_holdsTold_73 : decode cX12_holdsTold 73 = .ok (.aload_n 0, 1) := by decide +kernel
theorem dX12_holdsTold_74 : decode cX12_holdsTold 74 = .ok (.iconst 0, 1) := by decide +kernel
theorem dX12_holdsTold_75 : decode cX12_holdsTold 75 = .ok (.bipush 9, 2) := by decide +kernel
theorem dX12_holdsTold_77 : decode cX12_holdsTold 77 = .ok (.invokevirtual 306, 3) := by decide +kernel
theorem dX12_holdsTold_80 : decode cX12_holdsTold 80 = .ok (.istore 4, 2) := by decide +kernel
theorem dX12_holdsTold_82 : decode cX12_holdsTold 82 = .ok (.aload_n 0, 1) := by decide +kernel
theorem dX12_holdsTold_83 : decode cX12_holdsTold 83 = .ok (.getfield 236, 3) := by decide +kernel
theorem dX12_holdsTold_86 : decode cX12_holdsTold 86 = .ok (.ifCond .eq 4, 3) := by decide +kernel
theorem dX12_holdsTold_89 : decode cX12_holdsTold 89 = .ok (.return_, 1) := by decide +kernel
theorem dX12_holdsTold_90 : decode cX12_holdsTold 90 = .ok (.aload_n 0, 1) := by decide +kernel
theorem dX12_holdsTold_91 : decode cX12_holdsTold 91 = .ok (.getfield 100, 3) := by decide +kernel
theorem dX12_holdsTold_94 : decode cX12_holdsTold 94 = .ok (.bipush 7, 2) := by decide +kernel
theorem dX12_holdsTold_96 : decode cX12_holdsTold 96 = .ok (.iload_n 1, 1) := by decide +kernel
theorem dX12_holdsTold_97 : decode cX12_holdsTold 97 = .ok (.imul, 1) := by decide +kernel
theorem dX12_holdsTold_98 : decode cX12_holdsTold 98 = .ok (.iconst 3, 1) := by decide +kernel
theorem dX12_holdsTold_99 : decode cX12_holdsTold 99 = .ok (.iadd, 1) := by decide +kernel
theorem dX12_holdsTold_100 : decode cX12_holdsTold 100 = .ok (.iconst 2, 1) := by decide +kernel
theorem dX12_holdsTold_101 : decode cX12_holdsTold 101 = .ok (.iload_n 2, 1) := by decide +kernel
theorem dX12_holdsTold_102 : decode cX12_holdsTold 102 = .ok (.imul, 1) := by decide +kernel
theorem dX12_holdsTold_103 : decode cX12_holdsTold 103 = .ok (.iadd, 1) := by decide +kernel
theorem dX12_holdsTold_104 : decode cX12_holdsTold 104 = .ok (.iload_n 3, 1) := by decide +kernel
theorem dX12_holdsTold_105 : decode cX12_holdsTold 105 = .ok (.iastore, 1) := by decide +kernel
theorem dX12_holdsTold_106 : decode cX12_holdsTold 106 = .ok (.aload_n 0, 1) := by decide +kernel
theorem dX12_holdsTold_107 : decode cX12_holdsTold 107 = .ok (.getfield 100, 3) := by decide +kernel
theorem dX12_holdsTold_110 : decode cX12_holdsTold 110 = .ok (.bipush 7, 2) := by decide +kernel
theorem dX12_holdsTold_112 : decode cX12_holdsTold 112 = .ok (.iload_n 1, 1) := by decide +kernel
theorem dX12_holdsTold_113 : decode cX12_holdsTold 113 = .ok (.imul, 1) := by decide +kernel
theorem dX12_holdsTold_114 : decode cX12_holdsTold 114 = .ok (.iconst 4, 1) := by decide +kernel
theorem dX12_holdsTold_115 : decode cX12_holdsTold 115 = .ok (.iadd, 1) := by decide +kernel
theorem dX12_holdsTold_116 : decode cX12_holdsTold 116 = .ok (.iconst 2, 1) := by decide +kernel
theorem dX12_holdsTold_117 : decode cX12_holdsTold 117 = .ok (.iload_n 2, 1) := by decide +kernel
theorem dX12_holdsTold_118 : decode cX12_holdsTold 118 = .ok (.imul, 1) := by decide +kernel
theorem dX12_holdsTold_119 : decode cX12_holdsTold 119 = .ok (.iadd, 1) := by decide +kernel
theorem dX12_holdsTold_120 : decode cX12_holdsTold 120 = .ok (.iload 4, 2) := by decide +kernel
theorem dX12_holdsTold_122 : decode cX12_holdsTold 122 = .ok (.iastore, 1) := by decide +kernel
theorem dX12_holdsTold_123 : decode cX12_holdsTold 123 = .ok (.return_, 1) := by decide +kernel
theorem dX12_boxTold_0 : decode cX12_boxTold 0 = .ok (.aload_n 0, 1) := by decide +kernel
theorem dX12_boxTold_1 : decode cX12_boxTold 1 = .ok (.getfield 93, 3) := by decide +kernel
theorem dX12_boxTold_4 : decode cX12_boxTold 4 = .ok (.iconst 1, 1) := by decide +kernel
theorem dX12_boxTold_5 : decode cX12_boxTold 5 = .ok (.iaload, 1) := by decide +kernel
theorem dX12_boxTold_6 : decode cX12_boxTold 6 = .ok (.iconst 4, 1) := by decide +kernel
theorem dX12_boxTold_7 : decode cX12_boxTold 7 = .ok (.if_icmp .ne 9, 3) := by decide +kernel
theorem dX12_boxTold_10 : decode cX12_boxTold 10 = .ok (.aload_n 0, 1) := by decide +kernel
theorem dX12_boxTold_11 : decode cX12_boxTold 11 = .ok (.iconst 5, 1) := by decide +kernel
theorem dX12_boxTold_12 : decode cX12_boxTold 12 = .ok (.iload_n 1, 1) := by decide +kernel
theorem dX12_boxTold_13 : decode cX12_boxTold 13 = .ok (.invokevirtual 266, 3) := by decide +kernel
theorem dX12_boxTold_16 : decode cX12_boxTold 16 = .ok (.aload_n 0, 1) := by decide +kernel
theorem dX12_boxTold_17 : decode cX12_boxTold 17 = .ok (.getfield 236, 3) := by decide +kernel
theorem dX12_boxTold_20 : decode cX12_boxTold 20 = .ok (.ifCond .eq 4, 3) := by decide +kernel
theorem dX12_boxTold_23 : decode cX12_boxTold 23 = .ok (.return_, 1) := by decide +kernel
theorem dX12_boxTold_24 : decode cX12_boxTold 24 = .ok (.aload_n 0, 1) := by decide +kernel
theorem dX12_boxTold_25 : decode cX12_boxTold 25 = .ok (.invokevirtual 299, 3) := by decide +kernel
theorem dX12_boxTold_28 : decode cX12_boxTold 28 = .ok (.lstore_n 2, 1) := by decide +kernel
theorem dX12_boxTold_29 : decode cX12_boxTold 29 = .ok (.aload_n 0, 1) := by decide +kernel
theorem dX12_boxTold_30 : decode cX12_boxTold 30 = .ok (.aload_n 0, 1) := by decide +kernel
theorem dX12_boxTold_31 : decode cX12_boxTold 31 = .ok (.getfield 45, 3) := by decide +kernel
theorem dX12_boxTold_34 : decode cX12_boxTold 34 = .ok (.invokevirtual 302, 3) := by decide +kernel
theorem dX12_boxTold_37 : decode cX12_boxTold 37 = .ok (.aload_n 0, 1) := by decide +kernel
theorem dX12_boxTold_38 : decode cX12_boxTold 38 = .ok (.iconst 0, 1) := by decide +kernel
theorem dX12_boxTold_39 : decode cX12_boxTold 39 = .ok (.bipush 100, 2) := by decide +kernel
theorem dX12_boxTold_41 : decode cX12_boxTold 41 = .ok (.invokevirtual 306, 3) := by decide +kernel
theorem dX12_boxTold_44 : decode cX12_boxTold 44 = .ok (.istore 4, 2) := by decide +kernel
theorem dX12_boxTold_46 : decode cX12_boxTold 46 = .ok (.aload_n 0, 1) := by decide +kernel
theorem dX12_boxTold_47 : decode cX12_boxTold 47 = .ok (.getfield 236, 3) := by decide +kernel
theorem dX12_boxTold_50 : decode cX12_boxTold 50 = .ok (.ifCond .eq 4, 3) := by decide +kernel
theorem dX12_boxTold_53 : decode cX12_boxTold 53 = .ok (.return_, 1) := by decide +kernel
theorem dX12_boxTold_54 : decode cX12_boxTold 54 = .ok (.aload_n 0, 1) := by decide +kernel
theorem dX12_boxTold_55 : decode cX12_boxTold 55 = .ok (.getfield 96, 3) := by decide +kernel
theorem dX12_boxTold_58 : decode cX12_boxTold 58 = .ok (.bipush 8, 2) := by decide +kernel
theorem dX12_boxTold_60 : decode cX12_boxTold 60 = .ok (.aload_n 0, 1) := by decide +kernel
theorem dX12_boxTold_61 : decode cX12_boxTold 61 = .ok (.getfield 93, 3) := by decide +kernel
theorem dX12_boxTold_64 : decode cX12_boxTold 64 = .ok (.iconst 1, 1) := by decide +kernel
theorem dX12_boxTold_65 : decode cX12_boxTold 65 = .ok (.iaload, 1) := by decide +kernel
theorem dX12_boxTold_66 : decode cX12_boxTold 66 = .ok (.iadd, 1) := by decide +kernel
theorem dX12_boxTold_67 : decode cX12_boxTold 67 = .ok (.lload_n 2, 1) := by decide +kernel
theorem dX12_boxTold_68 : decode cX12_boxTold 68 = .ok (.lastore, 1) := by decide +kernel
theorem dX12_boxTold_69 : decode cX12_boxTold 69 = .ok (.aload_n 0, 1) := by decide +kernel
theorem dX12_boxTold_70 : decode cX12_boxTold 70 = .ok (.getfield 103, 3) := by decide +kernel
theorem dX12_boxTold_73 : decode cX12_boxTold 73 = .ok (.aload_n 0, 1) := by decide +kernel
theorem dX12_boxTold_74 : decode cX12_boxTold 74 = .ok (.getfield 93, 3) := by decide +kernel
theorem dX12_boxTold_77 : decode cX12_boxTold 77 = .ok (.iconst 1, 1) := by decide +kernel
theorem dX12_boxTold_78 : decode cX12_boxTold 78 = .ok (.iaload, 1) := by decide +kernel
theorem dX12_boxTold_79 : decode cX12_boxTold 79 = .ok (.iload 4, 2) := by decide +kernel
theorem dX12_boxTold_81 : decode cX12_boxTold 81 = .ok (.iastore, 1) := by decide +kernel
theorem dX12_boxTold_82 : decode cX12_boxTold 82 = .ok (.aload_n 0, 1) := by decide +kernel
theorem dX12_boxTold_83 : decode cX12_boxTold 83 = .ok (.getfield 93, 3) := by decide +kernel
theorem dX12_boxTold_86 : decode cX12_boxTold 86 = .ok (.iconst 1, 1) := by decide +kernel
theorem dX12_boxTold_87 : decode cX12_boxTold 87 = .ok (.dup2, 1) := by decide +kernel
theorem dX12_boxTold_88 : decode cX12_boxTold 88 = .ok (.iaload, 1) := by decide +kernel
theorem dX12_boxTold_89 : decode cX12_boxTold 89 = .ok (.iconst 1, 1) := by decide +kernel
theorem dX12_boxTold_90 : decode cX12_boxTold 90 = .ok (.iadd, 1) := by decide +kernel
theorem dX12_boxTold_91 : decode cX12_boxTold 91 = .ok (.iastore, 1) := by decide +kernel
theorem dX12_boxTold_92 : decode cX12_boxTold 92 = .ok (.return_, 1) := by decide +kernel
theorem dX12_hatsTold_0 : decode cX12_hatsTold 0 = .ok (.aload_n 0, 1) := by decide +kernel
theorem dX12_hatsTold_1 : decode cX12_hatsTold 1 = .ok (.invokevirtual 310, 3) := by decide +kernel
theorem dX12_hatsTold_4 : decode cX12_hatsTold 4 = .ok (.istore_n 1, 1) := by decide +kernel
theorem dX12_hatsTold_5 : decode cX12_hatsTold 5 = .ok (.aload_n 0, 1) := by decide +kernel
theorem dX12_hatsTold_6 : decode cX12_hatsTold 6 = .ok (.iconst 0, 1) := by decide +kernel
theorem dX12_hatsTold_7 : decode cX12_hatsTold 7 = .ok (.bipush 9, 2) := by decide +kernel
theorem dX12_hatsTold_9 : decode cX12_hatsTold 9 = .ok (.invokevirtual 306, 3) := by decide +kernel
theorem dX12_hatsTold_12 : decode cX12_hatsTold 12 = .ok (.istore_n 2, 1) := by decide +kernel
theorem dX12_hatsTold_13 : decode cX12_hatsTold 13 = .ok (.aload_n 0, 1) := by decide +kernel
theorem dX12_hatsTold_14 : decode cX12_hatsTold 14 = .ok (.getfield 236, 3) := by decide +kernel
theorem dX12_hatsTold_17 : decode cX12_hatsTold 17 = .ok (.ifCond .ne 15, 3) := by decide +kernel
theorem dX12_hatsTold_20 : decode cX12_hatsTold 20 = .ok (.aload_n 0, 1) := by decide +kernel
theorem dX12_hatsTold_21 : decode cX12_hatsTold 21 = .ok (.getfield 100, 3) := by decide +kernel
theorem dX12_hatsTold_24 : decode cX12_hatsTold 24 = .ok (.bipush 7, 2) := by decide +kernel
theorem dX12_hatsTold_26 : decode cX12_hatsTold 26 = .ok (.iload_n 1, 1) := by decide +kernel
theorem dX12_hatsTold_27 : decode cX12_hatsTold 27 = .ok (.imul, 1) := by decide +kernel
theorem dX12_hatsTold_28 : decode cX12_hatsTold 28 = .ok (.iconst 2, 1) := by decide +kernel
theorem dX12_hatsTold_29 : decode cX12_hatsTold 29 = .ok (.iadd, 1) := by decide +kernel
theorem dX12_hatsTold_30 : decode cX12_hatsTold 30 = .ok (.iload_n 2, 1) := by decide +kernel
theorem dX12_hatsTold_31 : decode cX12_hatsTold 31 = .ok (.iastore, 1) := by decide +kernel
theorem dX12_hatsTold_32 : decode cX12_hatsTold 32 = .ok (.return_, 1) := by decide +kernel
theorem dX12_sumIsTold_0 : decode cX12_sumIsTold 0 = .ok (.aload_n 0, 1) := by decide +kernel
theorem dX12_sumIsTold_1 : decode cX12_sumIsTold 1 = .ok (.getfield 236, 3) := by decide +kernel
theorem dX12_sumIsTold_4 : decode cX12_sumIsTold 4 = .ok (.ifCond .ne 19, 3) := by decide +kernel
theorem dX12_sumIsTold_7 : decode cX12_sumIsTold 7 = .ok (.aload_n 0, 1) := by decide +kernel
theorem dX12_sumIsTold_8 : decode cX12_sumIsTold 8 = .ok (.getfield 109, 3) := by decide +kernel
theorem dX12_sumIsTold_11 : decode cX12_sumIsTold 11 = .ok (.iload_n 1, 1) := by decide +kernel
theorem dX12_sumIsTold_12 : decode cX12_sumIsTold 12 = .ok (.iaload, 1) := by decide +kernel
theorem dX12_sumIsTold_13 : decode cX12_sumIsTold 13 = .ok (.iconst (-1), 1) := by decide +kernel
theorem dX12_sumIsTold_14 : decode cX12_sumIsTold 14 = .ok (.if_icmp .eq 9, 3) := by decide +kernel
theorem dX12_sumIsTold_17 : decode cX12_sumIsTold 17 = .ok (.aload_n 0, 1) := by decide +kernel
theorem dX12_sumIsTold_18 : decode cX12_sumIsTold 18 = .ok (.iconst 5, 1) := by decide +kernel
theorem dX12_sumIsTold_19 : decode cX12_sumIsTold 19 = .ok (.iload_n 2, 1) := by decide +kernel
theorem dX12_sumIsTold_20 : decode cX12_sumIsTold 20 = .ok (.invokevirtual 266, 3) := by decide +kernel
theorem dX12_sumIsTold_23 : decode cX12_sumIsTold 23 = .ok (.aload_n 0, 1) := by decide +kernel
theorem dX12_sumIsTold_24 : decode cX12_sumIsTold 24 = .ok (.getfield 236, 3) := by decide +kernel
theorem dX12_sumIsTold_27 : decode cX12_sumIsTold 27 = .ok (.ifCond .eq 4, 3) := by decide +kernel
theorem dX12_sumIsTold_30 : decode cX12_sumIsTold 30 = .ok (.return_, 1) := by decide +kernel
theorem dX12_sumIsTold_31 : decode cX12_sumIsTold 31 = .ok (.aload_n 0, 1) := by decide +kernel
theorem dX12_sumIsTold_32 : decode cX12_sumIsTold 32 = .ok (.getfield 109, 3) := by decide +kernel
theorem dX12_sumIsTold_35 : decode cX12_sumIsTold 35 = .ok (.iload_n 1, 1) := by decide +kernel
theorem dX12_sumIsTold_36 : decode cX12_sumIsTold 36 = .ok (.aload_n 0, 1) := by decide +kernel
theorem dX12_sumIsTold_37 : decode cX12_sumIsTold 37 = .ok (.getfield 313, 3) := by decide +kernel
theorem dX12_sumIsTold_40 : decode cX12_sumIsTold 40 = .ok (.iastore, 1) := by decide +kernel
theorem dX12_sumIsTold_41 : decode cX12_sumIsTold 41 = .ok (.aload_n 0, 1) := by decide +kernel
theorem dX12_sumIsTold_42 : decode cX12_sumIsTold 42 = .ok (.iconst 0, 1) := by decide +kernel
theorem dX12_sumIsTold_43 : decode cX12_sumIsTold 43 = .ok (.putfield 316, 3) := by decide +kernel
theorem dX12_sumIsTold_46 : decode cX12_sumIsTold 46 = .ok (.aload_n 0, 1) := by decide +kernel
theorem dX12_sumIsTold_47 : decode cX12_sumIsTold 47 = .ok (.iconst 0, 1) := by decide +kernel
theorem dX12_sumIsTold_48 : decode cX12_sumIsTold 48 = .ok (.putfield 319, 3) := by decide +kernel
theorem dX12_sumIsTold_51 : decode cX12_sumIsTold 51 = .ok (.aload_n 0, 1) := by decide +kernel
theorem dX12_sumIsTold_52 : decode cX12_sumIsTold 52 = .ok (.iconst 0, 1) := by decide +kernel
theorem dX12_sumIsTold_53 : decode cX12_sumIsTold 53 = .ok (.putfield 322, 3) := by decide +kernel
theorem dX12_sumIsTold_56 : decode cX12_sumIsTold 56 = .ok (.aload_n 0, 1) := by decide +kernel
theorem dX12_sumIsTold_57 : decode cX12_sumIsTold 57 = .ok (.invokevirtual 325, 3) := by decide +kernel
theorem dX12_sumIsTold_60 : decode cX12_sumIsTold 60 = .ok (.aload_n 0, 1) := by decide +kernel
theorem dX12_sumIsTold_61 : decode cX12_sumIsTold 61 = .ok (.getfield 112, 3) := by decide +kernel
theorem dX12_sumIsTold_64 : decode cX12_sumIsTold 64 = .ok (.iload_n 1, 1) := by decide +kernel
theorem dX12_sumIsTold_65 : decode cX12_sumIsTold 65 = .ok (.aload_n 0, 1) := by decide +kernel
theorem dX12_sumIsTold_66 : decode cX12_sumIsTold 66 = .ok (.getfield 313, 3) := by decide +kernel
theorem dX12_sumIsTold_69 : decode cX12_sumIsTold 69 = .ok (.iastore, 1) := by decide +kernel
theorem dX12_sumIsTold_70 : decode cX12_sumIsTold 70 = .ok (.return_, 1) := by decide +kernel
theorem dX12_statementTold_0 : decode cX12_statementTold 0 = .ok (.aload_n 0, 1) := by decide +kernel
theorem dX12_statementTold_1 : decode cX12_statementTold 1 = .ok (.getfield 242, 3) := by decide +kernel
theorem dX12_statementTold_4 : decode cX12_statementTold 4 = .ok (.istore_n 1, 1) := by decide +kernel
theorem dX12_statementTold_5 : decode cX12_statementTold 5 = .ok (.aload_n 0, 1) := by decide +kernel
theorem dX12_statementTold_6 : decode cX12_statementTold 6 = .ok (.getfield 328, 3) := by decide +kernel
theorem dX12_statementTold_9 : decode cX12_statementTold 9 = .ok (.bipush 60, 2) := by decide +kernel
theorem dX12_statementTold_11 : decode cX12_statementTold 11 = .ok (.if_icmp .ne 10, 3) := by decide +kernel
theorem dX12_statementTold_14 : decode cX12_statementTold 14 = .ok (.aload_n 0, 1) := by decide +kernel
theorem dX12_statementTold_15 : decode cX12_statementTold 15 = .ok (.iconst 5, 1) := by decide +kernel
theorem dX12_statementTold_16 : decode cX12_statementTold 16 = .ok (.iload_n 1, 1) := by decide +kernel
theorem dX12_statementTold_17 : decode cX12_statementTold 17 = .ok (.invokevirtual 266, 3) := by decide +kernel
theorem dX12_statementTold_20 : decode cX12_statementTold 20 = .ok (.return_, 1) := by decide +kernel
theorem dX12_statementTold_21 : decode cX12_statementTold 21 = .ok (.aload_n 0, 1) := by decide +kernel
theorem dX12_statementTold_22 : decode cX12_statementTold 22 = .ok (.aload_n 0, 1) := by decide +kernel
theorem dX12_statementTold_23 : decode cX12_statementTold 23 = .ok (.getfield 20, 3) := by decide +kernel
theorem dX12_statementTold_26 : decode cX12_statementTold 26 = .ok (.invokevirtual 263, 3) := by decide +kernel
theorem dX12_statementTold_29 : decode cX12_statementTold 29 = .ok (.ifCond .eq 11, 3) := by decide +kernel
theorem dX12_statementTold_32 : decode cX12_statementTold 32 = .ok (.aload_n 0, 1) := by decide +kernel
theorem dX12_statementTold_33 : decode cX12_statementTold 33 = .ok (.iload_n 1, 1) := by decide +kernel
theorem dX12_statementTold_34 : decode cX12_statementTold 34 = .ok (.invokevirtual 331, 3) := by decide +kernel
theorem dX12_statementTold_37 : decode cX12_statementTold 37 = .ok (.goto 119, 3) := by decide +kernel
theorem dX12_statementTold_40 : decode cX12_statementTold 40 = .ok (.aload_n 0, 1) := by decide +kernel
theorem dX12_statementTold_41 : decode cX12_statementTold 41 = .ok (.aload_n 0, 1) := by decide +kernel
theorem dX12_statementTold_42 : decode cX12_statementTold 42 = .ok (.getfield 30, 3) := by decide +kernel
theorem dX12_statementTold_45 : decode cX12_statementTold 45 = .ok (.invokevirtual 263, 3) := by decide +kernel
theorem dX12_statementTold_48 : decode cX12_statementTold 48 = .ok (.ifCond .eq 10, 3) := by decide +kernel
theorem dX12_statementTold_51 : decode cX12_statementTold 51 = .ok (.aload_n 0, 1) := by decide +kernel
theorem dX12_statementTold_52 : decode cX12_statementTold 52 = .ok (.invokevirtual 335, 3) := by decide +kernel
theorem dX12_statementTold_55 : decode cX12_statementTold 55 = .ok (.goto 101, 3) := by decide +kernel
theorem dX12_statementTold_58 : decode cX12_statementTold 58 = .ok (.aload_n 0, 1) := by decide +kernel
theorem dX12_statementTold_59 : decode cX12_statementTold 59 = .ok (.aload_n 0, 1) := by decide +kernel
theorem dX12_statementTold_60 : decode cX12_statementTold 60 = .ok (.getfield 42, 3) := by decide +kernel
theorem dX12_statementTold_63 : decode cX12_statementTold 63 = .ok (.invokevirtual 263, 3) := by decide +kernel
theorem dX12_statementTold_66 : decode cX12_statementTold 66 = .ok (.ifCond .eq 11, 3) := by decide +kernel
theorem dX12_statementTold_69 : decode cX12_statementTold 69 = .ok (.aload_n 0, 1) := by decide +kernel
theorem dX12_statementTold_70 : decode cX12_statementTold 70 = .ok (.iload_n 1, 1) := by decide +kernel
theorem dX12_statementTold_71 : decode cX12_statementTold 71 = .ok (.invokevirtual 338, 3) := by decide +kernel
theorem dX12_statementTold_74 : decode cX12_statementTold 74 = .ok (.goto 82, 3) := by decide +kernel
theorem dX12_statementTold_77 : decode cX12_statementTold 77 = .ok (.aload_n 0, 1) := by decide +kernel
theorem dX12_statementTold_78 : decode cX12_statementTold 78 = .ok (.aload_n 0, 1) := by decide +kernel
theorem dX12_statementTold_79 : decode cX12_statementTold 79 = .ok (.getfield 48, 3) := by decide +kernel
theorem dX12_statementTold_82 : decode cX12_statementTold 82 = .ok (.invokevirtual 263, 3) := by decide +kernel
theorem dX12_statementTold_85 : decode cX12_statementTold 85 = .ok (.ifCond .eq 10, 3) := by decide +kernel
theorem dX12_statementTold_88 : decode cX12_statementTold 88 = .ok (.aload_n 0, 1) := by decide +kernel
theorem dX12_statementTold_89 : decode cX12_statementTold 89 = .ok (.invokevirtual 341, 3) := by decide +kernel
theorem dX12_statementTold_92 : decode cX12_statementTold 92 = .ok (.goto 64, 3) := by decide +kernel
theorem dX12_statementTold_95 : decode cX12_statementTold 95 = .ok (.aload_n 0, 1) := by decide +kernel
theorem dX12_statementTold_96 : decode cX12_statementTold 96 = .ok (.aload_n 0, 1) := by decide +kernel
theorem dX12_statementTold_97 : decode cX12_statementTold 97 = .ok (.getfield 51, 3) := by decide +kernel
theorem dX12_statementTold_100 : decode cX12_statementTold 100 = .ok (.invokevirtual 263, 3) := by decide +kernel
theorem dX12_statementTold_103 : decode cX12_statementTold 103 = .ok (.ifCond .eq 12, 3) := by decide +kernel
theorem dX12_statementTold_106 : decode cX12_statementTold 106 = .ok (.aload_n 0, 1) := by decide +kernel
theorem dX12_statementTold_107 : decode cX12_statementTold 107 = .ok (.iconst 0, 1) := by decide +kernel
theorem dX12_statementTold_108 : decode cX12_statementTold 108 = .ok (.iload_n 1, 1) := by decide +kernel
theorem dX12_statementTold_109 : decode cX12_statementTold 109 = .ok (.invokevirtual 344, 3) := by decide +kernel
theorem dX12_statementTold_112 : decode cX12_statementTold 112 = .ok (.goto 44, 3) := by decide +kernel
theorem dX12_statementTold_115 : decode cX12_statementTold 115 = .ok (.aload_n 0, 1) := by decide +kernel
theorem dX12_statementTold_116 : decode cX12_statementTold 116 = .ok (.aload_n 0, 1) := by decide +kernel
theorem dX12_statementTold_117 : decode cX12_statementTold 117 = .ok (.getfield 54, 3) := by decide +kernel
theorem dX12_statementTold_120 : decode cX12_statementTold 120 = .ok (.invokevirtual 263, 3) := by decide +kernel
theorem dX12_statementTold_123 : decode cX12_statementTold 123 = .ok (.ifCond .eq 12, 3) := by decide +kernel
theorem dX12_statementTold_126 : decode cX12_statementTold 126 = .ok (.aload_n 0, 1) := by decide +kernel
theorem dX12_statementTold_127 : decode cX12_statementTold 127 = .ok (.iconst 1, 1) := by decide +kernel
theorem dX12_statementTold_128 : decode cX12_statementTold 128 = .ok (.iload_n 1, 1) := by decide +kernel
theorem dX12_statementTold_129 : decode cX12_statementTold 129 = .ok (.invokevirtual 344, 3) := by decide +kernel
theorem dX12_statementTold_132 : decode cX12_statementTold 132 = .ok (.goto 24, 3) := by decide +kernel
theorem dX12_statementTold_135 : decode cX12_statementTold 135 = .ok (.aload_n 0, 1) := by decide +kernel
theorem dX12_statementTold_136 : decode cX12_statementTold 136 = .ok (.aload_n 0, 1) := by decide +kernel
theorem dX12_statementTold_137 : decode cX12_statementTold 137 = .ok (.getfield 57, 3) := by decide +kernel
theorem dX12_statementTold_140 : decode cX12_statementTold 140 = .ok (.invokevirtual 302, 3) := by decide +kernel
theorem dX12_statementTold_143 : decode cX12_statementTold 143 = .ok (.aload_n 0, 1) := by decide +kernel
theorem dX12_statementTold_144 : decode cX12_statementTold 144 = .ok (.getfield 106, 3) := by decide +kernel
theorem dX12_statementTold_147 : decode cX12_statementTold 147 = .ok (.iconst 0, 1) := by decide +kernel
theorem dX12_statementTold_148 : decode cX12_statementTold 148 = .ok (.aload_n 0, 1) := by decide +kernel
theorem dX12_statementTold_149 : decode cX12_statementTold 149 = .ok (.iconst 0, 1) := by decide +kernel
theorem dX12_statementTold_150 : decode cX12_statementTold 150 = .ok (.bipush 100, 2) := by decide +kernel
theorem dX12_statementTold_152 : decode cX12_statementTold 152 = .ok (.invokevirtual 306, 3) := by decide +kernel
theorem dX12_statementTold_155 : decode cX12_statementTold 155 = .ok (.iastore, 1) := by decide +kernel
theorem dX12_statementTold_156 : decode cX12_statementTold 156 = .ok (.aload_n 0, 1) := by decide +kernel
theorem dX12_statementTold_157 : decode cX12_statementTold 157 = .ok (.bipush 59, 2) := by decide +kernel
theorem dX12_statementTold_159 : decode cX12_statementTold 159 = .ok (.invokevirtual 347, 3) := by decide +kernel
theorem dX12_statementTold_162 : decode cX12_statementTold 162 = .ok (.aload_n 0, 1) := by decide +kernel
theorem dX12_statementTold_163 : decode cX12_statementTold 163 = .ok (.dup, 1) := by decide +kernel
theorem dX12_statementTold_164 : decode cX12_statementTold 164 = .ok (.getfield 328, 3) := by decide +kernel
theorem dX12_statementTold_167 : decode cX12_statementTold 167 = .ok (.iconst 1, 1) := by decide +kernel
theorem dX12_statementTold_168 : decode cX12_statementTold 168 = .ok (.iadd, 1) := by decide +kernel
theorem dX12_statementTold_169 : decode cX12_statementTold 169 = .ok (.putfield 328, 3) := by decide +kernel
theorem dX12_statementTold_172 : decode cX12_statementTold 172 = .ok (.return_, 1) := by decide +kernel
theorem dX12_table_0 : decode cX12_table 0 = .ok (.aload_n 0, 1) := by decide +kernel
theorem dX12_table_1 : decode cX12_table 1 = .ok (.aload_n 0, 1) := by decide +kernel
theorem dX12_table_2 : decode cX12_table 2 = .ok (.getfield 233, 3) := by decide +kernel
theorem dX12_table_5 : decode cX12_table 5 = .ok (.putfield 245, 3) := by decide +kernel
theorem dX12_table_8 : decode cX12_table 8 = .ok (.aload_n 0, 1) := by decide +kernel
theorem dX12_table_9 : decode cX12_table 9 = .ok (.iconst 0, 1) := by decide +kernel
theorem dX12_table_10 : decode cX12_table 10 = .ok (.putfield 233, 3) := by decide +kernel
theorem dX12_table_13 : decode cX12_table 13 = .ok (.aload_n 0, 1) := by decide +kernel
theorem dX12_table_14 : decode cX12_table 14 = .ok (.iconst 0, 1) := by decide +kernel
theorem dX12_table_15 : decode cX12_table 15 = .ok (.putfield 242, 3) := by decide +kernel
theorem dX12_table_18 : decode cX12_table 18 = .ok (.aload_n 0, 1) := by decide +kernel
theorem dX12_table_19 : decode cX12_table 19 = .ok (.iconst (-1), 1) := by decide +kernel
theorem dX12_table_20 : decode cX12_table 20 = .ok (.putfield 256, 3) := by decide +kernel
theorem dX12_table_23 : decode cX12_table 23 = .ok (.aload_n 0, 1) := by decide +kernel
theorem dX12_table_24 : decode cX12_table 24 = .ok (.iconst 0, 1) := by decide +kernel
theorem dX12_table_25 : decode cX12_table 25 = .ok (.putfield 236, 3) := by decide +kernel
theorem dX12_table_28 : decode cX12_table 28 = .ok (.aload_n 0, 1) := by decide +kernel
theorem dX12_table_29 : decode cX12_table 29 = .ok (.iconst (-1), 1) := by decide +kernel
theorem dX12_table_30 : decode cX12_table 30 = .ok (.putfield 239, 3) := by decide +kernel
theorem dX12_table_33 : decode cX12_table 33 = .ok (.aload_n 0, 1) := by decide +kernel
theorem dX12_table_34 : decode cX12_table 34 = .ok (.iconst 0, 1) := by decide +kernel
theorem dX12_table_35 : decode cX12_table 35 = .ok (.putfield 328, 3) := by decide +kernel
theorem dX12_table_38 : decode cX12_table 38 = .ok (.aload_n 0, 1) := by decide +kernel
theorem dX12_table_39 : decode cX12_table 39 = .ok (.iconst 0, 1) := by decide +kernel
theorem dX12_table_40 : decode cX12_table 40 = .ok (.putfield 313, 3) := by decide +kernel
theorem dX12_table_43 : decode cX12_table 43 = .ok (.aload_n 0, 1) := by decide +kernel
theorem dX12_table_44 : decode cX12_table 44 = .ok (.getfield 93, 3) := by decide +kernel
theorem dX12_table_47 : decode cX12_table 47 = .ok (.iconst 0, 1) := by decide +kernel
theorem dX12_table_48 : decode cX12_table 48 = .ok (.iconst 0, 1) := by decide +kernel
theorem dX12_table_49 : decode cX12_table 49 = .ok (.iastore, 1) := by decide +kernel
theorem dX12_table_50 : decode cX12_table 50 = .ok (.aload_n 0, 1) := by decide +kernel
theorem dX12_table_51 : decode cX12_table 51 = .ok (.getfield 93, 3) := by decide +kernel
theorem dX12_table_54 : decode cX12_table 54 = .ok (.iconst 1, 1) := by decide +kernel
theorem dX12_table_55 : decode cX12_table 55 = .ok (.iconst 0, 1) := by decide +kernel
theorem dX12_table_56 : decode cX12_table 56 = .ok (.iastore, 1) := by decide +kernel
theorem dX12_table_57 : decode cX12_table 57 = .ok (.aload_n 0, 1) := by decide +kernel
theorem dX12_table_58 : decode cX12_table 58 = .ok (.getfield 106, 3) := by decide +kernel
theorem dX12_table_61 : decode cX12_table 61 = .ok (.iconst 0, 1) := by decide +kernel
theorem dX12_table_62 : decode cX12_table 62 = .ok (.bipush 100, 2) := by decide +kernel
theorem dX12_table_64 : decode cX12_table 64 = .ok (.iastore, 1) := by decide +kernel
theorem dX12_table_65 : decode cX12_table 65 = .ok (.aload_n 0, 1) := by decide +kernel
theorem dX12_table_66 : decode cX12_table 66 = .ok (.getfield 109, 3) := by decide +kernel
theorem dX12_table_69 : decode cX12_table 69 = .ok (.iconst 0, 1) := by decide +kernel
theorem dX12_table_70 : decode cX12_table 70 = .ok (.iconst (-1), 1) := by decide +kernel
theorem dX12_table_71 : decode cX12_table 71 = .ok (.iastore, 1) := by decide +kernel
theorem dX12_table_72 : decode cX12_table 72 = .ok (.aload_n 0, 1) := by decide +kernel
theorem dX12_table_73 : decode cX12_table 73 = .ok (.getfield 109, 3) := by decide +kernel
theorem dX12_table_76 : decode cX12_table 76 = .ok (.iconst 1, 1) := by decide +kernel
theorem dX12_table_77 : decode cX12_table 77 = .ok (.iconst (-1), 1) := by decide +kernel
theorem dX12_table_78 : decode cX12_table 78 = .ok (.iastore, 1) := by decide +kernel
theorem dX12_table_79 : decode cX12_table 79 = .ok (.aload_n 0, 1) := by decide +kernel
theorem dX12_table_80 : decode cX12_table 80 = .ok (.getfield 236, 3) := by decide +kernel
theorem dX12_table_83 : decode cX12_table 83 = .ok (.ifCond .ne 18, 3) := by decide +kernel
theorem dX12_table_86 : decode cX12_table 86 = .ok (.aload_n 0, 1) := by decide +kernel
theorem dX12_table_87 : decode cX12_table 87 = .ok (.invokevirtual 248, 3) := by decide +kernel
theorem dX12_table_90 : decode cX12_table 90 = .ok (.iconst (-1), 1) := by decide +kernel
theorem dX12_table_91 : decode cX12_table 91 = .ok (.if_icmp .eq 10, 3) := by decide +kernel
theorem dX12_table_94 : decode cX12_table 94 = .ok (.aload_n 0, 1) := by decide +kernel
theorem dX12_table_95 : decode cX12_table 95 = .ok (.invokevirtual 350, 3) := by decide +kernel
theorem dX12_table_98 : decode cX12_table 98 = .ok (.goto (-19), 3) := by decide +kernel
theorem dX12_table_101 : decode cX12_table 101 = .ok (.aload_n 0, 1) := by decide +kernel
theorem dX12_table_102 : decode cX12_table 102 = .ok (.aload_n 0, 1) := by decide +kernel
theorem dX12_table_103 : decode cX12_table 103 = .ok (.getfield 236, 3) := by decide +kernel
theorem dX12_table_106 : decode cX12_table 106 = .ok (.putfield 353, 3) := by decide +kernel
theorem dX12_table_109 : decode cX12_table 109 = .ok (.aload_n 0, 1) := by decide +kernel
theorem dX12_table_110 : decode cX12_table 110 = .ok (.aload_n 0, 1) := by decide +kernel
theorem dX12_table_111 : decode cX12_table 111 = .ok (.getfield 239, 3) := by decide +kernel
theorem dX12_table_114 : decode cX12_table 114 = .ok (.putfield 13, 3) := by decide +kernel
theorem dX12_table_117 : decode cX12_table 117 = .ok (.aload_n 0, 1) := by decide +kernel
theorem dX12_table_118 : decode cX12_table 118 = .ok (.getfield 236, 3) := by decide +kernel
theorem dX12_table_121 : decode cX12_table 121 = .ok (.ifCond .eq 15, 3) := by decide +kernel
theorem dX12_table_124 : decode cX12_table 124 = .ok (.aload_n 0, 1) := by decide +kernel
theorem dX12_table_125 : decode cX12_table 125 = .ok (.getfield 17, 3) := by decide +kernel
theorem dX12_table_128 : decode cX12_table 128 = .ok (.iconst 1, 1) := by decide +kernel
theorem dX12_table_129 : decode cX12_table 129 = .ok (.dup2, 1) := by decide +kernel
theorem dX12_table_130 : decode cX12_table 130 = .ok (.iaload, 1) := by decide +kernel
theorem dX12_table_131 : decode cX12_table 131 = .ok (.iconst 1, 1) := by decide +kernel
theorem dX12_table_132 : decode cX12_table 132 = .ok (.iadd, 1) := by decide +kernel
theorem dX12_table_133 : decode cX12_table 133 = .ok (.iastore, 1) := by decide +kernel
theorem dX12_table_134 : decode cX12_table 134 = .ok (.iconst (-1), 1) := by decide +kernel
theorem dX12_table_135 : decode cX12_table 135 = .ok (.ireturn, 1) := by decide +kernel
theorem dX12_table_136 : decode cX12_table 136 = .ok (.aload_n 0, 1) := by decide +kernel
theorem dX12_table_137 : decode cX12_table 137 = .ok (.invokevirtual 356, 3) := by decide +kernel
theorem dX12_table_140 : decode cX12_table 140 = .ok (.aload_n 0, 1) := by decide +kernel
theorem dX12_table_141 : decode cX12_table 141 = .ok (.getfield 328, 3) := by decide +kernel
theorem dX12_table_144 : decode cX12_table 144 = .ok (.ireturn, 1) := by decide +kernel
theorem dX12_stands_0 : decode cX12_stands 0 = .ok (.iconst 0, 1) := by decide +kernel
theorem dX12_stands_1 : decode cX12_stands 1 = .ok (.istore_n 1, 1) := by decide +kernel
theorem dX12_stands_2 : decode cX12_stands 2 = .ok (.iload_n 1, 1) := by decide +kernel
theorem dX12_stands_3 : decode cX12_stands 3 = .ok (.iconst 2, 1) := by decide +kernel
theorem dX12_stands_4 : decode cX12_stands 4 = .ok (.if_icmp .ge 51, 3) := by decide +kernel
theorem dX12_stands_7 : decode cX12_stands 7 = .ok (.aload_n 0, 1) := by decide +kernel
theorem dX12_stands_8 : decode cX12_stands 8 = .ok (.getfield 93, 3) := by decide +kernel
theorem dX12_stands_11 : decode cX12_stands 11 = .ok (.iconst 2, 1) := by decide +kernel
theorem dX12_stands_12 : decode cX12_stands 12 = .ok (.iload_n 1, 1) := by decide +kernel
theorem dX12_stands_13 : decode cX12_stands 13 = .ok (.iadd, 1) := by decide +kernel
theorem dX12_stands_14 : decode cX12_stands 14 = .ok (.aload_n 0, 1) := by decide +kernel
theorem dX12_stands_15 : decode cX12_stands 15 = .ok (.getfield 93, 3) := by decide +kernel
theorem dX12_stands_18 : decode cX12_stands 18 = .ok (.iload_n 1, 1) := by decide +kernel
theorem dX12_stands_19 : decode cX12_stands 19 = .ok (.iaload, 1) := by decide +kernel
theorem dX12_stands_20 : decode cX12_stands 20 = .ok (.iastore, 1) := by decide +kernel
theorem dX12_stands_21 : decode cX12_stands 21 = .ok (.aload_n 0, 1) := by decide +kernel
theorem dX12_stands_22 : decode cX12_stands 22 = .ok (.getfield 109, 3) := by decide +kernel
theorem dX12_stands_25 : decode cX12_stands 25 = .ok (.iconst 2, 1) := by decide +kernel
theorem dX12_stands_26 : decode cX12_stands 26 = .ok (.iload_n 1, 1) := by decide +kernel
theorem dX12_stands_27 : decode cX12_stands 27 = .ok (.iadd, 1) := by decide +kernel
theorem dX12_stands_28 : decode cX12_stands 28 = .ok (.aload_n 0, 1) := by decide +kernel
theorem dX12_stands_29 : decode cX12_stands 29 = .ok (.getfield 109, 3) := by decide +kernel
theorem dX12_stands_32 : decode cX12_stands 32 = .ok (.iload_n 1, 1) := by decide +kernel
theorem dX12_stands_33 : decode cX12_stands 33 = .ok (.iaload, 1) := by decide +kernel
theorem dX12_stands_34 : decode cX12_stands 34 = .ok (.iastore, 1) := by decide +kernel
theorem dX12_stands_35 : decode cX12_stands 35 = .ok (.aload_n 0, 1) := by decide +kernel
theorem dX12_stands_36 : decode cX12_stands 36 = .ok (.getfield 112, 3) := by decide +kernel
theorem dX12_stands_39 : decode cX12_stands 39 = .ok (.iconst 2, 1) := by decide +kernel
theorem dX12_stands_40 : decode cX12_stands 40 = .ok (.iload_n 1, 1) := by decide +kernel
theorem dX12_stands_41 : decode cX12_stands 41 = .ok (.iadd, 1) := by decide +kernel
theorem dX12_stands_42 : decode cX12_stands 42 = .ok (.aload_n 0, 1) := by decide +kernel
theorem dX12_stands_43 : decode cX12_stands 43 = .ok (.getfield 112, 3) := by decide +kernel
theorem dX12_stands_46 : decode cX12_stands 46 = .ok (.iload_n 1, 1) := by decide +kernel
theorem dX12_stands_47 : decode cX12_stands 47 = .ok (.iaload, 1) := by decide +kernel
theorem dX12_stands_48 : decode cX12_stands 48 = .ok (.iastore, 1) := by decide +kernel
theorem dX12_stands_49 : decode cX12_stands 49 = .ok (.iinc 1 1, 3) := by decide +kernel
theorem dX12_stands_52 : decode cX12_stands 52 = .ok (.goto (-50), 3) := by decide +kernel
theorem dX12_stands_55 : decode cX12_stands 55 = .ok (.iconst 0, 1) := by decide +kernel
theorem dX12_stands_56 : decode cX12_stands 56 = .ok (.istore_n 1, 1) := by decide +kernel
theorem dX12_stands_57 : decode cX12_stands 57 = .ok (.iload_n 1, 1) := by decide +kernel
theorem dX12_stands_58 : decode cX12_stands 58 = .ok (.bipush 12, 2) := by decide +kernel
theorem dX12_stands_60 : decode cX12_stands 60 = .ok (.if_icmp .ge 24, 3) := by decide +kernel
theorem dX12_stands_63 : decode cX12_stands 63 = .ok (.aload_n 0, 1) := by decide +kernel
theorem dX12_stands_64 : decode cX12_stands 64 = .ok (.getfield 96, 3) := by decide +kernel
theorem dX12_stands_67 : decode cX12_stands 67 = .ok (.bipush 12, 2) := by decide +kernel
theorem dX12_stands_69 : decode cX12_stands 69 = .ok (.iload_n 1, 1) := by decide +kernel
theorem dX12_stands_70 : decode cX12_stands 70 = .ok (.iadd, 1) := by decide +kernel
theorem dX12_stands_71 : decode cX12_stands 71 = .ok (.aload_n 0, 1) := by decide +kernel
theorem dX12_stands_72 : decode cX12_stands 72 = .ok (.getfield 96, 3) := by decide +kernel
theorem dX12_stands_75 : decode cX12_stands 75 = .ok (.iload_n 1, 1) := by decide +kernel
theorem dX12_stands_76 : decode cX12_stands 76 = .ok (.laload, 1) := by decide +kernel
theorem dX12_stands_77 : decode cX12_stands 77 = .ok (.lastore, 1) := by decide +kernel
theorem dX12_stands_78 : decode cX12_stands 78 = .ok (.iinc 1 1, 3) := by decide +kernel
theorem dX12_stands_81 : decode cX12_stands 81 = .ok (.goto (-24), 3) := by decide +kernel
theorem dX12_stands_84 : decode cX12_stands 84 = .ok (.iconst 0, 1) := by decide +kernel
theorem dX12_stands_85 : decode cX12_stands 85 = .ok (.istore_n 1, 1) := by decide +kernel
theorem dX12_stands_86 : decode cX12_stands 86 = .ok (.iload_n 1, 1) := by decide +kernel
theorem dX12_stands_87 : decode cX12_stands 87 = .ok (.bipush 56, 2) := by decide +kernel
theorem dX12_stands_89 : decode cX12_stands 89 = .ok (.if_icmp .ge 24, 3) := by decide +kernel
theorem dX12_stands_92 : decode cX12_stands 92 = .ok (.aload_n 0, 1) := by decide +kernel
theorem dX12_stands_93 : decode cX12_stands 93 = .ok (.getfield 100, 3) := by decide +kernel
theorem dX12_stands_96 : decode cX12_stands 96 = .ok (.bipush 56, 2) := by decide +kernel
theorem dX12_stands_98 : decode cX12_stands 98 = .ok (.iload_n 1, 1) := by decide +kernel
theorem dX12_stands_99 : decode cX12_stands 99 = .ok (.iadd, 1) := by decide +kernel
theorem dX12_stands_100 : decode cX12_stands 100 = .ok (.aload_n 0, 1) := by decide +kernel
theorem dX12_stands_101 : decode cX12_stands 101 = .ok (.getfield 100, 3) := by decide +kernel
theorem dX12_stands_104 : decode cX12_stands 104 = .ok (.iload_n 1, 1) := by decide +kernel
theorem dX12_stands_105 : decode cX12_stands 105 = .ok (.iaload, 1) := by decide +kernel
theorem dX12_stands_106 : decode cX12_stands 106 = .ok (.iastore, 1) := by decide +kernel
theorem dX12_stands_107 : decode cX12_stands 107 = .ok (.iinc 1 1, 3) := by decide +kernel
theorem dX12_stands_110 : decode cX12_stands 110 = .ok (.goto (-24), 3) := by decide +kernel
theorem dX12_stands_113 : decode cX12_stands 113 = .ok (.iconst 0, 1) := by decide +kernel
theorem dX12_stands_114 : decode cX12_stands 114 = .ok (.istore_n 1, 1) := by decide +kernel
theorem dX12_stands_115 : decode cX12_stands 115 = .ok (.iload_n 1, 1) := by decide +kernel
theorem dX12_stands_116 : decode cX12_stands 116 = .ok (.iconst 4, 1) := by decide +kernel
theorem dX12_stands_117 : decode cX12_stands 117 = .ok (.if_icmp .ge 23, 3) := by decide +kernel
theorem dX12_stands_120 : decode cX12_stands 120 = .ok (.aload_n 0, 1) := by decide +kernel
theorem dX12_stands_121 : decode cX12_stands 121 = .ok (.getfield 103, 3) := by decide +kernel
theorem dX12_stands_124 : decode cX12_stands 124 = .ok (.iconst 4, 1) := by decide +kernel
theorem dX12_stands_125 : decode cX12_stands 125 = .ok (.iload_n 1, 1) := by decide +kernel
theorem dX12_stands_126 : decode cX12_stands 126 = .ok (.iadd, 1) := by decide +kernel
theorem dX12_stands_127 : decode cX12_stands 127 = .ok (.aload_n 0, 1) := by decide +kernel
theorem dX12_stands_128 : decode cX12_stands 128 = .ok (.getfield 103, 3) := by decide +kernel
theorem dX12_stands_131 : decode cX12_stands 131 = .ok (.iload_n 1, 1) := by decide +kernel
theorem dX12_stands_132 : decode cX12_stands 132 = .ok (.iaload, 1) := by decide +kernel
theorem dX12_stands_133 : decode cX12_stands 133 = .ok (.iastore, 1) := by decide +kernel
theorem dX12_stands_134 : decode cX12_stands 134 = .ok (.iinc 1 1, 3) := by decide +kernel
theorem dX12_stands_137 : decode cX12_stands 137 = .ok (.goto (-22), 3) := by decide +kernel
theorem dX12_stands_140 : decode cX12_stands 140 = .ok (.aload_n 0, 1) := by decide +kernel
theorem dX12_stands_141 : decode cX12_stands 141 = .ok (.getfield 106, 3) := by decide +kernel
theorem dX12_stands_144 : decode cX12_stands 144 = .ok (.iconst 1, 1) := by decide +kernel
theorem dX12_stands_145 : decode cX12_stands 145 = .ok (.aload_n 0, 1) := by decide +kernel
theorem dX12_stands_146 : decode cX12_stands 146 = .ok (.getfield 106, 3) := by decide +kernel
theorem dX12_stands_149 : decode cX12_stands 149 = .ok (.iconst 0, 1) := by decide +kernel
theorem dX12_stands_150 : decode cX12_stands 150 = .ok (.iaload, 1) := by decide +kernel
theorem dX12_stands_151 : decode cX12_stands 151 = .ok (.iastore, 1) := by decide +kernel
theorem dX12_stands_152 : decode cX12_stands 152 = .ok (.iconst 0, 1) := by decide +kernel
theorem dX12_stands_153 : decode cX12_stands 153 = .ok (.istore_n 1, 1) := by decide +kernel
theorem dX12_stands_154 : decode cX12_stands 154 = .ok (.iload_n 1, 1) := by decide +kernel
theorem dX12_stands_155 : decode cX12_stands 155 = .ok (.aload_n 0, 1) := by decide +kernel
theorem dX12_stands_156 : decode cX12_stands 156 = .ok (.getfield 313, 3) := by decide +kernel
theorem dX12_stands_159 : decode cX12_stands 159 = .ok (.if_icmp .ge 25, 3) := by decide +kernel
theorem dX12_stands_162 : decode cX12_stands 162 = .ok (.aload_n 0, 1) := by decide +kernel
theorem dX12_stands_163 : decode cX12_stands 163 = .ok (.getfield 115, 3) := by decide +kernel
theorem dX12_stands_166 : decode cX12_stands 166 = .ok (.sipush 1600, 3) := by decide +kernel
theorem dX12_stands_169 : decode cX12_stands 169 = .ok (.iload_n 1, 1) := by decide +kernel
theorem dX12_stands_170 : decode cX12_stands 170 = .ok (.iadd, 1) := by decide +kernel
theorem dX12_stands_171 : decode cX12_stands 171 = .ok (.aload_n 0, 1) := by decide +kernel
theorem dX12_stands_172 : decode cX12_stands 172 = .ok (.getfield 115, 3) := by decide +kernel
theorem dX12_stands_175 : decode cX12_stands 175 = .ok (.iload_n 1, 1) := by decide +kernel
theorem dX12_stands_176 : decode cX12_stands 176 = .ok (.iaload, 1) := by decide +kernel
theorem dX12_stands_177 : decode cX12_stands 177 = .ok (.iastore, 1) := by decide +kernel
theorem dX12_stands_178 : decode cX12_stands 178 = .ok (.iinc 1 1, 3) := by decide +kernel
theorem dX12_stands_181 : decode cX12_stands 181 = .ok (.goto (-27), 3) := by decide +kernel
theorem dX12_stands_184 : decode cX12_stands 184 = .ok (.iconst 0, 1) := by decide +kernel
theorem dX12_stands_185 : decode cX12_stands 185 = .ok (.istore_n 1, 1) := by decide +kernel
theorem dX12_stands_186 : decode cX12_stands 186 = .ok (.iload_n 1, 1) := by decide +kernel
theorem dX12_stands_187 : decode cX12_stands 187 = .ok (.bipush 51, 2) := by decide +kernel
theorem dX12_stands_189 : decode cX12_stands 189 = .ok (.if_icmp .ge 16, 3) := by decide +kernel
theorem dX12_stands_192 : decode cX12_stands 192 = .ok (.aload_n 0, 1) := by decide +kernel
theorem dX12_stands_193 : decode cX12_stands 193 = .ok (.getfield 127, 3) := by decide +kernel
theorem dX12_stands_196 : decode cX12_stands 196 = .ok (.iload_n 1, 1) := by decide +kernel
theorem dX12_stands_197 : decode cX12_stands 197 = .ok (.iconst 0, 1) := by decide +kernel
theorem dX12_stands_198 : decode cX12_stands 198 = .ok (.iastore, 1) := by decide +kernel
theorem dX12_stands_199 : decode cX12_stands 199 = .ok (.iinc 1 1, 3) := by decide +kernel
theorem dX12_stands_202 : decode cX12_stands 202 = .ok (.goto (-16), 3) := by decide +kernel
theorem dX12_stands_205 : decode cX12_stands 205 = .ok (.iconst 0, 1) := by decide +kernel
theorem dX12_stands_206 : decode cX12_stands 206 = .ok (.istore_n 1, 1) := by decide +kernel
theorem dX12_stands_207 : decode cX12_stands 207 = .ok (.iload_n 1, 1) := by decide +kernel
theorem dX12_stands_208 : decode cX12_stands 208 = .ok (.aload_n 0, 1) := by decide +kernel
theorem dX12_stands_209 : decode cX12_stands 209 = .ok (.getfield 93, 3) := by decide +kernel
theorem dX12_stands_212 : decode cX12_stands 212 = .ok (.iconst 0, 1) := by decide +kernel
theorem dX12_stands_213 : decode cX12_stands 213 = .ok (.iaload, 1) := by decide +kernel
theorem dX12_stands_214 : decode cX12_stands 214 = .ok (.if_icmp .ge 62, 3) := by decide +kernel
theorem dX12_stands_217 : decode cX12_stands 217 = .ok (.aload_n 0, 1) := by decide +kernel
theorem dX12_stands_218 : decode cX12_stands 218 = .ok (.getfield 127, 3) := by decide +kernel
theorem dX12_stands_221 : decode cX12_stands 221 = .ok (.iconst 3, 1) := by decide +kernel
theorem dX12_stands_222 : decode cX12_stands 222 = .ok (.bipush 6, 2) := by decide +kernel
theorem dX12_stands_224 : decode cX12_stands 224 = .ok (.iload_n 1, 1) := by decide +kernel
theorem dX12_stands_225 : decode cX12_stands 225 = .ok (.imul, 1) := by decide +kernel
theorem dX12_stands_226 : decode cX12_stands 226 = .ok (.iadd, 1) := by decide +kernel
theorem dX12_stands_227 : decode cX12_stands 227 = .ok (.iload_n 1, 1) := by decide +kernel
theorem dX12_stands_228 : decode cX12_stands 228 = .ok (.iastore, 1) := by decide +kernel
theorem dX12_stands_229 : decode cX12_stands 229 = .ok (.iconst 0, 1) := by decide +kernel
theorem dX12_stands_230 : decode cX12_stands 230 = .ok (.istore_n 2, 1) := by decide +kernel
theorem dX12_stands_231 : decode cX12_stands 231 = .ok (.iload_n 2, 1) := by decide +kernel
theorem dX12_stands_232 : decode cX12_stands 232 = .ok (.iconst 5, 1) := by decide +kernel
theorem dX12_stands_233 : decode cX12_stands 233 = .ok (.if_icmp .ge 37, 3) := by decide +kernel
theorem dX12_stands_236 : decode cX12_stands 236 = .ok (.aload_n 0, 1) := by decide +kernel
theorem dX12_stands_237 : decode cX12_stands 237 = .ok (.getfield 127, 3) := by decide +kernel
theorem dX12_stands_240 : decode cX12_stands 240 = .ok (.iconst 3, 1) := by decide +kernel
theorem dX12_stands_241 : decode cX12_stands 241 = .ok (.bipush 6, 2) := by decide +kernel
theorem dX12_stands_243 : decode cX12_stands 243 = .ok (.iload_n 1, 1) := by decide +kernel
theorem dX12_stands_244 : decode cX12_stands 244 = .ok (.imul, 1) := by decide +kernel
theorem dX12_stands_245 : decode cX12_stands 245 = .ok (.iadd, 1) := by decide +kernel
theorem dX12_stands_246 : decode cX12_stands 246 = .ok (.iconst 1, 1) := by decide +kernel
theorem dX12_stands_247 : decode cX12_stands 247 = .ok (.iadd, 1) := by decide +kernel
theorem dX12_stands_248 : decode cX12_stands 248 = .ok (.iload_n 2, 1) := by decide +kernel
theorem dX12_stands_249 : decode cX12_stands 249 = .ok (.iadd, 1) := by decide +kernel
theorem dX12_stands_250 : decode cX12_stands 250 = .ok (.aload_n 0, 1) := by decide +kernel
theorem dX12_stands_251 : decode cX12_stands 251 = .ok (.getfield 100, 3) := by decide +kernel
theorem dX12_stands_254 : decode cX12_stands 254 = .ok (.bipush 7, 2) := by decide +kernel
theorem dX12_stands_256 : decode cX12_stands 256 = .ok (.iload_n 1, 1) := by decide +kernel
theorem dX12_stands_257 : decode cX12_stands 257 = .ok (.imul, 1) := by decide +kernel
theorem dX12_stands_258 : decode cX12_stands 258 = .ok (.iconst 2, 1) := by decide +kernel
theorem dX12_stands_259 : decode cX12_stands 259 = .ok (.iadd, 1) := by decide +kernel
theorem dX12_stands_260 : decode cX12_stands 260 = .ok (.iload_n 2, 1) := by decide +kernel
theorem dX12_stands_261 : decode cX12_stands 261 = .ok (.iadd, 1) := by decide +kernel
theorem dX12_stands_262 : decode cX12_stands 262 = .ok (.iaload, 1) := by decide +kernel
theorem dX12_stands_263 : decode cX12_stands 263 = .ok (.iastore, 1) := by decide +kernel
theorem dX12_stands_264 : decode cX12_stands 264 = .ok (.iinc 2 1, 3) := by decide +kernel
theorem dX12_stands_267 : decode cX12_stands 267 = .ok (.goto (-36), 3) := by decide +kernel
theorem dX12_stands_270 : decode cX12_stands 270 = .ok (.iinc 1 1, 3) := by decide +kernel
theorem dX12_stands_273 : decode cX12_stands 273 = .ok (.goto (-66), 3) := by decide +kernel
theorem dX12_stands_276 : decode cX12_stands 276 = .ok (.aload_n 0, 1) := by decide +kernel
theorem dX12_stands_277 : decode cX12_stands 277 = .ok (.iconst 0, 1) := by decide +kernel
theorem dX12_stands_278 : decode cX12_stands 278 = .ok (.putfield 359, 3) := by decide +kernel
theorem dX12_stands_281 : decode cX12_stands 281 = .ok (.return_, 1) := by decide +kernel
theorem dX12_code_0 : decode cX12_code 0 = .ok (.aload_n 0, 1) := by decide +kernel
theorem dX12_code_1 : decode cX12_code 1 = .ok (.getfield 115, 3) := by decide +kernel
theorem dX12_code_4 : decode cX12_code 4 = .ok (.iconst 0, 1) := by decide +kernel
theorem dX12_code_5 : decode cX12_code 5 = .ok (.aload_n 0, 1) := by decide +kernel
theorem dX12_code_6 : decode cX12_code 6 = .ok (.getfield 313, 3) := by decide +kernel
theorem dX12_code_9 : decode cX12_code 9 = .ok (.iadd, 1) := by decide +kernel
theorem dX12_code_10 : decode cX12_code 10 = .ok (.iload_n 1, 1) := by decide +kernel
theorem dX12_code_11 : decode cX12_code 11 = .ok (.iastore, 1) := by decide +kernel
theorem dX12_code_12 : decode cX12_code 12 = .ok (.aload_n 0, 1) := by decide +kernel
theorem dX12_code_13 : decode cX12_code 13 = .ok (.dup, 1) := by decide +kernel
theorem dX12_code_14 : decode cX12_code 14 = .ok (.getfield 313, 3) := by decide +kernel
theorem dX12_code_17 : decode cX12_code 17 = .ok (.iconst 1, 1) := by decide +kernel
theorem dX12_code_18 : decode cX12_code 18 = .ok (.iadd, 1) := by decide +kernel
theorem dX12_code_19 : decode cX12_code 19 = .ok (.putfield 313, 3) := by decide +kernel
theorem dX12_code_22 : decode cX12_code 22 = .ok (.return_, 1) := by decide +kernel
theorem dX12_opens_0 : decode cX12_opens 0 = .ok (.aload_n 0, 1) := by decide +kernel
theorem dX12_opens_1 : decode cX12_opens 1 = .ok (.getfield 319, 3) := by decide +kernel
theorem dX12_opens_4 : decode cX12_opens 4 = .ok (.bipush 6, 2) := by decide +kernel
theorem dX12_opens_6 : decode cX12_opens 6 = .ok (.if_icmp .ne 10, 3) := by decide +kernel
theorem dX12_opens_9 : decode cX12_opens 9 = .ok (.aload_n 0, 1) := by decide +kernel
theorem dX12_opens_10 : decode cX12_opens 10 = .ok (.iconst 4, 1) := by decide +kernel
theorem dX12_opens_11 : decode cX12_opens 11 = .ok (.iload_n 2, 1) := by decide +kernel
theorem dX12_opens_12 : decode cX12_opens 12 = .ok (.invokevirtual 266, 3) := by decide +kernel
theorem dX12_opens_15 : decode cX12_opens 15 = .ok (.return_, 1) := by decide +kernel
theorem dX12_opens_16 : decode cX12_opens 16 = .ok (.aload_n 0, 1) := by decide +kernel
theorem dX12_opens_17 : decode cX12_opens 17 = .ok (.dup, 1) := by decide +kernel
theorem dX12_opens_18 : decode cX12_opens 18 = .ok (.getfield 319, 3) := by decide +kernel
theorem dX12_opens_21 : decode cX12_opens 21 = .ok (.iconst 1, 1) := by decide +kernel
theorem dX12_opens_22 : decode cX12_opens 22 = .ok (.iadd, 1) := by decide +kernel
theorem dX12_opens_23 : decode cX12_opens 23 = .ok (.putfield 319, 3) := by decide +kernel
theorem dX12_opens_26 : decode cX12_opens 26 = .ok (.aload_n 0, 1) := by decide +kernel
theorem dX12_opens_27 : decode cX12_opens 27 = .ok (.getfield 118, 3) := by decide +kernel
theorem dX12_opens_30 : decode cX12_opens 30 = .ok (.aload_n 0, 1) := by decide +kernel
theorem dX12_opens_31 : decode cX12_opens 31 = .ok (.getfield 316, 3) := by decide +kernel
theorem dX12_opens_34 : decode cX12_opens 34 = .ok (.iload_n 1, 1) := by decide +kernel
theorem dX12_opens_35 : decode cX12_opens 35 = .ok (.iastore, 1) := by decide +kernel
theorem dX12_opens_36 : decode cX12_opens 36 = .ok (.aload_n 0, 1) := by decide +kernel
theorem dX12_opens_37 : decode cX12_opens 37 = .ok (.dup, 1) := by decide +kernel
theorem dX12_opens_38 : decode cX12_opens 38 = .ok (.getfield 316, 3) := by decide +kernel
theorem dX12_opens_41 : decode cX12_opens 41 = .ok (.iconst 1, 1) := by decide +kernel
theorem dX12_opens_42 : decode cX12_opens 42 = .ok (.iadd, 1) := by decide +kernel
theorem dX12_opens_43 : decode cX12_opens 43 = .ok (.putfield 316, 3) := by decide +kernel
theorem dX12_opens_46 : decode cX12_opens 46 = .ok (.return_, 1) := by decide +kernel
theorem dX12_isOn_0 : decode cX12_isOn 0 = .ok (.aload_n 0, 1) := by decide +kernel
theorem dX12_isOn_1 : decode cX12_isOn 1 = .ok (.getfield 316, 3) := by decide +kernel
theorem dX12_isOn_4 : decode cX12_isOn 4 = .ok (.ifCond .le 22, 3) := by decide +kernel
theorem dX12_isOn_7 : decode cX12_isOn 7 = .ok (.aload_n 0, 1) := by decide +kernel
theorem dX12_isOn_8 : decode cX12_isOn 8 = .ok (.getfield 118, 3) := by decide +kernel
theorem dX12_isOn_11 : decode cX12_isOn 11 = .ok (.aload_n 0, 1) := by decide +kernel
theorem dX12_isOn_12 : decode cX12_isOn 12 = .ok (.getfield 316, 3) := by decide +kernel
theorem dX12_isOn_15 : decode cX12_isOn 15 = .ok (.iconst 1, 1) := by decide +kernel
theorem dX12_isOn_16 : decode cX12_isOn 16 = .ok (.isub, 1) := by decide +kernel
theorem dX12_isOn_17 : decode cX12_isOn 17 = .ok (.iaload, 1) := by decide +kernel
theorem dX12_isOn_18 : decode cX12_isOn 18 = .ok (.iload_n 1, 1) := by decide +kernel
theorem dX12_isOn_19 : decode cX12_isOn 19 = .ok (.if_icmp .ne 7, 3) := by decide +kernel
theorem dX12_isOn_22 : decode cX12_isOn 22 = .ok (.iconst 1, 1) := by decide +kernel
theorem dX12_isOn_23 : decode cX12_isOn 23 = .ok (.goto 4, 3) := by decide +kernel
theorem dX12_isOn_26 : decode cX12_isOn 26 = .ok (.iconst 0, 1) := by decide +kernel
theorem dX12_isOn_27 : decode cX12_isOn 27 = .ok (.ireturn, 1) := by decide +kernel
theorem dX12_drops_0 : decode cX12_drops 0 = .ok (.aload_n 0, 1) := by decide +kernel
theorem dX12_drops_1 : decode cX12_drops 1 = .ok (.dup, 1) := by decide +kernel
theorem dX12_drops_2 : decode cX12_drops 2 = .ok (.getfield 316, 3) := by decide +kernel
theorem dX12_drops_5 : decode cX12_drops 5 = .ok (.iconst 1, 1) := by decide +kernel
theorem dX12_drops_6 : decode cX12_drops 6 = .ok (.isub, 1) := by decide +kernel
theorem dX12_drops_7 : decode cX12_drops 7 = .ok (.putfield 316, 3) := by decide +kernel
theorem dX12_drops_10 : decode cX12_drops 10 = .ok (.aload_n 0, 1) := by decide +kernel
theorem dX12_drops_11 : decode cX12_drops 11 = .ok (.aload_n 0, 1) := by decide +kernel
theorem dX12_drops_12 : decode cX12_drops 12 = .ok (.getfield 118, 3) := by decide +kernel
theorem dX12_drops_15 : decode cX12_drops 15 = .ok (.aload_n 0, 1) := by decide +kernel
theorem dX12_drops_16 : decode cX12_drops 16 = .ok (.getfield 316, 3) := by decide +kernel
theorem dX12_drops_19 : decode cX12_drops 19 = .ok (.iaload, 1) := by decide +kernel
theorem dX12_drops_20 : decode cX12_drops 20 = .ok (.invokevirtual 362, 3) := by decide +kernel
theorem dX12_drops_23 : decode cX12_drops 23 = .ok (.return_, 1) := by decide +kernel
theorem dX12_isMark_0 : decode cX12_isMark 0 = .ok (.iload_n 1, 1) := by decide +kernel
theorem dX12_isMark_1 : decode cX12_isMark 1 = .ok (.bipush 20, 2) := by decide +kernel
theorem dX12_isMark_3 : decode cX12_isMark 3 = .ok (.if_icmp .lt 13, 3) := by decide +kernel
theorem dX12_isMark_6 : decode cX12_isMark 6 = .ok (.iload_n 1, 1) := by decide +kernel
theorem dX12_isMark_7 : decode cX12_isMark 7 = .ok (.bipush 24, 2) := by decide +kernel
theorem dX12_isMark_9 : decode cX12_isMark 9 = .ok (.if_icmp .gt 7, 3) := by decide +kernel
theorem dX12_isMark_12 : decode cX12_isMark 12 = .ok (.iconst 1, 1) := by decide +kernel
theorem dX12_isMark_13 : decode cX12_isMark 13 = .ok (.goto 4, 3) := by decide +kernel
theorem dX12_isMark_16 : decode cX12_isMark 16 = .ok (.iconst 0, 1) := by decide +kernel
theorem dX12_isMark_17 : decode cX12_isMark 17 = .ok (.ireturn, 1) := by decide +kernel
theorem dX12_waitsLast_0 : decode cX12_waitsLast 0 = .ok (.aload_n 0, 1) := by decide +kernel
theorem dX12_waitsLast_1 : decode cX12_waitsLast 1 = .ok (.getfield 316, 3) := by decide +kernel
theorem dX12_waitsLast_4 : decode cX12_waitsLast 4 = .ok (.iconst 1, 1) := by decide +kernel
theorem dX12_waitsLast_5 : decode cX12_waitsLast 5 = .ok (.isub, 1) := by decide +kernel
theorem dX12_waitsLast_6 : decode cX12_waitsLast 6 = .ok (.istore_n 1, 1) := by decide +kernel
theorem dX12_waitsLast_7 : decode cX12_waitsLast 7 = .ok (.iload_n 1, 1) := by decide +kernel
theorem dX12_waitsLast_8 : decode cX12_waitsLast 8 = .ok (.aload_n 0, 1) := by decide +kernel
theorem dX12_waitsLast_9 : decode cX12_waitsLast 9 = .ok (.getfield 322, 3) := by decide +kernel
theorem dX12_waitsLast_12 : decode cX12_waitsLast 12 = .ok (.if_icmp .lt 22, 3) := by decide +kernel
theorem dX12_waitsLast_15 : decode cX12_waitsLast 15 = .ok (.aload_n 0, 1) := by decide +kernel
theorem dX12_waitsLast_16 : decode cX12_waitsLast 16 = .ok (.aload_n 0, 1) := by decide +kernel
theorem dX12_waitsLast_17 : decode cX12_waitsLast 17 = .ok (.getfield 118, 3) := by decide +kernel
theorem dX12_waitsLast_20 : decode cX12_waitsLast 20 = .ok (.iload_n 1, 1) := by decide +kernel
theorem dX12_waitsLast_21 : decode cX12_waitsLast 21 = .ok (.iaload, 1) := by decide +kernel
theorem dX12_waitsLast_22 : decode cX12_waitsLast 22 = .ok (.invokevirtual 365, 3) := by decide +kernel
theorem dX12_waitsLast_25 : decode cX12_waitsLast 25 = .ok (.ifCond .ne 9, 3) := by decide +kernel
theorem dX12_waitsLast_28 : decode cX12_waitsLast 28 = .ok (.iinc 1 (-1), 3) := by decide +kernel
theorem dX12_waitsLast_31 : decode cX12_waitsLast 31 = .ok (.goto (-24), 3) := by decide +kernel
theorem dX12_waitsLast_34 : decode cX12_waitsLast 34 = .ok (.iload_n 1, 1) := by decide +kernel
theorem dX12_waitsLast_35 : decode cX12_waitsLast 35 = .ok (.aload_n 0, 1) := by decide +kernel
theorem dX12_waitsLast_36 : decode cX12_waitsLast 36 = .ok (.getfield 322, 3) := by decide +kernel
theorem dX12_waitsLast_39 : decode cX12_waitsLast 39 = .ok (.if_icmp .lt 12, 3) := by decide +kernel
theorem dX12_waitsLast_42 : decode cX12_waitsLast 42 = .ok (.aload_n 0, 1) := by decide +kernel
theorem dX12_waitsLast_43 : decode cX12_waitsLast 43 = .ok (.getfield 118, 3) := by decide +kernel
theorem dX12_waitsLast_46 : decode cX12_waitsLast 46 = .ok (.iload_n 1, 1) := by decide +kernel
theorem dX12_waitsLast_47 : decode cX12_waitsLast 47 = .ok (.iaload, 1) := by decide +kernel
theorem dX12_waitsLast_48 : decode cX12_waitsLast 48 = .ok (.goto 4, 3) := by decide +kernel
theorem dX12_waitsLast_51 : decode cX12_waitsLast 51 = .ok (.iconst (-1), 1) := by decide +kernel
theorem dX12_waitsLast_52 : decode cX12_waitsLast 52 = .ok (.ireturn, 1) := by decide +kernel
theorem dX12_dropsToMark_0 : decode cX12_dropsToMark 0 = .ok (.aload_n 0, 1) := by decide +kernel
theorem dX12_dropsToMark_1 : decode cX12_dropsToMark 1 = .ok (.getfield 316, 3) := by decide +kernel
theorem dX12_dropsToMark_4 : decode cX12_dropsToMark 4 = .ok (.aload_n 0, 1) := by decide +kernel
theorem dX12_dropsToMark_5 : decode cX12_dropsToMark 5 = .ok (.getfield 322, 3) := by decide +kernel
theorem dX12_dropsToMark_8 : decode cX12_dropsToMark 8 = .ok (.if_icmp .le 28, 3) := by decide +kernel
theorem dX12_dropsToMark_11 : decode cX12_dropsToMark 11 = .ok (.aload_n 0, 1) := by decide +kernel
theorem dX12_dropsToMark_12 : decode cX12_dropsToMark 12 = .ok (.aload_n 0, 1) := by decide +kernel
theorem dX12_dropsToMark_13 : decode cX12_dropsToMark 13 = .ok (.getfield 118, 3) := by decide +kernel
theorem dX12_dropsToMark_16 : decode cX12_dropsToMark 16 = .ok (.aload_n 0, 1) := by decide +kernel
theorem dX12_dropsToMark_17 : decode cX12_dropsToMark 17 = .ok (.getfield 316, 3) := by decide +kernel
theorem dX12_dropsToMark_20 : decode cX12_dropsToMark 20 = .ok (.iconst 1, 1) := by decide +kernel
theorem dX12_dropsToMark_21 : decode cX12_dropsToMark 21 = .ok (.isub, 1) := by decide +kernel
theorem dX12_dropsToMark_22 : decode cX12_dropsToMark 22 = .ok (.iaload, 1) := by decide +kernel
theorem dX12_dropsToMark_23 : decode cX12_dropsToMark 23 = .ok (.invokevirtual 365, 3) := by decide +kernel
theorem dX12_dropsToMark_26 : decode cX12_dropsToMark 26 = .ok (.ifCond .ne 10, 3) := by decide +kernel
theorem dX12_dropsToMark_29 : decode cX12_dropsToMark 29 = .ok (.aload_n 0, 1) := by decide +kernel
theorem dX12_dropsToMark_30 : decode cX12_dropsToMark 30 = .ok (.invokevirtual 368, 3) := by decide +kernel
theorem dX12_dropsToMark_33 : decode cX12_dropsToMark 33 = .ok (.goto (-33), 3) := by decide +kernel
theorem dX12_dropsToMark_36 : decode cX12_dropsToMark 36 = .ok (.return_, 1) := by decide +kernel
theorem dX12_onePart_0 : decode cX12_onePart 0 = .ok (.iconst 1, 1) := by decide +kernel
theorem dX12_onePart_1 : decode cX12_onePart 1 = .ok (.istore_n 1, 1) := by decide +kernel
theorem dX12_onePart_2 : decode cX12_onePart 2 = .ok (.iload_n 1, 1) := by decide +kernel
theorem dX12_onePart_3 : decode cX12_onePart 3 = .ok (.ifCond .eq 143, 3) := by decide +kernel
theorem dX12_onePart_6 : decode cX12_onePart 6 = .ok (.aload_n 0, 1) := by decide +kernel
theorem dX12_onePart_7 : decode cX12_onePart 7 = .ok (.getfield 236, 3) := by decide +kernel
theorem dX12_onePart_10 : decode cX12_onePart 10 = .ok (.ifCond .ne 136, 3) := by decide +kernel
theorem dX12_onePart_13 : decode cX12_onePart 13 = .ok (.aload_n 0, 1) := by decide +kernel
theorem dX12_onePart_14 : decode cX12_onePart 14 = .ok (.invokevirtual 248, 3) := by decide +kernel
theorem dX12_onePart_17 : decode cX12_onePart 17 = .ok (.istore_n 2, 1) := by decide +kernel
theorem dX12_onePart_18 : decode cX12_onePart 18 = .ok (.iload_n 2, 1) := by decide +kernel
theorem dX12_onePart_19 : decode cX12_onePart 19 = .ok (.bipush 40, 2) := by decide +kernel
theorem dX12_onePart_21 : decode cX12_onePart 21 = .ok (.if_icmp .ne 26, 3) := by decide +kernel
theorem dX12_onePart_24 : decode cX12_onePart 24 = .ok (.aload_n 0, 1) := by decide +kernel
theorem dX12_onePart_25 : decode cX12_onePart 25 = .ok (.bipush 20, 2) := by decide +kernel
theorem dX12_onePart_27 : decode cX12_onePart 27 = .ok (.aload_n 0, 1) := by decide +kernel
theorem dX12_onePart_28 : decode cX12_onePart 28 = .ok (.getfield 242, 3) := by decide +kernel
theorem dX12_onePart_31 : decode cX12_onePart 31 = .ok (.invokevirtual 371, 3) := by decide +kernel
theorem dX12_onePart_34 : decode cX12_onePart 34 = .ok (.aload_n 0, 1) := by decide +kernel
theorem dX12_onePart_35 : decode cX12_onePart 35 = .ok (.dup, 1) := by decide +kernel
theorem dX12_onePart_36 : decode cX12_onePart 36 = .ok (.getfield 242, 3) := by decide +kernel
theorem dX12_onePart_39 : decode cX12_onePart 39 = .ok (.iconst 1, 1) := by decide +kernel
theorem dX12_onePart_40 : decode cX12_onePart 40 = .ok (.iadd, 1) := by decide +kernel
theorem dX12_onePart_41 : decode cX12_onePart 41 = .ok (.putfield 242, 3) := by decide +kernel
theorem dX12_onePart_44 : decode cX12_onePart 44 = .ok (.goto 99, 3) := by decide +kernel
theorem dX12_onePart_47 : decode cX12_onePart 47 = .ok (.aload_n 0, 1) := by decide +kernel
theorem dX12_onePart_48 : decode cX12_onePart 48 = .ok (.aload_n 0, 1) := by decide +kernel
theorem dX12_onePart_49 : decode cX12_onePart 49 = .ok (.getfield 87, 3) := by decide +kernel
theorem dX12_onePart_52 : decode cX12_onePart 52 = .ok (.invokevirtual 259, 3) := by decide +kernel
theorem dX12_onePart_55 : decode cX12_onePart 55 = .ok (.ifCond .ne 14, 3) := by decide +kernel
theorem dX12_onePart_58 : decode cX12_onePart 58 = .ok (.aload_n 0, 1) := by decide +kernel
theorem dX12_onePart_59 : decode cX12_onePart 59 = .ok (.aload_n 0, 1) := by decide +kernel
theorem dX12_onePart_60 : decode cX12_onePart 60 = .ok (.getfield 90, 3) := by decide +kernel
theorem dX12_onePart_63 : decode cX12_onePart 63 = .ok (.invokevirtual 259, 3) := by decide +kernel
theorem dX12_onePart_66 : decode cX12_onePart 66 = .ok (.ifCond .eq 75, 3) := by decide +kernel
theorem dX12_onePart_69 : decode cX12_onePart 69 = .ok (.aload_n 0, 1) := by decide +kernel
theorem dX12_onePart_70 : decode cX12_onePart 70 = .ok (.aload_n 0, 1) := by decide +kernel
theorem dX12_onePart_71 : decode cX12_onePart 71 = .ok (.getfield 87, 3) := by decide +kernel
theorem dX12_onePart_74 : decode cX12_onePart 74 = .ok (.invokevirtual 263, 3) := by decide +kernel
theorem dX12_onePart_77 : decode cX12_onePart 77 = .ok (.istore_n 3, 1) := by decide +kernel
theorem dX12_onePart_78 : decode cX12_onePart 78 = .ok (.iload_n 3, 1) := by decide +kernel
theorem dX12_onePart_79 : decode cX12_onePart 79 = .ok (.ifCond .ne 11, 3) := by decide +kernel
theorem dX12_onePart_82 : decode cX12_onePart 82 = .ok (.aload_n 0, 1) := by decide +kernel
theorem dX12_onePart_83 : decode cX12_onePart 83 = .ok (.aload_n 0, 1) := by decide +kernel
theorem dX12_onePart_84 : decode cX12_onePart 84 = .ok (.getfield 90, 3) := by decide +kernel
theorem dX12_onePart_87 : decode cX12_onePart 87 = .ok (.invokevirtual 302, 3) := by decide +kernel
theorem dX12_onePart_90 : decode cX12_onePart 90 = .ok (.aload_n 0, 1) := by decide +kernel
theorem dX12_onePart_91 : decode cX12_onePart 91 = .ok (.invokevirtual 248, 3) := by decide +kernel
theorem dX12_onePart_94 : decode cX12_onePart 94 = .ok (.bipush 40, 2) := by decide +kernel
theorem dX12_onePart_96 : decode cX12_onePart 96 = .ok (.if_icmp .ne 10, 3) := by decide +kernel
theorem dX12_onePart_99 : decode cX12_onePart 99 = .ok (.aload_n 0, 1) := by decide +kernel
theorem dX12_onePart_100 : decode cX12_onePart 100 = .ok (.getfield 242, 3) := by decide +kernel
theorem dX12_onePart_103 : decode cX12_onePart 103 = .ok (.goto 4, 3) := by decide +kernel
theorem dX12_onePart_106 : decode cX12_onePart 106 = .ok (.iconst (-1), 1) := by decide +kernel
theorem dX12_onePart_107 : decode cX12_onePart 107 = .ok (.istore 4, 2) := by decide +kernel
theorem dX12_onePart_109 : decode cX12_onePart 109 = .ok (.iload 4, 2) := by decide +kernel
theorem dX12_onePart_111 : decode cX12_onePart 111 = .ok (.iconst (-1), 1) := by decide +kernel
theorem dX12_onePart_112 : decode cX12_onePart 112 = .ok (.if_icmp .eq 20, 3) := by decide +kernel
theorem dX12_onePart_115 : decode cX12_onePart 115 = .ok (.aload_n 0, 1) := by decide +kernel
theorem dX12_onePart_116 : decode cX12_onePart 116 = .ok (.iload_n 3, 1) := by decide +kernel
theorem dX12_onePart_117 : decode cX12_onePart 117 = .ok (.ifCond .eq 8, 3) := by decide +kernel
theorem dX12_onePart_120 : decode cX12_onePart 120 = .ok (.bipush 21, 2) := by decide +kernel
theorem dX12_onePart_122 : decode cX12_onePart 122 = .ok (.goto 5, 3) := by decide +kernel
theorem dX12_onePart_125 : decode cX12_onePart 125 = .ok (.bipush 22, 2) := by decide +kernel
theorem dX12_onePart_127 : decode cX12_onePart 127 = .ok (.iload 4, 2) := by decide +kernel
theorem dX12_onePart_129 : decode cX12_onePart 129 = .ok (.invokevirtual 371, 3) := by decide +kernel
theorem dX12_onePart_132 : decode cX12_onePart 132 = .ok (.aload_n 0, 1) := by decide +kernel
theorem dX12_onePart_133 : decode cX12_onePart 133 = .ok (.bipush 40, 2) := by decide +kernel
theorem dX12_onePart_135 : decode cX12_onePart 135 = .ok (.invokevirtual 347, 3) := by decide +kernel
theorem dX12_onePart_138 : decode cX12_onePart 138 = .ok (.goto 5, 3) := by decide +kernel
theorem dX12_onePart_141 : decode cX12_onePart 141 = .ok (.iconst 0, 1) := by decide +kernel
theorem dX12_onePart_142 : decode cX12_onePart 142 = .ok (.istore_n 1, 1) := by decide +kernel
theorem dX12_onePart_143 : decode cX12_onePart 143 = .ok (.goto (-141), 3) := by decide +kernel
theorem dX12_onePart_146 : decode cX12_onePart 146 = .ok (.aload_n 0, 1) := by decide +kernel
theorem dX12_onePart_147 : decode cX12_onePart 147 = .ok (.getfield 236, 3) := by decide +kernel
theorem dX12_onePart_150 : decode cX12_onePart 150 = .ok (.ifCond .eq 4, 3) := by decide +kernel
theorem dX12_onePart_153 : decode cX12_onePart 153 = .ok (.return_, 1) := by decide +kernel
theorem dX12_onePart_154 : decode cX12_onePart 154 = .ok (.aload_n 0, 1) := by decide +kernel
theorem dX12_onePart_155 : decode cX12_onePart 155 = .ok (.aload_n 0, 1) := by decide +kernel
theorem dX12_onePart_156 : decode cX12_onePart 156 = .ok (.getfield 60, 3) := by decide +kernel
theorem dX12_onePart_159 : decode cX12_onePart 159 = .ok (.invokevirtual 263, 3) := by decide +kernel
theorem dX12_onePart_162 : decode cX12_onePart 162 = .ok (.ifCond .eq 8, 3) := by decide +kernel
theorem dX12_onePart_165 : decode cX12_onePart 165 = .ok (.bipush 7, 2) := by decide +kernel
theorem dX12_onePart_167 : decode cX12_onePart 167 = .ok (.goto 84, 3) := by decide +kernel
theorem dX12_onePart_170 : decode cX12_onePart 170 = .ok (.aload_n 0, 1) := by decide +kernel
theorem dX12_onePart_171 : decode cX12_onePart 171 = .ok (.aload_n 0, 1) := by decide +kernel
theorem dX12_onePart_172 : decode cX12_onePart 172 = .ok (.getfield 63, 3) := by decide +kernel
theorem dX12_onePart_175 : decode cX12_onePart 175 = .ok (.invokevirtual 263, 3) := by decide +kernel
theorem dX12_onePart_178 : decode cX12_onePart 178 = .ok (.ifCond .eq 8, 3) := by decide +kernel
theorem dX12_onePart_181 : decode cX12_onePart 181 = .ok (.bipush 8, 2) := by decide +kernel
theorem dX12_onePart_183 : decode cX12_onePart 183 = .ok (.goto 68, 3) := by decide +kernel
theorem dX12_onePart_186 : decode cX12_onePart 186 = .ok (.aload_n 0, 1) := by decide +kernel
theorem dX12_onePart_187 : decode cX12_onePart 187 = .ok (.aload_n 0, 1) := by decide +kernel
theorem dX12_onePart_188 : decode cX12_onePart 188 = .ok (.getfield 66, 3) := by decide +kernel
theorem dX12_onePart_191 : decode cX12_onePart 191 = .ok (.invokevirtual 263, 3) := by decide +kernel
theorem dX12_onePart_194 : decode cX12_onePart 194 = .ok (.ifCond .eq 8, 3) := by decide +kernel
theorem dX12_onePart_197 : decode cX12_onePart 197 = .ok (.bipush 9, 2) := by decide +kernel
theorem dX12_onePart_199 : decode cX12_onePart 199 = .ok (.goto 52, 3) := by decide +kernel
theorem dX12_onePart_202 : decode cX12_onePart 202 = .ok (.aload_n 0, 1) := by decide +kernel
theorem dX12_onePart_203 : decode cX12_onePart 203 = .ok (.aload_n 0, 1) := by decide +kernel
theorem dX12_onePart_204 : decode cX12_onePart 204 = .ok (.getfield 33, 3) := by decide +kernel
theorem dX12_onePart_207 : decode cX12_onePart 207 = .ok (.invokevirtual 263, 3) := by decide +kernel
theorem dX12_onePart_210 : decode cX12_onePart 210 = .ok (.ifCond .eq 8, 3) := by decide +kernel
theorem dX12_onePart_213 : decode cX12_onePart 213 = .ok (.bipush 10, 2) := by decide +kernel
theorem dX12_onePart_215 : decode cX12_onePart 215 = .ok (.goto 36, 3) := by decide +kernel
theorem dX12_onePart_218 : decode cX12_onePart 218 = .ok (.aload_n 0, 1) := by decide +kernel
theorem dX12_onePart_219 : decode cX12_onePart 219 = .ok (.aload_n 0, 1) := by decide +kernel
theorem dX12_onePart_220 : decode cX12_onePart 220 = .ok (.getfield 36, 3) := by decide +kernel
theorem dX12_onePart_223 : decode cX12_onePart 223 = .ok (.invokevirtual 263, 3) := by decide +kernel
theorem dX12_onePart_226 : decode cX12_onePart 226 = .ok (.ifCond .eq 8, 3) := by decide +kernel
theorem dX12_onePart_229 : decode cX12_onePart 229 = .ok (.bipush 11, 2) := by decide +kernel
theorem dX12_onePart_231 : decode cX12_onePart 231 = .ok (.goto 20, 3) := by decide +kernel
theorem dX12_onePart_234 : decode cX12_onePart 234 = .ok (.aload_n 0, 1) := by decide +kernel
theorem dX12_onePart_235 : decode cX12_onePart 235 = .ok (.aload_n 0, 1) := by decide +kernel
theorem dX12_onePart_236 : decode cX12_onePart 236 = .ok (.getfield 39, 3) := by decide +kernel
theorem dX12_onePart_239 : decode cX12_onePart 239 = .ok (.invokevirtual 263, 3) := by decide +kernel
theorem dX12_onePart_242 : decode cX12_onePart 242 = .ok (.ifCond .eq 8, 3) := by decide +kernel
theorem dX12_onePart_245 : decode cX12_onePart 245 = .ok (.bipush 12, 2) := by decide +kernel
theorem dX12_onePart_247 : decode cX12_onePart 247 = .ok (.goto 4, 3) := by decide +kernel
theorem dX12_onePart_250 : decode cX12_onePart 250 = .ok (.iconst (-1), 1) := by decide +kernel
theorem dX12_onePart_251 : decode cX12_onePart 251 = .ok (.istore_n 2, 1) := by decide +kernel
theorem dX12_onePart_252 : decode cX12_onePart 252 = .ok (.aload_n 0, 1) := by decide +kernel
theorem dX12_onePart_253 : decode cX12_onePart 253 = .ok (.iload_n 2, 1) := by decide +kernel
theorem dX12_onePart_254 : decode cX12_onePart 254 = .ok (.iconst (-1), 1) := by decide +kernel
theorem dX12_onePart_255 : decode cX12_onePart 255 = .ok (.if_icmp .eq 7, 3) := by decide +kernel
theorem dX12_onePart_258 : decode cX12_onePart 258 = .ok (.iload_n 2, 1) := by decide +kernel
theorem dX12_onePart_259 : decode cX12_onePart 259 = .ok (.goto 15, 3) := by decide +kernel
theorem dX12_onePart_262 : decode cX12_onePart 262 = .ok (.sipush 1000, 3) := by decide +kernel
theorem dX12_onePart_265 : decode cX12_onePart 265 = .ok (.aload_n 0, 1) := by decide +kernel
theorem dX12_onePart_266 : decode cX12_onePart 266 = .ok (.iconst 0, 1) := by decide +kernel
theorem dX12_onePart_267 : decode cX12_onePart 267 = .ok (.sipush 9999, 3) := by decide +kernel
theorem dX12_onePart_270 : decode cX12_onePart 270 = .ok (.invokevirtual 306, 3) := by decide +kernel
theorem dX12_onePart_273 : decode cX12_onePart 273 = .ok (.iadd, 1) := by decide +kernel
theorem dX12_onePart_274 : decode cX12_onePart 274 = .ok (.invokevirtual 362, 3) := by decide +kernel
theorem dX12_onePart_277 : decode cX12_onePart 277 = .ok (.return_, 1) := by decide +kernel
theorem dX12_goesOn_0 : decode cX12_goesOn 0 = .ok (.aload_n 0, 1) := by decide +kernel
theorem dX12_goesOn_1 : decode cX12_goesOn 1 = .ok (.getfield 236, 3) := by decide +kernel
theorem dX12_goesOn_4 : decode cX12_goesOn 4 = .ok (.ifCond .ne 114, 3) := by decide +kernel
theorem dX12_goesOn_7 : decode cX12_goesOn 7 = .ok (.aload_n 0, 1) := by decide +kernel
theorem dX12_goesOn_8 : decode cX12_goesOn 8 = .ok (.invokevirtual 248, 3) := by decide +kernel
theorem dX12_goesOn_11 : decode cX12_goesOn 11 = .ok (.bipush 41, 2) := by decide +kernel
theorem dX12_goesOn_13 : decode cX12_goesOn 13 = .ok (.if_icmp .ne 105, 3) := by decide +kernel
theorem dX12_goesOn_16 : decode cX12_goesOn 16 = .ok (.aload_n 0, 1) := by decide +kernel
theorem dX12_goesOn_17 : decode cX12_goesOn 17 = .ok (.invokevirtual 374, 3) := by decide +kernel
theorem dX12_goesOn_20 : decode cX12_goesOn 20 = .ok (.bipush 20, 2) := by decide +kernel
theorem dX12_goesOn_22 : decode cX12_goesOn 22 = .ok (.if_icmp .eq 21, 3) := by decide +kernel
theorem dX12_goesOn_25 : decode cX12_goesOn 25 = .ok (.aload_n 0, 1) := by decide +kernel
theorem dX12_goesOn_26 : decode cX12_goesOn 26 = .ok (.invokevirtual 374, 3) := by decide +kernel
theorem dX12_goesOn_29 : decode cX12_goesOn 29 = .ok (.bipush 23, 2) := by decide +kernel
theorem dX12_goesOn_31 : decode cX12_goesOn 31 = .ok (.if_icmp .eq 12, 3) := by decide +kernel
theorem dX12_goesOn_34 : decode cX12_goesOn 34 = .ok (.aload_n 0, 1) := by decide +kernel
theorem dX12_goesOn_35 : decode cX12_goesOn 35 = .ok (.invokevirtual 374, 3) := by decide +kernel
theorem dX12_goesOn_38 : decode cX12_goesOn 38 = .ok (.bipush 24, 2) := by decide +kernel
theorem dX12_goesOn_40 : decode cX12_goesOn 40 = .ok (.if_icmp .ne 78, 3) := by decide +kernel
theorem dX12_goesOn_43 : decode cX12_goesOn 43 = .ok (.aload_n 0, 1) := by decide +kernel
theorem dX12_goesOn_44 : decode cX12_goesOn 44 = .ok (.dup, 1) := by decide +kernel
theorem dX12_goesOn_45 : decode cX12_goesOn 45 = .ok (.getfield 242, 3) := by decide +kernel
theorem dX12_goesOn_48 : decode cX12_goesOn 48 = .ok (.iconst 1, 1) := by decide +kernel
theorem dX12_goesOn_49 : decode cX12_goesOn 49 = .ok (.iadd, 1) := by decide +kernel
theorem dX12_goesOn_50 : decode cX12_goesOn 50 = .ok (.putfield 242, 3) := by decide +kernel
theorem dX12_goesOn_53 : decode cX12_goesOn 53 = .ok (.aload_n 0, 1) := by decide +kernel
theorem dX12_goesOn_54 : decode cX12_goesOn 54 = .ok (.invokevirtual 377, 3) := by decide +kernel
theorem dX12_goesOn_57 : decode cX12_goesOn 57 = .ok (.aload_n 0, 1) := by decide +kernel
theorem dX12_goesOn_58 : decode cX12_goesOn 58 = .ok (.dup, 1) := by decide +kernel
theorem dX12_goesOn_59 : decode cX12_goesOn 59 = .ok (.getfield 316, 3) := by decide +kernel
theorem dX12_goesOn_62 : decode cX12_goesOn 62 = .ok (.iconst 1, 1) := by decide +kernel
theorem dX12_goesOn_63 : decode cX12_goesOn 63 = .ok (.isub, 1) := by decide +kernel
theorem dX12_goesOn_64 : decode cX12_goesOn 64 = .ok (.putfield 316, 3) := by decide +kernel
theorem dX12_goesOn_67 : decode cX12_goesOn 67 = .ok (.aload_n 0, 1) := by decide +kernel
theorem dX12_goesOn_68 : decode cX12_goesOn 68 = .ok (.dup, 1) := by decide +kernel
theorem dX12_goesOn_69 : decode cX12_goesOn 69 = .ok (.getfield 319, 3) := by decide +kernel
theorem dX12_goesOn_72 : decode cX12_goesOn 72 = .ok (.iconst 1, 1) := by decide +kernel
theorem dX12_goesOn_73 : decode cX12_goesOn 73 = .ok (.isub, 1) := by decide +kernel
theorem dX12_goesOn_74 : decode cX12_goesOn 74 = .ok (.putfield 319, 3) := by decide +kernel
theorem dX12_goesOn_77 : decode cX12_goesOn 77 = .ok (.aload_n 0, 1) := by decide +kernel
theorem dX12_goesOn_78 : decode cX12_goesOn 78 = .ok (.getfield 118, 3) := by decide +kernel
theorem dX12_goesOn_81 : decode cX12_goesOn 81 = .ok (.aload_n 0, 1) := by decide +kernel
theorem dX12_goesOn_82 : decode cX12_goesOn 82 = .ok (.getfield 316, 3) := by decide +kernel
theorem dX12_goesOn_85 : decode cX12_goesOn 85 = .ok (.iaload, 1) := by decide +kernel
theorem dX12_goesOn_86 : decode cX12_goesOn 86 = .ok (.bipush 20, 2) := by decide +kernel
theorem dX12_goesOn_88 : decode cX12_goesOn 88 = .ok (.if_icmp .eq (-88), 3) := by decide +kernel
theorem dX12_goesOn_91 : decode cX12_goesOn 91 = .ok (.aload_n 0, 1) := by decide +kernel
theorem dX12_goesOn_92 : decode cX12_goesOn 92 = .ok (.aload_n 0, 1) := by decide +kernel
theorem dX12_goesOn_93 : decode cX12_goesOn 93 = .ok (.getfield 118, 3) := by decide +kernel
theorem dX12_goesOn_96 : decode cX12_goesOn 96 = .ok (.aload_n 0, 1) := by decide +kernel
theorem dX12_goesOn_97 : decode cX12_goesOn 97 = .ok (.getfield 316, 3) := by decide +kernel
theorem dX12_goesOn_100 : decode cX12_goesOn 100 = .ok (.iaload, 1) := by decide +kernel
theorem dX12_goesOn_101 : decode cX12_goesOn 101 = .ok (.bipush 23, 2) := by decide +kernel
theorem dX12_goesOn_103 : decode cX12_goesOn 103 = .ok (.if_icmp .ne 7, 3) := by decide +kernel
theorem dX12_goesOn_106 : decode cX12_goesOn 106 = .ok (.iconst 5, 1) := by decide +kernel
theorem dX12_goesOn_107 : decode cX12_goesOn 107 = .ok (.goto 5, 3) := by decide +kernel
theorem dX12_goesOn_110 : decode cX12_goesOn 110 = .ok (.bipush 6, 2) := by decide +kernel
theorem dX12_goesOn_112 : decode cX12_goesOn 112 = .ok (.invokevirtual 362, 3) := by decide +kernel
theorem dX12_goesOn_115 : decode cX12_goesOn 115 = .ok (.goto (-115), 3) := by decide +kernel
theorem dX12_goesOn_118 : decode cX12_goesOn 118 = .ok (.aload_n 0, 1) := by decide +kernel
theorem dX12_goesOn_119 : decode cX12_goesOn 119 = .ok (.bipush 42, 2) := by decide +kernel
theorem dX12_goesOn_121 : decode cX12_goesOn 121 = .ok (.invokevirtual 270, 3) := by decide +kernel
theorem dX12_goesOn_124 : decode cX12_goesOn 124 = .ok (.ifCond .ne 12, 3) := by decide +kernel
theorem dX12_goesOn_127 : decode cX12_goesOn 127 = .ok (.aload_n 0, 1) := by decide +kernel
theorem dX12_goesOn_128 : decode cX12_goesOn 128 = .ok (.bipush 47, 2) := by decide +kernel
theorem dX12_goesOn_130 : decode cX12_goesOn 130 = .ok (.invokevirtual 270, 3) := by decide +kernel
theorem dX12_goesOn_133 : decode cX12_goesOn 133 = .ok (.ifCond .eq 70, 3) := by decide +kernel
theorem dX12_goesOn_136 : decode cX12_goesOn 136 = .ok (.aload_n 0, 1) := by decide +kernel
theorem dX12_goesOn_137 : decode cX12_goesOn 137 = .ok (.getfield 7, 3) := by decide +kernel
theorem dX12_goesOn_140 : decode cX12_goesOn 140 = .ok (.aload_n 0, 1) := by decide +kernel
theorem dX12_goesOn_141 : decode cX12_goesOn 141 = .ok (.getfield 242, 3) := by decide +kernel
theorem dX12_goesOn_144 : decode cX12_goesOn 144 = .ok (.iconst 1, 1) := by decide +kernel
theorem dX12_goesOn_145 : decode cX12_goesOn 145 = .ok (.isub, 1) := by decide +kernel
theorem dX12_goesOn_146 : decode cX12_goesOn 146 = .ok (.iaload, 1) := by decide +kernel
theorem dX12_goesOn_147 : decode cX12_goesOn 147 = .ok (.bipush 42, 2) := by decide +kernel
theorem dX12_goesOn_149 : decode cX12_goesOn 149 = .ok (.if_icmp .ne 7, 3) := by decide +kernel
theorem dX12_goesOn_152 : decode cX12_goesOn 152 = .ok (.iconst 3, 1) := by decide +kernel
theorem dX12_goesOn_153 : decode cX12_goesOn 153 = .ok (.goto 4, 3) := by decide +kernel
theorem dX12_goesOn_156 : decode cX12_goesOn 156 = .ok (.iconst 4, 1) := by decide +kernel
theorem dX12_goesOn_157 : decode cX12_goesOn 157 = .ok (.istore_n 1, 1) := by decide +kernel
theorem dX12_goesOn_158 : decode cX12_goesOn 158 = .ok (.aload_n 0, 1) := by decide +kernel
theorem dX12_goesOn_159 : decode cX12_goesOn 159 = .ok (.iconst 3, 1) := by decide +kernel
theorem dX12_goesOn_160 : decode cX12_goesOn 160 = .ok (.invokevirtual 380, 3) := by decide +kernel
theorem dX12_goesOn_163 : decode cX12_goesOn 163 = .ok (.ifCond .ne 11, 3) := by decide +kernel
theorem dX12_goesOn_166 : decode cX12_goesOn 166 = .ok (.aload_n 0, 1) := by decide +kernel
theorem dX12_goesOn_167 : decode cX12_goesOn 167 = .ok (.iconst 4, 1) := by decide +kernel
theorem dX12_goesOn_168 : decode cX12_goesOn 168 = .ok (.invokevirtual 380, 3) := by decide +kernel
theorem dX12_goesOn_171 : decode cX12_goesOn 171 = .ok (.ifCond .eq 10, 3) := by decide +kernel
theorem dX12_goesOn_174 : decode cX12_goesOn 174 = .ok (.aload_n 0, 1) := by decide +kernel
theorem dX12_goesOn_175 : decode cX12_goesOn 175 = .ok (.invokevirtual 368, 3) := by decide +kernel
theorem dX12_goesOn_178 : decode cX12_goesOn 178 = .ok (.goto (-20), 3) := by decide +kernel
theorem dX12_goesOn_181 : decode cX12_goesOn 181 = .ok (.aload_n 0, 1) := by decide +kernel
theorem dX12_goesOn_182 : decode cX12_goesOn 182 = .ok (.getfield 118, 3) := by decide +kernel
theorem dX12_goesOn_185 : decode cX12_goesOn 185 = .ok (.aload_n 0, 1) := by decide +kernel
theorem dX12_goesOn_186 : decode cX12_goesOn 186 = .ok (.getfield 316, 3) := by decide +kernel
theorem dX12_goesOn_189 : decode cX12_goesOn 189 = .ok (.iload_n 1, 1) := by decide +kernel
theorem dX12_goesOn_190 : decode cX12_goesOn 190 = .ok (.iastore, 1) := by decide +kernel
theorem dX12_goesOn_191 : decode cX12_goesOn 191 = .ok (.aload_n 0, 1) := by decide +kernel
theorem dX12_goesOn_192 : decode cX12_goesOn 192 = .ok (.dup, 1) := by decide +kernel
theorem dX12_goesOn_193 : decode cX12_goesOn 193 = .ok (.getfield 316, 3) := by decide +kernel
theorem dX12_goesOn_196 : decode cX12_goesOn 196 = .ok (.iconst 1, 1) := by decide +kernel
theorem dX12_goesOn_197 : decode cX12_goesOn 197 = .ok (.iadd, 1) := by decide +kernel
theorem dX12_goesOn_198 : decode cX12_goesOn 198 = .ok (.putfield 316, 3) := by decide +kernel
theorem dX12_goesOn_201 : decode cX12_goesOn 201 = .ok (.iconst 1, 1) := by decide +kernel
theorem dX12_goesOn_202 : decode cX12_goesOn 202 = .ok (.ireturn, 1) := by decide +kernel
theorem dX12_goesOn_203 : decode cX12_goesOn 203 = .ok (.aload_n 0, 1) := by decide +kernel
theorem dX12_goesOn_204 : decode cX12_goesOn 204 = .ok (.bipush 43, 2) := by decide +kernel
theorem dX12_goesOn_206 : decode cX12_goesOn 206 = .ok (.invokevirtual 270, 3) := by decide +kernel
theorem dX12_goesOn_209 : decode cX12_goesOn 209 = .ok (.ifCond .ne 12, 3) := by decide +kernel
theorem dX12_goesOn_212 : decode cX12_goesOn 212 = .ok (.aload_n 0, 1) := by decide +kernel
theorem dX12_goesOn_213 : decode cX12_goesOn 213 = .ok (.bipush 45, 2) := by decide +kernel
theorem dX12_goesOn_215 : decode cX12_goesOn 215 = .ok (.invokevirtual 270, 3) := by decide +kernel
theorem dX12_goesOn_218 : decode cX12_goesOn 218 = .ok (.ifCond .eq 86, 3) := by decide +kernel
theorem dX12_goesOn_221 : decode cX12_goesOn 221 = .ok (.aload_n 0, 1) := by decide +kernel
theorem dX12_goesOn_222 : decode cX12_goesOn 222 = .ok (.getfield 7, 3) := by decide +kernel
theorem dX12_goesOn_225 : decode cX12_goesOn 225 = .ok (.aload_n 0, 1) := by decide +kernel
theorem dX12_goesOn_226 : decode cX12_goesOn 226 = .ok (.getfield 242, 3) := by decide +kernel
theorem dX12_goesOn_229 : decode cX12_goesOn 229 = .ok (.iconst 1, 1) := by decide +kernel
theorem dX12_goesOn_230 : decode cX12_goesOn 230 = .ok (.isub, 1) := by decide +kernel
theorem dX12_goesOn_231 : decode cX12_goesOn 231 = .ok (.iaload, 1) := by decide +kernel
theorem dX12_goesOn_232 : decode cX12_goesOn 232 = .ok (.bipush 43, 2) := by decide +kernel
theorem dX12_goesOn_234 : decode cX12_goesOn 234 = .ok (.if_icmp .ne 7, 3) := by decide +kernel
theorem dX12_goesOn_237 : decode cX12_goesOn 237 = .ok (.iconst 1, 1) := by decide +kernel
theorem dX12_goesOn_238 : decode cX12_goesOn 238 = .ok (.goto 4, 3) := by decide +kernel
theorem dX12_goesOn_241 : decode cX12_goesOn 241 = .ok (.iconst 2, 1) := by decide +kernel
theorem dX12_goesOn_242 : decode cX12_goesOn 242 = .ok (.istore_n 1, 1) := by decide +kernel
theorem dX12_goesOn_243 : decode cX12_goesOn 243 = .ok (.aload_n 0, 1) := by decide +kernel
theorem dX12_goesOn_244 : decode cX12_goesOn 244 = .ok (.iconst 3, 1) := by decide +kernel
theorem dX12_goesOn_245 : decode cX12_goesOn 245 = .ok (.invokevirtual 380, 3) := by decide +kernel
theorem dX12_goesOn_248 : decode cX12_goesOn 248 = .ok (.ifCond .ne 27, 3) := by decide +kernel
theorem dX12_goesOn_251 : decode cX12_goesOn 251 = .ok (.aload_n 0, 1) := by decide +kernel
theorem dX12_goesOn_252 : decode cX12_goesOn 252 = .ok (.iconst 4, 1) := by decide +kernel
theorem dX12_goesOn_253 : decode cX12_goesOn 253 = .ok (.invokevirtual 380, 3) := by decide +kernel
theorem dX12_goesOn_256 : decode cX12_goesOn 256 = .ok (.ifCond .ne 19, 3) := by decide +kernel
theorem dX12_goesOn_259 : decode cX12_goesOn 259 = .ok (.aload_n 0, 1) := by decide +kernel
theorem dX12_goesOn_260 : decode cX12_goesOn 260 = .ok (.iconst 1, 1) := by decide +kernel
theorem dX12_goesOn_261 : decode cX12_goesOn 261 = .ok (.invokevirtual 380, 3) := by decide +kernel
theorem dX12_goesOn_264 : decode cX12_goesOn 264 = .ok (.ifCond .ne 11, 3) := by decide +kernel
theorem dX12_goesOn_267 : decode cX12_goesOn 267 = .ok (.aload_n 0, 1) := by decide +kernel
theorem dX12_goesOn_268 : decode cX12_goesOn 268 = .ok (.iconst 2, 1) := by decide +kernel
theorem dX12_goesOn_269 : decode cX12_goesOn 269 = .ok (.invokevirtual 380, 3) := by decide +kernel
theorem dX12_goesOn_272 : decode cX12_goesOn 272 = .ok (.ifCond .eq 10, 3) := by decide +kernel
theorem dX12_goesOn_275 : decode cX12_goesOn 275 = .ok (.aload_n 0, 1) := by decide +kernel
theorem dX12_goesOn_276 : decode cX12_goesOn 276 = .ok (.invokevirtual 368, 3) := by decide +kernel
theorem dX12_goesOn_279 : decode cX12_goesOn 279 = .ok (.goto (-36), 3) := by decide +kernel
theorem dX12_goesOn_282 : decode cX12_goesOn 282 = .ok (.aload_n 0, 1) := by decide +kernel
theorem dX12_goesOn_283 : decode cX12_goesOn 283 = .ok (.getfield 118, 3) := by decide +kernel
theorem dX12_goesOn_286 : decode cX12_goesOn 286 = .ok (.aload_n 0, 1) := by decide +kernel
theorem dX12_goesOn_287 : decode cX12_goesOn 287 = .ok (.getfield 316, 3) := by decide +kernel
theorem dX12_goesOn_290 : decode cX12_goesOn 290 = .ok (.iload_n 1, 1) := by decide +kernel
theorem dX12_goesOn_291 : decode cX12_goesOn 291 = .ok (.iastore, 1) := by decide +kernel
theorem dX12_goesOn_292 : decode cX12_goesOn 292 = .ok (.aload_n 0, 1) := by decide +kernel
theorem dX12_goesOn_293 : decode cX12_goesOn 293 = .ok (.dup, 1) := by decide +kernel
theorem dX12_goesOn_294 : decode cX12_goesOn 294 = .ok (.getfield 316, 3) := by decide +kernel
theorem dX12_goesOn_297 : decode cX12_goesOn 297 = .ok (.iconst 1, 1) := by decide +kernel
theorem dX12_goesOn_298 : decode cX12_goesOn 298 = .ok (.iadd, 1) := by decide +kernel
theorem dX12_goesOn_299 : decode cX12_goesOn 299 = .ok (.putfield 316, 3) := by decide +kernel
theorem dX12_goesOn_302 : decode cX12_goesOn 302 = .ok (.iconst 1, 1) := by decide +kernel
theorem dX12_goesOn_303 : decode cX12_goesOn 303 = .ok (.ireturn, 1) := by decide +kernel
theorem dX12_goesOn_304 : decode cX12_goesOn 304 = .ok (.aload_n 0, 1) := by decide +kernel
theorem dX12_goesOn_305 : decode cX12_goesOn 305 = .ok (.invokevirtual 374, 3) := by decide +kernel
theorem dX12_goesOn_308 : decode cX12_goesOn 308 = .ok (.bipush 21, 2) := by decide +kernel
theorem dX12_goesOn_310 : decode cX12_goesOn 310 = .ok (.if_icmp .eq 12, 3) := by decide +kernel
theorem dX12_goesOn_313 : decode cX12_goesOn 313 = .ok (.aload_n 0, 1) := by decide +kernel
theorem dX12_goesOn_314 : decode cX12_goesOn 314 = .ok (.invokevirtual 374, 3) := by decide +kernel
theorem dX12_goesOn_317 : decode cX12_goesOn 317 = .ok (.bipush 22, 2) := by decide +kernel
theorem dX12_goesOn_319 : decode cX12_goesOn 319 = .ok (.if_icmp .ne 39, 3) := by decide +kernel
theorem dX12_goesOn_322 : decode cX12_goesOn 322 = .ok (.aload_n 0, 1) := by decide +kernel
theorem dX12_goesOn_323 : decode cX12_goesOn 323 = .ok (.bipush 44, 2) := by decide +kernel
theorem dX12_goesOn_325 : decode cX12_goesOn 325 = .ok (.invokevirtual 347, 3) := by decide +kernel
theorem dX12_goesOn_328 : decode cX12_goesOn 328 = .ok (.aload_n 0, 1) := by decide +kernel
theorem dX12_goesOn_329 : decode cX12_goesOn 329 = .ok (.getfield 236, 3) := by decide +kernel
theorem dX12_goesOn_332 : decode cX12_goesOn 332 = .ok (.ifCond .eq 5, 3) := by decide +kernel
theorem dX12_goesOn_335 : decode cX12_goesOn 335 = .ok (.iconst 0, 1) := by decide +kernel
theorem dX12_goesOn_336 : decode cX12_goesOn 336 = .ok (.ireturn, 1) := by decide +kernel
theorem dX12_goesOn_337 : decode cX12_goesOn 337 = .ok (.aload_n 0, 1) := by decide +kernel
theorem dX12_goesOn_338 : decode cX12_goesOn 338 = .ok (.invokevirtual 377, 3) := by decide +kernel
theorem dX12_goesOn_341 : decode cX12_goesOn 341 = .ok (.aload_n 0, 1) := by decide +kernel
theorem dX12_goesOn_342 : decode cX12_goesOn 342 = .ok (.getfield 118, 3) := by decide +kernel
theorem dX12_goesOn_345 : decode cX12_goesOn 345 = .ok (.aload_n 0, 1) := by decide +kernel
theorem dX12_goesOn_346 : decode cX12_goesOn 346 = .ok (.getfield 316, 3) := by decide +kernel
theorem dX12_goesOn_349 : decode cX12_goesOn 349 = .ok (.iconst 1, 1) := by decide +kernel
theorem dX12_goesOn_350 : decode cX12_goesOn 350 = .ok (.isub, 1) := by decide +kernel
theorem dX12_goesOn_351 : decode cX12_goesOn 351 = .ok (.dup2, 1) := by decide +kernel
theorem dX12_goesOn_352 : decode cX12_goesOn 352 = .ok (.iaload, 1) := by decide +kernel
theorem dX12_goesOn_353 : decode cX12_goesOn 353 = .ok (.iconst 2, 1) := by decide +kernel
theorem dX12_goesOn_354 : decode cX12_goesOn 354 = .ok (.iadd, 1) := by decide +kernel
theorem dX12_goesOn_355 : decode cX12_goesOn 355 = .ok (.iastore, 1) := by decide +kernel
theorem dX12_goesOn_356 : decode cX12_goesOn 356 = .ok (.iconst 1, 1) := by decide +kernel
theorem dX12_goesOn_357 : decode cX12_goesOn 357 = .ok (.ireturn, 1) := by decide +kernel
theorem dX12_goesOn_358 : decode cX12_goesOn 358 = .ok (.aload_n 0, 1) := by decide +kernel
theorem dX12_goesOn_359 : decode cX12_goesOn 359 = .ok (.invokevirtual 374, 3) := by decide +kernel
theorem dX12_goesOn_362 : decode cX12_goesOn 362 = .ok (.iconst (-1), 1) := by decide +kernel
theorem dX12_goesOn_363 : decode cX12_goesOn 363 = .ok (.if_icmp .eq 19, 3) := by decide +kernel
theorem dX12_goesOn_366 : decode cX12_goesOn 366 = .ok (.aload_n 0, 1) := by decide +kernel
theorem dX12_goesOn_367 : decode cX12_goesOn 367 = .ok (.getfield 236, 3) := by decide +kernel
theorem dX12_goesOn_370 : decode cX12_goesOn 370 = .ok (.ifCond .ne 12, 3) := by decide +kernel
theorem dX12_goesOn_373 : decode cX12_goesOn 373 = .ok (.aload_n 0, 1) := by decide +kernel
theorem dX12_goesOn_374 : decode cX12_goesOn 374 = .ok (.iconst 1, 1) := by decide +kernel
theorem dX12_goesOn_375 : decode cX12_goesOn 375 = .ok (.aload_n 0, 1) := by decide +kernel
theorem dX12_goesOn_376 : decode cX12_goesOn 376 = .ok (.getfield 242, 3) := by decide +kernel
theorem dX12_goesOn_379 : decode cX12_goesOn 379 = .ok (.invokevirtual 266, 3) := by decide +kernel
theorem dX12_goesOn_382 : decode cX12_goesOn 382 = .ok (.iconst 0, 1) := by decide +kernel
theorem dX12_goesOn_383 : decode cX12_goesOn 383 = .ok (.ireturn, 1) := by decide +kernel
theorem dX12_sumsTold_0 : decode cX12_sumsTold 0 = .ok (.aload_n 0, 1) := by decide +kernel
theorem dX12_sumsTold_1 : decode cX12_sumsTold 1 = .ok (.getfield 322, 3) := by decide +kernel
theorem dX12_sumsTold_4 : decode cX12_sumsTold 4 = .ok (.istore_n 1, 1) := by decide +kernel
theorem dX12_sumsTold_5 : decode cX12_sumsTold 5 = .ok (.aload_n 0, 1) := by decide +kernel
theorem dX12_sumsTold_6 : decode cX12_sumsTold 6 = .ok (.aload_n 0, 1) := by decide +kernel
theorem dX12_sumsTold_7 : decode cX12_sumsTold 7 = .ok (.getfield 316, 3) := by decide +kernel
theorem dX12_sumsTold_10 : decode cX12_sumsTold 10 = .ok (.putfield 322, 3) := by decide +kernel
theorem dX12_sumsTold_13 : decode cX12_sumsTold 13 = .ok (.iconst 1, 1) := by decide +kernel
theorem dX12_sumsTold_14 : decode cX12_sumsTold 14 = .ok (.istore_n 2, 1) := by decide +kernel
theorem dX12_sumsTold_15 : decode cX12_sumsTold 15 = .ok (.iload_n 2, 1) := by decide +kernel
theorem dX12_sumsTold_16 : decode cX12_sumsTold 16 = .ok (.ifCond .eq 37, 3) := by decide +kernel
theorem dX12_sumsTold_19 : decode cX12_sumsTold 19 = .ok (.aload_n 0, 1) := by decide +kernel
theorem dX12_sumsTold_20 : decode cX12_sumsTold 20 = .ok (.getfield 236, 3) := by decide +kernel
theorem dX12_sumsTold_23 : decode cX12_sumsTold 23 = .ok (.ifCond .ne 30, 3) := by decide +kernel
theorem dX12_sumsTold_26 : decode cX12_sumsTold 26 = .ok (.aload_n 0, 1) := by decide +kernel
theorem dX12_sumsTold_27 : decode cX12_sumsTold 27 = .ok (.invokevirtual 383, 3) := by decide +kernel
theorem dX12_sumsTold_30 : decode cX12_sumsTold 30 = .ok (.aload_n 0, 1) := by decide +kernel
theorem dX12_sumsTold_31 : decode cX12_sumsTold 31 = .ok (.getfield 236, 3) := by decide +kernel
theorem dX12_sumsTold_34 : decode cX12_sumsTold 34 = .ok (.ifCond .ne 14, 3) := by decide +kernel
theorem dX12_sumsTold_37 : decode cX12_sumsTold 37 = .ok (.aload_n 0, 1) := by decide +kernel
theorem dX12_sumsTold_38 : decode cX12_sumsTold 38 = .ok (.invokevirtual 386, 3) := by decide +kernel
theorem dX12_sumsTold_41 : decode cX12_sumsTold 41 = .ok (.ifCond .eq 7, 3) := by decide +kernel
theorem dX12_sumsTold_44 : decode cX12_sumsTold 44 = .ok (.iconst 1, 1) := by decide +kernel
theorem dX12_sumsTold_45 : decode cX12_sumsTold 45 = .ok (.goto 4, 3) := by decide +kernel
theorem dX12_sumsTold_48 : decode cX12_sumsTold 48 = .ok (.iconst 0, 1) := by decide +kernel
theorem dX12_sumsTold_49 : decode cX12_sumsTold 49 = .ok (.istore_n 2, 1) := by decide +kernel
theorem dX12_sumsTold_50 : decode cX12_sumsTold 50 = .ok (.goto (-35), 3) := by decide +kernel
theorem dX12_sumsTold_53 : decode cX12_sumsTold 53 = .ok (.aload_n 0, 1) := by decide +kernel
theorem dX12_sumsTold_54 : decode cX12_sumsTold 54 = .ok (.getfield 236, 3) := by decide +kernel
theorem dX12_sumsTold_57 : decode cX12_sumsTold 57 = .ok (.ifCond .ne 21, 3) := by decide +kernel
theorem dX12_sumsTold_60 : decode cX12_sumsTold 60 = .ok (.aload_n 0, 1) := by decide +kernel
theorem dX12_sumsTold_61 : decode cX12_sumsTold 61 = .ok (.getfield 316, 3) := by decide +kernel
theorem dX12_sumsTold_64 : decode cX12_sumsTold 64 = .ok (.aload_n 0, 1) := by decide +kernel
theorem dX12_sumsTold_65 : decode cX12_sumsTold 65 = .ok (.getfield 322, 3) := by decide +kernel
theorem dX12_sumsTold_68 : decode cX12_sumsTold 68 = .ok (.if_icmp .le 10, 3) := by decide +kernel
theorem dX12_sumsTold_71 : decode cX12_sumsTold 71 = .ok (.aload_n 0, 1) := by decide +kernel
theorem dX12_sumsTold_72 : decode cX12_sumsTold 72 = .ok (.invokevirtual 368, 3) := by decide +kernel
theorem dX12_sumsTold_75 : decode cX12_sumsTold 75 = .ok (.goto (-22), 3) := by decide +kernel
theorem dX12_sumsTold_78 : decode cX12_sumsTold 78 = .ok (.aload_n 0, 1) := by decide +kernel
theorem dX12_sumsTold_79 : decode cX12_sumsTold 79 = .ok (.iload_n 1, 1) := by decide +kernel
theorem dX12_sumsTold_80 : decode cX12_sumsTold 80 = .ok (.putfield 322, 3) := by decide +kernel
theorem dX12_sumsTold_83 : decode cX12_sumsTold 83 = .ok (.return_, 1) := by decide +kernel
theorem dX12_fault_0 : decode cX12_fault 0 = .ok (.iload_n 1, 1) := by decide +kernel
theorem dX12_fault_1 : decode cX12_fault 1 = .ok (.ifCond .ne 10, 3) := by decide +kernel
theorem dX12_fault_4 : decode cX12_fault 4 = .ok (.aload_n 0, 1) := by decide +kernel
theorem dX12_fault_5 : decode cX12_fault 5 = .ok (.getfield 353, 3) := by decide +kernel
theorem dX12_fault_8 : decode cX12_fault 8 = .ok (.goto 16, 3) := by decide +kernel
theorem dX12_fault_11 : decode cX12_fault 11 = .ok (.iload_n 1, 1) := by decide +kernel
theorem dX12_fault_12 : decode cX12_fault 12 = .ok (.iconst 1, 1) := by decide +kernel
theorem dX12_fault_13 : decode cX12_fault 13 = .ok (.if_icmp .ne 10, 3) := by decide +kernel
theorem dX12_fault_16 : decode cX12_fault 16 = .ok (.aload_n 0, 1) := by decide +kernel
theorem dX12_fault_17 : decode cX12_fault 17 = .ok (.getfield 13, 3) := by decide +kernel
theorem dX12_fault_20 : decode cX12_fault 20 = .ok (.goto 4, 3) := by decide +kernel
theorem dX12_fault_23 : decode cX12_fault 23 = .ok (.iconst (-1), 1) := by decide +kernel
theorem dX12_fault_24 : decode cX12_fault 24 = .ok (.ireturn, 1) := by decide +kernel
theorem dX12_clip_0 : decode cX12_clip 0 = .ok (.lload_n 0, 1) := by decide +kernel
theorem dX12_clip_1 : decode cX12_clip 1 = .ok (.ldc2_w 389, 3) := by decide +kernel
theorem dX12_clip_4 : decode cX12_clip 4 = .ok (.lcmp, 1) := by decide +kernel
theorem dX12_clip_5 : decode cX12_clip 5 = .ok (.ifCond .le 9, 3) := by decide +kernel
theorem dX12_clip_8 : decode cX12_clip 8 = .ok (.ldc2_w 389, 3) := by decide +kernel
theorem dX12_clip_11 : decode cX12_clip 11 = .ok (.goto 18, 3) := by decide +kernel
theorem dX12_clip_14 : decode cX12_clip 14 = .ok (.lload_n 0, 1) := by decide +kernel
theorem dX12_clip_15 : decode cX12_clip 15 = .ok (.ldc2_w 391, 3) := by decide +kernel
theorem dX12_clip_18 : decode cX12_clip 18 = .ok (.lcmp, 1) := by decide +kernel
theorem dX12_clip_19 : decode cX12_clip 19 = .ok (.ifCond .ge 9, 3) := by decide +kernel
theorem dX12_clip_22 : decode cX12_clip 22 = .ok (.ldc2_w 391, 3) := by decide +kernel
theorem dX12_clip_25 : decode cX12_clip 25 = .ok (.goto 4, 3) := by decide +kernel
theorem dX12_clip_28 : decode cX12_clip 28 = .ok (.lload_n 0, 1) := by decide +kernel
theorem dX12_clip_29 : decode cX12_clip 29 = .ok (.lreturn, 1) := by decide +kernel
theorem dX12_floor_0 : decode cX12_floor 0 = .ok (.lload_n 2, 1) := by decide +kernel
theorem dX12_floor_1 : decode cX12_floor 1 = .ok (.lconst 0, 1) := by decide +kernel
theorem dX12_floor_2 : decode cX12_floor 2 = .ok (.lcmp, 1) := by decide +kernel
theorem dX12_floor_3 : decode cX12_floor 3 = .ok (.ifCond .ne 5, 3) := by decide +kernel
theorem dX12_floor_6 : decode cX12_floor 6 = .ok (.lconst 0, 1) := by decide +kernel
theorem dX12_floor_7 : decode cX12_floor 7 = .ok (.lreturn, 1) := by decide +kernel
theorem dX12_floor_8 : decode cX12_floor 8 = .ok (.lload_n 0, 1) := by decide +kernel
theorem dX12_floor_9 : decode cX12_floor 9 = .ok (.lload_n 2, 1) := by decide +kernel
theorem dX12_floor_10 : decode cX12_floor 10 = .ok (.ldiv, 1) := by decide +kernel
theorem dX12_floor_11 : decode cX12_floor 11 = .ok (.lstore 4, 2) := by decide +kernel
theorem dX12_floor_13 : decode cX12_floor 13 = .ok (.lload_n 0, 1) := by decide +kernel
theorem dX12_floor_14 : decode cX12_floor 14 = .ok (.lload_n 2, 1) := by decide +kernel
theorem dX12_floor_15 : decode cX12_floor 15 = .ok (.lrem, 1) := by decide +kernel
theorem dX12_floor_16 : decode cX12_floor 16 = .ok (.lconst 0, 1) := by decide +kernel
theorem dX12_floor_17 : decode cX12_floor 17 = .ok (.lcmp, 1) := by decide +kernel
theorem dX12_floor_18 : decode cX12_floor 18 = .ok (.ifCond .eq 35, 3) := by decide +kernel
theorem dX12_floor_21 : decode cX12_floor 21 = .ok (.lload_n 0, 1) := by decide +kernel
theorem dX12_floor_22 : decode cX12_floor 22 = .ok (.lconst 0, 1) := by decide +kernel
theorem dX12_floor_23 : decode cX12_floor 23 = .ok (.lcmp, 1) := by decide +kernel
theorem dX12_floor_24 : decode cX12_floor 24 = .ok (.ifCond .ge 7, 3) := by decide +kernel
theorem dX12_floor_27 : decode cX12_floor 27 = .ok (.iconst 1, 1) := by decide +kernel
theorem dX12_floor_28 : decode cX12_floor 28 = .ok (.goto 4, 3) := by decide +kernel
theorem dX12_floor_31 : decode cX12_floor 31 = .ok (.iconst 0, 1) := by decide +kernel
theorem dX12_floor_32 : decode cX12_floor 32 = .ok (.lload_n 2, 1) := by decide +kernel
theorem dX12_floor_33 : decode cX12_floor 33 = .ok (.lconst 0, 1) := by decide +kernel
theorem dX12_floor_34 : decode cX12_floor 34 = .ok (.lcmp, 1) := by decide +kernel
theorem dX12_floor_35 : decode cX12_floor 35 = .ok (.ifCond .ge 7, 3) := by decide +kernel
theorem dX12_floor_38 : decode cX12_floor 38 = .ok (.iconst 1, 1) := by decide +kernel
theorem dX12_floor_39 : decode cX12_floor 39 = .ok (.goto 4, 3) := by decide +kernel
theorem dX12_floor_42 : decode cX12_floor 42 = .ok (.iconst 0, 1) := by decide +kernel
theorem dX12_floor_43 : decode cX12_floor 43 = .ok (.if_icmp .eq 10, 3) := by decide +kernel
theorem dX12_floor_46 : decode cX12_floor 46 = .ok (.lload 4, 2) := by decide +kernel
theorem dX12_floor_48 : decode cX12_floor 48 = .ok (.lconst 1, 1) := by decide +kernel
theorem dX12_floor_49 : decode cX12_floor 49 = .ok (.lsub, 1) := by decide +kernel
theorem dX12_floor_50 : decode cX12_floor 50 = .ok (.goto 5, 3) := by decide +kernel
theorem dX12_floor_53 : decode cX12_floor 53 = .ok (.lload 4, 2) := by decide +kernel
theorem dX12_floor_55 : decode cX12_floor 55 = .ok (.lreturn, 1) := by decide +kernel
theorem dX12_puts_0 : decode cX12_puts 0 = .ok (.aload_n 0, 1) := by decide +kernel
theorem dX12_puts_1 : decode cX12_puts 1 = .ok (.getfield 121, 3) := by decide +kernel
theorem dX12_puts_4 : decode cX12_puts 4 = .ok (.aload_n 0, 1) := by decide +kernel
theorem dX12_puts_5 : decode cX12_puts 5 = .ok (.getfield 393, 3) := by decide +kernel
theorem dX12_puts_8 : decode cX12_puts 8 = .ok (.lload_n 1, 1) := by decide +kernel
theorem dX12_puts_9 : decode cX12_puts 9 = .ok (.lastore, 1) := by decide +kernel
theorem dX12_puts_10 : decode cX12_puts 10 = .ok (.aload_n 0, 1) := by decide +kernel
theorem dX12_puts_11 : decode cX12_puts 11 = .ok (.dup, 1) := by decide +kernel
theorem dX12_puts_12 : decode cX12_puts 12 = .ok (.getfield 393, 3) := by decide +kernel
theorem dX12_puts_15 : decode cX12_puts 15 = .ok (.iconst 1, 1) := by decide +kernel
theorem dX12_puts_16 : decode cX12_puts 16 = .ok (.iadd, 1) := by decide +kernel
theorem dX12_puts_17 : decode cX12_puts 17 = .ok (.putfield 393, 3) := by decide +kernel
theorem dX12_puts_20 : decode cX12_puts 20 = .ok (.return_, 1) := by decide +kernel
theorem dX12_joins_0 : decode cX12_joins 0 = .ok (.aload_n 0, 1) := by decide +kernel
theorem dX12_joins_1 : decode cX12_joins 1 = .ok (.getfield 121, 3) := by decide +kernel
theorem dX12_joins_4 : decode cX12_joins 4 = .ok (.aload_n 0, 1) := by decide +kernel
theorem dX12_joins_5 : decode cX12_joins 5 = .ok (.getfield 393, 3) := by decide +kernel
theorem dX12_joins_8 : decode cX12_joins 8 = .ok (.iconst 1, 1) := by decide +kernel
theorem dX12_joins_9 : decode cX12_joins 9 = .ok (.isub, 1) := by decide +kernel
theorem dX12_joins_10 : decode cX12_joins 10 = .ok (.laload, 1) := by decide +kernel
theorem dX12_joins_11 : decode cX12_joins 11 = .ok (.lstore_n 2, 1) := by decide +kernel
theorem dX12_joins_12 : decode cX12_joins 12 = .ok (.aload_n 0, 1) := by decide +kernel
theorem dX12_joins_13 : decode cX12_joins 13 = .ok (.getfield 121, 3) := by decide +kernel
theorem dX12_joins_16 : decode cX12_joins 16 = .ok (.aload_n 0, 1) := by decide +kernel
theorem dX12_joins_17 : decode cX12_joins 17 = .ok (.getfield 393, 3) := by decide +kernel
theorem dX12_joins_20 : decode cX12_joins 20 = .ok (.iconst 2, 1) := by decide +kernel
theorem dX12_joins_21 : decode cX12_joins 21 = .ok (.isub, 1) := by decide +kernel
theorem dX12_joins_22 : decode cX12_joins 22 = .ok (.laload, 1) := by decide +kernel
theorem dX12_joins_23 : decode cX12_joins 23 = .ok (.lstore 4, 2) := by decide +kernel
theorem dX12_joins_25 : decode cX12_joins 25 = .ok (.aload_n 0, 1) := by decide +kernel
theorem dX12_joins_26 : decode cX12_joins 26 = .ok (.dup, 1) := by decide +kernel
theorem dX12_joins_27 : decode cX12_joins 27 = .ok (.getfield 393, 3) := by decide +kernel
theorem dX12_joins_30 : decode cX12_joins 30 = .ok (.iconst 2, 1) := by decide +kernel
theorem dX12_joins_31 : decode cX12_joins 31 = .ok (.isub, 1) := by decide +kernel
theorem dX12_joins_32 : decode cX12_joins 32 = .ok (.putfield 393, 3) := by decide +kernel
theorem dX12_joins_35 : decode cX12_joins 35 = .ok (.iload_n 1, 1) := by decide +kernel
theorem dX12_joins_36 : decode cX12_joins 36 = .ok (.tableswitch 111 1 5 #[36, 50, 64, 78, 91], 36) := by decide +kernel
theorem dX12_joins_72 : decode cX12_joins 72 = .ok (.aload_n 0, 1) := by decide +kernel
theorem dX12_joins_73 : decode cX12_joins 73 = .ok (.lload 4, 2) := by decide +kernel
theorem dX12_joins_75 : decode cX12_joins 75 = .ok (.lload_n 2, 1) := by decide +kernel
theorem dX12_joins_76 : decode cX12_joins 76 = .ok (.ladd, 1) := by decide +kernel
theorem dX12_joins_77 : decode cX12_joins 77 = .ok (.invokestatic 396, 3) := by decide +kernel
theorem dX12_joins_80 : decode cX12_joins 80 = .ok (.invokevirtual 400, 3) := by decide +kernel
theorem dX12_joins_83 : decode cX12_joins 83 = .ok (.goto 81, 3) := by decide +kernel
theorem dX12_joins_86 : decode cX12_joins 86 = .ok (.aload_n 0, 1) := by decide +kernel
theorem dX12_joins_87 : decode cX12_joins 87 = .ok (.lload 4, 2) := by decide +kernel
theorem dX12_joins_89 : decode cX12_joins 89 = .ok (.lload_n 2, 1) := by decide +kernel
theorem dX12_joins_90 : decode cX12_joins 90 = .ok (.lsub, 1) := by decide +kernel
theorem dX12_joins_91 : decode cX12_joins 91 = .ok (.invokestatic 396, 3) := by decide +kernel
theorem dX12_joins_94 : decode cX12_joins 94 = .ok (.invokevirtual 400, 3) := by decide +kernel
theorem dX12_joins_97 : decode cX12_joins 97 = .ok (.goto 67, 3) := by decide +kernel
theorem dX12_joins_100 : decode cX12_joins 100 = .ok (.aload_n 0, 1) := by decide +kernel
theorem dX12_joins_101 : decode cX12_joins 101 = .ok (.lload 4, 2) := by decide +kernel
theorem dX12_joins_103 : decode cX12_joins 103 = .ok (.lload_n 2, 1) := by decide +kernel
theorem dX12_joins_104 : decode cX12_joins 104 = .ok (.lmul, 1) := by decide +kernel
theorem dX12_joins_105 : decode cX12_joins 105 = .ok (.invokestatic 396, 3) := by decide +kernel
theorem dX12_joins_108 : decode cX12_joins 108 = .ok (.invokevirtual 400, 3) := by decide +kernel
theorem dX12_joins_111 : decode cX12_joins 111 = .ok (.goto 53, 3) := by decide +kernel
theorem dX12_joins_114 : decode cX12_joins 114 = .ok (.aload_n 0, 1) := by decide +kernel
theorem dX12_joins_115 : decode cX12_joins 115 = .ok (.lload 4, 2) := by decide +kernel
theorem dX12_joins_117 : decode cX12_joins 117 = .ok (.lload_n 2, 1) := by decide +kernel
theorem dX12_joins_118 : decode cX12_joins 118 = .ok (.invokestatic 404, 3) := by decide +kernel
theorem dX12_joins_121 : decode cX12_joins 121 = .ok (.invokevirtual 400, 3) := by decide +kernel
theorem dX12_joins_124 : decode cX12_joins 124 = .ok (.goto 40, 3) := by decide +kernel
theorem dX12_joins_127 : decode cX12_joins 127 = .ok (.aload_n 0, 1) := by decide +kernel
theorem dX12_joins_128 : decode cX12_joins 128 = .ok (.lload 4, 2) := by decide +kernel
theorem dX12_joins_130 : decode cX12_joins 130 = .ok (.lload_n 2, 1) := by decide +kernel
theorem dX12_joins_131 : decode cX12_joins 131 = .ok (.lcmp, 1) := by decide +kernel
theorem dX12_joins_132 : decode cX12_joins 132 = .ok (.ifCond .ge 8, 3) := by decide +kernel
theorem dX12_joins_135 : decode cX12_joins 135 = .ok (.lload 4, 2) := by decide +kernel
theorem dX12_joins_137 : decode cX12_joins 137 = .ok (.goto 4, 3) := by decide +kernel
theorem dX12_joins_140 : decode cX12_joins 140 = .ok (.lload_n 2, 1) := by decide +kernel
theorem dX12_joins_141 : decode cX12_joins 141 = .ok (.invokevirtual 400, 3) := by decide +kernel
theorem dX12_joins_144 : decode cX12_joins 144 = .ok (.goto 20, 3) := by decide +kernel
theorem dX12_joins_147 : decode cX12_joins 147 = .ok (.aload_n 0, 1) := by decide +kernel
theorem dX12_joins_148 : decode cX12_joins 148 = .ok (.lload 4, 2) := by decide +kernel
theorem dX12_joins_150 : decode cX12_joins 150 = .ok (.lload_n 2, 1) := by decide +kernel
theorem dX12_joins_151 : decode cX12_joins 151 = .ok (.lcmp, 1) := by decide +kernel
theorem dX12_joins_152 : decode cX12_joins 152 = .ok (.ifCond .le 8, 3) := by decide +kernel
theorem dX12_joins_155 : decode cX12_joins 155 = .ok (.lload 4, 2) := by decide +kernel
theorem dX12_joins_157 : decode cX12_joins 157 = .ok (.goto 4, 3) := by decide +kernel
theorem dX12_joins_160 : decode cX12_joins 160 = .ok (.lload_n 2, 1) := by decide +kernel
theorem dX12_joins_161 : decode cX12_joins 161 = .ok (.invokevirtual 400, 3) := by decide +kernel
theorem dX12_joins_164 : decode cX12_joins 164 = .ok (.return_, 1) := by decide +kernel
theorem dX12_peopleMany_0 : decode cX12_peopleMany 0 = .ok (.aload_n 0, 1) := by decide +kernel
theorem dX12_peopleMany_1 : decode cX12_peopleMany 1 = .ok (.getfield 93, 3) := by decide +kernel
theorem dX12_peopleMany_4 : decode cX12_peopleMany 4 = .ok (.iconst 2, 1) := by decide +kernel
theorem dX12_peopleMany_5 : decode cX12_peopleMany 5 = .ok (.iaload, 1) := by decide +kernel
theorem dX12_peopleMany_6 : decode cX12_peopleMany 6 = .ok (.ireturn, 1) := by decide +kernel
theorem dX12_crackerMany_0 : decode cX12_crackerMany 0 = .ok (.aload_n 0, 1) := by decide +kernel
theorem dX12_crackerMany_1 : decode cX12_crackerMany 1 = .ok (.invokevirtual 408, 3) := by decide +kernel
theorem dX12_crackerMany_4 : decode cX12_crackerMany 4 = .ok (.iconst 2, 1) := by decide +kernel
theorem dX12_crackerMany_5 : decode cX12_crackerMany 5 = .ok (.if_icmp .ge 7, 3) := by decide +kernel
theorem dX12_crackerMany_8 : decode cX12_crackerMany 8 = .ok (.iconst 0, 1) := by decide +kernel
theorem dX12_crackerMany_9 : decode cX12_crackerMany 9 = .ok (.goto 7, 3) := by decide +kernel
theorem dX12_crackerMany_12 : decode cX12_crackerMany 12 = .ok (.aload_n 0, 1) := by decide +kernel
theorem dX12_crackerMany_13 : decode cX12_crackerMany 13 = .ok (.invokevirtual 408, 3) := by decide +kernel
theorem dX12_crackerMany_16 : decode cX12_crackerMany 16 = .ok (.ireturn, 1) := by decide +kernel
theorem dX12_boxMany_0 : decode cX12_boxMany 0 = .ok (.aload_n 0, 1) := by decide +kernel
theorem dX12_boxMany_1 : decode cX12_boxMany 1 = .ok (.getfield 93, 3) := by decide +kernel
theorem dX12_boxMany_4 : decode cX12_boxMany 4 = .ok (.iconst 3, 1) := by decide +kernel
theorem dX12_boxMany_5 : decode cX12_boxMany 5 = .ok (.iaload, 1) := by decide +kernel
theorem dX12_boxMany_6 : decode cX12_boxMany 6 = .ok (.ireturn, 1) := by decide +kernel
theorem dX12_isSeat_0 : decode cX12_isSeat 0 = .ok (.iload_n 1, 1) := by decide +kernel
theorem dX12_isSeat_1 : decode cX12_isSeat 1 = .ok (.i2l, 1) := by decide +kernel
theorem dX12_isSeat_2 : decode cX12_isSeat 2 = .ok (.lconst 0, 1) := by decide +kernel
theorem dX12_isSeat_3 : decode cX12_isSeat 3 = .ok (.aload_n 0, 1) := by decide +kernel
theorem dX12_isSeat_4 : decode cX12_isSeat 4 = .ok (.invokevirtual 408, 3) := by decide +kernel
theorem dX12_isSeat_7 : decode cX12_isSeat 7 = .ok (.iconst 1, 1) := by decide +kernel
theorem dX12_isSeat_8 : decode cX12_isSeat 8 = .ok (.isub, 1) := by decide +kernel
theorem dX12_isSeat_9 : decode cX12_isSeat 9 = .ok (.i2l, 1) := by decide +kernel
theorem dX12_isSeat_10 : decode cX12_isSeat 10 = .ok (.invokestatic 276, 3) := by decide +kernel
theorem dX12_isSeat_13 : decode cX12_isSeat 13 = .ok (.ireturn, 1) := by decide +kernel
theorem dX12_isHand_0 : decode cX12_isHand 0 = .ok (.iload_n 1, 1) := by decide +kernel
theorem dX12_isHand_1 : decode cX12_isHand 1 = .ok (.ifCond .eq 8, 3) := by decide +kernel
theorem dX12_isHand_4 : decode cX12_isHand 4 = .ok (.iload_n 1, 1) := by decide +kernel
theorem dX12_isHand_5 : decode cX12_isHand 5 = .ok (.iconst 1, 1) := by decide +kernel
theorem dX12_isHand_6 : decode cX12_isHand 6 = .ok (.if_icmp .ne 7, 3) := by decide +kernel
theorem dX12_isHand_9 : decode cX12_isHand 9 = .ok (.iconst 1, 1) := by decide +kernel
theorem dX12_isHand_10 : decode cX12_isHand 10 = .ok (.goto 4, 3) := by decide +kernel
theorem dX12_isHand_13 : decode cX12_isHand 13 = .ok (.iconst 0, 1) := by decide +kernel
theorem dX12_isHand_14 : decode cX12_isHand 14 = .ok (.ireturn, 1) := by decide +kernel
theorem dX12_whoAt_0 : decode cX12_whoAt 0 = .ok (.aload_n 0, 1) := by decide +kernel
theorem dX12_whoAt_1 : decode cX12_whoAt 1 = .ok (.getfield 127, 3) := by decide +kernel
theorem dX12_whoAt_4 : decode cX12_whoAt 4 = .ok (.iconst 3, 1) := by decide +kernel
theorem dX12_whoAt_5 : decode cX12_whoAt 5 = .ok (.bipush 6, 2) := by decide +kernel
theorem dX12_whoAt_7 : decode cX12_whoAt 7 = .ok (.iload_n 1, 1) := by decide +kernel
theorem dX12_whoAt_8 : decode cX12_whoAt 8 = .ok (.imul, 1) := by decide +kernel
theorem dX12_whoAt_9 : decode cX12_whoAt 9 = .ok (.iadd, 1) := by decide +kernel
theorem dX12_whoAt_10 : decode cX12_whoAt 10 = .ok (.iaload, 1) := by decide +kernel
theorem dX12_whoAt_11 : decode cX12_whoAt 11 = .ok (.ireturn, 1) := by decide +kernel
theorem dX12_hatsOf_0 : decode cX12_hatsOf 0 = .ok (.aload_n 0, 1) := by decide +kernel
theorem dX12_hatsOf_1 : decode cX12_hatsOf 1 = .ok (.getfield 127, 3) := by decide +kernel
theorem dX12_hatsOf_4 : decode cX12_hatsOf 4 = .ok (.iconst 3, 1) := by decide +kernel
theorem dX12_hatsOf_5 : decode cX12_hatsOf 5 = .ok (.bipush 6, 2) := by decide +kernel
theorem dX12_hatsOf_7 : decode cX12_hatsOf 7 = .ok (.iload_n 1, 1) := by decide +kernel
theorem dX12_hatsOf_8 : decode cX12_hatsOf 8 = .ok (.imul, 1) := by decide +kernel
theorem dX12_hatsOf_9 : decode cX12_hatsOf 9 = .ok (.iadd, 1) := by decide +kernel
theorem dX12_hatsOf_10 : decode cX12_hatsOf 10 = .ok (.iconst 1, 1) := by decide +kernel
theorem dX12_hatsOf_11 : decode cX12_hatsOf 11 = .ok (.iadd, 1) := by decide +kernel
theorem dX12_hatsOf_12 : decode cX12_hatsOf 12 = .ok (.iaload, 1) := by decide +kernel
theorem dX12_hatsOf_13 : decode cX12_hatsOf 13 = .ok (.ireturn, 1) := by decide +kernel
theorem dX12_hasHats_0 : decode cX12_hasHats 0 = .ok (.aload_n 0, 1) := by decide +kernel
theorem dX12_hasHats_1 : decode cX12_hasHats 1 = .ok (.getfield 127, 3) := by decide +kernel
theorem dX12_hasHats_4 : decode cX12_hasHats 4 = .ok (.iconst 3, 1) := by decide +kernel
theorem dX12_hasHats_5 : decode cX12_hasHats 5 = .ok (.bipush 6, 2) := by decide +kernel
theorem dX12_hasHats_7 : decode cX12_hasHats 7 = .ok (.iload_n 1, 1) := by decide +kernel
theorem dX12_hasHats_8 : decode cX12_hasHats 8 = .ok (.imul, 1) := by decide +kernel
theorem dX12_hasHats_9 : decode cX12_hasHats 9 = .ok (.iadd, 1) := by decide +kernel
theorem dX12_hasHats_10 : decode cX12_hasHats 10 = .ok (.iconst 1, 1) := by decide +kernel
theorem dX12_hasHats_11 : decode cX12_hasHats 11 = .ok (.iadd, 1) := by decide +kernel
theorem dX12_hasHats_12 : decode cX12_hasHats 12 = .ok (.iload_n 2, 1) := by decide +kernel
theorem dX12_hasHats_13 : decode cX12_hasHats 13 = .ok (.bipush 99, 2) := by decide +kernel
theorem dX12_hasHats_15 : decode cX12_hasHats 15 = .ok (.if_icmp .le 8, 3) := by decide +kernel
theorem dX12_hasHats_18 : decode cX12_hasHats 18 = .ok (.bipush 99, 2) := by decide +kernel
theorem dX12_hasHats_20 : decode cX12_hasHats 20 = .ok (.goto 4, 3) := by decide +kernel
theorem dX12_hasHats_23 : decode cX12_hasHats 23 = .ok (.iload_n 2, 1) := by decide +kernel
theorem dX12_hasHats_24 : decode cX12_hasHats 24 = .ok (.iastore, 1) := by decide +kernel
theorem dX12_hasHats_25 : decode cX12_hasHats 25 = .ok (.return_, 1) := by decide +kernel
theorem dX12_gripOf_0 : decode cX12_gripOf 0 = .ok (.aload_n 0, 1) := by decide +kernel
theorem dX12_gripOf_1 : decode cX12_gripOf 1 = .ok (.getfield 127, 3) := by decide +kernel
theorem dX12_gripOf_4 : decode cX12_gripOf 4 = .ok (.iconst 3, 1) := by decide +kernel
theorem dX12_gripOf_5 : decode cX12_gripOf 5 = .ok (.bipush 6, 2) := by decide +kernel
theorem dX12_gripOf_7 : decode cX12_gripOf 7 = .ok (.iload_n 1, 1) := by decide +kernel
theorem dX12_gripOf_8 : decode cX12_gripOf 8 = .ok (.imul, 1) := by decide +kernel
theorem dX12_gripOf_9 : decode cX12_gripOf 9 = .ok (.iadd, 1) := by decide +kernel
theorem dX12_gripOf_10 : decode cX12_gripOf 10 = .ok (.iconst 2, 1) := by decide +kernel
theorem dX12_gripOf_11 : decode cX12_gripOf 11 = .ok (.iadd, 1) := by decide +kernel
theorem dX12_gripOf_12 : decode cX12_gripOf 12 = .ok (.iconst 2, 1) := by decide +kernel
theorem dX12_gripOf_13 : decode cX12_gripOf 13 = .ok (.iload_n 2, 1) := by decide +kernel
theorem dX12_gripOf_14 : decode cX12_gripOf 14 = .ok (.imul, 1) := by decide +kernel
theorem dX12_gripOf_15 : decode cX12_gripOf 15 = .ok (.iadd, 1) := by decide +kernel
theorem dX12_gripOf_16 : decode cX12_gripOf 16 = .ok (.iaload, 1) := by decide +kernel
theorem dX12_gripOf_17 : decode cX12_gripOf 17 = .ok (.ireturn, 1) := by decide +kernel
theorem dX12_lowOf_0 : decode cX12_lowOf 0 = .ok (.aload_n 0, 1) := by decide +kernel
theorem dX12_lowOf_1 : decode cX12_lowOf 1 = .ok (.getfield 127, 3) := by decide +kernel
theorem dX12_lowOf_4 : decode cX12_lowOf 4 = .ok (.iconst 3, 1) := by decide +kernel
theorem dX12_lowOf_5 : decode cX12_lowOf 5 = .ok (.bipush 6, 2) := by decide +kernel
theorem dX12_lowOf_7 : decode cX12_lowOf 7 = .ok (.iload_n 1, 1) := by decide +kernel
theorem dX12_lowOf_8 : decode cX12_lowOf 8 = .ok (.imul, 1) := by decide +kernel
theorem dX12_lowOf_9 : decode cX12_lowOf 9 = .ok (.iadd, 1) := by decide +kernel
theorem dX12_lowOf_10 : decode cX12_lowOf 10 = .ok (.iconst 3, 1) := by decide +kernel
theorem dX12_lowOf_11 : decode cX12_lowOf 11 = .ok (.iadd, 1) := by decide +kernel
theorem dX12_lowOf_12 : decode cX12_lowOf 12 = .ok (.iconst 2, 1) := by decide +kernel
theorem dX12_lowOf_13 : decode cX12_lowOf 13 = .ok (.iload_n 2, 1) := by decide +kernel
theorem dX12_lowOf_14 : decode cX12_lowOf 14 = .ok (.imul, 1) := by decide +kernel
theorem dX12_lowOf_15 : decode cX12_lowOf 15 = .ok (.iadd, 1) := by decide +kernel
theorem dX12_lowOf_16 : decode cX12_lowOf 16 = .ok (.iaload, 1) := by decide +kernel
theorem dX12_lowOf_17 : decode cX12_lowOf 17 = .ok (.ireturn, 1) := by decide +kernel
theorem dX12_holdsNow_0 : decode cX12_holdsNow 0 = .ok (.aload_n 0, 1) := by decide +kernel
theorem dX12_holdsNow_1 : decode cX12_holdsNow 1 = .ok (.getfield 127, 3) := by decide +kernel
theorem dX12_holdsNow_4 : decode cX12_holdsNow 4 = .ok (.iconst 3, 1) := by decide +kernel
theorem dX12_holdsNow_5 : decode cX12_holdsNow 5 = .ok (.bipush 6, 2) := by decide +kernel
theorem dX12_holdsNow_7 : decode cX12_holdsNow 7 = .ok (.iload_n 1, 1) := by decide +kernel
theorem dX12_holdsNow_8 : decode cX12_holdsNow 8 = .ok (.imul, 1) := by decide +kernel
theorem dX12_holdsNow_9 : decode cX12_holdsNow 9 = .ok (.iadd, 1) := by decide +kernel
theorem dX12_holdsNow_10 : decode cX12_holdsNow 10 = .ok (.iconst 2, 1) := by decide +kernel
theorem dX12_holdsNow_11 : decode cX12_holdsNow 11 = .ok (.iadd, 1) := by decide +kernel
theorem dX12_holdsNow_12 : decode cX12_holdsNow 12 = .ok (.iconst 2, 1) := by decide +kernel
theorem dX12_holdsNow_13 : decode cX12_holdsNow 13 = .ok (.iload_n 2, 1) := by decide +kernel
theorem dX12_holdsNow_14 : decode cX12_holdsNow 14 = .ok (.imul, 1) := by decide +kernel
theorem dX12_holdsNow_15 : decode cX12_holdsNow 15 = .ok (.iadd, 1) := by decide +kernel
theorem dX12_holdsNow_16 : decode cX12_holdsNow 16 = .ok (.iload_n 3, 1) := by decide +kernel
theorem dX12_holdsNow_17 : decode cX12_holdsNow 17 = .ok (.iastore, 1) := by decide +kernel
theorem dX12_holdsNow_18 : decode cX12_holdsNow 18 = .ok (.aload_n 0, 1) := by decide +kernel
theorem dX12_holdsNow_19 : decode cX12_holdsNow 19 = .ok (.getfield 127, 3) := by decide +kernel
theorem dX12_holdsNow_22 : decode cX12_holdsNow 22 = .ok (.iconst 3, 1) := by decide +kernel
theorem dX12_holdsNow_23 : decode cX12_holdsNow 23 = .ok (.bipush 6, 2) := by decide +kernel
theorem dX12_holdsNow_25 : decode cX12_holdsNow 25 = .ok (.iload_n 1, 1) := by decide +kernel
theorem dX12_holdsNow_26 : decode cX12_holdsNow 26 = .ok (.imul, 1) := by decide +kernel
theorem dX12_holdsNow_27 : decode cX12_holdsNow 27 = .ok (.iadd, 1) := by decide +kernel
theorem dX12_holdsNow_28 : decode cX12_holdsNow 28 = .ok (.iconst 3, 1) := by decide +kernel
theorem dX12_holdsNow_29 : decode cX12_holdsNow 29 = .ok (.iadd, 1) := by decide +kernel
theorem dX12_holdsNow_30 : decode cX12_holdsNow 30 = .ok (.iconst 2, 1) := by decide +kernel
theorem dX12_holdsNow_31 : decode cX12_holdsNow 31 = .ok (.iload_n 2, 1) := by decide +kernel
theorem dX12_holdsNow_32 : decode cX12_holdsNow 32 = .ok (.imul, 1) := by decide +kernel
theorem dX12_holdsNow_33 : decode cX12_holdsNow 33 = .ok (.iadd, 1) := by decide +kernel
theorem dX12_holdsNow_34 : decode cX12_holdsNow 34 = .ok (.iload 4, 2) := by decide +kernel
theorem dX12_holdsNow_36 : decode cX12_holdsNow 36 = .ok (.iastore, 1) := by decide +kernel
theorem dX12_holdsNow_37 : decode cX12_holdsNow 37 = .ok (.return_, 1) := by decide +kernel
theorem dX12_armOf_0 : decode cX12_armOf 0 = .ok (.aload_n 0, 1) := by decide +kernel
theorem dX12_armOf_1 : decode cX12_armOf 1 = .ok (.getfield 100, 3) := by decide +kernel
theorem dX12_armOf_4 : decode cX12_armOf 4 = .ok (.bipush 56, 2) := by decide +kernel
theorem dX12_armOf_6 : decode cX12_armOf 6 = .ok (.bipush 7, 2) := by decide +kernel
theorem dX12_armOf_8 : decode cX12_armOf 8 = .ok (.aload_n 0, 1) := by decide +kernel
theorem dX12_armOf_9 : decode cX12_armOf 9 = .ok (.iload_n 1, 1) := by decide +kernel
theorem dX12_armOf_10 : decode cX12_armOf 10 = .ok (.invokevirtual 411, 3) := by decide +kernel
theorem dX12_armOf_13 : decode cX12_armOf 13 = .ok (.imul, 1) := by decide +kernel
theorem dX12_armOf_14 : decode cX12_armOf 14 = .ok (.iadd, 1) := by decide +kernel
theorem dX12_armOf_15 : decode cX12_armOf 15 = .ok (.iload_n 2, 1) := by decide +kernel
theorem dX12_armOf_16 : decode cX12_armOf 16 = .ok (.iadd, 1) := by decide +kernel
theorem dX12_armOf_17 : decode cX12_armOf 17 = .ok (.iaload, 1) := by decide +kernel
theorem dX12_armOf_18 : decode cX12_armOf 18 = .ok (.ireturn, 1) := by decide +kernel
theorem dX12_ahead_0 : decode cX12_ahead 0 = .ok (.iload_n 1, 1) := by decide +kernel
theorem dX12_ahead_1 : decode cX12_ahead 1 = .ok (.iconst 1, 1) := by decide +kernel
theorem dX12_ahead_2 : decode cX12_ahead 2 = .ok (.iadd, 1) := by decide +kernel
theorem dX12_ahead_3 : decode cX12_ahead 3 = .ok (.aload_n 0, 1) := by decide +kernel
theorem dX12_ahead_4 : decode cX12_ahead 4 = .ok (.invokevirtual 408, 3) := by decide +kernel
theorem dX12_ahead_7 : decode cX12_ahead 7 = .ok (.irem, 1) := by decide +kernel
theorem dX12_ahead_8 : decode cX12_ahead 8 = .ok (.ireturn, 1) := by decide +kernel
theorem dX12_behind_0 : decode cX12_behind 0 = .ok (.iload_n 1, 1) := by decide +kernel
theorem dX12_behind_1 : decode cX12_behind 1 = .ok (.aload_n 0, 1) := by decide +kernel
theorem dX12_behind_2 : decode cX12_behind 2 = .ok (.invokevirtual 408, 3) := by decide +kernel
theorem dX12_behind_5 : decode cX12_behind 5 = .ok (.iadd, 1) := by decide +kernel
theorem dX12_behind_6 : decode cX12_behind 6 = .ok (.iconst 1, 1) := by decide +kernel
theorem dX12_behind_7 : decode cX12_behind 7 = .ok (.isub, 1) := by decide +kernel
theorem dX12_behind_8 : decode cX12_behind 8 = .ok (.aload_n 0, 1) := by decide +kernel
theorem dX12_behind_9 : decode cX12_behind 9 = .ok (.invokevirtual 408, 3) := by decide +kernel
theorem dX12_behind_12 : decode cX12_behind 12 = .ok (.irem, 1) := by decide +kernel
theorem dX12_behind_13 : decode cX12_behind 13 = .ok (.ireturn, 1) := by decide +kernel
theorem dX12_told_0 : decode cX12_told 0 = .ok (.aload_n 0, 1) := by decide +kernel
theorem dX12_told_1 : decode cX12_told 1 = .ok (.getfield 124, 3) := by decide +kernel
theorem dX12_told_4 : decode cX12_told 4 = .ok (.iconst 0, 1) := by decide +kernel
theorem dX12_told_5 : decode cX12_told 5 = .ok (.aload_n 0, 1) := by decide +kernel
theorem dX12_told_6 : decode cX12_told 6 = .ok (.iload_n 2, 1) := by decide +kernel
theorem dX12_told_7 : decode cX12_told 7 = .ok (.iload_n 3, 1) := by decide +kernel
theorem dX12_told_8 : decode cX12_told 8 = .ok (.invokevirtual 415, 3) := by decide +kernel
theorem dX12_told_11 : decode cX12_told 11 = .ok (.iastore, 1) := by decide +kernel
theorem dX12_told_12 : decode cX12_told 12 = .ok (.aload_n 0, 1) := by decide +kernel
theorem dX12_told_13 : decode cX12_told 13 = .ok (.getfield 124, 3) := by decide +kernel
theorem dX12_told_16 : decode cX12_told 16 = .ok (.iconst 1, 1) := by decide +kernel
theorem dX12_told_17 : decode cX12_told 17 = .ok (.aload_n 0, 1) := by decide +kernel
theorem dX12_told_18 : decode cX12_told 18 = .ok (.iload_n 2, 1) := by decide +kernel
theorem dX12_told_19 : decode cX12_told 19 = .ok (.iload_n 3, 1) := by decide +kernel
theorem dX12_told_20 : decode cX12_told 20 = .ok (.invokevirtual 418, 3) := by decide +kernel
theorem dX12_told_23 : decode cX12_told 23 = .ok (.iastore, 1) := by decide +kernel
theorem dX12_told_24 : decode cX12_told 24 = .ok (.aload_n 0, 1) := by decide +kernel
theorem dX12_told_25 : decode cX12_told 25 = .ok (.getfield 124, 3) := by decide +kernel
theorem dX12_told_28 : decode cX12_told 28 = .ok (.iconst 2, 1) := by decide +kernel
theorem dX12_told_29 : decode cX12_told 29 = .ok (.aload_n 0, 1) := by decide +kernel
theorem dX12_told_30 : decode cX12_told 30 = .ok (.iload 4, 2) := by decide +kernel
theorem dX12_told_32 : decode cX12_told 32 = .ok (.iconst 1, 1) := by decide +kernel
theorem dX12_told_33 : decode cX12_told 33 = .ok (.iload_n 3, 1) := by decide +kernel
theorem dX12_told_34 : decode cX12_told 34 = .ok (.isub, 1) := by decide +kernel
theorem dX12_told_35 : decode cX12_told 35 = .ok (.invokevirtual 418, 3) := by decide +kernel
theorem dX12_told_38 : decode cX12_told 38 = .ok (.iastore, 1) := by decide +kernel
theorem dX12_told_39 : decode cX12_told 39 = .ok (.iconst 0, 1) := by decide +kernel
theorem dX12_told_40 : decode cX12_told 40 = .ok (.istore 6, 2) := by decide +kernel
theorem dX12_told_42 : decode cX12_told 42 = .ok (.iload 6, 2) := by decide +kernel
theorem dX12_told_44 : decode cX12_told 44 = .ok (.iconst 3, 1) := by decide +kernel
theorem dX12_told_45 : decode cX12_told 45 = .ok (.if_icmp .ge 34, 3) := by decide +kernel
theorem dX12_told_48 : decode cX12_told 48 = .ok (.aload_n 0, 1) := by decide +kernel
theorem dX12_told_49 : decode cX12_told 49 = .ok (.getfield 124, 3) := by decide +kernel
theorem dX12_told_52 : decode cX12_told 52 = .ok (.iconst 3, 1) := by decide +kernel
theorem dX12_told_53 : decode cX12_told 53 = .ok (.iload 6, 2) := by decide +kernel
theorem dX12_told_55 : decode cX12_told 55 = .ok (.iadd, 1) := by decide +kernel
theorem dX12_told_56 : decode cX12_told 56 = .ok (.aload_n 0, 1) := by decide +kernel
theorem dX12_told_57 : decode cX12_told 57 = .ok (.iload_n 2, 1) := by decide +kernel
theorem dX12_told_58 : decode cX12_told 58 = .ok (.iload_n 3, 1) := by decide +kernel
theorem dX12_told_59 : decode cX12_told 59 = .ok (.invokevirtual 421, 3) := by decide +kernel
theorem dX12_told_62 : decode cX12_told 62 = .ok (.iload 6, 2) := by decide +kernel
theorem dX12_told_64 : decode cX12_told 64 = .ok (.if_icmp .ne 7, 3) := by decide +kernel
theorem dX12_told_67 : decode cX12_told 67 = .ok (.iconst 1, 1) := by decide +kernel
theorem dX12_told_68 : decode cX12_told 68 = .ok (.goto 4, 3) := by decide +kernel
theorem dX12_told_71 : decode cX12_told 71 = .ok (.iconst 0, 1) := by decide +kernel
theorem dX12_told_72 : decode cX12_told 72 = .ok (.iastore, 1) := by decide +kernel
theorem dX12_told_73 : decode cX12_told 73 = .ok (.iinc 6 1, 3) := by decide +kernel
theorem dX12_told_76 : decode cX12_told 76 = .ok (.goto (-34), 3) := by decide +kernel
theorem dX12_told_79 : decode cX12_told 79 = .ok (.aload_n 0, 1) := by decide +kernel
theorem dX12_told_80 : decode cX12_told 80 = .ok (.iconst 0, 1) := by decide +kernel
theorem dX12_told_81 : decode cX12_told 81 = .ok (.putfield 393, 3) := by decide +kernel
theorem dX12_told_84 : decode cX12_told 84 = .ok (.aload_n 0, 1) := by decide +kernel
theorem dX12_told_85 : decode cX12_told 85 = .ok (.getfield 109, 3) := by decide +kernel
theorem dX12_told_88 : decode cX12_told 88 = .ok (.iconst 2, 1) := by decide +kernel
theorem dX12_told_89 : decode cX12_told 89 = .ok (.iload_n 1, 1) := by decide +kernel
theorem dX12_told_90 : decode cX12_told 90 = .ok (.iadd, 1) := by decide +kernel
theorem dX12_told_91 : decode cX12_told 91 = .ok (.iaload, 1) := by decide +kernel
theorem dX12_told_92 : decode cX12_told 92 = .ok (.istore 6, 2) := by decide +kernel
theorem dX12_told_94 : decode cX12_told 94 = .ok (.iload 6, 2) := by decide +kernel
theorem dX12_told_96 : decode cX12_told 96 = .ok (.aload_n 0, 1) := by decide +kernel
theorem dX12_told_97 : decode cX12_told 97 = .ok (.getfield 112, 3) := by decide +kernel
theorem dX12_told_100 : decode cX12_told 100 = .ok (.iconst 2, 1) := by decide +kernel
theorem dX12_told_101 : decode cX12_told 101 = .ok (.iload_n 1, 1) := by decide +kernel
theorem dX12_told_102 : decode cX12_told 102 = .ok (.iadd, 1) := by decide +kernel
theorem dX12_told_103 : decode cX12_told 103 = .ok (.iaload, 1) := by decide +kernel
theorem dX12_told_104 : decode cX12_told 104 = .ok (.if_icmp .ge 83, 3) := by decide +kernel
theorem dX12_told_107 : decode cX12_told 107 = .ok (.aload_n 0, 1) := by decide +kernel
theorem dX12_told_108 : decode cX12_told 108 = .ok (.getfield 115, 3) := by decide +kernel
theorem dX12_told_111 : decode cX12_told 111 = .ok (.sipush 1600, 3) := by decide +kernel
theorem dX12_told_114 : decode cX12_told 114 = .ok (.iload 6, 2) := by decide +kernel
theorem dX12_told_116 : decode cX12_told 116 = .ok (.iadd, 1) := by decide +kernel
theorem dX12_told_117 : decode cX12_told 117 = .ok (.iaload, 1) := by decide +kernel
theorem dX12_told_118 : decode cX12_told 118 = .ok (.istore 7, 2) := by decide +kernel
theorem dX12_told_120 : decode cX12_told 120 = .ok (.iload 7, 2) := by decide +kernel
theorem dX12_told_122 : decode cX12_told 122 = .ok (.sipush 1000, 3) := by decide +kernel
theorem dX12_told_125 : decode cX12_told 125 = .ok (.if_icmp .lt 17, 3) := by decide +kernel
theorem dX12_told_128 : decode cX12_told 128 = .ok (.aload_n 0, 1) := by decide +kernel
theorem dX12_told_129 : decode cX12_told 129 = .ok (.iload 7, 2) := by decide +kernel
theorem dX12_told_131 : decode cX12_told 131 = .ok (.sipush 1000, 3) := by decide +kernel
theorem dX12_told_134 : decode cX12_told 134 = .ok (.isub, 1) := by decide +kernel
theorem dX12_told_135 : decode cX12_told 135 = .ok (.i2l, 1) := by decide +kernel
theorem dX12_told_136 : decode cX12_told 136 = .ok (.invokevirtual 400, 3) := by decide +kernel
theorem dX12_told_139 : decode cX12_told 139 = .ok (.goto 42, 3) := by decide +kernel
theorem dX12_told_142 : decode cX12_told 142 = .ok (.iload 7, 2) := by decide +kernel
theorem dX12_told_144 : decode cX12_told 144 = .ok (.i2l, 1) := by decide +kernel
theorem dX12_told_145 : decode cX12_told 145 = .ok (.ldc2_w 424, 3) := by decide +kernel
theorem dX12_told_148 : decode cX12_told 148 = .ok (.ldc2_w 426, 3) := by decide +kernel
theorem dX12_told_151 : decode cX12_told 151 = .ok (.invokestatic 276, 3) := by decide +kernel
theorem dX12_told_154 : decode cX12_told 154 = .ok (.ifCond .eq 21, 3) := by decide +kernel
theorem dX12_told_157 : decode cX12_told 157 = .ok (.aload_n 0, 1) := by decide +kernel
theorem dX12_told_158 : decode cX12_told 158 = .ok (.aload_n 0, 1) := by decide +kernel
theorem dX12_told_159 : decode cX12_told 159 = .ok (.getfield 124, 3) := by decide +kernel
theorem dX12_told_162 : decode cX12_told 162 = .ok (.iload 7, 2) := by decide +kernel
theorem dX12_told_164 : decode cX12_told 164 = .ok (.bipush 7, 2) := by decide +kernel
theorem dX12_told_166 : decode cX12_told 166 = .ok (.isub, 1) := by decide +kernel
theorem dX12_told_167 : decode cX12_told 167 = .ok (.iaload, 1) := by decide +kernel
theorem dX12_told_168 : decode cX12_told 168 = .ok (.i2l, 1) := by decide +kernel
theorem dX12_told_169 : decode cX12_told 169 = .ok (.invokevirtual 400, 3) := by decide +kernel
theorem dX12_told_172 : decode cX12_told 172 = .ok (.goto 9, 3) := by decide +kernel
theorem dX12_told_175 : decode cX12_told 175 = .ok (.aload_n 0, 1) := by decide +kernel
theorem dX12_told_176 : decode cX12_told 176 = .ok (.iload 7, 2) := by decide +kernel
theorem dX12_told_178 : decode cX12_told 178 = .ok (.invokevirtual 428, 3) := by decide +kernel
theorem dX12_told_181 : decode cX12_told 181 = .ok (.iinc 6 1, 3) := by decide +kernel
theorem dX12_told_184 : decode cX12_told 184 = .ok (.goto (-90), 3) := by decide +kernel
theorem dX12_told_187 : decode cX12_told 187 = .ok (.aload_n 0, 1) := by decide +kernel
theorem dX12_told_188 : decode cX12_told 188 = .ok (.getfield 121, 3) := by decide +kernel
theorem dX12_told_191 : decode cX12_told 191 = .ok (.iconst 0, 1) := by decide +kernel
theorem dX12_told_192 : decode cX12_told 192 = .ok (.laload, 1) := by decide +kernel
theorem dX12_told_193 : decode cX12_told 193 = .ok (.lconst 0, 1) := by decide +kernel
theorem dX12_told_194 : decode cX12_told 194 = .ok (.lcmp, 1) := by decide +kernel
theorem dX12_told_195 : decode cX12_told 195 = .ok (.ifCond .ge 7, 3) := by decide +kernel
theorem dX12_told_198 : decode cX12_told 198 = .ok (.iconst 0, 1) := by decide +kernel
theorem dX12_told_199 : decode cX12_told 199 = .ok (.goto 28, 3) := by decide +kernel
theorem dX12_told_202 : decode cX12_told 202 = .ok (.aload_n 0, 1) := by decide +kernel
theorem dX12_told_203 : decode cX12_told 203 = .ok (.getfield 121, 3) := by decide +kernel
theorem dX12_told_206 : decode cX12_told 206 = .ok (.iconst 0, 1) := by decide +kernel
theorem dX12_told_207 : decode cX12_told 207 = .ok (.laload, 1) := by decide +kernel
theorem dX12_told_208 : decode cX12_told 208 = .ok (.iload 5, 2) := by decide +kernel
theorem dX12_told_210 : decode cX12_told 210 = .ok (.i2l, 1) := by decide +kernel
theorem dX12_told_211 : decode cX12_told 211 = .ok (.lcmp, 1) := by decide +kernel
theorem dX12_told_212 : decode cX12_told 212 = .ok (.ifCond .le 8, 3) := by decide +kernel
theorem dX12_told_215 : decode cX12_told 215 = .ok (.iload 5, 2) := by decide +kernel
theorem dX12_told_217 : decode cX12_told 217 = .ok (.goto 10, 3) := by decide +kernel
theorem dX12_told_220 : decode cX12_told 220 = .ok (.aload_n 0, 1) := by decide +kernel
theorem dX12_told_221 : decode cX12_told 221 = .ok (.getfield 121, 3) := by decide +kernel
theorem dX12_told_224 : decode cX12_told 224 = .ok (.iconst 0, 1) := by decide +kernel
theorem dX12_told_225 : decode cX12_told 225 = .ok (.laload, 1) := by decide +kernel
theorem dX12_told_226 : decode cX12_told 226 = .ok (.l2i, 1) := by decide +kernel
theorem dX12_told_227 : decode cX12_told 227 = .ok (.ireturn, 1) := by decide +kernel
theorem dX12_might_0 : decode cX12_might 0 = .ok (.aload_n 0, 1) := by decide +kernel
theorem dX12_might_1 : decode cX12_might 1 = .ok (.getfield 109, 3) := by decide +kernel
theorem dX12_might_4 : decode cX12_might 4 = .ok (.iconst 2, 1) := by decide +kernel
theorem dX12_might_5 : decode cX12_might 5 = .ok (.iaload, 1) := by decide +kernel
theorem dX12_might_6 : decode cX12_might 6 = .ok (.iconst (-1), 1) := by decide +kernel
theorem dX12_might_7 : decode cX12_might 7 = .ok (.if_icmp .ne 12, 3) := by decide +kernel
theorem dX12_might_10 : decode cX12_might 10 = .ok (.aload_n 0, 1) := by decide +kernel
theorem dX12_might_11 : decode cX12_might 11 = .ok (.iload_n 1, 1) := by decide +kernel
theorem dX12_might_12 : decode cX12_might 12 = .ok (.iload_n 2, 1) := by decide +kernel
theorem dX12_might_13 : decode cX12_might 13 = .ok (.invokevirtual 415, 3) := by decide +kernel
theorem dX12_might_16 : decode cX12_might 16 = .ok (.goto 14, 3) := by decide +kernel
theorem dX12_might_19 : decode cX12_might 19 = .ok (.aload_n 0, 1) := by decide +kernel
theorem dX12_might_20 : decode cX12_might 20 = .ok (.iconst 0, 1) := by decide +kernel
theorem dX12_might_21 : decode cX12_might 21 = .ok (.iload_n 1, 1) := by decide +kernel
theorem dX12_might_22 : decode cX12_might 22 = .ok (.iload_n 2, 1) := by decide +kernel
theorem dX12_might_23 : decode cX12_might 23 = .ok (.iload_n 3, 1) := by decide +kernel
theorem dX12_might_24 : decode cX12_might 24 = .ok (.sipush 999, 3) := by decide +kernel
theorem dX12_might_27 : decode cX12_might 27 = .ok (.invokevirtual 431, 3) := by decide +kernel
theorem dX12_might_30 : decode cX12_might 30 = .ok (.ireturn, 1) := by decide +kernel
theorem dX12_slips_0 : decode cX12_slips 0 = .ok (.aload_n 0, 1) := by decide +kernel
theorem dX12_slips_1 : decode cX12_slips 1 = .ok (.getfield 109, 3) := by decide +kernel
theorem dX12_slips_4 : decode cX12_slips 4 = .ok (.iconst 3, 1) := by decide +kernel
theorem dX12_slips_5 : decode cX12_slips 5 = .ok (.iaload, 1) := by decide +kernel
theorem dX12_slips_6 : decode cX12_slips 6 = .ok (.iconst (-1), 1) := by decide +kernel
theorem dX12_slips_7 : decode cX12_slips 7 = .ok (.if_icmp .ne 7, 3) := by decide +kernel
theorem dX12_slips_10 : decode cX12_slips 10 = .ok (.iconst 0, 1) := by decide +kernel
theorem dX12_slips_11 : decode cX12_slips 11 = .ok (.goto 13, 3) := by decide +kernel
theorem dX12_slips_14 : decode cX12_slips 14 = .ok (.aload_n 0, 1) := by decide +kernel
theorem dX12_slips_15 : decode cX12_slips 15 = .ok (.iconst 1, 1) := by decide +kernel
theorem dX12_slips_16 : decode cX12_slips 16 = .ok (.iload_n 1, 1) := by decide +kernel
theorem dX12_slips_17 : decode cX12_slips 17 = .ok (.iload_n 2, 1) := by decide +kernel
theorem dX12_slips_18 : decode cX12_slips 18 = .ok (.iload_n 3, 1) := by decide +kernel
theorem dX12_slips_19 : decode cX12_slips 19 = .ok (.bipush 100, 2) := by decide +kernel
theorem dX12_slips_21 : decode cX12_slips 21 = .ok (.invokevirtual 431, 3) := by decide +kernel
theorem dX12_slips_24 : decode cX12_slips 24 = .ok (.ireturn, 1) := by decide +kernel
theorem dX12_oddsOf_0 : decode cX12_oddsOf 0 = .ok (.aload_n 0, 1) := by decide +kernel
theorem dX12_oddsOf_1 : decode cX12_oddsOf 1 = .ok (.iload_n 1, 1) := by decide +kernel
theorem dX12_oddsOf_2 : decode cX12_oddsOf 2 = .ok (.iconst 0, 1) := by decide +kernel
theorem dX12_oddsOf_3 : decode cX12_oddsOf 3 = .ok (.iload_n 2, 1) := by decide +kernel
theorem dX12_oddsOf_4 : decode cX12_oddsOf 4 = .ok (.invokevirtual 435, 3) := by decide +kernel
theorem dX12_oddsOf_7 : decode cX12_oddsOf 7 = .ok (.istore 4, 2) := by decide +kernel
theorem dX12_oddsOf_9 : decode cX12_oddsOf 9 = .ok (.aload_n 0, 1) := by decide +kernel
theorem dX12_oddsOf_10 : decode cX12_oddsOf 10 = .ok (.iload_n 2, 1) := by decide +kernel
theorem dX12_oddsOf_11 : decode cX12_oddsOf 11 = .ok (.iconst 1, 1) := by decide +kernel
theorem dX12_oddsOf_12 : decode cX12_oddsOf 12 = .ok (.iload_n 1, 1) := by decide +kernel
theorem dX12_oddsOf_13 : decode cX12_oddsOf 13 = .ok (.invokevirtual 435, 3) := by decide +kernel
theorem dX12_oddsOf_16 : decode cX12_oddsOf 16 = .ok (.istore 5, 2) := by decide +kernel
theorem dX12_oddsOf_18 : decode cX12_oddsOf 18 = .ok (.iload 4, 2) := by decide +kernel
theorem dX12_oddsOf_20 : decode cX12_oddsOf 20 = .ok (.iload 5, 2) := by decide +kernel
theorem dX12_oddsOf_22 : decode cX12_oddsOf 22 = .ok (.iadd, 1) := by decide +kernel
theorem dX12_oddsOf_23 : decode cX12_oddsOf 23 = .ok (.ifCond .ne 8, 3) := by decide +kernel
theorem dX12_oddsOf_26 : decode cX12_oddsOf 26 = .ok (.bipush 50, 2) := by decide +kernel
theorem dX12_oddsOf_28 : decode cX12_oddsOf 28 = .ok (.goto 14, 3) := by decide +kernel
theorem dX12_oddsOf_31 : decode cX12_oddsOf 31 = .ok (.bipush 100, 2) := by decide +kernel
theorem dX12_oddsOf_33 : decode cX12_oddsOf 33 = .ok (.iload 4, 2) := by decide +kernel
theorem dX12_oddsOf_35 : decode cX12_oddsOf 35 = .ok (.imul, 1) := by decide +kernel
theorem dX12_oddsOf_36 : decode cX12_oddsOf 36 = .ok (.iload 4, 2) := by decide +kernel
theorem dX12_oddsOf_38 : decode cX12_oddsOf 38 = .ok (.iload 5, 2) := by decide +kernel
theorem dX12_oddsOf_40 : decode cX12_oddsOf 40 = .ok (.iadd, 1) := by decide +kernel
theorem dX12_oddsOf_41 : decode cX12_oddsOf 41 = .ok (.idiv, 1) := by decide +kernel
theorem dX12_oddsOf_42 : decode cX12_oddsOf 42 = .ok (.istore 6, 2) := by decide +kernel
theorem dX12_oddsOf_44 : decode cX12_oddsOf 44 = .ok (.aload_n 0, 1) := by decide +kernel
theorem dX12_oddsOf_45 : decode cX12_oddsOf 45 = .ok (.iload_n 1, 1) := by decide +kernel
theorem dX12_oddsOf_46 : decode cX12_oddsOf 46 = .ok (.iconst 0, 1) := by decide +kernel
theorem dX12_oddsOf_47 : decode cX12_oddsOf 47 = .ok (.iload_n 2, 1) := by decide +kernel
theorem dX12_oddsOf_48 : decode cX12_oddsOf 48 = .ok (.invokevirtual 439, 3) := by decide +kernel
theorem dX12_oddsOf_51 : decode cX12_oddsOf 51 = .ok (.istore 7, 2) := by decide +kernel
theorem dX12_oddsOf_53 : decode cX12_oddsOf 53 = .ok (.aload_n 0, 1) := by decide +kernel
theorem dX12_oddsOf_54 : decode cX12_oddsOf 54 = .ok (.iload_n 2, 1) := by decide +kernel
theorem dX12_oddsOf_55 : decode cX12_oddsOf 55 = .ok (.iconst 1, 1) := by decide +kernel
theorem dX12_oddsOf_56 : decode cX12_oddsOf 56 = .ok (.iload_n 1, 1) := by decide +kernel
theorem dX12_oddsOf_57 : decode cX12_oddsOf 57 = .ok (.invokevirtual 439, 3) := by decide +kernel
theorem dX12_oddsOf_60 : decode cX12_oddsOf 60 = .ok (.istore 8, 2) := by decide +kernel
theorem dX12_oddsOf_62 : decode cX12_oddsOf 62 = .ok (.bipush 100, 2) := by decide +kernel
theorem dX12_oddsOf_64 : decode cX12_oddsOf 64 = .ok (.iload 7, 2) := by decide +kernel
theorem dX12_oddsOf_66 : decode cX12_oddsOf 66 = .ok (.isub, 1) := by decide +kernel
theorem dX12_oddsOf_67 : decode cX12_oddsOf 67 = .ok (.bipush 100, 2) := by decide +kernel
theorem dX12_oddsOf_69 : decode cX12_oddsOf 69 = .ok (.iload 8, 2) := by decide +kernel
theorem dX12_oddsOf_71 : decode cX12_oddsOf 71 = .ok (.isub, 1) := by decide +kernel
theorem dX12_oddsOf_72 : decode cX12_oddsOf 72 = .ok (.imul, 1) := by decide +kernel
theorem dX12_oddsOf_73 : decode cX12_oddsOf 73 = .ok (.istore 9, 2) := by decide +kernel
theorem dX12_oddsOf_75 : decode cX12_oddsOf 75 = .ok (.iload 9, 2) := by decide +kernel
theorem dX12_oddsOf_77 : decode cX12_oddsOf 77 = .ok (.iload 6, 2) := by decide +kernel
theorem dX12_oddsOf_79 : decode cX12_oddsOf 79 = .ok (.imul, 1) := by decide +kernel
theorem dX12_oddsOf_80 : decode cX12_oddsOf 80 = .ok (.bipush 100, 2) := by decide +kernel
theorem dX12_oddsOf_82 : decode cX12_oddsOf 82 = .ok (.idiv, 1) := by decide +kernel
theorem dX12_oddsOf_83 : decode cX12_oddsOf 83 = .ok (.istore 10, 2) := by decide +kernel
theorem dX12_oddsOf_85 : decode cX12_oddsOf 85 = .ok (.iload_n 3, 1) := by decide +kernel
theorem dX12_oddsOf_86 : decode cX12_oddsOf 86 = .ok (.ifCond .ne 17, 3) := by decide +kernel
theorem dX12_oddsOf_89 : decode cX12_oddsOf 89 = .ok (.bipush 100, 2) := by decide +kernel
theorem dX12_oddsOf_91 : decode cX12_oddsOf 91 = .ok (.iload 7, 2) := by decide +kernel
theorem dX12_oddsOf_93 : decode cX12_oddsOf 93 = .ok (.isub, 1) := by decide +kernel
theorem dX12_oddsOf_94 : decode cX12_oddsOf 94 = .ok (.iload 8, 2) := by decide +kernel
theorem dX12_oddsOf_96 : decode cX12_oddsOf 96 = .ok (.imul, 1) := by decide +kernel
theorem dX12_oddsOf_97 : decode cX12_oddsOf 97 = .ok (.iload 10, 2) := by decide +kernel
theorem dX12_oddsOf_99 : decode cX12_oddsOf 99 = .ok (.iadd, 1) := by decide +kernel
theorem dX12_oddsOf_100 : decode cX12_oddsOf 100 = .ok (.goto 17, 3) := by decide +kernel
theorem dX12_oddsOf_103 : decode cX12_oddsOf 103 = .ok (.iload 7, 2) := by decide +kernel
theorem dX12_oddsOf_105 : decode cX12_oddsOf 105 = .ok (.bipush 100, 2) := by decide +kernel
theorem dX12_oddsOf_107 : decode cX12_oddsOf 107 = .ok (.iload 8, 2) := by decide +kernel
theorem dX12_oddsOf_109 : decode cX12_oddsOf 109 = .ok (.isub, 1) := by decide +kernel
theorem dX12_oddsOf_110 : decode cX12_oddsOf 110 = .ok (.imul, 1) := by decide +kernel
theorem dX12_oddsOf_111 : decode cX12_oddsOf 111 = .ok (.iload 9, 2) := by decide +kernel
theorem dX12_oddsOf_113 : decode cX12_oddsOf 113 = .ok (.iadd, 1) := by decide +kernel
theorem dX12_oddsOf_114 : decode cX12_oddsOf 114 = .ok (.iload 10, 2) := by decide +kernel
theorem dX12_oddsOf_116 : decode cX12_oddsOf 116 = .ok (.isub, 1) := by decide +kernel
theorem dX12_oddsOf_117 : decode cX12_oddsOf 117 = .ok (.ireturn, 1) := by decide +kernel
theorem dX12_oddsAt_0 : decode cX12_oddsAt 0 = .ok (.aload_n 0, 1) := by decide +kernel
theorem dX12_oddsAt_1 : decode cX12_oddsAt 1 = .ok (.iload_n 1, 1) := by decide +kernel
theorem dX12_oddsAt_2 : decode cX12_oddsAt 2 = .ok (.aload_n 0, 1) := by decide +kernel
theorem dX12_oddsAt_3 : decode cX12_oddsAt 3 = .ok (.iload_n 1, 1) := by decide +kernel
theorem dX12_oddsAt_4 : decode cX12_oddsAt 4 = .ok (.invokevirtual 442, 3) := by decide +kernel
theorem dX12_oddsAt_7 : decode cX12_oddsAt 7 = .ok (.iload_n 2, 1) := by decide +kernel
theorem dX12_oddsAt_8 : decode cX12_oddsAt 8 = .ok (.invokevirtual 445, 3) := by decide +kernel
theorem dX12_oddsAt_11 : decode cX12_oddsAt 11 = .ok (.ireturn, 1) := by decide +kernel
theorem dX12_nobodyAt_0 : decode cX12_nobodyAt 0 = .ok (.sipush 10000, 3) := by decide +kernel
theorem dX12_nobodyAt_3 : decode cX12_nobodyAt 3 = .ok (.aload_n 0, 1) := by decide +kernel
theorem dX12_nobodyAt_4 : decode cX12_nobodyAt 4 = .ok (.iload_n 1, 1) := by decide +kernel
theorem dX12_nobodyAt_5 : decode cX12_nobodyAt 5 = .ok (.iconst 0, 1) := by decide +kernel
theorem dX12_nobodyAt_6 : decode cX12_nobodyAt 6 = .ok (.invokevirtual 448, 3) := by decide +kernel
theorem dX12_nobodyAt_9 : decode cX12_nobodyAt 9 = .ok (.isub, 1) := by decide +kernel
theorem dX12_nobodyAt_10 : decode cX12_nobodyAt 10 = .ok (.aload_n 0, 1) := by decide +kernel
theorem dX12_nobodyAt_11 : decode cX12_nobodyAt 11 = .ok (.iload_n 1, 1) := by decide +kernel
theorem dX12_nobodyAt_12 : decode cX12_nobodyAt 12 = .ok (.iconst 1, 1) := by decide +kernel
theorem dX12_nobodyAt_13 : decode cX12_nobodyAt 13 = .ok (.invokevirtual 448, 3) := by decide +kernel
theorem dX12_nobodyAt_16 : decode cX12_nobodyAt 16 = .ok (.isub, 1) := by decide +kernel
theorem dX12_nobodyAt_17 : decode cX12_nobodyAt 17 = .ok (.ireturn, 1) := by decide +kernel
theorem dX12_hatted_0 : decode cX12_hatted 0 = .ok (.iload 4, 2) := by decide +kernel
theorem dX12_hatted_2 : decode cX12_hatted 2 = .ok (.ifCond .ne 15, 3) := by decide +kernel
theorem dX12_hatted_5 : decode cX12_hatted 5 = .ok (.ldc2_w 451, 3) := by decide +kernel
theorem dX12_hatted_8 : decode cX12_hatted 8 = .ok (.lload_n 0, 1) := by decide +kernel
theorem dX12_hatted_9 : decode cX12_hatted 9 = .ok (.lsub, 1) := by decide +kernel
theorem dX12_hatted_10 : decode cX12_hatted 10 = .ok (.ldc2_w 451, 3) := by decide +kernel
theorem dX12_hatted_13 : decode cX12_hatted 13 = .ok (.lload_n 2, 1) := by decide +kernel
theorem dX12_hatted_14 : decode cX12_hatted 14 = .ok (.lsub, 1) := by decide +kernel
theorem dX12_hatted_15 : decode cX12_hatted 15 = .ok (.lmul, 1) := by decide +kernel
theorem dX12_hatted_16 : decode cX12_hatted 16 = .ok (.lreturn, 1) := by decide +kernel
theorem dX12_hatted_17 : decode cX12_hatted 17 = .ok (.iload 4, 2) := by decide +kernel
theorem dX12_hatted_19 : decode cX12_hatted 19 = .ok (.iconst 2, 1) := by decide +kernel
theorem dX12_hatted_20 : decode cX12_hatted 20 = .ok (.if_icmp .ne 9, 3) := by decide +kernel
theorem dX12_hatted_23 : decode cX12_hatted 23 = .ok (.lload_n 0, 1) := by decide +kernel
theorem dX12_hatted_24 : decode cX12_hatted 24 = .ok (.lload_n 2, 1) := by decide +kernel
theorem dX12_hatted_25 : decode cX12_hatted 25 = .ok (.lmul, 1) := by decide +kernel
theorem dX12_hatted_26 : decode cX12_hatted 26 = .ok (.goto 18, 3) := by decide +kernel
theorem dX12_hatted_29 : decode cX12_hatted 29 = .ok (.lload_n 0, 1) := by decide +kernel
theorem dX12_hatted_30 : decode cX12_hatted 30 = .ok (.ldc2_w 451, 3) := by decide +kernel
theorem dX12_hatted_33 : decode cX12_hatted 33 = .ok (.lload_n 2, 1) := by decide +kernel
theorem dX12_hatted_34 : decode cX12_hatted 34 = .ok (.lsub, 1) := by decide +kernel
theorem dX12_hatted_35 : decode cX12_hatted 35 = .ok (.lmul, 1) := by decide +kernel
theorem dX12_hatted_36 : decode cX12_hatted 36 = .ok (.ldc2_w 451, 3) := by decide +kernel
theorem dX12_hatted_39 : decode cX12_hatted 39 = .ok (.lload_n 0, 1) := by decide +kernel
theorem dX12_hatted_40 : decode cX12_hatted 40 = .ok (.lsub, 1) := by decide +kernel
theorem dX12_hatted_41 : decode cX12_hatted 41 = .ok (.lload_n 2, 1) := by decide +kernel
theorem dX12_hatted_42 : decode cX12_hatted 42 = .ok (.lmul, 1) := by decide +kernel
theorem dX12_hatted_43 : decode cX12_hatted 43 = .ok (.ladd, 1) := by decide +kernel
theorem dX12_hatted_44 : decode cX12_hatted 44 = .ok (.lreturn, 1) := by decide +kernel
theorem dX12_hattedAt_0 : decode cX12_hattedAt 0 = .ok (.aload_n 0, 1) := by decide +kernel
theorem dX12_hattedAt_1 : decode cX12_hattedAt 1 = .ok (.iload_n 1, 1) := by decide +kernel
theorem dX12_hattedAt_2 : decode cX12_hattedAt 2 = .ok (.iconst 0, 1) := by decide +kernel
theorem dX12_hattedAt_3 : decode cX12_hattedAt 3 = .ok (.invokevirtual 448, 3) := by decide +kernel
theorem dX12_hattedAt_6 : decode cX12_hattedAt 6 = .ok (.i2l, 1) := by decide +kernel
theorem dX12_hattedAt_7 : decode cX12_hattedAt 7 = .ok (.aload_n 0, 1) := by decide +kernel
theorem dX12_hattedAt_8 : decode cX12_hattedAt 8 = .ok (.aload_n 0, 1) := by decide +kernel
theorem dX12_hattedAt_9 : decode cX12_hattedAt 9 = .ok (.iload_n 1, 1) := by decide +kernel
theorem dX12_hattedAt_10 : decode cX12_hattedAt 10 = .ok (.invokevirtual 453, 3) := by decide +kernel
theorem dX12_hattedAt_13 : decode cX12_hattedAt 13 = .ok (.iconst 1, 1) := by decide +kernel
theorem dX12_hattedAt_14 : decode cX12_hattedAt 14 = .ok (.invokevirtual 448, 3) := by decide +kernel
theorem dX12_hattedAt_17 : decode cX12_hattedAt 17 = .ok (.i2l, 1) := by decide +kernel
theorem dX12_hattedAt_18 : decode cX12_hattedAt 18 = .ok (.iload_n 2, 1) := by decide +kernel
theorem dX12_hattedAt_19 : decode cX12_hattedAt 19 = .ok (.invokestatic 456, 3) := by decide +kernel
theorem dX12_hattedAt_22 : decode cX12_hattedAt 22 = .ok (.lreturn, 1) := by decide +kernel
theorem dX12_hatsAll_0 : decode cX12_hatsAll 0 = .ok (.iconst 0, 1) := by decide +kernel
theorem dX12_hatsAll_1 : decode cX12_hatsAll 1 = .ok (.istore_n 1, 1) := by decide +kernel
theorem dX12_hatsAll_2 : decode cX12_hatsAll 2 = .ok (.iconst 0, 1) := by decide +kernel
theorem dX12_hatsAll_3 : decode cX12_hatsAll 3 = .ok (.istore_n 2, 1) := by decide +kernel
theorem dX12_hatsAll_4 : decode cX12_hatsAll 4 = .ok (.iload_n 2, 1) := by decide +kernel
theorem dX12_hatsAll_5 : decode cX12_hatsAll 5 = .ok (.aload_n 0, 1) := by decide +kernel
theorem dX12_hatsAll_6 : decode cX12_hatsAll 6 = .ok (.invokevirtual 408, 3) := by decide +kernel
theorem dX12_hatsAll_9 : decode cX12_hatsAll 9 = .ok (.if_icmp .ge 17, 3) := by decide +kernel
theorem dX12_hatsAll_12 : decode cX12_hatsAll 12 = .ok (.iload_n 1, 1) := by decide +kernel
theorem dX12_hatsAll_13 : decode cX12_hatsAll 13 = .ok (.aload_n 0, 1) := by decide +kernel
theorem dX12_hatsAll_14 : decode cX12_hatsAll 14 = .ok (.iload_n 2, 1) := by decide +kernel
theorem dX12_hatsAll_15 : decode cX12_hatsAll 15 = .ok (.invokevirtual 460, 3) := by decide +kernel
theorem dX12_hatsAll_18 : decode cX12_hatsAll 18 = .ok (.iadd, 1) := by decide +kernel
theorem dX12_hatsAll_19 : decode cX12_hatsAll 19 = .ok (.istore_n 1, 1) := by decide +kernel
theorem dX12_hatsAll_20 : decode cX12_hatsAll 20 = .ok (.iinc 2 1, 3) := by decide +kernel
theorem dX12_hatsAll_23 : decode cX12_hatsAll 23 = .ok (.goto (-19), 3) := by decide +kernel
theorem dX12_hatsAll_26 : decode cX12_hatsAll 26 = .ok (.iload_n 1, 1) := by decide +kernel
theorem dX12_hatsAll_27 : decode cX12_hatsAll 27 = .ok (.ireturn, 1) := by decide +kernel
theorem dX12_hatless_0 : decode cX12_hatless 0 = .ok (.iconst 0, 1) := by decide +kernel
theorem dX12_hatless_1 : decode cX12_hatless 1 = .ok (.istore_n 1, 1) := by decide +kernel
theorem dX12_hatless_2 : decode cX12_hatless 2 = .ok (.iconst 0, 1) := by decide +kernel
theorem dX12_hatless_3 : decode cX12_hatless 3 = .ok (.istore_n 2, 1) := by decide +kernel
theorem dX12_hatless_4 : decode cX12_hatless 4 = .ok (.iload_n 2, 1) := by decide +kernel
theorem dX12_hatless_5 : decode cX12_hatless 5 = .ok (.aload_n 0, 1) := by decide +kernel
theorem dX12_hatless_6 : decode cX12_hatless 6 = .ok (.invokevirtual 408, 3) := by decide +kernel
theorem dX12_hatless_9 : decode cX12_hatless 9 = .ok (.if_icmp .ge 20, 3) := by decide +kernel
theorem dX12_hatless_12 : decode cX12_hatless 12 = .ok (.aload_n 0, 1) := by decide +kernel
theorem dX12_hatless_13 : decode cX12_hatless 13 = .ok (.iload_n 2, 1) := by decide +kernel
theorem dX12_hatless_14 : decode cX12_hatless 14 = .ok (.invokevirtual 460, 3) := by decide +kernel
theorem dX12_hatless_17 : decode cX12_hatless 17 = .ok (.ifCond .ne 6, 3) := by decide +kernel
theorem dX12_hatless_20 : decode cX12_hatless 20 = .ok (.iinc 1 1, 3) := by decide +kernel
theorem dX12_hatless_23 : decode cX12_hatless 23 = .ok (.iinc 2 1, 3) := by decide +kernel
theorem dX12_hatless_26 : decode cX12_hatless 26 = .ok (.goto (-22), 3) := by decide +kernel
theorem dX12_hatless_29 : decode cX12_hatless 29 = .ok (.iload_n 1, 1) := by decide +kernel
theorem dX12_hatless_30 : decode cX12_hatless 30 = .ok (.ireturn, 1) := by decide +kernel
theorem dX12_has_0 : decode cX12_has 0 = .ok (.iload_n 1, 1) := by decide +kernel
theorem dX12_has_1 : decode cX12_has 1 = .ok (.tableswitch 101 0 9 #[55, 60, 65, 70, 77, 77, 77, 86, 91, 96], 55) := by decide +kernel
theorem dX12_has_56 : decode cX12_has 56 = .ok (.aload_n 0, 1) := by decide +kernel
theorem dX12_has_57 : decode cX12_has 57 = .ok (.invokevirtual 408, 3) := by decide +kernel
theorem dX12_has_60 : decode cX12_has 60 = .ok (.ireturn, 1) := by decide +kernel
theorem dX12_has_61 : decode cX12_has 61 = .ok (.aload_n 0, 1) := by decide +kernel
theorem dX12_has_62 : decode cX12_has 62 = .ok (.invokevirtual 463, 3) := by decide +kernel
theorem dX12_has_65 : decode cX12_has 65 = .ok (.ireturn, 1) := by decide +kernel
theorem dX12_has_66 : decode cX12_has 66 = .ok (.aload_n 0, 1) := by decide +kernel
theorem dX12_has_67 : decode cX12_has 67 = .ok (.invokevirtual 466, 3) := by decide +kernel
theorem dX12_has_70 : decode cX12_has 70 = .ok (.ireturn, 1) := by decide +kernel
theorem dX12_has_71 : decode cX12_has 71 = .ok (.aload_n 0, 1) := by decide +kernel
theorem dX12_has_72 : decode cX12_has 72 = .ok (.getfield 106, 3) := by decide +kernel
theorem dX12_has_75 : decode cX12_has 75 = .ok (.iconst 1, 1) := by decide +kernel
theorem dX12_has_76 : decode cX12_has 76 = .ok (.iaload, 1) := by decide +kernel
theorem dX12_has_77 : decode cX12_has 77 = .ok (.ireturn, 1) := by decide +kernel
theorem dX12_has_78 : decode cX12_has 78 = .ok (.aload_n 0, 1) := by decide +kernel
theorem dX12_has_79 : decode cX12_has 79 = .ok (.getfield 127, 3) := by decide +kernel
theorem dX12_has_82 : decode cX12_has 82 = .ok (.iload_n 1, 1) := by decide +kernel
theorem dX12_has_83 : decode cX12_has 83 = .ok (.iconst 4, 1) := by decide +kernel
theorem dX12_has_84 : decode cX12_has 84 = .ok (.isub, 1) := by decide +kernel
theorem dX12_has_85 : decode cX12_has 85 = .ok (.iaload, 1) := by decide +kernel
theorem dX12_has_86 : decode cX12_has 86 = .ok (.ireturn, 1) := by decide +kernel
theorem dX12_has_87 : decode cX12_has 87 = .ok (.aload_n 0, 1) := by decide +kernel
theorem dX12_has_88 : decode cX12_has 88 = .ok (.invokevirtual 469, 3) := by decide +kernel
theorem dX12_has_91 : decode cX12_has 91 = .ok (.ireturn, 1) := by decide +kernel
theorem dX12_has_92 : decode cX12_has 92 = .ok (.aload_n 0, 1) := by decide +kernel
theorem dX12_has_93 : decode cX12_has 93 = .ok (.invokevirtual 472, 3) := by decide +kernel
theorem dX12_has_96 : decode cX12_has 96 = .ok (.ireturn, 1) := by decide +kernel
theorem dX12_has_97 : decode cX12_has 97 = .ok (.aload_n 0, 1) := by decide +kernel
theorem dX12_has_98 : decode cX12_has 98 = .ok (.getfield 359, 3) := by decide +kernel
theorem dX12_has_101 : decode cX12_has 101 = .ok (.ireturn, 1) := by decide +kernel
theorem dX12_has_102 : decode cX12_has 102 = .ok (.iconst (-1), 1) := by decide +kernel
theorem dX12_has_103 : decode cX12_has 103 = .ok (.ireturn, 1) := by decide +kernel
theorem dX12_letter_0 : decode cX12_letter 0 = .ok (.iload_n 1, 1) := by decide +kernel
theorem dX12_letter_1 : decode cX12_letter 1 = .ok (.i2l, 1) := by decide +kernel
theorem dX12_letter_2 : decode cX12_letter 2 = .ok (.lconst 0, 1) := by decide +kernel
theorem dX12_letter_3 : decode cX12_letter 3 = .ok (.lconst 1, 1) := by decide +kernel
theorem dX12_letter_4 : decode cX12_letter 4 = .ok (.invokestatic 276, 3) := by decide +kernel
theorem dX12_letter_7 : decode cX12_letter 7 = .ok (.ifCond .eq 35, 3) := by decide +kernel
theorem dX12_letter_10 : decode cX12_letter 10 = .ok (.iload_n 2, 1) := by decide +kernel
theorem dX12_letter_11 : decode cX12_letter 11 = .ok (.i2l, 1) := by decide +kernel
theorem dX12_letter_12 : decode cX12_letter 12 = .ok (.lconst 0, 1) := by decide +kernel
theorem dX12_letter_13 : decode cX12_letter 13 = .ok (.aload_n 0, 1) := by decide +kernel
theorem dX12_letter_14 : decode cX12_letter 14 = .ok (.getfield 93, 3) := by decide +kernel
theorem dX12_letter_17 : decode cX12_letter 17 = .ok (.iconst 2, 1) := by decide +kernel
theorem dX12_letter_18 : decode cX12_letter 18 = .ok (.iload_n 1, 1) := by decide +kernel
theorem dX12_letter_19 : decode cX12_letter 19 = .ok (.iadd, 1) := by decide +kernel
theorem dX12_letter_20 : decode cX12_letter 20 = .ok (.iaload, 1) := by decide +kernel
theorem dX12_letter_21 : decode cX12_letter 21 = .ok (.iconst 1, 1) := by decide +kernel
theorem dX12_letter_22 : decode cX12_letter 22 = .ok (.isub, 1) := by decide +kernel
theorem dX12_letter_23 : decode cX12_letter 23 = .ok (.i2l, 1) := by decide +kernel
theorem dX12_letter_24 : decode cX12_letter 24 = .ok (.invokestatic 276, 3) := by decide +kernel
theorem dX12_letter_27 : decode cX12_letter 27 = .ok (.ifCond .eq 15, 3) := by decide +kernel
theorem dX12_letter_30 : decode cX12_letter 30 = .ok (.iload_n 3, 1) := by decide +kernel
theorem dX12_letter_31 : decode cX12_letter 31 = .ok (.i2l, 1) := by decide +kernel
theorem dX12_letter_32 : decode cX12_letter 32 = .ok (.lconst 0, 1) := by decide +kernel
theorem dX12_letter_33 : decode cX12_letter 33 = .ok (.ldc2_w 475, 3) := by decide +kernel
theorem dX12_letter_36 : decode cX12_letter 36 = .ok (.invokestatic 276, 3) := by decide +kernel
theorem dX12_letter_39 : decode cX12_letter 39 = .ok (.ifCond .ne 5, 3) := by decide +kernel
theorem dX12_letter_42 : decode cX12_letter 42 = .ok (.iconst (-1), 1) := by decide +kernel
theorem dX12_letter_43 : decode cX12_letter 43 = .ok (.ireturn, 1) := by decide +kernel
theorem dX12_letter_44 : decode cX12_letter 44 = .ok (.aload_n 0, 1) := by decide +kernel
theorem dX12_letter_45 : decode cX12_letter 45 = .ok (.getfield 96, 3) := by decide +kernel
theorem dX12_letter_48 : decode cX12_letter 48 = .ok (.bipush 12, 2) := by decide +kernel
theorem dX12_letter_50 : decode cX12_letter 50 = .ok (.iload_n 1, 1) := by decide +kernel
theorem dX12_letter_51 : decode cX12_letter 51 = .ok (.ifCond .ne 11, 3) := by decide +kernel
theorem dX12_letter_54 : decode cX12_letter 54 = .ok (.aload_n 0, 1) := by decide +kernel
theorem dX12_letter_55 : decode cX12_letter 55 = .ok (.iload_n 2, 1) := by decide +kernel
theorem dX12_letter_56 : decode cX12_letter 56 = .ok (.invokevirtual 411, 3) := by decide +kernel
theorem dX12_letter_59 : decode cX12_letter 59 = .ok (.goto 7, 3) := by decide +kernel
theorem dX12_letter_62 : decode cX12_letter 62 = .ok (.bipush 8, 2) := by decide +kernel
theorem dX12_letter_64 : decode cX12_letter 64 = .ok (.iload_n 2, 1) := by decide +kernel
theorem dX12_letter_65 : decode cX12_letter 65 = .ok (.iadd, 1) := by decide +kernel
theorem dX12_letter_66 : decode cX12_letter 66 = .ok (.iadd, 1) := by decide +kernel
theorem dX12_letter_67 : decode cX12_letter 67 = .ok (.laload, 1) := by decide +kernel
theorem dX12_letter_68 : decode cX12_letter 68 = .ok (.lstore 4, 2) := by decide +kernel
theorem dX12_letter_70 : decode cX12_letter 70 = .ok (.iconst 0, 1) := by decide +kernel
theorem dX12_letter_71 : decode cX12_letter 71 = .ok (.istore 6, 2) := by decide +kernel
theorem dX12_letter_73 : decode cX12_letter 73 = .ok (.lload 4, 2) := by decide +kernel
theorem dX12_letter_75 : decode cX12_letter 75 = .ok (.lstore 7, 2) := by decide +kernel
theorem dX12_letter_77 : decode cX12_letter 77 = .ok (.lload 7, 2) := by decide +kernel
theorem dX12_letter_79 : decode cX12_letter 79 = .ok (.lconst 0, 1) := by decide +kernel
theorem dX12_letter_80 : decode cX12_letter 80 = .ok (.lcmp, 1) := by decide +kernel
theorem dX12_letter_81 : decode cX12_letter 81 = .ok (.ifCond .le 17, 3) := by decide +kernel
theorem dX12_letter_84 : decode cX12_letter 84 = .ok (.iinc 6 1, 3) := by decide +kernel
theorem dX12_letter_87 : decode cX12_letter 87 = .ok (.lload 7, 2) := by decide +kernel
theorem dX12_letter_89 : decode cX12_letter 89 = .ok (.ldc2_w 287, 3) := by decide +kernel
theorem dX12_letter_92 : decode cX12_letter 92 = .ok (.ldiv, 1) := by decide +kernel
theorem dX12_letter_93 : decode cX12_letter 93 = .ok (.lstore 7, 2) := by decide +kernel
theorem dX12_letter_95 : decode cX12_letter 95 = .ok (.goto (-18), 3) := by decide +kernel
theorem dX12_letter_98 : decode cX12_letter 98 = .ok (.iload_n 3, 1) := by decide +kernel
theorem dX12_letter_99 : decode cX12_letter 99 = .ok (.iload 6, 2) := by decide +kernel
theorem dX12_letter_101 : decode cX12_letter 101 = .ok (.if_icmp .lt 5, 3) := by decide +kernel
theorem dX12_letter_104 : decode cX12_letter 104 = .ok (.iconst 0, 1) := by decide +kernel
theorem dX12_letter_105 : decode cX12_letter 105 = .ok (.ireturn, 1) := by decide +kernel
theorem dX12_letter_106 : decode cX12_letter 106 = .ok (.iload 6, 2) := by decide +kernel
theorem dX12_letter_108 : decode cX12_letter 108 = .ok (.iconst 1, 1) := by decide +kernel
theorem dX12_letter_109 : decode cX12_letter 109 = .ok (.isub, 1) := by decide +kernel
theorem dX12_letter_110 : decode cX12_letter 110 = .ok (.istore 7, 2) := by decide +kernel
theorem dX12_letter_112 : decode cX12_letter 112 = .ok (.iload 7, 2) := by decide +kernel
