section
variable {w : zWo} {G : zG} {M : zMI} {L : zML} {R : zMR} {L0 a : Nat} {xs : Nat → Int32}
theorem lc_feed (hX : zXs w G L0 xs) (ha : a + 6 ≤ L0) (hT : zTie M L R) (k : ∀ (M2 : zMI) (L2 : zML) (R2 : zMR), zTie M2 L2 R2 → WP w YL_law BL G none 1043 (lloc a) [] SS M2 L2 R2) : WP w YL_law BL G none 176 (lloc a) [] SS M L R := by
  refine wp_aload_n (k := 1) dL_law_176 2 rfl rfl ?_
  refine wpl_arg (k := 1) hX (by decide) rfl ha dL_law_177 dL_law_178 dL_law_179 dL_law_180 dL_law_181 rfl ?_
  refine wpl_arg (k := 2) hX (by decide) rfl ha dL_law_182 dL_law_183 dL_law_184 dL_law_185 dL_law_186 rfl ?_
  refine wpl_arg (k := 3) hX (by decide) rfl ha dL_law_187 dL_law_188 dL_law_189 dL_law_190 dL_law_191 rfl ?_
  refine wpl_arg (k := 4) hX (by decide) rfl ha dL_law_192 dL_law_193 dL_law_194 dL_law_195 dL_law_196 rfl ?_
  refine wpl_arg (k := 5) hX (by decide) rfl ha dL_law_197 dL_law_198 dL_law_199 dL_law_200 dL_law_201 rfl ?_
  refine wpl_cv (as := [.int (zarg xs a 1), .int (zarg xs a 2), .int (zarg xs a 3), .int (zarg xs a 4), .int (zarg xs a 5)]) (o := 0) (st := []) (pr_feed (d := 800) M L R hT) zm_X11_feed zl_RL_13 dL_law_202 rfl (by decide) (by decide) zsh_0 rfl rfl ?_
  rintro _ M1 L1 R1 ⟨x, rfl, hB⟩
  refine wp_aload_n (k := 2) dL_law_205 1 rfl rfl ?_
  refine wpl_arg (k := 1) hX (by decide) rfl ha dL_law_206 dL_law_207 dL_law_208 dL_law_209 dL_law_210 rfl ?_
  refine wpl_arg (k := 2) hX (by decide) rfl ha dL_law_211 dL_law_212 dL_law_213 dL_law_214 dL_law_215 rfl ?_
  refine wpl_arg (k := 3) hX (by decide) rfl ha dL_law_216 dL_law_217 dL_law_218 dL_law_219 dL_law_220 rfl ?_
  refine wpl_arg (k := 4) hX (by decide) rfl ha dL_law_221 dL_law_222 dL_law_223 dL_law_224 dL_law_225 rfl ?_
  refine wpl_arg (k := 5) hX (by decide) rfl ha dL_law_226 dL_law_227 dL_law_228 dL_law_229 dL_law_230 rfl ?_
  refine wpl_cv (as := [.int (zarg xs a 1), .int (zarg xs a 2), .int (zarg xs a 3), .int (zarg xs a 4), .int (zarg xs a 5)]) (o := 177) (st := [.int x]) hB zm_X12_feed zl_RL_17 dL_law_231 rfl (by decide) (show 1 ≤ 8 by decide) zsh_177 rfl rfl ?_
  rintro _ M2 L2 R2 ⟨rfl, hT2⟩
  exact wp_icmp_eq (tgt := 1043) dL_law_234 rfl rfl (fun _ => k M2 L2 R2 hT2) (fun h => absurd rfl h)
theorem lc_end (hX : zXs w G L0 xs) (ha : a + 6 ≤ L0) (hT : zTie M L R) (k : ∀ (M2 : zMI) (L2 : zML) (R2 : zMR), zTie M2 L2 R2 → WP w YL_law BL G none 1043 (lloc a) [] SS M2 L2 R2) : WP w YL_law BL G none 239 (lloc a) [] SS M L R := by
  refine wp_aload_n (k := 1) dL_law_239 2 rfl rfl ?_
  refine wpl_arg (k := 1) hX (by decide) rfl ha dL_law_240 dL_law_241 dL_law_242 dL_law_243 dL_law_244 rfl ?_
  refine wpl_cv (as := [.int (zarg xs a 1)]) (o := 0) (st := []) (pr_end (d := 800) M L R hT) zm_X11_end zl_RL_18 dL_law_245 rfl (by decide) (by decide) zsh_0 rfl rfl ?_
  rintro _ M1 L1 R1 ⟨x, rfl, hB⟩
  refine wp_aload_n (k := 2) dL_law_248 1 rfl rfl ?_
  refine wpl_arg (k := 1) hX (by decide) rfl ha dL_law_249 dL_law_250 dL_law_251 dL_law_252 dL_law_253 rfl ?_
  refine wpl_cv (as := [.int (zarg xs a 1)]) (o := 177) (st := [.int x]) hB zm_X12_end zl_RL_22 dL_law_254 rfl (by decide) (show 1 ≤ 8 by decide) zsh_177 rfl rfl ?_
  rintro _ M2 L2 R2 ⟨rfl, hT2⟩
  exact wp_icmp_eq (tgt := 1043) dL_law_257 rfl rfl (fun _ => k M2 L2 R2 hT2) (fun h => absurd rfl h)
theorem lc_table (hX : zXs w G L0 xs) (ha : a + 6 ≤ L0) (hT : zTie M L R) (k : ∀ (M2 : zMI) (L2 : zML) (R2 : zMR), zTie M2 L2 R2 → WP w YL_law BL G none 1043 (lloc a) [] SS M2 L2 R2) : WP w YL_law BL G none 262 (lloc a) [] SS M L R := by
  refine wp_aload_n (k := 1) dL_law_262 2 rfl rfl ?_
  refine wpl_cv (as := []) (o := 0) (st := []) (pr_table (d := 800) M L R hT) zm_X11_table zl_RL_23 dL_law_263 rfl (by decide) (by decide) zsh_0 rfl rfl ?_
  rintro _ M1 L1 R1 ⟨x, rfl, hB⟩
  refine wp_aload_n (k := 2) dL_law_266 1 rfl rfl ?_
  refine wpl_cv (as := []) (o := 177) (st := [.int x]) hB zm_X12_table zl_RL_27 dL_law_267 rfl (by decide) (show 1 ≤ 8 by decide) zsh_177 rfl rfl ?_
  rintro _ M2 L2 R2 ⟨rfl, hT2⟩
  exact wp_icmp_eq (tgt := 1043) dL_law_270 rfl rfl (fun _ => k M2 L2 R2 hT2) (fun h => absurd rfl h)
theorem lc_fault (hX : zXs w G L0 xs) (ha : a + 6 ≤ L0) (hT : zTie M L R) (k : ∀ (M2 : zMI) (L2 : zML) (R2 : zMR), zTie M2 L2 R2 → WP w YL_law BL G none 1043 (lloc a) [] SS M2 L2 R2) : WP w YL_law BL G none 275 (lloc a) [] SS M L R := by
  refine wp_aload_n (k := 1) dL_law_275 2 rfl rfl ?_
  refine wpl_arg (k := 1) hX (by decide) rfl ha dL_law_276 dL_law_277 dL_law_278 dL_law_279 dL_law_280 rfl ?_
  refine wpl_cv (as := [.int (zarg xs a 1)]) (o := 0) (st := []) (pr_fault (d := 800) M L R hT) zm_X11_fault zl_RL_28 dL_law_281 rfl (by decide) (by decide) zsh_0 rfl rfl ?_
  rintro _ M1 L1 R1 ⟨x, rfl, hB⟩
  refine wp_aload_n (k := 2) dL_law_284 1 rfl rfl ?_
  refine wpl_arg (k := 1) hX (by decide) rfl ha dL_law_285 dL_law_286 dL_law_287 dL_law_288 dL_law_289 rfl ?_
  refine wpl_cv (as := [.int (zarg xs a 1)]) (o := 177) (st := [.int x]) hB zm_X12_fault zl_RL_32 dL_law_290 rfl (by decide) (show 1 ≤ 8 by decide) zsh_177 rfl rfl ?_
  rintro _ M2 L2 R2 ⟨rfl, hT2⟩
  exact wp_icmp_eq (tgt := 1043) dL_law_293 rfl rfl (fun _ => k M2 L2 R2 hT2) (fun h => absurd rfl h)
theorem lc_has (hX : zXs w G L0 xs) (ha : a + 6 ≤ L0) (hT : zTie M L R) (k : ∀ (M2 : zMI) (L2 : zML) (R2 : zMR), zTie M2 L2 R2 → WP w YL_law BL G none 1043 (lloc a) [] SS M2 L2 R2) : WP w YL_law BL G none 298 (lloc a) [] SS M L R := by
  refine wp_aload_n (k := 1) dL_law_298 2 rfl rfl ?_
  refine wpl_arg (k := 1) hX (by decide) rfl ha dL_law_299 dL_law_300 dL_law_301 dL_law_302 dL_law_303 rfl ?_
  refine wpl_cv (as := [.int (zarg xs a 1)]) (o := 0) (st := []) (pr_has (d := 800) M L R hT) zm_X11_has zl_RL_33 dL_law_304 rfl (by decide) (by decide) zsh_0 rfl rfl ?_
  rintro _ M1 L1 R1 ⟨x, rfl, hB⟩
  refine wp_aload_n (k := 2) dL_law_307 1 rfl rfl ?_
  refine wpl_arg (k := 1) hX (by decide) rfl ha dL_law_308 dL_law_309 dL_law_310 dL_law_311 dL_law_312 rfl ?_
  refine wpl_cv (as := [.int (zarg xs a 1)]) (o := 177) (st := [.int x]) hB zm_X12_has zl_RL_36 dL_law_313 rfl (by decide) (show 1 ≤ 8 by decide) zsh_177 rfl rfl ?_
  rintro _ M2 L2 R2 ⟨rfl, hT2⟩
  exact wp_icmp_eq (tgt := 1043) dL_law_316 rfl rfl (fun _ => k M2 L2 R2 hT2) (fun h => absurd rfl h)
theorem lc_letter (hX : zXs w G L0 xs) (ha : a + 6 ≤ L0) (hT : zTie M L R) (k : ∀ (M2 : zMI) (L2 : zML) (R2 : zMR), zTie M2 L2 R2 → WP w YL_law BL G none 1043 (lloc a) [] SS M2 L2 R2) : WP w YL_law BL G none 321 (lloc a) [] SS M L R := by
  refine wp_aload_n (k := 1) dL_law_321 2 rfl rfl ?_
  refine wpl_arg (k := 1) hX (by decide) rfl ha dL_law_322 dL_law_323 dL_law_324 dL_law_325 dL_law_326 rfl ?_
  refine wpl_arg (k := 2) hX (by decide) rfl ha dL_law_327 dL_law_328 dL_law_329 dL_law_330 dL_law_331 rfl ?_
  refine wpl_arg (k := 3) hX (by decide) rfl ha dL_law_332 dL_law_333 dL_law_334 dL_law_335 dL_law_336 rfl ?_
  refine wpl_cv (as := [.int (zarg xs a 1), .int (zarg xs a 2), .int (zarg xs a 3)]) (o := 0) (st := []) (pr_letter (d := 800) M L R hT) zm_X11_letter zl_RL_37 dL_law_337 rfl (by decide) (by decide) zsh_0 rfl rfl ?_
  rintro _ M1 L1 R1 ⟨x, rfl, hB⟩
  refine wp_aload_n (k := 2) dL_law_340 1 rfl rfl ?_
  refine wpl_arg (k := 1) hX (by decide) rfl ha dL_law_341 dL_law_342 dL_law_343 dL_law_344 dL_law_345 rfl ?_
  refine wpl_arg (k := 2) hX (by decide) rfl ha dL_law_346 dL_law_347 dL_law_348 dL_law_349 dL_law_350 rfl ?_
  refine wpl_arg (k := 3) hX (by decide) rfl ha dL_law_351 dL_law_352 dL_law_353 dL_law_354 dL_law_355 rfl ?_
  refine wpl_cv (as := [.int (zarg xs a 1), .int (zarg xs a 2), .int (zarg xs a 3)]) (o := 177) (st := [.int x]) hB zm_X12_letter zl_RL_41 dL_law_356 rfl (by decide) (show 1 ≤ 8 by decide) zsh_177 rfl rfl ?_
  rintro _ M2 L2 R2 ⟨rfl, hT2⟩
  exact wp_icmp_eq (tgt := 1043) dL_law_359 rfl rfl (fun _ => k M2 L2 R2 hT2) (fun h => absurd rfl h)
theorem lc_seat (hX : zXs w G L0 xs) (ha : a + 6 ≤ L0) (hT : zTie M L R) (k : ∀ (M2 : zMI) (L2 : zML) (R2 : zMR), zTie M2 L2 R2 → WP w YL_law BL G none 1043 (lloc a) [] SS M2 L2 R2) : WP w YL_law BL G none 364 (lloc a) [] SS M L R := by
  refine wp_aload_n (k := 1) dL_law_364 2 rfl rfl ?_
  refine wpl_arg (k := 1) hX (by decide) rfl ha dL_law_365 dL_law_366 dL_law_367 dL_law_368 dL_law_369 rfl ?_
  refine wpl_arg (k := 2) hX (by decide) rfl ha dL_law_370 dL_law_371 dL_law_372 dL_law_373 dL_law_374 rfl ?_
  refine wpl_cv (as := [.int (zarg xs a 1), .int (zarg xs a 2)]) (o := 0) (st := []) (pr_seat (d := 800) M L R hT) zm_X11_seat zl_RL_42 dL_law_375 rfl (by decide) (by decide) zsh_0 rfl rfl ?_
  rintro _ M1 L1 R1 ⟨x, rfl, hB⟩
  refine wp_aload_n (k := 2) dL_law_378 1 rfl rfl ?_
  refine wpl_arg (k := 1) hX (by decide) rfl ha dL_law_379 dL_law_380 dL_law_381 dL_law_382 dL_law_383 rfl ?_
  refine wpl_arg (k := 2) hX (by decide) rfl ha dL_law_384 dL_law_385 dL_law_386 dL_law_387 dL_law_388 rfl ?_
  refine wpl_cv (as := [.int (zarg xs a 1), .int (zarg xs a 2)]) (o := 177) (st := [.int x]) hB zm_X12_seat zl_RL_46 dL_law_389 rfl (by decide) (show 1 ≤ 8 by decide) zsh_177 rfl rfl ?_
  rintro _ M2 L2 R2 ⟨rfl, hT2⟩
  exact wp_icmp_eq (tgt := 1043) dL_law_392 rfl rfl (fun _ => k M2 L2 R2 hT2) (fun h => absurd rfl h)
theorem lc_box (hX : zXs w G L0 xs) (ha : a + 6 ≤ L0) (hT : zTie M L R) (k : ∀ (M2 : zMI) (L2 : zML) (R2 : zMR), zTie M2 L2 R2 → WP w YL_law BL G none 1043 (lloc a) [] SS M2 L2 R2) : WP w YL_law BL G none 397 (lloc a) [] SS M L R := by
  refine wp_aload_n (k := 1) dL_law_397 2 rfl rfl ?_
  refine wpl_arg (k := 1) hX (by decide) rfl ha dL_law_398 dL_law_399 dL_law_400 dL_law_401 dL_law_402 rfl ?_
  refine wpl_cv (as := [.int (zarg xs a 1)]) (o := 0) (st := []) (pr_box (d := 800) M L R hT) zm_X11_box zl_RL_47 dL_law_403 rfl (by decide) (by decide) zsh_0 rfl rfl ?_
  rintro _ M1 L1 R1 ⟨x, rfl, hB⟩
  refine wp_aload_n (k := 2) dL_law_406 1 rfl rfl ?_
  refine wpl_arg (k := 1) hX (by decide) rfl ha dL_law_407 dL_law_408 dL_law_409 dL_law_410 dL_law_411 rfl ?_
  refine wpl_cv (as := [.int (zarg xs a 1)]) (o := 177) (st := [.int x]) hB zm_X12_box zl_RL_50 dL_law_412 rfl (by decide) (show 1 ≤ 8 by decide) zsh_177 rfl rfl ?_
  rintro _ M2 L2 R2 ⟨rfl, hT2⟩
  exact wp_icmp_eq (tgt := 1043) dL_law_415 rfl rfl (fun _ => k M2 L2 R2 hT2) (fun h => absurd rfl h)
theorem lc_cracker (hX : zXs w G L0 xs) (ha : a + 6 ≤ L0) (hT : zTie M L R) (k : ∀ (M2 : zMI) (L2 : zML) (R2 : zMR), zTie M2 L2 R2 → WP w YL_law BL G none 1043 (lloc a) [] SS M2 L2 R2) : WP w YL_law BL G none 420 (lloc a) [] SS M L R := by
  refine wp_aload_n (k := 1) dL_law_420 2 rfl rfl ?_
  refine wpl_arg (k := 1) hX (by decide) rfl ha dL_law_421 dL_law_422 dL_law_423 dL_law_424 dL_law_425 rfl ?_
  refine wpl_arg (k := 2) hX (by decide) rfl ha dL_law_426 dL_law_427 dL_law_428 dL_law_429 dL_law_430 rfl ?_
  refine wpl_cv (as := [.int (zarg xs a 1), .int (zarg xs a 2)]) (o := 0) (st := []) (pr_cracker (d := 800) M L R hT) zm_X11_cracker zl_RL_51 dL_law_431 rfl (by decide) (by decide) zsh_0 rfl rfl ?_
  rintro _ M1 L1 R1 ⟨x, rfl, hB⟩
  refine wp_aload_n (k := 2) dL_law_434 1 rfl rfl ?_
  refine wpl_arg (k := 1) hX (by decide) rfl ha dL_law_435 dL_law_436 dL_law_437 dL_law_438 dL_law_439 rfl ?_
  refine wpl_arg (k := 2) hX (by decide) rfl ha dL_law_440 dL_law_441 dL_law_442 dL_law_443 dL_law_444 rfl ?_
  refine wpl_cv (as := [.int (zarg xs a 1), .int (zarg xs a 2)]) (o := 177) (st := [.int x]) hB zm_X12_cracker zl_RL_54 dL_law_445 rfl (by decide) (show 1 ≤ 8 by decide) zsh_177 rfl rfl ?_
  rintro _ M2 L2 R2 ⟨rfl, hT2⟩
  exact wp_icmp_eq (tgt := 1043) dL_law_448 rfl rfl (fun _ => k M2 L2 R2 hT2) (fun h => absurd rfl h)
theorem lc_odds (hX : zXs w G L0 xs) (ha : a + 6 ≤ L0) (hT : zTie M L R) (k : ∀ (M2 : zMI) (L2 : zML) (R2 : zMR), zTie M2 L2 R2 → WP w YL_law BL G none 1043 (lloc a) [] SS M2 L2 R2) : WP w YL_law BL G none 453 (lloc a) [] SS M L R := by
  refine wp_aload_n (k := 1) dL_law_453 2 rfl rfl ?_
  refine wpl_arg (k := 1) hX (by decide) rfl ha dL_law_454 dL_law_455 dL_law_456 dL_law_457 dL_law_458 rfl ?_
  refine wpl_arg (k := 2) hX (by decide) rfl ha dL_law_459 dL_law_460 dL_law_461 dL_law_462 dL_law_463 rfl ?_
  refine wpl_cv (as := [.int (zarg xs a 1), .int (zarg xs a 2)]) (o := 0) (st := []) (pr_odds (d := 800) M L R hT) zm_X11_odds zl_RL_55 dL_law_464 rfl (by decide) (by decide) zsh_0 rfl rfl ?_
  rintro _ M1 L1 R1 ⟨x, rfl, hB⟩
  refine wp_aload_n (k := 2) dL_law_467 1 rfl rfl ?_
  refine wpl_arg (k := 1) hX (by decide) rfl ha dL_law_468 dL_law_469 dL_law_470 dL_law_471 dL_law_472 rfl ?_
  refine wpl_arg (k := 2) hX (by decide) rfl ha dL_law_473 dL_law_474 dL_law_475 dL_law_476 dL_law_477 rfl ?_
  refine wpl_cv (as := [.int (zarg xs a 1), .int (zarg xs a 2)]) (o := 177) (st := [.int x]) hB zm_X12_odds zl_RL_58 dL_law_478 rfl (by decide) (show 1 ≤ 8 by decide) zsh_177 rfl rfl ?_
  rintro _ M2 L2 R2 ⟨rfl, hT2⟩
  exact wp_icmp_eq (tgt := 1043) dL_law_481 rfl rfl (fun _ => k M2 L2 R2 hT2) (fun h => absurd rfl h)
theorem lc_mean (hX : zXs w G L0 xs) (ha : a + 6 ≤ L0) (hT : zTie M L R) (k : ∀ (M2 : zMI) (L2 : zML) (R2 : zMR), zTie M2 L2 R2 → WP w YL_law BL G none 1043 (lloc a) [] SS M2 L2 R2) : WP w YL_law BL G none 486 (lloc a) [] SS M L R := by
  refine wp_aload_n (k := 1) dL_law_486 2 rfl rfl ?_
  refine wpl_arg (k := 1) hX (by decide) rfl ha dL_law_487 dL_law_488 dL_law_489 dL_law_490 dL_law_491 rfl ?_
  refine wpl_cv (as := [.int (zarg xs a 1)]) (o := 0) (st := []) (pr_mean (d := 800) M L R hT) zm_X11_mean zl_RL_59 dL_law_492 rfl (by decide) (by decide) zsh_0 rfl rfl ?_
  rintro _ M1 L1 R1 ⟨x, rfl, hB⟩
  refine wp_aload_n (k := 2) dL_law_495 1 rfl rfl ?_
  refine wpl_arg (k := 1) hX (by decide) rfl ha dL_law_496 dL_law_497 dL_law_498 dL_law_499 dL_law_500 rfl ?_
  refine wpl_cv (as := [.int (zarg xs a 1)]) (o := 177) (st := [.int x]) hB zm_X12_mean zl_RL_62 dL_law_501 rfl (by decide) (show 1 ≤ 8 by decide) zsh_177 rfl rfl ?_
  rintro _ M2 L2 R2 ⟨rfl, hT2⟩
  exact wp_icmp_eq (tgt := 1043) dL_law_504 rfl rfl (fun _ => k M2 L2 R2 hT2) (fun h => absurd rfl h)
theorem lc_most (hX : zXs w G L0 xs) (ha : a + 6 ≤ L0) (hT : zTie M L R) (k : ∀ (M2 : zMI) (L2 : zML) (R2 : zMR), zTie M2 L2 R2 → WP w YL_law BL G none 1043 (lloc a) [] SS M2 L2 R2) : WP w YL_law BL G none 509 (lloc a) [] SS M L R := by
  refine wp_aload_n (k := 1) dL_law_509 2 rfl rfl ?_
  refine wpl_cv (as := []) (o := 0) (st := []) (pr_most (d := 800) M L R hT) zm_X11_most zl_RL_63 dL_law_510 rfl (by decide) (by decide) zsh_0 rfl rfl ?_
  rintro _ M1 L1 R1 ⟨x, rfl, hB⟩
  refine wp_aload_n (k := 2) dL_law_513 1 rfl rfl ?_
  refine wpl_cv (as := []) (o := 177) (st := [.int x]) hB zm_X12_most zl_RL_66 dL_law_514 rfl (by decide) (show 1 ≤ 8 by decide) zsh_177 rfl rfl ?_
  rintro _ M2 L2 R2 ⟨rfl, hT2⟩
  exact wp_icmp_eq (tgt := 1043) dL_law_517 rfl rfl (fun _ => k M2 L2 R2 hT2) (fun h => absurd rfl h)
theorem lc_seats (hX : zXs w G L0 xs) (ha : a + 6 ≤ L0) (hT : zTie M L R) (k : ∀ (M2 : zMI) (L2 : zML) (R2 : zMR), zTie M2 L2 R2 → WP w YL_law BL G none 1043 (lloc a) [] SS M2 L2 R2) : WP w YL_law BL G none 522 (lloc a) [] SS M L R := by
  refine wp_aload_n (k := 1) dL_law_522 2 rfl rfl ?_
  refine wpl_arg (k := 1) hX (by decide) rfl ha dL_law_523 dL_law_524 dL_law_525 dL_law_526 dL_law_527 rfl ?_
  refine wpl_cv (as := [.int (zarg xs a 1)]) (o := 0) (st := []) (pr_seats (d := 800) M L R hT) zm_X11_seats zl_RL_67 dL_law_528 rfl (by decide) (by decide) zsh_0 rfl rfl ?_
  rintro _ M1 L1 R1 ⟨x, rfl, hB⟩
  refine wp_aload_n (k := 2) dL_law_531 1 rfl rfl ?_
  refine wpl_arg (k := 1) hX (by decide) rfl ha dL_law_532 dL_law_533 dL_law_534 dL_law_535 dL_law_536 rfl ?_
  refine wpl_cv (as := [.int (zarg xs a 1)]) (o := 177) (st := [.int x]) hB zm_X12_seats zl_RL_70 dL_law_537 rfl (by decide) (show 1 ≤ 8 by decide) zsh_177 rfl rfl ?_
  rintro _ M2 L2 R2 ⟨rfl, hT2⟩
  exact wp_icmp_eq (tgt := 1043) dL_law_540 rfl rfl (fun _ => k M2 L2 R2 hT2) (fun h => absurd rfl h)
theorem lc_best (hX : zXs w G L0 xs) (ha : a + 6 ≤ L0) (hT : zTie M L R) (k : ∀ (M2 : zMI) (L2 : zML) (R2 : zMR), zTie M2 L2 R2 → WP w YL_law BL G none 1043 (lloc a) [] SS M2 L2 R2) : WP w YL_law BL G none 545 (lloc a) [] SS M L R := by
  refine wp_aload_n (k := 1) dL_law_545 2 rfl rfl ?_
  refine wpl_arg (k := 1) hX (by decide) rfl ha dL_law_546 dL_law_547 dL_law_548 dL_law_549 dL_law_550 rfl ?_
  refine wpl_arg (k := 2) hX (by decide) rfl ha dL_law_551 dL_law_552 dL_law_553 dL_law_554 dL_law_555 rfl ?_
  refine wpl_arg (k := 3) hX (by decide) rfl ha dL_law_556 dL_law_557 dL_law_558 dL_law_559 dL_law_560 rfl ?_
  refine wpl_cv (as := [.int (zarg xs a 1), .int (zarg xs a 2), .int (zarg xs a 3)]) (o := 0) (st := []) (pr_best (d := 800) M L R hT) zm_X11_best zl_RL_71 dL_law_561 rfl (by decide) (by decide) zsh_0 rfl rfl ?_
  rintro _ M1 L1 R1 ⟨x, rfl, hB⟩
  refine wp_aload_n (k := 2) dL_law_564 1 rfl rfl ?_
  refine wpl_arg (k := 1) hX (by decide) rfl ha dL_law_565 dL_law_566 dL_law_567 dL_law_568 dL_law_569 rfl ?_
  refine wpl_arg (k := 2) hX (by decide) rfl ha dL_law_570 dL_law_571 dL_law_572 dL_law_573 dL_law_574 rfl ?_
  refine wpl_arg (k := 3) hX (by decide) rfl ha dL_law_575 dL_law_576 dL_law_577 dL_law_578 dL_law_579 rfl ?_
  refine wpl_cv (as := [.int (zarg xs a 1), .int (zarg xs a 2), .int (zarg xs a 3)]) (o := 177) (st := [.int x]) hB zm_X12_best zl_RL_74 dL_law_580 rfl (by decide) (show 1 ≤ 8 by decide) zsh_177 rfl rfl ?_
  rintro _ M2 L2 R2 ⟨rfl, hT2⟩
  exact wp_icmp_eq (tgt := 1043) dL_law_583 rfl rfl (fun _ => k M2 L2 R2 hT2) (fun h => absurd rfl h)
theorem lc_rests (hX : zXs w G L0 xs) (ha : a + 6 ≤ L0) (hT : zTie M L R) (k : ∀ (M2 : zMI) (L2 : zML) (R2 : zMR), zTie M2 L2 R2 → WP w YL_law BL G none 1043 (lloc a) [] SS M2 L2 R2) : WP w YL_law BL G none 588 (lloc a) [] SS M L R := by
  refine wp_aload_n (k := 1) dL_law_588 2 rfl rfl ?_
  refine wpl_arg (k := 1) hX (by decide) rfl ha dL_law_589 dL_law_590 dL_law_591 dL_law_592 dL_law_593 rfl ?_
  refine wpl_arg (k := 2) hX (by decide) rfl ha dL_law_594 dL_law_595 dL_law_596 dL_law_597 dL_law_598 rfl ?_
  refine wpl_cv (as := [.int (zarg xs a 1), .int (zarg xs a 2)]) (o := 0) (st := []) (pr_rests (d := 800) M L R hT) zm_X11_rests zl_RL_75 dL_law_599 rfl (by decide) (by decide) zsh_0 rfl rfl ?_
  rintro _ M1 L1 R1 ⟨x, rfl, hB⟩
  refine wp_aload_n (k := 2) dL_law_602 1 rfl rfl ?_
  refine wpl_arg (k := 1) hX (by decide) rfl ha dL_law_603 dL_law_604 dL_law_605 dL_law_606 dL_law_607 rfl ?_
  refine wpl_arg (k := 2) hX (by decide) rfl ha dL_law_608 dL_law_609 dL_law_610 dL_law_611 dL_law_612 rfl ?_
  refine wpl_cv (as := [.int (zarg xs a 1), .int (zarg xs a 2)]) (o := 177) (st := [.int x]) hB zm_X12_rests zl_RL_78 dL_law_613 rfl (by decide) (show 1 ≤ 8 by decide) zsh_177 rfl rfl ?_
  rintro _ M2 L2 R2 ⟨rfl, hT2⟩
  exact wp_icmp_eq (tgt := 1043) dL_law_616 rfl rfl (fun _ => k M2 L2 R2 hT2) (fun h => absurd rfl h)
theorem lc_thumb (hX : zXs w G L0 xs) (ha : a + 6 ≤ L0) (hT : zTie M L R) (k : ∀ (M2 : zMI) (L2 : zML) (R2 : zMR), zTie M2 L2 R2 → WP w YL_law BL G none 1043 (lloc a) [] SS M2 L2 R2) : WP w YL_law BL G none 621 (lloc a) [] SS M L R := by
  refine wp_aload_n (k := 1) dL_law_621 2 rfl rfl ?_
  refine wpl_arg (k := 1) hX (by decide) rfl ha dL_law_622 dL_law_623 dL_law_624 dL_law_625 dL_law_626 rfl ?_
  refine wpl_arg (k := 2) hX (by decide) rfl ha dL_law_627 dL_law_628 dL_law_629 dL_law_630 dL_law_631 rfl ?_
  refine wpl_arg (k := 3) hX (by decide) rfl ha dL_law_632 dL_law_633 dL_law_634 dL_law_635 dL_law_636 rfl ?_
  refine wpl_arg (k := 4) hX (by decide) rfl ha dL_law_637 dL_law_638 dL_law_639 dL_law_640 dL_law_641 rfl ?_
  refine wpl_cv (as := [.int (zarg xs a 1), .int (zarg xs a 2), .int (zarg xs a 3), .int (zarg xs a 4)]) (o := 0) (st := []) (pr_thumb (d := 800) M L R hT) zm_X11_thumb zl_RL_79 dL_law_642 rfl (by decide) (by decide) zsh_0 rfl rfl ?_
  rintro _ M1 L1 R1 ⟨x, rfl, hB⟩
  refine wp_aload_n (k := 2) dL_law_645 1 rfl rfl ?_
  refine wpl_arg (k := 1) hX (by decide) rfl ha dL_law_646 dL_law_647 dL_law_648 dL_law_649 dL_law_650 rfl ?_
  refine wpl_arg (k := 2) hX (by decide) rfl ha dL_law_651 dL_law_652 dL_law_653 dL_law_654 dL_law_655 rfl ?_
  refine wpl_arg (k := 3) hX (by decide) rfl ha dL_law_656 dL_law_657 dL_law_658 dL_law_659 dL_law_660 rfl ?_
  refine wpl_arg (k := 4) hX (by decide) rfl ha dL_law_661 dL_law_662 dL_law_663 dL_law_664 dL_law_665 rfl ?_
  refine wpl_cv (as := [.int (zarg xs a 1), .int (zarg xs a 2), .int (zarg xs a 3), .int (zarg xs a 4)]) (o := 177) (st := [.int x]) hB zm_X12_thumb zl_RL_83 dL_law_666 rfl (by decide) (show 1 ≤ 8 by decide) zsh_177 rfl rfl ?_
  rintro _ M2 L2 R2 ⟨rfl, hT2⟩
  exact wp_icmp_eq (tgt := 1043) dL_law_669 rfl rfl (fun _ => k M2 L2 R2 hT2) (fun h => absurd rfl h)
theorem lc_duds (hX : zXs w G L0 xs) (ha : a + 6 ≤ L0) (hT : zTie M L R) (k : ∀ (M2 : zMI) (L2 : zML) (R2 : zMR), zTie M2 L2 R2 → WP w YL_law BL G none 1043 (lloc a) [] SS M2 L2 R2) : WP w YL_law BL G none 674 (lloc a) [] SS M L R := by
  refine wp_aload_n (k := 1) dL_law_674 2 rfl rfl ?_
  refine wpl_arg (k := 1) hX (by decide) rfl ha dL_law_675 dL_law_676 dL_law_677 dL_law_678 dL_law_679 rfl ?_
  refine wpl_arg (k := 2) hX (by decide) rfl ha dL_law_680 dL_law_681 dL_law_682 dL_law_683 dL_law_684 rfl ?_
  refine wpl_arg (k := 3) hX (by decide) rfl ha dL_law_685 dL_law_686 dL_law_687 dL_law_688 dL_law_689 rfl ?_
  refine wpl_cv (as := [.int (zarg xs a 1), .int (zarg xs a 2), .int (zarg xs a 3)]) (o := 0) (st := []) (pr_duds (d := 800) M L R hT) zm_X11_duds zl_RL_84 dL_law_690 rfl (by decide) (by decide) zsh_0 rfl rfl ?_
  rintro _ M1 L1 R1 ⟨x, rfl, hB⟩
  refine wp_aload_n (k := 2) dL_law_693 1 rfl rfl ?_
  refine wpl_arg (k := 1) hX (by decide) rfl ha dL_law_694 dL_law_695 dL_law_696 dL_law_697 dL_law_698 rfl ?_
  refine wpl_arg (k := 2) hX (by decide) rfl ha dL_law_699 dL_law_700 dL_law_701 dL_law_702 dL_law_703 rfl ?_
  refine wpl_arg (k := 3) hX (by decide) rfl ha dL_law_704 dL_law_705 dL_law_706 dL_law_707 dL_law_708 rfl ?_
  refine wpl_cv (as := [.int (zarg xs a 1), .int (zarg xs a 2), .int (zarg xs a 3)]) (o := 177) (st := [.int x]) hB zm_X12_duds zl_RL_87 dL_law_709 rfl (by decide) (show 1 ≤ 8 by decide) zsh_177 rfl rfl ?_
  rintro _ M2 L2 R2 ⟨rfl, hT2⟩
  exact wp_icmp_eq (tgt := 1043) dL_law_712 rfl rfl (fun _ => k M2 L2 R2 hT2) (fun h => absurd rfl h)
theorem lc_pairs (hX : zXs w G L0 xs) (ha : a + 6 ≤ L0) (hT : zTie M L R) (k : ∀ (M2 : zMI) (L2 : zML) (R2 : zMR), zTie M2 L2 R2 → WP w YL_law BL G none 1043 (lloc a) [] SS M2 L2 R2) : WP w YL_law BL G none 717 (lloc a) [] SS M L R := by
  refine wp_aload_n (k := 1) dL_law_717 2 rfl rfl ?_
  refine wpl_cv (as := []) (o := 0) (st := []) (pr_pairs (d := 800) M L R hT) zm_X11_pairs zl_RL_88 dL_law_718 rfl (by decide) (by decide) zsh_0 rfl rfl ?_
  rintro _ M1 L1 R1 ⟨x, rfl, hB⟩
  refine wp_aload_n (k := 2) dL_law_721 1 rfl rfl ?_
  refine wpl_cv (as := []) (o := 177) (st := [.int x]) hB zm_X12_pairs zl_RL_91 dL_law_722 rfl (by decide) (show 1 ≤ 8 by decide) zsh_177 rfl rfl ?_
  rintro _ M2 L2 R2 ⟨rfl, hT2⟩
  exact wp_icmp_eq (tgt := 1043) dL_law_725 rfl rfl (fun _ => k M2 L2 R2 hT2) (fun h => absurd rfl h)
theorem lc_gifts (hX : zXs w G L0 xs) (ha : a + 6 ≤ L0) (hT : zTie M L R) (k : ∀ (M2 : zMI) (L2 : zML) (R2 : zMR), zTie M2 L2 R2 → WP w YL_law BL G none 1043 (lloc a) [] SS M2 L2 R2) : WP w YL_law BL G none 730 (lloc a) [] SS M L R := by
  refine wp_aload_n (k := 1) dL_law_730 2 rfl rfl ?_
  refine wpl_cv (as := []) (o := 0) (st := []) (pr_gifts (d := 800) M L R hT) zm_X11_gifts zl_RL_92 dL_law_731 rfl (by decide) (by decide) zsh_0 rfl rfl ?_
  rintro _ M1 L1 R1 ⟨x, rfl, hB⟩
  refine wp_aload_n (k := 2) dL_law_734 1 rfl rfl ?_
  refine wpl_cv (as := []) (o := 177) (st := [.int x]) hB zm_X12_gifts zl_RL_95 dL_law_735 rfl (by decide) (show 1 ≤ 8 by decide) zsh_177 rfl rfl ?_
  rintro _ M2 L2 R2 ⟨rfl, hT2⟩
  exact wp_icmp_eq (tgt := 1043) dL_law_738 rfl rfl (fun _ => k M2 L2 R2 hT2) (fun h => absurd rfl h)
theorem lc_left (hX : zXs w G L0 xs) (ha : a + 6 ≤ L0) (hT : zTie M L R) (k : ∀ (M2 : zMI) (L2 : zML) (R2 : zMR), zTie M2 L2 R2 → WP w YL_law BL G none 1043 (lloc a) [] SS M2 L2 R2) : WP w YL_law BL G none 743 (lloc a) [] SS M L R := by
  refine wp_aload_n (k := 1) dL_law_743 2 rfl rfl ?_
  refine wpl_arg (k := 1) hX (by decide) rfl ha dL_law_744 dL_law_745 dL_law_746 dL_law_747 dL_law_748 rfl ?_
  refine wpl_cv (as := [.int (zarg xs a 1)]) (o := 0) (st := []) (pr_left (d := 800) M L R hT) zm_X11_left zl_RL_96 dL_law_749 rfl (by decide) (by decide) zsh_0 rfl rfl ?_
  rintro _ M1 L1 R1 ⟨x, rfl, hB⟩
  refine wp_aload_n (k := 2) dL_law_752 1 rfl rfl ?_
  refine wpl_arg (k := 1) hX (by decide) rfl ha dL_law_753 dL_law_754 dL_law_755 dL_law_756 dL_law_757 rfl ?_
  refine wpl_cv (as := [.int (zarg xs a 1)]) (o := 177) (st := [.int x]) hB zm_X12_left zl_RL_99 dL_law_758 rfl (by decide) (show 1 ≤ 8 by decide) zsh_177 rfl rfl ?_
  rintro _ M2 L2 R2 ⟨rfl, hT2⟩
  exact wp_icmp_eq (tgt := 1043) dL_law_761 rfl rfl (fun _ => k M2 L2 R2 hT2) (fun h => absurd rfl h)
theorem lc_dine (hX : zXs w G L0 xs) (ha : a + 6 ≤ L0) (hT : zTie M L R) (k : ∀ (M2 : zMI) (L2 : zML) (R2 : zMR), zTie M2 L2 R2 → WP w YL_law BL G none 1043 (lloc a) [] SS M2 L2 R2) : WP w YL_law BL G none 766 (lloc a) [] SS M L R := by
  refine wp_aload_n (k := 1) dL_law_766 2 rfl rfl ?_
  refine wpl_arg (k := 1) hX (by decide) rfl ha dL_law_767 dL_law_768 dL_law_769 dL_law_770 dL_law_771 rfl ?_
  refine wpl_cv (as := [.int (zarg xs a 1)]) (o := 0) (st := []) (pr_dine (d := 800) M L R hT) zm_X11_dine zl_RL_100 dL_law_772 rfl (by decide) (by decide) zsh_0 rfl rfl ?_
  rintro _ M1 L1 R1 ⟨x, rfl, hB⟩
  refine wp_aload_n (k := 2) dL_law_775 1 rfl rfl ?_
  refine wpl_arg (k := 1) hX (by decide) rfl ha dL_law_776 dL_law_777 dL_law_778 dL_law_779 dL_law_780 rfl ?_
  refine wpl_cv (as := [.int (zarg xs a 1)]) (o := 177) (st := [.int x]) hB zm_X12_dine zl_RL_103 dL_law_781 rfl (by decide) (show 1 ≤ 8 by decide) zsh_177 rfl rfl ?_
  rintro _ M2 L2 R2 ⟨rfl, hT2⟩
  exact wp_icmp_eq (tgt := 1043) dL_law_784 rfl rfl (fun _ => k M2 L2 R2 hT2) (fun h => absurd rfl h)
theorem lc_hold (hX : zXs w G L0 xs) (ha : a + 6 ≤ L0) (hT : zTie M L R) (k : ∀ (M2 : zMI) (L2 : zML) (R2 : zMR), zTie M2 L2 R2 → WP w YL_law BL G none 1043 (lloc a) [] SS M2 L2 R2) : WP w YL_law BL G none 789 (lloc a) [] SS M L R := by
  refine wp_aload_n (k := 1) dL_law_789 2 rfl rfl ?_
  refine wpl_arg (k := 1) hX (by decide) rfl ha dL_law_790 dL_law_791 dL_law_792 dL_law_793 dL_law_794 rfl ?_
  refine wpl_arg (k := 2) hX (by decide) rfl ha dL_law_795 dL_law_796 dL_law_797 dL_law_798 dL_law_799 rfl ?_
  refine wpl_arg (k := 3) hX (by decide) rfl ha dL_law_800 dL_law_801 dL_law_802 dL_law_803 dL_law_804 rfl ?_
  refine wpl_arg (k := 4) hX (by decide) rfl ha dL_law_805 dL_law_806 dL_law_807 dL_law_808 dL_law_809 rfl ?_
  refine wpl_cv (as := [.int (zarg xs a 1), .int (zarg xs a 2), .int (zarg xs a 3), .int (zarg xs a 4)]) (o := 0) (st := []) (pr_hold (d := 800) M L R hT) zm_X11_hold zl_RL_104 dL_law_810 rfl (by decide) (by decide) zsh_0 rfl rfl ?_
  rintro _ M1 L1 R1 ⟨x, rfl, hB⟩
  refine wp_aload_n (k := 2) dL_law_813 1 rfl rfl ?_
  refine wpl_arg (k := 1) hX (by decide) rfl ha dL_law_814 dL_law_815 dL_law_816 dL_law_817 dL_law_818 rfl ?_
  refine wpl_arg (k := 2) hX (by decide) rfl ha dL_law_819 dL_law_820 dL_law_821 dL_law_822 dL_law_823 rfl ?_
  refine wpl_arg (k := 3) hX (by decide) rfl ha dL_law_824 dL_law_825 dL_law_826 dL_law_827 dL_law_828 rfl ?_
  refine wpl_arg (k := 4) hX (by decide) rfl ha dL_law_829 dL_law_830 dL_law_831 dL_law_832 dL_law_833 rfl ?_
  refine wpl_cv (as := [.int (zarg xs a 1), .int (zarg xs a 2), .int (zarg xs a 3), .int (zarg xs a 4)]) (o := 177) (st := [.int x]) hB zm_X12_hold zl_RL_108 dL_law_834 rfl (by decide) (show 1 ≤ 8 by decide) zsh_177 rfl rfl ?_
  rintro _ M2 L2 R2 ⟨rfl, hT2⟩
  exact wp_icmp_eq (tgt := 1043) dL_law_837 rfl rfl (fun _ => k M2 L2 R2 hT2) (fun h => absurd rfl h)
theorem lc_give (hX : zXs w G L0 xs) (ha : a + 6 ≤ L0) (hT : zTie M L R) (k : ∀ (M2 : zMI) (L2 : zML) (R2 : zMR), zTie M2 L2 R2 → WP w YL_law BL G none 1043 (lloc a) [] SS M2 L2 R2) : WP w YL_law BL G none 842 (lloc a) [] SS M L R := by
  refine wp_aload_n (k := 1) dL_law_842 2 rfl rfl ?_
  refine wpl_arg (k := 1) hX (by decide) rfl ha dL_law_843 dL_law_844 dL_law_845 dL_law_846 dL_law_847 rfl ?_
  refine wpl_arg (k := 2) hX (by decide) rfl ha dL_law_848 dL_law_849 dL_law_850 dL_law_851 dL_law_852 rfl ?_
  refine wpl_cv (as := [.int (zarg xs a 1), .int (zarg xs a 2)]) (o := 0) (st := []) (pr_give (d := 800) M L R hT) zm_X11_give zl_RL_109 dL_law_853 rfl (by decide) (by decide) zsh_0 rfl rfl ?_
  rintro _ M1 L1 R1 ⟨x, rfl, hB⟩
  refine wp_aload_n (k := 2) dL_law_856 1 rfl rfl ?_
  refine wpl_arg (k := 1) hX (by decide) rfl ha dL_law_857 dL_law_858 dL_law_859 dL_law_860 dL_law_861 rfl ?_
  refine wpl_arg (k := 2) hX (by decide) rfl ha dL_law_862 dL_law_863 dL_law_864 dL_law_865 dL_law_866 rfl ?_
  refine wpl_cv (as := [.int (zarg xs a 1), .int (zarg xs a 2)]) (o := 177) (st := [.int x]) hB zm_X12_give zl_RL_113 dL_law_867 rfl (by decide) (show 1 ≤ 8 by decide) zsh_177 rfl rfl ?_
  rintro _ M2 L2 R2 ⟨rfl, hT2⟩
  exact wp_icmp_eq (tgt := 1043) dL_law_870 rfl rfl (fun _ => k M2 L2 R2 hT2) (fun h => absurd rfl h)
theorem lc_pass (hX : zXs w G L0 xs) (ha : a + 6 ≤ L0) (hT : zTie M L R) (k : ∀ (M2 : zMI) (L2 : zML) (R2 : zMR), zTie M2 L2 R2 → WP w YL_law BL G none 1043 (lloc a) [] SS M2 L2 R2) : WP w YL_law BL G none 875 (lloc a) [] SS M L R := by
  refine wp_aload_n (k := 1) dL_law_875 2 rfl rfl ?_
  refine wpl_cv (as := []) (o := 0) (st := []) (pr_pass (d := 800) M L R hT) zm_X11_pass zl_RL_114 dL_law_876 rfl (by decide) (by decide) zsh_0 rfl rfl ?_
  rintro _ M1 L1 R1 ⟨x, rfl, hB⟩
  refine wp_aload_n (k := 2) dL_law_879 1 rfl rfl ?_
  refine wpl_cv (as := []) (o := 177) (st := [.int x]) hB zm_X12_pass zl_RL_117 dL_law_880 rfl (by decide) (show 1 ≤ 8 by decide) zsh_177 rfl rfl ?_
  rintro _ M2 L2 R2 ⟨rfl, hT2⟩
  exact wp_icmp_eq (tgt := 1043) dL_law_883 rfl rfl (fun _ => k M2 L2 R2 hT2) (fun h => absurd rfl h)
theorem lc_change (hX : zXs w G L0 xs) (ha : a + 6 ≤ L0) (hT : zTie M L R) (k : ∀ (M2 : zMI) (L2 : zML) (R2 : zMR), zTie M2 L2 R2 → WP w YL_law BL G none 1043 (lloc a) [] SS M2 L2 R2) : WP w YL_law BL G none 888 (lloc a) [] SS M L R := by
  refine wp_aload_n (k := 1) dL_law_888 2 rfl rfl ?_
  refine wpl_arg (k := 1) hX (by decide) rfl ha dL_law_889 dL_law_890 dL_law_891 dL_law_892 dL_law_893 rfl ?_
  refine wpl_arg (k := 2) hX (by decide) rfl ha dL_law_894 dL_law_895 dL_law_896 dL_law_897 dL_law_898 rfl ?_
  refine wpl_cv (as := [.int (zarg xs a 1), .int (zarg xs a 2)]) (o := 0) (st := []) (pr_change (d := 800) M L R hT) zm_X11_change zl_RL_118 dL_law_899 rfl (by decide) (by decide) zsh_0 rfl rfl ?_
  rintro _ M1 L1 R1 ⟨x, rfl, hB⟩
  refine wp_aload_n (k := 2) dL_law_902 1 rfl rfl ?_
  refine wpl_arg (k := 1) hX (by decide) rfl ha dL_law_903 dL_law_904 dL_law_905 dL_law_906 dL_law_907 rfl ?_
  refine wpl_arg (k := 2) hX (by decide) rfl ha dL_law_908 dL_law_909 dL_law_910 dL_law_911 dL_law_912 rfl ?_
  refine wpl_cv (as := [.int (zarg xs a 1), .int (zarg xs a 2)]) (o := 177) (st := [.int x]) hB zm_X12_change zl_RL_121 dL_law_913 rfl (by decide) (show 1 ≤ 8 by decide) zsh_177 rfl rfl ?_
  rintro _ M2 L2 R2 ⟨rfl, hT2⟩
  exact wp_icmp_eq (tgt := 1043) dL_law_916 rfl rfl (fun _ => k M2 L2 R2 hT2) (fun h => absurd rfl h)
theorem lc_undo (hX : zXs w G L0 xs) (ha : a + 6 ≤ L0) (hT : zTie M L R) (k : ∀ (M2 : zMI) (L2 : zML) (R2 : zMR), zTie M2 L2 R2 → WP w YL_law BL G none 1043 (lloc a) [] SS M2 L2 R2) : WP w YL_law BL G none 921 (lloc a) [] SS M L R := by
  refine wp_aload_n (k := 1) dL_law_921 2 rfl rfl ?_
  refine wpl_cv (as := []) (o := 0) (st := []) (pr_undo (d := 800) M L R hT) zm_X11_undo zl_RL_122 dL_law_922 rfl (by decide) (by decide) zsh_0 rfl rfl ?_
  rintro _ M1 L1 R1 ⟨x, rfl, hB⟩
  refine wp_aload_n (k := 2) dL_law_925 1 rfl rfl ?_
  refine wpl_cv (as := []) (o := 177) (st := [.int x]) hB zm_X12_undo zl_RL_126 dL_law_926 rfl (by decide) (show 1 ≤ 8 by decide) zsh_177 rfl rfl ?_
  rintro _ M2 L2 R2 ⟨rfl, hT2⟩
  exact wp_icmp_eq (tgt := 1043) dL_law_929 rfl rfl (fun _ => k M2 L2 R2 hT2) (fun h => absurd rfl h)
theorem lc_seed (hX : zXs w G L0 xs) (ha : a + 6 ≤ L0) (hT : zTie M L R) (k : ∀ (M2 : zMI) (L2 : zML) (R2 : zMR), zTie M2 L2 R2 → WP w YL_law BL G none 1043 (lloc a) [] SS M2 L2 R2) : WP w YL_law BL G none 934 (lloc a) [] SS M L R := by
  refine wp_aload_n (k := 1) dL_law_934 2 rfl rfl ?_
  refine wpl_arg (k := 1) hX (by decide) rfl ha dL_law_935 dL_law_936 dL_law_937 dL_law_938 dL_law_939 rfl ?_
  refine wpl_cv (as := [.int (zarg xs a 1)]) (o := 0) (st := []) (pr_seed (d := 800) M L R hT) zm_X11_seed zl_RL_127 dL_law_940 rfl (by decide) (by decide) zsh_0 rfl rfl ?_
  rintro _ M1 L1 R1 ⟨x, rfl, hB⟩
  refine wp_aload_n (k := 2) dL_law_943 1 rfl rfl ?_
  refine wpl_arg (k := 1) hX (by decide) rfl ha dL_law_944 dL_law_945 dL_law_946 dL_law_947 dL_law_948 rfl ?_
  refine wpl_cv (as := [.int (zarg xs a 1)]) (o := 177) (st := [.int x]) hB zm_X12_seed zl_RL_130 dL_law_949 rfl (by decide) (show 1 ≤ 8 by decide) zsh_177 rfl rfl ?_
  rintro _ M2 L2 R2 ⟨rfl, hT2⟩
  exact wp_icmp_eq (tgt := 1043) dL_law_952 rfl rfl (fun _ => k M2 L2 R2 hT2) (fun h => absurd rfl h)
theorem lc_ask (hX : zXs w G L0 xs) (ha : a + 6 ≤ L0) (hT : zTie M L R) (k : ∀ (M2 : zMI) (L2 : zML) (R2 : zMR), zTie M2 L2 R2 → WP w YL_law BL G none 1043 (lloc a) [] SS M2 L2 R2) : WP w YL_law BL G none 957 (lloc a) [] SS M L R := by
  refine wp_aload_n (k := 1) dL_law_957 2 rfl rfl ?_
  refine wpl_cv (as := []) (o := 0) (st := []) (pr_ask (d := 800) hT) zm_X11_ask zl_RL_131 dL_law_958 rfl (by decide) (by decide) zsh_0 rfl rfl ?_
  rintro _ M1 L1 R1 ⟨x, rfl, hB⟩
  refine wp_aload_n (k := 2) dL_law_961 1 rfl rfl ?_
  refine wpl_cv (as := []) (o := 177) (st := [.long x]) hB zm_X12_ask zl_RL_135 dL_law_962 rfl (by decide) (show 2 ≤ 8 by decide) zsh_177 rfl rfl ?_
  rintro _ M2 L2 R2 ⟨rfl, hT2⟩
  exact wp_lcmp_eq (tgt := 1043) dL_law_965 rfl dL_law_966 rfl rfl (fun _ => k M2 L2 R2 hT2) (fun h => absurd rfl h)
theorem lc_image (hX : zXs w G L0 xs) (ha : a + 6 ≤ L0) (hT : zTie M L R) (k : ∀ (M2 : zMI) (L2 : zML) (R2 : zMR), zTie M2 L2 R2 → WP w YL_law BL G none 1043 (lloc a) [] SS M2 L2 R2) : WP w YL_law BL G none 971 (lloc a) [] SS M L R := by
  refine wp_aload_n (k := 1) dL_law_971 2 rfl rfl ?_
  refine wpl_cv (as := []) (o := 0) (st := []) (pr_image (d := 800) M L R hT) zm_X11_image zl_RL_136 dL_law_972 rfl (by decide) (by decide) zsh_0 rfl rfl ?_
  rintro _ M1 L1 R1 ⟨x, rfl, hB⟩
  refine wp_aload_n (k := 2) dL_law_975 1 rfl rfl ?_
  refine wpl_cv (as := []) (o := 177) (st := [.int x]) hB zm_X12_image zl_RL_139 dL_law_976 rfl (by decide) (show 1 ≤ 8 by decide) zsh_177 rfl rfl ?_
  rintro _ M2 L2 R2 ⟨rfl, hT2⟩
  exact wp_icmp_eq (tgt := 1043) dL_law_979 rfl rfl (fun _ => k M2 L2 R2 hT2) (fun h => absurd rfl h)
theorem lc_octet (hX : zXs w G L0 xs) (ha : a + 6 ≤ L0) (hT : zTie M L R) (k : ∀ (M2 : zMI) (L2 : zML) (R2 : zMR), zTie M2 L2 R2 → WP w YL_law BL G none 1043 (lloc a) [] SS M2 L2 R2) : WP w YL_law BL G none 984 (lloc a) [] SS M L R := by
  refine wp_aload_n (k := 1) dL_law_984 2 rfl rfl ?_
  refine wpl_arg (k := 1) hX (by decide) rfl ha dL_law_985 dL_law_986 dL_law_987 dL_law_988 dL_law_989 rfl ?_
  refine wpl_cv (as := [.int (zarg xs a 1)]) (o := 0) (st := []) (pr_octet (d := 800) M L R hT) zm_X11_octet zl_RL_140 dL_law_990 rfl (by decide) (by decide) zsh_0 rfl rfl ?_
  rintro _ M1 L1 R1 ⟨x, rfl, hB⟩
  refine wp_aload_n (k := 2) dL_law_993 1 rfl rfl ?_
  refine wpl_arg (k := 1) hX (by decide) rfl ha dL_law_994 dL_law_995 dL_law_996 dL_law_997 dL_law_998 rfl ?_
  refine wpl_cv (as := [.int (zarg xs a 1)]) (o := 177) (st := [.int x]) hB zm_X12_octet zl_RL_143 dL_law_999 rfl (by decide) (show 1 ≤ 8 by decide) zsh_177 rfl rfl ?_
  rintro _ M2 L2 R2 ⟨rfl, hT2⟩
  exact wp_icmp_eq (tgt := 1043) dL_law_1002 rfl rfl (fun _ => k M2 L2 R2 hT2) (fun h => absurd rfl h)
theorem lc_restore (hX : zXs w G L0 xs) (ha : a + 6 ≤ L0) (hT : zTie M L R) (k : ∀ (M2 : zMI) (L2 : zML) (R2 : zMR), zTie M2 L2 R2 → WP w YL_law BL G none 1043 (lloc a) [] SS M2 L2 R2) : WP w YL_law BL G none 1007 (lloc a) [] SS M L R := by
  refine wp_aload_n (k := 1) dL_law_1007 2 rfl rfl ?_
  refine wpl_cv (as := []) (o := 0) (st := []) (pr_restore (d := 800) M L R hT) zm_X11_restore zl_RL_144 dL_law_1008 rfl (by decide) (by decide) zsh_0 rfl rfl ?_
  rintro _ M1 L1 R1 ⟨x, rfl, hB⟩
  refine wp_aload_n (k := 2) dL_law_1011 1 rfl rfl ?_
  refine wpl_cv (as := []) (o := 177) (st := [.int x]) hB zm_X12_restore zl_RL_147 dL_law_1012 rfl (by decide) (show 1 ≤ 8 by decide) zsh_177 rfl rfl ?_
  rintro _ M2 L2 R2 ⟨rfl, hT2⟩
  exact wp_icmp_eq (tgt := 1043) dL_law_1015 rfl rfl (fun _ => k M2 L2 R2 hT2) (fun h => absurd rfl h)
theorem lc_status (hX : zXs w G L0 xs) (ha : a + 6 ≤ L0) (hT : zTie M L R) (k : ∀ (M2 : zMI) (L2 : zML) (R2 : zMR), zTie M2 L2 R2 → WP w YL_law BL G none 1043 (lloc a) [] SS M2 L2 R2) : WP w YL_law BL G none 1020 (lloc a) [] SS M L R := by
  refine wp_aload_n (k := 1) dL_law_1020 2 rfl rfl ?_
  refine wpl_arg (k := 1) hX (by decide) rfl ha dL_law_1021 dL_law_1022 dL_law_1023 dL_law_1024 dL_law_1025 rfl ?_
  refine wpl_cv (as := [.int (zarg xs a 1)]) (o := 0) (st := []) (pr_status (d := 800) M L R hT) zm_X11_status zl_RL_148 dL_law_1026 rfl (by decide) (by decide) zsh_0 rfl rfl ?_
  rintro _ M1 L1 R1 ⟨x, rfl, hB⟩
  refine wp_aload_n (k := 2) dL_law_1029 1 rfl rfl ?_
  refine wpl_arg (k := 1) hX (by decide) rfl ha dL_law_1030 dL_law_1031 dL_law_1032 dL_law_1033 dL_law_1034 rfl ?_
  refine wpl_cv (as := [.int (zarg xs a 1)]) (o := 177) (st := [.int x]) hB zm_X12_status zl_RL_151 dL_law_1035 rfl (by decide) (show 1 ≤ 8 by decide) zsh_177 rfl rfl ?_
  rintro _ M2 L2 R2 ⟨rfl, hT2⟩
  exact wp_icmp_eq (tgt := 1043) dL_law_1038 rfl rfl (fun _ => k M2 L2 R2 hT2) (fun h => absurd rfl h)
end

