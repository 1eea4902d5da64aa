theorem wp_front {w : zWo} {G : zG} {L0 b0 : Nat} {xs : Nat → Int32} (hA : G.2.2.2.2.2.2.1 = #[.ref b0]) (hR : G.2.2.2.1 = room_1) (hX : zXs w G L0 xs) (hSX : zSXG w G) : WP w YL_law BL G none 0 [(0, .float 1)] [] (SS.take 0) (cqM 0) (cqL 0) (cqQ 0) := by
  refine st_new (n' := 1) dL_law_0 zn_RL_7 zsh_0 (by decide) (by decide +kernel) rfl (by decide +kernel) (by decide +kernel) rfl ?_
  refine wp_dup dL_law_3 rfl rfl ?_
  refine st_callIx hSX (as := []) (o := 0) ctX11_0 zm_X11_init zl_RL_9 dL_law_4 rfl (by decide +kernel) (by decide) (by decide +kernel) (by decide +kernel) rfl ?_
  refine wp_astore_n (k := 1) (i := 1) (loc' := [(1, .ref 0), (0, .float 1)]) dL_law_7 rfl (by decide) rfl rfl ?_
  refine st_new (n' := 178) dL_law_8 zn_RL_10 zsh_177 (by decide) (by decide +kernel) rfl (by decide +kernel) (by decide +kernel) rfl ?_
  refine wp_dup dL_law_11 rfl rfl ?_
  refine st_callI (as := []) (o := 177) ctX12_177 zm_X12_init zl_RL_12 dL_law_12 rfl (by decide +kernel) (by decide) (by decide +kernel) (by decide +kernel) rfl ?_
  refine wp_astore_n (k := 2) (i := 2) (loc' := [(2, .ref 177), (1, .ref 0), (0, .float 1)]) dL_law_15 rfl (by decide) rfl rfl ?_
  refine wp_iconst (v := nI 0) dL_law_16 rfl rfl ?_
  refine wp_istore_n (k := 3) (i := 3) (loc' := lloc 0) dL_law_17 rfl (by decide) rfl rfl ?_
  rw [List.take_of_length_le (Nat.le_of_eq zlen_SS)]
  exact wp_loop hA hR hX L0 0 _ _ _ (by omega) (Nat.zero_le _) zTie_0

