def zrow (a wh hits : Nat) : Nat → Nat
  | 0 => 1
  | i + 1 => zrow a wh hits i * (if i < hits then a else wh - a)
theorem zrow_le {a wh hits : Nat} (ha : a ≤ wh) : ∀ i, zrow a wh hits i ≤ wh ^ i := by
  intro i
  induction i with
  | zero => exact Nat.le_refl _
  | succ i ih =>
    rw [zrow, Nat.pow_succ]
    exact Nat.mul_le_mul ih (by split <;> omega)
set_option maxHeartbeats 4000000 in
set_option maxRecDepth 100000 in
theorem sp_inARow {d a wh0 n hits : Nat} {M : zMI} {L : zML} {R : zMR} (ha : a ≤ wh0) (hw : wh0 ≤ 10000) (hn : n ≤ 6) (hh : hits ≤ 6) : Sx yX11_inARow YX11_inARow (d) [.ref 0, .int (nI a), .int (nI wh0), .int (nI n), .int (nI hits)] M L R (some (.long (lN (zrow a wh0 hits n)))) M L R := by
  refine Sp.of (by decide +kernel) rfl (fun h => by first | exact h | cases h) (Nat.le_of_ble_eq_true rfl) ?_
  intro w G
  have loop : ∀ k i, i + k = n → WP w YX11_inARow (d, SS, 0, 0) G (some (zX (some (.long (lN (zrow a wh0 hits n)))) M L R)) 6 [(7, .int (nI i)), (5, .long (lN (zrow a wh0 hits i))), (0, .ref 0), (1, .int (nI a)), (2, .int (nI wh0)), (3, .int (nI n)), (4, .int (nI hits))] [] SS M L R := by
    intro k
    induction k with
    | zero =>
      intro i hi
      refine wp_iload (q := 8) dX11_inARow_6 0 rfl rfl ?_
      refine wp_iload_n (q := 9) dX11_inARow_8 5 rfl rfl ?_
      refine wp_icmp_geN (tgt := 39) (q := 12) dX11_inARow_9 (by decide) rfl (by omega) (by omega) (fun _ => ?_) (fun hn => absurd hn (by first | omega | exact fun h => h | exact fun h => h trivial))
      rw [show i = n by omega]
      refine wp_lload (q := 41) dX11_inARow_39 1 rfl rfl ?_
      exact wp_lreturn dX11_inARow_41 rfl ⟨rfl, rfl, rfl, rfl, rfl⟩ rfl rfl
    | succ k ih =>
      intro i hi
      have hi2 := ih (i + 1) (by omega)
      rw [zrow] at hi2
      refine wp_iload (q := 8) dX11_inARow_6 0 rfl rfl ?_
      refine wp_iload_n (q := 9) dX11_inARow_8 5 rfl rfl ?_
      refine wp_icmp_geN (tgt := 39) (q := 12) dX11_inARow_9 (by decide) rfl (by omega) (by omega) (fun hn => absurd hn (by first | omega | exact fun h => h | exact fun h => h trivial)) (fun _ => ?_)
      refine wp_lload (q := 14) dX11_inARow_12 1 rfl rfl ?_
      refine wp_iload (q := 16) dX11_inARow_14 0 rfl rfl ?_
      refine wp_iload (q := 18) dX11_inARow_16 6 rfl rfl ?_
      refine wp_icmp_geN (tgt := 26) (q := 21) dX11_inARow_18 (by decide) rfl (by omega) (by omega) (fun c => ?_) (fun c => ?_)
      · skip
        rw [if_neg (by omega)] at hi2
        refine wp_iload_n (q := 27) dX11_inARow_26 4 rfl rfl ?_
        refine wp_iload_n (q := 28) dX11_inARow_27 3 rfl rfl ?_
        refine wp_isubN (q := 29) dX11_inARow_28 (by omega) rfl ?_
        refine wp_i2lN (q := 30) dX11_inARow_29 (by omega) rfl ?_
        refine wp_lmulN (q := 31) dX11_inARow_30 rfl ?_
        refine wp_lstore (q := 33) (loc' := [(5, _), (7, _), (0, _), (1, _), (2, _), (3, _), (4, _)]) dX11_inARow_31 (by decide) rfl rfl ?_
        refine wp_iincN (q := 36) (loc' := [(7, _), (5, _), (0, _), (1, _), (2, _), (3, _), (4, _)]) (n := 1) dX11_inARow_33 rfl 1 rfl (by decide) rfl rfl ?_
        refine wp_goto (tgt := 6) dX11_inARow_36 (by decide) ?_
        refine WP.sub (loc' := [(7, _), (5, _), (0, _), (1, _), (2, _), (3, _), (4, _)]) [0, 1, 2, 3, 4, 5, 6] rfl ?_
        exact hi2
      · skip
        rw [if_pos c] at hi2
        refine wp_iload_n (q := 22) dX11_inARow_21 3 rfl rfl ?_
        refine wp_i2lN (q := 23) dX11_inARow_22 (by omega) rfl ?_
        refine wp_goto (tgt := 30) dX11_inARow_23 (by decide) ?_
        refine wp_lmulN (q := 31) dX11_inARow_30 rfl ?_
        refine wp_lstore (q := 33) (loc' := [(5, _), (7, _), (0, _), (1, _), (2, _), (3, _), (4, _)]) dX11_inARow_31 (by decide) rfl rfl ?_
        refine wp_iincN (q := 36) (loc' := [(7, _), (5, _), (0, _), (1, _), (2, _), (3, _), (4, _)]) (n := 1) dX11_inARow_33 rfl 1 rfl (by decide) rfl rfl ?_
        refine wp_goto (tgt := 6) dX11_inARow_36 (by decide) ?_
        refine WP.sub (loc' := [(7, _), (5, _), (0, _), (1, _), (2, _), (3, _), (4, _)]) [0, 1, 2, 3, 4, 5, 6] rfl ?_
        exact hi2
  refine wp_lconst (q := 1) dX11_inARow_0 zq_lconst_1 rfl ?_
  refine wp_lstore (q := 3) (loc' := [(5, _), (0, _), (1, _), (2, _), (3, _), (4, _)]) dX11_inARow_1 (by decide) rfl rfl ?_
  refine wp_iconst (q := 4) dX11_inARow_3 zq_iconst_0 rfl ?_
  refine wp_istore (q := 6) (loc' := [(7, _), (5, _), (0, _), (1, _), (2, _), (3, _), (4, _)]) dX11_inARow_4 (by decide) rfl rfl ?_
  refine WP.sub (loc' := [(7, _), (5, _), (0, _), (1, _), (2, _), (3, _), (4, _)]) [0, 1, 2, 3, 4, 5, 6] rfl ?_
  exact loop n 0 (Nat.zero_add _)
def zshr (p a w : Nat) : Nat := if a = 0 then w else 1000 * p / a
set_option maxHeartbeats 4000000 in
set_option maxRecDepth 100000 in
theorem sp_share {d p a w0 : Nat} {M : zMI} {L : zML} {R : zMR} (hp : p ≤ 4000000000000) (ha : a ≤ 8000000000000) : Sx yX11_share YX11_share (d) [.ref 0, .long (lN p), .long (lN a), .int (nI w0)] M L R (some (.int (nI (zshr p a w0)))) M L R := by
  refine Sp.of (by decide +kernel) rfl (fun h => by first | exact h | cases h) (Nat.le_of_ble_eq_true rfl) ?_
  intro w G
  refine wp_lload_n (q := 1) dX11_share_0 2 rfl rfl ?_
  refine wp_lconst (q := 2) dX11_share_1 zq_lconst_0 rfl ?_
  refine wp_lcmp_gtN (tgt := 11) (q := 6) dX11_share_2 rfl dX11_share_3 (by decide) rfl (by omega) (by omega) (fun c => ?_) (fun c => ?_)
  · skip
    have hz : a ≠ 0 := by omega
    rw [show zshr p a w0 = 1000 * p / a from if_neg hz]
    refine wp_ldc2_w (q := 14) dX11_share_11 zk_RX11_326 rfl ?_
    rw [zlitL 1000]
    refine wp_lload_n (q := 15) dX11_share_14 1 rfl rfl ?_
    refine wp_lmulN (q := 16) dX11_share_15 rfl ?_
    refine wp_lload_n (q := 17) dX11_share_16 2 rfl rfl ?_
    refine wp_ldivN (q := 18) dX11_share_17 (by omega) (by omega) (by omega) rfl ?_
    refine wp_l2iN (q := 19) dX11_share_18 rfl ?_
    exact wp_ireturn dX11_share_19 rfl ⟨rfl, rfl, rfl, rfl, rfl⟩ rfl rfl
  · skip
    rw [show zshr p a w0 = w0 from if_pos (by omega)]
    refine wp_iload (q := 8) dX11_share_6 3 rfl rfl ?_
    refine wp_goto (tgt := 19) dX11_share_8 (by decide) ?_
    exact wp_ireturn dX11_share_19 rfl ⟨rfl, rfl, rfl, rfl, rfl⟩ rfl rfl
def zthb (tb : zTb) (v : Nat → Nat) (n s h gp k w : Nat) : Nat := zrow (zown tb (zhold v s h (10 * gp + lw v s h)) n s h) 10000 w k
theorem zthb_le (tb : zTb) (v : Nat → Nat) (n s h gp k w : Nat) (hk : k ≤ 3) : zthb tb v n s h gp k w ≤ 1000000000000 := by
  have h1 := zrow_le (a := zown tb (zhold v s h (10 * gp + lw v s h)) n s h) (wh := 10000) (hits := w) (zown_le _ _ _ _ _) k
  have h2 : 10000 ^ k ≤ 10000 ^ 3 := Nat.pow_le_pow_right (by decide) hk
  have h3 : 10000 ^ 3 = 1000000000000 := by decide
  unfold zthb
  omega
def zthm (tb : zTb) (v : Nat → Nat) (n s h k w : Nat) : Nat := zshr (zthb tb v n s h 2 k w) (zthb tb v n s h 2 k w + zthb tb v n s h 0 k w) 500
set_option maxHeartbeats 4000000 in
set_option maxRecDepth 100000 in
theorem sp_thumb {d t n s hh k w0 : Nat} {M : zMI} {L : zML} {g : zGd} {v : Nat → Nat} {hs : List (Nat → Nat)} {m : zMs} (h : zCI M L t n g v hs m) (h2 : 2 ≤ n) (hs0 : s < n) (hh0 : hh < 2) (hk1 : 1 ≤ k) (hk3 : k ≤ 3) (hwk : w0 ≤ k) : Sy yX11_thumb YX11_thumb (d + 6) [.ref 0, .int (nI s), .int (nI hh), .int (nI k), .int (nI w0)] M L (zRf t) (zAn M L t n g v hs m (.int (nI (zthm g.2.2.2.2.2 v n s hh k w0)))) := by
  refine Sp.of (by decide +kernel) rfl (fun h => by first | exact h | cases h) (Nat.le_of_ble_eq_true rfl) ?_
  intro w G
  have hv := zCI_hv h
  have hr := zCI_sr h
  have h8 := hv.1
  have ho : zSt 43 := Or.inl rfl
  have h157 : zSt 157 := Or.inr (Or.inl rfl)
  have ht2 : t = 10 ∨ t = 24 := h.1
  refine wp_aload_n (q := 1) dX11_thumb_0 0 rfl rfl ?_
  refine wp_iload_n (q := 2) dX11_thumb_1 1 rfl rfl ?_
  refine wp_cvx (q := 5) (sp_pulls (d := 0) hv hr) zm_X11_pulls zl_RX11_243 dX11_thumb_2 rfl (by omega) (Nat.le_of_ble_eq_true rfl) zsh_0 rfl rfl ?_
  rw [if_pos ⟨zin_i hs0 (by omega), h2⟩]
  refine wp_if_eqN (tgt := 37) (q := 8) dX11_thumb_5 (by decide) rfl (by omega) (fun hn => absurd hn (by first | omega | exact fun h => h | exact fun h => h trivial)) (fun _ => ?_)
  refine wp_aload_n (q := 9) dX11_thumb_8 0 rfl rfl ?_
  refine wp_iload_n (q := 10) dX11_thumb_9 2 rfl rfl ?_
  refine wp_cvx (q := 13) (sp_isHand (d := 0)) zm_X11_isHand zl_RX11_284 dX11_thumb_10 rfl (by omega) (Nat.le_of_ble_eq_true rfl) zsh_0 rfl rfl ?_
  rw [if_pos (zin_i hh0 (by decide))]
  refine wp_if_eqN (tgt := 37) (q := 16) dX11_thumb_13 (by decide) rfl (by omega) (fun hn => absurd hn (by first | omega | exact fun h => h | exact fun h => h trivial)) (fun _ => ?_)
  refine wp_iload_n (q := 17) dX11_thumb_16 3 rfl rfl ?_
  refine wp_iconst (q := 18) dX11_thumb_17 zq_iconst_1 rfl ?_
  refine wp_icmp_ltN (tgt := 37) (q := 21) dX11_thumb_18 (by decide) rfl (by omega) (by omega) (fun hn => absurd hn (by first | omega | exact fun h => h | exact fun h => h trivial)) (fun _ => ?_)
  refine wp_iload_n (q := 22) dX11_thumb_21 3 rfl rfl ?_
  refine wp_iconst (q := 23) dX11_thumb_22 zq_iconst_3 rfl ?_
  refine wp_icmp_gtN (tgt := 37) (q := 26) dX11_thumb_23 (by decide) rfl (by omega) (by omega) (fun hn => absurd hn (by first | omega | exact fun h => h | exact fun h => h trivial)) (fun _ => ?_)
  refine wp_iload (q := 28) dX11_thumb_26 4 rfl rfl ?_
  refine wp_if_ltN (tgt := 37) (q := 31) dX11_thumb_28 (by decide) rfl (by omega) (fun hn => absurd hn (by first | omega | exact fun h => h | exact fun h => h trivial)) (fun _ => ?_)
  refine wp_iload (q := 33) dX11_thumb_31 4 rfl rfl ?_
  refine wp_iload_n (q := 34) dX11_thumb_33 3 rfl rfl ?_
  refine wp_icmp_leN (tgt := 39) (q := 37) dX11_thumb_34 (by decide) rfl (by omega) (by omega) (fun _ => ?_) (fun hn => absurd hn (by first | omega | exact fun h => h | exact fun h => h trivial))
  refine wp_aload_n (q := 40) dX11_thumb_39 0 rfl rfl ?_
  refine wp_getR (q := 43) dX11_thumb_40 zf_RX11_80 rfl zsh_0 (by first | rfl | assumption) rfl ?_
  refine wp_getR (q := 46) dX11_thumb_43 zf_RX11_287 rfl zsh_156 (by first | rfl | assumption) rfl ?_
  refine wp_aload_n (q := 47) dX11_thumb_46 0 rfl rfl ?_
  refine wp_getR (q := 50) dX11_thumb_47 zf_RX11_55 rfl zsh_0 (by first | rfl | assumption) rfl ?_
  refine wp_cvy (q := 53) (sp_copyFrom (d := 0) (a := 157) (b := 43) h157 ho (by decide)) zm_X7_copyFrom zl_RX11_290 dX11_thumb_50 rfl (by omega) (Nat.le_of_ble_eq_true rfl) zsh_157 rfl rfl ?_
  rintro _ M2 _ _ ⟨rfl, rfl, rfl, hc, hx⟩
  have h' := zCI_tr h (fun x hx' => hx x (by omega))
  have hr2 := hc n v hv hr
  refine wp_aload_n (q := 54) dX11_thumb_53 0 rfl rfl ?_
  refine wp_aload_n (q := 55) dX11_thumb_54 0 rfl rfl ?_
  refine wp_getR (q := 58) dX11_thumb_55 zf_RX11_80 rfl zsh_0 (by first | rfl | assumption) rfl ?_
  refine wp_aload_n (q := 59) dX11_thumb_58 0 rfl rfl ?_
  refine wp_getR (q := 62) dX11_thumb_59 zf_RX11_80 rfl zsh_0 (by first | rfl | assumption) rfl ?_
  refine wp_getR (q := 65) dX11_thumb_62 zf_RX11_287 rfl zsh_156 (by first | rfl | assumption) rfl ?_
  refine wp_iload_n (q := 66) dX11_thumb_65 1 rfl rfl ?_
  refine wp_iload_n (q := 67) dX11_thumb_66 2 rfl rfl ?_
  refine wp_iconst (q := 68) dX11_thumb_67 zq_iconst_2 rfl ?_
  refine wp_cvy (q := 71) (sp_oddsWith (d := 0) (g := 2) h.1 h157 (zCI_tm h') hv hr2 (zCI_pm h') hs0 hh0 (by decide)) zm_X3_oddsWith zl_RX11_314 dX11_thumb_68 rfl (by omega) (Nat.le_of_ble_eq_true rfl) zsh_156 rfl rfl ?_
  rintro _ M3 _ _ ⟨rfl, rfl, rfl, hr3, hp3, hx3⟩
  have hl9 := (hv.2.2.2.2.1 s hh hs0 hh0).2
  have hv3 := zV_hold (w := 10 * 2 + lw v s hh) hv (s := s) hh0 (by omega)
  have h3 : zCI M3 L t n g v hs m := zCI_scr h' hp3 (fun x x1 x2 x3 => hx3 x (fun c => x2 (zPy_scr h.1 (Or.inl c))) (by unfold zScr at x2; omega)) (by rw [hx3 156 (zPx_156 h.1 (by decide)) (by decide)]) (by rw [hx3 156 (zPx_156 h.1 (by decide)) (by decide)]) rfl
  refine wp_sipush (q := 74) dX11_thumb_71 zq_sipush_10000 rfl ?_
  refine wp_iload_n (q := 75) dX11_thumb_74 3 rfl rfl ?_
  refine wp_iload (q := 77) dX11_thumb_75 4 rfl rfl ?_
  refine wp_cvx (q := 80) (sp_inARow (d := 0) (a := zown g.2.2.2.2.2 (zhold v s hh (10 * 2 + lw v s hh)) n s hh) (wh0 := 10000) (zown_le _ _ _ _ _) (by decide) (by omega) (by omega)) zm_X11_inARow zl_RX11_318 dX11_thumb_77 rfl (by omega) (Nat.le_of_ble_eq_true rfl) zsh_0 rfl rfl ?_
  rw [show zrow (zown g.2.2.2.2.2 (zhold v s hh (10 * 2 + lw v s hh)) n s hh) 10000 w0 k = zthb g.2.2.2.2.2 v n s hh 2 k w0 from rfl]
  refine wp_lstore (q := 82) (loc' := [(5, _), (0, _), (1, _), (2, _), (3, _), (4, _)]) dX11_thumb_80 (by decide) rfl rfl ?_
  refine wp_aload_n (q := 83) dX11_thumb_82 1 rfl rfl ?_
  refine wp_aload_n (q := 84) dX11_thumb_83 1 rfl rfl ?_
  refine wp_getR (q := 87) dX11_thumb_84 zf_RX11_80 rfl zsh_0 (by first | rfl | assumption) rfl ?_
  refine wp_aload_n (q := 88) dX11_thumb_87 1 rfl rfl ?_
  refine wp_getR (q := 91) dX11_thumb_88 zf_RX11_80 rfl zsh_0 (by first | rfl | assumption) rfl ?_
  refine wp_getR (q := 94) dX11_thumb_91 zf_RX11_287 rfl zsh_156 (by first | rfl | assumption) rfl ?_
  refine wp_iload_n (q := 95) dX11_thumb_94 2 rfl rfl ?_
  refine wp_iload_n (q := 96) dX11_thumb_95 3 rfl rfl ?_
  refine wp_iconst (q := 97) dX11_thumb_96 zq_iconst_0 rfl ?_
  refine wp_cvy (q := 100) (sp_oddsWith (d := 0) (g := 0) h.1 h157 (zCI_tm h3) hv3 hr3 hp3 hs0 hh0 (by decide)) zm_X3_oddsWith zl_RX11_314 dX11_thumb_97 rfl (by omega) (Nat.le_of_ble_eq_true rfl) zsh_156 rfl rfl ?_
  rintro _ M4 _ _ ⟨rfl, rfl, rfl, hr4, hp4, hx4⟩
  have h4 : zCI M4 L t n g v hs m := zCI_scr h3 hp4 (fun x x1 x2 x3 => hx4 x (fun c => x2 (zPy_scr h.1 (Or.inl c))) (by unfold zScr at x2; omega)) (by rw [hx4 156 (zPx_156 h.1 (by decide)) (by decide)]) (by rw [hx4 156 (zPx_156 h.1 (by decide)) (by decide)]) rfl
  rw [zhold_l, show (10 * 2 + lw v s hh) % 10 = lw v s hh by omega, zhold_hold]
  refine wp_sipush (q := 103) dX11_thumb_100 zq_sipush_10000 rfl ?_
  refine wp_iload_n (q := 104) dX11_thumb_103 4 rfl rfl ?_
  refine wp_iload (q := 106) dX11_thumb_104 5 rfl rfl ?_
  refine wp_cvx (q := 109) (sp_inARow (d := 0) (a := zown g.2.2.2.2.2 (zhold v s hh (10 * 0 + lw v s hh)) n s hh) (wh0 := 10000) (zown_le _ _ _ _ _) (by decide) (by omega) (by omega)) zm_X11_inARow zl_RX11_318 dX11_thumb_106 rfl (by omega) (Nat.le_of_ble_eq_true rfl) zsh_0 rfl rfl ?_
  rw [show zrow (zown g.2.2.2.2.2 (zhold v s hh (10 * 0 + lw v s hh)) n s hh) 10000 w0 k = zthb g.2.2.2.2.2 v n s hh 0 k w0 from rfl]
  have z2 := zthb_le g.2.2.2.2.2 v n s hh 2 k w0 hk3
  have z0 := zthb_le g.2.2.2.2.2 v n s hh 0 k w0 hk3
  refine wp_lstore (q := 111) (loc' := [(7, _), (5, _), (0, _), (1, _), (2, _), (3, _), (4, _)]) dX11_thumb_109 (by decide) rfl rfl ?_
  refine wp_aload_n (q := 112) dX11_thumb_111 2 rfl rfl ?_
  refine wp_lload (q := 114) dX11_thumb_112 1 rfl rfl ?_
  refine wp_lload (q := 116) dX11_thumb_114 1 rfl rfl ?_
  refine wp_lload (q := 118) dX11_thumb_116 0 rfl rfl ?_
  refine wp_laddN (q := 119) dX11_thumb_118 rfl ?_
  refine wp_sipush (q := 122) dX11_thumb_119 zq_sipush_500 rfl ?_
  refine wp_cvx (q := 125) (sp_share (d := 0) (p := zthb g.2.2.2.2.2 v n s hh 2 k w0) (a := zthb g.2.2.2.2.2 v n s hh 2 k w0 + zthb g.2.2.2.2.2 v n s hh 0 k w0) (w0 := 500) (by omega) (by omega)) zm_X11_share zl_RX11_322 dX11_thumb_122 rfl (by omega) (Nat.le_of_ble_eq_true rfl) zsh_0 rfl rfl ?_
  exact wp_ireturn dX11_thumb_125 rfl ⟨rfl, ⟨rfl, rfl, h4, fun x hx' => ⟨by rw [hx4 x (zPx_156 h.1 (by omega)) (by omega), hx3 x (zPx_156 h.1 (by omega)) (by omega), hx x (by omega)], rfl⟩⟩⟩ rfl rfl
set_option maxHeartbeats 4000000 in
set_option maxRecDepth 100000 in
theorem sp_thumbN {d t n : Nat} {x y z u : Int32} {M : zMI} {L : zML} {g : zGd} {v : Nat → Nat} {hs : List (Nat → Nat)} {m : zMs} (h : zCI M L t n g v hs m) (hN : ¬ (2 ≤ n ∧ zin x n ∧ zin y 2 ∧ ¬ z < nI 1 ∧ ¬ nI 3 < z ∧ ¬ u < 0 ∧ u ≤ z)) : Sy yX11_thumb YX11_thumb (d + 6) [.ref 0, .int x, .int y, .int z, .int u] M L (zRf t) (zAn M L t n g v hs m (.int (-1))) := by
  refine Sp.of (by decide +kernel) rfl (fun h => by first | exact h | cases h) (Nat.le_of_ble_eq_true rfl) ?_
  intro w G
  have hv := zCI_hv h
  have hr := zCI_sr h
  refine wp_aload_n (q := 1) dX11_thumb_0 0 rfl rfl ?_
  refine wp_iload_n (q := 2) dX11_thumb_1 1 rfl rfl ?_
  refine wp_cvx (q := 5) (sp_pulls (d := 0) hv hr) zm_X11_pulls zl_RX11_243 dX11_thumb_2 rfl (by omega) (Nat.le_of_ble_eq_true rfl) zsh_0 rfl rfl ?_
  by_cases c : zin x n ∧ 2 ≤ n
  · rw [if_pos c]
    refine wp_if_eqN (tgt := 37) (q := 8) dX11_thumb_5 (by decide) rfl (by omega) (fun hn => absurd hn (by first | omega | exact fun h => h | exact fun h => h trivial)) (fun _ => ?_)
    refine wp_aload_n (q := 9) dX11_thumb_8 0 rfl rfl ?_
    refine wp_iload_n (q := 10) dX11_thumb_9 2 rfl rfl ?_
    refine wp_cvx (q := 13) (sp_isHand (d := 0)) zm_X11_isHand zl_RX11_284 dX11_thumb_10 rfl (by omega) (Nat.le_of_ble_eq_true rfl) zsh_0 rfl rfl ?_
    by_cases c2 : zin y 2
    · rw [if_pos c2]
      refine wp_if_eqN (tgt := 37) (q := 16) dX11_thumb_13 (by decide) rfl (by omega) (fun hn => absurd hn (by first | omega | exact fun h => h | exact fun h => h trivial)) (fun _ => ?_)
      refine wp_iload_n (q := 17) dX11_thumb_16 3 rfl rfl ?_
      refine wp_iconst (q := 18) dX11_thumb_17 zq_iconst_1 rfl ?_
      refine wp_icmp_lt (tgt := 37) (q := 21) dX11_thumb_18 (by decide) rfl (fun e1 => ?_) (fun e1 => ?_)
      · skip
        refine wp_iconst (q := 38) dX11_thumb_37 zq_iconst_m1 rfl ?_
        exact wp_ireturn dX11_thumb_38 rfl ⟨rfl, ⟨rfl, rfl, h, zXf_r⟩⟩ rfl rfl
      · skip
        refine wp_iload_n (q := 22) dX11_thumb_21 3 rfl rfl ?_
        refine wp_iconst (q := 23) dX11_thumb_22 zq_iconst_3 rfl ?_
        refine wp_icmp_gt (tgt := 37) (q := 26) dX11_thumb_23 (by decide) rfl (fun e2 => ?_) (fun e2 => ?_)
        · skip
          refine wp_iconst (q := 38) dX11_thumb_37 zq_iconst_m1 rfl ?_
          exact wp_ireturn dX11_thumb_38 rfl ⟨rfl, ⟨rfl, rfl, h, zXf_r⟩⟩ rfl rfl
        · skip
          refine wp_iload (q := 28) dX11_thumb_26 4 rfl rfl ?_
          refine wp_if_lt (tgt := 37) (q := 31) dX11_thumb_28 (by decide) rfl (fun e3 => ?_) (fun e3 => ?_)
          · skip
            refine wp_iconst (q := 38) dX11_thumb_37 zq_iconst_m1 rfl ?_
            exact wp_ireturn dX11_thumb_38 rfl ⟨rfl, ⟨rfl, rfl, h, zXf_r⟩⟩ rfl rfl
          · skip
            refine wp_iload (q := 33) dX11_thumb_31 4 rfl rfl ?_
            refine wp_iload_n (q := 34) dX11_thumb_33 3 rfl rfl ?_
            refine wp_icmp_le (tgt := 39) (q := 37) dX11_thumb_34 (by decide) rfl (fun hn => absurd hn (by exact fun e4 => hN ⟨c.2, c.1, c2, e1, e2, e3, e4⟩)) (fun _ => ?_)
            refine wp_iconst (q := 38) dX11_thumb_37 zq_iconst_m1 rfl ?_
            exact wp_ireturn dX11_thumb_38 rfl ⟨rfl, ⟨rfl, rfl, h, zXf_r⟩⟩ rfl rfl
    · rw [if_neg c2]
      refine wp_if_eqN (tgt := 37) (q := 16) dX11_thumb_13 (by decide) rfl (by omega) (fun _ => ?_) (fun hn => absurd hn (by first | omega | exact fun h => h | exact fun h => h trivial))
      refine wp_iconst (q := 38) dX11_thumb_37 zq_iconst_m1 rfl ?_
      exact wp_ireturn dX11_thumb_38 rfl ⟨rfl, ⟨rfl, rfl, h, zXf_r⟩⟩ rfl rfl
  · rw [if_neg c]
    refine wp_if_eqN (tgt := 37) (q := 8) dX11_thumb_5 (by decide) rfl (by omega) (fun _ => ?_) (fun hn => absurd hn (by first | omega | exact fun h => h | exact fun h => h trivial))
    refine wp_iconst (q := 38) dX11_thumb_37 zq_iconst_m1 rfl ?_
    exact wp_ireturn dX11_thumb_38 rfl ⟨rfl, ⟨rfl, rfl, h, zXf_r⟩⟩ rfl rfl
def zpas (tb : zTb) (v : Nat → Nat) (n : Nat) : Nat → Nat
  | 0 => if n % 2 = 0 then 0 else 10000
  | k + 1 => zpas tb v n k + (20000 - zoR tb v (2 * k) ((2 * k + 1) % n) - zoL tb v (2 * k) ((2 * k + 1) % n))
theorem zpas_le (tb : zTb) (v : Nat → Nat) (n : Nat) : ∀ k, zpas tb v n k ≤ 10000 + 20000 * k := by
  intro k
  induction k with
  | zero =>
    rw [zpas]
    split <;> omega
  | succ k ih =>
    rw [zpas]
    omega
set_option maxHeartbeats 4000000 in
set_option maxRecDepth 100000 in
theorem sp_pairs {d t n : Nat} {M : zMI} {L : zML} {g : zGd} {v : Nat → Nat} {hs : List (Nat → Nat)} {m : zMs} (h : zCI M L t n g v hs m) (h2 : 2 ≤ n) : Sy yX11_pairs YX11_pairs (d + 6) [.ref 0] M L (zRf t) (zAn M L t n g v hs m (.int (nI (zpas g.2.2.2.2.2 v n (n / 2) / 10)))) := by
  refine Sp.of (by decide +kernel) rfl (fun h => by first | exact h | cases h) (Nat.le_of_ble_eq_true rfl) ?_
  intro w G
  have hv := zCI_hv h
  have hr := zCI_sr h
  have h8 := hv.1
  have ho : zSt 43 := Or.inl rfl
  have loop : ∀ (M2 : zMI), zCI M2 L t n g v hs m → zAll M2 n g.2.2.2.2.2 v → zXf M M2 L L → ∀ k i, i + k = n / 2 → WP w YX11_pairs (d + 6, SS, 0, 0) G (some (zXp (zAn M L t n g v hs m (.int (nI (zpas g.2.2.2.2.2 v n (n / 2) / 10)))))) 45 [(2, .int (nI (2 * i))), (1, .int (nI (zpas g.2.2.2.2.2 v n i))), (0, .ref 0)] [] SS M2 L (zRf t) := by
    intro M2 h' ha hxf k
    induction k with
    | zero =>
      intro i hi
      have hin : i = n / 2 := by omega
      have hle := zpas_le g.2.2.2.2.2 v n i
      refine wp_iload_n (q := 46) dX11_pairs_45 0 rfl rfl ?_
      refine wp_iconst (q := 47) dX11_pairs_46 zq_iconst_1 rfl ?_
      refine wp_iaddN (q := 48) dX11_pairs_47 rfl ?_
      refine wp_aload_n (q := 49) dX11_pairs_48 2 rfl rfl ?_
      refine wp_getR (q := 52) dX11_pairs_49 zf_RX11_55 rfl zsh_0 (by first | rfl | assumption) rfl ?_
      refine wp_getI (q := 55) dX11_pairs_52 zf_RX11_165 rfl zsh_43 rfl ?_
      rw [(zCI_sr h').1]
      refine wp_icmp_geN (tgt := 90) (q := 58) dX11_pairs_55 (by decide) rfl (by omega) (by omega) (fun _ => ?_) (fun hn => absurd hn (by first | omega | exact fun h => h | exact fun h => h trivial))
      refine wp_iload_n (q := 91) dX11_pairs_90 1 rfl rfl ?_
      refine wp_bipush (q := 93) dX11_pairs_91 zq_bipush_10 rfl ?_
      refine wp_idivN (q := 94) dX11_pairs_93 (by omega) (by omega) (by omega) rfl ?_
      exact wp_ireturn dX11_pairs_94 rfl ⟨rfl, ⟨by rw [hin], rfl, h', hxf⟩⟩ rfl rfl
    | succ k ih =>
      intro i hi
      have hle := zpas_le g.2.2.2.2.2 v n i
      obtain ⟨o1, o2, -⟩ := ha (2 * i) (by omega)
      have hs1 := zo_sum g.2.2.2.2.2 v (2 * i) ((2 * i + 1) % n)
      refine wp_iload_n (q := 46) dX11_pairs_45 0 rfl rfl ?_
      refine wp_iconst (q := 47) dX11_pairs_46 zq_iconst_1 rfl ?_
      refine wp_iaddN (q := 48) dX11_pairs_47 rfl ?_
      refine wp_aload_n (q := 49) dX11_pairs_48 2 rfl rfl ?_
      refine wp_getR (q := 52) dX11_pairs_49 zf_RX11_55 rfl zsh_0 (by first | rfl | assumption) rfl ?_
      refine wp_getI (q := 55) dX11_pairs_52 zf_RX11_165 rfl zsh_43 rfl ?_
      rw [(zCI_sr h').1]
      refine wp_icmp_geN (tgt := 90) (q := 58) dX11_pairs_55 (by decide) rfl (by omega) (by omega) (fun hn => absurd hn (by first | omega | exact fun h => h | exact fun h => h trivial)) (fun _ => ?_)
      refine wp_iload_n (q := 59) dX11_pairs_58 1 rfl rfl ?_
      refine wp_sipush (q := 62) dX11_pairs_59 zq_sipush_20000 rfl ?_
      refine wp_aload_n (q := 63) dX11_pairs_62 2 rfl rfl ?_
      refine wp_getR (q := 66) dX11_pairs_63 zf_RX11_71 rfl zsh_0 (by first | rfl | assumption) rfl ?_
      refine wp_getR (q := 69) dX11_pairs_66 zf_RX11_330 rfl zsh_150 (by first | rfl | assumption) rfl ?_
      refine wp_iload_n (q := 70) dX11_pairs_69 0 rfl rfl ?_
      refine wp_iald (q := 71) _ dX11_pairs_70 zsh_153 rfl (by omega) (by decide) rfl ?_
      rw [o1]
      refine wp_isubN (q := 72) dX11_pairs_71 (by omega) rfl ?_
      refine wp_aload_n (q := 73) dX11_pairs_72 2 rfl rfl ?_
      refine wp_getR (q := 76) dX11_pairs_73 zf_RX11_71 rfl zsh_0 (by first | rfl | assumption) rfl ?_
      refine wp_getR (q := 79) dX11_pairs_76 zf_RX11_333 rfl zsh_150 (by first | rfl | assumption) rfl ?_
      refine wp_iload_n (q := 80) dX11_pairs_79 0 rfl rfl ?_
      refine wp_iald (q := 81) _ dX11_pairs_80 zsh_154 rfl (by omega) (by decide) rfl ?_
      rw [o2]
      refine wp_isubN (q := 82) dX11_pairs_81 (by omega) rfl ?_
      refine wp_iaddN (q := 83) dX11_pairs_82 rfl ?_
      refine wp_istore_n (q := 84) (loc' := [(1, _), (2, _), (0, _)]) dX11_pairs_83 rfl (by decide) rfl rfl ?_
      refine wp_iincN (q := 87) (loc' := [(2, _), (1, _), (0, _)]) (n := 2) dX11_pairs_84 rfl 1 rfl (by decide) rfl rfl ?_
      refine wp_goto (tgt := 45) dX11_pairs_87 (by decide) ?_
      refine WP.sub (loc' := [(2, _), (1, _), (0, _)]) [0, 1, 2] rfl ?_
      exact ih (i + 1) (by omega)
  refine wp_aload_n (q := 1) dX11_pairs_0 0 rfl rfl ?_
  refine wp_getR (q := 4) dX11_pairs_1 zf_RX11_55 rfl zsh_0 (zr_0_7 _) rfl ?_
  refine wp_cvx (q := 7) (sp_crackers (d := 0) ho hr.1 h8) zm_X7_crackers zl_RX11_168 dX11_pairs_4 rfl (by omega) (Nat.le_of_ble_eq_true rfl) zsh_43 rfl rfl ?_
  rw [if_neg (by omega)]
  refine wp_if_neN (tgt := 12) (q := 10) dX11_pairs_7 (by decide) rfl (by omega) (fun _ => ?_) (fun hn => absurd hn (by first | omega | exact fun h => h | exact fun h => h trivial))
  refine wp_aload_n (q := 13) dX11_pairs_12 0 rfl rfl ?_
  refine wp_getR (q := 16) dX11_pairs_13 zf_RX11_71 rfl zsh_0 (zr_0_9 _) rfl ?_
  refine wp_aload_n (q := 17) dX11_pairs_16 0 rfl rfl ?_
  refine wp_getR (q := 20) dX11_pairs_17 zf_RX11_55 rfl zsh_0 (zr_0_7 _) rfl ?_
  refine wp_cvy (q := 23) (sp_workAll (d := 0) h.1 ho (zCI_tm h) hv hr (zCI_pm h)) zm_X4_workAll zl_RX11_249 dX11_pairs_20 rfl (by omega) (Nat.le_of_ble_eq_true rfl) zsh_150 rfl rfl ?_
  rintro _ M2 _ _ ⟨rfl, rfl, rfl, ha, hp, hx⟩
  have h' := zCI_py h hp hx
  refine wp_aload_n (q := 24) dX11_pairs_23 0 rfl rfl ?_
  refine wp_getR (q := 27) dX11_pairs_24 zf_RX11_55 rfl zsh_0 (by first | rfl | assumption) rfl ?_
  refine wp_getI (q := 30) dX11_pairs_27 zf_RX11_165 rfl zsh_43 rfl ?_
  rw [(zCI_sr h').1]
  refine wp_iconst (q := 31) dX11_pairs_30 zq_iconst_2 rfl ?_
  refine wp_iremN (q := 32) dX11_pairs_31 (by omega) (by omega) (by omega) rfl ?_
  refine wp_if_neN (tgt := 39) (q := 35) dX11_pairs_32 (by decide) rfl (by omega) (fun c => ?_) (fun c => ?_)
  · skip
    refine wp_sipush (q := 42) dX11_pairs_39 zq_sipush_10000 rfl ?_
    refine wp_istore_n (q := 43) (loc' := [(1, _), (0, _)]) dX11_pairs_42 rfl (by decide) rfl rfl ?_
    refine wp_iconst (q := 44) dX11_pairs_43 zq_iconst_0 rfl ?_
    refine wp_istore_n (q := 45) (loc' := [(2, _), (1, _), (0, _)]) dX11_pairs_44 rfl (by decide) rfl rfl ?_
    refine WP.sub (loc' := [(2, _), (1, _), (0, _)]) [0, 1, 2] rfl ?_
    have := loop M2 h' (ha h2) (zXf_py h.1 hx) (n / 2) 0 (Nat.zero_add _)
    rw [zpas, if_neg c] at this
    exact this
  · skip
    refine wp_iconst (q := 36) dX11_pairs_35 zq_iconst_0 rfl ?_
    refine wp_goto (tgt := 42) dX11_pairs_36 (by decide) ?_
    refine wp_istore_n (q := 43) (loc' := [(1, _), (0, _)]) dX11_pairs_42 rfl (by decide) rfl rfl ?_
    refine wp_iconst (q := 44) dX11_pairs_43 zq_iconst_0 rfl ?_
    refine wp_istore_n (q := 45) (loc' := [(2, _), (1, _), (0, _)]) dX11_pairs_44 rfl (by decide) rfl rfl ?_
    refine WP.sub (loc' := [(2, _), (1, _), (0, _)]) [0, 1, 2] rfl ?_
    have := loop M2 h' (ha h2) (zXf_py h.1 hx) (n / 2) 0 (Nat.zero_add _)
    rw [zpas, if_pos c] at this
    exact this
set_option maxHeartbeats 4000000 in
set_option maxRecDepth 100000 in
theorem sp_pairsN {d t n : Nat} {M : zMI} {L : zML} {g : zGd} {v : Nat → Nat} {hs : List (Nat → Nat)} {m : zMs} (h : zCI M L t n g v hs m) (h2 : n < 2) : Sy yX11_pairs YX11_pairs (d + 6) [.ref 0] M L (zRf t) (zAn M L t n g v hs m (.int (-1))) := by
  refine Sp.of (by decide +kernel) rfl (fun h => by first | exact h | cases h) (Nat.le_of_ble_eq_true rfl) ?_
  intro w G
  have hv := zCI_hv h
  have hr := zCI_sr h
  have ho : zSt 43 := Or.inl rfl
  refine wp_aload_n (q := 1) dX11_pairs_0 0 rfl rfl ?_
  refine wp_getR (q := 4) dX11_pairs_1 zf_RX11_55 rfl zsh_0 (zr_0_7 _) rfl ?_
  refine wp_cvx (q := 7) (sp_crackers (d := 0) ho hr.1 hv.1) zm_X7_crackers zl_RX11_168 dX11_pairs_4 rfl (by omega) (Nat.le_of_ble_eq_true rfl) zsh_43 rfl rfl ?_
  rw [if_pos h2]
  refine wp_if_neN (tgt := 12) (q := 10) dX11_pairs_7 (by decide) rfl (by omega) (fun hn => absurd hn (by first | omega | exact fun h => h | exact fun h => h trivial)) (fun _ => ?_)
  refine wp_iconst (q := 11) dX11_pairs_10 zq_iconst_m1 rfl ?_
  exact wp_ireturn dX11_pairs_11 rfl ⟨rfl, ⟨rfl, rfl, h, zXf_r⟩⟩ rfl rfl

