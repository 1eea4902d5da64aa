def zdu (g : zGd) (k w : Nat) (b : Nat) : Nat := zrow (g.2.2.2.1 b) 100 w k
theorem zdu_le {g : zGd} {k w b : Nat} (hb : g.2.2.2.1 b ≤ 100) (hk : k ≤ 6) : zdu g k w b ≤ 1000000000000 := by
  have h1 := zrow_le (a := g.2.2.2.1 b) (wh := 100) (hits := w) hb k
  have h2 : 100 ^ k ≤ 100 ^ 6 := Nat.pow_le_pow_right (by decide) hk
  have h3 : 100 ^ 6 = 1000000000000 := by decide
  unfold zdu
  omega
def zdud (g : zGd) (k w z : Nat) : Nat := if z = 0 then zbi (zdu g k w) g.2.1 else zshr (zdu g k w (zbi (zdu g k w) g.2.1)) (nS (zdu g k w) g.2.1) 0
theorem lN_m1 {a : Nat} (ha : a < 9223372036854775808) : ¬ lN a ≤ -1 := by
  rw [Int64.le_iff_toInt_le, lN_I, lI_t (by omega) (by omega)]
  have h1 : (-1 : Int64).toInt = -1 := rfl
  omega
set_option maxHeartbeats 4000000 in
set_option maxRecDepth 100000 in
theorem sp_duds {d t n k w0 z0 : Nat} {M : zMI} {L : zML} {g : zGd} {v : Nat → Nat} {hs : List (Nat → Nat)} {m : zMs} (h : zCI M L t n g v hs m) (hb0 : 1 ≤ g.2.1) (hk1 : 1 ≤ k) (hk6 : k ≤ 6) (hwk : w0 ≤ k) (hz0 : z0 < 2) : Sy yX11_duds YX11_duds (d + 2) [.ref 0, .int (nI k), .int (nI w0), .int (nI z0)] M L (zRf t) (zAn M L t n g v hs m (.int (nI (zdud g k w0 z0)))) := by
  refine Sp.of (by decide +kernel) rfl (fun h => by first | exact h | cases h) (Nat.le_of_ble_eq_true rfl) ?_
  intro w G
  obtain ⟨s0, s1, s2, s3, s4, s5, s6, s7, s8, s11⟩ := zTab_s h.1
  obtain ⟨r2, r3, r4, r5, r6, r8, r9, r13, r14⟩ := zTab_r (t := t) h.1
  obtain ⟨c1, c2, c3, c4, c5, c6, c7, c8, c9⟩ := zCI_ct h
  obtain ⟨f, hf⟩ : ∃ f, zdu g k w0 = f := ⟨_, rfl⟩
  have hfb : ∀ i, i < g.2.1 → f i ≤ 1000000000000 := fun i hi => by rw [← hf]; exact zdu_le (c6 i hi).2 hk6
  have hsum : ∀ i, i ≤ g.2.1 → nS f i ≤ 1000000000000 * i := fun i hi => nS_le (fun j hj => hfb j (by omega))
  have fin : WP w YX11_duds (d + 2, SS, 0, 0) G (some (zXp (zAn M L t n g v hs m (.int (nI (zdud g k w0 z0)))))) 116 [(9, .int (nI g.2.1)), (4, .int (nI (zbi f g.2.1))), (5, .long (lN (f (zbi f g.2.1)))), (7, .long (lN (nS f g.2.1))), (0, .ref 0), (1, .int (nI k)), (2, .int (nI w0)), (3, .int (nI z0))] [] SS M L (zRf t) := by
    have hlt := zbi_lt f g.2.1 (by omega)
    have e1 := hfb _ hlt
    have e2 := hsum g.2.1 (Nat.le_refl _)
    refine wp_iload_n (q := 117) dX11_duds_116 7 rfl rfl ?_
    refine wp_if_neN (tgt := 125) (q := 120) dX11_duds_117 (by decide) rfl (by omega) (fun c0 => ?_) (fun c0 => ?_)
    · skip
      refine wp_aload_n (q := 126) dX11_duds_125 4 rfl rfl ?_
      refine wp_lload (q := 128) dX11_duds_126 2 rfl rfl ?_
      refine wp_lload (q := 130) dX11_duds_128 3 rfl rfl ?_
      refine wp_iconst (q := 131) dX11_duds_130 zq_iconst_0 rfl ?_
      refine wp_cvx (q := 134) (sp_share (d := 0) (p := f (zbi f g.2.1)) (a := nS f g.2.1) (w0 := 0) (by omega) (by omega)) zm_X11_share zl_RX11_322 dX11_duds_131 rfl (by omega) (Nat.le_of_ble_eq_true rfl) zsh_0 rfl rfl ?_
      exact wp_ireturn dX11_duds_134 rfl ⟨rfl, ⟨by unfold zdud; rw [if_neg c0, hf], rfl, h, zXf_r⟩⟩ rfl rfl
    · skip
      refine wp_iload (q := 122) dX11_duds_120 1 rfl rfl ?_
      refine wp_goto (tgt := 134) dX11_duds_122 (by decide) ?_
      exact wp_ireturn dX11_duds_134 rfl ⟨rfl, ⟨by unfold zdud; rw [if_pos c0, hf], rfl, h, zXf_r⟩⟩ rfl rfl
  have loop : ∀ q i, i + q = g.2.1 → 1 ≤ i → WP w YX11_duds (d + 2, SS, 0, 0) G (some (zXp (zAn M L t n g v hs m (.int (nI (zdud g k w0 z0)))))) 55 [(9, .int (nI i)), (4, .int (nI (zbi f i))), (5, .long (lN (f (zbi f i)))), (7, .long (lN (nS f i))), (0, .ref 0), (1, .int (nI k)), (2, .int (nI w0)), (3, .int (nI z0))] [] SS M L (zRf t) := by
    intro q
    induction q with
    | zero =>
      intro i hi h1
      have hin : i = g.2.1 := by omega
      refine wp_iload (q := 57) dX11_duds_55 0 rfl rfl ?_
      refine wp_aload_n (q := 58) dX11_duds_57 4 rfl rfl ?_
      refine wp_getR (q := 61) dX11_duds_58 zf_RX11_36 rfl zsh_0 (by first | rfl | assumption) rfl ?_
      refine wp_getI (q := 64) dX11_duds_61 zf_RX11_172 rfl (by first | assumption | rfl) rfl ?_
      rw [c3, hin]
      refine wp_icmp_geN (tgt := 116) (q := 67) dX11_duds_64 (by decide) rfl (by omega) (by omega) (fun _ => ?_) (fun hn => absurd hn (by first | omega | exact fun h => h | exact fun h => h trivial))
      refine WP.sub (loc' := [(9, _), (4, _), (5, _), (7, _), (0, _), (1, _), (2, _), (3, _)]) [0, 1, 2, 3, 4, 5, 6, 7] rfl ?_
      exact fin
    | succ q ih =>
      intro i hi h1
      have hlt := zbi_lt f i h1
      have e1 := hfb _ (show zbi f i < g.2.1 by omega)
      have e3 := hfb i (by omega)
      have hi2 := ih (i + 1) (by omega) (by omega)
      refine wp_iload (q := 57) dX11_duds_55 0 rfl rfl ?_
      refine wp_aload_n (q := 58) dX11_duds_57 4 rfl rfl ?_
      refine wp_getR (q := 61) dX11_duds_58 zf_RX11_36 rfl zsh_0 (by first | rfl | assumption) rfl ?_
      refine wp_getI (q := 64) dX11_duds_61 zf_RX11_172 rfl (by first | assumption | rfl) rfl ?_
      rw [c3]
      refine wp_icmp_geN (tgt := 116) (q := 67) dX11_duds_64 (by decide) rfl (by omega) (by omega) (fun hn => absurd hn (by first | omega | exact fun h => h | exact fun h => h trivial)) (fun _ => ?_)
      refine wp_aload_n (q := 68) dX11_duds_67 4 rfl rfl ?_
      refine wp_aload_n (q := 69) dX11_duds_68 4 rfl rfl ?_
      refine wp_getR (q := 72) dX11_duds_69 zf_RX11_36 rfl zsh_0 (by first | rfl | assumption) rfl ?_
      refine wp_getR (q := 75) dX11_duds_72 zf_RX11_230 rfl (by first | assumption | rfl) (by first | assumption | rfl) rfl ?_
      refine wp_iload (q := 77) dX11_duds_75 0 rfl rfl ?_
      refine wp_iald (q := 78) _ dX11_duds_77 (by first | assumption | rfl) rfl (by omega) (by decide) rfl ?_
      rw [(c6 i (by omega)).1]
      refine wp_bipush (q := 80) dX11_duds_78 zq_bipush_100 rfl ?_
      refine wp_iload_n (q := 81) dX11_duds_80 5 rfl rfl ?_
      refine wp_iload_n (q := 82) dX11_duds_81 6 rfl rfl ?_
      refine wp_cvx (q := 85) (sp_inARow (d := 0) (a := g.2.2.2.1 i) (wh0 := 100) (c6 i (by omega)).2 (by decide) hk6 (by omega)) zm_X11_inARow zl_RX11_318 dX11_duds_82 rfl (by omega) (Nat.le_of_ble_eq_true rfl) zsh_0 rfl rfl ?_
      rw [show zrow (g.2.2.2.1 i) 100 w0 k = f i from by rw [← hf]; rfl]
      refine wp_lstore (q := 87) (loc' := [(10, _), (9, _), (4, _), (5, _), (7, _), (0, _), (1, _), (2, _), (3, _)]) dX11_duds_85 (by decide) rfl rfl ?_
      refine wp_lload (q := 89) dX11_duds_87 4 rfl rfl ?_
      refine wp_lload (q := 91) dX11_duds_89 0 rfl rfl ?_
      refine wp_laddN (q := 92) dX11_duds_91 rfl ?_
      refine wp_lstore (q := 94) (loc' := [(7, _), (10, _), (9, _), (4, _), (5, _), (0, _), (1, _), (2, _), (3, _)]) dX11_duds_92 (by decide) rfl rfl ?_
      refine wp_lload (q := 96) dX11_duds_94 1 rfl rfl ?_
      refine wp_lload (q := 98) dX11_duds_96 4 rfl rfl ?_
      refine wp_lcmp_leN (tgt := 110) (q := 102) dX11_duds_98 rfl dX11_duds_99 (by decide) rfl (by omega) (by omega) (fun c0 => ?_) (fun c0 => ?_)
      · skip
        rw [zbi, if_neg (by omega), nS] at hi2
        refine wp_iincN (q := 113) (loc' := [(9, _), (7, _), (10, _), (4, _), (5, _), (0, _), (1, _), (2, _), (3, _)]) (n := 1) dX11_duds_110 rfl 2 rfl (by decide) rfl rfl ?_
        refine wp_goto (tgt := 55) dX11_duds_113 (by decide) ?_
        refine WP.sub (loc' := [(9, _), (4, _), (5, _), (7, _), (0, _), (1, _), (2, _), (3, _)]) [0, 3, 4, 1, 5, 6, 7, 8] rfl ?_
        exact hi2
      · skip
        rw [zbi, if_pos (by omega), nS] at hi2
        refine wp_lload (q := 104) dX11_duds_102 1 rfl rfl ?_
        refine wp_lstore (q := 106) (loc' := [(5, _), (7, _), (10, _), (9, _), (4, _), (0, _), (1, _), (2, _), (3, _)]) dX11_duds_104 (by decide) rfl rfl ?_
        refine wp_iload (q := 108) dX11_duds_106 3 rfl rfl ?_
        refine wp_istore (q := 110) (loc' := [(4, _), (5, _), (7, _), (10, _), (9, _), (0, _), (1, _), (2, _), (3, _)]) dX11_duds_108 (by decide) rfl rfl ?_
        refine wp_iincN (q := 113) (loc' := [(9, _), (4, _), (5, _), (7, _), (10, _), (0, _), (1, _), (2, _), (3, _)]) (n := 1) dX11_duds_110 rfl 4 rfl (by decide) rfl rfl ?_
        refine wp_goto (tgt := 55) dX11_duds_113 (by decide) ?_
        refine WP.sub (loc' := [(9, _), (4, _), (5, _), (7, _), (0, _), (1, _), (2, _), (3, _)]) [0, 1, 2, 3, 5, 6, 7, 8] rfl ?_
        exact hi2
  refine wp_aload_n (q := 1) dX11_duds_0 0 rfl rfl ?_
  refine wp_getR (q := 4) dX11_duds_1 zf_RX11_36 rfl zsh_0 (by first | rfl | assumption) rfl ?_
  refine wp_getI (q := 7) dX11_duds_4 zf_RX11_172 rfl (by first | assumption | rfl) rfl ?_
  rw [c3]
  refine wp_if_eqN (tgt := 39) (q := 10) dX11_duds_7 (by decide) rfl (by omega) (fun hn => absurd hn (by first | omega | exact fun h => h | exact fun h => h trivial)) (fun _ => ?_)
  refine wp_iload_n (q := 11) dX11_duds_10 1 rfl rfl ?_
  refine wp_iconst (q := 12) dX11_duds_11 zq_iconst_1 rfl ?_
  refine wp_icmp_ltN (tgt := 39) (q := 15) dX11_duds_12 (by decide) rfl (by omega) (by omega) (fun hn => absurd hn (by first | omega | exact fun h => h | exact fun h => h trivial)) (fun _ => ?_)
  refine wp_iload_n (q := 16) dX11_duds_15 1 rfl rfl ?_
  refine wp_bipush (q := 18) dX11_duds_16 zq_bipush_6 rfl ?_
  refine wp_icmp_gtN (tgt := 39) (q := 21) dX11_duds_18 (by decide) rfl (by omega) (by omega) (fun hn => absurd hn (by first | omega | exact fun h => h | exact fun h => h trivial)) (fun _ => ?_)
  refine wp_iload_n (q := 22) dX11_duds_21 2 rfl rfl ?_
  refine wp_if_ltN (tgt := 39) (q := 25) dX11_duds_22 (by decide) rfl (by omega) (fun hn => absurd hn (by first | omega | exact fun h => h | exact fun h => h trivial)) (fun _ => ?_)
  refine wp_iload_n (q := 26) dX11_duds_25 2 rfl rfl ?_
  refine wp_iload_n (q := 27) dX11_duds_26 1 rfl rfl ?_
  refine wp_icmp_gtN (tgt := 39) (q := 30) dX11_duds_27 (by decide) rfl (by omega) (by omega) (fun hn => absurd hn (by first | omega | exact fun h => h | exact fun h => h trivial)) (fun _ => ?_)
  refine wp_iload_n (q := 31) dX11_duds_30 3 rfl rfl ?_
  refine wp_if_ltN (tgt := 39) (q := 34) dX11_duds_31 (by decide) rfl (by omega) (fun hn => absurd hn (by first | omega | exact fun h => h | exact fun h => h trivial)) (fun _ => ?_)
  refine wp_iload_n (q := 35) dX11_duds_34 3 rfl rfl ?_
  refine wp_iconst (q := 36) dX11_duds_35 zq_iconst_1 rfl ?_
  refine wp_icmp_leN (tgt := 41) (q := 39) dX11_duds_36 (by decide) rfl (by omega) (by omega) (fun _ => ?_) (fun hn => absurd hn (by first | omega | exact fun h => h | exact fun h => h trivial))
  refine wp_iconst (q := 42) dX11_duds_41 zq_iconst_0 rfl ?_
  refine wp_istore (q := 44) (loc' := [(4, _), (0, _), (1, _), (2, _), (3, _)]) dX11_duds_42 (by decide) rfl rfl ?_
  refine wp_ldc2_w (q := 47) dX11_duds_44 zk_RX11_328 rfl ?_
  refine wp_lstore (q := 49) (loc' := [(5, _), (4, _), (0, _), (1, _), (2, _), (3, _)]) dX11_duds_47 (by decide) rfl rfl ?_
  refine wp_lconst (q := 50) dX11_duds_49 zq_lconst_0 rfl ?_
  refine wp_lstore (q := 52) (loc' := [(7, _), (5, _), (4, _), (0, _), (1, _), (2, _), (3, _)]) dX11_duds_50 (by decide) rfl rfl ?_
  refine wp_iconst (q := 53) dX11_duds_52 zq_iconst_0 rfl ?_
  refine wp_istore (q := 55) (loc' := [(9, _), (7, _), (5, _), (4, _), (0, _), (1, _), (2, _), (3, _)]) dX11_duds_53 (by decide) rfl rfl ?_
  refine wp_iload (q := 57) dX11_duds_55 0 rfl rfl ?_
  refine wp_aload_n (q := 58) dX11_duds_57 4 rfl rfl ?_
  refine wp_getR (q := 61) dX11_duds_58 zf_RX11_36 rfl zsh_0 (by first | rfl | assumption) rfl ?_
  refine wp_getI (q := 64) dX11_duds_61 zf_RX11_172 rfl (by first | assumption | rfl) rfl ?_
  rw [c3]
  refine wp_icmp_geN (tgt := 116) (q := 67) dX11_duds_64 (by decide) rfl (by omega) (by omega) (fun hn => absurd hn (by first | omega | exact fun h => h | exact fun h => h trivial)) (fun _ => ?_)
  refine wp_aload_n (q := 68) dX11_duds_67 4 rfl rfl ?_
  refine wp_aload_n (q := 69) dX11_duds_68 4 rfl rfl ?_
  refine wp_getR (q := 72) dX11_duds_69 zf_RX11_36 rfl zsh_0 (by first | rfl | assumption) rfl ?_
  refine wp_getR (q := 75) dX11_duds_72 zf_RX11_230 rfl (by first | assumption | rfl) (by first | assumption | rfl) rfl ?_
  refine wp_iload (q := 77) dX11_duds_75 0 rfl rfl ?_
  refine wp_iald (q := 78) _ dX11_duds_77 (by first | assumption | rfl) rfl (by omega) (by decide) rfl ?_
  rw [(c6 0 (by omega)).1]
  refine wp_bipush (q := 80) dX11_duds_78 zq_bipush_100 rfl ?_
  refine wp_iload_n (q := 81) dX11_duds_80 5 rfl rfl ?_
  refine wp_iload_n (q := 82) dX11_duds_81 6 rfl rfl ?_
  refine wp_cvx (q := 85) (sp_inARow (d := 0) (a := g.2.2.2.1 0) (wh0 := 100) (c6 0 (by omega)).2 (by decide) hk6 (by omega)) zm_X11_inARow zl_RX11_318 dX11_duds_82 rfl (by omega) (Nat.le_of_ble_eq_true rfl) zsh_0 rfl rfl ?_
  rw [show zrow (g.2.2.2.1 0) 100 w0 k = f 0 from by rw [← hf]; rfl]
  have e0 := hfb 0 (by omega)
  refine wp_lstore (q := 87) (loc' := [(10, _), (9, _), (7, _), (5, _), (4, _), (0, _), (1, _), (2, _), (3, _)]) dX11_duds_85 (by decide) rfl rfl ?_
  refine wp_lload (q := 89) dX11_duds_87 2 rfl rfl ?_
  refine wp_lload (q := 91) dX11_duds_89 0 rfl rfl ?_
  refine wp_laddN (q := 92) dX11_duds_91 rfl ?_
  refine wp_lstore (q := 94) (loc' := [(7, _), (10, _), (9, _), (5, _), (4, _), (0, _), (1, _), (2, _), (3, _)]) dX11_duds_92 (by decide) rfl rfl ?_
  refine wp_lload (q := 96) dX11_duds_94 1 rfl rfl ?_
  refine wp_lload (q := 98) dX11_duds_96 3 rfl rfl ?_
  refine wp_lcmp_le (tgt := 110) (q := 102) dX11_duds_98 rfl dX11_duds_99 (by decide) rfl (fun hn => absurd hn (by exact lN_m1 (by omega))) (fun _ => ?_)
  refine wp_lload (q := 104) dX11_duds_102 1 rfl rfl ?_
  refine wp_lstore (q := 106) (loc' := [(5, _), (7, _), (10, _), (9, _), (4, _), (0, _), (1, _), (2, _), (3, _)]) dX11_duds_104 (by decide) rfl rfl ?_
  refine wp_iload (q := 108) dX11_duds_106 3 rfl rfl ?_
  refine wp_istore (q := 110) (loc' := [(4, _), (5, _), (7, _), (10, _), (9, _), (0, _), (1, _), (2, _), (3, _)]) dX11_duds_108 (by decide) rfl rfl ?_
  refine wp_iincN (q := 113) (loc' := [(9, _), (4, _), (5, _), (7, _), (10, _), (0, _), (1, _), (2, _), (3, _)]) (n := 1) dX11_duds_110 rfl 4 rfl (by decide) rfl rfl ?_
  refine wp_goto (tgt := 55) dX11_duds_113 (by decide) ?_
  refine WP.sub (loc' := [(9, _), (4, _), (5, _), (7, _), (0, _), (1, _), (2, _), (3, _)]) [0, 1, 2, 3, 5, 6, 7, 8] rfl ?_
  have := loop (g.2.1 - 1) 1 (by omega) (Nat.le_refl _)
  have ez : zbi f 1 = 0 := by show (if f 0 < f 0 then 0 else 0) = 0; split <;> rfl
  rw [ez, nS, nS] at this
  exact this
set_option maxHeartbeats 4000000 in
set_option maxRecDepth 100000 in
theorem sp_dudsN {d t n : Nat} {x y z : Int32} {M : zMI} {L : zML} {g : zGd} {v : Nat → Nat} {hs : List (Nat → Nat)} {m : zMs} (h : zCI M L t n g v hs m) (hN : ¬ (g.2.1 ≠ 0 ∧ ¬ x < nI 1 ∧ ¬ nI 6 < x ∧ ¬ y < 0 ∧ ¬ x < y ∧ zin z 2)) : Sy yX11_duds YX11_duds (d + 2) [.ref 0, .int x, .int y, .int z] M L (zRf t) (zAn M L t n g v hs m (.int (-1))) := by
  refine Sp.of (by decide +kernel) rfl (fun h => by first | exact h | cases h) (Nat.le_of_ble_eq_true rfl) ?_
  intro w G
  obtain ⟨s0, s1, s2, s3, s4, s5, s6, s7, s8, s11⟩ := zTab_s h.1
  obtain ⟨r2, r3, r4, r5, r6, r8, r9, r13, r14⟩ := zTab_r (t := t) h.1
  obtain ⟨c1, c2, c3, c4, c5, c6, c7, c8, c9⟩ := zCI_ct h
  refine wp_aload_n (q := 1) dX11_duds_0 0 rfl rfl ?_
  refine wp_getR (q := 4) dX11_duds_1 zf_RX11_36 rfl zsh_0 (by first | rfl | assumption) rfl ?_
  refine wp_getI (q := 7) dX11_duds_4 zf_RX11_172 rfl (by first | assumption | rfl) rfl ?_
  rw [c3]
  refine wp_if_eqN (tgt := 39) (q := 10) dX11_duds_7 (by decide) rfl (by omega) (fun e0 => ?_) (fun e0 => ?_)
  · skip
    refine wp_iconst (q := 40) dX11_duds_39 zq_iconst_m1 rfl ?_
    exact wp_ireturn dX11_duds_40 rfl ⟨rfl, ⟨rfl, rfl, h, zXf_r⟩⟩ rfl rfl
  · skip
    refine wp_iload_n (q := 11) dX11_duds_10 1 rfl rfl ?_
    refine wp_iconst (q := 12) dX11_duds_11 zq_iconst_1 rfl ?_
    refine wp_icmp_lt (tgt := 39) (q := 15) dX11_duds_12 (by decide) rfl (fun e1 => ?_) (fun e1 => ?_)
    · skip
      refine wp_iconst (q := 40) dX11_duds_39 zq_iconst_m1 rfl ?_
      exact wp_ireturn dX11_duds_40 rfl ⟨rfl, ⟨rfl, rfl, h, zXf_r⟩⟩ rfl rfl
    · skip
      refine wp_iload_n (q := 16) dX11_duds_15 1 rfl rfl ?_
      refine wp_bipush (q := 18) dX11_duds_16 zq_bipush_6 rfl ?_
      refine wp_icmp_gt (tgt := 39) (q := 21) dX11_duds_18 (by decide) rfl (fun e2 => ?_) (fun e2 => ?_)
      · skip
        refine wp_iconst (q := 40) dX11_duds_39 zq_iconst_m1 rfl ?_
        exact wp_ireturn dX11_duds_40 rfl ⟨rfl, ⟨rfl, rfl, h, zXf_r⟩⟩ rfl rfl
      · skip
        refine wp_iload_n (q := 22) dX11_duds_21 2 rfl rfl ?_
        refine wp_if_lt (tgt := 39) (q := 25) dX11_duds_22 (by decide) rfl (fun e3 => ?_) (fun e3 => ?_)
        · skip
          refine wp_iconst (q := 40) dX11_duds_39 zq_iconst_m1 rfl ?_
          exact wp_ireturn dX11_duds_40 rfl ⟨rfl, ⟨rfl, rfl, h, zXf_r⟩⟩ rfl rfl
        · skip
          refine wp_iload_n (q := 26) dX11_duds_25 2 rfl rfl ?_
          refine wp_iload_n (q := 27) dX11_duds_26 1 rfl rfl ?_
          refine wp_icmp_gt (tgt := 39) (q := 30) dX11_duds_27 (by decide) rfl (fun e4 => ?_) (fun e4 => ?_)
          · skip
            refine wp_iconst (q := 40) dX11_duds_39 zq_iconst_m1 rfl ?_
            exact wp_ireturn dX11_duds_40 rfl ⟨rfl, ⟨rfl, rfl, h, zXf_r⟩⟩ rfl rfl
          · skip
            refine wp_iload_n (q := 31) dX11_duds_30 3 rfl rfl ?_
            refine wp_if_lt (tgt := 39) (q := 34) dX11_duds_31 (by decide) rfl (fun e5 => ?_) (fun e5 => ?_)
            · skip
              refine wp_iconst (q := 40) dX11_duds_39 zq_iconst_m1 rfl ?_
              exact wp_ireturn dX11_duds_40 rfl ⟨rfl, ⟨rfl, rfl, h, zXf_r⟩⟩ rfl rfl
            · skip
              refine wp_iload_n (q := 35) dX11_duds_34 3 rfl rfl ?_
              refine wp_iconst (q := 36) dX11_duds_35 zq_iconst_1 rfl ?_
              refine wp_icmp_le (tgt := 41) (q := 39) dX11_duds_36 (by decide) rfl (fun hn => absurd hn (by exact fun e6 => hN ⟨e0, e1, e2, e3, e4, zin_le (by decide) e5 (fun e7 => Int32.not_le.mpr e7 e6)⟩)) (fun _ => ?_)
              refine wp_iconst (q := 40) dX11_duds_39 zq_iconst_m1 rfl ?_
              exact wp_ireturn dX11_duds_40 rfl ⟨rfl, ⟨rfl, rfl, h, zXf_r⟩⟩ rfl rfl
theorem zCI_gf {M M' : zMI} {L : zML} {t n : Nat} {g : zGd} {v : Nat → Nat} {hs : List (Nat → Nat)} {m : zMs} (h : zCI M L t n g v hs m) (e : ∀ x, x ≠ 173 → x ≠ 174 → M' x = M x) : zCI M' L t n g v hs m :=
  zCI_scr h (zPM_fr (zCI_pm h) (e 151 (by decide) (by decide))) (fun x x1 x2 x3 => e x (by unfold zScr at x2; omega) (by unfold zScr at x2; omega)) (by rw [e 156 (by decide) (by decide)]) (by rw [e 156 (by decide) (by decide)]) rfl
set_option maxHeartbeats 4000000 in
set_option maxRecDepth 100000 in
theorem sp_gifts {d t n : Nat} {M : zMI} {L : zML} {g : zGd} {v : Nat → Nat} {hs : List (Nat → Nat)} {m : zMs} (h : zCI M L t n g v hs m) (h2 : 2 ≤ n) (hn : n ≤ nS (ht v) n) : Sy yX11_gifts YX11_gifts (d + 4) [.ref 0] M L (zRf t) (zAn M L t n g v hs m (.int (nI (zgm v n 17)))) := by
  refine Sp.of (by decide +kernel) rfl (fun h => by first | exact h | cases h) (Nat.le_of_ble_eq_true rfl) ?_
  intro w G
  have hv := zCI_hv h
  have hr := zCI_sr h
  have h8 := hv.1
  have ho : zSt 43 := Or.inl rfl
  have hle : nS (ht v) n ≤ 99 * n := nS_le (fun i hi => hv.2.2.2.1 i hi)
  refine wp_aload_n (q := 1) dX11_gifts_0 0 rfl rfl ?_
  refine wp_getR (q := 4) dX11_gifts_1 zf_RX11_55 rfl zsh_0 (zr_0_7 _) rfl ?_
  refine wp_cvx (q := 7) (sp_crackers (d := 0) ho hr.1 h8) zm_X7_crackers zl_RX11_168 dX11_gifts_4 rfl (by omega) (Nat.le_of_ble_eq_true rfl) zsh_43 rfl rfl ?_
  rw [if_neg (by omega)]
  refine wp_if_eqN (tgt := 27) (q := 10) dX11_gifts_7 (by decide) rfl (by omega) (fun hn => absurd hn (by first | omega | exact fun h => h | exact fun h => h trivial)) (fun _ => ?_)
  refine wp_aload_n (q := 11) dX11_gifts_10 0 rfl rfl ?_
  refine wp_getR (q := 14) dX11_gifts_11 zf_RX11_55 rfl zsh_0 (by first | rfl | assumption) rfl ?_
  refine wp_cvx (q := 17) (sp_allHats (d := 0) ho hv hr) zm_X7_allHats zl_RX11_187 dX11_gifts_14 rfl (by omega) (Nat.le_of_ble_eq_true rfl) zsh_43 rfl rfl ?_
  refine wp_aload_n (q := 18) dX11_gifts_17 0 rfl rfl ?_
  refine wp_getR (q := 21) dX11_gifts_18 zf_RX11_55 rfl zsh_0 (by first | rfl | assumption) rfl ?_
  refine wp_getI (q := 24) dX11_gifts_21 zf_RX11_165 rfl zsh_43 rfl ?_
  rw [hr.1]
  refine wp_icmp_geN (tgt := 29) (q := 27) dX11_gifts_24 (by decide) rfl (by omega) (by omega) (fun _ => ?_) (fun hn => absurd hn (by first | omega | exact fun h => h | exact fun h => h trivial))
  refine wp_aload_n (q := 30) dX11_gifts_29 0 rfl rfl ?_
  refine wp_getR (q := 33) dX11_gifts_30 zf_RX11_94 rfl zsh_0 (by first | rfl | assumption) rfl ?_
  refine wp_aload_n (q := 34) dX11_gifts_33 0 rfl rfl ?_
  refine wp_getR (q := 37) dX11_gifts_34 zf_RX11_55 rfl zsh_0 (zr_0_7 _) rfl ?_
  refine wp_cvy (q := 40) (sp_fewest (d := 0) ho hv hr) zm_X1_fewest zl_RX11_336 dX11_gifts_37 rfl (by omega) (Nat.le_of_ble_eq_true rfl) zsh_172 rfl rfl ?_
  rintro _ M2 _ _ ⟨rfl, rfl, rfl, hx⟩
  exact wp_ireturn dX11_gifts_40 rfl ⟨rfl, ⟨rfl, rfl, zCI_gf h hx, fun x hx' => ⟨hx x (by omega) (by omega), rfl⟩⟩⟩ rfl rfl
set_option maxHeartbeats 4000000 in
set_option maxRecDepth 100000 in
theorem sp_giftsN {d t n : Nat} {M : zMI} {L : zML} {g : zGd} {v : Nat → Nat} {hs : List (Nat → Nat)} {m : zMs} (h : zCI M L t n g v hs m) (hN : ¬ (2 ≤ n ∧ n ≤ nS (ht v) n)) : Sy yX11_gifts YX11_gifts (d + 4) [.ref 0] M L (zRf t) (zAn M L t n g v hs m (.int (-1))) := by
  refine Sp.of (by decide +kernel) rfl (fun h => by first | exact h | cases h) (Nat.le_of_ble_eq_true rfl) ?_
  intro w G
  have hv := zCI_hv h
  have hr := zCI_sr h
  have h8 := hv.1
  have ho : zSt 43 := Or.inl rfl
  have hle : nS (ht v) n ≤ 99 * n := nS_le (fun i hi => hv.2.2.2.1 i hi)
  refine wp_aload_n (q := 1) dX11_gifts_0 0 rfl rfl ?_
  refine wp_getR (q := 4) dX11_gifts_1 zf_RX11_55 rfl zsh_0 (zr_0_7 _) rfl ?_
  refine wp_cvx (q := 7) (sp_crackers (d := 0) ho hr.1 h8) zm_X7_crackers zl_RX11_168 dX11_gifts_4 rfl (by omega) (Nat.le_of_ble_eq_true rfl) zsh_43 rfl rfl ?_
  by_cases c : n < 2
  · rw [if_pos c]
    refine wp_if_eqN (tgt := 27) (q := 10) dX11_gifts_7 (by decide) rfl (by omega) (fun _ => ?_) (fun hn => absurd hn (by first | omega | exact fun h => h | exact fun h => h trivial))
    refine wp_iconst (q := 28) dX11_gifts_27 zq_iconst_m1 rfl ?_
    exact wp_ireturn dX11_gifts_28 rfl ⟨rfl, ⟨rfl, rfl, h, zXf_r⟩⟩ rfl rfl
  · rw [if_neg c]
    refine wp_if_eqN (tgt := 27) (q := 10) dX11_gifts_7 (by decide) rfl (by omega) (fun hn => absurd hn (by first | omega | exact fun h => h | exact fun h => h trivial)) (fun _ => ?_)
    refine wp_aload_n (q := 11) dX11_gifts_10 0 rfl rfl ?_
    refine wp_getR (q := 14) dX11_gifts_11 zf_RX11_55 rfl zsh_0 (by first | rfl | assumption) rfl ?_
    refine wp_cvx (q := 17) (sp_allHats (d := 0) ho hv hr) zm_X7_allHats zl_RX11_187 dX11_gifts_14 rfl (by omega) (Nat.le_of_ble_eq_true rfl) zsh_43 rfl rfl ?_
    refine wp_aload_n (q := 18) dX11_gifts_17 0 rfl rfl ?_
    refine wp_getR (q := 21) dX11_gifts_18 zf_RX11_55 rfl zsh_0 (by first | rfl | assumption) rfl ?_
    refine wp_getI (q := 24) dX11_gifts_21 zf_RX11_165 rfl zsh_43 rfl ?_
    rw [hr.1]
    refine wp_icmp_geN (tgt := 29) (q := 27) dX11_gifts_24 (by decide) rfl (by omega) (by omega) (fun hn => absurd hn (by first | omega | exact fun h => h | exact fun h => h trivial)) (fun _ => ?_)
    refine wp_iconst (q := 28) dX11_gifts_27 zq_iconst_m1 rfl ?_
    exact wp_ireturn dX11_gifts_28 rfl ⟨rfl, ⟨rfl, rfl, h, zXf_r⟩⟩ rfl rfl
def zlf (n : Nat) : Nat → Nat → Nat → (Nat → Nat) → Option (Nat × Nat)
  | 0, _, _, _ => none
  | k + 1, r, gv, v => if znz v n = 0 then some (r, gv) else zlf n k (r + 1) (gv + nC (zg v) n) (zpass n v)
def zlfa (o : Option (Nat × Nat)) (w : Nat) : Int32 := match o with
  | none => -1
  | some q => nI (if w = 0 then q.1 else q.2)
theorem zV_pass {n : Nat} {v : Nat → Nat} (hv : zV n v) : zV n (zpass n v) := by
  have := zV_d2 hv n (Nat.le_refl _)
  rw [zd2_pass hv.2.2.2.1] at this
  exact this
theorem znz_le (v : Nat → Nat) (n : Nat) : znz v n ≤ n := nC_le
set_option maxHeartbeats 4000000 in
set_option maxRecDepth 100000 in
theorem sp_left {d t n w0 : Nat} {M : zMI} {L : zML} {g : zGd} {v : Nat → Nat} {hs : List (Nat → Nat)} {m : zMs} (h : zCI M L t n g v hs m) (h2 : 2 ≤ n) (hw0 : w0 < 2) : Sy yX11_left YX11_left (d + 3) [.ref 0, .int (nI w0)] M L (zRf t) (zAn M L t n g v hs m (.int (zlfa (zlf n 61 0 0 v) w0))) := by
  refine Sp.of (by decide +kernel) rfl (fun h => by first | exact h | cases h) (Nat.le_of_ble_eq_true rfl) ?_
  intro w G
  have hv := zCI_hv h
  have hr := zCI_sr h
  have h8 := hv.1
  have ho : zSt 43 := Or.inl rfl
  have h157 : zSt 157 := Or.inr (Or.inl rfl)
  have loop : ∀ k r gv (u : Nat → Nat) (M2 : zMI), r + k = 61 → zlf n k r gv u = zlf n 61 0 0 v → zV n u → zSR M2 157 n u → gv ≤ 8 * r → (∀ x, (x < 157 ∨ 161 < x) → M2 x = M x) → WP w YX11_left (d + 3, SS, 0, 0) G (some (zXp (zAn M L t n g v hs m (.int (zlfa (zlf n 61 0 0 v) w0))))) 39 [(3, .int (nI r)), (2, .int (nI gv)), (0, .ref 0), (1, .int (nI w0))] [] SS M2 L (zRf t) := by
    intro k
    induction k with
    | zero =>
      intro r gv u M2 hr61 hz hu hru hg hx
      refine wp_iload_n (q := 40) dX11_left_39 0 rfl rfl ?_
      refine wp_bipush (q := 42) dX11_left_40 zq_bipush_60 rfl ?_
      refine wp_icmp_gtN (tgt := 87) (q := 45) dX11_left_42 (by decide) rfl (by omega) (by omega) (fun _ => ?_) (fun hn => absurd hn (by first | omega | exact fun h => h | exact fun h => h trivial))
      refine wp_iconst (q := 88) dX11_left_87 zq_iconst_m1 rfl ?_
      exact wp_ireturn dX11_left_88 rfl ⟨rfl, ⟨by rw [← hz]; rfl, rfl, zCI_tr h hx, fun x hx' => ⟨hx x (by omega), rfl⟩⟩⟩ rfl rfl
    | succ k ih =>
      intro r gv u M2 hr61 hz hu hru hg hx
      rw [zlf] at hz
      refine wp_iload_n (q := 40) dX11_left_39 0 rfl rfl ?_
      refine wp_bipush (q := 42) dX11_left_40 zq_bipush_60 rfl ?_
      refine wp_icmp_gtN (tgt := 87) (q := 45) dX11_left_42 (by decide) rfl (by omega) (by omega) (fun hn => absurd hn (by first | omega | exact fun h => h | exact fun h => h trivial)) (fun _ => ?_)
      refine wp_aload_n (q := 46) dX11_left_45 2 rfl rfl ?_
      refine wp_getR (q := 49) dX11_left_46 zf_RX11_80 rfl zsh_0 (by first | rfl | assumption) rfl ?_
      refine wp_getR (q := 52) dX11_left_49 zf_RX11_287 rfl zsh_156 (by first | rfl | assumption) rfl ?_
      refine wp_cvx (q := 55) (sp_hatlessV (d := 0) h157 hu hru) zm_X7_hatless zl_RX11_190 dX11_left_52 rfl (by omega) (Nat.le_of_ble_eq_true rfl) zsh_157 rfl rfl ?_
      have hle := znz_le u n
      refine wp_if_neN (tgt := 68) (q := 58) dX11_left_55 (by decide) rfl (by omega) (fun c0 => ?_) (fun c0 => ?_)
      · skip
        rw [if_neg c0] at hz
        refine wp_iload_n (q := 69) dX11_left_68 1 rfl rfl ?_
        refine wp_aload_n (q := 70) dX11_left_69 2 rfl rfl ?_
        refine wp_getR (q := 73) dX11_left_70 zf_RX11_80 rfl zsh_0 (by first | rfl | assumption) rfl ?_
        refine wp_getR (q := 76) dX11_left_73 zf_RX11_287 rfl zsh_156 (by first | rfl | assumption) rfl ?_
        refine wp_cvy (q := 79) (sp_giveLeft (d := 0) h157 hu hru h2) zm_X7_giveLeft zl_RX11_339 dX11_left_76 rfl (by omega) (Nat.le_of_ble_eq_true rfl) zsh_157 rfl rfl ?_
        rintro _ M3 _ _ ⟨rfl, rfl, rfl, hru3, hx3⟩
        have hc := nC_le (f := zg u) (n := n)
        refine wp_iaddN (q := 80) dX11_left_79 rfl ?_
        refine wp_istore_n (q := 81) (loc' := [(2, _), (3, _), (0, _), (1, _)]) dX11_left_80 rfl (by decide) rfl rfl ?_
        refine wp_iincN (q := 84) (loc' := [(3, _), (2, _), (0, _), (1, _)]) (n := 1) dX11_left_81 rfl 1 rfl (by decide) rfl rfl ?_
        refine wp_goto (tgt := 39) dX11_left_84 (by decide) ?_
        refine WP.sub (loc' := [(3, _), (2, _), (0, _), (1, _)]) [0, 1, 2, 3] rfl ?_
        exact ih (r + 1) (gv + nC (zg u) n) _ M3 (by omega) hz (zV_pass hu) hru3 (by omega) (fun x hx' => by rw [hx3 x (by omega)]; exact hx x hx')
      · skip
        rw [if_pos c0] at hz
        refine wp_iload_n (q := 59) dX11_left_58 3 rfl rfl ?_
        refine wp_if_neN (tgt := 66) (q := 62) dX11_left_59 (by decide) rfl (by omega) (fun c1 => ?_) (fun c1 => ?_)
        · skip
          refine wp_iload_n (q := 67) dX11_left_66 1 rfl rfl ?_
          exact wp_ireturn dX11_left_67 rfl ⟨rfl, ⟨by rw [← hz]; show _ = some (Value.int (nI (if w0 = 0 then r else gv))); rw [if_neg c1], rfl, zCI_tr h hx, fun x hx' => ⟨hx x (by omega), rfl⟩⟩⟩ rfl rfl
        · skip
          refine wp_iload_n (q := 63) dX11_left_62 0 rfl rfl ?_
          refine wp_goto (tgt := 67) dX11_left_63 (by decide) ?_
          exact wp_ireturn dX11_left_67 rfl ⟨rfl, ⟨by rw [← hz]; show _ = some (Value.int (nI (if w0 = 0 then r else gv))); rw [if_pos c1], rfl, zCI_tr h hx, fun x hx' => ⟨hx x (by omega), rfl⟩⟩⟩ rfl rfl
  refine wp_aload_n (q := 1) dX11_left_0 0 rfl rfl ?_
  refine wp_getR (q := 4) dX11_left_1 zf_RX11_55 rfl zsh_0 (zr_0_7 _) rfl ?_
  refine wp_cvx (q := 7) (sp_crackers (d := 0) ho hr.1 h8) zm_X7_crackers zl_RX11_168 dX11_left_4 rfl (by omega) (Nat.le_of_ble_eq_true rfl) zsh_43 rfl rfl ?_
  rw [if_neg (by omega)]
  refine wp_if_eqN (tgt := 19) (q := 10) dX11_left_7 (by decide) rfl (by omega) (fun hn => absurd hn (by first | omega | exact fun h => h | exact fun h => h trivial)) (fun _ => ?_)
  refine wp_iload_n (q := 11) dX11_left_10 1 rfl rfl ?_
  refine wp_if_ltN (tgt := 19) (q := 14) dX11_left_11 (by decide) rfl (by omega) (fun hn => absurd hn (by first | omega | exact fun h => h | exact fun h => h trivial)) (fun _ => ?_)
  refine wp_iload_n (q := 15) dX11_left_14 1 rfl rfl ?_
  refine wp_iconst (q := 16) dX11_left_15 zq_iconst_1 rfl ?_
  refine wp_icmp_leN (tgt := 21) (q := 19) dX11_left_16 (by decide) rfl (by omega) (by omega) (fun _ => ?_) (fun hn => absurd hn (by first | omega | exact fun h => h | exact fun h => h trivial))
  refine wp_aload_n (q := 22) dX11_left_21 0 rfl rfl ?_
  refine wp_getR (q := 25) dX11_left_22 zf_RX11_80 rfl zsh_0 (by first | rfl | assumption) rfl ?_
  refine wp_getR (q := 28) dX11_left_25 zf_RX11_287 rfl zsh_156 (by first | rfl | assumption) rfl ?_
  refine wp_aload_n (q := 29) dX11_left_28 0 rfl rfl ?_
  refine wp_getR (q := 32) dX11_left_29 zf_RX11_55 rfl zsh_0 (by first | rfl | assumption) rfl ?_
  refine wp_cvy (q := 35) (sp_copyFrom (d := 0) (a := 157) (b := 43) h157 ho (by decide)) zm_X7_copyFrom zl_RX11_290 dX11_left_32 rfl (by omega) (Nat.le_of_ble_eq_true rfl) zsh_157 rfl rfl ?_
  rintro _ M2 _ _ ⟨rfl, rfl, rfl, hc, hx⟩
  refine wp_iconst (q := 36) dX11_left_35 zq_iconst_0 rfl ?_
  refine wp_istore_n (q := 37) (loc' := [(2, _), (0, _), (1, _)]) dX11_left_36 rfl (by decide) rfl rfl ?_
  refine wp_iconst (q := 38) dX11_left_37 zq_iconst_0 rfl ?_
  refine wp_istore_n (q := 39) (loc' := [(3, _), (2, _), (0, _), (1, _)]) dX11_left_38 rfl (by decide) rfl rfl ?_
  refine WP.sub (loc' := [(3, _), (2, _), (0, _), (1, _)]) [0, 1, 2, 3] rfl ?_
  exact loop 61 0 0 v M2 (by decide) rfl hv (hc n v hv hr) (by decide) (fun x hx' => hx x (by omega))
set_option maxHeartbeats 4000000 in
set_option maxRecDepth 100000 in
theorem sp_leftN {d t n : Nat} {x : Int32} {M : zMI} {L : zML} {g : zGd} {v : Nat → Nat} {hs : List (Nat → Nat)} {m : zMs} (h : zCI M L t n g v hs m) (hN : ¬ (2 ≤ n ∧ zin x 2)) : Sy yX11_left YX11_left (d + 3) [.ref 0, .int x] M L (zRf t) (zAn M L t n g v hs m (.int (-1))) := by
  refine Sp.of (by decide +kernel) rfl (fun h => by first | exact h | cases h) (Nat.le_of_ble_eq_true rfl) ?_
  intro w G
  have hv := zCI_hv h
  have hr := zCI_sr h
  have h8 := hv.1
  have ho : zSt 43 := Or.inl rfl
  refine wp_aload_n (q := 1) dX11_left_0 0 rfl rfl ?_
  refine wp_getR (q := 4) dX11_left_1 zf_RX11_55 rfl zsh_0 (zr_0_7 _) rfl ?_
  refine wp_cvx (q := 7) (sp_crackers (d := 0) ho hr.1 h8) zm_X7_crackers zl_RX11_168 dX11_left_4 rfl (by omega) (Nat.le_of_ble_eq_true rfl) zsh_43 rfl rfl ?_
  by_cases c : n < 2
  · rw [if_pos c]
    refine wp_if_eqN (tgt := 19) (q := 10) dX11_left_7 (by decide) rfl (by omega) (fun _ => ?_) (fun hn => absurd hn (by first | omega | exact fun h => h | exact fun h => h trivial))
    refine wp_iconst (q := 20) dX11_left_19 zq_iconst_m1 rfl ?_
    exact wp_ireturn dX11_left_20 rfl ⟨rfl, ⟨rfl, rfl, h, zXf_r⟩⟩ rfl rfl
  · rw [if_neg c]
    refine wp_if_eqN (tgt := 19) (q := 10) dX11_left_7 (by decide) rfl (by omega) (fun hn => absurd hn (by first | omega | exact fun h => h | exact fun h => h trivial)) (fun _ => ?_)
    refine wp_iload_n (q := 11) dX11_left_10 1 rfl rfl ?_
    refine wp_if_lt (tgt := 19) (q := 14) dX11_left_11 (by decide) rfl (fun e1 => ?_) (fun e1 => ?_)
    · skip
      refine wp_iconst (q := 20) dX11_left_19 zq_iconst_m1 rfl ?_
      exact wp_ireturn dX11_left_20 rfl ⟨rfl, ⟨rfl, rfl, h, zXf_r⟩⟩ rfl rfl
    · skip
      refine wp_iload_n (q := 15) dX11_left_14 1 rfl rfl ?_
      refine wp_iconst (q := 16) dX11_left_15 zq_iconst_1 rfl ?_
      refine wp_icmp_le (tgt := 21) (q := 19) dX11_left_16 (by decide) rfl (fun hn => absurd hn (by exact fun e2 => hN ⟨by omega, zin_le (by decide) e1 (fun e3 => Int32.not_le.mpr e3 e2)⟩)) (fun _ => ?_)
      refine wp_iconst (q := 20) dX11_left_19 zq_iconst_m1 rfl ?_
      exact wp_ireturn dX11_left_20 rfl ⟨rfl, ⟨rfl, rfl, h, zXf_r⟩⟩ rfl rfl

