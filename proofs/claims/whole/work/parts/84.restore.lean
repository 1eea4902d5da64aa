set_option maxHeartbeats 4000000 in
set_option maxRecDepth 100000 in
theorem sp_two {d t a x y : Nat} {M : zMI} {L : zML} (ha : a + 1 < 1600) (hx : M 1 a = nI x) (hy : M 1 (a + 1) = nI y) : Sx yX11_two YX11_two (d) [.ref 0, .int (nI a)] M L (zRf t) (some (.int (nI (256 * x + y)))) M L (zRf t) := by
  refine Sp.of (by decide +kernel) rfl (fun h => by first | exact h | cases h) (Nat.le_of_ble_eq_true rfl) ?_
  intro w G
  refine wp_sipush (q := 3) dX11_two_0 zq_sipush_256 rfl ?_
  refine wp_aload_n (q := 4) dX11_two_3 0 rfl rfl ?_
  refine wp_getR (q := 7) dX11_two_4 zf_RX11_9 rfl zsh_0 (zr_0_0 _) rfl ?_
  refine wp_iload_n (q := 8) dX11_two_7 1 rfl rfl ?_
  refine wp_iald (q := 9) _ dX11_two_8 zsh_1 rfl (by omega) (by decide) rfl ?_
  rw [hx]
  refine wp_imulN (q := 10) dX11_two_9 rfl ?_
  refine wp_aload_n (q := 11) dX11_two_10 0 rfl rfl ?_
  refine wp_getR (q := 14) dX11_two_11 zf_RX11_9 rfl zsh_0 (zr_0_0 _) rfl ?_
  refine wp_iload_n (q := 15) dX11_two_14 1 rfl rfl ?_
  refine wp_iconst (q := 16) dX11_two_15 zq_iconst_1 rfl ?_
  refine wp_iaddN (q := 17) dX11_two_16 rfl ?_
  refine wp_iald (q := 18) _ dX11_two_17 zsh_1 rfl (by omega) (by decide) rfl ?_
  rw [hy]
  refine wp_iaddN (q := 19) dX11_two_18 rfl ?_
  exact wp_ireturn dX11_two_19 rfl ⟨rfl, rfl, rfl, rfl, rfl⟩ rfl rfl
abbrev zsit (n : Nat) (b : Nat → Nat) (a : Nat) : Prop := b a < n ∧ b (a + 1) ≤ 99 ∧ b (a + 2) ≤ 2 ∧ b (a + 3) ≤ 9 ∧ b (a + 4) ≤ 2 ∧ b (a + 5) ≤ 9
set_option maxHeartbeats 4000000 in
set_option maxRecDepth 100000 in
theorem sp_isSitting {d t a n : Nat} {M : zMI} {L : zML} {b : Nat → Nat} (hn : M 43 0 = nI n) (h8 : n ≤ 8) (ha : a + 5 < 1600) (hb : ∀ j, j < 6 → M 1 (a + j) = nI (b (a + j)) ∧ b (a + j) < 256) : Sx yX11_isSitting YX11_isSitting (d) [.ref 0, .int (nI a)] M L (zRf t) (some (.int (if zsit n b a then nI 1 else nI 0))) M L (zRf t) := by
  refine Sp.of (by decide +kernel) rfl (fun h => by first | exact h | cases h) (Nat.le_of_ble_eq_true rfl) ?_
  intro w G
  obtain ⟨e0, l0⟩ := hb 0 (by decide)
  obtain ⟨e1, l1⟩ := hb 1 (by decide)
  obtain ⟨e2, l2⟩ := hb 2 (by decide)
  obtain ⟨e3, l3⟩ := hb 3 (by decide)
  obtain ⟨e4, l4⟩ := hb 4 (by decide)
  obtain ⟨e5, l5⟩ := hb 5 (by decide)
  rw [Nat.add_zero] at e0 l0
  refine wp_aload_n (q := 1) dX11_isSitting_0 0 rfl rfl ?_
  refine wp_getR (q := 4) dX11_isSitting_1 zf_RX11_9 rfl zsh_0 (zr_0_0 _) rfl ?_
  refine wp_iload_n (q := 5) dX11_isSitting_4 1 rfl rfl ?_
  refine wp_iald (q := 6) _ dX11_isSitting_5 zsh_1 rfl (by omega) (by decide) rfl ?_
  rw [e0]
  refine wp_aload_n (q := 7) dX11_isSitting_6 0 rfl rfl ?_
  refine wp_getR (q := 10) dX11_isSitting_7 zf_RX11_55 rfl zsh_0 (by first | rfl | assumption) rfl ?_
  refine wp_getI (q := 13) dX11_isSitting_10 zf_RX11_165 rfl zsh_43 rfl ?_
  rw [hn]
  refine wp_icmp_geN (tgt := 83) (q := 16) dX11_isSitting_13 (by decide) rfl (by omega) (by omega) (fun c0 => ?_) (fun c0 => ?_)
  · skip
    rw [if_neg (fun e => by omega)]
    refine wp_iconst (q := 84) dX11_isSitting_83 zq_iconst_0 rfl ?_
    exact wp_zreturn dX11_isSitting_84 rfl (by first | with_reducible exact znar_0 | with_reducible exact znar_1 | assumption) ⟨rfl, rfl, rfl, rfl, rfl⟩ rfl rfl
  · skip
    refine wp_aload_n (q := 17) dX11_isSitting_16 0 rfl rfl ?_
    refine wp_getR (q := 20) dX11_isSitting_17 zf_RX11_9 rfl zsh_0 (zr_0_0 _) rfl ?_
    refine wp_iload_n (q := 21) dX11_isSitting_20 1 rfl rfl ?_
    refine wp_iconst (q := 22) dX11_isSitting_21 zq_iconst_1 rfl ?_
    refine wp_iaddN (q := 23) dX11_isSitting_22 rfl ?_
    refine wp_iald (q := 24) _ dX11_isSitting_23 zsh_1 rfl (by omega) (by decide) rfl ?_
    rw [e1]
    refine wp_bipush (q := 26) dX11_isSitting_24 zq_bipush_99 rfl ?_
    refine wp_icmp_gtN (tgt := 83) (q := 29) dX11_isSitting_26 (by decide) rfl (by omega) (by omega) (fun c1 => ?_) (fun c1 => ?_)
    · skip
      rw [if_neg (fun e => by omega)]
      refine wp_iconst (q := 84) dX11_isSitting_83 zq_iconst_0 rfl ?_
      exact wp_zreturn dX11_isSitting_84 rfl (by first | with_reducible exact znar_0 | with_reducible exact znar_1 | assumption) ⟨rfl, rfl, rfl, rfl, rfl⟩ rfl rfl
    · skip
      refine wp_aload_n (q := 30) dX11_isSitting_29 0 rfl rfl ?_
      refine wp_getR (q := 33) dX11_isSitting_30 zf_RX11_9 rfl zsh_0 (zr_0_0 _) rfl ?_
      refine wp_iload_n (q := 34) dX11_isSitting_33 1 rfl rfl ?_
      refine wp_iconst (q := 35) dX11_isSitting_34 zq_iconst_2 rfl ?_
      refine wp_iaddN (q := 36) dX11_isSitting_35 rfl ?_
      refine wp_iald (q := 37) _ dX11_isSitting_36 zsh_1 rfl (by omega) (by decide) rfl ?_
      rw [e2]
      refine wp_iconst (q := 38) dX11_isSitting_37 zq_iconst_2 rfl ?_
      refine wp_icmp_gtN (tgt := 83) (q := 41) dX11_isSitting_38 (by decide) rfl (by omega) (by omega) (fun c2 => ?_) (fun c2 => ?_)
      · skip
        rw [if_neg (fun e => by omega)]
        refine wp_iconst (q := 84) dX11_isSitting_83 zq_iconst_0 rfl ?_
        exact wp_zreturn dX11_isSitting_84 rfl (by first | with_reducible exact znar_0 | with_reducible exact znar_1 | assumption) ⟨rfl, rfl, rfl, rfl, rfl⟩ rfl rfl
      · skip
        refine wp_aload_n (q := 42) dX11_isSitting_41 0 rfl rfl ?_
        refine wp_getR (q := 45) dX11_isSitting_42 zf_RX11_9 rfl zsh_0 (zr_0_0 _) rfl ?_
        refine wp_iload_n (q := 46) dX11_isSitting_45 1 rfl rfl ?_
        refine wp_iconst (q := 47) dX11_isSitting_46 zq_iconst_3 rfl ?_
        refine wp_iaddN (q := 48) dX11_isSitting_47 rfl ?_
        refine wp_iald (q := 49) _ dX11_isSitting_48 zsh_1 rfl (by omega) (by decide) rfl ?_
        rw [e3]
        refine wp_bipush (q := 51) dX11_isSitting_49 zq_bipush_9 rfl ?_
        refine wp_icmp_gtN (tgt := 83) (q := 54) dX11_isSitting_51 (by decide) rfl (by omega) (by omega) (fun c3 => ?_) (fun c3 => ?_)
        · skip
          rw [if_neg (fun e => by omega)]
          refine wp_iconst (q := 84) dX11_isSitting_83 zq_iconst_0 rfl ?_
          exact wp_zreturn dX11_isSitting_84 rfl (by first | with_reducible exact znar_0 | with_reducible exact znar_1 | assumption) ⟨rfl, rfl, rfl, rfl, rfl⟩ rfl rfl
        · skip
          refine wp_aload_n (q := 55) dX11_isSitting_54 0 rfl rfl ?_
          refine wp_getR (q := 58) dX11_isSitting_55 zf_RX11_9 rfl zsh_0 (zr_0_0 _) rfl ?_
          refine wp_iload_n (q := 59) dX11_isSitting_58 1 rfl rfl ?_
          refine wp_iconst (q := 60) dX11_isSitting_59 zq_iconst_4 rfl ?_
          refine wp_iaddN (q := 61) dX11_isSitting_60 rfl ?_
          refine wp_iald (q := 62) _ dX11_isSitting_61 zsh_1 rfl (by omega) (by decide) rfl ?_
          rw [e4]
          refine wp_iconst (q := 63) dX11_isSitting_62 zq_iconst_2 rfl ?_
          refine wp_icmp_gtN (tgt := 83) (q := 66) dX11_isSitting_63 (by decide) rfl (by omega) (by omega) (fun c4 => ?_) (fun c4 => ?_)
          · skip
            rw [if_neg (fun e => by omega)]
            refine wp_iconst (q := 84) dX11_isSitting_83 zq_iconst_0 rfl ?_
            exact wp_zreturn dX11_isSitting_84 rfl (by first | with_reducible exact znar_0 | with_reducible exact znar_1 | assumption) ⟨rfl, rfl, rfl, rfl, rfl⟩ rfl rfl
          · skip
            refine wp_aload_n (q := 67) dX11_isSitting_66 0 rfl rfl ?_
            refine wp_getR (q := 70) dX11_isSitting_67 zf_RX11_9 rfl zsh_0 (zr_0_0 _) rfl ?_
            refine wp_iload_n (q := 71) dX11_isSitting_70 1 rfl rfl ?_
            refine wp_iconst (q := 72) dX11_isSitting_71 zq_iconst_5 rfl ?_
            refine wp_iaddN (q := 73) dX11_isSitting_72 rfl ?_
            refine wp_iald (q := 74) _ dX11_isSitting_73 zsh_1 rfl (by omega) (by decide) rfl ?_
            rw [e5]
            refine wp_bipush (q := 76) dX11_isSitting_74 zq_bipush_9 rfl ?_
            refine wp_icmp_gtN (tgt := 83) (q := 79) dX11_isSitting_76 (by decide) rfl (by omega) (by omega) (fun c5 => ?_) (fun c5 => ?_)
            · skip
              rw [if_neg (fun e => by omega)]
              refine wp_iconst (q := 84) dX11_isSitting_83 zq_iconst_0 rfl ?_
              exact wp_zreturn dX11_isSitting_84 rfl (by first | with_reducible exact znar_0 | with_reducible exact znar_1 | assumption) ⟨rfl, rfl, rfl, rfl, rfl⟩ rfl rfl
            · skip
              rw [if_pos ⟨by omega, by omega, by omega, by omega, by omega, by omega⟩]
              refine wp_iconst (q := 80) dX11_isSitting_79 zq_iconst_1 rfl ?_
              refine wp_goto (tgt := 84) dX11_isSitting_80 (by decide) ?_
              exact wp_zreturn dX11_isSitting_84 rfl (by first | with_reducible exact znar_0 | with_reducible exact znar_1 | assumption) ⟨rfl, rfl, rfl, rfl, rfl⟩ rfl rfl
def zIok (n k : Nat) (b : Nat → Nat) : Prop := k = 7 + 6 * n ∧ b (k - 1) = zchk b (k - 1) ∧ (∀ j, j < 3 → 256 * b (2 * j) + b (2 * j + 1) ≤ 9999) ∧ ∀ s, s < n → zsit n b (6 + 6 * s) ∧ ∀ s', s' < s → b (6 + 6 * s') ≠ b (6 + 6 * s)
def zmask (b : Nat → Nat) : Nat → Nat
  | 0 => 0
  | s + 1 => zmask b s ||| 2 ^ b (6 + 6 * s)
theorem zmask_t (b : Nat → Nat) (x : Nat) : ∀ s, (zmask b s).testBit x = true ↔ ∃ s', s' < s ∧ b (6 + 6 * s') = x := by
  intro s
  induction s with
  | zero => simp [zmask]
  | succ s ih =>
    rw [zmask, Nat.testBit_or, Nat.testBit_two_pow, Bool.or_eq_true, ih, decide_eq_true_eq]
    constructor
    · rintro (⟨s', h1, h2⟩ | h)
      · exact ⟨s', by omega, h2⟩
      · exact ⟨s, by omega, h⟩
    · rintro ⟨s', h1, h2⟩
      by_cases e : s' = s
      · right; rw [← e]; exact h2
      · left; exact ⟨s', by omega, h2⟩
theorem zmask_lt (b : Nat → Nat) : ∀ s, (∀ s', s' < s → b (6 + 6 * s') < 8) → zmask b s < 256 := by
  intro s
  induction s with
  | zero => intro _; exact (by decide : 0 < 256)
  | succ s ih =>
    intro h
    rw [zmask]
    have h1 := ih (fun s' hs => h s' (by omega))
    have h2 : 2 ^ b (6 + 6 * s) < 2 ^ 8 := Nat.pow_lt_pow_right (by decide) (h s (by omega))
    exact Nat.or_lt_two_pow (n := 8) h1 h2
set_option maxHeartbeats 4000000 in
set_option maxRecDepth 100000 in
theorem sp_isImage {d t n k : Nat} {M : zMI} {L : zML} {b : Nat → Nat} (hn : M 43 0 = nI n) (h8 : n ≤ 8) (hk : k ≤ 1600) (hb : ∀ i, i < k → M 1 i = nI (b i) ∧ b i < 256) : Sy yX11_isImage YX11_isImage (d + 1) [.ref 0, .int (nI k)] M L (zRf t) (fun v0 M' L' R' => M = M' ∧ L = L' ∧ R' = zRf t ∧ ((v0 = some (.int (nI 1)) ∧ zIok n k b) ∨ (v0 = some (.int (nI 0)) ∧ ¬ zIok n k b))) := by
  refine Sp.of (by decide +kernel) rfl (fun h => by first | exact h | cases h) (Nat.le_of_ble_eq_true rfl) ?_
  intro w G
  refine wp_iload_n (q := 1) dX11_isImage_0 1 rfl rfl ?_
  refine wp_bipush (q := 3) dX11_isImage_1 zq_bipush_6 rfl ?_
  refine wp_bipush (q := 5) dX11_isImage_3 zq_bipush_6 rfl ?_
  refine wp_aload_n (q := 6) dX11_isImage_5 0 rfl rfl ?_
  refine wp_getR (q := 9) dX11_isImage_6 zf_RX11_55 rfl zsh_0 (by first | rfl | assumption) rfl ?_
  refine wp_getI (q := 12) dX11_isImage_9 zf_RX11_165 rfl zsh_43 rfl ?_
  rw [hn]
  refine wp_imulN (q := 13) dX11_isImage_12 rfl ?_
  refine wp_iaddN (q := 14) dX11_isImage_13 rfl ?_
  refine wp_iconst (q := 15) dX11_isImage_14 zq_iconst_1 rfl ?_
  refine wp_iaddN (q := 16) dX11_isImage_15 rfl ?_
  refine wp_icmp_neN (tgt := 41) (q := 19) dX11_isImage_16 (by decide) rfl (by omega) (by omega) (fun c0 => ?_) (fun c0 => ?_)
  · skip
    refine wp_iconst (q := 42) dX11_isImage_41 zq_iconst_0 rfl ?_
    exact wp_zreturn dX11_isImage_42 rfl (by first | with_reducible exact znar_0 | with_reducible exact znar_1 | assumption) ⟨rfl, ⟨rfl, rfl, rfl, Or.inr ⟨rfl, fun e => by have := e.1; omega⟩⟩⟩ rfl rfl
  · skip
    have hk7 : k = 7 + 6 * n := by omega
    have hb1 := (hb (k - 1) (by omega)).1
    have hb2 := (hb (k - 1) (by omega)).2
    have hc2 := zchk_lt b (k - 1)
    refine wp_aload_n (q := 20) dX11_isImage_19 0 rfl rfl ?_
    refine wp_getR (q := 23) dX11_isImage_20 zf_RX11_9 rfl zsh_0 (zr_0_0 _) rfl ?_
    refine wp_iload_n (q := 24) dX11_isImage_23 1 rfl rfl ?_
    refine wp_iconst (q := 25) dX11_isImage_24 zq_iconst_1 rfl ?_
    refine wp_isubN (q := 26) dX11_isImage_25 (by omega) rfl ?_
    refine wp_iald (q := 27) _ dX11_isImage_26 zsh_1 rfl (by omega) (by decide) rfl ?_
    rw [hb1]
    refine wp_aload_n (q := 28) dX11_isImage_27 0 rfl rfl ?_
    refine wp_aload_n (q := 29) dX11_isImage_28 0 rfl rfl ?_
    refine wp_getR (q := 32) dX11_isImage_29 zf_RX11_9 rfl zsh_0 (zr_0_0 _) rfl ?_
    refine wp_iload_n (q := 33) dX11_isImage_32 1 rfl rfl ?_
    refine wp_iconst (q := 34) dX11_isImage_33 zq_iconst_1 rfl ?_
    refine wp_isubN (q := 35) dX11_isImage_34 (by omega) rfl ?_
    refine wp_cvx (q := 38) (sp_check (d := 0) (a := 1) (ln := 1600) (b := b) zsh_1 (by omega) (by decide) (fun i hi => hb i (by omega))) zm_X11_check zl_RX11_381 dX11_isImage_35 rfl (by omega) (Nat.le_of_ble_eq_true rfl) zsh_0 rfl rfl ?_
    refine wp_icmp_eqN (tgt := 43) (q := 41) dX11_isImage_38 (by decide) rfl (by omega) (by omega) (fun c1 => ?_) (fun c1 => ?_)
    · skip
      obtain ⟨a0, l0⟩ := hb 0 (by omega)
      obtain ⟨a1, l1⟩ := hb 1 (by omega)
      obtain ⟨a2, l2⟩ := hb 2 (by omega)
      obtain ⟨a3, l3⟩ := hb 3 (by omega)
      obtain ⟨a4, l4⟩ := hb 4 (by omega)
      obtain ⟨a5, l5⟩ := hb 5 (by omega)
      refine wp_aload_n (q := 44) dX11_isImage_43 0 rfl rfl ?_
      refine wp_iconst (q := 45) dX11_isImage_44 zq_iconst_0 rfl ?_
      refine wp_cvx (q := 48) (sp_two (d := 0) (by decide) a0 a1) zm_X11_two zl_RX11_388 dX11_isImage_45 rfl (by omega) (Nat.le_of_ble_eq_true rfl) zsh_0 rfl rfl ?_
      refine wp_sipush (q := 51) dX11_isImage_48 zq_sipush_9999 rfl ?_
      refine wp_icmp_gtN (tgt := 76) (q := 54) dX11_isImage_51 (by decide) rfl (by omega) (by omega) (fun d0 => ?_) (fun d0 => ?_)
      · skip
        refine wp_iconst (q := 77) dX11_isImage_76 zq_iconst_0 rfl ?_
        exact wp_zreturn dX11_isImage_77 rfl (by first | with_reducible exact znar_0 | with_reducible exact znar_1 | assumption) ⟨rfl, ⟨rfl, rfl, rfl, Or.inr ⟨rfl, fun e => by have h5 : 256 * b 0 + b 1 ≤ 9999 := e.2.2.1 0 (by decide); omega⟩⟩⟩ rfl rfl
      · skip
        refine wp_aload_n (q := 55) dX11_isImage_54 0 rfl rfl ?_
        refine wp_iconst (q := 56) dX11_isImage_55 zq_iconst_2 rfl ?_
        refine wp_cvx (q := 59) (sp_two (d := 0) (by decide) a2 a3) zm_X11_two zl_RX11_388 dX11_isImage_56 rfl (by omega) (Nat.le_of_ble_eq_true rfl) zsh_0 rfl rfl ?_
        refine wp_sipush (q := 62) dX11_isImage_59 zq_sipush_9999 rfl ?_
        refine wp_icmp_gtN (tgt := 76) (q := 65) dX11_isImage_62 (by decide) rfl (by omega) (by omega) (fun d1 => ?_) (fun d1 => ?_)
        · skip
          refine wp_iconst (q := 77) dX11_isImage_76 zq_iconst_0 rfl ?_
          exact wp_zreturn dX11_isImage_77 rfl (by first | with_reducible exact znar_0 | with_reducible exact znar_1 | assumption) ⟨rfl, ⟨rfl, rfl, rfl, Or.inr ⟨rfl, fun e => by have h5 : 256 * b 2 + b 3 ≤ 9999 := e.2.2.1 1 (by decide); omega⟩⟩⟩ rfl rfl
        · skip
          refine wp_aload_n (q := 66) dX11_isImage_65 0 rfl rfl ?_
          refine wp_iconst (q := 67) dX11_isImage_66 zq_iconst_4 rfl ?_
          refine wp_cvx (q := 70) (sp_two (d := 0) (by decide) a4 a5) zm_X11_two zl_RX11_388 dX11_isImage_67 rfl (by omega) (Nat.le_of_ble_eq_true rfl) zsh_0 rfl rfl ?_
          refine wp_sipush (q := 73) dX11_isImage_70 zq_sipush_9999 rfl ?_
          refine wp_icmp_leN (tgt := 78) (q := 76) dX11_isImage_73 (by decide) rfl (by omega) (by omega) (fun d2 => ?_) (fun d2 => ?_)
          · skip
            have loop : ∀ q s, s + q = n → (∀ s1, s1 < s → zsit n b (6 + 6 * s1) ∧ ∀ s', s' < s1 → b (6 + 6 * s') ≠ b (6 + 6 * s1)) → WP w YX11_isImage (d + 1, SS, 0, 0) G (some (zXp (fun v0 M' L' R' => M = M' ∧ L = L' ∧ R' = zRf t ∧ ((v0 = some (.int (nI 1)) ∧ zIok n k b) ∨ (v0 = some (.int (nI 0)) ∧ ¬ zIok n k b))))) 82 [(3, .int (nI s)), (2, .int (nI (zmask b s))), (0, .ref 0), (1, .int (nI k))] [] SS M L (zRf t) := by
              intro q
              induction q with
              | zero =>
                intro s hs hok
                have hsn : s = n := by omega
                refine wp_iload_n (q := 83) dX11_isImage_82 0 rfl rfl ?_
                refine wp_aload_n (q := 84) dX11_isImage_83 2 rfl rfl ?_
                refine wp_getR (q := 87) dX11_isImage_84 zf_RX11_55 rfl zsh_0 (by first | rfl | assumption) rfl ?_
                refine wp_getI (q := 90) dX11_isImage_87 zf_RX11_165 rfl zsh_43 rfl ?_
                rw [hn]
                refine wp_icmp_geN (tgt := 146) (q := 93) dX11_isImage_90 (by decide) rfl (by omega) (by omega) (fun _ => ?_) (fun hn => absurd hn (by first | omega | exact fun h => h | exact fun h => h trivial))
                refine wp_iconst (q := 147) dX11_isImage_146 zq_iconst_1 rfl ?_
                refine wp_zreturn dX11_isImage_147 rfl (by first | with_reducible exact znar_0 | with_reducible exact znar_1 | assumption) ⟨rfl, ⟨rfl, rfl, rfl, Or.inl ⟨rfl, hk7, c1, ?_, by rw [hsn] at hok; exact hok⟩⟩⟩ rfl rfl
                intro j hj
                have hj3 : j = 0 ∨ j = 1 ∨ j = 2 := by omega
                rcases hj3 with rfl | rfl | rfl
                · show 256 * b 0 + b 1 ≤ 9999
                  omega
                · show 256 * b 2 + b 3 ≤ 9999
                  omega
                · show 256 * b 4 + b 5 ≤ 9999
                  omega
              | succ q ih =>
                intro s hs hok
                have hsn : s < n := by omega
                have hmk := zmask_lt b s (fun s' h' => by have := (hok s' h').1.1; omega)
                obtain ⟨w1, w2⟩ := hb (6 + 6 * s) (by omega)
                refine wp_iload_n (q := 83) dX11_isImage_82 0 rfl rfl ?_
                refine wp_aload_n (q := 84) dX11_isImage_83 2 rfl rfl ?_
                refine wp_getR (q := 87) dX11_isImage_84 zf_RX11_55 rfl zsh_0 (by first | rfl | assumption) rfl ?_
                refine wp_getI (q := 90) dX11_isImage_87 zf_RX11_165 rfl zsh_43 rfl ?_
                rw [hn]
                refine wp_icmp_geN (tgt := 146) (q := 93) dX11_isImage_90 (by decide) rfl (by omega) (by omega) (fun hn => absurd hn (by first | omega | exact fun h => h | exact fun h => h trivial)) (fun _ => ?_)
                refine wp_bipush (q := 95) dX11_isImage_93 zq_bipush_6 rfl ?_
                refine wp_bipush (q := 97) dX11_isImage_95 zq_bipush_6 rfl ?_
                refine wp_iload_n (q := 98) dX11_isImage_97 0 rfl rfl ?_
                refine wp_imulN (q := 99) dX11_isImage_98 rfl ?_
                refine wp_iaddN (q := 100) dX11_isImage_99 rfl ?_
                refine wp_istore (q := 102) (loc' := [(4, _), (3, _), (2, _), (0, _), (1, _)]) dX11_isImage_100 (by decide) rfl rfl ?_
                refine wp_aload_n (q := 103) dX11_isImage_102 3 rfl rfl ?_
                refine wp_iload (q := 105) dX11_isImage_103 0 rfl rfl ?_
                refine wp_cvx (q := 108) (sp_isSitting (d := 0) (n := n) (b := b) hn h8 (by omega) (fun j hj => hb _ (by omega))) zm_X11_isSitting zl_RX11_391 dX11_isImage_105 rfl (by omega) (Nat.le_of_ble_eq_true rfl) zsh_0 rfl rfl ?_
                by_cases cs : zsit n b (6 + 6 * s)
                · rw [if_pos cs]
                  have hx8 : b (6 + 6 * s) < 8 := by have := cs.1; omega
                  refine wp_if_eqN (tgt := 126) (q := 111) dX11_isImage_108 (by decide) rfl (by omega) (fun hn => absurd hn (by first | omega | exact fun h => h | exact fun h => h trivial)) (fun _ => ?_)
                  refine wp_iload_n (q := 112) dX11_isImage_111 2 rfl rfl ?_
                  refine wp_aload_n (q := 113) dX11_isImage_112 3 rfl rfl ?_
                  refine wp_getR (q := 116) dX11_isImage_113 zf_RX11_9 rfl zsh_0 (zr_0_0 _) rfl ?_
                  refine wp_iload (q := 118) dX11_isImage_116 0 rfl rfl ?_
                  refine wp_iald (q := 119) _ dX11_isImage_118 zsh_1 rfl (by omega) (by decide) rfl ?_
                  rw [w1]
                  refine wp_ishrN (q := 120) dX11_isImage_119 (by omega) (by omega) rfl ?_
                  refine wp_iconst (q := 121) dX11_isImage_120 zq_iconst_1 rfl ?_
                  refine wp_iandN (q := 122) dX11_isImage_121 rfl ?_
                  rw [zmk_and]
                  by_cases ct : (zmask b s).testBit (b (6 + 6 * s)) = true
                  · rw [if_pos ct]
                    refine wp_iconst (q := 123) dX11_isImage_122 zq_iconst_1 rfl ?_
                    refine wp_icmp_neN (tgt := 128) (q := 126) dX11_isImage_123 (by decide) rfl (by omega) (by omega) (fun hn => absurd hn (by first | omega | exact fun h => h | exact fun h => h trivial)) (fun _ => ?_)
                    refine wp_iconst (q := 127) dX11_isImage_126 zq_iconst_0 rfl ?_
                    refine wp_zreturn dX11_isImage_127 rfl (by first | with_reducible exact znar_0 | with_reducible exact znar_1 | assumption) ⟨rfl, ⟨rfl, rfl, rfl, Or.inr ⟨rfl, fun e => ?_⟩⟩⟩ rfl rfl
                    obtain ⟨s', e1, e2⟩ := (zmask_t b _ s).mp ct
                    exact (e.2.2.2 s hsn).2 s' e1 e2
                  · rw [if_neg ct]
                    refine wp_iconst (q := 123) dX11_isImage_122 zq_iconst_1 rfl ?_
                    refine wp_icmp_neN (tgt := 128) (q := 126) dX11_isImage_123 (by decide) rfl (by omega) (by omega) (fun _ => ?_) (fun hn => absurd hn (by first | omega | exact fun h => h | exact fun h => h trivial))
                    refine wp_iload_n (q := 129) dX11_isImage_128 2 rfl rfl ?_
                    refine wp_iconst (q := 130) dX11_isImage_129 zq_iconst_1 rfl ?_
                    refine wp_aload_n (q := 131) dX11_isImage_130 3 rfl rfl ?_
                    refine wp_getR (q := 134) dX11_isImage_131 zf_RX11_9 rfl zsh_0 (zr_0_0 _) rfl ?_
                    refine wp_iload (q := 136) dX11_isImage_134 0 rfl rfl ?_
                    refine wp_iald (q := 137) _ dX11_isImage_136 zsh_1 rfl (by omega) (by decide) rfl ?_
                    rw [w1]
                    have hp8 : 2 ^ b (6 + 6 * s) < 2 ^ 8 := Nat.pow_lt_pow_right (by decide) hx8
                    have h28 : 2 ^ 8 = 256 := by decide
                    refine wp_ishlN (q := 138) dX11_isImage_137 (by omega) (by omega) rfl ?_
                    refine wp_iorN (q := 139) dX11_isImage_138 rfl ?_
                    rw [Nat.one_mul]
                    refine wp_istore_n (q := 140) (loc' := [(2, _), (4, _), (3, _), (0, _), (1, _)]) dX11_isImage_139 rfl (by decide) rfl rfl ?_
                    refine wp_iincN (q := 143) (loc' := [(3, _), (2, _), (4, _), (0, _), (1, _)]) (n := 1) dX11_isImage_140 rfl 2 rfl (by decide) rfl rfl ?_
                    refine wp_goto (tgt := 82) dX11_isImage_143 (by decide) ?_
                    refine WP.sub (loc' := [(3, _), (2, _), (0, _), (1, _)]) [0, 1, 3, 4] rfl ?_
                    refine ih (s + 1) (by omega) (fun s1 hs1 => ?_)
                    by_cases e : s1 = s
                    · subst e
                      exact ⟨cs, fun s' h' e' => ct ((zmask_t b _ s1).mpr ⟨s', h', e'⟩)⟩
                    · exact hok s1 (by omega)
                · rw [if_neg cs]
                  refine wp_if_eqN (tgt := 126) (q := 111) dX11_isImage_108 (by decide) rfl (by omega) (fun _ => ?_) (fun hn => absurd hn (by first | omega | exact fun h => h | exact fun h => h trivial))
                  refine wp_iconst (q := 127) dX11_isImage_126 zq_iconst_0 rfl ?_
                  exact wp_zreturn dX11_isImage_127 rfl (by first | with_reducible exact znar_0 | with_reducible exact znar_1 | assumption) ⟨rfl, ⟨rfl, rfl, rfl, Or.inr ⟨rfl, fun e => cs (e.2.2.2 s hsn).1⟩⟩⟩ rfl rfl
            refine wp_iconst (q := 79) dX11_isImage_78 zq_iconst_0 rfl ?_
            refine wp_istore_n (q := 80) (loc' := [(2, _), (0, _), (1, _)]) dX11_isImage_79 rfl (by decide) rfl rfl ?_
            refine wp_iconst (q := 81) dX11_isImage_80 zq_iconst_0 rfl ?_
            refine wp_istore_n (q := 82) (loc' := [(3, _), (2, _), (0, _), (1, _)]) dX11_isImage_81 rfl (by decide) rfl rfl ?_
            refine WP.sub (loc' := [(3, _), (2, _), (0, _), (1, _)]) [0, 1, 2, 3] rfl ?_
            exact loop n 0 (Nat.zero_add _) (fun s1 h1 => absurd h1 (Nat.not_lt_zero _))
          · skip
            refine wp_iconst (q := 77) dX11_isImage_76 zq_iconst_0 rfl ?_
            exact wp_zreturn dX11_isImage_77 rfl (by first | with_reducible exact znar_0 | with_reducible exact znar_1 | assumption) ⟨rfl, ⟨rfl, rfl, rfl, Or.inr ⟨rfl, fun e => by have h5 : 256 * b 4 + b 5 ≤ 9999 := e.2.2.1 2 (by decide); omega⟩⟩⟩ rfl rfl
    · skip
      refine wp_iconst (q := 42) dX11_isImage_41 zq_iconst_0 rfl ?_
      exact wp_zreturn dX11_isImage_42 rfl (by first | with_reducible exact znar_0 | with_reducible exact znar_1 | assumption) ⟨rfl, ⟨rfl, rfl, rfl, Or.inr ⟨rfl, fun e => c1 e.2.1⟩⟩⟩ rfl rfl

