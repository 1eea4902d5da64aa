set_option maxHeartbeats 4000000 in
set_option maxRecDepth 100000 in
theorem sp_mduds {d t n k w0 z0 : Nat} {M : zMI} {L : zML} {g : zGd} {v : Nat → Nat} {hs : List (Nat → Nat)} {m : zMs} (h : zMo M L n g v hs m) (hb0 : 1 ≤ g.2.1) (hk1 : 1 ≤ k) (hk6 : k ≤ 6) (hwk : w0 ≤ k) (hz0 : z0 < 2) : Sy yX12_duds YX12_duds (d + 1) [.ref 177, .int (nI k), .int (nI w0), .int (nI z0)] M L (zRf t) (zMn M L t n g v hs m (.int (nI (zdud g k w0 z0)))) := by
  refine Sp.of (by decide +kernel) rfl (fun h => by first | exact h | cases h) (Nat.le_of_ble_eq_true rfl) ?_
  intro w G
  obtain ⟨b1, b2, b3, b4, b5, b6, b7⟩ := h.2.1
  obtain ⟨f, hf⟩ : ∃ f, zdu g k w0 = f := ⟨_, rfl⟩
  obtain ⟨N, hN⟩ : ∃ N, g.2.1 = N := ⟨_, rfl⟩
  rw [hN] at b1 b2 b5 hb0
  have hfe : ∀ b, f b = (g.2.2.2.1 b) ^ w0 * (100 - g.2.2.2.1 b) ^ (k - w0) := fun b => by
    rw [← hf]
    exact zrow_k hwk
  have hf9 : ∀ b, b < N → f b ≤ 1000000000000 := fun b hb => by
    rw [← hf]
    refine Nat.le_trans (zrow_le (b5 b hb).2 k) ?_
    exact Nat.le_trans (Nat.pow_le_pow_right (by decide) hk6) (by decide)
  have hS : ∀ i, i ≤ N → nS f i ≤ 1000000000000 * i := fun i hi => nS_le (fun j hj => hf9 j (by omega))
  have hbl : ∀ i, 0 < i → zbi f i < i := zbi_lt f
  have hq9 : ∀ i, i ≤ N → zbq f i ≤ 1000000000001 := fun i hi => by
    unfold zbq
    split
    · omega
    · have := hf9 (zbi f i) (by have := hbl i (by omega); omega)
      omega
  have h0 : ∀ i, zbi f i ≤ i := fun i => by
    cases i with
    | zero => exact Nat.le_refl _
    | succ i => exact Nat.le_of_lt (hbl (i + 1) (by omega))
  have loop : ∀ q i, i + q = N → WP w YX12_duds (d + 1, SS, 0, 0) G (some (zXp (zMn M L t n g v hs m (.int (nI (zdud g k w0 z0)))))) 56 [(9, .int (nI i)), (7, .long (lN (nS f i))), (5, .long (lI ((zbq f i : Int) - 1))), (4, .int (nI (zbi f i))), (0, .ref 177), (1, .int (nI k)), (2, .int (nI w0)), (3, .int (nI z0))] [] SS M L (zRf t) := by
    intro q
    induction q with
    | zero =>
      intro i hi
      rw [show i = N by omega]
      have e : (zbq f N : Int) - 1 = (f (zbi f N) : Nat) := by
        unfold zbq
        rw [if_neg (by omega)]
        omega
      rw [e, ← lN_I]
      have f9 := hf9 (zbi f N) (hbl N (by omega))
      have S9 := hS N (Nat.le_refl _)
      have hle : f (zbi f N) ≤ nS f N := by
        have hlt := hbl N (by omega)
        rw [nS_out hlt]
        exact Nat.le_add_left _ _
      have hbN := hbl N (by omega)
      have hq : 1000 * f (zbi f N) / nS f N ≤ 1000 := by
        refine Nat.div_le_of_le_mul ?_
        rw [Nat.mul_comm]
        exact Nat.mul_le_mul hle (Nat.le_refl _)
      refine wp_iload (q := 58) dX12_duds_56 0 rfl rfl ?_
      refine wp_aload_n (q := 59) dX12_duds_58 4 rfl rfl ?_
      refine wp_cvx (q := 62) (sp_mbm (d := 0) b1) zm_X12_boxMany zl_RX12_466 dX12_duds_59 rfl (by omega) (Nat.le_of_ble_eq_true rfl) zsh_177 rfl rfl ?_
      refine wp_icmp_geN (tgt := 133) (q := 65) dX12_duds_62 (by decide) rfl (by omega) (by omega) (fun _ => ?_) (fun hn => absurd hn (by first | omega | exact fun h => h | exact fun h => h trivial))
      refine wp_iload_n (q := 134) dX12_duds_133 7 rfl rfl ?_
      have hc : z0 = 0 ∨ z0 = 1 := by omega
      rcases hc with rfl | rfl
      · skip
        have hr : zdud g k w0 0 = zbi f N := by
          unfold zdud
          rw [if_pos rfl, hf, hN]
        refine wp_if_neN (tgt := 142) (q := 137) dX12_duds_134 (by decide) rfl (by omega) (fun hn => absurd hn (by first | omega | exact fun h => h | exact fun h => h trivial)) (fun _ => ?_)
        refine wp_iload (q := 139) dX12_duds_137 3 rfl rfl ?_
        refine wp_goto (tgt := 163) dX12_duds_139 (by decide) ?_
        exact wp_ireturn dX12_duds_163 rfl ⟨rfl, ⟨by rw [hr], rfl, h, zYf_r⟩⟩ rfl rfl
      · skip
        have hr : zdud g k w0 1 = zshr (f (zbi f N)) (nS f N) 0 := by
          unfold zdud
          rw [if_neg (by decide), hf, hN]
        unfold zshr at hr
        refine wp_if_neN (tgt := 142) (q := 137) dX12_duds_134 (by decide) rfl (by omega) (fun _ => ?_) (fun hn => absurd hn (by first | omega | exact fun h => h | exact fun h => h trivial))
        refine wp_lload (q := 144) dX12_duds_142 1 rfl rfl ?_
        refine wp_lconst (q := 145) dX12_duds_144 zq_lconst_0 rfl ?_
        refine wp_lcmp_neN (tgt := 153) (q := 149) dX12_duds_145 rfl dX12_duds_146 (by decide) rfl (by omega) (by omega) (fun c => ?_) (fun c => ?_)
        · skip
          rw [if_neg c] at hr
          refine wp_ldc2_w (q := 156) dX12_duds_153 zk_RX12_550 rfl ?_
          rw [zlitL 1000]
          refine wp_lload (q := 158) dX12_duds_156 2 rfl rfl ?_
          refine wp_lmulN (q := 159) dX12_duds_158 rfl ?_
          refine wp_lload (q := 161) dX12_duds_159 1 rfl rfl ?_
          refine wp_ldivN (q := 162) dX12_duds_161 (by omega) (by omega) (by omega) rfl ?_
          refine wp_l2iN (q := 163) dX12_duds_162 rfl ?_
          exact wp_ireturn dX12_duds_163 rfl ⟨rfl, ⟨by rw [hr], rfl, h, zYf_r⟩⟩ rfl rfl
        · skip
          rw [if_pos c] at hr
          refine wp_iconst (q := 150) dX12_duds_149 zq_iconst_0 rfl ?_
          refine wp_goto (tgt := 163) dX12_duds_150 (by decide) ?_
          exact wp_ireturn dX12_duds_163 rfl ⟨rfl, ⟨by rw [hr], rfl, h, zYf_r⟩⟩ rfl rfl
    | succ q ih =>
      intro i hi
      have hiN : i < N := by omega
      have f9 := hf9 i hiN
      have S9 := hS i (by omega)
      have q9 := hq9 i (by omega)
      have ih1 := ih (i + 1) (by omega)
      rw [nS] at ih1
      obtain ⟨a, ha⟩ : ∃ a, g.2.2.2.1 i = a := ⟨_, rfl⟩
      have hb5 := b5 i hiN
      have he := hfe i
      rw [ha] at hb5 he
      obtain ⟨hb5a, a9⟩ := hb5
      have p1 : ∀ j, j ≤ w0 → a ^ j ≤ 1000000000000 := fun j hj => Nat.le_trans (zpw_b (K := 6) a9 (by decide) (by omega)) (by decide)
      have p2 : ∀ j, j ≤ k - w0 → (100 - a) ^ j ≤ 1000000000000 := fun j hj => Nat.le_trans (zpw_b (B := 100) (K := 6) (by omega) (by decide) (by omega)) (by decide)
      have p4 := p1 w0 (Nat.le_refl _)
      have p5 := p2 (k - w0) (Nat.le_refl _)
      have p6 : a ^ w0 * (100 - a) ^ (k - w0) ≤ 1000000000000 := by rw [← he]; exact f9
      have hz := h0 i
      refine wp_iload (q := 58) dX12_duds_56 0 rfl rfl ?_
      refine wp_aload_n (q := 59) dX12_duds_58 4 rfl rfl ?_
      refine wp_cvx (q := 62) (sp_mbm (d := 0) b1) zm_X12_boxMany zl_RX12_466 dX12_duds_59 rfl (by omega) (Nat.le_of_ble_eq_true rfl) zsh_177 rfl rfl ?_
      refine wp_icmp_geN (tgt := 133) (q := 65) dX12_duds_62 (by decide) rfl (by omega) (by omega) (fun hn => absurd hn (by first | omega | exact fun h => h | exact fun h => h trivial)) (fun _ => ?_)
      refine wp_aload_n (q := 66) dX12_duds_65 4 rfl rfl ?_
      refine wp_getR (q := 69) dX12_duds_66 zf_RX12_103 rfl zsh_177 (zr_177_38 _) rfl ?_
      refine wp_iconst (q := 70) dX12_duds_69 zq_iconst_4 rfl ?_
      refine wp_iload (q := 72) dX12_duds_70 0 rfl rfl ?_
      refine wp_iaddN (q := 73) dX12_duds_72 rfl ?_
      refine wp_iald (q := 74) _ dX12_duds_73 zsh_207 rfl (by omega) (by decide) rfl ?_
      rw [hb5a]
      refine wp_i2lN (q := 75) dX12_duds_74 (by omega) rfl ?_
      refine wp_iload_n (q := 76) dX12_duds_75 6 rfl rfl ?_
      refine wp_csx (q := 79) (sp_mpower (d := 0) p1 (by omega) (by omega)) zm_X12_power zl_RX12_540 dX12_duds_76 rfl (by omega) (Nat.le_of_ble_eq_true rfl) rfl ?_
      refine wp_bipush (q := 81) dX12_duds_79 zq_bipush_100 rfl ?_
      refine wp_aload_n (q := 82) dX12_duds_81 4 rfl rfl ?_
      refine wp_getR (q := 85) dX12_duds_82 zf_RX12_103 rfl zsh_177 (zr_177_38 _) rfl ?_
      refine wp_iconst (q := 86) dX12_duds_85 zq_iconst_4 rfl ?_
      refine wp_iload (q := 88) dX12_duds_86 0 rfl rfl ?_
      refine wp_iaddN (q := 89) dX12_duds_88 rfl ?_
      refine wp_iald (q := 90) _ dX12_duds_89 zsh_207 rfl (by omega) (by decide) rfl ?_
      rw [hb5a]
      refine wp_isubN (q := 91) dX12_duds_90 (by omega) rfl ?_
      refine wp_i2lN (q := 92) dX12_duds_91 (by omega) rfl ?_
      refine wp_iload_n (q := 93) dX12_duds_92 5 rfl rfl ?_
      refine wp_iload_n (q := 94) dX12_duds_93 6 rfl rfl ?_
      refine wp_isubN (q := 95) dX12_duds_94 (by omega) rfl ?_
      refine wp_csx (q := 98) (sp_mpower (d := 0) p2 (by omega) (by omega)) zm_X12_power zl_RX12_540 dX12_duds_95 rfl (by omega) (Nat.le_of_ble_eq_true rfl) rfl ?_
      refine wp_lmulN (q := 99) dX12_duds_98 rfl ?_
      rw [← he]
      refine wp_lstore (q := 101) (loc' := [(10, _), (9, _), (7, _), (5, _), (4, _), (0, _), (1, _), (2, _), (3, _)]) dX12_duds_99 (by decide) rfl rfl ?_
      refine wp_lload (q := 103) dX12_duds_101 2 rfl rfl ?_
      refine wp_lload (q := 105) dX12_duds_103 0 rfl rfl ?_
      refine wp_laddN (q := 106) dX12_duds_105 rfl ?_
      refine wp_lstore (q := 108) (loc' := [(7, _), (10, _), (9, _), (5, _), (4, _), (0, _), (1, _), (2, _), (3, _)]) dX12_duds_106 (by decide) rfl rfl ?_
      refine wp_lload (q := 110) dX12_duds_108 1 rfl rfl ?_
      refine wp_lload (q := 112) dX12_duds_110 3 rfl rfl ?_
      rw [lN_I (f i)]
      refine wp_lcmp_gt (tgt := 119) (q := 116) dX12_duds_112 rfl dX12_duds_113 (by decide) rfl (fun c => ?_) (fun c => ?_)
      · skip
        have c' : zbq f i < f i + 1 := by
          have := (not_congr (lI_le (a := (f i : Int)) (b := (zbq f i : Int) - 1) ⟨by omega, by omega⟩ ⟨by omega, by omega⟩)).mp (Int64.not_le.mpr c)
          omega
        obtain ⟨y1, y2⟩ := zbq_y c'
        rw [y1, y2, show ((f i + 1 : Nat) : Int) - 1 = (f i : Int) by omega] at ih1
        refine wp_lload (q := 121) dX12_duds_119 1 rfl rfl ?_
        refine wp_lstore (q := 123) (loc' := [(5, _), (7, _), (10, _), (9, _), (4, _), (0, _), (1, _), (2, _), (3, _)]) dX12_duds_121 (by decide) rfl rfl ?_
        refine wp_iload (q := 125) dX12_duds_123 3 rfl rfl ?_
        refine wp_istore (q := 127) (loc' := [(4, _), (5, _), (7, _), (10, _), (9, _), (0, _), (1, _), (2, _), (3, _)]) dX12_duds_125 (by decide) rfl rfl ?_
        refine wp_iincN (q := 130) (loc' := [(9, _), (4, _), (5, _), (7, _), (10, _), (0, _), (1, _), (2, _), (3, _)]) (n := 1) dX12_duds_127 rfl 4 rfl (by decide) rfl rfl ?_
        refine wp_goto (tgt := 56) dX12_duds_130 (by decide) ?_
        refine WP.sub (loc' := [(9, _), (7, _), (5, _), (4, _), (0, _), (1, _), (2, _), (3, _)]) [0, 3, 2, 1, 5, 6, 7, 8] rfl ?_
        exact ih1
      · skip
        have c' : ¬ zbq f i < f i + 1 := fun e => c (Int64.not_le.mp (fun e2 => by
          have := (lI_le (a := (f i : Int)) (b := (zbq f i : Int) - 1) ⟨by omega, by omega⟩ ⟨by omega, by omega⟩).mp e2
          omega))
        obtain ⟨y0, y1, y2⟩ := zbq_n c'
        rw [y1, y2] at ih1
        refine wp_goto (tgt := 127) dX12_duds_116 (by decide) ?_
        refine wp_iincN (q := 130) (loc' := [(9, _), (7, _), (10, _), (5, _), (4, _), (0, _), (1, _), (2, _), (3, _)]) (n := 1) dX12_duds_127 rfl 2 rfl (by decide) rfl rfl ?_
        refine wp_goto (tgt := 56) dX12_duds_130 (by decide) ?_
        refine WP.sub (loc' := [(9, _), (7, _), (5, _), (4, _), (0, _), (1, _), (2, _), (3, _)]) [0, 1, 3, 4, 5, 6, 7, 8] rfl ?_
        exact ih1
  refine wp_aload_n (q := 1) dX12_duds_0 0 rfl rfl ?_
  refine wp_cvx (q := 4) (sp_mbm (d := 0) b1) zm_X12_boxMany zl_RX12_466 dX12_duds_1 rfl (by omega) (Nat.le_of_ble_eq_true rfl) zsh_177 rfl rfl ?_
  refine wp_if_eqN (tgt := 40) (q := 7) dX12_duds_4 (by decide) rfl (by omega) (fun hn => absurd hn (by first | omega | exact fun h => h | exact fun h => h trivial)) (fun _ => ?_)
  refine wp_iload_n (q := 8) dX12_duds_7 1 rfl rfl ?_
  refine wp_i2lN (q := 9) dX12_duds_8 (by omega) rfl ?_
  refine wp_lconst (q := 10) dX12_duds_9 zq_lconst_1 rfl ?_
  refine wp_ldc2_w (q := 13) dX12_duds_10 zk_RX12_552 rfl ?_
  rw [zlitL 6]
  refine wp_csx (q := 16) (sp_isIn (d := 0)) zm_X12_isIn zl_RX12_276 dX12_duds_13 rfl (by omega) (Nat.le_of_ble_eq_true rfl) rfl ?_
  rw [if_pos ⟨(zlN_le (by omega) (by omega)).mpr hk1, (zlN_le (by omega) (by omega)).mpr hk6⟩]
  refine wp_if_eqN (tgt := 40) (q := 19) dX12_duds_16 (by decide) rfl (by omega) (fun hn => absurd hn (by first | omega | exact fun h => h | exact fun h => h trivial)) (fun _ => ?_)
  refine wp_iload_n (q := 20) dX12_duds_19 2 rfl rfl ?_
  refine wp_i2lN (q := 21) dX12_duds_20 (by omega) rfl ?_
  refine wp_lconst (q := 22) dX12_duds_21 zq_lconst_0 rfl ?_
  refine wp_iload_n (q := 23) dX12_duds_22 1 rfl rfl ?_
  refine wp_i2lN (q := 24) dX12_duds_23 (by omega) rfl ?_
  refine wp_csx (q := 27) (sp_isIn (d := 0)) zm_X12_isIn zl_RX12_276 dX12_duds_24 rfl (by omega) (Nat.le_of_ble_eq_true rfl) rfl ?_
  rw [if_pos ⟨(zlN_le (by omega) (by omega)).mpr (Nat.zero_le _), (zlN_le (by omega) (by omega)).mpr hwk⟩]
  refine wp_if_eqN (tgt := 40) (q := 30) dX12_duds_27 (by decide) rfl (by omega) (fun hn => absurd hn (by first | omega | exact fun h => h | exact fun h => h trivial)) (fun _ => ?_)
  refine wp_iload_n (q := 31) dX12_duds_30 3 rfl rfl ?_
  refine wp_i2lN (q := 32) dX12_duds_31 (by omega) rfl ?_
  refine wp_lconst (q := 33) dX12_duds_32 zq_lconst_0 rfl ?_
  refine wp_lconst (q := 34) dX12_duds_33 zq_lconst_1 rfl ?_
  refine wp_csx (q := 37) (sp_isIn (d := 0)) zm_X12_isIn zl_RX12_276 dX12_duds_34 rfl (by omega) (Nat.le_of_ble_eq_true rfl) rfl ?_
  rw [if_pos ⟨(zlN_le (by omega) (by omega)).mpr (Nat.zero_le _), (zlN_le (by omega) (by omega)).mpr (by omega)⟩]
  refine wp_if_neN (tgt := 42) (q := 40) dX12_duds_37 (by decide) rfl (by omega) (fun _ => ?_) (fun hn => absurd hn (by first | omega | exact fun h => h | exact fun h => h trivial))
  refine wp_iconst (q := 43) dX12_duds_42 zq_iconst_0 rfl ?_
  refine wp_istore (q := 45) (loc' := [(4, _), (0, _), (1, _), (2, _), (3, _)]) dX12_duds_43 (by decide) rfl rfl ?_
  refine wp_ldc2_w (q := 48) dX12_duds_45 zk_RX12_499 rfl ?_
  refine wp_lstore (q := 50) (loc' := [(5, _), (4, _), (0, _), (1, _), (2, _), (3, _)]) dX12_duds_48 (by decide) rfl rfl ?_
  refine wp_lconst (q := 51) dX12_duds_50 zq_lconst_0 rfl ?_
  refine wp_lstore (q := 53) (loc' := [(7, _), (5, _), (4, _), (0, _), (1, _), (2, _), (3, _)]) dX12_duds_51 (by decide) rfl rfl ?_
  refine wp_iconst (q := 54) dX12_duds_53 zq_iconst_0 rfl ?_
  refine wp_istore (q := 56) (loc' := [(9, _), (7, _), (5, _), (4, _), (0, _), (1, _), (2, _), (3, _)]) dX12_duds_54 (by decide) rfl rfl ?_
  refine WP.sub (loc' := [(9, _), (7, _), (5, _), (4, _), (0, _), (1, _), (2, _), (3, _)]) [0, 1, 2, 3, 4, 5, 6, 7] rfl ?_
  exact loop N 0 (Nat.zero_add _)
set_option maxHeartbeats 4000000 in
set_option maxRecDepth 100000 in
theorem sp_mdudsN {d t n : Nat} {x y z : Int32} {M : zMI} {L : zML} {g : zGd} {v : Nat → Nat} {hs : List (Nat → Nat)} {m : zMs} (h : zMo M L n g v hs m) (hN : ¬ (g.2.1 ≠ 0 ∧ ¬ x < nI 1 ∧ ¬ nI 6 < x ∧ ¬ y < 0 ∧ ¬ x < y ∧ zin z 2)) : Sy yX12_duds YX12_duds (d + 1) [.ref 177, .int x, .int y, .int z] M L (zRf t) (zMn M L t n g v hs m (.int (-1))) := by
  refine Sp.of (by decide +kernel) rfl (fun h => by first | exact h | cases h) (Nat.le_of_ble_eq_true rfl) ?_
  intro w G
  obtain ⟨b1, b2, b3, b4, b5, b6, b7⟩ := h.2.1
  refine wp_aload_n (q := 1) dX12_duds_0 0 rfl rfl ?_
  refine wp_cvx (q := 4) (sp_mbm (d := 0) b1) zm_X12_boxMany zl_RX12_466 dX12_duds_1 rfl (by omega) (Nat.le_of_ble_eq_true rfl) zsh_177 rfl rfl ?_
  refine wp_if_eqN (tgt := 40) (q := 7) dX12_duds_4 (by decide) rfl (by omega) (fun c0 => ?_) (fun c0 => ?_)
  · skip
    refine wp_iconst (q := 41) dX12_duds_40 zq_iconst_m1 rfl ?_
    exact wp_ireturn dX12_duds_41 rfl ⟨rfl, ⟨rfl, rfl, h, zYf_r⟩⟩ rfl rfl
  · skip
    refine wp_iload_n (q := 8) dX12_duds_7 1 rfl rfl ?_
    refine wp_i2l (q := 9) dX12_duds_8 rfl ?_
    refine wp_lconst (q := 10) dX12_duds_9 zq_lconst_1 rfl ?_
    refine wp_ldc2_w (q := 13) dX12_duds_10 zk_RX12_552 rfl ?_
    rw [zlitL 6, show lN 1 = (nI 1).toInt64 from rfl, show lN 6 = (nI 6).toInt64 from rfl]
    refine wp_csx (q := 16) (sp_isIn (d := 0)) zm_X12_isIn zl_RX12_276 dX12_duds_13 rfl (by omega) (Nat.le_of_ble_eq_true rfl) rfl ?_
    by_cases cx : nI 1 ≤ x ∧ x ≤ nI 6
    · rw [if_pos (zis.mpr cx)]
      refine wp_if_eqN (tgt := 40) (q := 19) dX12_duds_16 (by decide) rfl (by omega) (fun hn => absurd hn (by first | omega | exact fun h => h | exact fun h => h trivial)) (fun _ => ?_)
      refine wp_iload_n (q := 20) dX12_duds_19 2 rfl rfl ?_
      refine wp_i2l (q := 21) dX12_duds_20 rfl ?_
      refine wp_lconst (q := 22) dX12_duds_21 zq_lconst_0 rfl ?_
      refine wp_iload_n (q := 23) dX12_duds_22 1 rfl rfl ?_
      refine wp_i2l (q := 24) dX12_duds_23 rfl ?_
      rw [show lN 0 = (nI 0).toInt64 from rfl]
      refine wp_csx (q := 27) (sp_isIn (d := 0)) zm_X12_isIn zl_RX12_276 dX12_duds_24 rfl (by omega) (Nat.le_of_ble_eq_true rfl) rfl ?_
      by_cases cy : nI 0 ≤ y ∧ y ≤ x
      · rw [if_pos (zis.mpr cy)]
        refine wp_if_eqN (tgt := 40) (q := 30) dX12_duds_27 (by decide) rfl (by omega) (fun hn => absurd hn (by first | omega | exact fun h => h | exact fun h => h trivial)) (fun _ => ?_)
        refine wp_iload_n (q := 31) dX12_duds_30 3 rfl rfl ?_
        refine wp_i2l (q := 32) dX12_duds_31 rfl ?_
        refine wp_lconst (q := 33) dX12_duds_32 zq_lconst_0 rfl ?_
        refine wp_lconst (q := 34) dX12_duds_33 zq_lconst_1 rfl ?_
        refine wp_csx (q := 37) (sp_isIn (d := 0)) zm_X12_isIn zl_RX12_276 dX12_duds_34 rfl (by omega) (Nat.le_of_ble_eq_true rfl) rfl ?_
        rw [if_neg (fun e => hN ⟨c0, Int32.not_lt.mpr cx.1, Int32.not_lt.mpr cx.2, Int32.not_lt.mpr cy.1, Int32.not_lt.mpr cy.2, (zis1 (m := 1) (by decide)).mp e⟩)]
        refine wp_if_neN (tgt := 42) (q := 40) dX12_duds_37 (by decide) rfl (by omega) (fun hn => absurd hn (by first | omega | exact fun h => h | exact fun h => h trivial)) (fun _ => ?_)
        refine wp_iconst (q := 41) dX12_duds_40 zq_iconst_m1 rfl ?_
        exact wp_ireturn dX12_duds_41 rfl ⟨rfl, ⟨rfl, rfl, h, zYf_r⟩⟩ rfl rfl
      · rw [if_neg (fun e => cy (zis.mp e))]
        refine wp_if_eqN (tgt := 40) (q := 30) dX12_duds_27 (by decide) rfl (by omega) (fun _ => ?_) (fun hn => absurd hn (by first | omega | exact fun h => h | exact fun h => h trivial))
        refine wp_iconst (q := 41) dX12_duds_40 zq_iconst_m1 rfl ?_
        exact wp_ireturn dX12_duds_41 rfl ⟨rfl, ⟨rfl, rfl, h, zYf_r⟩⟩ rfl rfl
    · rw [if_neg (fun e => cx (zis.mp e))]
      refine wp_if_eqN (tgt := 40) (q := 19) dX12_duds_16 (by decide) rfl (by omega) (fun _ => ?_) (fun hn => absurd hn (by first | omega | exact fun h => h | exact fun h => h trivial))
      refine wp_iconst (q := 41) dX12_duds_40 zq_iconst_m1 rfl ?_
      exact wp_ireturn dX12_duds_41 rfl ⟨rfl, ⟨rfl, rfl, h, zYf_r⟩⟩ rfl rfl
def zpt1 (tb : zTb) (v : Nat → Nat) (n s : Nat) : Nat := if s + 1 = n ∧ s % 2 = 0 then 10000 else 10000 - (if s % 2 = 0 then zoR tb v s ((s + 1) % n) else zoL tb v (s - 1) (s % n))
def zpqq (tb : zTb) (v : Nat → Nat) (n : Nat) : Nat → Nat
  | 0 => 0
  | s + 1 => zpqq tb v n s + zpt1 tb v n s
theorem zpq_k {tb : zTb} {v : Nat → Nat} {n : Nat} : ∀ k, 2 * k ≤ n → zpqq tb v n (2 * k) + (if n % 2 = 0 then 0 else 10000) = zpas tb v n k := by
  intro k
  induction k with
  | zero => intro _; exact Nat.zero_add _
  | succ k ih =>
    intro hk
    have ih1 := ih (by omega)
    have hs := zo_sum tb v (2 * k) ((2 * k + 1) % n)
    have e1 : zpt1 tb v n (2 * k) = 10000 - zoR tb v (2 * k) ((2 * k + 1) % n) := by
      unfold zpt1
      rw [if_neg (by omega), if_pos (by omega)]
    have e2 : zpt1 tb v n (2 * k + 1) = 10000 - zoL tb v (2 * k) ((2 * k + 1) % n) := by
      unfold zpt1
      rw [if_neg (by omega), if_neg (by omega), Nat.add_sub_cancel]
    rw [zpas, ← ih1, show 2 * (k + 1) = 2 * k + 1 + 1 by omega, zpqq, zpqq, e1, e2]
    omega
theorem zpq_n {tb : zTb} {v : Nat → Nat} {n : Nat} : zpqq tb v n n = zpas tb v n (n / 2) := by
  have h := zpq_k (tb := tb) (v := v) (n := n) (n / 2) (by omega)
  by_cases c : n % 2 = 0
  · rw [if_pos c, Nat.add_zero, show 2 * (n / 2) = n by omega] at h
    exact h
  · rw [if_neg c] at h
    rw [← h]
    have : zpqq tb v n (2 * (n / 2) + 1) = zpqq tb v n (2 * (n / 2)) + 10000 := by
      rw [zpqq]
      congr 1
      unfold zpt1
      rw [if_pos (by omega)]
    rw [← this]
    congr 1
    omega
theorem zpt1_le (tb : zTb) (v : Nat → Nat) (n s : Nat) : zpt1 tb v n s ≤ 10000 := by
  unfold zpt1
  split <;> omega
theorem zpq_le (tb : zTb) (v : Nat → Nat) (n : Nat) : ∀ s, zpqq tb v n s ≤ 10000 * s := by
  intro s
  induction s with
  | zero => exact Nat.le_refl _
  | succ s ih =>
    have := zpt1_le tb v n s
    rw [zpqq]
    omega
set_option maxHeartbeats 4000000 in
set_option maxRecDepth 100000 in
theorem sp_mpairs {d t n : Nat} {M : zMI} {L : zML} {g : zGd} {v : Nat → Nat} {hs : List (Nat → Nat)} {m : zMs} (h : zMo M L n g v hs m) (h2 : 2 ≤ n) : Sy yX12_pairs YX12_pairs (d + 7) [.ref 177] M L (zRf t) (zMn M L t n g v hs m (.int (nI (zpas g.2.2.2.2.2 v n (n / 2) / 10)))) := by
  refine Sp.of (by decide +kernel) rfl (fun h => by first | exact h | cases h) (Nat.le_of_ble_eq_true rfl) ?_
  intro w G
  have hn := h.1.1
  have h8 := h.1.2.1.1.1
  obtain ⟨tb, htb⟩ : ∃ tb, g.2.2.2.2.2 = tb := ⟨_, rfl⟩
  have hres : zpas g.2.2.2.2.2 v n (n / 2) = zpqq tb v n n := by rw [htb, zpq_n]
  have loop : ∀ q s (M2 : zMI) (L2 : zML), s + q = n → zMo M2 L2 n g v hs m → zYf M M2 L L2 → WP w YX12_pairs (d + 7, SS, 0, 0) G (some (zXp (zMn M L t n g v hs m (.int (nI (zpas g.2.2.2.2.2 v n (n / 2) / 10)))))) 13 [(2, .int (nI s)), (1, .int (nI (zpqq tb v n s))), (0, .ref 177)] [] SS M2 L2 (zRf t) := by
    intro q
    induction q with
    | zero =>
      intro s M2 L2 hq hM hY
      rw [show s = n by omega]
      have hle := zpq_le tb v n n
      refine wp_iload_n (q := 14) dX12_pairs_13 0 rfl rfl ?_
      refine wp_aload_n (q := 15) dX12_pairs_14 2 rfl rfl ?_
      refine wp_cvx (q := 18) (sp_mpm (d := 0) hM.1.1) zm_X12_peopleMany zl_RX12_408 dX12_pairs_15 rfl (by omega) (Nat.le_of_ble_eq_true rfl) zsh_177 rfl rfl ?_
      refine wp_icmp_geN (tgt := 89) (q := 21) dX12_pairs_18 (by decide) rfl (by omega) (by omega) (fun _ => ?_) (fun hn => absurd hn (by first | omega | exact fun h => h | exact fun h => h trivial))
      refine wp_iload_n (q := 90) dX12_pairs_89 1 rfl rfl ?_
      refine wp_bipush (q := 92) dX12_pairs_90 zq_bipush_10 rfl ?_
      refine wp_idivN (q := 93) dX12_pairs_92 (by omega) (by omega) (by omega) rfl ?_
      exact wp_ireturn dX12_pairs_93 rfl ⟨rfl, ⟨by rw [hres], rfl, hM, hY⟩⟩ rfl rfl
    | succ q ih =>
      intro s M2 L2 hq hM hY
      have hsn : s < n := by omega
      have hle := zpq_le tb v n s
      have ih1 := fun M3 L3 => ih (s + 1) M3 L3 (by omega)
      rw [zpqq] at ih1
      have hc := hM.1
      rw [htb] at hc
      have even : s % 2 = 0 → s + 1 ≠ n → WP w YX12_pairs (d + 7, SS, 0, 0) G (some (zXp (zMn M L t n g v hs m (.int (nI (zpas g.2.2.2.2.2 v n (n / 2) / 10)))))) 43 [(3, .int (nI 0)), (2, .int (nI s)), (1, .int (nI (zpqq tb v n s))), (0, .ref 177)] [] SS M2 L2 (zRf t) := by
        intro c1 c2
        have e1 : zpt1 tb v n s = 10000 - zoR tb v s ((s + 1) % n) := by
          unfold zpt1
          rw [if_neg (by omega), if_pos c1]
        have h1 : zoR tb v s ((s + 1) % n) ≤ 10000 := zof_le tb v s ((s + 1) % n) 0
        rw [e1] at ih1
        refine wp_iload_n (q := 44) dX12_pairs_43 2 rfl rfl ?_
        refine wp_iload_n (q := 45) dX12_pairs_44 0 rfl rfl ?_
        refine wp_if_eqN (tgt := 54) (q := 48) dX12_pairs_45 (by decide) rfl (by omega) (fun _ => ?_) (fun hn => absurd hn (by first | omega | exact fun h => h | exact fun h => h trivial))
        refine wp_sipush (q := 57) dX12_pairs_54 zq_sipush_10000 rfl ?_
        refine wp_iload_n (q := 58) dX12_pairs_57 1 rfl rfl ?_
        refine wp_iconst (q := 59) dX12_pairs_58 zq_iconst_2 rfl ?_
        refine wp_iremN (q := 60) dX12_pairs_59 (by omega) (by omega) (by omega) rfl ?_
        refine wp_if_neN (tgt := 72) (q := 63) dX12_pairs_60 (by decide) rfl (by omega) (fun hn => absurd hn (by first | omega | exact fun h => h | exact fun h => h trivial)) (fun _ => ?_)
        refine wp_aload_n (q := 64) dX12_pairs_63 3 rfl rfl ?_
        refine wp_iload_n (q := 65) dX12_pairs_64 1 rfl rfl ?_
        refine wp_iconst (q := 66) dX12_pairs_65 zq_iconst_0 rfl ?_
        refine wp_cvy (q := 69) (sp_moddsAt (d := 0) (hd := 0) hc hsn (by decide) (rfl : _ = zoR tb v s ((s + 1) % n))) zm_X12_oddsAt zl_RX12_448 dX12_pairs_66 rfl (by omega) (Nat.le_of_ble_eq_true rfl) zsh_177 rfl rfl ?_
        rintro _ M3 L3 _ ⟨rfl, rfl, t3⟩
        refine wp_goto (tgt := 80) dX12_pairs_69 (by decide) ?_
        refine wp_isubN (q := 81) dX12_pairs_80 (by omega) rfl ?_
        refine wp_iaddN (q := 82) dX12_pairs_81 rfl ?_
        refine wp_istore_n (q := 83) (loc' := [(1, _), (3, _), (2, _), (0, _)]) dX12_pairs_82 rfl (by decide) rfl rfl ?_
        refine wp_iincN (q := 86) (loc' := [(2, _), (1, _), (3, _), (0, _)]) (n := 1) dX12_pairs_83 rfl 2 rfl (by decide) rfl rfl ?_
        refine wp_goto (tgt := 13) dX12_pairs_86 (by decide) ?_
        refine WP.sub (loc' := [(2, _), (1, _), (0, _)]) [0, 1, 3] rfl ?_
        exact ih1 M3 L3 (zMo_o hM t3) (zYf_t hY (zYf_o t3))
      have odd : s % 2 ≠ 0 → WP w YX12_pairs (d + 7, SS, 0, 0) G (some (zXp (zMn M L t n g v hs m (.int (nI (zpas g.2.2.2.2.2 v n (n / 2) / 10)))))) 43 [(3, .int (nI 0)), (2, .int (nI s)), (1, .int (nI (zpqq tb v n s))), (0, .ref 177)] [] SS M2 L2 (zRf t) := by
        intro c1
        have e1 : zpt1 tb v n s = 10000 - zoL tb v (s - 1) ((s - 1 + 1) % n) := by
          unfold zpt1
          rw [if_neg (by omega), if_neg c1, show s - 1 + 1 = s by omega]
        have h1 : zoL tb v (s - 1) ((s - 1 + 1) % n) ≤ 10000 := zof_le tb v (s - 1) ((s - 1 + 1) % n) 1
        rw [e1] at ih1
        refine wp_iload_n (q := 44) dX12_pairs_43 2 rfl rfl ?_
        refine wp_iload_n (q := 45) dX12_pairs_44 0 rfl rfl ?_
        refine wp_if_eqN (tgt := 54) (q := 48) dX12_pairs_45 (by decide) rfl (by omega) (fun _ => ?_) (fun hn => absurd hn (by first | omega | exact fun h => h | exact fun h => h trivial))
        refine wp_sipush (q := 57) dX12_pairs_54 zq_sipush_10000 rfl ?_
        refine wp_iload_n (q := 58) dX12_pairs_57 1 rfl rfl ?_
        refine wp_iconst (q := 59) dX12_pairs_58 zq_iconst_2 rfl ?_
        refine wp_iremN (q := 60) dX12_pairs_59 (by omega) (by omega) (by omega) rfl ?_
        refine wp_if_neN (tgt := 72) (q := 63) dX12_pairs_60 (by decide) rfl (by omega) (fun _ => ?_) (fun hn => absurd hn (by first | omega | exact fun h => h | exact fun h => h trivial))
        refine wp_aload_n (q := 73) dX12_pairs_72 3 rfl rfl ?_
        refine wp_iload_n (q := 74) dX12_pairs_73 1 rfl rfl ?_
        refine wp_iconst (q := 75) dX12_pairs_74 zq_iconst_1 rfl ?_
        refine wp_isubN (q := 76) dX12_pairs_75 (by omega) rfl ?_
        refine wp_iconst (q := 77) dX12_pairs_76 zq_iconst_1 rfl ?_
        refine wp_cvy (q := 80) (sp_moddsAt (d := 0) (hd := 1) hc (by omega : s - 1 < n) (by decide) (rfl : _ = zoL tb v (s - 1) ((s - 1 + 1) % n))) zm_X12_oddsAt zl_RX12_448 dX12_pairs_77 rfl (by omega) (Nat.le_of_ble_eq_true rfl) zsh_177 rfl rfl ?_
        rintro _ M3 L3 _ ⟨rfl, rfl, t3⟩
        refine wp_isubN (q := 81) dX12_pairs_80 (by omega) rfl ?_
        refine wp_iaddN (q := 82) dX12_pairs_81 rfl ?_
        refine wp_istore_n (q := 83) (loc' := [(1, _), (3, _), (2, _), (0, _)]) dX12_pairs_82 rfl (by decide) rfl rfl ?_
        refine wp_iincN (q := 86) (loc' := [(2, _), (1, _), (3, _), (0, _)]) (n := 1) dX12_pairs_83 rfl 2 rfl (by decide) rfl rfl ?_
        refine wp_goto (tgt := 13) dX12_pairs_86 (by decide) ?_
        refine WP.sub (loc' := [(2, _), (1, _), (0, _)]) [0, 1, 3] rfl ?_
        exact ih1 M3 L3 (zMo_o hM t3) (zYf_t hY (zYf_o t3))
      refine wp_iload_n (q := 14) dX12_pairs_13 0 rfl rfl ?_
      refine wp_aload_n (q := 15) dX12_pairs_14 2 rfl rfl ?_
      refine wp_cvx (q := 18) (sp_mpm (d := 0) hM.1.1) zm_X12_peopleMany zl_RX12_408 dX12_pairs_15 rfl (by omega) (Nat.le_of_ble_eq_true rfl) zsh_177 rfl rfl ?_
      refine wp_icmp_geN (tgt := 89) (q := 21) dX12_pairs_18 (by decide) rfl (by omega) (by omega) (fun hn => absurd hn (by first | omega | exact fun h => h | exact fun h => h trivial)) (fun _ => ?_)
      refine wp_iload_n (q := 22) dX12_pairs_21 0 rfl rfl ?_
      refine wp_iconst (q := 23) dX12_pairs_22 zq_iconst_1 rfl ?_
      refine wp_iaddN (q := 24) dX12_pairs_23 rfl ?_
      refine wp_aload_n (q := 25) dX12_pairs_24 2 rfl rfl ?_
      refine wp_cvx (q := 28) (sp_mpm (d := 0) hM.1.1) zm_X12_peopleMany zl_RX12_408 dX12_pairs_25 rfl (by omega) (Nat.le_of_ble_eq_true rfl) zsh_177 rfl rfl ?_
      refine wp_icmp_neN (tgt := 41) (q := 31) dX12_pairs_28 (by decide) rfl (by omega) (by omega) (fun c2 => ?_) (fun c2 => ?_)
      · skip
        refine wp_iconst (q := 42) dX12_pairs_41 zq_iconst_0 rfl ?_
        refine wp_istore_n (q := 43) (loc' := [(3, _), (2, _), (1, _), (0, _)]) dX12_pairs_42 rfl (by decide) rfl rfl ?_
        refine WP.sub (loc' := [(3, _), (2, _), (1, _), (0, _)]) [0, 1, 2, 3] rfl ?_
        by_cases c1 : s % 2 = 0
        · exact even c1 c2
        · exact odd c1
      · skip
        refine wp_iload_n (q := 32) dX12_pairs_31 0 rfl rfl ?_
        refine wp_iconst (q := 33) dX12_pairs_32 zq_iconst_2 rfl ?_
        refine wp_iremN (q := 34) dX12_pairs_33 (by omega) (by omega) (by omega) rfl ?_
        refine wp_if_neN (tgt := 41) (q := 37) dX12_pairs_34 (by decide) rfl (by omega) (fun c1 => ?_) (fun c1 => ?_)
        · skip
          refine wp_iconst (q := 42) dX12_pairs_41 zq_iconst_0 rfl ?_
          refine wp_istore_n (q := 43) (loc' := [(3, _), (2, _), (1, _), (0, _)]) dX12_pairs_42 rfl (by decide) rfl rfl ?_
          refine WP.sub (loc' := [(3, _), (2, _), (1, _), (0, _)]) [0, 1, 2, 3] rfl ?_
          exact odd c1
        · skip
          have e1 : zpt1 tb v n s = 10000 := by
            unfold zpt1
            rw [if_pos ⟨c2, c1⟩]
          rw [e1] at ih1
          refine wp_iconst (q := 38) dX12_pairs_37 zq_iconst_1 rfl ?_
          refine wp_goto (tgt := 42) dX12_pairs_38 (by decide) ?_
          refine wp_istore_n (q := 43) (loc' := [(3, _), (2, _), (1, _), (0, _)]) dX12_pairs_42 rfl (by decide) rfl rfl ?_
          refine wp_iload_n (q := 44) dX12_pairs_43 2 rfl rfl ?_
          refine wp_iload_n (q := 45) dX12_pairs_44 0 rfl rfl ?_
          refine wp_if_eqN (tgt := 54) (q := 48) dX12_pairs_45 (by decide) rfl (by omega) (fun hn => absurd hn (by first | omega | exact fun h => h | exact fun h => h trivial)) (fun _ => ?_)
          refine wp_sipush (q := 51) dX12_pairs_48 zq_sipush_10000 rfl ?_
          refine wp_goto (tgt := 81) dX12_pairs_51 (by decide) ?_
          refine wp_iaddN (q := 82) dX12_pairs_81 rfl ?_
          refine wp_istore_n (q := 83) (loc' := [(1, _), (3, _), (2, _), (0, _)]) dX12_pairs_82 rfl (by decide) rfl rfl ?_
          refine wp_iincN (q := 86) (loc' := [(2, _), (1, _), (3, _), (0, _)]) (n := 1) dX12_pairs_83 rfl 2 rfl (by decide) rfl rfl ?_
          refine wp_goto (tgt := 13) dX12_pairs_86 (by decide) ?_
          refine WP.sub (loc' := [(2, _), (1, _), (0, _)]) [0, 1, 3] rfl ?_
          exact ih1 M2 L2 hM hY
  refine wp_aload_n (q := 1) dX12_pairs_0 0 rfl rfl ?_
  refine wp_cvx (q := 4) (sp_mcm (d := 0) hn h8) zm_X12_crackerMany zl_RX12_463 dX12_pairs_1 rfl (by omega) (Nat.le_of_ble_eq_true rfl) zsh_177 rfl rfl ?_
  rw [if_neg (by omega)]
  refine wp_if_neN (tgt := 9) (q := 7) dX12_pairs_4 (by decide) rfl (by omega) (fun _ => ?_) (fun hn => absurd hn (by first | omega | exact fun h => h | exact fun h => h trivial))
  refine wp_iconst (q := 10) dX12_pairs_9 zq_iconst_0 rfl ?_
  refine wp_istore_n (q := 11) (loc' := [(1, _), (0, _)]) dX12_pairs_10 rfl (by decide) rfl rfl ?_
  refine wp_iconst (q := 12) dX12_pairs_11 zq_iconst_0 rfl ?_
  refine wp_istore_n (q := 13) (loc' := [(2, _), (1, _), (0, _)]) dX12_pairs_12 rfl (by decide) rfl rfl ?_
  refine WP.sub (loc' := [(2, _), (1, _), (0, _)]) [0, 1, 2] rfl ?_
  exact loop n 0 M L (Nat.zero_add _) h zYf_r
set_option maxHeartbeats 4000000 in
set_option maxRecDepth 100000 in
theorem sp_mpairsN {d t n : Nat} {M : zMI} {L : zML} {g : zGd} {v : Nat → Nat} {hs : List (Nat → Nat)} {m : zMs} (h : zMo M L n g v hs m) (h2 : n < 2) : Sy yX12_pairs YX12_pairs (d + 7) [.ref 177] M L (zRf t) (zMn M L t n g v hs m (.int (-1))) := by
  refine Sp.of (by decide +kernel) rfl (fun h => by first | exact h | cases h) (Nat.le_of_ble_eq_true rfl) ?_
  intro w G
  refine wp_aload_n (q := 1) dX12_pairs_0 0 rfl rfl ?_
  refine wp_cvx (q := 4) (sp_mcm (d := 0) h.1.1 h.1.2.1.1.1) zm_X12_crackerMany zl_RX12_463 dX12_pairs_1 rfl (by omega) (Nat.le_of_ble_eq_true rfl) zsh_177 rfl rfl ?_
  rw [if_pos h2]
  refine wp_if_neN (tgt := 9) (q := 7) dX12_pairs_4 (by decide) rfl (by omega) (fun hn => absurd hn (by first | omega | exact fun h => h | exact fun h => h trivial)) (fun _ => ?_)
  refine wp_iconst (q := 8) dX12_pairs_7 zq_iconst_m1 rfl ?_
  exact wp_ireturn dX12_pairs_8 rfl ⟨rfl, ⟨rfl, rfl, h, zYf_r⟩⟩ rfl rfl

