set_option maxHeartbeats 4000000 in
set_option maxRecDepth 100000 in
theorem sp_mfeed {d0 t n : Nat} {a b c d e : Int32} {M : zMI} {L : zML} {g : zGd} {v : Nat → Nat} {hs : List (Nat → Nat)} {m : zMs} (h : zMo M L n g v hs m) (hk : m.1 + 20 ≤ 1600) : Sy yX12_feed YX12_feed (d0) [.ref 177, .int a, .int b, .int c, .int d, .int e] M L (zRf t) (zMn M L t n g v hs (zMt m (m.1 + 20) (zfb m.1 m.2.1 (zfx a b c d e) 5)) (.int (nI (m.1 + 20)))) := by
  refine Sp.of (by decide +kernel) rfl (fun h => by first | exact h | cases h) (Nat.le_of_ble_eq_true rfl) ?_
  intro w G
  obtain ⟨c1, c2, c3, c4, c5, c6, c7, c8, c9, c10, c11⟩ := h.2.2.2.1
  obtain ⟨k, hk0⟩ : ∃ k, m.1 = k := ⟨_, rfl⟩
  obtain ⟨B, hB⟩ : ∃ B, zfb m.1 m.2.1 (zfx a b c d e) 5 = B := ⟨_, rfl⟩
  have hBo : ∀ j, j < k → B j = m.2.1 j := fun j hj => by rw [← hB, hk0]; unfold zfb; rw [if_neg (by omega)]
  have hBn : ∀ i, i < 20 → B (k + i) = zb8 (zfx a b c d e (i / 4)) (24 - 8 * (i % 4)) := fun i hi => by
    rw [← hB, hk0]
    unfold zfb
    rw [if_pos (by omega), show k + i - k = i by omega]
  have loop : ∀ q i (M2 : zMI), i + q = 20 → M2 177 1 = nI (k + i) → (∀ j, j < k + i → M2 178 j = nI (B j) ∧ B j < 256) → (∀ j, j ≠ 1 → M2 177 j = M 177 j) → (∀ x, x ≠ 177 → x ≠ 178 → M2 x = M x) → WP w YX12_feed (d0, SS, 0, 0) G (some (zXp (zMn M L t n g v hs (zMt m (m.1 + 20) (zfb m.1 m.2.1 (zfx a b c d e) 5)) (.int (nI (m.1 + 20)))))) 28 [(6, .int (nI i)), (0, .ref 177), (1, .int a), (2, .int b), (3, .int c), (4, .int d), (5, .int e)] [] SS M2 L (zRf t) := by
    intro q
    induction q with
    | zero =>
      intro i M2 hi e1 e2 e3 e4
      rw [show i = 20 by omega] at e1 e2 ⊢
      refine wp_iload (q := 30) dX12_feed_28 0 rfl rfl ?_
      refine wp_bipush (q := 32) dX12_feed_30 zq_bipush_20 rfl ?_
      refine wp_icmp_geN (tgt := 124) (q := 35) dX12_feed_32 (by decide) rfl (by omega) (by omega) (fun _ => ?_) (fun hn => absurd hn (by first | omega | exact fun h => h | exact fun h => h trivial))
      refine wp_aload_n (q := 125) dX12_feed_124 1 rfl rfl ?_
      refine wp_getI (q := 128) dX12_feed_125 zf_RX12_233 rfl zsh_177 rfl ?_
      rw [e1]
      refine wp_ireturn dX12_feed_128 rfl ⟨rfl, ⟨by rw [hk0], rfl, ?_, fun x hx => ⟨e4 x (by omega) (by omega), rfl⟩⟩⟩ rfl rfl
      rw [hB, hk0]
      exact zMo_m h (fun x x1 x2 x3 x4 => e4 x x1 x2) (fun k hk => e3 k (by omega)) rfl (zMm_t h.2.2.2.1 (by omega) e2 e1 e3 e4)
    | succ q ih =>
      intro i M2 hi e1 e2 e3 e4
      have hi20 : i < 20 := by omega
      have body : ∀ x, x = zfx a b c d e (i / 4) → WP w YX12_feed (d0, SS, 0, 0) G (some (zXp (zMn M L t n g v hs (zMt m (m.1 + 20) (zfb m.1 m.2.1 (zfx a b c d e) 5)) (.int (nI (m.1 + 20)))))) 81 [(6, .int (nI i)), (0, .ref 177), (1, .int a), (2, .int b), (3, .int c), (4, .int d), (5, .int e)] [.int x] SS M2 L (zRf t) := by
        intro x hx
        refine wp_istore (q := 83) (loc' := [(7, _), (6, _), (0, _), (1, _), (2, _), (3, _), (4, _), (5, _)]) dX12_feed_81 (by decide) rfl rfl ?_
        refine wp_aload_n (q := 84) dX12_feed_83 2 rfl rfl ?_
        refine wp_getR (q := 87) dX12_feed_84 zf_RX12_7 rfl zsh_177 (zr_177_0 _) rfl ?_
        refine wp_aload_n (q := 88) dX12_feed_87 2 rfl rfl ?_
        refine wp_getI (q := 91) dX12_feed_88 zf_RX12_233 rfl zsh_177 rfl ?_
        rw [e1]
        refine wp_iload (q := 93) dX12_feed_91 0 rfl rfl ?_
        refine wp_bipush (q := 95) dX12_feed_93 zq_bipush_8 rfl ?_
        refine wp_iconst (q := 96) dX12_feed_95 zq_iconst_3 rfl ?_
        refine wp_iload (q := 98) dX12_feed_96 1 rfl rfl ?_
        refine wp_iconst (q := 99) dX12_feed_98 zq_iconst_4 rfl ?_
        refine wp_iremN (q := 100) dX12_feed_99 (by omega) (by omega) (by omega) rfl ?_
        refine wp_isubN (q := 101) dX12_feed_100 (by omega) rfl ?_
        refine wp_imulN (q := 102) dX12_feed_101 rfl ?_
        rw [show 8 * (3 - i % 4) = 24 - 8 * (i % 4) by omega]
        refine wp_ishr (q := 103) dX12_feed_102 rfl ?_
        refine wp_sipush (q := 106) dX12_feed_103 zq_sipush_255 rfl ?_
        refine wp_iand (q := 107) dX12_feed_106 rfl ?_
        rw [zb8_e, hx, ← hBn i hi20]
        refine wp_iast (q := 108) _ dX12_feed_107 zsh_178 rfl (by omega) (by decide) rfl ?_
        refine wp_aload_n (q := 109) dX12_feed_108 2 rfl rfl ?_
        refine wp_dup (q := 110) dX12_feed_109 rfl rfl ?_
        refine wp_getI (q := 113) dX12_feed_110 zf_RX12_233 rfl zsh_177 rfl ?_
        rw [zu_ne (by decide), e1]
        refine wp_iconst (q := 114) dX12_feed_113 zq_iconst_1 rfl ?_
        refine wp_iaddN (q := 115) dX12_feed_114 rfl ?_
        refine wp_putI (q := 118) dX12_feed_115 zf_RX12_233 rfl zsh_177 rfl ?_
        refine wp_iincN (q := 121) (loc' := [(6, _), (7, _), (0, _), (1, _), (2, _), (3, _), (4, _), (5, _)]) (n := 1) dX12_feed_118 rfl 1 rfl (by decide) rfl rfl ?_
        refine wp_goto (tgt := 28) dX12_feed_121 (by decide) ?_
        refine WP.sub (loc' := [(6, _), (0, _), (1, _), (2, _), (3, _), (4, _), (5, _)]) [0, 2, 3, 4, 5, 6, 7] rfl ?_
        refine ih (i + 1) _ (by omega) zu_s (fun j hj => ?_) (fun j hj => by rw [zu_k hj, zu_ne (by decide)]; exact e3 j hj) (fun x x1 x2 => by rw [zu_ne x1, zu_ne x2]; exact e4 x x1 x2)
        rw [zu_ne (by decide)]
        by_cases c : j = k + i
        · rw [c, zu_s]
          refine ⟨rfl, ?_⟩
          rw [hBn i hi20]
          exact zb8_lt _ _
        · rw [zu_k c]
          exact e2 j (by omega)
      refine wp_iload (q := 30) dX12_feed_28 0 rfl rfl ?_
      refine wp_bipush (q := 32) dX12_feed_30 zq_bipush_20 rfl ?_
      refine wp_icmp_geN (tgt := 124) (q := 35) dX12_feed_32 (by decide) rfl (by omega) (by omega) (fun hn => absurd hn (by first | omega | exact fun h => h | exact fun h => h trivial)) (fun _ => ?_)
      refine wp_iload (q := 37) dX12_feed_35 0 rfl rfl ?_
      refine wp_iconst (q := 38) dX12_feed_37 zq_iconst_4 rfl ?_
      refine wp_icmp_geN (tgt := 45) (q := 41) dX12_feed_38 (by decide) rfl (by omega) (by omega) (fun d1 => ?_) (fun d1 => ?_)
      · skip
        refine wp_iload (q := 47) dX12_feed_45 0 rfl rfl ?_
        refine wp_bipush (q := 49) dX12_feed_47 zq_bipush_8 rfl ?_
        refine wp_icmp_geN (tgt := 56) (q := 52) dX12_feed_49 (by decide) rfl (by omega) (by omega) (fun d2 => ?_) (fun d2 => ?_)
        · skip
          refine wp_iload (q := 58) dX12_feed_56 0 rfl rfl ?_
          refine wp_bipush (q := 60) dX12_feed_58 zq_bipush_12 rfl ?_
          refine wp_icmp_geN (tgt := 67) (q := 63) dX12_feed_60 (by decide) rfl (by omega) (by omega) (fun d3 => ?_) (fun d3 => ?_)
          · skip
            refine wp_iload (q := 69) dX12_feed_67 0 rfl rfl ?_
            refine wp_bipush (q := 71) dX12_feed_69 zq_bipush_16 rfl ?_
            refine wp_icmp_geN (tgt := 79) (q := 74) dX12_feed_71 (by decide) rfl (by omega) (by omega) (fun d4 => ?_) (fun d4 => ?_)
            · skip
              refine wp_iload (q := 81) dX12_feed_79 6 rfl rfl ?_
              refine WP.sub (loc' := [(6, _), (0, _), (1, _), (2, _), (3, _), (4, _), (5, _)]) [0, 1, 2, 3, 4, 5, 6] rfl ?_
              exact body e (by unfold zfx; rw [if_neg (by omega), if_neg (by omega), if_neg (by omega), if_neg (by omega)])
            · skip
              refine wp_iload (q := 76) dX12_feed_74 5 rfl rfl ?_
              refine wp_goto (tgt := 81) dX12_feed_76 (by decide) ?_
              refine WP.sub (loc' := [(6, _), (0, _), (1, _), (2, _), (3, _), (4, _), (5, _)]) [0, 1, 2, 3, 4, 5, 6] rfl ?_
              exact body d (by unfold zfx; rw [if_neg (by omega), if_neg (by omega), if_neg (by omega), if_pos (by omega)])
          · skip
            refine wp_iload_n (q := 64) dX12_feed_63 4 rfl rfl ?_
            refine wp_goto (tgt := 81) dX12_feed_64 (by decide) ?_
            refine WP.sub (loc' := [(6, _), (0, _), (1, _), (2, _), (3, _), (4, _), (5, _)]) [0, 1, 2, 3, 4, 5, 6] rfl ?_
            exact body c (by unfold zfx; rw [if_neg (by omega), if_neg (by omega), if_pos (by omega)])
        · skip
          refine wp_iload_n (q := 53) dX12_feed_52 3 rfl rfl ?_
          refine wp_goto (tgt := 81) dX12_feed_53 (by decide) ?_
          refine WP.sub (loc' := [(6, _), (0, _), (1, _), (2, _), (3, _), (4, _), (5, _)]) [0, 1, 2, 3, 4, 5, 6] rfl ?_
          exact body b (by unfold zfx; rw [if_neg (by omega), if_pos (by omega)])
      · skip
        refine wp_iload_n (q := 42) dX12_feed_41 2 rfl rfl ?_
        refine wp_goto (tgt := 81) dX12_feed_42 (by decide) ?_
        refine WP.sub (loc' := [(6, _), (0, _), (1, _), (2, _), (3, _), (4, _), (5, _)]) [0, 1, 2, 3, 4, 5, 6] rfl ?_
        exact body a (by unfold zfx; rw [if_pos (by omega)])
  refine wp_aload_n (q := 1) dX12_feed_0 0 rfl rfl ?_
  refine wp_getI (q := 4) dX12_feed_1 zf_RX12_233 rfl zsh_177 rfl ?_
  rw [c1]
  refine wp_bipush (q := 6) dX12_feed_4 zq_bipush_20 rfl ?_
  refine wp_iaddN (q := 7) dX12_feed_6 rfl ?_
  refine wp_sipush (q := 10) dX12_feed_7 zq_sipush_1600 rfl ?_
  refine wp_icmp_leN (tgt := 25) (q := 13) dX12_feed_10 (by decide) rfl (by omega) (by omega) (fun _ => ?_) (fun hn => absurd hn (by first | omega | exact fun h => h | exact fun h => h trivial))
  refine wp_iconst (q := 26) dX12_feed_25 zq_iconst_0 rfl ?_
  refine wp_istore (q := 28) (loc' := [(6, _), (0, _), (1, _), (2, _), (3, _), (4, _), (5, _)]) dX12_feed_26 (by decide) rfl rfl ?_
  refine WP.sub (loc' := [(6, _), (0, _), (1, _), (2, _), (3, _), (4, _), (5, _)]) [0, 1, 2, 3, 4, 5, 6] rfl ?_
  refine loop 20 0 M (by decide) (by rw [c1, hk0, Nat.add_zero]) (fun j hj => ?_) (fun j _ => rfl) (fun x _ _ => rfl)
  rw [hBo j (by omega)]
  exact c3 j (by omega)
set_option maxHeartbeats 4000000 in
set_option maxRecDepth 100000 in
theorem sp_mfeedN {d0 t n : Nat} {a b c d e : Int32} {M : zMI} {L : zML} {g : zGd} {v : Nat → Nat} {hs : List (Nat → Nat)} {m : zMs} (h : zMo M L n g v hs m) (hk : ¬ m.1 + 20 ≤ 1600) : Sy yX12_feed YX12_feed (d0) [.ref 177, .int a, .int b, .int c, .int d, .int e] M L (zRf t) (zMn M L t n g v hs (zMup m 0) (.int (-1))) := by
  refine Sp.of (by decide +kernel) rfl (fun h => by first | exact h | cases h) (Nat.le_of_ble_eq_true rfl) ?_
  intro w G
  obtain ⟨c1, c2, -⟩ := h.2.2.2.1
  refine wp_aload_n (q := 1) dX12_feed_0 0 rfl rfl ?_
  refine wp_getI (q := 4) dX12_feed_1 zf_RX12_233 rfl zsh_177 rfl ?_
  rw [c1]
  refine wp_bipush (q := 6) dX12_feed_4 zq_bipush_20 rfl ?_
  refine wp_iaddN (q := 7) dX12_feed_6 rfl ?_
  refine wp_sipush (q := 10) dX12_feed_7 zq_sipush_1600 rfl ?_
  refine wp_icmp_leN (tgt := 25) (q := 13) dX12_feed_10 (by decide) rfl (by omega) (by omega) (fun hn => absurd hn (by first | omega | exact fun h => h | exact fun h => h trivial)) (fun _ => ?_)
  refine wp_aload_n (q := 14) dX12_feed_13 0 rfl rfl ?_
  refine wp_getR (q := 17) dX12_feed_14 zf_RX12_17 rfl zsh_177 (zr_177_9 _) rfl ?_
  refine wp_iconst (q := 18) dX12_feed_17 zq_iconst_0 rfl ?_
  first | refine wp_dup2 (q := 19) dX12_feed_18 rfl rfl rfl ?_ | refine wp_dup2L (q := 19) dX12_feed_18 rfl rfl ?_
  refine wp_iald (q := 20) _ dX12_feed_19 zsh_179 rfl (by omega) (by decide) rfl ?_
  refine wp_iconst (q := 21) dX12_feed_20 zq_iconst_1 rfl ?_
  refine wp_iadd (q := 22) dX12_feed_21 rfl ?_
  refine wp_iast (q := 23) _ dX12_feed_22 zsh_179 rfl (by omega) (by decide) rfl ?_
  refine wp_iconst (q := 24) dX12_feed_23 zq_iconst_m1 rfl ?_
  exact wp_ireturn dX12_feed_24 rfl ⟨rfl, ⟨rfl, rfl, zMo_rf h (by decide), zYf_rf (by decide)⟩⟩ rfl rfl
set_option maxHeartbeats 4000000 in
set_option maxRecDepth 100000 in
theorem sp_mhas {d t n w0 : Nat} {M : zMI} {L : zML} {g : zGd} {v : Nat → Nat} {hs : List (Nat → Nat)} {m : zMs} (h : zMo M L n g v hs m) (hw0 : w0 < 10) : Sy yX12_has YX12_has (d + 2) [.ref 177, .int (nI w0)] M L (zRf t) (zMn M L t n g v hs m (.int (nI (zhas n g v hs.length w0)))) := by
  refine Sp.of (by decide +kernel) rfl (fun h => by first | exact h | cases h) (Nat.le_of_ble_eq_true rfl) ?_
  intro w G
  have hn := h.1.1
  have hnw := h.1.2.1
  have h8 := hnw.1.1
  obtain ⟨b1, b2, b3, b4, b5, b6, b7⟩ := h.2.1
  obtain ⟨nw, -, -, -, k4, -⟩ := h.2.2.1
  refine wp_iload_n (q := 1) dX12_has_0 1 rfl rfl ?_
  have hc : w0 = 0 ∨ w0 = 1 ∨ w0 = 2 ∨ w0 = 3 ∨ w0 = 4 ∨ w0 = 5 ∨ w0 = 6 ∨ w0 = 7 ∨ w0 = 8 ∨ w0 = 9 := by omega
  rcases hc with rfl | rfl | rfl | rfl | rfl | rfl | rfl | rfl | rfl | rfl
  · skip
    refine wp_tsIn (tgt := 56) (off := 55) dX12_has_1 (by decide) (by decide) (by rfl) (by decide) ?_
    refine wp_aload_n (q := 57) dX12_has_56 0 rfl rfl ?_
    refine wp_cvx (q := 60) (sp_mpm (d := 0) hn) zm_X12_peopleMany zl_RX12_408 dX12_has_57 rfl (by omega) (Nat.le_of_ble_eq_true rfl) zsh_177 rfl rfl ?_
    exact wp_ireturn dX12_has_60 rfl ⟨rfl, ⟨rfl, rfl, h, zYf_r⟩⟩ rfl rfl
  · skip
    refine wp_tsIn (tgt := 61) (off := 60) dX12_has_1 (by decide) (by decide) (by rfl) (by decide) ?_
    refine wp_aload_n (q := 62) dX12_has_61 0 rfl rfl ?_
    refine wp_cvx (q := 65) (sp_mcm (d := 0) hn h8) zm_X12_crackerMany zl_RX12_463 dX12_has_62 rfl (by omega) (Nat.le_of_ble_eq_true rfl) zsh_177 rfl rfl ?_
    exact wp_ireturn dX12_has_65 rfl ⟨rfl, ⟨rfl, rfl, h, zYf_r⟩⟩ rfl rfl
  · skip
    refine wp_tsIn (tgt := 66) (off := 65) dX12_has_1 (by decide) (by decide) (by rfl) (by decide) ?_
    refine wp_aload_n (q := 67) dX12_has_66 0 rfl rfl ?_
    refine wp_cvx (q := 70) (sp_mbm (d := 0) b1) zm_X12_boxMany zl_RX12_466 dX12_has_67 rfl (by omega) (Nat.le_of_ble_eq_true rfl) zsh_177 rfl rfl ?_
    exact wp_ireturn dX12_has_70 rfl ⟨rfl, ⟨rfl, rfl, h, zYf_r⟩⟩ rfl rfl
  · skip
    refine wp_tsIn (tgt := 71) (off := 70) dX12_has_1 (by decide) (by decide) (by rfl) (by decide) ?_
    refine wp_aload_n (q := 72) dX12_has_71 0 rfl rfl ?_
    refine wp_getR (q := 75) dX12_has_72 zf_RX12_106 rfl zsh_177 (by first | rfl | assumption) rfl ?_
    refine wp_iconst (q := 76) dX12_has_75 zq_iconst_1 rfl ?_
    refine wp_iald (q := 77) _ dX12_has_76 zsh_208 rfl (by omega) (by decide) rfl ?_
    rw [b6]
    exact wp_ireturn dX12_has_77 rfl ⟨rfl, ⟨rfl, rfl, h, zYf_r⟩⟩ rfl rfl
  · skip
    refine wp_tsIn (tgt := 78) (off := 77) dX12_has_1 (by decide) (by decide) (by rfl) (by decide) ?_
    refine wp_aload_n (q := 79) dX12_has_78 0 rfl rfl ?_
    refine wp_getR (q := 82) dX12_has_79 zf_RX12_127 rfl zsh_177 (by first | rfl | assumption) rfl ?_
    refine wp_iload_n (q := 83) dX12_has_82 1 rfl rfl ?_
    refine wp_iconst (q := 84) dX12_has_83 zq_iconst_4 rfl ?_
    refine wp_isubN (q := 85) dX12_has_84 (by omega) rfl ?_
    refine wp_iald (q := 86) _ dX12_has_85 zsh_215 rfl (by omega) (by decide) rfl ?_
    rw [hnw.2 _ (by omega)]
    exact wp_ireturn dX12_has_86 rfl ⟨rfl, ⟨rfl, rfl, h, zYf_r⟩⟩ rfl rfl
  · skip
    refine wp_tsIn (tgt := 78) (off := 77) dX12_has_1 (by decide) (by decide) (by rfl) (by decide) ?_
    refine wp_aload_n (q := 79) dX12_has_78 0 rfl rfl ?_
    refine wp_getR (q := 82) dX12_has_79 zf_RX12_127 rfl zsh_177 (by first | rfl | assumption) rfl ?_
    refine wp_iload_n (q := 83) dX12_has_82 1 rfl rfl ?_
    refine wp_iconst (q := 84) dX12_has_83 zq_iconst_4 rfl ?_
    refine wp_isubN (q := 85) dX12_has_84 (by omega) rfl ?_
    refine wp_iald (q := 86) _ dX12_has_85 zsh_215 rfl (by omega) (by decide) rfl ?_
    rw [hnw.2 _ (by omega)]
    exact wp_ireturn dX12_has_86 rfl ⟨rfl, ⟨rfl, rfl, h, zYf_r⟩⟩ rfl rfl
  · skip
    refine wp_tsIn (tgt := 78) (off := 77) dX12_has_1 (by decide) (by decide) (by rfl) (by decide) ?_
    refine wp_aload_n (q := 79) dX12_has_78 0 rfl rfl ?_
    refine wp_getR (q := 82) dX12_has_79 zf_RX12_127 rfl zsh_177 (by first | rfl | assumption) rfl ?_
    refine wp_iload_n (q := 83) dX12_has_82 1 rfl rfl ?_
    refine wp_iconst (q := 84) dX12_has_83 zq_iconst_4 rfl ?_
    refine wp_isubN (q := 85) dX12_has_84 (by omega) rfl ?_
    refine wp_iald (q := 86) _ dX12_has_85 zsh_215 rfl (by omega) (by decide) rfl ?_
    rw [hnw.2 _ (by omega)]
    exact wp_ireturn dX12_has_86 rfl ⟨rfl, ⟨rfl, rfl, h, zYf_r⟩⟩ rfl rfl
  · skip
    refine wp_tsIn (tgt := 87) (off := 86) dX12_has_1 (by decide) (by decide) (by rfl) (by decide) ?_
    refine wp_aload_n (q := 88) dX12_has_87 0 rfl rfl ?_
    refine wp_cvx (q := 91) (sp_mhatsAll (d := 0) hn hnw) zm_X12_hatsAll zl_RX12_469 dX12_has_88 rfl (by omega) (Nat.le_of_ble_eq_true rfl) zsh_177 rfl rfl ?_
    exact wp_ireturn dX12_has_91 rfl ⟨rfl, ⟨rfl, rfl, h, zYf_r⟩⟩ rfl rfl
  · skip
    refine wp_tsIn (tgt := 92) (off := 91) dX12_has_1 (by decide) (by decide) (by rfl) (by decide) ?_
    refine wp_aload_n (q := 93) dX12_has_92 0 rfl rfl ?_
    refine wp_cvx (q := 96) (sp_mhatless (d := 0) hn hnw) zm_X12_hatless zl_RX12_472 dX12_has_93 rfl (by omega) (Nat.le_of_ble_eq_true rfl) zsh_177 rfl rfl ?_
    exact wp_ireturn dX12_has_96 rfl ⟨rfl, ⟨rfl, rfl, h, zYf_r⟩⟩ rfl rfl
  · skip
    refine wp_tsIn (tgt := 97) (off := 96) dX12_has_1 (by decide) (by decide) (by rfl) (by decide) ?_
    refine wp_aload_n (q := 98) dX12_has_97 0 rfl rfl ?_
    refine wp_getI (q := 101) dX12_has_98 zf_RX12_359 rfl zsh_177 rfl ?_
    rw [k4]
    exact wp_ireturn dX12_has_101 rfl ⟨rfl, ⟨rfl, rfl, h, zYf_r⟩⟩ rfl rfl
set_option maxHeartbeats 4000000 in
set_option maxRecDepth 100000 in
theorem sp_mhasN {d t n : Nat} {x : Int32} {M : zMI} {L : zML} {g : zGd} {v : Nat → Nat} {hs : List (Nat → Nat)} {m : zMs} (h : zMo M L n g v hs m) (hx : ¬ zin x 10) : Sy yX12_has YX12_has (d + 2) [.ref 177, .int x] M L (zRf t) (zMn M L t n g v hs m (.int (-1))) := by
  refine Sp.of (by decide +kernel) rfl (fun h => by first | exact h | cases h) (Nat.le_of_ble_eq_true rfl) ?_
  intro w G
  have ht := zin_t (by decide) hx
  refine wp_iload_n (q := 1) dX12_has_0 1 rfl rfl ?_
  refine wp_tsOut (tgt := 102) dX12_has_1 (by omega) (by decide) ?_
  refine wp_iconst (q := 103) dX12_has_102 zq_iconst_m1 rfl ?_
  exact wp_ireturn dX12_has_103 rfl ⟨rfl, ⟨rfl, rfl, h, zYf_r⟩⟩ rfl rfl
set_option maxHeartbeats 4000000 in
set_option maxRecDepth 100000 in
theorem sp_mbox {d t n : Nat} {x : Int32} {M : zMI} {L : zML} {g : zGd} {v : Nat → Nat} {hs : List (Nat → Nat)} {m : zMs} (h : zMo M L n g v hs m) {r : Int32} (hr : ∀ k, k < g.2.1 → x = nI k → nI (g.2.2.2.1 k) = r) (hr2 : ¬ zin x g.2.1 → r = -1) : Sy yX12_box YX12_box (d + 1) [.ref 177, .int x] M L (zRf t) (zMn M L t n g v hs m (.int r)) := by
  refine Sp.of (by decide +kernel) rfl (fun h => by first | exact h | cases h) (Nat.le_of_ble_eq_true rfl) ?_
  intro w G
  obtain ⟨b1, b2, b3, b4, b5, b6, b7⟩ := h.2.1
  refine wp_iload_n (q := 1) dX12_box_0 1 rfl rfl ?_
  refine wp_i2l (q := 2) dX12_box_1 rfl ?_
  refine wp_lconst (q := 3) dX12_box_2 zq_lconst_0 rfl ?_
  refine wp_aload_n (q := 4) dX12_box_3 0 rfl rfl ?_
  refine wp_cvx (q := 7) (sp_mbm (d := 0) b1) zm_X12_boxMany zl_RX12_466 dX12_box_4 rfl (by omega) (Nat.le_of_ble_eq_true rfl) zsh_177 rfl rfl ?_
  refine wp_iconst (q := 8) dX12_box_7 zq_iconst_1 rfl ?_
  refine wp_isub (q := 9) dX12_box_8 rfl ?_
  refine wp_i2l (q := 10) dX12_box_9 rfl ?_
  refine wp_csx (q := 13) (sp_isIn (d := 0)) zm_X12_isIn zl_RX12_276 dX12_box_10 rfl (by omega) (Nat.le_of_ble_eq_true rfl) rfl ?_
  by_cases c : zin x g.2.1
  · rw [if_pos ((zis0 (by omega)).mpr c)]
    obtain ⟨k, hk, rfl⟩ := zin_n (by omega) c
    refine wp_if_eqN (tgt := 27) (q := 16) dX12_box_13 (by decide) rfl (by omega) (fun hn => absurd hn (by first | omega | exact fun h => h | exact fun h => h trivial)) (fun _ => ?_)
    refine wp_aload_n (q := 17) dX12_box_16 0 rfl rfl ?_
    refine wp_getR (q := 20) dX12_box_17 zf_RX12_103 rfl zsh_177 (zr_177_38 _) rfl ?_
    refine wp_iconst (q := 21) dX12_box_20 zq_iconst_4 rfl ?_
    refine wp_iload_n (q := 22) dX12_box_21 1 rfl rfl ?_
    refine wp_iaddN (q := 23) dX12_box_22 rfl ?_
    refine wp_iald (q := 24) _ dX12_box_23 zsh_207 rfl (by omega) (by decide) rfl ?_
    rw [(b5 k hk).1]
    refine wp_goto (tgt := 28) dX12_box_24 (by decide) ?_
    exact wp_ireturn dX12_box_28 rfl ⟨rfl, ⟨by rw [hr k hk rfl], rfl, h, zYf_r⟩⟩ rfl rfl
  · rw [if_neg (fun e => c ((zis0 (by omega)).mp e))]
    refine wp_if_eqN (tgt := 27) (q := 16) dX12_box_13 (by decide) rfl (by omega) (fun _ => ?_) (fun hn => absurd hn (by first | omega | exact fun h => h | exact fun h => h trivial))
    refine wp_iconst (q := 28) dX12_box_27 zq_iconst_m1 rfl ?_
    exact wp_ireturn dX12_box_28 rfl ⟨rfl, ⟨by rw [hr2 c], rfl, h, zYf_r⟩⟩ rfl rfl
set_option maxHeartbeats 4000000 in
set_option maxRecDepth 100000 in
theorem sp_mseat {d t n s w0 : Nat} {M : zMI} {L : zML} {g : zGd} {v : Nat → Nat} {hs : List (Nat → Nat)} {m : zMs} (h : zMo M L n g v hs m) (hs0 : s < n) (hw0 : w0 < 8) : Sy yX12_seat YX12_seat (d + 2) [.ref 177, .int (nI s), .int (nI w0)] M L (zRf t) (zMn M L t n g v hs m (.int (nI (zset g.2.2.2.2.2 v s w0)))) := by
  refine Sp.of (by decide +kernel) rfl (fun h => by first | exact h | cases h) (Nat.le_of_ble_eq_true rfl) ?_
  intro w G
  have hn := h.1.1
  have hnw := h.1.2.1
  have h8 := hnw.1.1
  refine wp_aload_n (q := 1) dX12_seat_0 0 rfl rfl ?_
  refine wp_iload_n (q := 2) dX12_seat_1 1 rfl rfl ?_
  refine wp_cvx (q := 5) (sp_misSeat (d := 0) hn h8) zm_X12_isSeat zl_RX12_477 dX12_seat_2 rfl (by omega) (Nat.le_of_ble_eq_true rfl) zsh_177 rfl rfl ?_
  rw [if_pos (zin_i hs0 (by omega))]
  refine wp_if_neN (tgt := 10) (q := 8) dX12_seat_5 (by decide) rfl (by omega) (fun _ => ?_) (fun hn => absurd hn (by first | omega | exact fun h => h | exact fun h => h trivial))
  refine wp_iload_n (q := 11) dX12_seat_10 2 rfl rfl ?_
  have hc : w0 = 0 ∨ w0 = 1 ∨ w0 = 2 ∨ w0 = 3 ∨ w0 = 4 ∨ w0 = 5 ∨ w0 = 6 ∨ w0 = 7 := by omega
  rcases hc with rfl | rfl | rfl | rfl | rfl | rfl | rfl | rfl
  · skip
    refine wp_tsIn (tgt := 56) (off := 45) dX12_seat_11 (by decide) (by decide) (by rfl) (by decide) ?_
    refine wp_aload_n (q := 57) dX12_seat_56 0 rfl rfl ?_
    refine wp_iload_n (q := 58) dX12_seat_57 1 rfl rfl ?_
    refine wp_cvx (q := 61) (sp_mwho (d := 0) hnw hs0) zm_X12_whoAt zl_RX12_411 dX12_seat_58 rfl (by omega) (Nat.le_of_ble_eq_true rfl) zsh_177 rfl rfl ?_
    exact wp_ireturn dX12_seat_61 rfl ⟨rfl, ⟨rfl, rfl, h, zYf_r⟩⟩ rfl rfl
  · skip
    refine wp_tsIn (tgt := 62) (off := 51) dX12_seat_11 (by decide) (by decide) (by rfl) (by decide) ?_
    refine wp_aload_n (q := 63) dX12_seat_62 0 rfl rfl ?_
    refine wp_iload_n (q := 64) dX12_seat_63 1 rfl rfl ?_
    refine wp_cvx (q := 67) (sp_mhats (d := 0) hnw hs0) zm_X12_hatsOf zl_RX12_460 dX12_seat_64 rfl (by omega) (Nat.le_of_ble_eq_true rfl) zsh_177 rfl rfl ?_
    exact wp_ireturn dX12_seat_67 rfl ⟨rfl, ⟨rfl, rfl, h, zYf_r⟩⟩ rfl rfl
  · skip
    refine wp_tsIn (tgt := 68) (off := 57) dX12_seat_11 (by decide) (by decide) (by rfl) (by decide) ?_
    refine wp_aload_n (q := 69) dX12_seat_68 0 rfl rfl ?_
    refine wp_iload_n (q := 70) dX12_seat_69 1 rfl rfl ?_
    refine wp_iload_n (q := 71) dX12_seat_70 2 rfl rfl ?_
    refine wp_iconst (q := 72) dX12_seat_71 zq_iconst_2 rfl ?_
    refine wp_isubN (q := 73) dX12_seat_72 (by omega) rfl ?_
    refine wp_cvx (q := 76) (sp_marm (d := 0) (hd := 0) h.1 hs0 (by decide)) zm_X12_armOf zl_RX12_415 dX12_seat_73 rfl (by omega) (Nat.le_of_ble_eq_true rfl) zsh_177 rfl rfl ?_
    exact wp_ireturn dX12_seat_76 rfl ⟨rfl, ⟨rfl, rfl, h, zYf_r⟩⟩ rfl rfl
  · skip
    refine wp_tsIn (tgt := 68) (off := 57) dX12_seat_11 (by decide) (by decide) (by rfl) (by decide) ?_
    refine wp_aload_n (q := 69) dX12_seat_68 0 rfl rfl ?_
    refine wp_iload_n (q := 70) dX12_seat_69 1 rfl rfl ?_
    refine wp_iload_n (q := 71) dX12_seat_70 2 rfl rfl ?_
    refine wp_iconst (q := 72) dX12_seat_71 zq_iconst_2 rfl ?_
    refine wp_isubN (q := 73) dX12_seat_72 (by omega) rfl ?_
    refine wp_cvx (q := 76) (sp_marm (d := 0) (hd := 1) h.1 hs0 (by decide)) zm_X12_armOf zl_RX12_415 dX12_seat_73 rfl (by omega) (Nat.le_of_ble_eq_true rfl) zsh_177 rfl rfl ?_
    exact wp_ireturn dX12_seat_76 rfl ⟨rfl, ⟨rfl, rfl, h, zYf_r⟩⟩ rfl rfl
  · skip
    refine wp_tsIn (tgt := 77) (off := 66) dX12_seat_11 (by decide) (by decide) (by rfl) (by decide) ?_
    refine wp_aload_n (q := 78) dX12_seat_77 0 rfl rfl ?_
    refine wp_iload_n (q := 79) dX12_seat_78 1 rfl rfl ?_
    refine wp_iload_n (q := 80) dX12_seat_79 2 rfl rfl ?_
    refine wp_iconst (q := 81) dX12_seat_80 zq_iconst_4 rfl ?_
    refine wp_isubN (q := 82) dX12_seat_81 (by omega) rfl ?_
    refine wp_cvx (q := 85) (sp_mgrip (d := 0) (hd := 0) hnw hs0 (by decide)) zm_X12_gripOf zl_RX12_421 dX12_seat_82 rfl (by omega) (Nat.le_of_ble_eq_true rfl) zsh_177 rfl rfl ?_
    exact wp_ireturn dX12_seat_85 rfl ⟨rfl, ⟨rfl, rfl, h, zYf_r⟩⟩ rfl rfl
  · skip
    refine wp_tsIn (tgt := 77) (off := 66) dX12_seat_11 (by decide) (by decide) (by rfl) (by decide) ?_
    refine wp_aload_n (q := 78) dX12_seat_77 0 rfl rfl ?_
    refine wp_iload_n (q := 79) dX12_seat_78 1 rfl rfl ?_
    refine wp_iload_n (q := 80) dX12_seat_79 2 rfl rfl ?_
    refine wp_iconst (q := 81) dX12_seat_80 zq_iconst_4 rfl ?_
    refine wp_isubN (q := 82) dX12_seat_81 (by omega) rfl ?_
    refine wp_cvx (q := 85) (sp_mgrip (d := 0) (hd := 1) hnw hs0 (by decide)) zm_X12_gripOf zl_RX12_421 dX12_seat_82 rfl (by omega) (Nat.le_of_ble_eq_true rfl) zsh_177 rfl rfl ?_
    exact wp_ireturn dX12_seat_85 rfl ⟨rfl, ⟨rfl, rfl, h, zYf_r⟩⟩ rfl rfl
  · skip
    refine wp_tsIn (tgt := 86) (off := 75) dX12_seat_11 (by decide) (by decide) (by rfl) (by decide) ?_
    refine wp_aload_n (q := 87) dX12_seat_86 0 rfl rfl ?_
    refine wp_iload_n (q := 88) dX12_seat_87 1 rfl rfl ?_
    refine wp_iload_n (q := 89) dX12_seat_88 2 rfl rfl ?_
    refine wp_bipush (q := 91) dX12_seat_89 zq_bipush_6 rfl ?_
    refine wp_isubN (q := 92) dX12_seat_91 (by omega) rfl ?_
    refine wp_cvx (q := 95) (sp_mlow (d := 0) (hd := 0) hnw hs0 (by decide)) zm_X12_lowOf zl_RX12_418 dX12_seat_92 rfl (by omega) (Nat.le_of_ble_eq_true rfl) zsh_177 rfl rfl ?_
    exact wp_ireturn dX12_seat_95 rfl ⟨rfl, ⟨rfl, rfl, h, zYf_r⟩⟩ rfl rfl
  · skip
    refine wp_tsIn (tgt := 86) (off := 75) dX12_seat_11 (by decide) (by decide) (by rfl) (by decide) ?_
    refine wp_aload_n (q := 87) dX12_seat_86 0 rfl rfl ?_
    refine wp_iload_n (q := 88) dX12_seat_87 1 rfl rfl ?_
    refine wp_iload_n (q := 89) dX12_seat_88 2 rfl rfl ?_
    refine wp_bipush (q := 91) dX12_seat_89 zq_bipush_6 rfl ?_
    refine wp_isubN (q := 92) dX12_seat_91 (by omega) rfl ?_
    refine wp_cvx (q := 95) (sp_mlow (d := 0) (hd := 1) hnw hs0 (by decide)) zm_X12_lowOf zl_RX12_418 dX12_seat_92 rfl (by omega) (Nat.le_of_ble_eq_true rfl) zsh_177 rfl rfl ?_
    exact wp_ireturn dX12_seat_95 rfl ⟨rfl, ⟨rfl, rfl, h, zYf_r⟩⟩ rfl rfl
set_option maxHeartbeats 4000000 in
set_option maxRecDepth 100000 in
theorem sp_mseatN {d t n : Nat} {x y : Int32} {M : zMI} {L : zML} {g : zGd} {v : Nat → Nat} {hs : List (Nat → Nat)} {m : zMs} (h : zMo M L n g v hs m) (hN : ¬ (zin x n ∧ zin y 8)) : Sy yX12_seat YX12_seat (d + 2) [.ref 177, .int x, .int y] M L (zRf t) (zMn M L t n g v hs m (.int (-1))) := by
  refine Sp.of (by decide +kernel) rfl (fun h => by first | exact h | cases h) (Nat.le_of_ble_eq_true rfl) ?_
  intro w G
  have hn := h.1.1
  have h8 := h.1.2.1.1.1
  refine wp_aload_n (q := 1) dX12_seat_0 0 rfl rfl ?_
  refine wp_iload_n (q := 2) dX12_seat_1 1 rfl rfl ?_
  refine wp_cvx (q := 5) (sp_misSeat (d := 0) hn h8) zm_X12_isSeat zl_RX12_477 dX12_seat_2 rfl (by omega) (Nat.le_of_ble_eq_true rfl) zsh_177 rfl rfl ?_
  by_cases c : zin x n
  · rw [if_pos c]
    have ht := zin_t (by decide) (fun c2 => hN ⟨c, c2⟩)
    refine wp_if_neN (tgt := 10) (q := 8) dX12_seat_5 (by decide) rfl (by omega) (fun _ => ?_) (fun hn => absurd hn (by first | omega | exact fun h => h | exact fun h => h trivial))
    refine wp_iload_n (q := 11) dX12_seat_10 2 rfl rfl ?_
    refine wp_tsOut (tgt := 96) dX12_seat_11 (by omega) (by decide) ?_
    refine wp_iconst (q := 97) dX12_seat_96 zq_iconst_m1 rfl ?_
    exact wp_ireturn dX12_seat_97 rfl ⟨rfl, ⟨rfl, rfl, h, zYf_r⟩⟩ rfl rfl
  · rw [if_neg c]
    refine wp_if_neN (tgt := 10) (q := 8) dX12_seat_5 (by decide) rfl (by omega) (fun hn => absurd hn (by first | omega | exact fun h => h | exact fun h => h trivial)) (fun _ => ?_)
    refine wp_iconst (q := 9) dX12_seat_8 zq_iconst_m1 rfl ?_
    exact wp_ireturn dX12_seat_9 rfl ⟨rfl, ⟨rfl, rfl, h, zYf_r⟩⟩ rfl rfl
set_option maxHeartbeats 4000000 in
set_option maxRecDepth 100000 in
theorem sp_mcracker {d t n c w0 : Nat} {M : zMI} {L : zML} {g : zGd} {v : Nat → Nat} {hs : List (Nat → Nat)} {m : zMs} (h : zMo M L n g v hs m) (h2 : 2 ≤ n) (hc : c < n) (hw0 : w0 < 7) : Sy yX12_cracker YX12_cracker (d + 7) [.ref 177, .int (nI c), .int (nI w0)] M L (zRf t) (zMn M L t n g v hs m (.int (nI (zcrk g.2.2.2.2.2 v c ((c + 1) % n) w0)))) := by
  refine Sp.of (by decide +kernel) rfl (fun h => by first | exact h | cases h) (Nat.le_of_ble_eq_true rfl) ?_
  intro w G
  have hn := h.1.1
  have hnw := h.1.2.1
  have h8 := hnw.1.1
  have hm : (c + 1) % n < n := Nat.mod_lt _ (by omega)
  refine wp_iload_n (q := 1) dX12_cracker_0 1 rfl rfl ?_
  refine wp_i2lN (q := 2) dX12_cracker_1 (by omega) rfl ?_
  refine wp_lconst (q := 3) dX12_cracker_2 zq_lconst_0 rfl ?_
  refine wp_aload_n (q := 4) dX12_cracker_3 0 rfl rfl ?_
  refine wp_cvx (q := 7) (sp_mcm (d := 0) hn h8) zm_X12_crackerMany zl_RX12_463 dX12_cracker_4 rfl (by omega) (Nat.le_of_ble_eq_true rfl) zsh_177 rfl rfl ?_
  rw [if_neg (by omega)]
  refine wp_iconst (q := 8) dX12_cracker_7 zq_iconst_1 rfl ?_
  refine wp_isub (q := 9) dX12_cracker_8 rfl ?_
  refine wp_i2l (q := 10) dX12_cracker_9 rfl ?_
  refine wp_csx (q := 13) (sp_isIn (d := 0)) zm_X12_isIn zl_RX12_276 dX12_cracker_10 rfl (by omega) (Nat.le_of_ble_eq_true rfl) rfl ?_
  have hin := (zis0 (x := nI c) (m := n) (by omega)).mpr (zin_i hc (by omega))
  rw [nI_l (by omega)] at hin
  rw [if_pos hin]
  refine wp_if_neN (tgt := 18) (q := 16) dX12_cracker_13 (by decide) rfl (by omega) (fun _ => ?_) (fun hn => absurd hn (by first | omega | exact fun h => h | exact fun h => h trivial))
  refine wp_aload_n (q := 19) dX12_cracker_18 0 rfl rfl ?_
  refine wp_iload_n (q := 20) dX12_cracker_19 1 rfl rfl ?_
  refine wp_cvx (q := 23) (sp_mahead (d := 0) hn h8 hc) zm_X12_ahead zl_RX12_442 dX12_cracker_20 rfl (by omega) (Nat.le_of_ble_eq_true rfl) zsh_177 rfl rfl ?_
  refine wp_istore_n (q := 24) (loc' := [(3, _), (0, _), (1, _), (2, _)]) dX12_cracker_23 rfl (by decide) rfl rfl ?_
  refine wp_iload_n (q := 25) dX12_cracker_24 3 rfl rfl ?_
  have hcs : w0 = 0 ∨ w0 = 1 ∨ w0 = 2 ∨ w0 = 3 ∨ w0 = 4 ∨ w0 = 5 ∨ w0 = 6 := by omega
  rcases hcs with rfl | rfl | rfl | rfl | rfl | rfl | rfl
  · skip
    refine wp_tsIn (tgt := 68) (off := 43) dX12_cracker_25 (by decide) (by decide) (by rfl) (by decide) ?_
    refine wp_aload_n (q := 69) dX12_cracker_68 1 rfl rfl ?_
    refine wp_iload_n (q := 70) dX12_cracker_69 2 rfl rfl ?_
    refine wp_iconst (q := 71) dX12_cracker_70 zq_iconst_0 rfl ?_
    refine wp_iload_n (q := 72) dX12_cracker_71 0 rfl rfl ?_
    refine wp_cvy (q := 75) (sp_mmight (d := 0) (hd := 0) h.1 hc (by decide) hm rfl) zm_X12_might zl_RX12_435 dX12_cracker_72 rfl (by omega) (Nat.le_of_ble_eq_true rfl) zsh_177 rfl rfl ?_
    rintro _ M2 L2 _ ⟨rfl, rfl, hto⟩
    exact wp_ireturn dX12_cracker_75 rfl ⟨rfl, ⟨rfl, rfl, zMo_o h hto, zYf_o hto⟩⟩ rfl rfl
  · skip
    refine wp_tsIn (tgt := 76) (off := 51) dX12_cracker_25 (by decide) (by decide) (by rfl) (by decide) ?_
    refine wp_aload_n (q := 77) dX12_cracker_76 1 rfl rfl ?_
    refine wp_iload_n (q := 78) dX12_cracker_77 0 rfl rfl ?_
    refine wp_iconst (q := 79) dX12_cracker_78 zq_iconst_1 rfl ?_
    refine wp_iload_n (q := 80) dX12_cracker_79 2 rfl rfl ?_
    refine wp_cvy (q := 83) (sp_mmight (d := 0) (hd := 1) h.1 hm (by decide) hc rfl) zm_X12_might zl_RX12_435 dX12_cracker_80 rfl (by omega) (Nat.le_of_ble_eq_true rfl) zsh_177 rfl rfl ?_
    rintro _ M2 L2 _ ⟨rfl, rfl, hto⟩
    exact wp_ireturn dX12_cracker_83 rfl ⟨rfl, ⟨rfl, rfl, zMo_o h hto, zYf_o hto⟩⟩ rfl rfl
  · skip
    refine wp_tsIn (tgt := 84) (off := 59) dX12_cracker_25 (by decide) (by decide) (by rfl) (by decide) ?_
    refine wp_aload_n (q := 85) dX12_cracker_84 1 rfl rfl ?_
    refine wp_iload_n (q := 86) dX12_cracker_85 2 rfl rfl ?_
    refine wp_iconst (q := 87) dX12_cracker_86 zq_iconst_0 rfl ?_
    refine wp_iload_n (q := 88) dX12_cracker_87 0 rfl rfl ?_
    refine wp_cvy (q := 91) (sp_mslips (d := 0) (hd := 0) h.1 hc (by decide) hm rfl) zm_X12_slips zl_RX12_439 dX12_cracker_88 rfl (by omega) (Nat.le_of_ble_eq_true rfl) zsh_177 rfl rfl ?_
    rintro _ M2 L2 _ ⟨rfl, rfl, hto⟩
    exact wp_ireturn dX12_cracker_91 rfl ⟨rfl, ⟨rfl, rfl, zMo_o h hto, zYf_o hto⟩⟩ rfl rfl
  · skip
    refine wp_tsIn (tgt := 92) (off := 67) dX12_cracker_25 (by decide) (by decide) (by rfl) (by decide) ?_
    refine wp_aload_n (q := 93) dX12_cracker_92 1 rfl rfl ?_
    refine wp_iload_n (q := 94) dX12_cracker_93 0 rfl rfl ?_
    refine wp_iconst (q := 95) dX12_cracker_94 zq_iconst_1 rfl ?_
    refine wp_iload_n (q := 96) dX12_cracker_95 2 rfl rfl ?_
    refine wp_cvy (q := 99) (sp_mslips (d := 0) (hd := 1) h.1 hm (by decide) hc rfl) zm_X12_slips zl_RX12_439 dX12_cracker_96 rfl (by omega) (Nat.le_of_ble_eq_true rfl) zsh_177 rfl rfl ?_
    rintro _ M2 L2 _ ⟨rfl, rfl, hto⟩
    exact wp_ireturn dX12_cracker_99 rfl ⟨rfl, ⟨rfl, rfl, zMo_o h hto, zYf_o hto⟩⟩ rfl rfl
  · skip
    refine wp_tsIn (tgt := 100) (off := 75) dX12_cracker_25 (by decide) (by decide) (by rfl) (by decide) ?_
    refine wp_aload_n (q := 101) dX12_cracker_100 1 rfl rfl ?_
    refine wp_iload_n (q := 102) dX12_cracker_101 2 rfl rfl ?_
    refine wp_iload_n (q := 103) dX12_cracker_102 3 rfl rfl ?_
    refine wp_iconst (q := 104) dX12_cracker_103 zq_iconst_4 rfl ?_
    refine wp_isubN (q := 105) dX12_cracker_104 (by omega) rfl ?_
    refine wp_cvy (q := 108) (sp_moddsAt (d := 0) (hd := 0) h.1 hc (by decide) rfl) zm_X12_oddsAt zl_RX12_448 dX12_cracker_105 rfl (by omega) (Nat.le_of_ble_eq_true rfl) zsh_177 rfl rfl ?_
    rintro _ M2 L2 _ ⟨rfl, rfl, hto⟩
    exact wp_ireturn dX12_cracker_108 rfl ⟨rfl, ⟨rfl, rfl, zMo_o h hto, zYf_o hto⟩⟩ rfl rfl
  · skip
    refine wp_tsIn (tgt := 100) (off := 75) dX12_cracker_25 (by decide) (by decide) (by rfl) (by decide) ?_
    refine wp_aload_n (q := 101) dX12_cracker_100 1 rfl rfl ?_
    refine wp_iload_n (q := 102) dX12_cracker_101 2 rfl rfl ?_
    refine wp_iload_n (q := 103) dX12_cracker_102 3 rfl rfl ?_
    refine wp_iconst (q := 104) dX12_cracker_103 zq_iconst_4 rfl ?_
    refine wp_isubN (q := 105) dX12_cracker_104 (by omega) rfl ?_
    refine wp_cvy (q := 108) (sp_moddsAt (d := 0) (hd := 1) h.1 hc (by decide) rfl) zm_X12_oddsAt zl_RX12_448 dX12_cracker_105 rfl (by omega) (Nat.le_of_ble_eq_true rfl) zsh_177 rfl rfl ?_
    rintro _ M2 L2 _ ⟨rfl, rfl, hto⟩
    exact wp_ireturn dX12_cracker_108 rfl ⟨rfl, ⟨rfl, rfl, zMo_o h hto, zYf_o hto⟩⟩ rfl rfl
  · skip
    refine wp_tsIn (tgt := 109) (off := 84) dX12_cracker_25 (by decide) (by decide) (by rfl) (by decide) ?_
    refine wp_aload_n (q := 110) dX12_cracker_109 1 rfl rfl ?_
    refine wp_iload_n (q := 111) dX12_cracker_110 2 rfl rfl ?_
    refine wp_cvy (q := 114) (sp_mnobodyAt (d := 0) h.1 hc rfl) zm_X12_nobodyAt zl_RX12_480 dX12_cracker_111 rfl (by omega) (Nat.le_of_ble_eq_true rfl) zsh_177 rfl rfl ?_
    rintro _ M2 L2 _ ⟨rfl, rfl, hto⟩
    exact wp_ireturn dX12_cracker_114 rfl ⟨rfl, ⟨rfl, rfl, zMo_o h hto, zYf_o hto⟩⟩ rfl rfl
set_option maxHeartbeats 4000000 in
set_option maxRecDepth 100000 in
theorem sp_mcrackerN {d t n : Nat} {x y : Int32} {M : zMI} {L : zML} {g : zGd} {v : Nat → Nat} {hs : List (Nat → Nat)} {m : zMs} (h : zMo M L n g v hs m) (hN : ¬ (2 ≤ n ∧ zin x n ∧ zin y 7)) : Sy yX12_cracker YX12_cracker (d + 7) [.ref 177, .int x, .int y] M L (zRf t) (zMn M L t n g v hs m (.int (-1))) := by
  refine Sp.of (by decide +kernel) rfl (fun h => by first | exact h | cases h) (Nat.le_of_ble_eq_true rfl) ?_
  intro w G
  have hn := h.1.1
  have h8 := h.1.2.1.1.1
  refine wp_iload_n (q := 1) dX12_cracker_0 1 rfl rfl ?_
  refine wp_i2l (q := 2) dX12_cracker_1 rfl ?_
  refine wp_lconst (q := 3) dX12_cracker_2 zq_lconst_0 rfl ?_
  refine wp_aload_n (q := 4) dX12_cracker_3 0 rfl rfl ?_
  refine wp_cvx (q := 7) (sp_mcm (d := 0) hn h8) zm_X12_crackerMany zl_RX12_463 dX12_cracker_4 rfl (by omega) (Nat.le_of_ble_eq_true rfl) zsh_177 rfl rfl ?_
  refine wp_iconst (q := 8) dX12_cracker_7 zq_iconst_1 rfl ?_
  refine wp_isub (q := 9) dX12_cracker_8 rfl ?_
  refine wp_i2l (q := 10) dX12_cracker_9 rfl ?_
  refine wp_csx (q := 13) (sp_isIn (d := 0)) zm_X12_isIn zl_RX12_276 dX12_cracker_10 rfl (by omega) (Nat.le_of_ble_eq_true rfl) rfl ?_
  by_cases c : zin x (if n < 2 then 0 else n)
  · rw [if_pos ((zis0 (by split <;> omega)).mpr c)]
    have h2 : 2 ≤ n := by
      refine Classical.byContradiction fun e => ?_
      rw [if_pos (by omega)] at c
      exact Int32.not_le.mpr c.2 c.1
    rw [if_neg (by omega)] at c
    obtain ⟨k, hk, rfl⟩ := zin_n (by omega) c
    have ht := zin_t (by decide) (fun c2 => hN ⟨h2, c, c2⟩)
    refine wp_if_neN (tgt := 18) (q := 16) dX12_cracker_13 (by decide) rfl (by omega) (fun _ => ?_) (fun hn => absurd hn (by first | omega | exact fun h => h | exact fun h => h trivial))
    refine wp_aload_n (q := 19) dX12_cracker_18 0 rfl rfl ?_
    refine wp_iload_n (q := 20) dX12_cracker_19 1 rfl rfl ?_
    refine wp_cvx (q := 23) (sp_mahead (d := 0) hn h8 hk) zm_X12_ahead zl_RX12_442 dX12_cracker_20 rfl (by omega) (Nat.le_of_ble_eq_true rfl) zsh_177 rfl rfl ?_
    refine wp_istore_n (q := 24) (loc' := [(3, _), (0, _), (1, _), (2, _)]) dX12_cracker_23 rfl (by decide) rfl rfl ?_
    refine wp_iload_n (q := 25) dX12_cracker_24 3 rfl rfl ?_
    refine wp_tsOut (tgt := 115) dX12_cracker_25 (by omega) (by decide) ?_
    refine wp_iconst (q := 116) dX12_cracker_115 zq_iconst_m1 rfl ?_
    exact wp_ireturn dX12_cracker_116 rfl ⟨rfl, ⟨rfl, rfl, h, zYf_r⟩⟩ rfl rfl
  · rw [if_neg (fun e => c ((zis0 (by split <;> omega)).mp e))]
    refine wp_if_neN (tgt := 18) (q := 16) dX12_cracker_13 (by decide) rfl (by omega) (fun hn => absurd hn (by first | omega | exact fun h => h | exact fun h => h trivial)) (fun _ => ?_)
    refine wp_iconst (q := 17) dX12_cracker_16 zq_iconst_m1 rfl ?_
    exact wp_ireturn dX12_cracker_17 rfl ⟨rfl, ⟨rfl, rfl, h, zYf_r⟩⟩ rfl rfl

