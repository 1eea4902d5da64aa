def znv (T : zDD) (i : Nat) : Nat := if T i 0 = 2 ∧ T i 3 ≤ 4 then T i 2 else 0
def zNuP (M0 M : zMI) (b : Nat → Nat) (len : Nat) (T : zDD) (c i m : Nat) : Prop := zPf M0 M ∧ (T i 0 = 2 → T i 3 ≤ 4 → T i 2 ≤ m → zAt M b len T c (i + 1) ∧ M 177 6 = M0 177 6) ∧ (T i 0 = 2 → T i 3 ≤ 4 → ¬ T i 2 ≤ m → zBd M 2 (nI (T i 1))) ∧ (T i 0 = 2 → ¬ T i 3 ≤ 4 → zBd M 1 (nI (T i 1 + 4))) ∧ (T i 0 ≠ 2 → zBd M 1 (nI (T i 1)))
theorem zPf_5 {M M' : zMI} {k : Nat} {y : Int32} (h : zPf M M') : zPf M (zu (zu M' 177 5 (nI k)) 177 6 y) := ⟨fun x hx => by rw [zu_ne hx, zu_ne hx]; exact h.1 x hx, fun k k1 k2 k3 k4 k5 => by rw [zu_k k4, zu_k k3]; exact h.2 k k1 k2 k3 k4 k5⟩
theorem zBd_5 {M : zMI} {k : Nat} {y : Int32} : zBd (zu (zu M 177 5 (nI k)) 177 6 y) k y := ⟨by rw [zu_k (by decide), zu_s], zu_s⟩
set_option maxHeartbeats 4000000 in
set_option maxRecDepth 100000 in
theorem sp_mnumber {d t len c i ms : Nat} {M : zMI} {L : zML} {b : Nat → Nat} {T : zDD} (h : zAt M b len T c i) (hT : zTok b len T c) (hms : ms ≤ 9999) : Sy yX12_number YX12_number (d + 1) [.ref 177, .int (nI 0), .int (nI ms)] M L (zRf t) (fun v0 M' L' R' => v0 = some (.int (nI (znv T i))) ∧ L = L' ∧ R' = zRf t ∧ zNuP M M' b len T c i ms) := by
  refine Sp.of (by decide +kernel) rfl (fun h => by first | exact h | cases h) (Nat.le_of_ble_eq_true rfl) ?_
  intro w G
  have h0 := h.2.1
  have hi := h.2.2.1
  have hlen := zTok_len hT hi
  obtain ⟨hl3, hl16, hb⟩ := h.1
  obtain ⟨s, hs⟩ : ∃ s, T i 1 = s := ⟨_, rfl⟩
  have no : ∀ (M2 : zMI), T i 0 ≠ 2 → zPf M M2 → M2 177 5 = nI 0 → M2 177 2 = nI s → WP w YX12_number (d + 1, SS, 0, 0) G (some (zXp (fun v0 M' L' R' => v0 = some (.int (nI (znv T i))) ∧ L = L' ∧ R' = zRf t ∧ zNuP M M' b len T c i ms))) 30 [(0, .ref 177), (1, .int (nI 0)), (2, .int (nI ms))] [] SS M2 L (zRf t) := by
    intro M2 hx hp g5 g2
    have hz : znv T i = 0 := by unfold znv; rw [if_neg (fun e => hx e.1)]
    refine wp_aload_n (q := 31) dX12_number_30 0 rfl rfl ?_
    refine wp_iconst (q := 32) dX12_number_31 zq_iconst_1 rfl ?_
    refine wp_aload_n (q := 33) dX12_number_32 0 rfl rfl ?_
    refine wp_getI (q := 36) dX12_number_33 zf_RX12_242 rfl zsh_177 rfl ?_
    rw [g2]
    refine wp_cvx (q := 39) (sp_mfail (d := 0) g5) zm_X12_fail zl_RX12_266 dX12_number_36 rfl (by omega) (Nat.le_of_ble_eq_true rfl) zsh_177 rfl rfl ?_
    refine wp_iconst (q := 40) dX12_number_39 zq_iconst_0 rfl ?_
    exact wp_ireturn dX12_number_40 rfl ⟨rfl, ⟨by rw [hz], rfl, rfl, zPf_5 hp, fun e => absurd e hx, fun e => absurd e hx, fun e => absurd e hx, fun _ => by rw [hs]; exact zBd_5⟩⟩ rfl rfl
  refine wp_aload_n (q := 1) dX12_number_0 0 rfl rfl ?_
  refine wp_getI (q := 4) dX12_number_1 zf_RX12_236 rfl zsh_177 rfl ?_
  rw [h0]
  refine wp_if_eqN (tgt := 9) (q := 7) dX12_number_4 (by decide) rfl (by omega) (fun _ => ?_) (fun hn => absurd hn (by first | omega | exact fun h => h | exact fun h => h trivial))
  refine wp_aload_n (q := 10) dX12_number_9 0 rfl rfl ?_
  refine wp_cvy (q := 13) (sp_mLook (d := 0) h hT) zm_X12_look zl_RX12_248 dX12_number_10 rfl (by omega) (Nat.le_of_ble_eq_true rfl) zsh_177 rfl rfl ?_
  rintro _ M2 L2 _ ⟨rfl, rfl, rfl, q1, q2, q3, q4⟩
  have hp : zPf M M2 := ⟨q4, fun k k1 _ _ _ _ => q3 k k1⟩
  have hdg := zlkv_d (b := b) (len := len) (s := T i 1) (fun c => (hb _ c).2)
  by_cases cd : T i 1 < len ∧ zcl (b (T i 1)) = 2
  · skip
    have ec := hlen.2.mp cd.1
    have hk := hT.2.2.1 i ec
    obtain ⟨-, k2, k3⟩ := zTk_01 hk
    have hkk := hk
    obtain ⟨a1, a2, a3, a4, a5, a6, a7, a8⟩ := hk
    have hEd := k3 (by omega)
    have h4 := zEn_4 hT hl16 ec h.2.2.2.2 (by omega)
    refine wp_csx (q := 16) (sp_misDigit (d := 0) (o := true) ⟨fun _ => rfl, fun _ => hdg.mpr cd⟩) zm_X12_isDigit zl_RX12_273 dX12_number_13 rfl (by omega) (Nat.le_of_ble_eq_true rfl) rfl ?_
    rw [zb01_t]
    refine wp_if_eqN (tgt := 30) (q := 19) dX12_number_16 (by decide) rfl (by omega) (fun hn => absurd hn (by first | omega | exact fun h => h | exact fun h => h trivial)) (fun _ => ?_)
    refine wp_aload_n (q := 20) dX12_number_19 0 rfl rfl ?_
    refine wp_getI (q := 23) dX12_number_20 zf_RX12_242 rfl zsh_177 rfl ?_
    rw [q2]
    refine wp_aload_n (q := 24) dX12_number_23 0 rfl rfl ?_
    refine wp_getI (q := 27) dX12_number_24 zf_RX12_256 rfl zsh_177 rfl ?_
    rw [q3 4 (by decide)]
    refine wp_icmp_ne (tgt := 41) (q := 30) dX12_number_27 (by decide) rfl (fun k => ?_) (fun k => ?_)
    · skip
      have h04 : T i 0 ≠ 4 := fun e => k (h4.mpr e).symm
      have h02 : T i 0 = 2 := k2.mpr ⟨cd.2, h04⟩
      obtain ⟨r, hr⟩ : ∃ r, T i 3 = r := ⟨_, rfl⟩
      rw [hs, hr] at hEd
      rw [hEd] at a1 a2 a4 a6
      rw [hs] at a1 a4 a6
      have hnext := (a6 (by rw [← hs]; omega)).2.2.2
      have hdig : ∀ k, k < r → zcl (b (s + k)) = 2 := fun k hk => by rw [a4 (s + k) (by omega) (by omega), ← hs]; exact cd.2
      have hv9 : ∀ k, k ≤ 4 → k ≤ r → zeN (zby b s k) < 10000 := fun k hk4 hkr => by
        have := zeN_lt k b s (fun j hj => (zcl_2 (hdig j (by omega))).2)
        exact Nat.lt_of_lt_of_le this (Nat.pow_le_pow_right (by decide) hk4)
      have a8' := a8 cd.2
      rw [hr, hs] at a8'
      have loop : ∀ q k (M3 : zMI), k + q = r → k ≤ 4 → zPf M M3 → M3 177 5 = nI 0 → M3 177 6 = M 177 6 → M3 177 2 = nI (s + k) → M3 177 3 = nI len → (∀ j, j < len → M3 178 j = nI (b j)) → WP w YX12_number (d + 1, SS, 0, 0) G (some (zXp (fun v0 M' L' R' => v0 = some (.int (nI (znv T i))) ∧ L = L' ∧ R' = zRf t ∧ zNuP M M' b len T c i ms))) 49 [(4, .int (nI (zeN (zby b s k)))), (3, .int (nI s)), (0, .ref 177), (1, .int (nI 0)), (2, .int (nI ms))] [] SS M3 L (zRf t) := by
        intro q
        induction q with
        | zero =>
          intro k M3 hkq hk4 gp g5 g6 g2 g3 gt
          rw [show k = r by omega] at g2 hk4 ⊢
          have v9 := hv9 r hk4 (Nat.le_refl _)
          rw [Nat.min_eq_left hk4] at a8'
          have hz : znv T i = zeN (zby b s r) := by unfold znv; rw [if_pos ⟨h02, by omega⟩, a8']
          have at129 : WP w YX12_number (d + 1, SS, 0, 0) G (some (zXp (fun v0 M' L' R' => v0 = some (.int (nI (znv T i))) ∧ L = L' ∧ R' = zRf t ∧ zNuP M M' b len T c i ms))) 129 [(4, .int (nI (zeN (zby b s r)))), (3, .int (nI s)), (0, .ref 177), (1, .int (nI 0)), (2, .int (nI ms))] [] SS M3 L (zRf t) := by
            refine wp_aload_n (q := 130) dX12_number_129 2 rfl rfl ?_
            refine wp_aload_n (q := 131) dX12_number_130 2 rfl rfl ?_
            refine wp_getI (q := 134) dX12_number_131 zf_RX12_242 rfl zsh_177 rfl ?_
            rw [g2]
            refine wp_putI (q := 137) dX12_number_134 zf_RX12_256 rfl zsh_177 rfl ?_
            refine wp_iload (q := 139) dX12_number_137 0 rfl rfl ?_
            refine wp_i2lN (q := 140) dX12_number_139 (by omega) rfl ?_
            refine wp_iload_n (q := 141) dX12_number_140 3 rfl rfl ?_
            refine wp_i2lN (q := 142) dX12_number_141 (by omega) rfl ?_
            refine wp_iload_n (q := 143) dX12_number_142 4 rfl rfl ?_
            refine wp_i2lN (q := 144) dX12_number_143 (by omega) rfl ?_
            have gp4 : zPf M (zu M3 177 4 (nI (s + r))) := ⟨fun x hx => by rw [zu_ne hx]; exact gp.1 x hx, fun k k1 k2 k3 k4 k5 => by rw [zu_k k2]; exact gp.2 k k1 k2 k3 k4 k5⟩
            refine wp_csx (q := 147) (sp_isIn (d := 0)) zm_X12_isIn zl_RX12_276 dX12_number_144 rfl (by omega) (Nat.le_of_ble_eq_true rfl) rfl ?_
            by_cases cm : zeN (zby b s r) ≤ ms
            · rw [if_pos ⟨(zlN_le (by omega) (by omega)).mpr (Nat.zero_le _), (zlN_le (by omega) (by omega)).mpr cm⟩]
              refine wp_if_neN (tgt := 156) (q := 150) dX12_number_147 (by decide) rfl (by omega) (fun _ => ?_) (fun hn => absurd hn (by first | omega | exact fun h => h | exact fun h => h trivial))
              refine wp_iload (q := 158) dX12_number_156 0 rfl rfl ?_
              exact wp_ireturn dX12_number_158 rfl ⟨rfl, ⟨by rw [hz], rfl, rfl, gp4, fun _ _ _ => ⟨zAt_s h hT ec gp4 (by rw [zu_k (by decide)]; exact g5) (by rw [zu_k (by decide), g2]; unfold zEd; rw [if_neg (by omega), hs, hr]) (by rw [zu_s]; have := zEn_w (T := T) (i := i) (by omega); unfold zEd at this; rw [if_neg (by omega), hs, hr] at this; exact this), by rw [zu_k (by decide)]; exact g6⟩, fun _ _ e => absurd (by rw [a8']; exact cm) e, fun _ e => absurd (by omega) e, fun e => absurd h02 e⟩⟩ rfl rfl
            · rw [if_neg (fun e => cm ((zlN_le (by omega) (by omega)).mp e.2))]
              refine wp_if_neN (tgt := 156) (q := 150) dX12_number_147 (by decide) rfl (by omega) (fun hn => absurd hn (by first | omega | exact fun h => h | exact fun h => h trivial)) (fun _ => ?_)
              refine wp_aload_n (q := 151) dX12_number_150 2 rfl rfl ?_
              refine wp_iconst (q := 152) dX12_number_151 zq_iconst_2 rfl ?_
              refine wp_iload_n (q := 153) dX12_number_152 1 rfl rfl ?_
              refine wp_cvx (q := 156) (sp_mfail (d := 0) (show zu M3 177 4 (nI (s + r)) 177 5 = nI 0 by rw [zu_k (by decide)]; exact g5)) zm_X12_fail zl_RX12_266 dX12_number_153 rfl (by omega) (Nat.le_of_ble_eq_true rfl) zsh_177 rfl rfl ?_
              refine wp_iload (q := 158) dX12_number_156 0 rfl rfl ?_
              exact wp_ireturn dX12_number_158 rfl ⟨rfl, ⟨by rw [hz], rfl, rfl, zPf_5 gp4, fun _ _ e => absurd (by rw [← a8']; exact e) cm, fun _ _ _ => by rw [hs]; exact zBd_5, fun _ e => absurd (by omega) e, fun e => absurd h02 e⟩⟩ rfl rfl
          refine wp_aload_n (q := 50) dX12_number_49 2 rfl rfl ?_
          refine wp_getI (q := 53) dX12_number_50 zf_RX12_242 rfl zsh_177 rfl ?_
          rw [g2]
          refine wp_aload_n (q := 54) dX12_number_53 2 rfl rfl ?_
          refine wp_getI (q := 57) dX12_number_54 zf_RX12_245 rfl zsh_177 rfl ?_
          rw [g3]
          refine wp_icmp_geN (tgt := 129) (q := 60) dX12_number_57 (by decide) rfl (by omega) (by omega) (fun c => ?_) (fun c => ?_)
          · skip
            refine WP.sub (loc' := [(4, _), (3, _), (0, _), (1, _), (2, _)]) [0, 1, 2, 3, 4] rfl ?_
            exact at129
          · skip
            have hn := hnext c
            refine wp_aload_n (q := 61) dX12_number_60 2 rfl rfl ?_
            refine wp_getR (q := 64) dX12_number_61 zf_RX12_7 rfl zsh_177 (zr_177_0 _) rfl ?_
            refine wp_aload_n (q := 65) dX12_number_64 2 rfl rfl ?_
            refine wp_getI (q := 68) dX12_number_65 zf_RX12_242 rfl zsh_177 rfl ?_
            rw [g2]
            refine wp_iald (q := 69) _ dX12_number_68 zsh_178 rfl (by omega) (by decide) rfl ?_
            rw [gt _ c]
            refine wp_csx (q := 72) (sp_misDigit (d := 0) (o := false) ⟨fun x => absurd ((zlt_2 (hb _ c).2).mp x) (fun e => hn (by rw [e, ← hs]; exact cd.2.symm)), fun x => by cases x⟩) zm_X12_isDigit zl_RX12_273 dX12_number_69 rfl (by omega) (Nat.le_of_ble_eq_true rfl) rfl ?_
            rw [zb01_f]
            refine wp_if_eqN (tgt := 129) (q := 75) dX12_number_72 (by decide) rfl (by omega) (fun _ => ?_) (fun hn => absurd hn (by first | omega | exact fun h => h | exact fun h => h trivial))
            refine WP.sub (loc' := [(4, _), (3, _), (0, _), (1, _), (2, _)]) [0, 1, 2, 3, 4] rfl ?_
            exact at129
        | succ q ih =>
          intro k M3 hkq hk4 gp g5 g6 g2 g3 gt
          have hd := hdig k (by omega)
          have hd2 := zcl_2 hd
          have v9 := hv9 k hk4 (by omega)
          refine wp_aload_n (q := 50) dX12_number_49 2 rfl rfl ?_
          refine wp_getI (q := 53) dX12_number_50 zf_RX12_242 rfl zsh_177 rfl ?_
          rw [g2]
          refine wp_aload_n (q := 54) dX12_number_53 2 rfl rfl ?_
          refine wp_getI (q := 57) dX12_number_54 zf_RX12_245 rfl zsh_177 rfl ?_
          rw [g3]
          refine wp_icmp_geN (tgt := 129) (q := 60) dX12_number_57 (by decide) rfl (by omega) (by omega) (fun hn => absurd hn (by first | omega | exact fun h => h | exact fun h => h trivial)) (fun _ => ?_)
          refine wp_aload_n (q := 61) dX12_number_60 2 rfl rfl ?_
          refine wp_getR (q := 64) dX12_number_61 zf_RX12_7 rfl zsh_177 (zr_177_0 _) rfl ?_
          refine wp_aload_n (q := 65) dX12_number_64 2 rfl rfl ?_
          refine wp_getI (q := 68) dX12_number_65 zf_RX12_242 rfl zsh_177 rfl ?_
          rw [g2]
          refine wp_iald (q := 69) _ dX12_number_68 zsh_178 rfl (by omega) (by decide) rfl ?_
          rw [gt _ (by omega)]
          refine wp_csx (q := 72) (sp_misDigit (d := 0) (o := true) ⟨fun _ => rfl, fun _ => (zlt_2 (hb _ (by omega)).2).mpr hd⟩) zm_X12_isDigit zl_RX12_273 dX12_number_69 rfl (by omega) (Nat.le_of_ble_eq_true rfl) rfl ?_
          rw [zb01_t]
          refine wp_if_eqN (tgt := 129) (q := 75) dX12_number_72 (by decide) rfl (by omega) (fun hn => absurd hn (by first | omega | exact fun h => h | exact fun h => h trivial)) (fun _ => ?_)
          refine wp_aload_n (q := 76) dX12_number_75 2 rfl rfl ?_
          refine wp_getI (q := 79) dX12_number_76 zf_RX12_242 rfl zsh_177 rfl ?_
          rw [g2]
          refine wp_iload_n (q := 80) dX12_number_79 1 rfl rfl ?_
          refine wp_isubN (q := 81) dX12_number_80 (by omega) rfl ?_
          rw [show s + k - s = k by omega]
          refine wp_iconst (q := 82) dX12_number_81 zq_iconst_4 rfl ?_
          refine wp_icmp_neN (tgt := 96) (q := 85) dX12_number_82 (by decide) rfl (by omega) (by omega) (fun c4 => ?_) (fun c4 => ?_)
          · skip
            refine wp_bipush (q := 98) dX12_number_96 zq_bipush_10 rfl ?_
            refine wp_iload (q := 100) dX12_number_98 0 rfl rfl ?_
            refine wp_imulN (q := 101) dX12_number_100 rfl ?_
            refine wp_aload_n (q := 102) dX12_number_101 2 rfl rfl ?_
            refine wp_getR (q := 105) dX12_number_102 zf_RX12_7 rfl zsh_177 (zr_177_0 _) rfl ?_
            refine wp_aload_n (q := 106) dX12_number_105 2 rfl rfl ?_
            refine wp_getI (q := 109) dX12_number_106 zf_RX12_242 rfl zsh_177 rfl ?_
            rw [g2]
            refine wp_iald (q := 110) _ dX12_number_109 zsh_178 rfl (by omega) (by decide) rfl ?_
            rw [gt _ (by omega)]
            refine wp_iaddN (q := 111) dX12_number_110 rfl ?_
            refine wp_bipush (q := 113) dX12_number_111 zq_bipush_48 rfl ?_
            refine wp_isubN (q := 114) dX12_number_113 (by omega) rfl ?_
            rw [show 10 * zeN (zby b s k) + b (s + k) - 48 = zeN (zby b s (k + 1)) from by rw [zby_succ, zeN_app]; omega]
            refine wp_istore (q := 116) (loc' := [(4, _), (3, _), (0, _), (1, _), (2, _)]) dX12_number_114 (by decide) rfl rfl ?_
            refine wp_aload_n (q := 117) dX12_number_116 2 rfl rfl ?_
            refine wp_dup (q := 118) dX12_number_117 rfl rfl ?_
            refine wp_getI (q := 121) dX12_number_118 zf_RX12_242 rfl zsh_177 rfl ?_
            rw [g2]
            refine wp_iconst (q := 122) dX12_number_121 zq_iconst_1 rfl ?_
            refine wp_iaddN (q := 123) dX12_number_122 rfl ?_
            refine wp_putI (q := 126) dX12_number_123 zf_RX12_242 rfl zsh_177 rfl ?_
            refine wp_goto (tgt := 49) dX12_number_126 (by decide) ?_
            refine WP.sub (loc' := [(4, _), (3, _), (0, _), (1, _), (2, _)]) [0, 1, 2, 3, 4] rfl ?_
            exact ih (k + 1) _ (by omega) (by omega) ⟨fun x hx => by rw [zu_ne hx]; exact gp.1 x hx, fun k k1 k2 k3 k4 k5 => by rw [zu_k k1]; exact gp.2 k k1 k2 k3 k4 k5⟩ (by rw [zu_k (by decide)]; exact g5) (by rw [zu_k (by decide)]; exact g6) zu_s (by rw [zu_k (by decide)]; exact g3) (fun j hj => by rw [zu_ne (by decide)]; exact gt j hj)
          · skip
            have hz : znv T i = 0 := by unfold znv; rw [if_neg (fun e => by omega)]
            refine wp_aload_n (q := 86) dX12_number_85 2 rfl rfl ?_
            refine wp_iconst (q := 87) dX12_number_86 zq_iconst_1 rfl ?_
            refine wp_aload_n (q := 88) dX12_number_87 2 rfl rfl ?_
            refine wp_getI (q := 91) dX12_number_88 zf_RX12_242 rfl zsh_177 rfl ?_
            rw [g2, c4]
            refine wp_cvx (q := 94) (sp_mfail (d := 0) g5) zm_X12_fail zl_RX12_266 dX12_number_91 rfl (by omega) (Nat.le_of_ble_eq_true rfl) zsh_177 rfl rfl ?_
            refine wp_iconst (q := 95) dX12_number_94 zq_iconst_0 rfl ?_
            exact wp_ireturn dX12_number_95 rfl ⟨rfl, ⟨by rw [hz], rfl, rfl, zPf_5 gp, fun _ e => absurd e (by omega), fun _ e => absurd e (by omega), fun _ _ => by rw [hs]; exact zBd_5, fun e => absurd h02 e⟩⟩ rfl rfl
      refine wp_aload_n (q := 42) dX12_number_41 0 rfl rfl ?_
      refine wp_getI (q := 45) dX12_number_42 zf_RX12_242 rfl zsh_177 rfl ?_
      rw [q2, hs]
      refine wp_istore_n (q := 46) (loc' := [(3, _), (0, _), (1, _), (2, _)]) dX12_number_45 rfl (by decide) rfl rfl ?_
      refine wp_iconst (q := 47) dX12_number_46 zq_iconst_0 rfl ?_
      refine wp_istore (q := 49) (loc' := [(4, _), (3, _), (0, _), (1, _), (2, _)]) dX12_number_47 (by decide) rfl rfl ?_
      refine WP.sub (loc' := [(4, _), (3, _), (0, _), (1, _), (2, _)]) [0, 1, 2, 3, 4] rfl ?_
      exact loop r 0 M2 (Nat.zero_add _) (by omega) hp q1.2.1 (q3 6 (by decide)) (by rw [q2, hs]; rfl) (by rw [q3 3 (by decide)]; exact hl3) (fun j hj => by rw [q4 178 (by decide)]; exact (hb j hj).1)
    · skip
      refine WP.sub (loc' := [(0, _), (1, _), (2, _)]) [0, 1, 2] rfl ?_
      exact no M2 (fun e => by have := h4.mp k.symm; omega) hp q1.2.1 (by rw [q2, hs])
  · skip
    refine wp_csx (q := 16) (sp_misDigit (d := 0) (o := false) ⟨fun x => absurd (hdg.mp x) cd, fun x => by cases x⟩) zm_X12_isDigit zl_RX12_273 dX12_number_13 rfl (by omega) (Nat.le_of_ble_eq_true rfl) rfl ?_
    rw [zb01_f]
    refine wp_if_eqN (tgt := 30) (q := 19) dX12_number_16 (by decide) rfl (by omega) (fun _ => ?_) (fun hn => absurd hn (by first | omega | exact fun h => h | exact fun h => h trivial))
    refine WP.sub (loc' := [(0, _), (1, _), (2, _)]) [0, 1, 2] rfl ?_
    refine no M2 (fun e => ?_) hp q1.2.1 (by rw [q2, hs])
    by_cases ec : i + 1 < c
    · exact cd ⟨hlen.2.mpr ec, ((zTk_01 (hT.2.2.1 i ec)).2.1.mp e).1⟩
    · have := hT.2.2.2.1
      rw [show c - 1 = i by omega, e] at this
      omega
set_option maxHeartbeats 4000000 in
set_option maxRecDepth 100000 in
theorem sp_mnumberB {d t bd ms : Nat} {M : zMI} {L : zML} (h : M 177 5 = nI bd) (h0 : bd ≠ 0) (h9 : bd < 10) : Sx yX12_number YX12_number (d + 1) [.ref 177, .int (nI 0), .int (nI ms)] M L (zRf t) (some (.int (nI 0))) M L (zRf t) := by
  refine Sp.of (by decide +kernel) rfl (fun h => by first | exact h | cases h) (Nat.le_of_ble_eq_true rfl) ?_
  intro w G
  refine wp_aload_n (q := 1) dX12_number_0 0 rfl rfl ?_
  refine wp_getI (q := 4) dX12_number_1 zf_RX12_236 rfl zsh_177 rfl ?_
  rw [h]
  refine wp_if_eqN (tgt := 9) (q := 7) dX12_number_4 (by decide) rfl (by omega) (fun hn => absurd hn (by first | omega | exact fun h => h | exact fun h => h trivial)) (fun _ => ?_)
  refine wp_iconst (q := 8) dX12_number_7 zq_iconst_0 rfl ?_
  exact wp_ireturn dX12_number_8 rfl ⟨rfl, rfl, rfl, rfl, rfl⟩ rfl rfl

