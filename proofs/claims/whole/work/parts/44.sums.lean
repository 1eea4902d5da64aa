theorem zfP_le (y : Nat) : zfP y ≤ 99 := by
  unfold zfP
  repeat' split
  all_goals decide
theorem zfH_le (y : Nat) : zfH y ≤ 99 := by
  unfold zfH
  repeat' split
  all_goals decide
theorem zpNu_le (T : Nat → Nat → Nat) (c : Nat) (p : zP) (m : Nat) : (zpNu T c p m).2 ≤ m := by
  unfold zpNu
  split
  · split
    · split
      · assumption
      · exact Nat.zero_le _
    · exact Nat.zero_le _
  · exact Nat.zero_le _
set_option maxHeartbeats 4000000 in
set_option maxRecDepth 100000 in
theorem sp_part1 {d dd t c f k : Nat} {b : Bool} {M : zMI} {L : zML} {T : Nat → Nat → Nat} {p : zP} {F : zFl} (hdd : dd + 2 ≤ d) (hd1 : 2 ≤ dd) (hE : zTE T c) (hf : zFo f) (hsu : ∀ (M : zMI) (p : zP) (F : zFl), zSM M T c b f (p, F) → zok T c k p → Sy yX8_sum YX8_sum dd [.ref 9, .ref f] M L (zRf t) (zSP M L T c b f t (zsu T c (zpt T c b k) p F))) (hpt : ∀ (M : zMI) (p : zP) (F : zFl), zSM M T c b f (p, F) → zok T c k p → Sy yX8_part YX8_part dd [.ref 9, .ref f] M L (zRf t) (zSP M L T c b f t (zpt T c b k p F))) (h : zSM M T c b f (p, F)) (hQ : zok T c (k + 1) p) {r : zPF} (hr0 : zpt T c b (k + 1) p F = r) : Sy yX8_part YX8_part (d) [.ref 9, .ref f] M L (zRf t) (fun v0 M' L' R' => zSP M L T c b f t r v0 M' L' R') := by
  refine Sp.of (by decide +kernel) rfl (fun h => by first | exact h | cases h) (Nat.le_of_ble_eq_true rfl) ?_
  intro w G
  obtain ⟨sf1, -, -⟩ := zFo_s hf
  have h01 : ∀ z, z < 30 → (nI z : Int32) ≠ -1 := by decide +kernel
  have hzb : (if b then zfP (T p.1 4) else zfH (T p.1 4)) ≤ 99 := by
    split
    · exact zfP_le _
    · exact zfH_le _
  have hr := hr0
  rw [zpt] at hr
  refine wp_aload_n (q := 1) dX8_part_0 0 rfl rfl ?_
  refine wp_aload_n (q := 2) dX8_part_1 0 rfl rfl ?_
  refine wp_getR (q := 5) dX8_part_2 zf_RX8_15 rfl zsh_9 (zr_9_0 _) rfl ?_
  refine wp_cvx (q := 8) (sp_word (d := 0) h.1) zm_X10_word zl_RX8_41 dX8_part_5 rfl (by omega) (Nat.le_of_ble_eq_true rfl) zsh_2 rfl rfl ?_
  refine wp_cvx (q := 11) (sp_factOf (d := 0) (b := b) h.2.2) zm_X8_factOf zl_RX8_45 dX8_part_8 rfl (by omega) (Nat.le_of_ble_eq_true rfl) zsh_9 rfl rfl ?_
  obtain ⟨z, hz⟩ : ∃ z, (if b then zfP (T p.1 4) else zfH (T p.1 4)) = z := ⟨_, rfl⟩
  rw [hz] at hr hzb ⊢
  refine wp_istore_n (q := 12) (loc' := [(2, _), (0, _), (1, _)]) dX8_part_11 rfl (by decide) rfl rfl ?_
  refine wp_aload_n (q := 13) dX8_part_12 1 rfl rfl ?_
  refine wp_getR (q := 16) dX8_part_13 zf_RX8_15 rfl zsh_9 (zr_9_0 _) rfl ?_
  refine wp_cvx (q := 19) (sp_atNumber (d := 0) h.1) zm_X10_atNumber zl_RX8_49 dX8_part_16 rfl (by omega) (Nat.le_of_ble_eq_true rfl) zsh_2 rfl rfl ?_
  by_cases c1 : T p.1 0 = 2
  · rw [if_pos c1] at hr
    rw [if_pos c1]
    refine wp_if_eqN (tgt := 40) (q := 22) dX8_part_19 (by decide) rfl (by omega) (fun hn => absurd hn (by omega)) (fun _ => ?_)
    refine wp_aload_n (q := 23) dX8_part_22 2 rfl rfl ?_
    refine wp_iconst (q := 24) dX8_part_23 zq_iconst_0 rfl ?_
    refine wp_aload_n (q := 25) dX8_part_24 1 rfl rfl ?_
    refine wp_getR (q := 28) dX8_part_25 zf_RX8_15 rfl zsh_9 (zr_9_0 _) rfl ?_
    refine wp_sipush (q := 31) dX8_part_28 zq_sipush_9999 rfl ?_
    refine wp_cvy (q := 34) (sp_needNumber (d := 0) (m := 9999) h.1 (by decide)) zm_X10_needNumber zl_RX8_53 dX8_part_31 rfl (by omega) (Nat.le_of_ble_eq_true rfl) zsh_2 rfl rfl ?_
    rintro _ M2 _ _ ⟨rfl, rfl, rfl, h2, hx2⟩
    have h2' := zSM_t hf h h2 hx2
    have ha := zpNu_le T c p 9999
    refine wp_cvy (q := 37) (sp_fad (d := 0) hf h2'.2.1 (by decide : 0 ≤ 14) ha) zm_X0_add zl_RX8_32 dX8_part_34 rfl (by omega) (Nat.le_of_ble_eq_true rfl) (by first | assumption | rfl) rfl rfl ?_
    rintro _ M3 _ _ ⟨rfl, rfl, rfl, h3, hx3⟩
    refine wp_goto (tgt := 189) dX8_part_37 (by decide) ?_
    exact wp_return dX8_part_189 rfl ⟨rfl, ⟨rfl, rfl, rfl, by rw [← hr]; exact zSM_f hf h2' h3 hx3, fun x x1 x2 x3 => by rw [hx3 x x2 x3, hx2 x x1]⟩⟩ rfl rfl
  · rw [if_neg c1] at hr
    rw [if_neg c1]
    refine wp_if_eqN (tgt := 40) (q := 22) dX8_part_19 (by decide) rfl (by omega) (fun _ => ?_) (fun hn => absurd hn (by omega))
    refine wp_iload_n (q := 41) dX8_part_40 0 rfl rfl ?_
    refine wp_iconst (q := 42) dX8_part_41 zq_iconst_m1 rfl ?_
    by_cases c2 : z < 30
    · rw [if_pos c2] at hr
      rw [show zwd z = nI z from if_pos c2]
      refine wp_icmp_eq (tgt := 61) (q := 45) dX8_part_42 (by decide) rfl (fun hn => absurd hn (by exact h01 z c2)) (fun _ => ?_)
      refine wp_aload_n (q := 46) dX8_part_45 1 rfl rfl ?_
      refine wp_getR (q := 49) dX8_part_46 zf_RX8_15 rfl zsh_9 (zr_9_0 _) rfl ?_
      refine wp_cvy (q := 52) (sp_next (d := 0) h.1) zm_X10_next zl_RX8_29 dX8_part_49 rfl (by omega) (Nat.le_of_ble_eq_true rfl) zsh_2 rfl rfl ?_
      rintro _ M2 _ _ ⟨rfl, rfl, rfl, h2, hx2⟩
      have h2' := zSM_t hf h h2 hx2
      refine wp_aload_n (q := 53) dX8_part_52 2 rfl rfl ?_
      refine wp_iconst (q := 54) dX8_part_53 zq_iconst_1 rfl ?_
      refine wp_iload_n (q := 55) dX8_part_54 0 rfl rfl ?_
      refine wp_cvy (q := 58) (sp_fad (d := 0) hf h2'.2.1 (by decide : 1 ≤ 14) (show z ≤ 9999 by omega)) zm_X0_add zl_RX8_32 dX8_part_55 rfl (by omega) (Nat.le_of_ble_eq_true rfl) (by first | assumption | rfl) rfl rfl ?_
      rintro _ M3 _ _ ⟨rfl, rfl, rfl, h3, hx3⟩
      refine wp_goto (tgt := 189) dX8_part_58 (by decide) ?_
      exact wp_return dX8_part_189 rfl ⟨rfl, ⟨rfl, rfl, rfl, by rw [← hr]; exact zSM_f hf h2' h3 hx3, fun x x1 x2 x3 => by rw [hx3 x x2 x3, hx2 x x1]⟩⟩ rfl rfl
    · rw [if_neg c2] at hr
      rw [show zwd z = -1 from if_neg c2]
      refine wp_icmp_eq (tgt := 61) (q := 45) dX8_part_42 (by decide) rfl (fun _ => ?_) (fun hn => absurd hn (by exact fun c => c rfl))
      refine wp_aload_n (q := 62) dX8_part_61 1 rfl rfl ?_
      refine wp_getR (q := 65) dX8_part_62 zf_RX8_15 rfl zsh_9 (zr_9_0 _) rfl ?_
      refine wp_bipush (q := 67) dX8_part_65 zq_bipush_40 rfl ?_
      refine wp_cvx (q := 70) (sp_atSign (d := 0) (s := 40) h.1 (by decide)) zm_X10_atSign zl_RX8_23 dX8_part_67 rfl (by omega) (Nat.le_of_ble_eq_true rfl) zsh_2 rfl rfl ?_
      by_cases c3 : zpS T p 40 = true
      · rw [if_pos c3] at hr
        rw [if_pos c3]
        have hQ2 := zok_e hE hQ (zpS_0 c3)
        refine wp_if_eqN (tgt := 104) (q := 73) dX8_part_70 (by decide) rfl (by omega) (fun hn => absurd hn (by omega)) (fun _ => ?_)
        refine wp_aload_n (q := 74) dX8_part_73 1 rfl rfl ?_
        refine wp_getR (q := 77) dX8_part_74 zf_RX8_15 rfl zsh_9 (zr_9_0 _) rfl ?_
        refine wp_cvy (q := 80) (sp_enter (d := 0) h.1) zm_X10_enter zl_RX8_56 dX8_part_77 rfl (by omega) (Nat.le_of_ble_eq_true rfl) zsh_2 rfl rfl ?_
        rintro _ M3 _ _ ⟨rfl, rfl, rfl, h3, hx3⟩
        refine wp_aload_n (q := 81) dX8_part_80 1 rfl rfl ?_
        refine wp_aload_n (q := 82) dX8_part_81 2 rfl rfl ?_
        refine wp_cvy (q := 85) (hsu M3 _ F (zSM_t hf h h3 hx3) hQ2) zm_X8_sum zl_RX8_59 dX8_part_82 rfl (by omega) (Nat.le_of_ble_eq_true rfl) zsh_9 rfl rfl ?_
        rintro _ M4 _ _ ⟨rfl, rfl, rfl, h4, hx4⟩
        refine wp_aload_n (q := 86) dX8_part_85 1 rfl rfl ?_
        refine wp_getR (q := 89) dX8_part_86 zf_RX8_15 rfl zsh_9 (zr_9_0 _) rfl ?_
        refine wp_bipush (q := 91) dX8_part_89 zq_bipush_41 rfl ?_
        refine wp_cvy (q := 94) (sp_needSign (d := 0) (s := 41) h4.1 (by decide)) zm_X10_needSign zl_RX8_62 dX8_part_91 rfl (by omega) (Nat.le_of_ble_eq_true rfl) zsh_2 rfl rfl ?_
        rintro _ M5 _ _ ⟨rfl, rfl, rfl, h5, hx5⟩
        have h5' := zSM_t hf h4 h5 hx5
        refine wp_aload_n (q := 95) dX8_part_94 1 rfl rfl ?_
        refine wp_getR (q := 98) dX8_part_95 zf_RX8_15 rfl zsh_9 (zr_9_0 _) rfl ?_
        refine wp_cvy (q := 101) (sp_leave (d := 0) h5) zm_X10_leave zl_RX8_66 dX8_part_98 rfl (by omega) (Nat.le_of_ble_eq_true rfl) zsh_2 rfl rfl ?_
        rintro _ M6 _ _ ⟨rfl, rfl, rfl, h6, hx6⟩
        refine wp_goto (tgt := 189) dX8_part_101 (by decide) ?_
        exact wp_return dX8_part_189 rfl ⟨rfl, ⟨rfl, rfl, rfl, by rw [← hr]; exact zSM_t hf h5' h6 hx6, fun x x1 x2 x3 => by rw [hx6 x x1, hx5 x x1, hx4 x x1 x2 x3, hx3 x x1]⟩⟩ rfl rfl
      · rw [if_neg c3] at hr
        rw [if_neg c3]
        refine wp_if_eqN (tgt := 104) (q := 73) dX8_part_70 (by decide) rfl (by omega) (fun _ => ?_) (fun hn => absurd hn (by omega))
        refine wp_aload_n (q := 105) dX8_part_104 1 rfl rfl ?_
        refine wp_getR (q := 108) dX8_part_105 zf_RX8_15 rfl zsh_9 (zr_9_0 _) rfl ?_
        refine wp_bipush (q := 110) dX8_part_108 zq_bipush_22 rfl ?_
        refine wp_cvx (q := 113) (sp_atWord (d := 0) (s := 22) h.1 (by decide)) zm_X10_atWord zl_RX8_69 dX8_part_110 rfl (by omega) (Nat.le_of_ble_eq_true rfl) zsh_2 rfl rfl ?_
        have two : ∀ op, op ≤ 14 → zo2 T c (zsu T c (zpt T c b k)) op p F = r → WP w YX8_part (d, SS, 0, 0) G (some (zXp (fun v0 M' L' R' => zSP M L T c b f t r v0 M' L' R'))) 149 [(2, .int (-1)), (0, .ref 9), (1, .ref f)] [.int (nI op), .ref f, .ref 9] SS M L (zRf t) := by
          intro op hop hr2
          refine wp_cvy (q := 152) (sp_ofTwoS (d := dd + 1) (k := k) (F := F) hop (Nat.le_refl _) (by omega) hE hf hsu h hQ) zm_X8_ofTwo zl_RX8_72 dX8_part_149 rfl (by omega) (Nat.le_of_ble_eq_true rfl) (by first | assumption | rfl) rfl rfl ?_
          rintro _ M4 _ _ ⟨rfl, rfl, rfl, h4, hx4⟩
          refine wp_goto (tgt := 189) dX8_part_152 (by decide) ?_
          exact wp_return dX8_part_189 rfl ⟨rfl, ⟨rfl, rfl, rfl, by rw [← hr2]; exact h4, hx4⟩⟩ rfl rfl
        have rest : ¬ (T p.1 4 = 22 ∨ T p.1 4 = 23) → WP w YX8_part (d, SS, 0, 0) G (some (zXp (fun v0 M' L' R' => zSP M L T c b f t r v0 M' L' R'))) 155 [(2, .int (-1)), (0, .ref 9), (1, .ref f)] [] SS M L (zRf t) := by
          intro c4
          rw [if_neg c4] at hr
          have bad : (zpfh T c p, F) = r → WP w YX8_part (d, SS, 0, 0) G (some (zXp (fun v0 M' L' R' => zSP M L T c b f t r v0 M' L' R'))) 182 [(2, .int (-1)), (0, .ref 9), (1, .ref f)] [] SS M L (zRf t) := by
            intro hr3
            refine wp_aload_n (q := 183) dX8_part_182 1 rfl rfl ?_
            refine wp_getR (q := 186) dX8_part_183 zf_RX8_15 rfl zsh_9 (zr_9_0 _) rfl ?_
            refine wp_cvy (q := 189) (sp_failHere (d := 0) h.1) zm_X10_failHere zl_RX8_79 dX8_part_186 rfl (by omega) (Nat.le_of_ble_eq_true rfl) zsh_2 rfl rfl ?_
            rintro _ M4 _ _ ⟨rfl, rfl, rfl, h4, hx4⟩
            exact wp_return dX8_part_189 rfl ⟨rfl, ⟨rfl, rfl, rfl, by rw [← hr3]; exact zSM_t hf h h4 hx4, fun x x1 x2 x3 => hx4 x x1⟩⟩ rfl rfl
          refine wp_aload_n (q := 156) dX8_part_155 1 rfl rfl ?_
          refine wp_getI (q := 159) dX8_part_156 zf_RX8_9 rfl zsh_9 rfl ?_
          rw [h.2.2]
          cases hb : b with
          | false =>
            rw [if_neg (by decide : ¬ false = true)]
            refine wp_if_eqN (tgt := 182) (q := 162) dX8_part_159 (by decide) rfl (by omega) (fun _ => ?_) (fun hn => absurd hn (by omega))
            subst hb
            refine WP.sub (loc' := [(2, _), (0, _), (1, _)]) [0, 1, 2] rfl ?_
            exact bad (by rw [if_neg (fun c => absurd c.1 (by decide))] at hr; exact hr)
          | true =>
            subst hb
            rw [if_pos rfl]
            refine wp_if_eqN (tgt := 182) (q := 162) dX8_part_159 (by decide) rfl (by omega) (fun hn => absurd hn (by omega)) (fun _ => ?_)
            refine wp_aload_n (q := 163) dX8_part_162 1 rfl rfl ?_
            refine wp_getR (q := 166) dX8_part_163 zf_RX8_15 rfl zsh_9 (zr_9_0 _) rfl ?_
            refine wp_bipush (q := 168) dX8_part_166 zq_bipush_17 rfl ?_
            refine wp_cvx (q := 171) (sp_atWord (d := 0) (s := 17) h.1 (by decide)) zm_X10_atWord zl_RX8_69 dX8_part_168 rfl (by omega) (Nat.le_of_ble_eq_true rfl) zsh_2 rfl rfl ?_
            by_cases c5 : T p.1 4 = 17
            · rw [if_pos ⟨rfl, c5⟩] at hr
              rw [if_pos c5]
              have hQ2 := zok_e hE hQ (zTE_w hE hQ.2.1 (by omega))
              refine wp_if_eqN (tgt := 182) (q := 174) dX8_part_171 (by decide) rfl (by omega) (fun hn => absurd hn (by omega)) (fun _ => ?_)
              refine wp_aload_n (q := 175) dX8_part_174 1 rfl rfl ?_
              refine wp_aload_n (q := 176) dX8_part_175 2 rfl rfl ?_
              refine wp_cvy (q := 179) (sp_wins (d := dd + 1) (k := k) (F := F) (Nat.le_refl _) (by omega) hE hf hpt h hQ2) zm_X8_wins zl_RX8_76 dX8_part_176 rfl (by omega) (Nat.le_of_ble_eq_true rfl) zsh_9 rfl rfl ?_
              rintro _ M4 _ _ ⟨rfl, rfl, rfl, h4, hx4⟩
              refine wp_goto (tgt := 189) dX8_part_179 (by decide) ?_
              exact wp_return dX8_part_189 rfl ⟨rfl, ⟨rfl, rfl, rfl, by rw [← hr]; exact h4, hx4⟩⟩ rfl rfl
            · rw [if_neg (fun c => c5 c.2)] at hr
              rw [if_neg c5]
              refine wp_if_eqN (tgt := 182) (q := 174) dX8_part_171 (by decide) rfl (by omega) (fun _ => ?_) (fun hn => absurd hn (by omega))
              refine WP.sub (loc' := [(2, _), (0, _), (1, _)]) [0, 1, 2] rfl ?_
              exact bad hr
        by_cases c4 : T p.1 4 = 22
        · rw [if_pos c4]
          rw [if_pos (Or.inl c4), if_pos c4] at hr
          refine wp_if_neN (tgt := 128) (q := 116) dX8_part_113 (by decide) rfl (by omega) (fun _ => ?_) (fun hn => absurd hn (by omega))
          refine wp_aload_n (q := 129) dX8_part_128 1 rfl rfl ?_
          refine wp_aload_n (q := 130) dX8_part_129 2 rfl rfl ?_
          refine wp_aload_n (q := 131) dX8_part_130 1 rfl rfl ?_
          refine wp_getR (q := 134) dX8_part_131 zf_RX8_15 rfl zsh_9 (zr_9_0 _) rfl ?_
          refine wp_bipush (q := 136) dX8_part_134 zq_bipush_22 rfl ?_
          refine wp_cvx (q := 139) (sp_atWord (d := 0) (s := 22) h.1 (by decide)) zm_X10_atWord zl_RX8_69 dX8_part_136 rfl (by omega) (Nat.le_of_ble_eq_true rfl) zsh_2 rfl rfl ?_
          rw [if_pos c4]
          refine wp_if_eqN (tgt := 147) (q := 142) dX8_part_139 (by decide) rfl (by omega) (fun hn => absurd hn (by omega)) (fun _ => ?_)
          refine wp_bipush (q := 144) dX8_part_142 zq_bipush_8 rfl ?_
          refine wp_goto (tgt := 149) dX8_part_144 (by decide) ?_
          refine WP.sub (loc' := [(2, _), (0, _), (1, _)]) [0, 1, 2] rfl ?_
          exact two 8 (by decide) hr
        · rw [if_neg c4]
          refine wp_if_neN (tgt := 128) (q := 116) dX8_part_113 (by decide) rfl (by omega) (fun hn => absurd hn (by omega)) (fun _ => ?_)
          refine wp_aload_n (q := 117) dX8_part_116 1 rfl rfl ?_
          refine wp_getR (q := 120) dX8_part_117 zf_RX8_15 rfl zsh_9 (zr_9_0 _) rfl ?_
          refine wp_bipush (q := 122) dX8_part_120 zq_bipush_23 rfl ?_
          refine wp_cvx (q := 125) (sp_atWord (d := 0) (s := 23) h.1 (by decide)) zm_X10_atWord zl_RX8_69 dX8_part_122 rfl (by omega) (Nat.le_of_ble_eq_true rfl) zsh_2 rfl rfl ?_
          by_cases c5 : T p.1 4 = 23
          · rw [if_pos c5]
            rw [if_pos (Or.inr c5), if_neg c4] at hr
            refine wp_if_eqN (tgt := 155) (q := 128) dX8_part_125 (by decide) rfl (by omega) (fun hn => absurd hn (by omega)) (fun _ => ?_)
            refine wp_aload_n (q := 129) dX8_part_128 1 rfl rfl ?_
            refine wp_aload_n (q := 130) dX8_part_129 2 rfl rfl ?_
            refine wp_aload_n (q := 131) dX8_part_130 1 rfl rfl ?_
            refine wp_getR (q := 134) dX8_part_131 zf_RX8_15 rfl zsh_9 (zr_9_0 _) rfl ?_
            refine wp_bipush (q := 136) dX8_part_134 zq_bipush_22 rfl ?_
            refine wp_cvx (q := 139) (sp_atWord (d := 0) (s := 22) h.1 (by decide)) zm_X10_atWord zl_RX8_69 dX8_part_136 rfl (by omega) (Nat.le_of_ble_eq_true rfl) zsh_2 rfl rfl ?_
            rw [if_neg c4]
            refine wp_if_eqN (tgt := 147) (q := 142) dX8_part_139 (by decide) rfl (by omega) (fun _ => ?_) (fun hn => absurd hn (by omega))
            refine wp_bipush (q := 149) dX8_part_147 zq_bipush_9 rfl ?_
            refine WP.sub (loc' := [(2, _), (0, _), (1, _)]) [0, 1, 2] rfl ?_
            exact two 9 (by decide) hr
          · rw [if_neg c5]
            refine wp_if_eqN (tgt := 155) (q := 128) dX8_part_125 (by decide) rfl (by omega) (fun _ => ?_) (fun hn => absurd hn (by omega))
            refine WP.sub (loc' := [(2, _), (0, _), (1, _)]) [0, 1, 2] rfl ?_
            exact rest (fun c => c.elim c4 c5)

