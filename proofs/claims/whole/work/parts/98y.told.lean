def zTQ (M : zMI) (L : zML) (b : Nat → Nat) (len : Nat) (T : zDD) (c t : Nat) (r : zP × zDD) : Option Value → zMI → zML → zMR → Prop := fun v0 M' L' R' => v0 = none ∧ R' = zRf t ∧ zTr M M' L L' ∧ zRp M' b len T c r.1 ∧ (r.1.2.2.1 = 0 → zMD M' L' r.2)
theorem zRp_5 {M : zMI} {b : Nat → Nat} {len c k : Nat} {T : zDD} {p : zP} {y : Int32} (k0 : p.2.2.1 = 0) (hp : p.1 < c) (h1 : 1 ≤ k) (h5 : k ≤ 5) : zRp (zu (zu M 177 5 (nI k)) 177 6 y) b len T c (zpf c p k y) := by
  have e : zpf c p k y = (c - 1, p.2.1, k, y) := if_pos k0
  rw [e]
  exact ⟨by show c - 1 < c; omega, fun e0 => absurd e0 (by show ¬ k = 0; omega), fun _ => ⟨h5, zBd_5⟩⟩
theorem zTf_5 {M M' : zMI} {L L' : zML} {k : Nat} {y : Int32} (h : zTr M M' L L') : zTr M (zu (zu M' 177 5 (nI k)) 177 6 y) L L' := zTr_w (zTr_w h (by simp [zTx])) (by simp [zTx])
theorem zpn_t {c : Nat} {p : zP} (k0 : p.2.2.1 = 0) : zpn c p = ((zpn c p).1, p.2.1, 0, p.2.2.2) := by unfold zpn; rw [k0]
theorem zTr_L {M M' : zMI} {L L' : zML} {k : Nat} {x : Int64} (h : zTr M M' L L') (hk : k < 12) : zTr M M' L (zu L' 205 k x) := ⟨h.1, fun o k' c => by
  rw [zu_at, if_neg (fun e => c ⟨e.1, by omega⟩)]
  exact h.2 o k' c⟩
set_option maxHeartbeats 4000000 in
set_option maxRecDepth 100000 in
theorem sp_mpersonTold {d t len c : Nat} {p : zP} {M : zMI} {L : zML} {b : Nat → Nat} {D T : zDD} (k0 : p.2.2.1 = 0) (h : zRp M b len T c (zpn c p)) (hT : zTok b len T c) (hW : zWds M) (hD : zMD M L D) {r : zP × zDD} (hr : zrP T c p D = r) : Sy yX12_personTold YX12_personTold (d + 5) [.ref 177, .int (nI (T p.1 1))] M L (zRf t) (fun v0 M' L' R' => zTQ M L b len T c t r v0 M' L' R') := by
  refine Sp.of (by decide +kernel) rfl (fun h => by first | exact h | cases h) (Nat.le_of_ble_eq_true rfl) ?_
  intro w G
  obtain ⟨ha, ha6⟩ := h.2.1 k0
  have n1 := hD.1.1
  have n8 := hD.1.2.1
  have k0' : (zpn c p).2.2.1 = 0 := k0
  unfold zrP at hr
  refine wp_aload_n (q := 1) dX12_personTold_0 0 rfl rfl ?_
  refine wp_getR (q := 4) dX12_personTold_1 zf_RX12_93 rfl zsh_177 (zr_177_35 _) rfl ?_
  refine wp_iconst (q := 5) dX12_personTold_4 zq_iconst_0 rfl ?_
  refine wp_iald (q := 6) _ dX12_personTold_5 zsh_204 rfl (by omega) (by decide) rfl ?_
  rw [n1]
  refine wp_bipush (q := 8) dX12_personTold_6 zq_bipush_8 rfl ?_
  refine wp_icmp_neN (tgt := 17) (q := 11) dX12_personTold_8 (by decide) rfl (by omega) (by omega) (fun h8 => ?_) (fun h8 => ?_)
  · skip
    rw [if_pos (by omega)] at hr
    refine wp_aload_n (q := 18) dX12_personTold_17 0 rfl rfl ?_
    refine wp_getI (q := 21) dX12_personTold_18 zf_RX12_236 rfl zsh_177 rfl ?_
    rw [ha.2.1]
    refine wp_if_eqN (tgt := 25) (q := 24) dX12_personTold_21 (by decide) rfl (by omega) (fun _ => ?_) (fun hn => absurd hn (by first | omega | exact fun h => h | exact fun h => h trivial))
    refine wp_aload_n (q := 26) dX12_personTold_25 0 rfl rfl ?_
    obtain ⟨q1, hq1⟩ : ∃ q, ztn T c (zpn c p) (D 0 1) (D 1) (D 0 7) (D 6) = q := ⟨_, rfl⟩
    rw [hq1] at hr
    refine wp_cvy (q := 29) (sp_mnewName (d := 0) (r := q1) (o6 := p.2.1) (y6 := p.2.2.2) ha ha6 hT hW hD.1 (by rw [← zpn_t k0]; exact hq1)) zm_X12_newName zl_RX12_299 dX12_personTold_26 rfl (by omega) (Nat.le_of_ble_eq_true rfl) zsh_177 rfl rfl ?_
    rintro _ M2 L2 _ ⟨y, rfl, rfl, rfl, p2, r2, hy⟩
    refine wp_lstore_n (q := 30) (loc' := [(2, _), (0, _), (1, _)]) dX12_personTold_29 rfl (by decide) rfl rfl ?_
    refine wp_aload_n (q := 31) dX12_personTold_30 1 rfl rfl ?_
    refine wp_aload_n (q := 32) dX12_personTold_31 1 rfl rfl ?_
    refine wp_getR (q := 35) dX12_personTold_32 zf_RX12_24 rfl zsh_177 (zr_177_11 _) rfl ?_
    refine wp_cvy (q := 38) (sp_masksR (d := 1) r2 hT (zWc_k 1 (zWds_p hW p2) (by decide) rfl zsh_181)) zm_X12_asks zl_RX12_302 dX12_personTold_35 rfl (by omega) (Nat.le_of_ble_eq_true rfl) zsh_177 rfl rfl ?_
    rintro _ M3 L3 _ ⟨rfl, rfl, rfl, p3, r3⟩
    have p3' := zPf_t p2 p3
    unfold zrP1 at hr
    obtain ⟨q2, hq2⟩ : ∃ q, zpNu T c (zpWo T c q1.1 1 1).1 99 = q := ⟨_, rfl⟩
    rw [hq2] at hr
    refine wp_aload_n (q := 39) dX12_personTold_38 1 rfl rfl ?_
    refine wp_iconst (q := 40) dX12_personTold_39 zq_iconst_0 rfl ?_
    refine wp_bipush (q := 42) dX12_personTold_40 zq_bipush_99 rfl ?_
    refine wp_cvy (q := 45) (sp_mnumberR (d := 3) (ms := 99) r3 hT (by decide)) zm_X12_number zl_RX12_306 dX12_personTold_42 rfl (by omega) (Nat.le_of_ble_eq_true rfl) zsh_177 rfl rfl ?_
    rintro _ M4 L4 _ ⟨a, rfl, rfl, rfl, p4, r4, ha4⟩
    rw [hq2] at r4 ha4
    have p4' := zPf_t p3' p4
    refine wp_istore (q := 47) (loc' := [(4, _), (2, _), (0, _), (1, _)]) dX12_personTold_45 (by decide) rfl rfl ?_
    refine wp_aload_n (q := 48) dX12_personTold_47 2 rfl rfl ?_
    refine wp_aload_n (q := 49) dX12_personTold_48 2 rfl rfl ?_
    refine wp_getR (q := 52) dX12_personTold_49 zf_RX12_27 rfl zsh_177 (zr_177_12 _) rfl ?_
    refine wp_cvy (q := 55) (sp_masksR (d := 1) r4 hT (zWc_k 2 (zWds_p hW p4') (by decide) rfl zsh_182)) zm_X12_asks zl_RX12_302 dX12_personTold_52 rfl (by omega) (Nat.le_of_ble_eq_true rfl) zsh_177 rfl rfl ?_
    rintro _ M5 L5 _ ⟨rfl, rfl, rfl, p5, r5⟩
    have p5' := zPf_t p4' p5
    unfold zrP2 at hr
    obtain ⟨q3, hq3⟩ : ∃ q, zpNu T c (zpWo T c q2.1 2 2).1 99 = q := ⟨_, rfl⟩
    rw [hq3] at hr
    refine wp_aload_n (q := 56) dX12_personTold_55 2 rfl rfl ?_
    refine wp_iconst (q := 57) dX12_personTold_56 zq_iconst_0 rfl ?_
    refine wp_bipush (q := 59) dX12_personTold_57 zq_bipush_99 rfl ?_
    refine wp_cvy (q := 62) (sp_mnumberR (d := 3) (ms := 99) r5 hT (by decide)) zm_X12_number zl_RX12_306 dX12_personTold_59 rfl (by omega) (Nat.le_of_ble_eq_true rfl) zsh_177 rfl rfl ?_
    rintro _ M6 L6 _ ⟨e, rfl, rfl, rfl, p6, r6, ha6'⟩
    rw [hq3] at r6 ha6'
    have p6' := zPf_t p5' p6
    have f3 : zfq q2.1 q3.1 := by rw [← hq3]; exact zfq_t zfq_Wo zfq_Nu
    have f2 : zfq q1.1 q2.1 := by rw [← hq2]; exact zfq_t zfq_Wo zfq_Nu
    unfold zrP3 at hr
    by_cases k6 : q3.1.2.2.1 = 0
    · have k2 := zfq_0 f3 k6
      have k1 := zfq_0 f2 k2
      obtain ⟨ha7, -⟩ := r6.2.1 k6
      have hD6 := zMD_p hD p6'
      have n6 := hD6.1.1
      have lt8 : D 0 1 < 8 := by omega
      rw [ha4 k2, ha6' k6]
      skip
      refine wp_istore (q := 64) (loc' := [(5, _), (4, _), (2, _), (0, _), (1, _)]) dX12_personTold_62 (by decide) rfl rfl ?_
      refine wp_aload_n (q := 65) dX12_personTold_64 3 rfl rfl ?_
      refine wp_getI (q := 68) dX12_personTold_65 zf_RX12_236 rfl zsh_177 rfl ?_
      rw [ha7.2.1]
      refine wp_if_eqN (tgt := 72) (q := 71) dX12_personTold_68 (by decide) rfl (by omega) (fun _ => ?_) (fun hn => absurd hn (by first | omega | exact fun h => h | exact fun h => h trivial))
      refine wp_bipush (q := 74) dX12_personTold_72 zq_bipush_7 rfl ?_
      refine wp_aload_n (q := 75) dX12_personTold_74 3 rfl rfl ?_
      refine wp_getR (q := 78) dX12_personTold_75 zf_RX12_93 rfl zsh_177 (zr_177_35 _) rfl ?_
      refine wp_iconst (q := 79) dX12_personTold_78 zq_iconst_0 rfl ?_
      refine wp_iald (q := 80) _ dX12_personTold_79 zsh_204 rfl (by omega) (by decide) rfl ?_
      rw [n6]
      refine wp_imulN (q := 81) dX12_personTold_80 rfl ?_
      refine wp_istore (q := 83) (loc' := [(6, _), (5, _), (4, _), (2, _), (0, _), (1, _)]) dX12_personTold_81 (by decide) rfl rfl ?_
      refine wp_aload_n (q := 84) dX12_personTold_83 4 rfl rfl ?_
      refine wp_getR (q := 87) dX12_personTold_84 zf_RX12_96 rfl zsh_177 (zr_177_36 _) rfl ?_
      refine wp_aload_n (q := 88) dX12_personTold_87 4 rfl rfl ?_
      refine wp_getR (q := 91) dX12_personTold_88 zf_RX12_93 rfl zsh_177 (zr_177_35 _) rfl ?_
      refine wp_iconst (q := 92) dX12_personTold_91 zq_iconst_0 rfl ?_
      refine wp_iald (q := 93) _ dX12_personTold_92 zsh_204 rfl (by omega) (by decide) rfl ?_
      rw [n6]
      refine wp_lload_n (q := 94) dX12_personTold_93 3 rfl rfl ?_
      refine wp_last (q := 95) _ dX12_personTold_94 zsh_205 rfl (by omega) (by decide) rfl ?_
      refine wp_aload_n (q := 96) dX12_personTold_95 4 rfl rfl ?_
      refine wp_getR (q := 99) dX12_personTold_96 zf_RX12_100 rfl zsh_177 (zr_177_37 _) rfl ?_
      refine wp_iload (q := 101) dX12_personTold_99 0 rfl rfl ?_
      refine wp_iload (q := 103) dX12_personTold_101 2 rfl rfl ?_
      refine wp_iast (q := 104) _ dX12_personTold_103 zsh_206 rfl (by omega) (by decide) rfl ?_
      refine wp_aload_n (q := 105) dX12_personTold_104 4 rfl rfl ?_
      refine wp_getR (q := 108) dX12_personTold_105 zf_RX12_100 rfl zsh_177 (zr_177_37 _) rfl ?_
      refine wp_iload (q := 110) dX12_personTold_108 0 rfl rfl ?_
      refine wp_iconst (q := 111) dX12_personTold_110 zq_iconst_1 rfl ?_
      refine wp_iaddN (q := 112) dX12_personTold_111 rfl ?_
      refine wp_iload (q := 114) dX12_personTold_112 1 rfl rfl ?_
      refine wp_iast (q := 115) _ dX12_personTold_114 zsh_206 rfl (by omega) (by decide) rfl ?_
      refine wp_aload_n (q := 116) dX12_personTold_115 4 rfl rfl ?_
      refine wp_getR (q := 119) dX12_personTold_116 zf_RX12_100 rfl zsh_177 (zr_177_37 _) rfl ?_
      refine wp_iload (q := 121) dX12_personTold_119 0 rfl rfl ?_
      refine wp_iconst (q := 122) dX12_personTold_121 zq_iconst_2 rfl ?_
      refine wp_iaddN (q := 123) dX12_personTold_122 rfl ?_
      refine wp_iconst (q := 124) dX12_personTold_123 zq_iconst_0 rfl ?_
      refine wp_iast (q := 125) _ dX12_personTold_124 zsh_206 rfl (by omega) (by decide) rfl ?_
      refine wp_aload_n (q := 126) dX12_personTold_125 4 rfl rfl ?_
      refine wp_getR (q := 129) dX12_personTold_126 zf_RX12_100 rfl zsh_177 (zr_177_37 _) rfl ?_
      refine wp_iload (q := 131) dX12_personTold_129 0 rfl rfl ?_
      refine wp_iconst (q := 132) dX12_personTold_131 zq_iconst_3 rfl ?_
      refine wp_iaddN (q := 133) dX12_personTold_132 rfl ?_
      refine wp_iconst (q := 134) dX12_personTold_133 zq_iconst_0 rfl ?_
      refine wp_iast (q := 135) _ dX12_personTold_134 zsh_206 rfl (by omega) (by decide) rfl ?_
      refine wp_aload_n (q := 136) dX12_personTold_135 4 rfl rfl ?_
      refine wp_getR (q := 139) dX12_personTold_136 zf_RX12_100 rfl zsh_177 (zr_177_37 _) rfl ?_
      refine wp_iload (q := 141) dX12_personTold_139 0 rfl rfl ?_
      refine wp_iconst (q := 142) dX12_personTold_141 zq_iconst_4 rfl ?_
      refine wp_iaddN (q := 143) dX12_personTold_142 rfl ?_
      refine wp_iconst (q := 144) dX12_personTold_143 zq_iconst_5 rfl ?_
      refine wp_iast (q := 145) _ dX12_personTold_144 zsh_206 rfl (by omega) (by decide) rfl ?_
      refine wp_aload_n (q := 146) dX12_personTold_145 4 rfl rfl ?_
      refine wp_getR (q := 149) dX12_personTold_146 zf_RX12_100 rfl zsh_177 (zr_177_37 _) rfl ?_
      refine wp_iload (q := 151) dX12_personTold_149 0 rfl rfl ?_
      refine wp_iconst (q := 152) dX12_personTold_151 zq_iconst_5 rfl ?_
      refine wp_iaddN (q := 153) dX12_personTold_152 rfl ?_
      refine wp_iconst (q := 154) dX12_personTold_153 zq_iconst_0 rfl ?_
      refine wp_iast (q := 155) _ dX12_personTold_154 zsh_206 rfl (by omega) (by decide) rfl ?_
      refine wp_aload_n (q := 156) dX12_personTold_155 4 rfl rfl ?_
      refine wp_getR (q := 159) dX12_personTold_156 zf_RX12_100 rfl zsh_177 (zr_177_37 _) rfl ?_
      refine wp_iload (q := 161) dX12_personTold_159 0 rfl rfl ?_
      refine wp_bipush (q := 163) dX12_personTold_161 zq_bipush_6 rfl ?_
      refine wp_iaddN (q := 164) dX12_personTold_163 rfl ?_
      refine wp_iconst (q := 165) dX12_personTold_164 zq_iconst_5 rfl ?_
      refine wp_iast (q := 166) _ dX12_personTold_165 zsh_206 rfl (by omega) (by decide) rfl ?_
      refine wp_aload_n (q := 167) dX12_personTold_166 4 rfl rfl ?_
      refine wp_getR (q := 170) dX12_personTold_167 zf_RX12_93 rfl zsh_177 (zr_177_35 _) rfl ?_
      refine wp_iconst (q := 171) dX12_personTold_170 zq_iconst_0 rfl ?_
      first | refine wp_dup2 (q := 172) dX12_personTold_171 rfl rfl rfl ?_ | refine wp_dup2L (q := 172) dX12_personTold_171 rfl rfl ?_
      refine wp_iald (q := 173) _ dX12_personTold_172 zsh_204 rfl (by omega) (by decide) rfl ?_
      rw [zu_ne (by decide), zu_ne (by decide), zu_ne (by decide), zu_ne (by decide), zu_ne (by decide), zu_ne (by decide), zu_ne (by decide), n6]
      refine wp_iconst (q := 174) dX12_personTold_173 zq_iconst_1 rfl ?_
      refine wp_iaddN (q := 175) dX12_personTold_174 rfl ?_
      refine wp_iast (q := 176) _ dX12_personTold_175 zsh_204 rfl (by omega) (by decide) rfl ?_
      have hr1 : r.1 = q3.1 := by rw [← hr]
      refine wp_return dX12_personTold_176 rfl ⟨rfl, ⟨rfl, rfl, ?_, ?_, fun _ => ?_⟩⟩ rfl rfl
      · refine zTr_L (zTr_w (zTr_w (zTr_w (zTr_w (zTr_w (zTr_w (zTr_w (zTr_w (zTr_pf p6') ?_) ?_) ?_) ?_) ?_) ?_) ?_) ?_) (by omega)
        all_goals unfold zTx
        all_goals omega
      · rw [hr1]
        refine zRp_up r6 ?_ ?_
        · rw [zu_ne (by decide), zu_ne (by decide), zu_ne (by decide), zu_ne (by decide), zu_ne (by decide), zu_ne (by decide), zu_ne (by decide), zu_ne (by decide)]
        · rw [zu_ne (by decide), zu_ne (by decide), zu_ne (by decide), zu_ne (by decide), zu_ne (by decide), zu_ne (by decide), zu_ne (by decide), zu_ne (by decide)]
      · rw [← hr]
        exact zMD_P hD6 lt8 (hy k1)
    · obtain ⟨g1, g2, g3⟩ := r6.2.2 k6
      obtain ⟨kk, hkk⟩ : ∃ kk, q3.1.2.2.1 = kk := ⟨_, rfl⟩
      rw [hkk] at g1 g2
      have hk0 : kk ≠ 0 := by rw [← hkk]; exact k6
      have hr1 : r.1 = q3.1 := by rw [← hr]
      refine wp_istore (q := 64) (loc' := [(5, _), (4, _), (2, _), (0, _), (1, _)]) dX12_personTold_62 (by decide) rfl rfl ?_
      refine wp_aload_n (q := 65) dX12_personTold_64 3 rfl rfl ?_
      refine wp_getI (q := 68) dX12_personTold_65 zf_RX12_236 rfl zsh_177 rfl ?_
      rw [g2]
      refine wp_if_eqN (tgt := 72) (q := 71) dX12_personTold_68 (by decide) rfl (by omega) (fun hn => absurd hn (by first | omega | exact fun h => h | exact fun h => h trivial)) (fun _ => ?_)
      exact wp_return dX12_personTold_71 rfl ⟨rfl, ⟨rfl, rfl, zTr_pf p6', by rw [hr1]; exact r6, fun e => absurd (by rw [← hr1]; exact e) k6⟩⟩ rfl rfl
  · skip
    rw [if_neg (by omega)] at hr
    refine wp_aload_n (q := 12) dX12_personTold_11 0 rfl rfl ?_
    refine wp_iconst (q := 13) dX12_personTold_12 zq_iconst_5 rfl ?_
    refine wp_iload_n (q := 14) dX12_personTold_13 1 rfl rfl ?_
    refine wp_cvx (q := 17) (sp_mfail (d := 0) ha.2.1) zm_X12_fail zl_RX12_266 dX12_personTold_14 rfl (by omega) (Nat.le_of_ble_eq_true rfl) zsh_177 rfl rfl ?_
    refine wp_aload_n (q := 18) dX12_personTold_17 0 rfl rfl ?_
    refine wp_getI (q := 21) dX12_personTold_18 zf_RX12_236 rfl zsh_177 rfl ?_
    rw [zu_k (by decide), zu_s]
    refine wp_if_eqN (tgt := 25) (q := 24) dX12_personTold_21 (by decide) rfl (by omega) (fun hn => absurd hn (by first | omega | exact fun h => h | exact fun h => h trivial)) (fun _ => ?_)
    have hr1 : r.1 = zpf c p 5 (nI (T p.1 1)) := by rw [← hr]
    exact wp_return dX12_personTold_24 rfl ⟨rfl, ⟨rfl, rfl, zTf_5 zTr_r, by rw [hr1]; exact zRp_5 k0 (by have := h.1; unfold zpn at this; split at this <;> omega) (by decide) (by decide), fun e => absurd e (by rw [hr1]; exact zpf_b (by decide))⟩⟩ rfl rfl
set_option maxHeartbeats 4000000 in
set_option maxRecDepth 100000 in
theorem sp_mboxTold {d t len c : Nat} {p : zP} {M : zMI} {L : zML} {b : Nat → Nat} {D T : zDD} (k0 : p.2.2.1 = 0) (h : zRp M b len T c (zpn c p)) (hT : zTok b len T c) (hW : zWds M) (hD : zMD M L D) {r : zP × zDD} (hr : zrB T c p D = r) : Sy yX12_boxTold YX12_boxTold (d + 5) [.ref 177, .int (nI (T p.1 1))] M L (zRf t) (fun v0 M' L' R' => zTQ M L b len T c t r v0 M' L' R') := by
  refine Sp.of (by decide +kernel) rfl (fun h => by first | exact h | cases h) (Nat.le_of_ble_eq_true rfl) ?_
  intro w G
  obtain ⟨ha, ha6⟩ := h.2.1 k0
  have n1 := hD.1.2.2.1
  have n4 := hD.1.2.2.2.1
  unfold zrB at hr
  refine wp_aload_n (q := 1) dX12_boxTold_0 0 rfl rfl ?_
  refine wp_getR (q := 4) dX12_boxTold_1 zf_RX12_93 rfl zsh_177 (zr_177_35 _) rfl ?_
  refine wp_iconst (q := 5) dX12_boxTold_4 zq_iconst_1 rfl ?_
  refine wp_iald (q := 6) _ dX12_boxTold_5 zsh_204 rfl (by omega) (by decide) rfl ?_
  rw [n1]
  refine wp_iconst (q := 7) dX12_boxTold_6 zq_iconst_4 rfl ?_
  refine wp_icmp_neN (tgt := 16) (q := 10) dX12_boxTold_7 (by decide) rfl (by omega) (by omega) (fun h8 => ?_) (fun h8 => ?_)
  · skip
    rw [if_pos (by omega)] at hr
    refine wp_aload_n (q := 17) dX12_boxTold_16 0 rfl rfl ?_
    refine wp_getI (q := 20) dX12_boxTold_17 zf_RX12_236 rfl zsh_177 rfl ?_
    rw [ha.2.1]
    refine wp_if_eqN (tgt := 24) (q := 23) dX12_boxTold_20 (by decide) rfl (by omega) (fun _ => ?_) (fun hn => absurd hn (by first | omega | exact fun h => h | exact fun h => h trivial))
    refine wp_aload_n (q := 25) dX12_boxTold_24 0 rfl rfl ?_
    obtain ⟨q1, hq1⟩ : ∃ q, ztn T c (zpn c p) (D 0 1) (D 1) (D 0 7) (D 6) = q := ⟨_, rfl⟩
    rw [hq1] at hr
    refine wp_cvy (q := 28) (sp_mnewName (d := 0) (r := q1) (o6 := p.2.1) (y6 := p.2.2.2) ha ha6 hT hW hD.1 (by rw [← zpn_t k0]; exact hq1)) zm_X12_newName zl_RX12_299 dX12_boxTold_25 rfl (by omega) (Nat.le_of_ble_eq_true rfl) zsh_177 rfl rfl ?_
    rintro _ M2 L2 _ ⟨y, rfl, rfl, rfl, p2, r2, hy⟩
    refine wp_lstore_n (q := 29) (loc' := [(2, _), (0, _), (1, _)]) dX12_boxTold_28 rfl (by decide) rfl rfl ?_
    refine wp_aload_n (q := 30) dX12_boxTold_29 1 rfl rfl ?_
    refine wp_aload_n (q := 31) dX12_boxTold_30 1 rfl rfl ?_
    refine wp_getR (q := 34) dX12_boxTold_31 zf_RX12_45 rfl zsh_177 (zr_177_18 _) rfl ?_
    refine wp_cvy (q := 37) (sp_masksR (d := 1) r2 hT (zWc_k 8 (zWds_p hW p2) (by decide) rfl zsh_188)) zm_X12_asks zl_RX12_302 dX12_boxTold_34 rfl (by omega) (Nat.le_of_ble_eq_true rfl) zsh_177 rfl rfl ?_
    rintro _ M3 L3 _ ⟨rfl, rfl, rfl, p3, r3⟩
    have p3' := zPf_t p2 p3
    unfold zrB1 at hr
    obtain ⟨q2, hq2⟩ : ∃ q, zpNu T c (zpWo T c q1.1 8 8).1 100 = q := ⟨_, rfl⟩
    rw [hq2] at hr
    refine wp_aload_n (q := 38) dX12_boxTold_37 1 rfl rfl ?_
    refine wp_iconst (q := 39) dX12_boxTold_38 zq_iconst_0 rfl ?_
    refine wp_bipush (q := 41) dX12_boxTold_39 zq_bipush_100 rfl ?_
    refine wp_cvy (q := 44) (sp_mnumberR (d := 3) (ms := 100) r3 hT (by decide)) zm_X12_number zl_RX12_306 dX12_boxTold_41 rfl (by omega) (Nat.le_of_ble_eq_true rfl) zsh_177 rfl rfl ?_
    rintro _ M4 L4 _ ⟨a, rfl, rfl, rfl, p4, r4, ha4⟩
    rw [hq2] at r4 ha4
    have p4' := zPf_t p3' p4
    have f2 : zfq q1.1 q2.1 := by rw [← hq2]; exact zfq_t zfq_Wo zfq_Nu
    unfold zrB3 at hr
    by_cases k6 : q2.1.2.2.1 = 0
    · have k1 := zfq_0 f2 k6
      obtain ⟨ha7, -⟩ := r4.2.1 k6
      have hD6 := zMD_p hD p4'
      have n6 := hD6.1.2.2.1
      have lt8 : D 0 7 < 4 := by omega
      rw [ha4 k6]
      skip
      refine wp_istore (q := 46) (loc' := [(4, _), (2, _), (0, _), (1, _)]) dX12_boxTold_44 (by decide) rfl rfl ?_
      refine wp_aload_n (q := 47) dX12_boxTold_46 2 rfl rfl ?_
      refine wp_getI (q := 50) dX12_boxTold_47 zf_RX12_236 rfl zsh_177 rfl ?_
      rw [ha7.2.1]
      refine wp_if_eqN (tgt := 54) (q := 53) dX12_boxTold_50 (by decide) rfl (by omega) (fun _ => ?_) (fun hn => absurd hn (by first | omega | exact fun h => h | exact fun h => h trivial))
      refine wp_aload_n (q := 55) dX12_boxTold_54 2 rfl rfl ?_
      refine wp_getR (q := 58) dX12_boxTold_55 zf_RX12_96 rfl zsh_177 (zr_177_36 _) rfl ?_
      refine wp_bipush (q := 60) dX12_boxTold_58 zq_bipush_8 rfl ?_
      refine wp_aload_n (q := 61) dX12_boxTold_60 2 rfl rfl ?_
      refine wp_getR (q := 64) dX12_boxTold_61 zf_RX12_93 rfl zsh_177 (zr_177_35 _) rfl ?_
      refine wp_iconst (q := 65) dX12_boxTold_64 zq_iconst_1 rfl ?_
      refine wp_iald (q := 66) _ dX12_boxTold_65 zsh_204 rfl (by omega) (by decide) rfl ?_
      rw [n6]
      refine wp_iaddN (q := 67) dX12_boxTold_66 rfl ?_
      refine wp_lload_n (q := 68) dX12_boxTold_67 1 rfl rfl ?_
      refine wp_last (q := 69) _ dX12_boxTold_68 zsh_205 rfl (by omega) (by decide) rfl ?_
      refine wp_aload_n (q := 70) dX12_boxTold_69 2 rfl rfl ?_
      refine wp_getR (q := 73) dX12_boxTold_70 zf_RX12_103 rfl zsh_177 (zr_177_38 _) rfl ?_
      refine wp_aload_n (q := 74) dX12_boxTold_73 2 rfl rfl ?_
      refine wp_getR (q := 77) dX12_boxTold_74 zf_RX12_93 rfl zsh_177 (zr_177_35 _) rfl ?_
      refine wp_iconst (q := 78) dX12_boxTold_77 zq_iconst_1 rfl ?_
      refine wp_iald (q := 79) _ dX12_boxTold_78 zsh_204 rfl (by omega) (by decide) rfl ?_
      rw [n6]
      refine wp_iload (q := 81) dX12_boxTold_79 0 rfl rfl ?_
      refine wp_iast (q := 82) _ dX12_boxTold_81 zsh_207 rfl (by omega) (by decide) rfl ?_
      refine wp_aload_n (q := 83) dX12_boxTold_82 2 rfl rfl ?_
      refine wp_getR (q := 86) dX12_boxTold_83 zf_RX12_93 rfl zsh_177 (zr_177_35 _) rfl ?_
      refine wp_iconst (q := 87) dX12_boxTold_86 zq_iconst_1 rfl ?_
      first | refine wp_dup2 (q := 88) dX12_boxTold_87 rfl rfl rfl ?_ | refine wp_dup2L (q := 88) dX12_boxTold_87 rfl rfl ?_
      refine wp_iald (q := 89) _ dX12_boxTold_88 zsh_204 rfl (by omega) (by decide) rfl ?_
      rw [zu_ne (by decide), n6]
      refine wp_iconst (q := 90) dX12_boxTold_89 zq_iconst_1 rfl ?_
      refine wp_iaddN (q := 91) dX12_boxTold_90 rfl ?_
      refine wp_iast (q := 92) _ dX12_boxTold_91 zsh_204 rfl (by omega) (by decide) rfl ?_
      have hr1 : r.1 = q2.1 := by rw [← hr]
      refine wp_return dX12_boxTold_92 rfl ⟨rfl, ⟨rfl, rfl, ?_, ?_, fun _ => ?_⟩⟩ rfl rfl
      · refine zTr_L (zTr_w (zTr_w (zTr_pf p4') ?_) ?_) (by omega)
        all_goals unfold zTx
        all_goals omega
      · rw [hr1]
        exact zRp_up r4 (by rw [zu_ne (by decide), zu_ne (by decide)]) (by rw [zu_ne (by decide), zu_ne (by decide)])
      · rw [← hr]
        exact zMD_B hD6 lt8 (hy k1)
    · obtain ⟨g1, g2, g3⟩ := r4.2.2 k6
      obtain ⟨kk, hkk⟩ : ∃ kk, q2.1.2.2.1 = kk := ⟨_, rfl⟩
      rw [hkk] at g1 g2
      have hk0 : kk ≠ 0 := by rw [← hkk]; exact k6
      have hr1 : r.1 = q2.1 := by rw [← hr]
      refine wp_istore (q := 46) (loc' := [(4, _), (2, _), (0, _), (1, _)]) dX12_boxTold_44 (by decide) rfl rfl ?_
      refine wp_aload_n (q := 47) dX12_boxTold_46 2 rfl rfl ?_
      refine wp_getI (q := 50) dX12_boxTold_47 zf_RX12_236 rfl zsh_177 rfl ?_
      rw [g2]
      refine wp_if_eqN (tgt := 54) (q := 53) dX12_boxTold_50 (by decide) rfl (by omega) (fun hn => absurd hn (by first | omega | exact fun h => h | exact fun h => h trivial)) (fun _ => ?_)
      exact wp_return dX12_boxTold_53 rfl ⟨rfl, ⟨rfl, rfl, zTr_pf p4', by rw [hr1]; exact r4, fun e => absurd (by rw [← hr1]; exact e) k6⟩⟩ rfl rfl
  · skip
    rw [if_neg (by omega)] at hr
    refine wp_aload_n (q := 11) dX12_boxTold_10 0 rfl rfl ?_
    refine wp_iconst (q := 12) dX12_boxTold_11 zq_iconst_5 rfl ?_
    refine wp_iload_n (q := 13) dX12_boxTold_12 1 rfl rfl ?_
    refine wp_cvx (q := 16) (sp_mfail (d := 0) ha.2.1) zm_X12_fail zl_RX12_266 dX12_boxTold_13 rfl (by omega) (Nat.le_of_ble_eq_true rfl) zsh_177 rfl rfl ?_
    refine wp_aload_n (q := 17) dX12_boxTold_16 0 rfl rfl ?_
    refine wp_getI (q := 20) dX12_boxTold_17 zf_RX12_236 rfl zsh_177 rfl ?_
    rw [zu_k (by decide), zu_s]
    refine wp_if_eqN (tgt := 24) (q := 23) dX12_boxTold_20 (by decide) rfl (by omega) (fun hn => absurd hn (by first | omega | exact fun h => h | exact fun h => h trivial)) (fun _ => ?_)
    have hr1 : r.1 = zpf c p 5 (nI (T p.1 1)) := by rw [← hr]
    exact wp_return dX12_boxTold_23 rfl ⟨rfl, ⟨rfl, rfl, zTf_5 zTr_r, by rw [hr1]; exact zRp_5 k0 (by have := h.1; unfold zpn at this; split at this <;> omega) (by decide) (by decide), fun e => absurd e (by rw [hr1]; exact zpf_b (by decide))⟩⟩ rfl rfl
set_option maxHeartbeats 4000000 in
set_option maxRecDepth 100000 in
theorem sp_mholdsTold {d t len c : Nat} {p : zP} {M : zMI} {L : zML} {b : Nat → Nat} {D T : zDD} (k0 : p.2.2.1 = 0) (h : zRp M b len T c (zpn c p)) (hT : zTok b len T c) (hW : zWds M) (hD : zMD M L D) {r : zP × zDD} (hr : zrH T c p D = r) : Sy yX12_holdsTold YX12_holdsTold (d + 5) [.ref 177] M L (zRf t) (fun v0 M' L' R' => zTQ M L b len T c t r v0 M' L' R') := by
  refine Sp.of (by decide +kernel) rfl (fun h => by first | exact h | cases h) (Nat.le_of_ble_eq_true rfl) ?_
  intro w G
  obtain ⟨ha, ha6⟩ := h.2.1 k0
  have hE := zTok_TE hT
  have n8 := hD.1.2.1
  unfold zrH at hr
  obtain ⟨q1, hq1⟩ : ∃ q, ztp T c (zpn c p) (D 0 1) (D 1) = q := ⟨_, rfl⟩
  rw [hq1] at hr
  unfold zrH1 at hr
  have hq1c : q1.1.1 < c := by rw [← hq1]; exact (zkp_tp hE h.1).1
  have hd2 := zpWo_d (T := T) (c := c) (f := 1) (l := 2) (p := q1.1)
  have hq2c : (zpWo T c q1.1 1 2).1.1 < c := (zkp_Wo (f := 1) (l := 2) hE hq1c).1
  have f2 : zfq q1.1 (zpWo T c q1.1 1 2).1 := zfq_Wo
  obtain ⟨q2, hq2⟩ : ∃ q, zpWo T c q1.1 1 2 = q := ⟨_, rfl⟩
  rw [hq2] at hr hd2 hq2c f2
  unfold zrH2 at hr
  have f3 : zfq q2.1 (zpWo T c q2.1 4 6).1 := zfq_Wo
  have hq3c : (zpWo T c q2.1 4 6).1.1 < c := (zkp_Wo (f := 4) (l := 6) hE hq2c).1
  obtain ⟨q3, hq3⟩ : ∃ q, zpWo T c q2.1 4 6 = q := ⟨_, rfl⟩
  rw [hq3] at hr f3 hq3c
  unfold zrH3 at hr
  have f4 : zfq q3.1 (zpNu T c q3.1 9).1 := zfq_Nu
  obtain ⟨q4, hq4⟩ : ∃ q, zpNu T c q3.1 9 = q := ⟨_, rfl⟩
  rw [hq4] at hr f4
  unfold zrH4 at hr
  have hr1 : r.1 = q4.1 := by rw [← hr]
  have C4 : ∀ (pp hand grip : Nat) (M2 : zMI), pp < 30 → hand ≤ 1 → grip ≤ 2 → zPf M M2 → zRp M2 b len T c q3.1 → (q1.1.2.2.1 = 0 → q1.2 = pp ∧ pp < D 0 1) → (q2.1.2.2.1 = 0 → hand = q2.2) → (q3.1.2.2.1 = 0 → grip = q3.2) → WP w YX12_holdsTold (d + 5, SS, 0, 0) G (some (zXp (fun v0 M' L' R' => zTQ M L b len T c t r v0 M' L' R'))) 73 [(3, .int (nI grip)), (2, .int (nI hand)), (1, .int (nI pp)), (0, .ref 177)] [] SS M2 L (zRf t) := by
    intro pp hand grip M2 h30 h1 h2 hp hR e1 e2 e3
    refine wp_aload_n (q := 74) dX12_holdsTold_73 3 rfl rfl ?_
    refine wp_iconst (q := 75) dX12_holdsTold_74 zq_iconst_0 rfl ?_
    refine wp_bipush (q := 77) dX12_holdsTold_75 zq_bipush_9 rfl ?_
    refine wp_cvy (q := 80) (sp_mnumberR (d := 3) (ms := 9) hR hT (by decide)) zm_X12_number zl_RX12_306 dX12_holdsTold_77 rfl (by omega) (Nat.le_of_ble_eq_true rfl) zsh_177 rfl rfl ?_
    rintro _ M4 L4 _ ⟨a, rfl, rfl, rfl, p4, r4, ha4⟩
    rw [hq4] at r4 ha4
    have p4' := zPf_t hp p4
    by_cases k6 : q4.1.2.2.1 = 0
    · have k3 := zfq_0 f4 k6
      have k2 := zfq_0 f3 k3
      have k1 := zfq_0 f2 k2
      obtain ⟨ha7, -⟩ := r4.2.1 k6
      obtain ⟨g1, g2⟩ := e1 k1
      have hD6 := zMD_p hD p4'
      rw [ha4 k6]
      skip
      refine wp_istore (q := 82) (loc' := [(4, _), (3, _), (2, _), (1, _), (0, _)]) dX12_holdsTold_80 (by decide) rfl rfl ?_
      refine wp_aload_n (q := 83) dX12_holdsTold_82 4 rfl rfl ?_
      refine wp_getI (q := 86) dX12_holdsTold_83 zf_RX12_236 rfl zsh_177 rfl ?_
      rw [ha7.2.1]
      refine wp_if_eqN (tgt := 90) (q := 89) dX12_holdsTold_86 (by decide) rfl (by omega) (fun _ => ?_) (fun hn => absurd hn (by first | omega | exact fun h => h | exact fun h => h trivial))
      refine wp_aload_n (q := 91) dX12_holdsTold_90 4 rfl rfl ?_
      refine wp_getR (q := 94) dX12_holdsTold_91 zf_RX12_100 rfl zsh_177 (zr_177_37 _) rfl ?_
      refine wp_bipush (q := 96) dX12_holdsTold_94 zq_bipush_7 rfl ?_
      refine wp_iload_n (q := 97) dX12_holdsTold_96 3 rfl rfl ?_
      refine wp_imulN (q := 98) dX12_holdsTold_97 rfl ?_
      refine wp_iconst (q := 99) dX12_holdsTold_98 zq_iconst_3 rfl ?_
      refine wp_iaddN (q := 100) dX12_holdsTold_99 rfl ?_
      refine wp_iconst (q := 101) dX12_holdsTold_100 zq_iconst_2 rfl ?_
      refine wp_iload_n (q := 102) dX12_holdsTold_101 2 rfl rfl ?_
      refine wp_imulN (q := 103) dX12_holdsTold_102 rfl ?_
      refine wp_iaddN (q := 104) dX12_holdsTold_103 rfl ?_
      refine wp_iload_n (q := 105) dX12_holdsTold_104 1 rfl rfl ?_
      refine wp_iast (q := 106) _ dX12_holdsTold_105 zsh_206 rfl (by omega) (by decide) rfl ?_
      refine wp_aload_n (q := 107) dX12_holdsTold_106 4 rfl rfl ?_
      refine wp_getR (q := 110) dX12_holdsTold_107 zf_RX12_100 rfl zsh_177 (zr_177_37 _) rfl ?_
      refine wp_bipush (q := 112) dX12_holdsTold_110 zq_bipush_7 rfl ?_
      refine wp_iload_n (q := 113) dX12_holdsTold_112 3 rfl rfl ?_
      refine wp_imulN (q := 114) dX12_holdsTold_113 rfl ?_
      refine wp_iconst (q := 115) dX12_holdsTold_114 zq_iconst_4 rfl ?_
      refine wp_iaddN (q := 116) dX12_holdsTold_115 rfl ?_
      refine wp_iconst (q := 117) dX12_holdsTold_116 zq_iconst_2 rfl ?_
      refine wp_iload_n (q := 118) dX12_holdsTold_117 2 rfl rfl ?_
      refine wp_imulN (q := 119) dX12_holdsTold_118 rfl ?_
      refine wp_iaddN (q := 120) dX12_holdsTold_119 rfl ?_
      refine wp_iload (q := 122) dX12_holdsTold_120 0 rfl rfl ?_
      refine wp_iast (q := 123) _ dX12_holdsTold_122 zsh_206 rfl (by omega) (by decide) rfl ?_
      refine wp_return dX12_holdsTold_123 rfl ⟨rfl, ⟨rfl, rfl, ?_, ?_, fun _ => ?_⟩⟩ rfl rfl
      · refine zTr_w (zTr_w (zTr_pf p4') ?_) ?_
        all_goals unfold zTx
        all_goals omega
      · rw [hr1]
        exact zRp_up r4 (by rw [zu_ne (by decide), zu_ne (by decide)]) (by rw [zu_ne (by decide), zu_ne (by decide)])
      · rw [← hr, if_pos (by omega), ← e3 k3, ← e2 k2, g1]
        exact zMD_H hD6 g2 (by omega)
    · obtain ⟨g1, g2, g3⟩ := r4.2.2 k6
      obtain ⟨kk, hkk⟩ : ∃ kk, q4.1.2.2.1 = kk := ⟨_, rfl⟩
      rw [hkk] at g1 g2
      have hk0 : kk ≠ 0 := by rw [← hkk]; exact k6
      refine wp_istore (q := 82) (loc' := [(4, _), (3, _), (2, _), (1, _), (0, _)]) dX12_holdsTold_80 (by decide) rfl rfl ?_
      refine wp_aload_n (q := 83) dX12_holdsTold_82 4 rfl rfl ?_
      refine wp_getI (q := 86) dX12_holdsTold_83 zf_RX12_236 rfl zsh_177 rfl ?_
      rw [g2]
      refine wp_if_eqN (tgt := 90) (q := 89) dX12_holdsTold_86 (by decide) rfl (by omega) (fun hn => absurd hn (by first | omega | exact fun h => h | exact fun h => h trivial)) (fun _ => ?_)
      exact wp_return dX12_holdsTold_89 rfl ⟨rfl, ⟨rfl, rfl, zTr_pf p4', by rw [hr1]; exact r4, fun e => absurd (by rw [← hr1]; exact e) k6⟩⟩ rfl rfl
  have C3 : ∀ (pp hand : Nat) (M2 : zMI), pp < 30 → hand ≤ 1 → zPf M M2 → zRp M2 b len T c q2.1 → (q1.1.2.2.1 = 0 → q1.2 = pp ∧ pp < D 0 1) → (q2.1.2.2.1 = 0 → hand = q2.2) → WP w YX12_holdsTold (d + 5, SS, 0, 0) G (some (zXp (fun v0 M' L' R' => zTQ M L b len T c t r v0 M' L' R'))) 28 [(2, .int (nI hand)), (1, .int (nI pp)), (0, .ref 177)] [] SS M2 L (zRf t) := by
    intro pp hand M2 h30 h1 hp hR e1 e2
    refine wp_aload_n (q := 29) dX12_holdsTold_28 2 rfl rfl ?_
    refine wp_aload_n (q := 30) dX12_holdsTold_29 2 rfl rfl ?_
    refine wp_getR (q := 33) dX12_holdsTold_30 zf_RX12_33 rfl zsh_177 (zr_177_14 _) rfl ?_
    refine wp_cvy (q := 36) (sp_mtakesR (d := 2) hR hT (zWc_k 4 (zWds_p hW hp) (by decide) rfl zsh_184)) zm_X12_takes zl_RX12_263 dX12_holdsTold_33 rfl (by omega) (Nat.le_of_ble_eq_true rfl) zsh_177 rfl rfl ?_
    rintro _ M3 L3 _ ⟨o, rfl, rfl, rfl, p3, g1, g2⟩
    have p3' := zPf_t hp p3
    cases o with
    | true =>
      obtain ⟨x1, x2, x3⟩ := g1 rfl
      have e : q3 = (zpn c q2.1, 0) := by rw [← hq3]; unfold zpWo; rw [if_pos (by omega), x2]
      rw [zb01_t]
      refine wp_if_eqN (tgt := 43) (q := 39) dX12_holdsTold_36 (by decide) rfl (by omega) (fun hn => absurd hn (by first | omega | exact fun h => h | exact fun h => h trivial)) (fun _ => ?_)
      refine wp_iconst (q := 40) dX12_holdsTold_39 zq_iconst_0 rfl ?_
      refine wp_goto (tgt := 59) dX12_holdsTold_40 (by decide) ?_
      refine wp_istore_n (q := 60) (loc' := [(3, _), (2, _), (1, _), (0, _)]) dX12_holdsTold_59 rfl (by decide) rfl rfl ?_
      refine wp_iload_n (q := 61) dX12_holdsTold_60 0 rfl rfl ?_
      refine wp_iconst (q := 62) dX12_holdsTold_61 zq_iconst_2 rfl ?_
      refine wp_icmp_neN (tgt := 73) (q := 65) dX12_holdsTold_62 (by decide) rfl (by omega) (by omega) (fun _ => ?_) (fun hn => absurd hn (by first | omega | exact fun h => h | exact fun h => h trivial))
      refine WP.sub (loc' := [(3, _), (2, _), (1, _), (0, _)]) [0, 1, 2, 3] rfl ?_
      exact C4 pp hand 0 M3 h30 h1 (by decide) p3' (by rw [e]; exact x3) e1 e2 (fun _ => by rw [e])
    | false =>
      obtain ⟨x1, x2⟩ := g2 rfl
      rw [zb01_f]
      refine wp_if_eqN (tgt := 43) (q := 39) dX12_holdsTold_36 (by decide) rfl (by omega) (fun _ => ?_) (fun hn => absurd hn (by first | omega | exact fun h => h | exact fun h => h trivial))
      refine wp_aload_n (q := 44) dX12_holdsTold_43 2 rfl rfl ?_
      refine wp_aload_n (q := 45) dX12_holdsTold_44 2 rfl rfl ?_
      refine wp_getR (q := 48) dX12_holdsTold_45 zf_RX12_36 rfl zsh_177 (zr_177_15 _) rfl ?_
      refine wp_cvy (q := 51) (sp_mtakesR (d := 2) x2 hT (zWc_k 5 (zWds_p hW p3') (by decide) rfl zsh_185)) zm_X12_takes zl_RX12_263 dX12_holdsTold_48 rfl (by omega) (Nat.le_of_ble_eq_true rfl) zsh_177 rfl rfl ?_
      rintro _ M4 L4 _ ⟨o, rfl, rfl, rfl, p4, g1, g2⟩
      have p4' := zPf_t p3' p4
      cases o with
      | true =>
        obtain ⟨y1, y2, y3⟩ := g1 rfl
        have e : q3 = (zpn c q2.1, 1) := by rw [← hq3]; unfold zpWo; rw [if_pos (by omega), y2]
        rw [zb01_t]
        refine wp_if_eqN (tgt := 58) (q := 54) dX12_holdsTold_51 (by decide) rfl (by omega) (fun hn => absurd hn (by first | omega | exact fun h => h | exact fun h => h trivial)) (fun _ => ?_)
        refine wp_iconst (q := 55) dX12_holdsTold_54 zq_iconst_1 rfl ?_
        refine wp_goto (tgt := 59) dX12_holdsTold_55 (by decide) ?_
        refine wp_istore_n (q := 60) (loc' := [(3, _), (2, _), (1, _), (0, _)]) dX12_holdsTold_59 rfl (by decide) rfl rfl ?_
        refine wp_iload_n (q := 61) dX12_holdsTold_60 0 rfl rfl ?_
        refine wp_iconst (q := 62) dX12_holdsTold_61 zq_iconst_2 rfl ?_
        refine wp_icmp_neN (tgt := 73) (q := 65) dX12_holdsTold_62 (by decide) rfl (by omega) (by omega) (fun _ => ?_) (fun hn => absurd hn (by first | omega | exact fun h => h | exact fun h => h trivial))
        refine WP.sub (loc' := [(3, _), (2, _), (1, _), (0, _)]) [0, 1, 2, 3] rfl ?_
        exact C4 pp hand 1 M4 h30 h1 (by decide) p4' (by rw [e]; exact y3) e1 e2 (fun _ => by rw [e])
      | false =>
        obtain ⟨y1, y2⟩ := g2 rfl
        rw [zb01_f]
        refine wp_if_eqN (tgt := 58) (q := 54) dX12_holdsTold_51 (by decide) rfl (by omega) (fun _ => ?_) (fun hn => absurd hn (by first | omega | exact fun h => h | exact fun h => h trivial))
        refine wp_iconst (q := 59) dX12_holdsTold_58 zq_iconst_2 rfl ?_
        refine wp_istore_n (q := 60) (loc' := [(3, _), (2, _), (1, _), (0, _)]) dX12_holdsTold_59 rfl (by decide) rfl rfl ?_
        refine wp_iload_n (q := 61) dX12_holdsTold_60 0 rfl rfl ?_
        refine wp_iconst (q := 62) dX12_holdsTold_61 zq_iconst_2 rfl ?_
        refine wp_icmp_neN (tgt := 73) (q := 65) dX12_holdsTold_62 (by decide) rfl (by omega) (by omega) (fun hn => absurd hn (by first | omega | exact fun h => h | exact fun h => h trivial)) (fun _ => ?_)
        refine wp_aload_n (q := 66) dX12_holdsTold_65 3 rfl rfl ?_
        refine wp_aload_n (q := 67) dX12_holdsTold_66 3 rfl rfl ?_
        refine wp_getR (q := 70) dX12_holdsTold_67 zf_RX12_39 rfl zsh_177 (zr_177_16 _) rfl ?_
        refine wp_cvy (q := 73) (sp_masksR (d := 1) y2 hT (zWc_k 6 (zWds_p hW p4') (by decide) rfl zsh_186)) zm_X12_asks zl_RX12_302 dX12_holdsTold_70 rfl (by omega) (Nat.le_of_ble_eq_true rfl) zsh_177 rfl rfl ?_
        rintro _ M5 L5 _ ⟨rfl, rfl, rfl, p5, r5⟩
        have p5' := zPf_t p4' p5
        refine WP.sub (loc' := [(3, _), (2, _), (1, _), (0, _)]) [0, 1, 2, 3] rfl ?_
        refine C4 pp hand 2 M5 h30 h1 (by decide) p5' ?_ e1 e2 ?_
        · by_cases k : q2.1.2.2.1 = 0
          · have e : q3.1 = (zpWo T c q2.1 6 6).1 := by
              have z1 := x1 k
              have z2 := y1 k
              rw [← hq3]
              unfold zpWo
              by_cases z : T q2.1.1 4 = 6
              · rw [if_pos (by omega), if_pos (by omega)]
              · rw [if_neg (by omega), if_neg (by omega)]
            rw [e]
            exact r5
          · exact zRp_q (p := (zpWo T c q2.1 6 6).1) r5 (fun e => k (zfq_0 zfq_Wo e)) hq3c (fun _ => by rw [f3 k, zfq_Wo k])
        · intro k3
          have k := zfq_0 f3 k3
          have z1 := x1 k
          have z2 := y1 k
          rw [← hq3] at k3 ⊢
          unfold zpWo at k3 ⊢
          by_cases z : T q2.1.1 4 = 6
          · rw [if_pos (by omega)]
            show 2 = T q2.1.1 4 - 4
            omega
          · rw [if_neg (by omega)] at k3
            exact absurd k3 (zpf_b (by decide))
  refine wp_aload_n (q := 1) dX12_holdsTold_0 0 rfl rfl ?_
  refine wp_cvy (q := 4) (sp_mpersonHere (d := 0) (r := q1) (o6 := p.2.1) (y6 := p.2.2.2) ha ha6 hT hW hD.1 (by rw [← zpn_t k0]; exact hq1)) zm_X12_personHere zl_RX12_310 dX12_holdsTold_1 rfl (by omega) (Nat.le_of_ble_eq_true rfl) zsh_177 rfl rfl ?_
  rintro _ M2 L2 _ ⟨pp, rfl, rfl, rfl, p2, r2, hpp, h30⟩
  refine wp_istore_n (q := 5) (loc' := [(1, _), (0, _)]) dX12_holdsTold_4 rfl (by decide) rfl rfl ?_
  refine wp_iconst (q := 6) dX12_holdsTold_5 zq_iconst_0 rfl ?_
  refine wp_istore_n (q := 7) (loc' := [(2, _), (1, _), (0, _)]) dX12_holdsTold_6 rfl (by decide) rfl rfl ?_
  refine wp_aload_n (q := 8) dX12_holdsTold_7 2 rfl rfl ?_
  refine wp_aload_n (q := 9) dX12_holdsTold_8 2 rfl rfl ?_
  refine wp_getR (q := 12) dX12_holdsTold_9 zf_RX12_24 rfl zsh_177 (zr_177_11 _) rfl ?_
  refine wp_cvy (q := 15) (sp_mtakesR (d := 2) r2 hT (zWc_k 1 (zWds_p hW p2) (by decide) rfl zsh_181)) zm_X12_takes zl_RX12_263 dX12_holdsTold_12 rfl (by omega) (Nat.le_of_ble_eq_true rfl) zsh_177 rfl rfl ?_
  rintro _ M3 L3 _ ⟨o, rfl, rfl, rfl, p3, g1, g2⟩
  have p3' := zPf_t p2 p3
  cases o with
  | true =>
    obtain ⟨x1, x2, x3⟩ := g1 rfl
    have e : q2 = (zpn c q1.1, 0) := by rw [← hq2]; unfold zpWo; rw [if_pos (by omega), x2]
    rw [zb01_t]
    refine wp_if_neN (tgt := 28) (q := 18) dX12_holdsTold_15 (by decide) rfl (by omega) (fun _ => ?_) (fun hn => absurd hn (by first | omega | exact fun h => h | exact fun h => h trivial))
    refine WP.sub (loc' := [(2, _), (1, _), (0, _)]) [0, 1, 2] rfl ?_
    exact C3 pp 0 M3 h30 (by decide) p3' (by rw [e]; exact x3) hpp (fun _ => by rw [e])
  | false =>
    obtain ⟨x1, x2⟩ := g2 rfl
    rw [zb01_f]
    refine wp_if_neN (tgt := 28) (q := 18) dX12_holdsTold_15 (by decide) rfl (by omega) (fun hn => absurd hn (by first | omega | exact fun h => h | exact fun h => h trivial)) (fun _ => ?_)
    refine wp_aload_n (q := 19) dX12_holdsTold_18 2 rfl rfl ?_
    refine wp_aload_n (q := 20) dX12_holdsTold_19 2 rfl rfl ?_
    refine wp_getR (q := 23) dX12_holdsTold_20 zf_RX12_27 rfl zsh_177 (zr_177_12 _) rfl ?_
    refine wp_cvy (q := 26) (sp_masksR (d := 1) x2 hT (zWc_k 2 (zWds_p hW p3') (by decide) rfl zsh_182)) zm_X12_asks zl_RX12_302 dX12_holdsTold_23 rfl (by omega) (Nat.le_of_ble_eq_true rfl) zsh_177 rfl rfl ?_
    rintro _ M5 L5 _ ⟨rfl, rfl, rfl, p5, r5⟩
    have p5' := zPf_t p3' p5
    refine wp_iconst (q := 27) dX12_holdsTold_26 zq_iconst_1 rfl ?_
    refine wp_istore_n (q := 28) (loc' := [(2, _), (1, _), (0, _)]) dX12_holdsTold_27 rfl (by decide) rfl rfl ?_
    refine WP.sub (loc' := [(2, _), (1, _), (0, _)]) [0, 1, 2] rfl ?_
    refine C3 pp 1 M5 h30 (by decide) p5' ?_ hpp ?_
    · by_cases k : q1.1.2.2.1 = 0
      · have e : q2.1 = (zpWo T c q1.1 2 2).1 := by
          have z1 := x1 k
          rw [← hq2]
          unfold zpWo
          by_cases z : T q1.1.1 4 = 2
          · rw [if_pos (by omega), if_pos (by omega)]
          · rw [if_neg (by omega), if_neg (by omega)]
        rw [e]
        exact r5
      · exact zRp_q (p := (zpWo T c q1.1 2 2).1) r5 (fun e => k (zfq_0 zfq_Wo e)) hq2c (fun _ => by rw [f2 k, zfq_Wo k])
    · intro k3
      have k := zfq_0 f2 k3
      have z1 := x1 k
      rw [← hq2] at k3 ⊢
      unfold zpWo at k3 ⊢
      by_cases z : T q1.1.1 4 = 2
      · rw [if_pos (by omega)]
        show 1 = T q1.1.1 4 - 1
        omega
      · rw [if_neg (by omega)] at k3
        exact absurd k3 (zpf_b (by decide))
set_option maxHeartbeats 4000000 in
set_option maxRecDepth 100000 in
theorem sp_mhatsTold {d t len c : Nat} {p : zP} {M : zMI} {L : zML} {b : Nat → Nat} {D T : zDD} (k0 : p.2.2.1 = 0) (h : zRp M b len T c (zpn c p)) (hT : zTok b len T c) (hW : zWds M) (hD : zMD M L D) {r : zP × zDD} (hr : zrT T c p D = r) : Sy yX12_hatsTold YX12_hatsTold (d + 5) [.ref 177] M L (zRf t) (fun v0 M' L' R' => zTQ M L b len T c t r v0 M' L' R') := by
  refine Sp.of (by decide +kernel) rfl (fun h => by first | exact h | cases h) (Nat.le_of_ble_eq_true rfl) ?_
  intro w G
  obtain ⟨ha, ha6⟩ := h.2.1 k0
  have hE := zTok_TE hT
  have n8 := hD.1.2.1
  unfold zrT at hr
  obtain ⟨q1, hq1⟩ : ∃ q, ztp T c (zpn c p) (D 0 1) (D 1) = q := ⟨_, rfl⟩
  rw [hq1] at hr
  unfold zrT1 at hr
  have f4 : zfq q1.1 (zpNu T c q1.1 9).1 := zfq_Nu
  obtain ⟨q4, hq4⟩ : ∃ q, zpNu T c q1.1 9 = q := ⟨_, rfl⟩
  rw [hq4] at hr f4
  unfold zrT2 at hr
  have hr1 : r.1 = q4.1 := by rw [← hr]
  refine wp_aload_n (q := 1) dX12_hatsTold_0 0 rfl rfl ?_
  refine wp_cvy (q := 4) (sp_mpersonHere (d := 0) (r := q1) (o6 := p.2.1) (y6 := p.2.2.2) ha ha6 hT hW hD.1 (by rw [← zpn_t k0]; exact hq1)) zm_X12_personHere zl_RX12_310 dX12_hatsTold_1 rfl (by omega) (Nat.le_of_ble_eq_true rfl) zsh_177 rfl rfl ?_
  rintro _ M2 L2 _ ⟨pp, rfl, rfl, rfl, p2, r2, hpp, h30⟩
  refine wp_istore_n (q := 5) (loc' := [(1, _), (0, _)]) dX12_hatsTold_4 rfl (by decide) rfl rfl ?_
  refine wp_aload_n (q := 6) dX12_hatsTold_5 1 rfl rfl ?_
  refine wp_iconst (q := 7) dX12_hatsTold_6 zq_iconst_0 rfl ?_
  refine wp_bipush (q := 9) dX12_hatsTold_7 zq_bipush_9 rfl ?_
  refine wp_cvy (q := 12) (sp_mnumberR (d := 3) (ms := 9) r2 hT (by decide)) zm_X12_number zl_RX12_306 dX12_hatsTold_9 rfl (by omega) (Nat.le_of_ble_eq_true rfl) zsh_177 rfl rfl ?_
  rintro _ M4 L4 _ ⟨a, rfl, rfl, rfl, p4, r4, ha4⟩
  rw [hq4] at r4 ha4
  have p4' := zPf_t p2 p4
  by_cases k6 : q4.1.2.2.1 = 0
  · have k1 := zfq_0 f4 k6
    obtain ⟨ha7, -⟩ := r4.2.1 k6
    obtain ⟨g1, g2⟩ := hpp k1
    have hD6 := zMD_p hD p4'
    rw [ha4 k6]
    skip
    refine wp_istore_n (q := 13) (loc' := [(2, _), (1, _), (0, _)]) dX12_hatsTold_12 rfl (by decide) rfl rfl ?_
    refine wp_aload_n (q := 14) dX12_hatsTold_13 2 rfl rfl ?_
    refine wp_getI (q := 17) dX12_hatsTold_14 zf_RX12_236 rfl zsh_177 rfl ?_
    rw [ha7.2.1]
    refine wp_if_neN (tgt := 32) (q := 20) dX12_hatsTold_17 (by decide) rfl (by omega) (fun hn => absurd hn (by first | omega | exact fun h => h | exact fun h => h trivial)) (fun _ => ?_)
    refine wp_aload_n (q := 21) dX12_hatsTold_20 2 rfl rfl ?_
    refine wp_getR (q := 24) dX12_hatsTold_21 zf_RX12_100 rfl zsh_177 (zr_177_37 _) rfl ?_
    refine wp_bipush (q := 26) dX12_hatsTold_24 zq_bipush_7 rfl ?_
    refine wp_iload_n (q := 27) dX12_hatsTold_26 1 rfl rfl ?_
    refine wp_imulN (q := 28) dX12_hatsTold_27 rfl ?_
    refine wp_iconst (q := 29) dX12_hatsTold_28 zq_iconst_2 rfl ?_
    refine wp_iaddN (q := 30) dX12_hatsTold_29 rfl ?_
    refine wp_iload_n (q := 31) dX12_hatsTold_30 0 rfl rfl ?_
    refine wp_iast (q := 32) _ dX12_hatsTold_31 zsh_206 rfl (by omega) (by decide) rfl ?_
    refine wp_return dX12_hatsTold_32 rfl ⟨rfl, ⟨rfl, rfl, ?_, ?_, fun _ => ?_⟩⟩ rfl rfl
    · refine zTr_w (zTr_pf p4') ?_
      unfold zTx
      omega
    · rw [hr1]
      exact zRp_up r4 (by rw [zu_ne (by decide)]) (by rw [zu_ne (by decide)])
    · rw [← hr, if_pos (by omega), g1]
      exact zMD_T hD6
  · obtain ⟨g1, g2, g3⟩ := r4.2.2 k6
    obtain ⟨kk, hkk⟩ : ∃ kk, q4.1.2.2.1 = kk := ⟨_, rfl⟩
    rw [hkk] at g1 g2
    have hk0 : kk ≠ 0 := by rw [← hkk]; exact k6
    refine wp_istore_n (q := 13) (loc' := [(2, _), (1, _), (0, _)]) dX12_hatsTold_12 rfl (by decide) rfl rfl ?_
    refine wp_aload_n (q := 14) dX12_hatsTold_13 2 rfl rfl ?_
    refine wp_getI (q := 17) dX12_hatsTold_14 zf_RX12_236 rfl zsh_177 rfl ?_
    rw [g2]
    refine wp_if_neN (tgt := 32) (q := 20) dX12_hatsTold_17 (by decide) rfl (by omega) (fun _ => ?_) (fun hn => absurd hn (by first | omega | exact fun h => h | exact fun h => h trivial))
    exact wp_return dX12_hatsTold_32 rfl ⟨rfl, ⟨rfl, rfl, zTr_pf p4', by rw [hr1]; exact r4, fun e => absurd (by rw [← hr1]; exact e) k6⟩⟩ rfl rfl

