theorem zTT_fr2 {M M' : zMI} {T : Nat → Nat → Nat} {c : Nat} {p : zP} (h : zTT M T c p) (e : ∀ x, 2 ≤ x → x < 9 → M' x = M x) : zTT M' T c p := by
  obtain ⟨a, b1, c1, d1, e1, e2, e3, e4, e5, g⟩ := h
  refine ⟨a, b1, c1, d1, by rw [e 2 (by decide) (by decide)]; exact e1, by rw [e 2 (by decide) (by decide)]; exact e2, by rw [e 2 (by decide) (by decide)]; exact e3, by rw [e 2 (by decide) (by decide)]; exact e4, by rw [e 2 (by decide) (by decide)]; exact e5, fun i hi => ?_⟩
  rw [e 3 (by decide) (by decide), e 4 (by decide) (by decide), e 5 (by decide) (by decide), e 6 (by decide) (by decide), e 7 (by decide) (by decide)]
  exact g i hi
set_option maxHeartbeats 4000000 in
set_option maxRecDepth 100000 in
theorem sp_table {d t n : Nat} {M : zMI} {L : zML} {g : zGd} {v : Nat → Nat} {hs : List (Nat → Nat)} {m : zMs} (h : zCI M L t n g v hs m) : Sy yX11_table YX11_table (d + 41) [.ref 0] M L (zRf t) (zTbP M L t n g v hs m) := by
  refine Sp.of (by decide +kernel) rfl (fun h => by first | exact h | cases h) (Nat.le_of_ble_eq_true rfl) ?_
  intro w G
  have hT := h.1
  have ht2 : t = 10 ∨ t = 24 := hT
  have hTu : zTab (34 - t) := by rcases ht2 with rfl | rfl <;> simp [zTab]
  have hu2 : 34 - t = 10 ∨ 34 - t = 24 := hTu
  obtain ⟨s0, s1, s2, s3, s4, s5, s6, s7, s8, s11⟩ := zTab_s hTu
  have hc5 := (zCI_cm h).2.1
  have hb5 := (zCI_cm h).2.2.1
  refine wp_aload_n (q := 1) dX11_table_0 0 rfl rfl ?_
  refine wp_cvy (q := 4) (sp_readTape (d := d) h) zm_X11_readTape zl_RX11_128 dX11_table_1 rfl (by omega) (Nat.le_of_ble_eq_true rfl) zsh_0 rfl rfl ?_
  rintro _ M1 _ _ ⟨rfl, rfl, rfl, ⟨T, c, hTT, hTk⟩, e1, e0, hx1⟩
  have hE := zTok_TE hTk
  have hQ := zok_0 (T := T) hE.1
  have hcc : c ≤ 1601 := hTT.2.1
  have hdx : zDx M (34 - t) := by
    rcases ht2 with rfl | rfl
    · exact h.2.2.2.2.2.2.2.2.2.1
    · exact h.2.2.2.2.2.2.2.2.1
  obtain ⟨D, Fm, Fs, q1, q2, q3⟩ := zDx_fr (M' := M1) hdx (fun x x1 x2 x3 => hx1 x (by omega))
  obtain ⟨r, hr⟩ : ∃ r, zrl T c 60 ((0, nI 0, 0, -1), zDz D, Fm, Fs) = r := ⟨_, rfl⟩
  refine wp_aload_n (q := 5) dX11_table_4 0 rfl rfl ?_
  refine wp_getR (q := 8) dX11_table_5 zf_RX11_40 rfl zsh_0 (by first | rfl | assumption) rfl ?_
  refine wp_aload_n (q := 9) dX11_table_8 0 rfl rfl ?_
  refine wp_getR (q := 12) dX11_table_9 zf_RX11_20 rfl zsh_0 (by first | rfl | assumption) rfl ?_
  refine wp_aload_n (q := 13) dX11_table_12 0 rfl rfl ?_
  refine wp_getR (q := 16) dX11_table_13 zf_RX11_29 rfl zsh_0 (by first | rfl | assumption) rfl ?_
  refine wp_cvy (q := 19) (sp_treadAll (d := d) hTu hE hQ hTT q1 q2 q3 hr) zm_X9_readAll zl_RX11_131 dX11_table_16 rfl (by omega) (Nat.le_of_ble_eq_true rfl) (by first | assumption | rfl) rfl rfl ?_
  rintro _ M2 _ _ ⟨rfl, rfl, rfl, hA, hc, hk, hx2⟩
  have hI : zSI r := by rw [← hr]; exact zSI_rl hE hcc 60 _ hQ zSI_0
  obtain ⟨-, -, -, z5, -, -, -, z10, z11, -⟩ := hA.1
  refine wp_aload_n (q := 20) dX11_table_19 0 rfl rfl ?_
  refine wp_cvx (q := 23) (sp_keepFault (d := 0)) zm_X11_keepFault zl_RX11_134 dX11_table_20 rfl (by omega) (Nat.le_of_ble_eq_true rfl) zsh_0 rfl rfl ?_
  rw [z10, z11]
  have x02 : M2 0 = M1 0 := hx2 0 (by decide) (by decide) (by omega)
  obtain ⟨M3, hM3⟩ : ∃ M3, zu (zu M2 0 16 (nI r.1.2.2.1)) 0 17 r.1.2.2.2 = M3 := ⟨_, rfl⟩
  rw [hM3]
  have g16 : M3 0 16 = nI r.1.2.2.1 := by rw [← hM3, zu_k (by decide), zu_s]
  have g17 : M3 0 17 = r.1.2.2.2 := by rw [← hM3, zu_s]
  have g0 : ∀ j, j ≠ 16 → j ≠ 17 → M3 0 j = M1 0 j := fun j j1 j2 => by rw [← hM3, zu_k j2, zu_k j1, x02]
  have gx : ∀ x, x ≠ 0 → M3 x = M2 x := fun x hx => by rw [← hM3, zu_ne hx, zu_ne hx]
  have gf : ∀ x, ¬ zScr x → x ≠ 0 → (x < 34 - t ∨ 34 - t + 13 < x) → M3 x = M x := fun x y1 y2 y3 => by
    unfold zScr at y1
    rw [gx x y2, hx2 x (by omega) (by omega) (by omega), hx1 x (by omega)]
  have hA3 : zTA M3 T c (34 - t) r := ⟨zTT_fr2 hA.1 (fun x y1 y2 => gx x (by omega)), zDT_fr hTu hA.2.1 (fun x y1 y2 => gx x (by omega)), zFT_fr hA.2.2.1 (gx _ (by omega)) (gx _ (by omega)), zFT_fr hA.2.2.2 (gx _ (by omega)) (gx _ (by omega))⟩
  have hcm : zCI M3 L t n g v hs (zMf m (nI r.1.2.2.1) r.1.2.2.2) := zCI_told h (by rw [g0 1 (by decide) (by decide)]; exact e1) g16 g17 (fun j j1 j2 j3 => by rw [g0 j j2 j3, e0 j j1]) (fun x _ y1 y2 y3 => gf x y1 y2 y3) ⟨_, _, _, hA3.2⟩ (by rw [gx 151 (by decide), hx2 151 (by decide) (by decide) (by omega), hx1 151 (by decide)])
  have hxf : zXf M M3 L L := fun x hx => ⟨gf x (by unfold zScr; omega) (by omega) (by omega), rfl⟩
  refine wp_aload_n (q := 24) dX11_table_23 0 rfl rfl ?_
  refine wp_getI (q := 27) dX11_table_24 zf_RX11_107 rfl zsh_0 rfl ?_
  rw [g16]
  refine wp_if_eqN (tgt := 36) (q := 30) dX11_table_27 (by decide) rfl (by omega) (fun hz => ?_) (fun hz => ?_)
  · skip
    refine wp_aload_n (q := 37) dX11_table_36 0 rfl rfl ?_
    have cc := zCI_ct hcm
    obtain ⟨a1, a2, a3, a4, ⟨nx, a5⟩, a6, a7, a8, a9, a10, a11⟩ := hcm
    have hct := zCt_told hA3 hc hI hz
    refine wp_getR (q := 40) dX11_table_37 zf_RX11_36 rfl zsh_0 (by first | rfl | assumption) rfl ?_
    refine wp_astore_n (q := 41) (loc' := [(1, _), (0, _)]) dX11_table_40 rfl (by decide) rfl rfl ?_
    refine wp_aload_n (q := 42) dX11_table_41 1 rfl rfl ?_
    refine wp_aload_n (q := 43) dX11_table_42 1 rfl rfl ?_
    refine wp_getR (q := 46) dX11_table_43 zf_RX11_40 rfl zsh_0 (by first | rfl | assumption) rfl ?_
    refine wp_putR (q := 49) dX11_table_46 zf_RX11_36 rfl zsh_0 rfl ?_
    refine wp_aload_n (q := 50) dX11_table_49 1 rfl rfl ?_
    refine wp_aload_n (q := 51) dX11_table_50 0 rfl rfl ?_
    refine wp_putR (q := 54) dX11_table_51 zf_RX11_40 rfl zsh_0 rfl ?_
    refine wp_aload_n (q := 55) dX11_table_54 1 rfl rfl ?_
    refine wp_getR (q := 58) dX11_table_55 zf_RX11_71 rfl zsh_0 (by rw [zu_k (by decide), zu_k (by decide)]; exact zr_0_9 _) rfl ?_
    refine wp_aload_n (q := 59) dX11_table_58 1 rfl rfl ?_
    refine wp_getR (q := 62) dX11_table_59 zf_RX11_36 rfl zsh_0 (by rw [zu_k (by decide), zu_s]) rfl ?_
    refine wp_putR (q := 65) dX11_table_62 zf_RX11_137 rfl zsh_150 rfl ?_
    rw [zRf_sw hT]
    refine wp_aload_n (q := 66) dX11_table_65 1 rfl rfl ?_
    refine wp_getR (q := 69) dX11_table_66 zf_RX11_55 rfl zsh_0 (by first | rfl | assumption) rfl ?_
    refine wp_aload_n (q := 70) dX11_table_69 1 rfl rfl ?_
    refine wp_getR (q := 73) dX11_table_70 zf_RX11_36 rfl zsh_0 (by first | rfl | assumption) rfl ?_
    refine wp_cvy (q := 76) (sp_begin (d := 0) (t := 34 - t) hTu) zm_X7_begin zl_RX11_138 dX11_table_73 rfl (by omega) (Nat.le_of_ble_eq_true rfl) zsh_43 rfl rfl ?_
    rintro _ M4 _ _ ⟨rfl, rfl, rfl, b0, b1, b2, b3, b4, b5, b6, b7, hx4⟩
    refine wp_aload_n (q := 77) dX11_table_76 1 rfl rfl ?_
    refine wp_getR (q := 80) dX11_table_77 zf_RX11_62 rfl zsh_0 (by first | rfl | assumption) rfl ?_
    refine wp_cvx (q := 83) (sp_forget (d := 0)) zm_X2_forget zl_RX11_141 dX11_table_80 rfl (by omega) (Nat.le_of_ble_eq_true rfl) zsh_48 rfl rfl ?_
    refine wp_aload_n (q := 84) dX11_table_83 1 rfl rfl ?_
    refine wp_cvx (q := 87) (sp_forgetA (d := 0)) zm_X11_forgetAnswers zl_RX11_144 dX11_table_84 rfl (by omega) (Nat.le_of_ble_eq_true rfl) zsh_0 rfl rfl ?_
    have k1 : zu (zu (zu M4 48 2 (nI 0)) 156 3 (nI 0)) 167 7 (nI 0) 156 3 = nI 0 := by rw [zu_ne (by decide), zu_s]
    have fx : ∀ x, (x < 43 ∨ 48 < x) → x ≠ 156 → x ≠ 167 → zu (zu (zu M4 48 2 (nI 0)) 156 3 (nI 0)) 167 7 (nI 0) x = M3 x := fun x x1 x2 x3 => by rw [zu_ne x3, zu_ne x2, zu_ne (by omega)]; exact hx4 x (by omega)
    have f4 : ∀ x, x < 48 → zu (zu (zu M4 48 2 (nI 0)) 156 3 (nI 0)) 167 7 (nI 0) x = M4 x := fun x x1 => by rw [zu_ne (by omega), zu_ne (by omega), zu_ne (by omega)]
    obtain ⟨M6, hM6⟩ : ∃ M6, zu (zu (zu M4 48 2 (nI 0)) 156 3 (nI 0)) 167 7 (nI 0) = M6 := ⟨_, rfl⟩
    have k2 : zu (zu (zu M4 48 2 (nI 0)) 156 3 (nI 0)) 167 7 (nI 0) 167 7 = nI 0 := zu_s
    have k3 : zu (zu (zu M4 48 2 (nI 0)) 156 3 (nI 0)) 167 7 (nI 0) 48 2 = nI 0 := by rw [zu_ne (by decide), zu_ne (by decide), zu_s]
    have k4 : zu (zu (zu M4 48 2 (nI 0)) 156 3 (nI 0)) 167 7 (nI 0) 48 1 = M3 48 1 := by rw [zu_ne (by decide), zu_ne (by decide), zu_k (by decide), hx4 48 (by decide)]
    rw [hM6] at k1 k2 k3 k4 fx f4
    rw [hM6]
    have hD := hA3.2.1
    refine wp_aload_n (q := 88) dX11_table_87 1 rfl rfl ?_
    refine wp_getR (q := 91) dX11_table_88 zf_RX11_36 rfl zsh_0 (by first | rfl | assumption) rfl ?_
    refine wp_getI (q := 94) dX11_table_91 zf_RX11_147 rfl (by first | assumption | rfl) rfl ?_
    rw [fx (34 - t) (by omega) (by omega) (by omega), zDT_0 hD (k := 0) (by simp [zDk])]
    have hsr : zSR M6 43 (r.2.1 0 1) (zv0 r.2.1) := by
      refine ⟨by rw [f4 43 (by decide), b0]; exact zDT_0 hD (by simp [zDk]), by rw [f4 43 (by decide), b1]; rfl, by rw [f4 43 (by decide), b2]; rfl, by rw [f4 43 (by decide), b3]; rfl, fun s hs => ?_⟩
      have hs8 : s < 8 := by have := hc.1.1; omega
      rw [f4 44 (by decide), f4 45 (by decide), f4 46 (by decide), f4 47 (by decide), zv0_w, zv0_h]
      refine ⟨b4 s hs8, by rw [b5 s hs8]; exact hD 5 s (by decide) (Or.inl (by decide)), fun hd hh => ?_⟩
      rw [zv0_g s hh, zv0_l s hh, b6 _ (by omega), b7 _ (by omega)]
      exact ⟨hD 3 _ (by decide) (Or.inl (by decide)), hD 4 _ (by decide) (Or.inl (by decide))⟩
    have hci : zCI M6 L (34 - t) (r.2.1 0 1) (zTg r.2.1 r.2.2.1 r.2.2.2) (zv0 r.2.1) [] (zMf m (nI 0) r.1.2.2.2) := by
      refine ⟨hTu, zV_0 hc.1.1 hI.1, zCt_fr hct (fun x x1 x2 x3 => fx x (by omega) (by omega) (by omega)), hsr, ⟨nx, a5.1, Nat.zero_le _, by rw [k4]; exact a5.2.2.1, k3, fun i u hi => by simp at hi⟩, zPM_fr a6 (fx 151 (by decide) (by decide) (by decide)), ⟨Or.inl k1, Or.inl k2⟩, ?_, zDx_fr a9 (fun x x1 x2 x3 => fx x (by omega) (by omega) (by omega)), zDx_fr a10 (fun x x1 x2 x3 => fx x (by omega) (by omega) (by omega)), fun w hw => by rw [fx 8 (by decide) (by decide) (by decide)]; exact a11 w hw⟩
      rw [hz] at a8
      exact zCm_fr a8 (fx 0 (by decide) (by decide) (by decide)) (fx 1 (by decide) (by decide) (by decide)) (fx 175 (by decide) (by decide) (by decide)) (fx 176 (by decide) (by decide) (by decide))
    exact wp_ireturn dX11_table_94 rfl ⟨rfl, ⟨T, c, D, Fm, Fs, r, hTk, hr, hc, hI, hk, fun x hx => ⟨by rw [fx x (by omega) (by omega) (by omega)]; exact (hxf x hx).1, rfl⟩, Or.inr ⟨hz, rfl, rfl, hci⟩⟩⟩ rfl rfl
  · skip
    refine wp_aload_n (q := 31) dX11_table_30 0 rfl rfl ?_
    refine wp_iconst (q := 32) dX11_table_31 zq_iconst_1 rfl ?_
    refine wp_cvx (q := 35) (sp_refuse (d := 0) (k := 1) (by decide)) zm_X11_refuse zl_RX11_116 dX11_table_32 rfl (by omega) (Nat.le_of_ble_eq_true rfl) zsh_0 rfl rfl ?_
    exact wp_ireturn dX11_table_35 rfl ⟨rfl, ⟨T, c, D, Fm, Fs, r, hTk, hr, hc, hI, hk, fun x hx => ⟨by rw [zu_ne (by omega)]; exact (hxf x hx).1, rfl⟩, Or.inl ⟨hz, z5, rfl, rfl, zCI_rf hcm (by decide)⟩⟩⟩ rfl rfl

