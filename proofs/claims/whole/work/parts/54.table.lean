def zrB3 (D : zDD) (nm : Nat) (r : zP × Nat) : zP × zDD := (r.1, zu (zu (zu D 6 (D 0 7) nm) 7 (D 0 7) r.2) 0 7 (D 0 7 + 1))
def zrB1 (T : zDD) (c : Nat) (D : zDD) (r : zP × Nat) : zP × zDD := zrB3 D r.2 (zpNu T c (zpWo T c r.1 8 8).1 100)
def zrB (T : zDD) (c : Nat) (p : zP) (D : zDD) : zP × zDD := if D 0 7 < 4 then zrB1 T c D (ztn T c (zpn c p) (D 0 1) (D 1) (D 0 7) (D 6)) else (zpf c p 5 (nI (T p.1 1)), D)
set_option maxHeartbeats 4000000 in
set_option maxRecDepth 100000 in
theorem sp_readBox {d t u c : Nat} {M : zMI} {L : zML} {D T : zDD} {p : zP} (hu : zTab u) (h : zTT M T c p) (hD : zDT M u D) (hb : zDb D) {r : zP × zDD} (hr : zrB T c p D = r) : Sy yX9_readBox YX9_readBox (d + 4) [.ref u, .ref 2] M L (zRf t) (fun v0 M' L' R' => zTPo M L T c u t r v0 M' L' R') := by
  refine Sp.of (by decide +kernel) rfl (fun h => by first | exact h | cases h) (Nat.le_of_ble_eq_true rfl) ?_
  intro w G
  obtain ⟨s0, s1, s2, s3, s4, s5, s6, s7, s8, s11⟩ := zTab_s hu
  obtain ⟨r2, r3, r4, r5, r6, r8, r9, r13, r14⟩ := zTab_r (t := t) hu
  have hu2 : u = 10 ∨ u = 24 := hu
  have hn4 := hb.2.1
  have hn := zDT_0 hD (k := 7) (by simp [zDk])
  unfold zrB at hr
  refine wp_aload_n (q := 1) dX9_readBox_0 0 rfl rfl ?_
  refine wp_getI (q := 4) dX9_readBox_1 zf_RX9_34 rfl (by first | assumption | rfl) rfl ?_
  rw [hn]
  refine wp_iconst (q := 5) dX9_readBox_4 zq_iconst_4 rfl ?_
  refine wp_icmp_ltN (tgt := 18) (q := 8) dX9_readBox_5 (by decide) rfl (by omega) (by omega) (fun hlt => ?_) (fun hlt => ?_)
  · skip
    rw [if_pos hlt] at hr
    refine wp_aload_n (q := 19) dX9_readBox_18 1 rfl rfl ?_
    refine wp_cvy (q := 22) (sp_next (d := 0) h) zm_X10_next zl_RX9_114 dX9_readBox_19 rfl (by omega) (Nat.le_of_ble_eq_true rfl) zsh_2 rfl rfl ?_
    rintro _ M2 _ _ ⟨rfl, rfl, rfl, h2, hx2⟩
    have hD2 := zDT_2 hu hD hx2
    have hn2 := zDT_0 hD2 (k := 7) (by simp [zDk])
    refine wp_aload_n (q := 23) dX9_readBox_22 0 rfl rfl ?_
    refine wp_getR (q := 26) dX9_readBox_23 zf_RX9_37 rfl (by first | assumption | rfl) (by first | assumption | rfl) rfl ?_
    refine wp_aload_n (q := 27) dX9_readBox_26 0 rfl rfl ?_
    refine wp_getI (q := 30) dX9_readBox_27 zf_RX9_34 rfl (by first | assumption | rfl) rfl ?_
    rw [hn2]
    refine wp_aload_n (q := 31) dX9_readBox_30 0 rfl rfl ?_
    refine wp_aload_n (q := 32) dX9_readBox_31 1 rfl rfl ?_
    obtain ⟨q1, hq1⟩ : ∃ q, ztn T c (zpn c p) (D 0 1) (D 1) (D 0 7) (D 6) = q := ⟨_, rfl⟩
    rw [hq1] at hr
    refine wp_cvy (q := 35) (sp_newName (d := 0) hu h2 (zDT_n hD2 hb) hq1) zm_X9_newName zl_RX9_117 dX9_readBox_32 rfl (by omega) (Nat.le_of_ble_eq_true rfl) (by first | assumption | rfl) rfl rfl ?_
    rintro _ M3 _ _ ⟨rfl, rfl, rfl, h3, hx3⟩
    have hD3 := zDT_w (zDT_2 hu hD2 hx3) 6 (D 0 7) q1.2
    refine wp_iast (q := 36) _ dX9_readBox_35 (by first | assumption | rfl) rfl (by omega) (by decide) rfl ?_
    have h3' := zTT_u (M' := zu M3 (u + 6) (D 0 7) (nI q1.2)) hu h3 (fun x hx => zu_ne (by omega))
    refine wp_aload_n (q := 37) dX9_readBox_36 1 rfl rfl ?_
    refine wp_bipush (q := 39) dX9_readBox_37 zq_bipush_8 rfl ?_
    refine wp_cvy (q := 42) (sp_needWord (d := 0) (f := 8) h3' (by decide)) zm_X10_needWord zl_RX9_121 dX9_readBox_39 rfl (by omega) (Nat.le_of_ble_eq_true rfl) zsh_2 rfl rfl ?_
    rintro _ M4 _ _ ⟨rfl, rfl, rfl, h4, hx4⟩
    have hD4 := zDT_2 hu hD3 hx4
    unfold zrB1 at hr
    obtain ⟨q2, hq2⟩ : ∃ q, zpNu T c (zpWo T c q1.1 8 8).1 100 = q := ⟨_, rfl⟩
    rw [hq2] at hr
    refine wp_aload_n (q := 43) dX9_readBox_42 0 rfl rfl ?_
    refine wp_getR (q := 46) dX9_readBox_43 zf_RX9_40 rfl (by first | assumption | rfl) (by first | assumption | rfl) rfl ?_
    refine wp_aload_n (q := 47) dX9_readBox_46 0 rfl rfl ?_
    refine wp_getI (q := 50) dX9_readBox_47 zf_RX9_34 rfl (by first | assumption | rfl) rfl ?_
    have hn4' := zDT_0 hD4 (k := 7) (by simp [zDk])
    rw [hn4', show zu D 6 (D 0 7) q1.2 0 7 = D 0 7 from rfl]
    refine wp_aload_n (q := 51) dX9_readBox_50 1 rfl rfl ?_
    refine wp_bipush (q := 53) dX9_readBox_51 zq_bipush_100 rfl ?_
    refine wp_cvy (q := 56) (sp_needNumber (d := 0) (m := 100) h4 (by decide)) zm_X10_needNumber zl_RX9_124 dX9_readBox_53 rfl (by omega) (Nat.le_of_ble_eq_true rfl) zsh_2 rfl rfl ?_
    rintro _ M5 _ _ ⟨rfl, rfl, rfl, h5, hx5⟩
    rw [hq2] at h5
    rw [hq2]
    have hD5 := zDT_w (zDT_2 hu hD4 hx5) 7 (D 0 7) q2.2
    refine wp_iast (q := 57) _ dX9_readBox_56 (by first | assumption | rfl) rfl (by omega) (by decide) rfl ?_
    refine wp_aload_n (q := 58) dX9_readBox_57 0 rfl rfl ?_
    refine wp_dup (q := 59) dX9_readBox_58 rfl rfl ?_
    refine wp_getI (q := 62) dX9_readBox_59 zf_RX9_34 rfl (by first | assumption | rfl) rfl ?_
    have hn5 := zDT_0 hD5 (k := 7) (by simp [zDk])
    rw [hn5, show zu (zu D 6 (D 0 7) q1.2) 7 (D 0 7) q2.2 0 7 = D 0 7 from rfl]
    refine wp_iconst (q := 63) dX9_readBox_62 zq_iconst_1 rfl ?_
    refine wp_iaddN (q := 64) dX9_readBox_63 rfl ?_
    refine wp_putI (q := 67) dX9_readBox_64 zf_RX9_34 rfl (by first | assumption | rfl) rfl ?_
    have hD6 := zDT_w hD5 0 7 (D 0 7 + 1)
    refine wp_return dX9_readBox_67 rfl ⟨rfl, ⟨rfl, rfl, rfl, ?_, by rw [← hr]; exact hD6, fun x x2 xu => ?_⟩⟩ rfl rfl
    · rw [← hr]
      refine zTT_u hu h5 (fun x hx => ?_)
      rw [zu_ne (by omega), zu_ne (by omega)]
    · rw [zu_ne (by omega), zu_ne (by omega), hx5 x x2, hx4 x x2, zu_ne (by omega), hx3 x x2, hx2 x x2]
  · skip
    rw [if_neg (by omega)] at hr
    refine wp_aload_n (q := 9) dX9_readBox_8 1 rfl rfl ?_
    refine wp_iconst (q := 10) dX9_readBox_9 zq_iconst_5 rfl ?_
    refine wp_aload_n (q := 11) dX9_readBox_10 1 rfl rfl ?_
    refine wp_cvx (q := 14) (sp_place (d := 0) h) zm_X10_place zl_RX9_72 dX9_readBox_11 rfl (by omega) (Nat.le_of_ble_eq_true rfl) zsh_2 rfl rfl ?_
    refine wp_cvy (q := 17) (sp_fail (d := 0) (y := nI (T p.1 1)) h (by decide : 5 ≤ 5)) zm_X10_fail zl_RX9_76 dX9_readBox_14 rfl (by omega) (Nat.le_of_ble_eq_true rfl) zsh_2 rfl rfl ?_
    rintro _ M3 _ _ ⟨rfl, rfl, rfl, h3, hx3⟩
    exact wp_return dX9_readBox_17 rfl ⟨rfl, ⟨rfl, rfl, rfl, by rw [← hr]; exact h3, by rw [← hr]; exact zDT_2 hu hD hx3, fun x x2 _ => hx3 x x2⟩⟩ rfl rfl
theorem zfi_lt {nm : Nat → Nat} {x : Nat} : ∀ k i, zfi nm x k i < 30 → i + k ≤ 30 → zfi nm x k i < i + k := by
  intro k
  induction k with
  | zero => intro i h; exact absurd h (by simp [zfi])
  | succ k ih =>
    intro i h h2
    rw [zfi] at h ⊢
    split
    · omega
    · rename_i hh
      rw [if_neg hh] at h
      have := ih (i + 1) h (by omega)
      omega
theorem ztp_lt {T : zDD} {c n : Nat} {p : zP} {nm : Nat → Nat} (h8 : n ≤ 8) : (ztp T c p n nm).2 < 30 → (ztp T c p n nm).2 < n := by
  unfold ztp
  split
  · split
    · intro h
      have := zfi_lt n 0 h (by omega)
      show zfi nm (zpNa T c p).2 n 0 < n
      omega
    · intro h
      have h' : 99 < 30 := h
      omega
  · intro h
    have h' : 99 < 30 := h
    omega
theorem ztp_v {T : zDD} {c n : Nat} {p : zP} {nm : Nat → Nat} : (ztp T c p n nm).2 < 30 ∨ (ztp T c p n nm).2 = 99 := by
  unfold ztp
  split
  · split
    · rename_i h
      exact Or.inl h
    · exact Or.inr rfl
  · exact Or.inr rfl
theorem zpWo_d {T : zDD} {c f l : Nat} {p : zP} : (zpWo T c p f l).2 ≤ l - f := by
  unfold zpWo
  split
  · rename_i h
    show T p.1 4 - f ≤ l - f
    omega
  · exact Nat.zero_le _
def zrH4 (D : zDD) (a b e : Nat) (r : zP × Nat) : zP × zDD := (r.1, if a < 30 then zu (zu D 3 (2 * a + b) e) 4 (2 * a + b) r.2 else D)
def zrH3 (T : zDD) (c : Nat) (D : zDD) (a b : Nat) (r : zP × Nat) : zP × zDD := zrH4 D a b r.2 (zpNu T c r.1 9)
def zrH2 (T : zDD) (c : Nat) (D : zDD) (a : Nat) (r : zP × Nat) : zP × zDD := zrH3 T c D a r.2 (zpWo T c r.1 4 6)
def zrH1 (T : zDD) (c : Nat) (D : zDD) (r : zP × Nat) : zP × zDD := zrH2 T c D r.2 (zpWo T c r.1 1 2)
def zrH (T : zDD) (c : Nat) (p : zP) (D : zDD) : zP × zDD := zrH1 T c D (ztp T c (zpn c p) (D 0 1) (D 1))
set_option maxHeartbeats 4000000 in
set_option maxRecDepth 100000 in
theorem sp_readHolds {d t u c : Nat} {M : zMI} {L : zML} {D T : zDD} {p : zP} (hu : zTab u) (h : zTT M T c p) (hD : zDT M u D) (hb : zDb D) {r : zP × zDD} (hr : zrH T c p D = r) : Sy yX9_readHolds YX9_readHolds (d + 4) [.ref u, .ref 2] M L (zRf t) (fun v0 M' L' R' => zTPo M L T c u t r v0 M' L' R') := by
  refine Sp.of (by decide +kernel) rfl (fun h => by first | exact h | cases h) (Nat.le_of_ble_eq_true rfl) ?_
  intro w G
  obtain ⟨s0, s1, s2, s3, s4, s5, s6, s7, s8, s11⟩ := zTab_s hu
  obtain ⟨r2, r3, r4, r5, r6, r8, r9, r13, r14⟩ := zTab_r (t := t) hu
  have hu2 : u = 10 ∨ u = 24 := hu
  have h01 : ∀ z, z < 30 → (nI z : Int32) ≠ -1 := by decide +kernel
  unfold zrH at hr
  refine wp_aload_n (q := 1) dX9_readHolds_0 1 rfl rfl ?_
  refine wp_cvy (q := 4) (sp_next (d := 0) h) zm_X10_next zl_RX9_114 dX9_readHolds_1 rfl (by omega) (Nat.le_of_ble_eq_true rfl) zsh_2 rfl rfl ?_
  rintro _ M2 _ _ ⟨rfl, rfl, rfl, h2, hx2⟩
  have hD2 := zDT_2 hu hD hx2
  have hlt := ztp_lt (T := T) (c := c) (p := zpn c p) (nm := D 1) hb.1
  have hv := ztp_v (T := T) (c := c) (p := zpn c p) (nm := D 1) (n := D 0 1)
  obtain ⟨q1, hq1⟩ : ∃ q, ztp T c (zpn c p) (D 0 1) (D 1) = q := ⟨_, rfl⟩
  rw [hq1] at hr hlt hv
  refine wp_aload_n (q := 5) dX9_readHolds_4 0 rfl rfl ?_
  refine wp_aload_n (q := 6) dX9_readHolds_5 1 rfl rfl ?_
  refine wp_cvy (q := 9) (sp_toldPerson (d := 0) hu h2 (zDT_n hD2 hb) hq1) zm_X9_toldPerson zl_RX9_128 dX9_readHolds_6 rfl (by omega) (Nat.le_of_ble_eq_true rfl) (by first | assumption | rfl) rfl rfl ?_
  rintro _ M3 _ _ ⟨rfl, rfl, rfl, h3, hx3⟩
  have hD3 := zDT_2 hu hD2 hx3
  refine wp_istore_n (q := 10) (loc' := [(2, _), (0, _), (1, _)]) dX9_readHolds_9 rfl (by decide) rfl rfl ?_
  refine wp_aload_n (q := 11) dX9_readHolds_10 2 rfl rfl ?_
  refine wp_iconst (q := 12) dX9_readHolds_11 zq_iconst_1 rfl ?_
  refine wp_iconst (q := 13) dX9_readHolds_12 zq_iconst_2 rfl ?_
  refine wp_cvy (q := 16) (sp_needWordOf (d := 0) (f := 1) (l := 2) h3 (by decide) (by decide)) zm_X10_needWordOf zl_RX9_131 dX9_readHolds_13 rfl (by omega) (Nat.le_of_ble_eq_true rfl) zsh_2 rfl rfl ?_
  rintro _ M4 _ _ ⟨rfl, rfl, rfl, h4, hx4⟩
  have hD4 := zDT_2 hu hD3 hx4
  have hd2 := zpWo_d (T := T) (c := c) (f := 1) (l := 2) (p := q1.1)
  unfold zrH1 at hr
  obtain ⟨q2, hq2⟩ : ∃ q, zpWo T c q1.1 1 2 = q := ⟨_, rfl⟩
  rw [hq2] at hr hd2 h4 ⊢
  refine wp_istore_n (q := 17) (loc' := [(3, _), (2, _), (0, _), (1, _)]) dX9_readHolds_16 rfl (by decide) rfl rfl ?_
  refine wp_aload_n (q := 18) dX9_readHolds_17 3 rfl rfl ?_
  refine wp_iconst (q := 19) dX9_readHolds_18 zq_iconst_4 rfl ?_
  refine wp_bipush (q := 21) dX9_readHolds_19 zq_bipush_6 rfl ?_
  refine wp_cvy (q := 24) (sp_needWordOf (d := 0) (f := 4) (l := 6) h4 (by decide) (by decide)) zm_X10_needWordOf zl_RX9_131 dX9_readHolds_21 rfl (by omega) (Nat.le_of_ble_eq_true rfl) zsh_2 rfl rfl ?_
  rintro _ M5 _ _ ⟨rfl, rfl, rfl, h5, hx5⟩
  have hD5 := zDT_2 hu hD4 hx5
  unfold zrH2 at hr
  obtain ⟨q3, hq3⟩ : ∃ q, zpWo T c q2.1 4 6 = q := ⟨_, rfl⟩
  rw [hq3] at hr h5 ⊢
  refine wp_istore (q := 26) (loc' := [(4, _), (3, _), (2, _), (0, _), (1, _)]) dX9_readHolds_24 (by decide) rfl rfl ?_
  refine wp_aload_n (q := 27) dX9_readHolds_26 4 rfl rfl ?_
  refine wp_bipush (q := 29) dX9_readHolds_27 zq_bipush_9 rfl ?_
  refine wp_cvy (q := 32) (sp_needNumber (d := 0) (m := 9) h5 (by decide)) zm_X10_needNumber zl_RX9_124 dX9_readHolds_29 rfl (by omega) (Nat.le_of_ble_eq_true rfl) zsh_2 rfl rfl ?_
  rintro _ M6 _ _ ⟨rfl, rfl, rfl, h6, hx6⟩
  have hD6 := zDT_2 hu hD5 hx6
  unfold zrH3 zrH4 at hr
  obtain ⟨q4, hq4⟩ : ∃ q, zpNu T c q3.1 9 = q := ⟨_, rfl⟩
  rw [hq4] at hr h6 ⊢
  rcases hv with hv | hv
  · have hn8 := hb.1
    have hl8 := hlt hv
    rw [if_pos hv] at hr
    rw [show zwd q1.2 = nI q1.2 from if_pos hv]
    refine wp_istore (q := 34) (loc' := [(5, _), (4, _), (3, _), (2, _), (0, _), (1, _)]) dX9_readHolds_32 (by decide) rfl rfl ?_
    refine wp_iload_n (q := 35) dX9_readHolds_34 3 rfl rfl ?_
    refine wp_iconst (q := 36) dX9_readHolds_35 zq_iconst_m1 rfl ?_
    refine wp_icmp_eq (tgt := 63) (q := 39) dX9_readHolds_36 (by decide) rfl (fun hn => absurd hn (by exact h01 _ hv)) (fun _ => ?_)
    refine wp_aload_n (q := 40) dX9_readHolds_39 4 rfl rfl ?_
    refine wp_getR (q := 43) dX9_readHolds_40 zf_RX9_25 rfl (by first | assumption | rfl) (by first | assumption | rfl) rfl ?_
    refine wp_iconst (q := 44) dX9_readHolds_43 zq_iconst_2 rfl ?_
    refine wp_iload_n (q := 45) dX9_readHolds_44 3 rfl rfl ?_
    refine wp_imulN (q := 46) dX9_readHolds_45 rfl ?_
    refine wp_iload_n (q := 47) dX9_readHolds_46 2 rfl rfl ?_
    refine wp_iaddN (q := 48) dX9_readHolds_47 rfl ?_
    refine wp_iload (q := 50) dX9_readHolds_48 1 rfl rfl ?_
    refine wp_iast (q := 51) _ dX9_readHolds_50 (by first | assumption | rfl) rfl (by omega) (by decide) rfl ?_
    refine wp_aload_n (q := 52) dX9_readHolds_51 4 rfl rfl ?_
    refine wp_getR (q := 55) dX9_readHolds_52 zf_RX9_28 rfl (by first | assumption | rfl) (by first | assumption | rfl) rfl ?_
    refine wp_iconst (q := 56) dX9_readHolds_55 zq_iconst_2 rfl ?_
    refine wp_iload_n (q := 57) dX9_readHolds_56 3 rfl rfl ?_
    refine wp_imulN (q := 58) dX9_readHolds_57 rfl ?_
    refine wp_iload_n (q := 59) dX9_readHolds_58 2 rfl rfl ?_
    refine wp_iaddN (q := 60) dX9_readHolds_59 rfl ?_
    refine wp_iload (q := 62) dX9_readHolds_60 0 rfl rfl ?_
    refine wp_iast (q := 63) _ dX9_readHolds_62 (by first | assumption | rfl) rfl (by omega) (by decide) rfl ?_
    refine wp_return dX9_readHolds_63 rfl ⟨rfl, ⟨rfl, rfl, rfl, ?_, by rw [← hr]; exact zDT_w (zDT_w hD6 3 (2 * q1.2 + q2.2) q3.2) 4 (2 * q1.2 + q2.2) q4.2, fun x x2 xu => ?_⟩⟩ rfl rfl
    · rw [← hr]
      refine zTT_u hu h6 (fun x hx => ?_)
      rw [zu_ne (by omega), zu_ne (by omega)]
    · rw [zu_ne (by omega), zu_ne (by omega), hx6 x x2, hx5 x x2, hx4 x x2, hx3 x x2, hx2 x x2]
  · rw [if_neg (by omega)] at hr
    rw [hv, show zwd 99 = -1 from rfl]
    refine wp_istore (q := 34) (loc' := [(5, _), (4, _), (3, _), (2, _), (0, _), (1, _)]) dX9_readHolds_32 (by decide) rfl rfl ?_
    refine wp_iload_n (q := 35) dX9_readHolds_34 3 rfl rfl ?_
    refine wp_iconst (q := 36) dX9_readHolds_35 zq_iconst_m1 rfl ?_
    refine wp_icmp_eq (tgt := 63) (q := 39) dX9_readHolds_36 (by decide) rfl (fun _ => ?_) (fun hn => absurd hn (by exact fun c => c rfl))
    exact wp_return dX9_readHolds_63 rfl ⟨rfl, ⟨rfl, rfl, rfl, by rw [← hr]; exact h6, by rw [← hr]; exact hD6, fun x x2 _ => by rw [hx6 x x2, hx5 x x2, hx4 x x2, hx3 x x2, hx2 x x2]⟩⟩ rfl rfl
def zrT2 (D : zDD) (a : Nat) (r : zP × Nat) : zP × zDD := (r.1, if a < 30 then zu D 5 a r.2 else D)
def zrT1 (T : zDD) (c : Nat) (D : zDD) (r : zP × Nat) : zP × zDD := zrT2 D r.2 (zpNu T c r.1 9)
def zrT (T : zDD) (c : Nat) (p : zP) (D : zDD) : zP × zDD := zrT1 T c D (ztp T c (zpn c p) (D 0 1) (D 1))
set_option maxHeartbeats 4000000 in
set_option maxRecDepth 100000 in
theorem sp_readHats {d t u c : Nat} {M : zMI} {L : zML} {D T : zDD} {p : zP} (hu : zTab u) (h : zTT M T c p) (hD : zDT M u D) (hb : zDb D) {r : zP × zDD} (hr : zrT T c p D = r) : Sy yX9_readHats YX9_readHats (d + 4) [.ref u, .ref 2] M L (zRf t) (fun v0 M' L' R' => zTPo M L T c u t r v0 M' L' R') := by
  refine Sp.of (by decide +kernel) rfl (fun h => by first | exact h | cases h) (Nat.le_of_ble_eq_true rfl) ?_
  intro w G
  obtain ⟨s0, s1, s2, s3, s4, s5, s6, s7, s8, s11⟩ := zTab_s hu
  obtain ⟨r2, r3, r4, r5, r6, r8, r9, r13, r14⟩ := zTab_r (t := t) hu
  have hu2 : u = 10 ∨ u = 24 := hu
  have h01 : ∀ z, z < 30 → (nI z : Int32) ≠ -1 := by decide +kernel
  unfold zrT at hr
  refine wp_aload_n (q := 1) dX9_readHats_0 1 rfl rfl ?_
  refine wp_cvy (q := 4) (sp_next (d := 0) h) zm_X10_next zl_RX9_114 dX9_readHats_1 rfl (by omega) (Nat.le_of_ble_eq_true rfl) zsh_2 rfl rfl ?_
  rintro _ M2 _ _ ⟨rfl, rfl, rfl, h2, hx2⟩
  have hD2 := zDT_2 hu hD hx2
  have hlt := ztp_lt (T := T) (c := c) (p := zpn c p) (nm := D 1) hb.1
  have hv := ztp_v (T := T) (c := c) (p := zpn c p) (nm := D 1) (n := D 0 1)
  obtain ⟨q1, hq1⟩ : ∃ q, ztp T c (zpn c p) (D 0 1) (D 1) = q := ⟨_, rfl⟩
  rw [hq1] at hr hlt hv
  refine wp_aload_n (q := 5) dX9_readHats_4 0 rfl rfl ?_
  refine wp_aload_n (q := 6) dX9_readHats_5 1 rfl rfl ?_
  refine wp_cvy (q := 9) (sp_toldPerson (d := 0) hu h2 (zDT_n hD2 hb) hq1) zm_X9_toldPerson zl_RX9_128 dX9_readHats_6 rfl (by omega) (Nat.le_of_ble_eq_true rfl) (by first | assumption | rfl) rfl rfl ?_
  rintro _ M3 _ _ ⟨rfl, rfl, rfl, h3, hx3⟩
  have hD3 := zDT_2 hu hD2 hx3
  refine wp_istore_n (q := 10) (loc' := [(2, _), (0, _), (1, _)]) dX9_readHats_9 rfl (by decide) rfl rfl ?_
  refine wp_aload_n (q := 11) dX9_readHats_10 2 rfl rfl ?_
  refine wp_bipush (q := 13) dX9_readHats_11 zq_bipush_9 rfl ?_
  refine wp_cvy (q := 16) (sp_needNumber (d := 0) (m := 9) h3 (by decide)) zm_X10_needNumber zl_RX9_124 dX9_readHats_13 rfl (by omega) (Nat.le_of_ble_eq_true rfl) zsh_2 rfl rfl ?_
  rintro _ M6 _ _ ⟨rfl, rfl, rfl, h6, hx6⟩
  have hD6 := zDT_2 hu hD3 hx6
  unfold zrT1 zrT2 at hr
  obtain ⟨q4, hq4⟩ : ∃ q, zpNu T c q1.1 9 = q := ⟨_, rfl⟩
  rw [hq4] at hr h6 ⊢
  rcases hv with hv | hv
  · have hn8 := hb.1
    have hl8 := hlt hv
    rw [if_pos hv] at hr
    rw [show zwd q1.2 = nI q1.2 from if_pos hv]
    refine wp_istore_n (q := 17) (loc' := [(3, _), (2, _), (0, _), (1, _)]) dX9_readHats_16 rfl (by decide) rfl rfl ?_
    refine wp_iload_n (q := 18) dX9_readHats_17 1 rfl rfl ?_
    refine wp_iconst (q := 19) dX9_readHats_18 zq_iconst_m1 rfl ?_
    refine wp_icmp_eq (tgt := 29) (q := 22) dX9_readHats_19 (by decide) rfl (fun hn => absurd hn (by exact h01 _ hv)) (fun _ => ?_)
    refine wp_aload_n (q := 23) dX9_readHats_22 2 rfl rfl ?_
    refine wp_getR (q := 26) dX9_readHats_23 zf_RX9_31 rfl (by first | assumption | rfl) (by first | assumption | rfl) rfl ?_
    refine wp_iload_n (q := 27) dX9_readHats_26 1 rfl rfl ?_
    refine wp_iload_n (q := 28) dX9_readHats_27 0 rfl rfl ?_
    refine wp_iast (q := 29) _ dX9_readHats_28 (by first | assumption | rfl) rfl (by omega) (by decide) rfl ?_
    refine wp_return dX9_readHats_29 rfl ⟨rfl, ⟨rfl, rfl, rfl, ?_, by rw [← hr]; exact zDT_w hD6 5 q1.2 q4.2, fun x x2 xu => ?_⟩⟩ rfl rfl
    · rw [← hr]
      refine zTT_u hu h6 (fun x hx => ?_)
      rw [zu_ne (by omega)]
    · rw [zu_ne (by omega), hx6 x x2, hx3 x x2, hx2 x x2]
  · rw [if_neg (by omega)] at hr
    rw [hv, show zwd 99 = -1 from rfl]
    refine wp_istore_n (q := 17) (loc' := [(3, _), (2, _), (0, _), (1, _)]) dX9_readHats_16 rfl (by decide) rfl rfl ?_
    refine wp_iload_n (q := 18) dX9_readHats_17 1 rfl rfl ?_
    refine wp_iconst (q := 19) dX9_readHats_18 zq_iconst_m1 rfl ?_
    refine wp_icmp_eq (tgt := 29) (q := 22) dX9_readHats_19 (by decide) rfl (fun _ => ?_) (fun hn => absurd hn (by exact fun c => c rfl))
    exact wp_return dX9_readHats_29 rfl ⟨rfl, ⟨rfl, rfl, rfl, by rw [← hr]; exact h6, by rw [← hr]; exact hD6, fun x x2 _ => by rw [hx6 x x2, hx3 x x2, hx2 x x2]⟩⟩ rfl rfl
def zrG1 (D : zDD) (r : zP × Nat) : zP × zDD := (r.1, zu D 0 10 r.2)
def zrG (T : zDD) (c : Nat) (p : zP) (D : zDD) : zP × zDD := zrG1 D (zpNu T c (zpn c p) 100)
set_option maxHeartbeats 4000000 in
set_option maxRecDepth 100000 in
theorem sp_readBang {d t u c : Nat} {M : zMI} {L : zML} {D T : zDD} {p : zP} (hu : zTab u) (h : zTT M T c p) (hD : zDT M u D) {r : zP × zDD} (hr : zrG T c p D = r) : Sy yX9_readBang YX9_readBang (d + 4) [.ref u, .ref 2] M L (zRf t) (fun v0 M' L' R' => zTPo M L T c u t r v0 M' L' R') := by
  refine Sp.of (by decide +kernel) rfl (fun h => by first | exact h | cases h) (Nat.le_of_ble_eq_true rfl) ?_
  intro w G
  obtain ⟨s0, s1, s2, s3, s4, s5, s6, s7, s8, s11⟩ := zTab_s hu
  obtain ⟨r2, r3, r4, r5, r6, r8, r9, r13, r14⟩ := zTab_r (t := t) hu
  have hu2 : u = 10 ∨ u = 24 := hu
  unfold zrG at hr
  refine wp_aload_n (q := 1) dX9_readBang_0 1 rfl rfl ?_
  refine wp_cvy (q := 4) (sp_next (d := 0) h) zm_X10_next zl_RX9_114 dX9_readBang_1 rfl (by omega) (Nat.le_of_ble_eq_true rfl) zsh_2 rfl rfl ?_
  rintro _ M2 _ _ ⟨rfl, rfl, rfl, h2, hx2⟩
  have hD2 := zDT_2 hu hD hx2
  refine wp_aload_n (q := 5) dX9_readBang_4 0 rfl rfl ?_
  refine wp_aload_n (q := 6) dX9_readBang_5 1 rfl rfl ?_
  refine wp_bipush (q := 8) dX9_readBang_6 zq_bipush_100 rfl ?_
  refine wp_cvy (q := 11) (sp_needNumber (d := 0) (m := 100) h2 (by decide)) zm_X10_needNumber zl_RX9_124 dX9_readBang_8 rfl (by omega) (Nat.le_of_ble_eq_true rfl) zsh_2 rfl rfl ?_
  rintro _ M6 _ _ ⟨rfl, rfl, rfl, h6, hx6⟩
  have hD6 := zDT_2 hu hD2 hx6
  obtain ⟨q4, hq4⟩ : ∃ q, zpNu T c (zpn c p) 100 = q := ⟨_, rfl⟩
  rw [hq4] at hr h6 ⊢
  unfold zrG1 at hr
  refine wp_putI (q := 14) dX9_readBang_11 zf_RX9_43 rfl (by first | assumption | rfl) rfl ?_
  refine wp_return dX9_readBang_14 rfl ⟨rfl, ⟨rfl, rfl, rfl, ?_, by rw [← hr]; exact zDT_w hD6 0 10 q4.2, fun x x2 xu => ?_⟩⟩ rfl rfl
  · rw [← hr]
    refine zTT_u hu h6 (fun x hx => ?_)
    rw [zu_ne (by omega)]
  · rw [zu_ne (by omega), hx6 x x2, hx2 x x2]
def zrS (T : zDD) (c : Nat) (p : zP) (a : Nat) (F : zFl) : zPF := if a = 0 then zsum T c false (zpn c p) [] else (zpf c p 5 (nI (T p.1 1)), F)
set_option maxHeartbeats 4000000 in
set_option maxRecDepth 100000 in
theorem sp_readSum {d t u c a f : Nat} {M : zMI} {L : zML} {T : zDD} {p : zP} {F : zFl} (hu : zTab u) (hE : zTE T c) (h : zTT M T c p) (hQ : zok T c 8 p) (hf : zFo f) (hF : zFT M f F) (ha : a ≤ 1) {r : zPF} (hr : zrS T c p a F = r) : Sy yX9_readSum YX9_readSum (d + 38) [.ref u, .ref 2, .ref 9, .ref f, .int (nI a)] M L (zRf t) (fun v0 M' L' R' => v0 = none ∧ L = L' ∧ R' = zRf t ∧ zTT M' T c r.1 ∧ zFT M' f r.2 ∧ ∀ x, x ≠ 2 → x ≠ 9 → x ≠ f → x ≠ f + 1 → M' x = M x) := by
  refine Sp.of (by decide +kernel) rfl (fun h => by first | exact h | cases h) (Nat.le_of_ble_eq_true rfl) ?_
  intro w G
  obtain ⟨sf1, sf2, sf3⟩ := zFo_s hf
  have f10 : 10 ≤ f := by rcases hf with rfl | rfl | rfl | rfl | rfl <;> decide
  have hu2 : u = 10 ∨ u = 24 := hu
  unfold zrS at hr
  refine wp_iload (q := 2) dX9_readSum_0 4 rfl rfl ?_
  refine wp_if_eqN (tgt := 15) (q := 5) dX9_readSum_2 (by decide) rfl (by omega) (fun h0 => ?_) (fun h0 => ?_)
  · skip
    rw [if_pos h0] at hr
    refine wp_aload_n (q := 16) dX9_readSum_15 1 rfl rfl ?_
    refine wp_cvy (q := 19) (sp_next (d := 0) h) zm_X10_next zl_RX9_114 dX9_readSum_16 rfl (by omega) (Nat.le_of_ble_eq_true rfl) zsh_2 rfl rfl ?_
    rintro _ M2 _ _ ⟨rfl, rfl, rfl, h2, hx2⟩
    refine wp_aload_n (q := 20) dX9_readSum_19 3 rfl rfl ?_
    refine wp_cvx (q := 23) (sp_fclear (d := 0) hf) zm_X0_clear zl_RX9_135 dX9_readSum_20 rfl (by omega) (Nat.le_of_ble_eq_true rfl) (by first | assumption | rfl) rfl rfl ?_
    refine wp_aload_n (q := 24) dX9_readSum_23 2 rfl rfl ?_
    refine wp_iconst (q := 25) dX9_readSum_24 zq_iconst_0 rfl ?_
    refine wp_putZ (q := 28) dX9_readSum_25 zf_RX9_136 rfl (Or.inl rfl) zsh_9 rfl ?_
    have h3 : zSM (zu (zu M2 f 2 (nI 0)) 9 1 (nI 0)) T c false f (zpn c p, []) := by
      refine ⟨zTT_fr h2 (fun x hx => by rw [zu_ne (by omega), zu_ne (by omega)]), ⟨?_, Nat.zero_le _, fun i op a hi => by simp at hi⟩, ?_⟩
      · rw [zu_ne (by omega), zu_s]; rfl
      · rw [zu_s]; rfl
    refine wp_aload_n (q := 29) dX9_readSum_28 2 rfl rfl ?_
    refine wp_aload_n (q := 30) dX9_readSum_29 3 rfl rfl ?_
    refine wp_cvny (q := 33) (sp_sum (d := d) hE hf h3 (zok_n hE hQ)) zm_X8_sum (fun U H h => h.2.2.2.2.2.2.1) dX9_readSum_30 rfl (by omega) (Nat.le_of_ble_eq_true rfl) zsh_9 rfl rfl ?_
    rintro _ M4 _ _ ⟨rfl, rfl, rfl, h4, hx4⟩
    exact wp_return dX9_readSum_33 rfl ⟨rfl, ⟨rfl, rfl, rfl, by rw [← hr]; exact h4.1, by rw [← hr]; exact h4.2.1, fun x x2 x9 xf xg => by rw [hx4 x x2 xf xg, zu_ne x9, zu_ne xf, hx2 x x2]⟩⟩ rfl rfl
  · skip
    rw [if_neg h0] at hr
    refine wp_aload_n (q := 6) dX9_readSum_5 1 rfl rfl ?_
    refine wp_iconst (q := 7) dX9_readSum_6 zq_iconst_5 rfl ?_
    refine wp_aload_n (q := 8) dX9_readSum_7 1 rfl rfl ?_
    refine wp_cvx (q := 11) (sp_place (d := 0) h) zm_X10_place zl_RX9_72 dX9_readSum_8 rfl (by omega) (Nat.le_of_ble_eq_true rfl) zsh_2 rfl rfl ?_
    refine wp_cvy (q := 14) (sp_fail (d := 0) (y := nI (T p.1 1)) h (by decide : 5 ≤ 5)) zm_X10_fail zl_RX9_76 dX9_readSum_11 rfl (by omega) (Nat.le_of_ble_eq_true rfl) zsh_2 rfl rfl ?_
    rintro _ M3 _ _ ⟨rfl, rfl, rfl, h3, hx3⟩
    exact wp_return dX9_readSum_14 rfl ⟨rfl, ⟨rfl, rfl, rfl, by rw [← hr]; exact h3, by rw [← hr]; exact zFT_fr hF (hx3 f (by omega)) (hx3 (f + 1) (by omega)), fun x x2 _ _ _ => hx3 x x2⟩⟩ rfl rfl

