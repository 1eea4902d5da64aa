-- a table being read, as numbers: D 0 the fields of the object itself, D 1 .. D 7 its rows
abbrev zDD : Type := Nat → Nat → Nat
def zDk (o k : Nat) : Prop := o ≠ 0 ∨ k = 0 ∨ k = 1 ∨ k = 7 ∨ k = 10 ∨ k = 11 ∨ k = 12
def zDT (M : zMI) (u : Nat) (D : zDD) : Prop := ∀ o k, o ≤ 7 → zDk o k → M (u + o) k = nI (D o k)
theorem zDT_w {M : zMI} {u : Nat} {D : zDD} (h : zDT M u D) (o k x : Nat) : zDT (zu M (u + o) k (nI x)) u (zu D o k x) := by
  intro o' k' h1 h2
  rw [zu_at, zu_at]
  by_cases e : o' = o ∧ k' = k
  · rw [if_pos e, if_pos ⟨by omega, e.2⟩]
  · rw [if_neg e, if_neg (fun c => e ⟨by omega, c.2⟩)]
    exact h o' k' h1 h2
theorem zDT_fr {M M' : zMI} {u : Nat} {D : zDD} (hu : zTab u) (h : zDT M u D) (hx : ∀ x, u ≤ x → x ≤ u + 7 → M' x = M x) : zDT M' u D := by
  intro o k h1 h2
  rw [hx (u + o) (by omega) (by omega)]
  exact h o k h1 h2
theorem zDT_2 {M M' : zMI} {u : Nat} {D : zDD} (hu : zTab u) (h : zDT M u D) (hx : ∀ x, x ≠ 2 → M' x = M x) : zDT M' u D := zDT_fr hu h (fun x h1 h2 => hx x (by have hu2 : u = 10 ∨ u = 24 := hu; omega))
def zDb (D : zDD) : Prop := D 0 1 ≤ 8 ∧ D 0 7 ≤ 4 ∧ (∀ i, i < D 0 1 → D 1 i < 2147483648) ∧ ∀ i, i < D 0 7 → D 6 i < 2147483648
theorem zDT_n {M : zMI} {u : Nat} {D : zDD} (h : zDT M u D) (hb : zDb D) : zTn M u (D 0 1) (D 0 7) (D 1) (D 6) := by
  obtain ⟨b1, b2, b3, b4⟩ := hb
  exact ⟨h 0 1 (by decide) (by simp [zDk]), b1, fun i hi => ⟨h 1 i (by decide) (Or.inl (by decide)), b3 i hi⟩, h 0 7 (by decide) (by simp [zDk]), b2, fun i hi => ⟨h 6 i (by decide) (Or.inl (by decide)), b4 i hi⟩⟩
theorem zDT_0 {M : zMI} {u k : Nat} {D : zDD} (h : zDT M u D) (hk : zDk 0 k) : M u k = nI (D 0 k) := h 0 k (by decide) hk
def zrPD (D : zDD) (nm a b : Nat) : zDD := zu (zu (zu (zu (zu (zu (zu (zu (zu D 1 (D 0 1) nm) 2 (2 * D 0 1 + 0) a) 2 (2 * D 0 1 + 1) b) 3 (2 * D 0 1 + 0) 0) 4 (2 * D 0 1 + 0) 5) 3 (2 * D 0 1 + 1) 0) 4 (2 * D 0 1 + 1) 5) 5 (D 0 1) 0) 0 1 (D 0 1 + 1)
def zrP3 (D : zDD) (nm a : Nat) (r : zP × Nat) : zP × zDD := (r.1, zrPD D nm a r.2)
def zrP2 (T : zDD) (c : Nat) (D : zDD) (nm : Nat) (r : zP × Nat) : zP × zDD := zrP3 D nm r.2 (zpNu T c (zpWo T c r.1 2 2).1 99)
def zrP1 (T : zDD) (c : Nat) (D : zDD) (r : zP × Nat) : zP × zDD := zrP2 T c D r.2 (zpNu T c (zpWo T c r.1 1 1).1 99)
def zrP (T : zDD) (c : Nat) (p : zP) (D : zDD) : zP × zDD := if D 0 1 < 8 then zrP1 T c D (ztn T c (zpn c p) (D 0 1) (D 1) (D 0 7) (D 6)) else (zpf c p 5 (nI (T p.1 1)), D)
def zTPo (M : zMI) (L : zML) (T : zDD) (c u t : Nat) (r : zP × zDD) : Option Value → zMI → zML → zMR → Prop := fun v0 M' L' R' => v0 = none ∧ L = L' ∧ R' = zRf t ∧ zTT M' T c r.1 ∧ zDT M' u r.2 ∧ ∀ x, x ≠ 2 → (x < u ∨ u + 7 < x) → M' x = M x
theorem zTT_u {M M' : zMI} {u c : Nat} {T : zDD} {p : zP} (hu : zTab u) (h : zTT M T c p) (hx : ∀ x, (x < u ∨ u + 7 < x) → M' x = M x) : zTT M' T c p := zTT_fr h (fun x h1 => hx x (by have hu2 : u = 10 ∨ u = 24 := hu; omega))
set_option maxHeartbeats 4000000 in
set_option maxRecDepth 100000 in
theorem sp_readPerson {d t u c : Nat} {M : zMI} {L : zML} {D T : zDD} {p : zP} (hu : zTab u) (h : zTT M T c p) (hD : zDT M u D) (hb : zDb D) {r : zP × zDD} (hr : zrP T c p D = r) : Sy yX9_readPerson YX9_readPerson (d + 4) [.ref u, .ref 2] M L (zRf t) (fun v0 M' L' R' => zTPo M L T c u t r v0 M' L' R') := by
  refine Sp.of (by decide +kernel) rfl (fun h => by first | exact h | cases h) (Nat.le_of_ble_eq_true rfl) ?_
  intro w G
  obtain ⟨s0, s1, s2, s3, s4, s5, s6, s7, s8, s11⟩ := zTab_s hu
  obtain ⟨r2, r3, r4, r5, r6, r8, r9, r13, r14⟩ := zTab_r (t := t) hu
  have hu2 : u = 10 ∨ u = 24 := hu
  have hn8 := hb.1
  have hn := zDT_0 hD (k := 1) (by simp [zDk])
  unfold zrP at hr
  refine wp_aload_n (q := 1) dX9_readPerson_0 0 rfl rfl ?_
  refine wp_getI (q := 4) dX9_readPerson_1 zf_RX9_15 rfl (by first | assumption | rfl) rfl ?_
  rw [hn]
  refine wp_bipush (q := 6) dX9_readPerson_4 zq_bipush_8 rfl ?_
  refine wp_icmp_ltN (tgt := 19) (q := 9) dX9_readPerson_6 (by decide) rfl (by omega) (by omega) (fun hlt => ?_) (fun hlt => ?_)
  · skip
    rw [if_pos hlt] at hr
    refine wp_aload_n (q := 20) dX9_readPerson_19 1 rfl rfl ?_
    refine wp_cvy (q := 23) (sp_next (d := 0) h) zm_X10_next zl_RX9_114 dX9_readPerson_20 rfl (by omega) (Nat.le_of_ble_eq_true rfl) zsh_2 rfl rfl ?_
    rintro _ M2 _ _ ⟨rfl, rfl, rfl, h2, hx2⟩
    have hD2 := zDT_2 hu hD hx2
    have hn2 := zDT_0 hD2 (k := 1) (by simp [zDk])
    refine wp_aload_n (q := 24) dX9_readPerson_23 0 rfl rfl ?_
    refine wp_getI (q := 27) dX9_readPerson_24 zf_RX9_15 rfl (by first | assumption | rfl) rfl ?_
    rw [hn2]
    refine wp_istore_n (q := 28) (loc' := [(2, _), (0, _), (1, _)]) dX9_readPerson_27 rfl (by decide) rfl rfl ?_
    refine wp_aload_n (q := 29) dX9_readPerson_28 1 rfl rfl ?_
    refine wp_getR (q := 32) dX9_readPerson_29 zf_RX9_18 rfl (by first | assumption | rfl) (by first | assumption | rfl) rfl ?_
    refine wp_iload_n (q := 33) dX9_readPerson_32 0 rfl rfl ?_
    refine wp_aload_n (q := 34) dX9_readPerson_33 1 rfl rfl ?_
    refine wp_aload_n (q := 35) dX9_readPerson_34 2 rfl rfl ?_
    obtain ⟨q1, hq1⟩ : ∃ q, ztn T c (zpn c p) (D 0 1) (D 1) (D 0 7) (D 6) = q := ⟨_, rfl⟩
    rw [hq1] at hr
    refine wp_cvy (q := 38) (sp_newName (d := 0) hu h2 (zDT_n hD2 hb) hq1) zm_X9_newName zl_RX9_117 dX9_readPerson_35 rfl (by omega) (Nat.le_of_ble_eq_true rfl) (by first | assumption | rfl) rfl rfl ?_
    rintro _ M3 _ _ ⟨rfl, rfl, rfl, h3, hx3⟩
    have hD3 := zDT_w (zDT_2 hu hD2 hx3) 1 (D 0 1) q1.2
    refine wp_iast (q := 39) _ dX9_readPerson_38 (by first | assumption | rfl) rfl (by omega) (by decide) rfl ?_
    have h3' := zTT_u (M' := zu M3 (u + 1) (D 0 1) (nI q1.2)) hu h3 (fun x hx => zu_ne (by omega))
    refine wp_aload_n (q := 40) dX9_readPerson_39 2 rfl rfl ?_
    refine wp_iconst (q := 41) dX9_readPerson_40 zq_iconst_1 rfl ?_
    refine wp_cvy (q := 44) (sp_needWord (d := 0) (f := 1) h3' (by decide)) zm_X10_needWord zl_RX9_121 dX9_readPerson_41 rfl (by omega) (Nat.le_of_ble_eq_true rfl) zsh_2 rfl rfl ?_
    rintro _ M4 _ _ ⟨rfl, rfl, rfl, h4, hx4⟩
    have hD4 := zDT_2 hu hD3 hx4
    unfold zrP1 at hr
    obtain ⟨q2, hq2⟩ : ∃ q, zpNu T c (zpWo T c q1.1 1 1).1 99 = q := ⟨_, rfl⟩
    rw [hq2] at hr
    refine wp_aload_n (q := 45) dX9_readPerson_44 1 rfl rfl ?_
    refine wp_getR (q := 48) dX9_readPerson_45 zf_RX9_22 rfl (by first | assumption | rfl) (by first | assumption | rfl) rfl ?_
    refine wp_iconst (q := 49) dX9_readPerson_48 zq_iconst_2 rfl ?_
    refine wp_iload_n (q := 50) dX9_readPerson_49 0 rfl rfl ?_
    refine wp_imulN (q := 51) dX9_readPerson_50 rfl ?_
    refine wp_iconst (q := 52) dX9_readPerson_51 zq_iconst_0 rfl ?_
    refine wp_iaddN (q := 53) dX9_readPerson_52 rfl ?_
    refine wp_aload_n (q := 54) dX9_readPerson_53 2 rfl rfl ?_
    refine wp_bipush (q := 56) dX9_readPerson_54 zq_bipush_99 rfl ?_
    refine wp_cvy (q := 59) (sp_needNumber (d := 0) (m := 99) h4 (by decide)) zm_X10_needNumber zl_RX9_124 dX9_readPerson_56 rfl (by omega) (Nat.le_of_ble_eq_true rfl) zsh_2 rfl rfl ?_
    rintro _ M5 _ _ ⟨rfl, rfl, rfl, h5, hx5⟩
    rw [hq2] at h5
    rw [hq2]
    have hD5 := zDT_w (zDT_2 hu hD4 hx5) 2 (2 * D 0 1 + 0) q2.2
    refine wp_iast (q := 60) _ dX9_readPerson_59 (by first | assumption | rfl) rfl (by omega) (by decide) rfl ?_
    have h5' := zTT_u (M' := zu M5 (u + 2) (2 * D 0 1 + 0) (nI q2.2)) hu h5 (fun x hx => zu_ne (by omega))
    refine wp_aload_n (q := 61) dX9_readPerson_60 2 rfl rfl ?_
    refine wp_iconst (q := 62) dX9_readPerson_61 zq_iconst_2 rfl ?_
    refine wp_cvy (q := 65) (sp_needWord (d := 0) (f := 2) h5' (by decide)) zm_X10_needWord zl_RX9_121 dX9_readPerson_62 rfl (by omega) (Nat.le_of_ble_eq_true rfl) zsh_2 rfl rfl ?_
    rintro _ M6 _ _ ⟨rfl, rfl, rfl, h6, hx6⟩
    have hD6 := zDT_2 hu hD5 hx6
    unfold zrP2 at hr
    obtain ⟨q3, hq3⟩ : ∃ q, zpNu T c (zpWo T c q2.1 2 2).1 99 = q := ⟨_, rfl⟩
    rw [hq3] at hr
    refine wp_aload_n (q := 66) dX9_readPerson_65 1 rfl rfl ?_
    refine wp_getR (q := 69) dX9_readPerson_66 zf_RX9_22 rfl (by first | assumption | rfl) (by first | assumption | rfl) rfl ?_
    refine wp_iconst (q := 70) dX9_readPerson_69 zq_iconst_2 rfl ?_
    refine wp_iload_n (q := 71) dX9_readPerson_70 0 rfl rfl ?_
    refine wp_imulN (q := 72) dX9_readPerson_71 rfl ?_
    refine wp_iconst (q := 73) dX9_readPerson_72 zq_iconst_1 rfl ?_
    refine wp_iaddN (q := 74) dX9_readPerson_73 rfl ?_
    refine wp_aload_n (q := 75) dX9_readPerson_74 2 rfl rfl ?_
    refine wp_bipush (q := 77) dX9_readPerson_75 zq_bipush_99 rfl ?_
    refine wp_cvy (q := 80) (sp_needNumber (d := 0) (m := 99) h6 (by decide)) zm_X10_needNumber zl_RX9_124 dX9_readPerson_77 rfl (by omega) (Nat.le_of_ble_eq_true rfl) zsh_2 rfl rfl ?_
    rintro _ M7 _ _ ⟨rfl, rfl, rfl, h7, hx7⟩
    rw [hq3] at h7
    rw [hq3]
    have hD7 := zDT_w (zDT_2 hu hD6 hx7) 2 (2 * D 0 1 + 1) q3.2
    refine wp_iast (q := 81) _ dX9_readPerson_80 (by first | assumption | rfl) rfl (by omega) (by decide) rfl ?_
    refine wp_iconst (q := 82) dX9_readPerson_81 zq_iconst_0 rfl ?_
    refine wp_istore_n (q := 83) (loc' := [(3, _), (2, _), (0, _), (1, _)]) dX9_readPerson_82 rfl (by decide) rfl rfl ?_
    have h7' := zTT_u (M' := zu M7 (u + 2) (2 * D 0 1 + 1) (nI q3.2)) hu h7 (fun x hx => zu_ne (by omega))
    have hD8 := zDT_w (zDT_w hD7 3 (2 * D 0 1 + 0) 0) 4 (2 * D 0 1 + 0) 5
    have hD9 := zDT_w (zDT_w hD8 3 (2 * D 0 1 + 1) 0) 4 (2 * D 0 1 + 1) 5
    refine wp_iload_n (q := 84) dX9_readPerson_83 0 rfl rfl ?_
    refine wp_iconst (q := 85) dX9_readPerson_84 zq_iconst_2 rfl ?_
    refine wp_icmp_geN (tgt := 116) (q := 88) dX9_readPerson_85 (by decide) rfl (by omega) (by omega) (fun hn => absurd hn (by omega)) (fun _ => ?_)
    refine wp_aload_n (q := 89) dX9_readPerson_88 2 rfl rfl ?_
    refine wp_getR (q := 92) dX9_readPerson_89 zf_RX9_25 rfl (by first | assumption | rfl) (by first | assumption | rfl) rfl ?_
    refine wp_iconst (q := 93) dX9_readPerson_92 zq_iconst_2 rfl ?_
    refine wp_iload_n (q := 94) dX9_readPerson_93 1 rfl rfl ?_
    refine wp_imulN (q := 95) dX9_readPerson_94 rfl ?_
    refine wp_iload_n (q := 96) dX9_readPerson_95 0 rfl rfl ?_
    refine wp_iaddN (q := 97) dX9_readPerson_96 rfl ?_
    refine wp_iconst (q := 98) dX9_readPerson_97 zq_iconst_0 rfl ?_
    refine wp_iast (q := 99) _ dX9_readPerson_98 (by first | assumption | rfl) rfl (by omega) (by decide) rfl ?_
    refine wp_aload_n (q := 100) dX9_readPerson_99 2 rfl rfl ?_
    refine wp_getR (q := 103) dX9_readPerson_100 zf_RX9_28 rfl (by first | assumption | rfl) (by first | assumption | rfl) rfl ?_
    refine wp_iconst (q := 104) dX9_readPerson_103 zq_iconst_2 rfl ?_
    refine wp_iload_n (q := 105) dX9_readPerson_104 1 rfl rfl ?_
    refine wp_imulN (q := 106) dX9_readPerson_105 rfl ?_
    refine wp_iload_n (q := 107) dX9_readPerson_106 0 rfl rfl ?_
    refine wp_iaddN (q := 108) dX9_readPerson_107 rfl ?_
    refine wp_iconst (q := 109) dX9_readPerson_108 zq_iconst_5 rfl ?_
    refine wp_iast (q := 110) _ dX9_readPerson_109 (by first | assumption | rfl) rfl (by omega) (by decide) rfl ?_
    refine wp_iincN (q := 113) (loc' := [(3, _), (2, _), (0, _), (1, _)]) (n := 1) dX9_readPerson_110 rfl 0 rfl (by decide) rfl rfl ?_
    refine wp_goto (tgt := 83) dX9_readPerson_113 (by decide) ?_
    refine wp_iload_n (q := 84) dX9_readPerson_83 0 rfl rfl ?_
    refine wp_iconst (q := 85) dX9_readPerson_84 zq_iconst_2 rfl ?_
    refine wp_icmp_geN (tgt := 116) (q := 88) dX9_readPerson_85 (by decide) rfl (by omega) (by omega) (fun hn => absurd hn (by omega)) (fun _ => ?_)
    refine wp_aload_n (q := 89) dX9_readPerson_88 2 rfl rfl ?_
    refine wp_getR (q := 92) dX9_readPerson_89 zf_RX9_25 rfl (by first | assumption | rfl) (by first | assumption | rfl) rfl ?_
    refine wp_iconst (q := 93) dX9_readPerson_92 zq_iconst_2 rfl ?_
    refine wp_iload_n (q := 94) dX9_readPerson_93 1 rfl rfl ?_
    refine wp_imulN (q := 95) dX9_readPerson_94 rfl ?_
    refine wp_iload_n (q := 96) dX9_readPerson_95 0 rfl rfl ?_
    refine wp_iaddN (q := 97) dX9_readPerson_96 rfl ?_
    refine wp_iconst (q := 98) dX9_readPerson_97 zq_iconst_0 rfl ?_
    refine wp_iast (q := 99) _ dX9_readPerson_98 (by first | assumption | rfl) rfl (by omega) (by decide) rfl ?_
    refine wp_aload_n (q := 100) dX9_readPerson_99 2 rfl rfl ?_
    refine wp_getR (q := 103) dX9_readPerson_100 zf_RX9_28 rfl (by first | assumption | rfl) (by first | assumption | rfl) rfl ?_
    refine wp_iconst (q := 104) dX9_readPerson_103 zq_iconst_2 rfl ?_
    refine wp_iload_n (q := 105) dX9_readPerson_104 1 rfl rfl ?_
    refine wp_imulN (q := 106) dX9_readPerson_105 rfl ?_
    refine wp_iload_n (q := 107) dX9_readPerson_106 0 rfl rfl ?_
    refine wp_iaddN (q := 108) dX9_readPerson_107 rfl ?_
    refine wp_iconst (q := 109) dX9_readPerson_108 zq_iconst_5 rfl ?_
    refine wp_iast (q := 110) _ dX9_readPerson_109 (by first | assumption | rfl) rfl (by omega) (by decide) rfl ?_
    refine wp_iincN (q := 113) (loc' := [(3, _), (2, _), (0, _), (1, _)]) (n := 1) dX9_readPerson_110 rfl 0 rfl (by decide) rfl rfl ?_
    refine wp_goto (tgt := 83) dX9_readPerson_113 (by decide) ?_
    refine wp_iload_n (q := 84) dX9_readPerson_83 0 rfl rfl ?_
    refine wp_iconst (q := 85) dX9_readPerson_84 zq_iconst_2 rfl ?_
    refine wp_icmp_geN (tgt := 116) (q := 88) dX9_readPerson_85 (by decide) rfl (by omega) (by omega) (fun _ => ?_) (fun hn => absurd hn (by omega))
    have hD10 := zDT_w hD9 5 (D 0 1) 0
    refine wp_aload_n (q := 117) dX9_readPerson_116 2 rfl rfl ?_
    refine wp_getR (q := 120) dX9_readPerson_117 zf_RX9_31 rfl (by first | assumption | rfl) (by first | assumption | rfl) rfl ?_
    refine wp_iload_n (q := 121) dX9_readPerson_120 1 rfl rfl ?_
    refine wp_iconst (q := 122) dX9_readPerson_121 zq_iconst_0 rfl ?_
    refine wp_iast (q := 123) _ dX9_readPerson_122 (by first | assumption | rfl) rfl (by omega) (by decide) rfl ?_
    refine wp_aload_n (q := 124) dX9_readPerson_123 2 rfl rfl ?_
    refine wp_dup (q := 125) dX9_readPerson_124 rfl rfl ?_
    refine wp_getI (q := 128) dX9_readPerson_125 zf_RX9_15 rfl (by first | assumption | rfl) rfl ?_
    have hn10 := zDT_0 hD10 (k := 1) (by simp [zDk])
    rw [hn10, show zu (zu (zu (zu (zu (zu (zu (zu D 1 (D 0 1) q1.2) 2 (2 * D 0 1 + 0) q2.2) 2 (2 * D 0 1 + 1) q3.2) 3 (2 * D 0 1 + 0) 0) 4 (2 * D 0 1 + 0) 5) 3 (2 * D 0 1 + 1) 0) 4 (2 * D 0 1 + 1) 5) 5 (D 0 1) 0 0 1 = D 0 1 from by simp only [zu_at]; simp]
    refine wp_iconst (q := 129) dX9_readPerson_128 zq_iconst_1 rfl ?_
    refine wp_iaddN (q := 130) dX9_readPerson_129 rfl ?_
    refine wp_putI (q := 133) dX9_readPerson_130 zf_RX9_15 rfl (by first | assumption | rfl) rfl ?_
    have hD11 := zDT_w hD10 0 1 (D 0 1 + 1)
    refine wp_return dX9_readPerson_133 rfl ⟨rfl, ⟨rfl, rfl, rfl, ?_, by rw [← hr]; exact hD11, fun x x2 xu => ?_⟩⟩ rfl rfl
    · rw [← hr]
      refine zTT_u hu h7 (fun x hx => ?_)
      rw [zu_ne (by omega), zu_ne (by omega), zu_ne (by omega), zu_ne (by omega), zu_ne (by omega), zu_ne (by omega), zu_ne (by omega)]
    · rw [zu_ne (by omega), zu_ne (by omega), zu_ne (by omega), zu_ne (by omega), zu_ne (by omega), zu_ne (by omega), zu_ne (by omega), hx7 x x2, hx6 x x2, zu_ne (by omega), hx5 x x2, hx4 x x2, zu_ne (by omega), hx3 x x2, hx2 x x2]
  · skip
    rw [if_neg (by omega)] at hr
    refine wp_aload_n (q := 10) dX9_readPerson_9 1 rfl rfl ?_
    refine wp_iconst (q := 11) dX9_readPerson_10 zq_iconst_5 rfl ?_
    refine wp_aload_n (q := 12) dX9_readPerson_11 1 rfl rfl ?_
    refine wp_cvx (q := 15) (sp_place (d := 0) h) zm_X10_place zl_RX9_72 dX9_readPerson_12 rfl (by omega) (Nat.le_of_ble_eq_true rfl) zsh_2 rfl rfl ?_
    refine wp_cvy (q := 18) (sp_fail (d := 0) (y := nI (T p.1 1)) h (by decide : 5 ≤ 5)) zm_X10_fail zl_RX9_76 dX9_readPerson_15 rfl (by omega) (Nat.le_of_ble_eq_true rfl) zsh_2 rfl rfl ?_
    rintro _ M3 _ _ ⟨rfl, rfl, rfl, h3, hx3⟩
    exact wp_return dX9_readPerson_18 rfl ⟨rfl, ⟨rfl, rfl, rfl, by rw [← hr]; exact h3, by rw [← hr]; exact zDT_2 hu hD hx3, fun x x2 _ => hx3 x x2⟩⟩ rfl rfl

