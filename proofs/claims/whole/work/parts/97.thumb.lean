theorem zlN_le {a b : Nat} (ha : a < 1000000000000) (hb : b < 1000000000000) : lN a ≤ lN b ↔ a ≤ b := by
  rw [lN_I, lN_I, lI_le ⟨by omega, by omega⟩ ⟨by omega, by omega⟩]
  omega
theorem zrow_a {a wh hits : Nat} : ∀ k, k ≤ hits → zrow a wh hits k = a ^ k := by
  intro k
  induction k with
  | zero => intro _; rfl
  | succ k ih =>
    intro hk
    rw [zrow, if_pos (by omega), ih (by omega), Nat.pow_succ]
theorem zrow_p {a wh hits : Nat} : ∀ j, zrow a wh hits (hits + j) = a ^ hits * (wh - a) ^ j := by
  intro j
  induction j with
  | zero => rw [Nat.add_zero, zrow_a hits (Nat.le_refl _), Nat.pow_zero, Nat.mul_one]
  | succ j ih =>
    rw [show hits + (j + 1) = hits + j + 1 from rfl, zrow, if_neg (by omega), ih, Nat.pow_succ, Nat.mul_assoc]
theorem zrow_k {a wh hits k : Nat} (h : hits ≤ k) : zrow a wh hits k = a ^ hits * (wh - a) ^ (k - hits) := by
  have := zrow_p (a := a) (wh := wh) (hits := hits) (k - hits)
  rw [show hits + (k - hits) = k by omega] at this
  exact this
theorem zpw_b {a B k K : Nat} (ha : a ≤ B) (h1 : 1 ≤ B) (hk : k ≤ K) : a ^ k ≤ B ^ K := Nat.le_trans (Nat.pow_le_pow_left ha k) (Nat.pow_le_pow_right h1 hk)
set_option maxHeartbeats 4000000 in
set_option maxRecDepth 100000 in
theorem sp_mpower {d a k : Nat} {M : zMI} {L : zML} {R : zMR} (hb : ∀ i, i ≤ k → a ^ i ≤ 1000000000000) (ha : a ≤ 10000) (hk : k ≤ 6) : Sx yX12_power YX12_power (d) [.long (lN a), .int (nI k)] M L R (some (.long (lN (a ^ k)))) M L R := by
  refine Sp.of (by decide +kernel) rfl (fun h => by first | exact h | cases h) (Nat.le_of_ble_eq_true rfl) ?_
  intro w G
  have loop : ∀ q i, i + q = k → WP w YX12_power (d, SS, 0, 0) G (some (zX (some (.long (lN (a ^ k)))) M L R)) 5 [(5, .int (nI i)), (3, .long (lN (a ^ i))), (0, .long (lN a)), (2, .int (nI k))] [] SS M L R := by
    intro q
    induction q with
    | zero =>
      intro i hi
      rw [show i = k by omega]
      refine wp_iload (q := 7) dX12_power_5 0 rfl rfl ?_
      refine wp_iload_n (q := 8) dX12_power_7 3 rfl rfl ?_
      refine wp_icmp_geN (tgt := 21) (q := 11) dX12_power_8 (by decide) rfl (by omega) (by omega) (fun _ => ?_) (fun hn => absurd hn (by first | omega | exact fun h => h | exact fun h => h trivial))
      refine wp_lload_n (q := 22) dX12_power_21 1 rfl rfl ?_
      exact wp_lreturn dX12_power_22 rfl ⟨rfl, rfl, rfl, rfl, rfl⟩ rfl rfl
    | succ q ih =>
      intro i hi
      have h1 := hb (i + 1) (by omega)
      rw [Nat.pow_succ] at h1
      have h2 := hb i (by omega)
      refine wp_iload (q := 7) dX12_power_5 0 rfl rfl ?_
      refine wp_iload_n (q := 8) dX12_power_7 3 rfl rfl ?_
      refine wp_icmp_geN (tgt := 21) (q := 11) dX12_power_8 (by decide) rfl (by omega) (by omega) (fun hn => absurd hn (by first | omega | exact fun h => h | exact fun h => h trivial)) (fun _ => ?_)
      refine wp_lload_n (q := 12) dX12_power_11 1 rfl rfl ?_
      refine wp_lload_n (q := 13) dX12_power_12 2 rfl rfl ?_
      refine wp_lmulN (q := 14) dX12_power_13 rfl ?_
      rw [← Nat.pow_succ]
      refine wp_lstore_n (q := 15) (loc' := [(3, _), (5, _), (0, _), (2, _)]) dX12_power_14 rfl (by decide) rfl rfl ?_
      refine wp_iincN (q := 18) (loc' := [(5, _), (3, _), (0, _), (2, _)]) (n := 1) dX12_power_15 rfl 1 rfl (by decide) rfl rfl ?_
      refine wp_goto (tgt := 5) dX12_power_18 (by decide) ?_
      refine WP.sub (loc' := [(5, _), (3, _), (0, _), (2, _)]) [0, 1, 2, 3] rfl ?_
      exact ih (i + 1) (by omega)
  refine wp_lconst (q := 1) dX12_power_0 zq_lconst_1 rfl ?_
  refine wp_lstore_n (q := 2) (loc' := [(3, _), (0, _), (2, _)]) dX12_power_1 rfl (by decide) rfl rfl ?_
  refine wp_iconst (q := 3) dX12_power_2 zq_iconst_0 rfl ?_
  refine wp_istore (q := 5) (loc' := [(5, _), (3, _), (0, _), (2, _)]) dX12_power_3 (by decide) rfl rfl ?_
  refine WP.sub (loc' := [(5, _), (3, _), (0, _), (2, _)]) [0, 1, 2, 3] rfl ?_
  have := loop k 0 (Nat.zero_add _)
  rw [Nat.pow_zero] at this
  exact this
set_option maxHeartbeats 4000000 in
set_option maxRecDepth 100000 in
theorem sp_mrowOdds {d t n s hh gp k w0 : Nat} {M : zMI} {L : zML} {tb : zTb} {v : Nat → Nat} (h : zMc M n tb v) (hs0 : s < n) (hh0 : hh < 2) (hg0 : gp < 3) (hk3 : k ≤ 3) (hwk : w0 ≤ k) {r : Nat} (hr : zthb tb v n s hh gp k w0 = r) : Sy yX12_rowOdds YX12_rowOdds (d + 7) [.ref 177, .int (nI s), .int (nI hh), .int (nI gp), .int (nI k), .int (nI w0)] M L (zRf t) (fun v0 M' L' R' => v0 = some (.long (lN r)) ∧ R' = zRf t ∧ zMc M' n tb v ∧ zNo M M' L L') := by
  refine Sp.of (by decide +kernel) rfl (fun h => by first | exact h | cases h) (Nat.le_of_ble_eq_true rfl) ?_
  intro w G
  have hg3 := (h.2.1.1.2.2.2.2.1 s hh hs0 hh0).1
  have hl9 := (h.2.1.1.2.2.2.2.1 s hh hs0 hh0).2
  have hcur := zhold_cur h.2.1.1 hs0 hh0
  obtain ⟨l0, hl0⟩ : ∃ l0, lw v s hh = l0 := ⟨_, rfl⟩
  unfold zthb at hr
  rw [hl0] at hr hcur hl9
  obtain ⟨o, ho⟩ : ∃ o, zown tb (zhold v s hh (10 * gp + l0)) n s hh = o := ⟨_, rfl⟩
  have o9 : o ≤ 10000 := by rw [← ho]; exact zown_le _ _ _ _ _
  rw [ho, zrow_k hwk] at hr
  have p1 : ∀ i, i ≤ w0 → o ^ i ≤ 1000000000000 := fun i hi => Nat.le_trans (zpw_b (K := 3) o9 (by decide) (by omega)) (by decide)
  have p2 : ∀ i, i ≤ k - w0 → (10000 - o) ^ i ≤ 1000000000000 := fun i hi => Nat.le_trans (zpw_b (B := 10000) (K := 3) (by omega) (by decide) (by omega)) (by decide)
  have p3 : o ^ w0 * (10000 - o) ^ (k - w0) ≤ 1000000000000 := by
    have := zrow_le (a := o) (wh := 10000) (hits := w0) o9 k
    rw [zrow_k hwk] at this
    exact Nat.le_trans this (Nat.le_trans (Nat.pow_le_pow_right (by decide) hk3) (by decide))
  have p4 := p1 w0 (Nat.le_refl _)
  have p5 := p2 (k - w0) (Nat.le_refl _)
  refine wp_aload_n (q := 1) dX12_rowOdds_0 0 rfl rfl ?_
  refine wp_iload_n (q := 2) dX12_rowOdds_1 1 rfl rfl ?_
  refine wp_iload_n (q := 3) dX12_rowOdds_2 2 rfl rfl ?_
  refine wp_cvx (q := 6) (sp_mgrip (d := 0) h.2.1 hs0 hh0) zm_X12_gripOf zl_RX12_421 dX12_rowOdds_3 rfl (by omega) (Nat.le_of_ble_eq_true rfl) zsh_177 rfl rfl ?_
  refine wp_istore (q := 8) (loc' := [(6, _), (0, _), (1, _), (2, _), (3, _), (4, _), (5, _)]) dX12_rowOdds_6 (by decide) rfl rfl ?_
  refine wp_aload_n (q := 9) dX12_rowOdds_8 1 rfl rfl ?_
  refine wp_iload_n (q := 10) dX12_rowOdds_9 2 rfl rfl ?_
  refine wp_iload_n (q := 11) dX12_rowOdds_10 3 rfl rfl ?_
  refine wp_iload_n (q := 12) dX12_rowOdds_11 4 rfl rfl ?_
  refine wp_aload_n (q := 13) dX12_rowOdds_12 1 rfl rfl ?_
  refine wp_iload_n (q := 14) dX12_rowOdds_13 2 rfl rfl ?_
  refine wp_iload_n (q := 15) dX12_rowOdds_14 3 rfl rfl ?_
  refine wp_cvx (q := 18) (sp_mlow (d := 0) h.2.1 hs0 hh0) zm_X12_lowOf zl_RX12_418 dX12_rowOdds_15 rfl (by omega) (Nat.le_of_ble_eq_true rfl) zsh_177 rfl rfl ?_
  rw [hl0]
  refine wp_cvy (q := 21) (sp_mholdsNow (d := 0) h.2.1 hs0 hh0 hg0 (by omega : l0 < 10)) zm_X12_holdsNow zl_RX12_511 dX12_rowOdds_18 rfl (by omega) (Nat.le_of_ble_eq_true rfl) zsh_177 rfl rfl ?_
  rintro _ M2 L2 _ ⟨rfl, rfl, rfl, n2, e2⟩
  have c2 := zMc_no h (zNo_n (L := L) e2) n2
  refine wp_aload_n (q := 22) dX12_rowOdds_21 1 rfl rfl ?_
  refine wp_iload_n (q := 23) dX12_rowOdds_22 2 rfl rfl ?_
  refine wp_iload_n (q := 24) dX12_rowOdds_23 3 rfl rfl ?_
  refine wp_cvy (q := 27) (sp_mownOdds (d := 0) c2 hs0 hh0 ho) zm_X12_ownOdds zl_RX12_515 dX12_rowOdds_24 rfl (by omega) (Nat.le_of_ble_eq_true rfl) zsh_177 rfl rfl ?_
  rintro _ M3 L3 _ ⟨rfl, rfl, t3⟩
  have c3 := zMc_o c2 t3
  refine wp_i2lN (q := 28) dX12_rowOdds_27 (by omega) rfl ?_
  refine wp_lstore (q := 30) (loc' := [(7, _), (6, _), (0, _), (1, _), (2, _), (3, _), (4, _), (5, _)]) dX12_rowOdds_28 (by decide) rfl rfl ?_
  refine wp_aload_n (q := 31) dX12_rowOdds_30 2 rfl rfl ?_
  refine wp_iload_n (q := 32) dX12_rowOdds_31 3 rfl rfl ?_
  refine wp_iload_n (q := 33) dX12_rowOdds_32 4 rfl rfl ?_
  refine wp_iload (q := 35) dX12_rowOdds_33 1 rfl rfl ?_
  refine wp_aload_n (q := 36) dX12_rowOdds_35 2 rfl rfl ?_
  refine wp_iload_n (q := 37) dX12_rowOdds_36 3 rfl rfl ?_
  refine wp_iload_n (q := 38) dX12_rowOdds_37 4 rfl rfl ?_
  refine wp_cvx (q := 41) (sp_mlow (d := 0) c3.2.1 hs0 hh0) zm_X12_lowOf zl_RX12_418 dX12_rowOdds_38 rfl (by omega) (Nat.le_of_ble_eq_true rfl) zsh_177 rfl rfl ?_
  rw [zhold_l, show (10 * gp + l0) % 10 = l0 by omega]
  refine wp_cvy (q := 44) (sp_mholdsNow (d := 0) c3.2.1 hs0 hh0 (by omega : gr v s hh < 3) (by omega : l0 < 10)) zm_X12_holdsNow zl_RX12_511 dX12_rowOdds_41 rfl (by omega) (Nat.le_of_ble_eq_true rfl) zsh_177 rfl rfl ?_
  rintro _ M4 L4 _ ⟨rfl, rfl, rfl, n4, e4⟩
  rw [zhold_hold, hcur] at n4
  refine wp_lload (q := 46) dX12_rowOdds_44 0 rfl rfl ?_
  refine wp_iload (q := 48) dX12_rowOdds_46 7 rfl rfl ?_
  refine wp_csx (q := 51) (sp_mpower (d := 0) p1 o9 (by omega)) zm_X12_power zl_RX12_540 dX12_rowOdds_48 rfl (by omega) (Nat.le_of_ble_eq_true rfl) rfl ?_
  refine wp_ldc2_w (q := 54) dX12_rowOdds_51 zk_RX12_451 rfl ?_
  rw [zlitL 10000]
  refine wp_lload (q := 56) dX12_rowOdds_54 0 rfl rfl ?_
  refine wp_lsubN (q := 57) dX12_rowOdds_56 (by omega) rfl ?_
  refine wp_iload (q := 59) dX12_rowOdds_57 6 rfl rfl ?_
  refine wp_iload (q := 61) dX12_rowOdds_59 7 rfl rfl ?_
  refine wp_isubN (q := 62) dX12_rowOdds_61 (by omega) rfl ?_
  refine wp_csx (q := 65) (sp_mpower (d := 0) p2 (by omega) (by omega)) zm_X12_power zl_RX12_540 dX12_rowOdds_62 rfl (by omega) (Nat.le_of_ble_eq_true rfl) rfl ?_
  refine wp_lmulN (q := 66) dX12_rowOdds_65 rfl ?_
  rw [hr]
  exact wp_lreturn dX12_rowOdds_66 rfl ⟨rfl, ⟨rfl, rfl, zMc_no c3 (zNo_n (L := L3) e4) n4, zNo_t (zNo_t (zNo_n e2) (zNo_o t3)) (zNo_n e4)⟩⟩ rfl rfl
set_option maxHeartbeats 4000000 in
set_option maxRecDepth 100000 in
theorem sp_mthumb {d t n s hh k w0 : Nat} {M : zMI} {L : zML} {g : zGd} {v : Nat → Nat} {hs : List (Nat → Nat)} {m : zMs} (h : zMo M L n g v hs m) (h2 : 2 ≤ n) (hs0 : s < n) (hh0 : hh < 2) (hk1 : 1 ≤ k) (hk3 : k ≤ 3) (hwk : w0 ≤ k) : Sy yX12_thumb YX12_thumb (d + 8) [.ref 177, .int (nI s), .int (nI hh), .int (nI k), .int (nI w0)] M L (zRf t) (zMn M L t n g v hs m (.int (nI (zthm g.2.2.2.2.2 v n s hh k w0)))) := by
  refine Sp.of (by decide +kernel) rfl (fun h => by first | exact h | cases h) (Nat.le_of_ble_eq_true rfl) ?_
  intro w G
  have hn := h.1.1
  have h8 := h.1.2.1.1.1
  obtain ⟨a, ha⟩ : ∃ a, zthb g.2.2.2.2.2 v n s hh 2 k w0 = a := ⟨_, rfl⟩
  obtain ⟨b, hb⟩ : ∃ b, zthb g.2.2.2.2.2 v n s hh 0 k w0 = b := ⟨_, rfl⟩
  have a9 : a ≤ 1000000000000 := by rw [← ha]; exact zthb_le _ _ _ _ _ _ _ _ hk3
  have b9 : b ≤ 1000000000000 := by rw [← hb]; exact zthb_le _ _ _ _ _ _ _ _ hk3
  have hres : zthm g.2.2.2.2.2 v n s hh k w0 = zshr a (a + b) 500 := by unfold zthm; rw [ha, hb]
  refine wp_aload_n (q := 1) dX12_thumb_0 0 rfl rfl ?_
  refine wp_cvx (q := 4) (sp_mcm (d := 0) hn h8) zm_X12_crackerMany zl_RX12_463 dX12_thumb_1 rfl (by omega) (Nat.le_of_ble_eq_true rfl) zsh_177 rfl rfl ?_
  rw [if_neg (by omega)]
  refine wp_if_eqN (tgt := 47) (q := 7) dX12_thumb_4 (by decide) rfl (by omega) (fun hn => absurd hn (by first | omega | exact fun h => h | exact fun h => h trivial)) (fun _ => ?_)
  refine wp_aload_n (q := 8) dX12_thumb_7 0 rfl rfl ?_
  refine wp_iload_n (q := 9) dX12_thumb_8 1 rfl rfl ?_
  refine wp_cvx (q := 12) (sp_misSeat (d := 0) hn h8) zm_X12_isSeat zl_RX12_477 dX12_thumb_9 rfl (by omega) (Nat.le_of_ble_eq_true rfl) zsh_177 rfl rfl ?_
  rw [if_pos (zin_i hs0 (by omega))]
  refine wp_if_eqN (tgt := 47) (q := 15) dX12_thumb_12 (by decide) rfl (by omega) (fun hn => absurd hn (by first | omega | exact fun h => h | exact fun h => h trivial)) (fun _ => ?_)
  refine wp_aload_n (q := 16) dX12_thumb_15 0 rfl rfl ?_
  refine wp_iload_n (q := 17) dX12_thumb_16 2 rfl rfl ?_
  refine wp_cvx (q := 20) (sp_misHand (d := 0)) zm_X12_isHand zl_RX12_521 dX12_thumb_17 rfl (by omega) (Nat.le_of_ble_eq_true rfl) zsh_177 rfl rfl ?_
  rw [if_pos (zin_i hh0 (by omega))]
  refine wp_if_eqN (tgt := 47) (q := 23) dX12_thumb_20 (by decide) rfl (by omega) (fun hn => absurd hn (by first | omega | exact fun h => h | exact fun h => h trivial)) (fun _ => ?_)
  refine wp_iload_n (q := 24) dX12_thumb_23 3 rfl rfl ?_
  refine wp_i2lN (q := 25) dX12_thumb_24 (by omega) rfl ?_
  refine wp_lconst (q := 26) dX12_thumb_25 zq_lconst_1 rfl ?_
  refine wp_ldc2_w (q := 29) dX12_thumb_26 zk_RX12_544 rfl ?_
  rw [zlitL 3]
  refine wp_csx (q := 32) (sp_isIn (d := 0)) zm_X12_isIn zl_RX12_276 dX12_thumb_29 rfl (by omega) (Nat.le_of_ble_eq_true rfl) rfl ?_
  rw [if_pos ⟨(zlN_le (by omega) (by omega)).mpr hk1, (zlN_le (by omega) (by omega)).mpr hk3⟩]
  refine wp_if_eqN (tgt := 47) (q := 35) dX12_thumb_32 (by decide) rfl (by omega) (fun hn => absurd hn (by first | omega | exact fun h => h | exact fun h => h trivial)) (fun _ => ?_)
  refine wp_iload (q := 37) dX12_thumb_35 4 rfl rfl ?_
  refine wp_i2lN (q := 38) dX12_thumb_37 (by omega) rfl ?_
  refine wp_lconst (q := 39) dX12_thumb_38 zq_lconst_0 rfl ?_
  refine wp_iload_n (q := 40) dX12_thumb_39 3 rfl rfl ?_
  refine wp_i2lN (q := 41) dX12_thumb_40 (by omega) rfl ?_
  refine wp_csx (q := 44) (sp_isIn (d := 0)) zm_X12_isIn zl_RX12_276 dX12_thumb_41 rfl (by omega) (Nat.le_of_ble_eq_true rfl) rfl ?_
  rw [if_pos ⟨(zlN_le (by omega) (by omega)).mpr (Nat.zero_le _), (zlN_le (by omega) (by omega)).mpr hwk⟩]
  refine wp_if_neN (tgt := 49) (q := 47) dX12_thumb_44 (by decide) rfl (by omega) (fun _ => ?_) (fun hn => absurd hn (by first | omega | exact fun h => h | exact fun h => h trivial))
  refine wp_aload_n (q := 50) dX12_thumb_49 0 rfl rfl ?_
  refine wp_iload_n (q := 51) dX12_thumb_50 1 rfl rfl ?_
  refine wp_iload_n (q := 52) dX12_thumb_51 2 rfl rfl ?_
  refine wp_iconst (q := 53) dX12_thumb_52 zq_iconst_2 rfl ?_
  refine wp_iload_n (q := 54) dX12_thumb_53 3 rfl rfl ?_
  refine wp_iload (q := 56) dX12_thumb_54 4 rfl rfl ?_
  refine wp_cvy (q := 59) (sp_mrowOdds (d := 0) (gp := 2) h.1 hs0 hh0 (by decide) hk3 hwk ha) zm_X12_rowOdds zl_RX12_546 dX12_thumb_56 rfl (by omega) (Nat.le_of_ble_eq_true rfl) zsh_177 rfl rfl ?_
  rintro _ M2 L2 _ ⟨rfl, rfl, c2, n2⟩
  refine wp_lstore (q := 61) (loc' := [(5, _), (0, _), (1, _), (2, _), (3, _), (4, _)]) dX12_thumb_59 (by decide) rfl rfl ?_
  refine wp_aload_n (q := 62) dX12_thumb_61 1 rfl rfl ?_
  refine wp_iload_n (q := 63) dX12_thumb_62 2 rfl rfl ?_
  refine wp_iload_n (q := 64) dX12_thumb_63 3 rfl rfl ?_
  refine wp_iconst (q := 65) dX12_thumb_64 zq_iconst_0 rfl ?_
  refine wp_iload_n (q := 66) dX12_thumb_65 4 rfl rfl ?_
  refine wp_iload (q := 68) dX12_thumb_66 5 rfl rfl ?_
  refine wp_cvy (q := 71) (sp_mrowOdds (d := 0) (gp := 0) c2 hs0 hh0 (by decide) hk3 hwk hb) zm_X12_rowOdds zl_RX12_546 dX12_thumb_68 rfl (by omega) (Nat.le_of_ble_eq_true rfl) zsh_177 rfl rfl ?_
  rintro _ M3 L3 _ ⟨rfl, rfl, c3, n3⟩
  have nn := zNo_t n2 n3
  have hM := zMo_no h nn c3.2.1
  have hY := zYf_no nn
  have hq : 1000 * a / (a + b) ≤ 1000 := by
    refine Nat.div_le_of_le_mul ?_
    rw [Nat.mul_comm]
    exact Nat.mul_le_mul (by omega) (Nat.le_refl _)
  refine wp_lstore (q := 73) (loc' := [(7, _), (5, _), (0, _), (1, _), (2, _), (3, _), (4, _)]) dX12_thumb_71 (by decide) rfl rfl ?_
  refine wp_lload (q := 75) dX12_thumb_73 1 rfl rfl ?_
  refine wp_lload (q := 77) dX12_thumb_75 0 rfl rfl ?_
  refine wp_laddN (q := 78) dX12_thumb_77 rfl ?_
  refine wp_lconst (q := 79) dX12_thumb_78 zq_lconst_0 rfl ?_
  refine wp_lcmp_neN (tgt := 89) (q := 83) dX12_thumb_79 rfl dX12_thumb_80 (by decide) rfl (by omega) (by omega) (fun c => ?_) (fun c => ?_)
  · skip
    refine wp_ldc2_w (q := 92) dX12_thumb_89 zk_RX12_550 rfl ?_
    rw [zlitL 1000]
    refine wp_lload (q := 94) dX12_thumb_92 1 rfl rfl ?_
    refine wp_lmulN (q := 95) dX12_thumb_94 rfl ?_
    refine wp_lload (q := 97) dX12_thumb_95 1 rfl rfl ?_
    refine wp_lload (q := 99) dX12_thumb_97 0 rfl rfl ?_
    refine wp_laddN (q := 100) dX12_thumb_99 rfl ?_
    refine wp_ldivN (q := 101) dX12_thumb_100 (by omega) (by omega) (by omega) rfl ?_
    refine wp_l2iN (q := 102) dX12_thumb_101 rfl ?_
    refine wp_ireturn dX12_thumb_102 rfl ⟨rfl, ⟨?_, rfl, hM, hY⟩⟩ rfl rfl
    rw [hres]
    unfold zshr
    rw [if_neg c]
  · skip
    refine wp_sipush (q := 86) dX12_thumb_83 zq_sipush_500 rfl ?_
    refine wp_goto (tgt := 102) dX12_thumb_86 (by decide) ?_
    refine wp_ireturn dX12_thumb_102 rfl ⟨rfl, ⟨?_, rfl, hM, hY⟩⟩ rfl rfl
    rw [hres]
    unfold zshr
    rw [if_pos c]
set_option maxHeartbeats 4000000 in
set_option maxRecDepth 100000 in
theorem sp_mthumbN {d t n : Nat} {x y z u : Int32} {M : zMI} {L : zML} {g : zGd} {v : Nat → Nat} {hs : List (Nat → Nat)} {m : zMs} (h : zMo M L n g v hs m) (hN : ¬ (2 ≤ n ∧ zin x n ∧ zin y 2 ∧ ¬ z < nI 1 ∧ ¬ nI 3 < z ∧ ¬ u < 0 ∧ u ≤ z)) : Sy yX12_thumb YX12_thumb (d + 8) [.ref 177, .int x, .int y, .int z, .int u] M L (zRf t) (zMn M L t n g v hs m (.int (-1))) := by
  refine Sp.of (by decide +kernel) rfl (fun h => by first | exact h | cases h) (Nat.le_of_ble_eq_true rfl) ?_
  intro w G
  have hn := h.1.1
  have h8 := h.1.2.1.1.1
  refine wp_aload_n (q := 1) dX12_thumb_0 0 rfl rfl ?_
  refine wp_cvx (q := 4) (sp_mcm (d := 0) hn h8) zm_X12_crackerMany zl_RX12_463 dX12_thumb_1 rfl (by omega) (Nat.le_of_ble_eq_true rfl) zsh_177 rfl rfl ?_
  by_cases c2 : 2 ≤ n
  · rw [if_neg (by omega)]
    refine wp_if_eqN (tgt := 47) (q := 7) dX12_thumb_4 (by decide) rfl (by omega) (fun hn => absurd hn (by first | omega | exact fun h => h | exact fun h => h trivial)) (fun _ => ?_)
    refine wp_aload_n (q := 8) dX12_thumb_7 0 rfl rfl ?_
    refine wp_iload_n (q := 9) dX12_thumb_8 1 rfl rfl ?_
    refine wp_cvx (q := 12) (sp_misSeat (d := 0) hn h8) zm_X12_isSeat zl_RX12_477 dX12_thumb_9 rfl (by omega) (Nat.le_of_ble_eq_true rfl) zsh_177 rfl rfl ?_
    by_cases cx : zin x n
    · rw [if_pos cx]
      refine wp_if_eqN (tgt := 47) (q := 15) dX12_thumb_12 (by decide) rfl (by omega) (fun hn => absurd hn (by first | omega | exact fun h => h | exact fun h => h trivial)) (fun _ => ?_)
      refine wp_aload_n (q := 16) dX12_thumb_15 0 rfl rfl ?_
      refine wp_iload_n (q := 17) dX12_thumb_16 2 rfl rfl ?_
      refine wp_cvx (q := 20) (sp_misHand (d := 0)) zm_X12_isHand zl_RX12_521 dX12_thumb_17 rfl (by omega) (Nat.le_of_ble_eq_true rfl) zsh_177 rfl rfl ?_
      by_cases cy : zin y 2
      · rw [if_pos cy]
        refine wp_if_eqN (tgt := 47) (q := 23) dX12_thumb_20 (by decide) rfl (by omega) (fun hn => absurd hn (by first | omega | exact fun h => h | exact fun h => h trivial)) (fun _ => ?_)
        refine wp_iload_n (q := 24) dX12_thumb_23 3 rfl rfl ?_
        refine wp_i2l (q := 25) dX12_thumb_24 rfl ?_
        refine wp_lconst (q := 26) dX12_thumb_25 zq_lconst_1 rfl ?_
        refine wp_ldc2_w (q := 29) dX12_thumb_26 zk_RX12_544 rfl ?_
        rw [zlitL 3, show lN 1 = (nI 1).toInt64 from rfl, show lN 3 = (nI 3).toInt64 from rfl]
        refine wp_csx (q := 32) (sp_isIn (d := 0)) zm_X12_isIn zl_RX12_276 dX12_thumb_29 rfl (by omega) (Nat.le_of_ble_eq_true rfl) rfl ?_
        by_cases cz : nI 1 ≤ z ∧ z ≤ nI 3
        · rw [if_pos (zis.mpr cz)]
          refine wp_if_eqN (tgt := 47) (q := 35) dX12_thumb_32 (by decide) rfl (by omega) (fun hn => absurd hn (by first | omega | exact fun h => h | exact fun h => h trivial)) (fun _ => ?_)
          refine wp_iload (q := 37) dX12_thumb_35 4 rfl rfl ?_
          refine wp_i2l (q := 38) dX12_thumb_37 rfl ?_
          refine wp_lconst (q := 39) dX12_thumb_38 zq_lconst_0 rfl ?_
          refine wp_iload_n (q := 40) dX12_thumb_39 3 rfl rfl ?_
          refine wp_i2l (q := 41) dX12_thumb_40 rfl ?_
          rw [show lN 0 = (nI 0).toInt64 from rfl]
          refine wp_csx (q := 44) (sp_isIn (d := 0)) zm_X12_isIn zl_RX12_276 dX12_thumb_41 rfl (by omega) (Nat.le_of_ble_eq_true rfl) rfl ?_
          rw [if_neg (show ¬ ((nI 0).toInt64 ≤ u.toInt64 ∧ u.toInt64 ≤ z.toInt64) from fun e => hN ⟨c2, cx, cy, Int32.not_lt.mpr cz.1, Int32.not_lt.mpr cz.2, Int32.not_lt.mpr (zis.mp e).1, (zis.mp e).2⟩)]
          refine wp_if_neN (tgt := 49) (q := 47) dX12_thumb_44 (by decide) rfl (by omega) (fun hn => absurd hn (by first | omega | exact fun h => h | exact fun h => h trivial)) (fun _ => ?_)
          refine wp_iconst (q := 48) dX12_thumb_47 zq_iconst_m1 rfl ?_
          exact wp_ireturn dX12_thumb_48 rfl ⟨rfl, ⟨rfl, rfl, h, zYf_r⟩⟩ rfl rfl
        · rw [if_neg (fun e => cz (zis.mp e))]
          refine wp_if_eqN (tgt := 47) (q := 35) dX12_thumb_32 (by decide) rfl (by omega) (fun _ => ?_) (fun hn => absurd hn (by first | omega | exact fun h => h | exact fun h => h trivial))
          refine wp_iconst (q := 48) dX12_thumb_47 zq_iconst_m1 rfl ?_
          exact wp_ireturn dX12_thumb_48 rfl ⟨rfl, ⟨rfl, rfl, h, zYf_r⟩⟩ rfl rfl
      · rw [if_neg cy]
        refine wp_if_eqN (tgt := 47) (q := 23) dX12_thumb_20 (by decide) rfl (by omega) (fun _ => ?_) (fun hn => absurd hn (by first | omega | exact fun h => h | exact fun h => h trivial))
        refine wp_iconst (q := 48) dX12_thumb_47 zq_iconst_m1 rfl ?_
        exact wp_ireturn dX12_thumb_48 rfl ⟨rfl, ⟨rfl, rfl, h, zYf_r⟩⟩ rfl rfl
    · rw [if_neg cx]
      refine wp_if_eqN (tgt := 47) (q := 15) dX12_thumb_12 (by decide) rfl (by omega) (fun _ => ?_) (fun hn => absurd hn (by first | omega | exact fun h => h | exact fun h => h trivial))
      refine wp_iconst (q := 48) dX12_thumb_47 zq_iconst_m1 rfl ?_
      exact wp_ireturn dX12_thumb_48 rfl ⟨rfl, ⟨rfl, rfl, h, zYf_r⟩⟩ rfl rfl
  · rw [if_pos (by omega)]
    refine wp_if_eqN (tgt := 47) (q := 7) dX12_thumb_4 (by decide) rfl (by omega) (fun _ => ?_) (fun hn => absurd hn (by first | omega | exact fun h => h | exact fun h => h trivial))
    refine wp_iconst (q := 48) dX12_thumb_47 zq_iconst_m1 rfl ?_
    exact wp_ireturn dX12_thumb_48 rfl ⟨rfl, ⟨rfl, rfl, h, zYf_r⟩⟩ rfl rfl

