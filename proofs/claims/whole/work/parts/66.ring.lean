theorem zCI_hv {M : zMI} {L : zML} {t n : Nat} {g : zGd} {v : Nat → Nat} {hs : List (Nat → Nat)} {m : zMs} (h : zCI M L t n g v hs m) : zV n v := h.2.1
theorem zCI_sr {M : zMI} {L : zML} {t n : Nat} {g : zGd} {v : Nat → Nat} {hs : List (Nat → Nat)} {m : zMs} (h : zCI M L t n g v hs m) : zSR M 43 n v := h.2.2.2.1
theorem zCI_pm {M : zMI} {L : zML} {t n : Nat} {g : zGd} {v : Nat → Nat} {hs : List (Nat → Nat)} {m : zMs} (h : zCI M L t n g v hs m) : zPM M := h.2.2.2.2.2.1
theorem zCI_tm {M : zMI} {L : zML} {t n : Nat} {g : zGd} {v : Nat → Nat} {hs : List (Nat → Nat)} {m : zMs} (h : zCI M L t n g v hs m) : zTM M t n g.2.2.2.2.2 := h.2.2.1.2.2.2.2.2.2.2.2
theorem zPy_scr {t x : Nat} (hT : zTab t) (h : zPy t x) : zScr x := by
  have ht2 : t = 10 ∨ t = 24 := hT
  unfold zScr
  rcases h with (h | h | h | h) | h | h | h <;> omega
theorem zCI_py {M M' : zMI} {L : zML} {t n : Nat} {g : zGd} {v : Nat → Nat} {hs : List (Nat → Nat)} {m : zMs} (h : zCI M L t n g v hs m) (hp : zPM M') (e : ∀ x, ¬ zPy t x → M' x = M x) : zCI M' L t n g v hs m := by
  have ht2 : t = 10 ∨ t = 24 := h.1
  have h6 : M' 156 = M 156 := e 156 (fun c => by rcases c with (c | c | c | c) | c | c | c <;> omega)
  exact zCI_scr h hp (fun x x1 x2 x3 => e x (fun c => x2 (zPy_scr h.1 c))) (by rw [h6]) (by rw [h6]) rfl
theorem zXf_py {M M' : zMI} {L : zML} {t : Nat} (hT : zTab t) (e : ∀ x, ¬ zPy t x → M' x = M x) : zXf M M' L L := by
  have ht2 : t = 10 ∨ t = 24 := hT
  exact fun x hx => ⟨e x (fun c => by rcases c with (c | c | c | c) | c | c | c <;> omega), rfl⟩
theorem zPx_y {t x : Nat} (h : ¬ zPy t x) : ¬ zPx t x := fun c => h (Or.inl c)
set_option maxHeartbeats 4000000 in
set_option maxRecDepth 100000 in
theorem sp_pulls {d t n : Nat} {x : Int32} {M : zMI} {L : zML} {v : Nat → Nat} (hv : zV n v) (hr : zSR M 43 n v) : Sx yX11_pulls YX11_pulls (d + 1) [.ref 0, .int x] M L (zRf t) (some (.int (if zin x n ∧ 2 ≤ n then nI 1 else nI 0))) M L (zRf t) := by
  refine Sp.of (by decide +kernel) rfl (fun h => by first | exact h | cases h) (Nat.le_of_ble_eq_true rfl) ?_
  intro w G
  have ho : zSt 43 := Or.inl rfl
  refine wp_aload_n (q := 1) dX11_pulls_0 0 rfl rfl ?_
  refine wp_iload_n (q := 2) dX11_pulls_1 1 rfl rfl ?_
  refine wp_cvx (q := 5) (sp_isSeat (d := 0) hr.1 hv.1) zm_X11_isSeat zl_RX11_196 dX11_pulls_2 rfl (by omega) (Nat.le_of_ble_eq_true rfl) zsh_0 rfl rfl ?_
  by_cases c : zin x n
  · rw [if_pos c]
    refine wp_if_eqN (tgt := 22) (q := 8) dX11_pulls_5 (by decide) rfl (by omega) (fun hn => absurd hn (by first | omega | exact fun h => h | exact fun h => h trivial)) (fun _ => ?_)
    refine wp_aload_n (q := 9) dX11_pulls_8 0 rfl rfl ?_
    refine wp_getR (q := 12) dX11_pulls_9 zf_RX11_55 rfl zsh_0 (zr_0_7 _) rfl ?_
    refine wp_cvx (q := 15) (sp_crackers (d := 0) ho hr.1 hv.1) zm_X7_crackers zl_RX11_168 dX11_pulls_12 rfl (by omega) (Nat.le_of_ble_eq_true rfl) zsh_43 rfl rfl ?_
    by_cases c2 : n < 2
    · rw [if_pos c2, if_neg (fun e => by omega)]
      refine wp_if_leN (tgt := 22) (q := 18) dX11_pulls_15 (by decide) rfl (by omega) (fun _ => ?_) (fun hn => absurd hn (by first | omega | exact fun h => h | exact fun h => h trivial))
      refine wp_iconst (q := 23) dX11_pulls_22 zq_iconst_0 rfl ?_
      exact wp_zreturn dX11_pulls_23 rfl (by first | with_reducible exact znar_0 | with_reducible exact znar_1 | assumption) ⟨rfl, rfl, rfl, rfl, rfl⟩ rfl rfl
    · rw [if_neg c2, if_pos ⟨c, by omega⟩]
      have h8 := hv.1
      refine wp_if_leN (tgt := 22) (q := 18) dX11_pulls_15 (by decide) rfl (by omega) (fun hn => absurd hn (by first | omega | exact fun h => h | exact fun h => h trivial)) (fun _ => ?_)
      refine wp_iconst (q := 19) dX11_pulls_18 zq_iconst_1 rfl ?_
      refine wp_goto (tgt := 23) dX11_pulls_19 (by decide) ?_
      exact wp_zreturn dX11_pulls_23 rfl (by first | with_reducible exact znar_0 | with_reducible exact znar_1 | assumption) ⟨rfl, rfl, rfl, rfl, rfl⟩ rfl rfl
  · rw [if_neg c, if_neg (fun e => c e.1)]
    refine wp_if_eqN (tgt := 22) (q := 8) dX11_pulls_5 (by decide) rfl (by omega) (fun _ => ?_) (fun hn => absurd hn (by first | omega | exact fun h => h | exact fun h => h trivial))
    refine wp_iconst (q := 23) dX11_pulls_22 zq_iconst_0 rfl ?_
    exact wp_zreturn dX11_pulls_23 rfl (by first | with_reducible exact znar_0 | with_reducible exact znar_1 | assumption) ⟨rfl, rfl, rfl, rfl, rfl⟩ rfl rfl
theorem zin01 {x : Int32} : (x = 0 ∨ x = nI 1) ↔ zin x 2 := by
  constructor
  · rintro (rfl | rfl)
    · exact ⟨by decide, by decide⟩
    · exact ⟨by decide, by decide⟩
  · intro h
    obtain ⟨s, hs, rfl⟩ := zin_n (by decide) h
    have : s = 0 ∨ s = 1 := by omega
    rcases this with rfl | rfl
    · exact Or.inl rfl
    · exact Or.inr rfl
theorem zin_le {x : Int32} {k : Nat} (hk : k < 2147483647) (h1 : ¬ x < 0) (h2 : ¬ nI k < x) : zin x (k + 1) := by
  refine ⟨Int32.not_lt.mp h1, ?_⟩
  rw [Int32.lt_iff_toInt_lt, nI_toInt (by omega)] at *
  omega
theorem zin_le' {x : Int32} {k : Nat} (hk : k < 2147483647) (h : zin x (k + 1)) : ¬ x < 0 ∧ ¬ nI k < x := by
  obtain ⟨s, hs, rfl⟩ := zin_n (by omega) h
  exact ⟨nI_pos (by omega), fun c => by have := (nI_ltI (by omega) (by omega)).mp c; omega⟩
set_option maxHeartbeats 4000000 in
set_option maxRecDepth 100000 in
theorem sp_isHand {d : Nat} {x : Int32} {M : zMI} {L : zML} {R : zMR} : Sx yX11_isHand YX11_isHand (d) [.ref 0, .int x] M L R (some (.int (if zin x 2 then nI 1 else nI 0))) M L R := by
  refine Sp.of (by decide +kernel) rfl (fun h => by first | exact h | cases h) (Nat.le_of_ble_eq_true rfl) ?_
  intro w G
  refine wp_iload_n (q := 1) dX11_isHand_0 1 rfl rfl ?_
  refine wp_if_eq (tgt := 9) (q := 4) dX11_isHand_1 (by decide) rfl (fun h0 => ?_) (fun h0 => ?_)
  · skip
    rw [if_pos (zin01.mp (Or.inl h0))]
    refine wp_iconst (q := 10) dX11_isHand_9 zq_iconst_1 rfl ?_
    refine wp_goto (tgt := 14) dX11_isHand_10 (by decide) ?_
    exact wp_zreturn dX11_isHand_14 rfl (by first | with_reducible exact znar_0 | with_reducible exact znar_1 | assumption) ⟨rfl, rfl, rfl, rfl, rfl⟩ rfl rfl
  · skip
    refine wp_iload_n (q := 5) dX11_isHand_4 1 rfl rfl ?_
    refine wp_iconst (q := 6) dX11_isHand_5 zq_iconst_1 rfl ?_
    refine wp_icmp_ne (tgt := 13) (q := 9) dX11_isHand_6 (by decide) rfl (fun h1 => ?_) (fun h1 => ?_)
    · skip
      rw [if_neg (fun c => (zin01.mpr c).elim h0 h1)]
      refine wp_iconst (q := 14) dX11_isHand_13 zq_iconst_0 rfl ?_
      exact wp_zreturn dX11_isHand_14 rfl (by first | with_reducible exact znar_0 | with_reducible exact znar_1 | assumption) ⟨rfl, rfl, rfl, rfl, rfl⟩ rfl rfl
    · skip
      rw [if_pos (zin01.mp (Or.inr h1))]
      refine wp_iconst (q := 10) dX11_isHand_9 zq_iconst_1 rfl ?_
      refine wp_goto (tgt := 14) dX11_isHand_10 (by decide) ?_
      exact wp_zreturn dX11_isHand_14 rfl (by first | with_reducible exact znar_0 | with_reducible exact znar_1 | assumption) ⟨rfl, rfl, rfl, rfl, rfl⟩ rfl rfl
set_option maxHeartbeats 4000000 in
set_option maxRecDepth 100000 in
theorem sp_isDinnersHats {d : Nat} {x : Int32} {M : zMI} {L : zML} {R : zMR} : Sx yX11_isDinnersHats YX11_isDinnersHats (d) [.ref 0, .int x] M L R (some (.int (if zin x 3 then nI 1 else nI 0))) M L R := by
  refine Sp.of (by decide +kernel) rfl (fun h => by first | exact h | cases h) (Nat.le_of_ble_eq_true rfl) ?_
  intro w G
  refine wp_iload_n (q := 1) dX11_isDinnersHats_0 1 rfl rfl ?_
  refine wp_if_lt (tgt := 13) (q := 4) dX11_isDinnersHats_1 (by decide) rfl (fun h0 => ?_) (fun h0 => ?_)
  · skip
    rw [if_neg (fun c => (zin_le' (by decide) c).1 h0)]
    refine wp_iconst (q := 14) dX11_isDinnersHats_13 zq_iconst_0 rfl ?_
    exact wp_zreturn dX11_isDinnersHats_14 rfl (by first | with_reducible exact znar_0 | with_reducible exact znar_1 | assumption) ⟨rfl, rfl, rfl, rfl, rfl⟩ rfl rfl
  · skip
    refine wp_iload_n (q := 5) dX11_isDinnersHats_4 1 rfl rfl ?_
    refine wp_iconst (q := 6) dX11_isDinnersHats_5 zq_iconst_2 rfl ?_
    refine wp_icmp_gt (tgt := 13) (q := 9) dX11_isDinnersHats_6 (by decide) rfl (fun h1 => ?_) (fun h1 => ?_)
    · skip
      rw [if_neg (fun c => (zin_le' (by decide) c).2 h1)]
      refine wp_iconst (q := 14) dX11_isDinnersHats_13 zq_iconst_0 rfl ?_
      exact wp_zreturn dX11_isDinnersHats_14 rfl (by first | with_reducible exact znar_0 | with_reducible exact znar_1 | assumption) ⟨rfl, rfl, rfl, rfl, rfl⟩ rfl rfl
    · skip
      rw [if_pos (zin_le (by decide) h0 h1)]
      refine wp_iconst (q := 10) dX11_isDinnersHats_9 zq_iconst_1 rfl ?_
      refine wp_goto (tgt := 14) dX11_isDinnersHats_10 (by decide) ?_
      exact wp_zreturn dX11_isDinnersHats_14 rfl (by first | with_reducible exact znar_0 | with_reducible exact znar_1 | assumption) ⟨rfl, rfl, rfl, rfl, rfl⟩ rfl rfl
set_option maxHeartbeats 4000000 in
set_option maxRecDepth 100000 in
theorem sp_thousandths {d p : Nat} {M : zMI} {L : zML} {R : zMR} (hp : p < 9223372036854775808) : Sx yX11_thousandths YX11_thousandths (d) [.ref 0, .long (lN p)] M L R (some (.int (nI (p / 100000)))) M L R := by
  refine Sp.of (by decide +kernel) rfl (fun h => by first | exact h | cases h) (Nat.le_of_ble_eq_true rfl) ?_
  intro w G
  refine wp_lload_n (q := 1) dX11_thousandths_0 1 rfl rfl ?_
  refine wp_ldc2_w (q := 4) dX11_thousandths_1 zk_RX11_263 rfl ?_
  rw [zlitL 100000]
  refine wp_ldivN (q := 5) dX11_thousandths_4 (by omega) (by omega) (by omega) rfl ?_
  refine wp_l2iN (q := 6) dX11_thousandths_5 rfl ?_
  exact wp_ireturn dX11_thousandths_6 rfl ⟨rfl, rfl, rfl, rfl, rfl⟩ rfl rfl
set_option maxHeartbeats 4000000 in
set_option maxRecDepth 100000 in
theorem sp_letter0 {d t n s k : Nat} {M : zMI} {L : zML} {g : zGd} {v : Nat → Nat} {hs : List (Nat → Nat)} {m : zMs} (h : zCI M L t n g v hs m) (hs0 : s < n) (hk : k < 6) : Sy yX11_letter YX11_letter (d + 1) [.ref 0, .int (nI 0), .int (nI s), .int (nI k)] M L (zRf t) (zAn M L t n g v hs m (.int (nI (g.1 (wh v s) / 27 ^ k % 27)))) := by
  refine Sp.of (by decide +kernel) rfl (fun h => by first | exact h | cases h) (Nat.le_of_ble_eq_true rfl) ?_
  intro w G
  obtain ⟨s0, s1, s2, s3, s4, s5, s6, s7, s8, s11⟩ := zTab_s h.1
  obtain ⟨r2, r3, r4, r5, r6, r8, r9, r13, r14⟩ := zTab_r (t := t) h.1
  obtain ⟨c1, c2, c3, c4, c5, c6, c7, c8, c9⟩ := zCI_ct h
  have hv := zCI_hv h
  have hr := zCI_sr h
  have h8 := hv.1
  have hw := hv.2.1 s hs0
  obtain ⟨a1, -, -⟩ := hr.2.2.2.2 s hs0
  refine wp_iload_n (q := 1) dX11_letter_0 3 rfl rfl ?_
  refine wp_if_ltN (tgt := 10) (q := 4) dX11_letter_1 (by decide) rfl (by omega) (fun hn => absurd hn (by first | omega | exact fun h => h | exact fun h => h trivial)) (fun _ => ?_)
  refine wp_iload_n (q := 5) dX11_letter_4 3 rfl rfl ?_
  refine wp_bipush (q := 7) dX11_letter_5 zq_bipush_6 rfl ?_
  refine wp_icmp_ltN (tgt := 12) (q := 10) dX11_letter_7 (by decide) rfl (by omega) (by omega) (fun _ => ?_) (fun hn => absurd hn (by first | omega | exact fun h => h | exact fun h => h trivial))
  refine wp_iload_n (q := 13) dX11_letter_12 1 rfl rfl ?_
  refine wp_if_neN (tgt := 47) (q := 16) dX11_letter_13 (by decide) rfl (by omega) (fun hn => absurd hn (by first | omega | exact fun h => h | exact fun h => h trivial)) (fun _ => ?_)
  refine wp_aload_n (q := 17) dX11_letter_16 0 rfl rfl ?_
  refine wp_iload_n (q := 18) dX11_letter_17 2 rfl rfl ?_
  refine wp_cvx (q := 21) (sp_isSeat (d := 0) hr.1 h8) zm_X11_isSeat zl_RX11_196 dX11_letter_18 rfl (by omega) (Nat.le_of_ble_eq_true rfl) zsh_0 rfl rfl ?_
  rw [if_pos (zin_i hs0 (by omega))]
  refine wp_if_eqN (tgt := 47) (q := 24) dX11_letter_21 (by decide) rfl (by omega) (fun hn => absurd hn (by first | omega | exact fun h => h | exact fun h => h trivial)) (fun _ => ?_)
  refine wp_aload_n (q := 25) dX11_letter_24 0 rfl rfl ?_
  refine wp_aload_n (q := 26) dX11_letter_25 0 rfl rfl ?_
  refine wp_getR (q := 29) dX11_letter_26 zf_RX11_36 rfl zsh_0 (zr_0_4 _) rfl ?_
  refine wp_getR (q := 32) dX11_letter_29 zf_RX11_199 rfl (by first | assumption | rfl) (by first | assumption | rfl) rfl ?_
  refine wp_aload_n (q := 33) dX11_letter_32 0 rfl rfl ?_
  refine wp_getR (q := 36) dX11_letter_33 zf_RX11_55 rfl zsh_0 (zr_0_7 _) rfl ?_
  refine wp_getR (q := 39) dX11_letter_36 zf_RX11_202 rfl zsh_43 (zr_43_4 _) rfl ?_
  refine wp_iload_n (q := 40) dX11_letter_39 2 rfl rfl ?_
  refine wp_iald (q := 41) _ dX11_letter_40 zsh_44 rfl (by omega) (by decide) rfl ?_
  rw [a1]
  refine wp_iald (q := 42) _ dX11_letter_41 (by first | assumption | rfl) rfl (by omega) (by decide) rfl ?_
  rw [(c2 _ hw).1]
  refine wp_iload_n (q := 43) dX11_letter_42 3 rfl rfl ?_
  refine wp_cvx (q := 46) (sp_letterOf (d := 0) (c2 _ hw).2 hk) zm_X11_letterOf zl_RX11_205 dX11_letter_43 rfl (by omega) (Nat.le_of_ble_eq_true rfl) zsh_0 rfl rfl ?_
  exact wp_ireturn dX11_letter_46 rfl ⟨rfl, ⟨rfl, rfl, h, zXf_r⟩⟩ rfl rfl
set_option maxHeartbeats 4000000 in
set_option maxRecDepth 100000 in
theorem sp_letter1 {d t n j k : Nat} {M : zMI} {L : zML} {g : zGd} {v : Nat → Nat} {hs : List (Nat → Nat)} {m : zMs} (h : zCI M L t n g v hs m) (hj0 : j < g.2.1) (hk : k < 6) : Sy yX11_letter YX11_letter (d + 1) [.ref 0, .int (nI 1), .int (nI j), .int (nI k)] M L (zRf t) (zAn M L t n g v hs m (.int (nI (g.2.2.1 j / 27 ^ k % 27)))) := by
  refine Sp.of (by decide +kernel) rfl (fun h => by first | exact h | cases h) (Nat.le_of_ble_eq_true rfl) ?_
  intro w G
  obtain ⟨s0, s1, s2, s3, s4, s5, s6, s7, s8, s11⟩ := zTab_s h.1
  obtain ⟨r2, r3, r4, r5, r6, r8, r9, r13, r14⟩ := zTab_r (t := t) h.1
  obtain ⟨c1, c2, c3, c4, c5, c6, c7, c8, c9⟩ := zCI_ct h
  refine wp_iload_n (q := 1) dX11_letter_0 3 rfl rfl ?_
  refine wp_if_ltN (tgt := 10) (q := 4) dX11_letter_1 (by decide) rfl (by omega) (fun hn => absurd hn (by first | omega | exact fun h => h | exact fun h => h trivial)) (fun _ => ?_)
  refine wp_iload_n (q := 5) dX11_letter_4 3 rfl rfl ?_
  refine wp_bipush (q := 7) dX11_letter_5 zq_bipush_6 rfl ?_
  refine wp_icmp_ltN (tgt := 12) (q := 10) dX11_letter_7 (by decide) rfl (by omega) (by omega) (fun _ => ?_) (fun hn => absurd hn (by first | omega | exact fun h => h | exact fun h => h trivial))
  refine wp_iload_n (q := 13) dX11_letter_12 1 rfl rfl ?_
  refine wp_if_neN (tgt := 47) (q := 16) dX11_letter_13 (by decide) rfl (by omega) (fun _ => ?_) (fun hn => absurd hn (by first | omega | exact fun h => h | exact fun h => h trivial))
  refine wp_iload_n (q := 48) dX11_letter_47 1 rfl rfl ?_
  refine wp_iconst (q := 49) dX11_letter_48 zq_iconst_1 rfl ?_
  refine wp_icmp_neN (tgt := 82) (q := 52) dX11_letter_49 (by decide) rfl (by omega) (by omega) (fun hn => absurd hn (by first | omega | exact fun h => h | exact fun h => h trivial)) (fun _ => ?_)
  refine wp_iload_n (q := 53) dX11_letter_52 2 rfl rfl ?_
  refine wp_if_ltN (tgt := 82) (q := 56) dX11_letter_53 (by decide) rfl (by omega) (fun hn => absurd hn (by first | omega | exact fun h => h | exact fun h => h trivial)) (fun _ => ?_)
  refine wp_iload_n (q := 57) dX11_letter_56 2 rfl rfl ?_
  refine wp_aload_n (q := 58) dX11_letter_57 0 rfl rfl ?_
  refine wp_getR (q := 61) dX11_letter_58 zf_RX11_36 rfl zsh_0 (zr_0_4 _) rfl ?_
  refine wp_getI (q := 64) dX11_letter_61 zf_RX11_172 rfl (by first | assumption | rfl) rfl ?_
  rw [c3]
  refine wp_icmp_geN (tgt := 82) (q := 67) dX11_letter_64 (by decide) rfl (by omega) (by omega) (fun hn => absurd hn (by first | omega | exact fun h => h | exact fun h => h trivial)) (fun _ => ?_)
  refine wp_aload_n (q := 68) dX11_letter_67 0 rfl rfl ?_
  refine wp_aload_n (q := 69) dX11_letter_68 0 rfl rfl ?_
  refine wp_getR (q := 72) dX11_letter_69 zf_RX11_36 rfl zsh_0 (zr_0_4 _) rfl ?_
  refine wp_getR (q := 75) dX11_letter_72 zf_RX11_209 rfl (by first | assumption | rfl) (by first | assumption | rfl) rfl ?_
  refine wp_iload_n (q := 76) dX11_letter_75 2 rfl rfl ?_
  refine wp_iald (q := 77) _ dX11_letter_76 (by first | assumption | rfl) rfl (by omega) (by decide) rfl ?_
  rw [(c5 _ hj0).1]
  refine wp_iload_n (q := 78) dX11_letter_77 3 rfl rfl ?_
  refine wp_cvx (q := 81) (sp_letterOf (d := 0) (c5 _ hj0).2 hk) zm_X11_letterOf zl_RX11_205 dX11_letter_78 rfl (by omega) (Nat.le_of_ble_eq_true rfl) zsh_0 rfl rfl ?_
  exact wp_ireturn dX11_letter_81 rfl ⟨rfl, ⟨rfl, rfl, h, zXf_r⟩⟩ rfl rfl
set_option maxHeartbeats 4000000 in
set_option maxRecDepth 100000 in
theorem sp_letterN {d t n : Nat} {x y z : Int32} {M : zMI} {L : zML} {g : zGd} {v : Nat → Nat} {hs : List (Nat → Nat)} {m : zMs} (h : zCI M L t n g v hs m) (hN : ¬ (zin z 6 ∧ ((x = 0 ∧ zin y n) ∨ (x = nI 1 ∧ zin y g.2.1)))) : Sy yX11_letter YX11_letter (d + 1) [.ref 0, .int x, .int y, .int z] M L (zRf t) (zAn M L t n g v hs m (.int (-1))) := by
  refine Sp.of (by decide +kernel) rfl (fun h => by first | exact h | cases h) (Nat.le_of_ble_eq_true rfl) ?_
  intro w G
  obtain ⟨s0, s1, s2, s3, s4, s5, s6, s7, s8, s11⟩ := zTab_s h.1
  obtain ⟨r2, r3, r4, r5, r6, r8, r9, r13, r14⟩ := zTab_r (t := t) h.1
  obtain ⟨c1, c2, c3, c4, c5, c6, c7, c8, c9⟩ := zCI_ct h
  have hv := zCI_hv h
  have hr := zCI_sr h
  have h8 := hv.1
  have at47 : zin z 6 → WP w YX11_letter (d + 1, SS, 0, 0) G (some (zXp (zAn M L t n g v hs m (.int (-1))))) 47 [(0, .ref 0), (1, .int x), (2, .int y), (3, .int z)] [] SS M L (zRf t) := by
    intro hz
    refine wp_iload_n (q := 48) dX11_letter_47 1 rfl rfl ?_
    refine wp_iconst (q := 49) dX11_letter_48 zq_iconst_1 rfl ?_
    refine wp_icmp_ne (tgt := 82) (q := 52) dX11_letter_49 (by decide) rfl (fun e1 => ?_) (fun e1 => ?_)
    · skip
      refine wp_iconst (q := 83) dX11_letter_82 zq_iconst_m1 rfl ?_
      exact wp_ireturn dX11_letter_83 rfl ⟨rfl, ⟨rfl, rfl, h, zXf_r⟩⟩ rfl rfl
    · skip
      refine wp_iload_n (q := 53) dX11_letter_52 2 rfl rfl ?_
      refine wp_if_lt (tgt := 82) (q := 56) dX11_letter_53 (by decide) rfl (fun e2 => ?_) (fun e2 => ?_)
      · skip
        refine wp_iconst (q := 83) dX11_letter_82 zq_iconst_m1 rfl ?_
        exact wp_ireturn dX11_letter_83 rfl ⟨rfl, ⟨rfl, rfl, h, zXf_r⟩⟩ rfl rfl
      · skip
        refine wp_iload_n (q := 57) dX11_letter_56 2 rfl rfl ?_
        refine wp_aload_n (q := 58) dX11_letter_57 0 rfl rfl ?_
        refine wp_getR (q := 61) dX11_letter_58 zf_RX11_36 rfl zsh_0 (zr_0_4 _) rfl ?_
        refine wp_getI (q := 64) dX11_letter_61 zf_RX11_172 rfl (by first | assumption | rfl) rfl ?_
        rw [c3]
        refine wp_icmp_ge (tgt := 82) (q := 67) dX11_letter_64 (by decide) rfl (fun _ => ?_) (fun hn => absurd hn (by exact fun c => hN ⟨hz, Or.inr ⟨e1, ⟨Int32.not_lt.mp e2, Int32.not_le.mp c⟩⟩⟩))
        refine wp_iconst (q := 83) dX11_letter_82 zq_iconst_m1 rfl ?_
        exact wp_ireturn dX11_letter_83 rfl ⟨rfl, ⟨rfl, rfl, h, zXf_r⟩⟩ rfl rfl
  refine wp_iload_n (q := 1) dX11_letter_0 3 rfl rfl ?_
  refine wp_if_lt (tgt := 10) (q := 4) dX11_letter_1 (by decide) rfl (fun e0 => ?_) (fun e0 => ?_)
  · skip
    refine wp_iconst (q := 11) dX11_letter_10 zq_iconst_m1 rfl ?_
    exact wp_ireturn dX11_letter_11 rfl ⟨rfl, ⟨rfl, rfl, h, zXf_r⟩⟩ rfl rfl
  · skip
    refine wp_iload_n (q := 5) dX11_letter_4 3 rfl rfl ?_
    refine wp_bipush (q := 7) dX11_letter_5 zq_bipush_6 rfl ?_
    refine wp_icmp_lt (tgt := 12) (q := 10) dX11_letter_7 (by decide) rfl (fun e1 => ?_) (fun e1 => ?_)
    · skip
      have hz : zin z 6 := ⟨Int32.not_lt.mp e0, e1⟩
      refine wp_iload_n (q := 13) dX11_letter_12 1 rfl rfl ?_
      refine wp_if_ne (tgt := 47) (q := 16) dX11_letter_13 (by decide) rfl (fun e2 => ?_) (fun e2 => ?_)
      · skip
        refine WP.sub (loc' := [(0, _), (1, _), (2, _), (3, _)]) [0, 1, 2, 3] rfl ?_
        exact at47 hz
      · skip
        refine wp_aload_n (q := 17) dX11_letter_16 0 rfl rfl ?_
        refine wp_iload_n (q := 18) dX11_letter_17 2 rfl rfl ?_
        refine wp_cvx (q := 21) (sp_isSeat (d := 0) hr.1 h8) zm_X11_isSeat zl_RX11_196 dX11_letter_18 rfl (by omega) (Nat.le_of_ble_eq_true rfl) zsh_0 rfl rfl ?_
        rw [if_neg (fun c => hN ⟨hz, Or.inl ⟨e2, c⟩⟩)]
        refine wp_if_eqN (tgt := 47) (q := 24) dX11_letter_21 (by decide) rfl (by omega) (fun _ => ?_) (fun hn => absurd hn (by first | omega | exact fun h => h | exact fun h => h trivial))
        refine WP.sub (loc' := [(0, _), (1, _), (2, _), (3, _)]) [0, 1, 2, 3] rfl ?_
        exact at47 hz
    · skip
      refine wp_iconst (q := 11) dX11_letter_10 zq_iconst_m1 rfl ?_
      exact wp_ireturn dX11_letter_11 rfl ⟨rfl, ⟨rfl, rfl, h, zXf_r⟩⟩ rfl rfl
theorem nC_cP (p : Nat → Bool) (n : Nat) : (List.range n).countP p = nC p n := by
  induction n with
  | zero => rfl
  | succ n ih => rw [List.range_succ, List.countP_append, ih, nC, List.countP_singleton]
theorem zhat_f {M : zMI} {o n : Nat} {v : Nat → Nat} (hv : zV n v) (hr : zSR M o n v) : ∃ f : Nat → Nat, (∀ p, p < n → M (o + 2) p = nI (f p) ∧ f p ≤ 99) ∧ ∀ s, s < n → f (wh v s) = ht v s := by
  obtain ⟨h8, hw, hi, h99, -⟩ := id hv
  have key : ∀ s, s < n → (M (o + 2) (wh v s)).toInt.toNat = ht v s := fun s hs => by
    have h1 := (hr.2.2.2.2 s hs).2.1
    have h2 := h99 s hs
    rw [h1, nI_toInt (by omega)]
    exact Int.toNat_natCast _
  refine ⟨fun p => (M (o + 2) p).toInt.toNat, fun p hp => ?_, key⟩
  obtain ⟨s, h1, h2⟩ := zsurj hw hi hp
  have h3 := key s h1
  have h4 := h99 s h1
  have h5 := (hr.2.2.2.2 s h1).2.1
  rw [h2] at h3 h5
  refine ⟨?_, by show (M (o + 2) p).toInt.toNat ≤ 99; omega⟩
  show M (o + 2) p = nI ((M (o + 2) p).toInt.toNat)
  rw [h3]
  exact h5
def znz (v : Nat → Nat) (n : Nat) : Nat := nC (fun s => ht v s == 0) n
theorem sp_hatlessV {d t o n : Nat} {M : zMI} {L : zML} {v : Nat → Nat} (ho : zSt o) (hv : zV n v) (hr : zSR M o n v) : Sx yX7_hatless YX7_hatless d [.ref o] M L (zRf t) (some (.int (nI (znz v n)))) M L (zRf t) := by
  obtain ⟨f, h1, h2⟩ := zhat_f hv hr
  have e : znz v n = (List.range n).countP (fun i => f i == 0) := by
    rw [nC_cP, ← nC_perm (fun i => f i == 0) hv.2.1 hv.2.2.1]
    exact nC_congr (fun i hi => by rw [h2 i hi])
  rw [e]
  exact sp_hatless ho hr.1 hv.1 h1

