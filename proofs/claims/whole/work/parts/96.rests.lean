theorem zVn_x {s : Nat} (hs : s < 8) : nI s ≠ -1 ∧ (nI s).toInt.toNat = s := by
  refine ⟨fun e => ?_, by rw [nI_toInt (by omega), Int.toNat_natCast]⟩
  have := congrArg Int32.toInt e
  rw [nI_toInt (by omega)] at this
  have h1 : (-1 : Int32).toInt = -1 := rfl
  omega
set_option maxHeartbeats 4000000 in
set_option maxRecDepth 100000 in
theorem sp_mrests {d t n : Nat} {x y : Int32} {M : zMI} {L : zML} {g : zGd} {v : Nat → Nat} {hs : List (Nat → Nat)} {m : zMs} (h : zMo M L n g v hs m) (h2 : 2 ≤ n) (hx0 : x = -1 ∨ (zin x n ∧ zin y 2)) : Sy yX12_rests YX12_rests (d + 10) [.ref 177, .int x, .int y] M L (zRf t) (zMn M L t n g v hs m (.int (nI (zrs g.2.2.2.2.2 v n x y)))) := by
  refine Sp.of (by decide +kernel) rfl (fun h => by first | exact h | cases h) (Nat.le_of_ble_eq_true rfl) ?_
  intro w G
  have hn := h.1.1
  have h8 := h.1.2.1.1.1
  obtain ⟨tb, htb⟩ : ∃ tb, g.2.2.2.2.2 = tb := ⟨_, rfl⟩
  have hc := h.1
  rw [htb] at hc
  obtain ⟨r, hr⟩ : ∃ r, zse tb n 12 1 v = r := ⟨_, rfl⟩
  have hend : ∀ (M1 M4 M5 : zMI) (L4 : zML), (∀ j, j < 51 → M1 216 j = M 215 j) → (∀ x, x ≠ 216 → M1 x = M x) → zNo M1 M4 L L4 → (∀ j, j < 51 → M5 215 j = M4 216 j) → (∀ x, x ≠ 215 → M5 x = M4 x) → zMo M5 L4 n g v hs m ∧ zYf M M5 L L4 := by
    intro M1 M4 M5 L4 e1 e2 e3 e4 e5
    refine ⟨zMo_n h (fun x hx h5 => ?_) (fun k hk => ?_) (e3.2.2 205 (by decide)) (by rw [e3.2.2 177 (by decide)]) ⟨h.1.2.1.1, fun j hj => ?_⟩, fun x hx => ⟨?_, e3.2.2 x (by omega)⟩⟩
    · unfold zKp at hx
      rw [e5 x h5, e3.1 x (by omega) h5 (by omega), e2 x (by omega)]
    · unfold zKk at hk
      rw [e5 177 (by decide), e3.2.1 k (by omega) (by omega) (by omega), e2 177 (by decide)]
    · rw [e4 j (by omega), e3.1 216 (by decide) (by decide) (by decide), e1 j (by omega)]
      exact h.1.2.1.2 j hj
    · rw [e5 x (by omega), e3.1 x (by omega) (by omega) (by omega), e2 x (by omega)]
  have tail : ∀ (M1 M4 : zMI) (L4 : zML), (∀ j, j < 51 → M1 216 j = M 215 j) → (∀ x, x ≠ 216 → M1 x = M x) → zMc M4 n tb r.2 → zNo M1 M4 L L4 → WP w YX12_rests (d + 10, SS, 0, 0) G (some (zXp (zMn M L t n g v hs m (.int (nI (zrs g.2.2.2.2.2 v n x y)))))) 55 [(3, .int (nI r.1)), (0, .ref 177), (1, .int x), (2, .int y)] [] SS M4 L4 (zRf t) := by
    intro M1 M4 L4 e1 e2 c4 n4
    rcases hx0 with rfl | ⟨hx, hy⟩
    · skip
      have ha : zrs g.2.2.2.2.2 v n (-1) y = r.1 := by
        unfold zrs
        rw [if_pos rfl, htb, hr]
      refine wp_iload_n (q := 56) dX12_rests_55 2 rfl rfl ?_
      refine wp_iconst (q := 57) dX12_rests_56 zq_iconst_m1 rfl ?_
      refine wp_icmp_ne (tgt := 64) (q := 60) dX12_rests_57 (by decide) rfl (fun hn => absurd hn (by exact fun c => c rfl)) (fun _ => ?_)
      refine wp_iload_n (q := 61) dX12_rests_60 0 rfl rfl ?_
      refine wp_goto (tgt := 80) dX12_rests_61 (by decide) ?_
      refine wp_istore (q := 82) (loc' := [(4, _), (3, _), (0, _), (1, _), (2, _)]) dX12_rests_80 (by decide) rfl rfl ?_
      refine wp_aload_n (q := 83) dX12_rests_82 2 rfl rfl ?_
      refine wp_cvy (q := 86) (sp_mtakesBack (d := 0)) zm_X12_takesBack zl_RX12_537 dX12_rests_83 rfl (by omega) (Nat.le_of_ble_eq_true rfl) zsh_177 rfl rfl ?_
      rintro _ M5 L5 _ ⟨rfl, rfl, rfl, e4, e5⟩
      obtain ⟨q1, q2⟩ := hend M1 M4 M5 L4 e1 e2 n4 e4 e5
      refine wp_iload (q := 88) dX12_rests_86 0 rfl rfl ?_
      exact wp_ireturn dX12_rests_88 rfl ⟨rfl, ⟨by rw [ha], rfl, q1, q2⟩⟩ rfl rfl
    · skip
      obtain ⟨s, hs0, rfl⟩ := zin_n (by omega) hx
      obtain ⟨k, hk0, rfl⟩ := zin_n (by decide) hy
      obtain ⟨z1, z2⟩ := zVn_x (s := s) (by omega)
      obtain ⟨z3, z4⟩ := zVn_x (s := k) (by omega)
      have ha : zrs g.2.2.2.2.2 v n (nI s) (nI k) = 10 * gr r.2 s k + lw r.2 s k := by
        unfold zrs
        rw [if_neg z1, htb, hr, z2, z4]
      have hg3 := (c4.2.1.1.2.2.2.2.1 s k hs0 hk0).1
      have hl9 := (c4.2.1.1.2.2.2.2.1 s k hs0 hk0).2
      refine wp_iload_n (q := 56) dX12_rests_55 2 rfl rfl ?_
      refine wp_iconst (q := 57) dX12_rests_56 zq_iconst_m1 rfl ?_
      refine wp_icmp_ne (tgt := 64) (q := 60) dX12_rests_57 (by decide) rfl (fun _ => ?_) (fun hn => absurd hn (by exact z1))
      refine wp_bipush (q := 66) dX12_rests_64 zq_bipush_10 rfl ?_
      refine wp_aload_n (q := 67) dX12_rests_66 1 rfl rfl ?_
      refine wp_iload_n (q := 68) dX12_rests_67 2 rfl rfl ?_
      refine wp_iload_n (q := 69) dX12_rests_68 3 rfl rfl ?_
      refine wp_cvx (q := 72) (sp_mgrip (d := 0) c4.2.1 hs0 hk0) zm_X12_gripOf zl_RX12_421 dX12_rests_69 rfl (by omega) (Nat.le_of_ble_eq_true rfl) zsh_177 rfl rfl ?_
      refine wp_imulN (q := 73) dX12_rests_72 rfl ?_
      refine wp_aload_n (q := 74) dX12_rests_73 1 rfl rfl ?_
      refine wp_iload_n (q := 75) dX12_rests_74 2 rfl rfl ?_
      refine wp_iload_n (q := 76) dX12_rests_75 3 rfl rfl ?_
      refine wp_cvx (q := 79) (sp_mlow (d := 0) c4.2.1 hs0 hk0) zm_X12_lowOf zl_RX12_418 dX12_rests_76 rfl (by omega) (Nat.le_of_ble_eq_true rfl) zsh_177 rfl rfl ?_
      refine wp_iaddN (q := 80) dX12_rests_79 rfl ?_
      refine wp_istore (q := 82) (loc' := [(4, _), (3, _), (0, _), (1, _), (2, _)]) dX12_rests_80 (by decide) rfl rfl ?_
      refine wp_aload_n (q := 83) dX12_rests_82 2 rfl rfl ?_
      refine wp_cvy (q := 86) (sp_mtakesBack (d := 0)) zm_X12_takesBack zl_RX12_537 dX12_rests_83 rfl (by omega) (Nat.le_of_ble_eq_true rfl) zsh_177 rfl rfl ?_
      rintro _ M5 L5 _ ⟨rfl, rfl, rfl, e4, e5⟩
      obtain ⟨q1, q2⟩ := hend M1 M4 M5 L4 e1 e2 n4 e4 e5
      refine wp_iload (q := 88) dX12_rests_86 0 rfl rfl ?_
      exact wp_ireturn dX12_rests_88 rfl ⟨rfl, ⟨by rw [ha], rfl, q1, q2⟩⟩ rfl rfl
  have loop : ∀ q i u (M1 M2 : zMI) (L2 : zML), i + q = 13 → zse tb n q i u = r → (∀ j, j < 51 → M1 216 j = M 215 j) → (∀ x, x ≠ 216 → M1 x = M x) → zMc M2 n tb u → zNo M1 M2 L L2 → WP w YX12_rests (d + 10, SS, 0, 0) G (some (zXp (zMn M L t n g v hs m (.int (nI (zrs g.2.2.2.2.2 v n x y)))))) 36 [(3, .int (nI i)), (0, .ref 177), (1, .int x), (2, .int y)] [] SS M2 L2 (zRf t) := by
    intro q
    induction q with
    | zero =>
      intro i u M1 M2 L2 hq hz e1 e2 c2 n2
      rw [show i = 13 by omega]
      refine wp_iload_n (q := 37) dX12_rests_36 0 rfl rfl ?_
      refine wp_bipush (q := 39) dX12_rests_37 zq_bipush_12 rfl ?_
      refine wp_icmp_gtN (tgt := 55) (q := 42) dX12_rests_39 (by decide) rfl (by omega) (by omega) (fun _ => ?_) (fun hn => absurd hn (by first | omega | exact fun h => h | exact fun h => h trivial))
      have hz1 : (13, u) = r := hz
      have := tail M1 M2 L2 e1 e2
      rw [← hz1] at this
      refine WP.sub (loc' := [(3, _), (0, _), (1, _), (2, _)]) [0, 1, 2, 3] rfl ?_
      exact this c2 n2
    | succ q ih =>
      intro i u M1 M2 L2 hq hz e1 e2 c2 n2
      rw [zse] at hz
      refine wp_iload_n (q := 37) dX12_rests_36 0 rfl rfl ?_
      refine wp_bipush (q := 39) dX12_rests_37 zq_bipush_12 rfl ?_
      refine wp_icmp_gtN (tgt := 55) (q := 42) dX12_rests_39 (by decide) rfl (by omega) (by omega) (fun hn => absurd hn (by first | omega | exact fun h => h | exact fun h => h trivial)) (fun _ => ?_)
      refine wp_aload_n (q := 43) dX12_rests_42 1 rfl rfl ?_
      refine wp_cvy (q := 46) (sp_mround (d := 0) c2) zm_X12_roundTurns zl_RX12_534 dX12_rests_43 rfl (by omega) (Nat.le_of_ble_eq_true rfl) zsh_177 rfl rfl ?_
      rintro _ M3 L3 _ ⟨rfl, rfl, c3, n3⟩
      cases hk : zcnt tb n u (2 * n) with
      | zero =>
        rw [hk, if_pos rfl] at hz
        rw [zc01_0]
        refine wp_if_eqN (tgt := 55) (q := 49) dX12_rests_46 (by decide) rfl (by omega) (fun _ => ?_) (fun hn => absurd hn (by first | omega | exact fun h => h | exact fun h => h trivial))
        have := tail M1 M3 L3 e1 e2
        rw [← hz] at this
        refine WP.sub (loc' := [(3, _), (0, _), (1, _), (2, _)]) [0, 1, 2, 3] rfl ?_
        exact this c3 (zNo_t n2 n3)
      | succ k =>
        rw [hk, if_neg (by omega)] at hz
        rw [zc01_s]
        refine wp_if_eqN (tgt := 55) (q := 49) dX12_rests_46 (by decide) rfl (by omega) (fun hn => absurd hn (by first | omega | exact fun h => h | exact fun h => h trivial)) (fun _ => ?_)
        refine wp_iincN (q := 52) (loc' := [(3, _), (0, _), (1, _), (2, _)]) (n := 1) dX12_rests_49 rfl 0 rfl (by decide) rfl rfl ?_
        refine wp_goto (tgt := 36) dX12_rests_52 (by decide) ?_
        refine WP.sub (loc' := [(3, _), (0, _), (1, _), (2, _)]) [0, 1, 2, 3] rfl ?_
        exact ih (i + 1) _ M1 M3 L3 (by omega) hz e1 e2 c3 (zNo_t n2 n3)
  refine wp_aload_n (q := 1) dX12_rests_0 0 rfl rfl ?_
  refine wp_cvx (q := 4) (sp_mcm (d := 0) hn h8) zm_X12_crackerMany zl_RX12_463 dX12_rests_1 rfl (by omega) (Nat.le_of_ble_eq_true rfl) zsh_177 rfl rfl ?_
  rw [if_neg (by omega)]
  refine wp_if_eqN (tgt := 28) (q := 7) dX12_rests_4 (by decide) rfl (by omega) (fun hn => absurd hn (by first | omega | exact fun h => h | exact fun h => h trivial)) (fun _ => ?_)
  have put : WP w YX12_rests (d + 10, SS, 0, 0) G (some (zXp (zMn M L t n g v hs m (.int (nI (zrs g.2.2.2.2.2 v n x y)))))) 30 [(0, .ref 177), (1, .int x), (2, .int y)] [] SS M L (zRf t) := by
    refine wp_aload_n (q := 31) dX12_rests_30 0 rfl rfl ?_
    refine wp_cvy (q := 34) (sp_mputsAside (d := 0)) zm_X12_putsAside zl_RX12_531 dX12_rests_31 rfl (by omega) (Nat.le_of_ble_eq_true rfl) zsh_177 rfl rfl ?_
    rintro _ M1 L1 _ ⟨rfl, rfl, rfl, e1, e2⟩
    refine wp_iconst (q := 35) dX12_rests_34 zq_iconst_1 rfl ?_
    refine wp_istore_n (q := 36) (loc' := [(3, _), (0, _), (1, _), (2, _)]) dX12_rests_35 rfl (by decide) rfl rfl ?_
    refine WP.sub (loc' := [(3, _), (0, _), (1, _), (2, _)]) [0, 1, 2, 3] rfl ?_
    exact loop 12 1 v M1 M1 L (by decide) hr e1 e2 (zMc_fr hc (fun x hx => e2 x (by omega))) zNo_r
  refine wp_iload_n (q := 8) dX12_rests_7 1 rfl rfl ?_
  refine wp_iconst (q := 9) dX12_rests_8 zq_iconst_m1 rfl ?_
  rcases hx0 with rfl | ⟨hx, hy⟩
  · skip
    refine wp_icmp_eq (tgt := 30) (q := 12) dX12_rests_9 (by decide) rfl (fun _ => ?_) (fun hn => absurd hn (by exact fun c => c rfl))
    refine WP.sub (loc' := [(0, _), (1, _), (2, _)]) [0, 1, 2] rfl ?_
    exact put
  · skip
    obtain ⟨s, hs0, hs1⟩ := zin_n (by omega) hx
    refine wp_icmp_eq (tgt := 30) (q := 12) dX12_rests_9 (by decide) rfl (fun hn => absurd hn (by rw [hs1]; exact (zVn_x (s := s) (by omega)).1)) (fun _ => ?_)
    refine wp_aload_n (q := 13) dX12_rests_12 0 rfl rfl ?_
    refine wp_iload_n (q := 14) dX12_rests_13 1 rfl rfl ?_
    refine wp_cvx (q := 17) (sp_misSeat (d := 0) hn h8) zm_X12_isSeat zl_RX12_477 dX12_rests_14 rfl (by omega) (Nat.le_of_ble_eq_true rfl) zsh_177 rfl rfl ?_
    rw [if_pos hx]
    refine wp_if_eqN (tgt := 28) (q := 20) dX12_rests_17 (by decide) rfl (by omega) (fun hn => absurd hn (by first | omega | exact fun h => h | exact fun h => h trivial)) (fun _ => ?_)
    refine wp_aload_n (q := 21) dX12_rests_20 0 rfl rfl ?_
    refine wp_iload_n (q := 22) dX12_rests_21 2 rfl rfl ?_
    refine wp_cvx (q := 25) (sp_misHand (d := 0)) zm_X12_isHand zl_RX12_521 dX12_rests_22 rfl (by omega) (Nat.le_of_ble_eq_true rfl) zsh_177 rfl rfl ?_
    rw [if_pos hy]
    refine wp_if_neN (tgt := 30) (q := 28) dX12_rests_25 (by decide) rfl (by omega) (fun _ => ?_) (fun hn => absurd hn (by first | omega | exact fun h => h | exact fun h => h trivial))
    refine WP.sub (loc' := [(0, _), (1, _), (2, _)]) [0, 1, 2] rfl ?_
    exact put
set_option maxHeartbeats 4000000 in
set_option maxRecDepth 100000 in
theorem sp_mrestsN {d t n : Nat} {x y : Int32} {M : zMI} {L : zML} {g : zGd} {v : Nat → Nat} {hs : List (Nat → Nat)} {m : zMs} (h : zMo M L n g v hs m) (hN : ¬ (2 ≤ n ∧ (x = -1 ∨ (zin x n ∧ zin y 2)))) : Sy yX12_rests YX12_rests (d + 10) [.ref 177, .int x, .int y] M L (zRf t) (zMn M L t n g v hs m (.int (-1))) := by
  refine Sp.of (by decide +kernel) rfl (fun h => by first | exact h | cases h) (Nat.le_of_ble_eq_true rfl) ?_
  intro w G
  have hn := h.1.1
  have h8 := h.1.2.1.1.1
  refine wp_aload_n (q := 1) dX12_rests_0 0 rfl rfl ?_
  refine wp_cvx (q := 4) (sp_mcm (d := 0) hn h8) zm_X12_crackerMany zl_RX12_463 dX12_rests_1 rfl (by omega) (Nat.le_of_ble_eq_true rfl) zsh_177 rfl rfl ?_
  by_cases c2 : 2 ≤ n
  · rw [if_neg (by omega)]
    refine wp_if_eqN (tgt := 28) (q := 7) dX12_rests_4 (by decide) rfl (by omega) (fun hn => absurd hn (by first | omega | exact fun h => h | exact fun h => h trivial)) (fun _ => ?_)
    refine wp_iload_n (q := 8) dX12_rests_7 1 rfl rfl ?_
    refine wp_iconst (q := 9) dX12_rests_8 zq_iconst_m1 rfl ?_
    refine wp_icmp_eq (tgt := 30) (q := 12) dX12_rests_9 (by decide) rfl (fun hn => absurd hn (by exact fun c => hN ⟨c2, Or.inl c⟩)) (fun _ => ?_)
    refine wp_aload_n (q := 13) dX12_rests_12 0 rfl rfl ?_
    refine wp_iload_n (q := 14) dX12_rests_13 1 rfl rfl ?_
    refine wp_cvx (q := 17) (sp_misSeat (d := 0) hn h8) zm_X12_isSeat zl_RX12_477 dX12_rests_14 rfl (by omega) (Nat.le_of_ble_eq_true rfl) zsh_177 rfl rfl ?_
    by_cases cx : zin x n
    · rw [if_pos cx]
      refine wp_if_eqN (tgt := 28) (q := 20) dX12_rests_17 (by decide) rfl (by omega) (fun hn => absurd hn (by first | omega | exact fun h => h | exact fun h => h trivial)) (fun _ => ?_)
      refine wp_aload_n (q := 21) dX12_rests_20 0 rfl rfl ?_
      refine wp_iload_n (q := 22) dX12_rests_21 2 rfl rfl ?_
      refine wp_cvx (q := 25) (sp_misHand (d := 0)) zm_X12_isHand zl_RX12_521 dX12_rests_22 rfl (by omega) (Nat.le_of_ble_eq_true rfl) zsh_177 rfl rfl ?_
      rw [if_neg (fun e => hN ⟨c2, Or.inr ⟨cx, e⟩⟩)]
      refine wp_if_neN (tgt := 30) (q := 28) dX12_rests_25 (by decide) rfl (by omega) (fun hn => absurd hn (by first | omega | exact fun h => h | exact fun h => h trivial)) (fun _ => ?_)
      refine wp_iconst (q := 29) dX12_rests_28 zq_iconst_m1 rfl ?_
      exact wp_ireturn dX12_rests_29 rfl ⟨rfl, ⟨rfl, rfl, h, zYf_r⟩⟩ rfl rfl
    · rw [if_neg cx]
      refine wp_if_eqN (tgt := 28) (q := 20) dX12_rests_17 (by decide) rfl (by omega) (fun _ => ?_) (fun hn => absurd hn (by first | omega | exact fun h => h | exact fun h => h trivial))
      refine wp_iconst (q := 29) dX12_rests_28 zq_iconst_m1 rfl ?_
      exact wp_ireturn dX12_rests_29 rfl ⟨rfl, ⟨rfl, rfl, h, zYf_r⟩⟩ rfl rfl
  · rw [if_pos (by omega)]
    refine wp_if_eqN (tgt := 28) (q := 7) dX12_rests_4 (by decide) rfl (by omega) (fun _ => ?_) (fun hn => absurd hn (by first | omega | exact fun h => h | exact fun h => h trivial))
    refine wp_iconst (q := 29) dX12_rests_28 zq_iconst_m1 rfl ?_
    exact wp_ireturn dX12_rests_29 rfl ⟨rfl, ⟨rfl, rfl, h, zYf_r⟩⟩ rfl rfl

