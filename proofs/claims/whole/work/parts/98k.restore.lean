def zSto (n : Nat) (b : Nat → Nat) (s : Nat) : Prop := zsit n b (6 + 6 * s) ∧ ∀ s', s' < s → b (6 + 6 * s') ≠ b (6 + 6 * s)
set_option maxHeartbeats 4000000 in
set_option maxRecDepth 100000 in
theorem sp_misSeatTold {d t n s : Nat} {M : zMI} {L : zML} {b : Nat → Nat} (hn : M 204 2 = nI n) (h8 : n ≤ 8) (hs : s < n) (hb : ∀ i, i < 7 + 6 * n → M 178 i = nI (b i) ∧ b i < 256) {o : Bool} (ho : zSto n b s ↔ o = true) : Sy yX12_isSeatTold YX12_isSeatTold (d + 1) [.ref 177, .int (nI s)] M L (zRf t) (fun v0 M' L' R' => v0 = some (.int (nI (zb01 o))) ∧ M = M' ∧ L = L' ∧ R' = zRf t) := by
  refine Sp.of (by decide +kernel) rfl (fun h => by first | exact h | cases h) (Nat.le_of_ble_eq_true rfl) ?_
  intro w G
  have hno : ¬ zSto n b s → nI 0 = nI (zb01 o) := fun e => by
    cases o with
    | false => rfl
    | true => exact absurd (ho.mpr rfl) e
  have hyes : zSto n b s → nI 1 = nI (zb01 o) := fun e => by
    rw [ho.mp e]
    rfl
  have e0 := hb (6 + 6 * s) (by omega)
  have e1 := hb (6 + 6 * s + 1) (by omega)
  have e2 := hb (6 + 6 * s + 2) (by omega)
  have e3 := hb (6 + 6 * s + 3) (by omega)
  have e4 := hb (6 + 6 * s + 4) (by omega)
  have e5 := hb (6 + 6 * s + 5) (by omega)
  have fin : ¬ zSto n b s → WP w YX12_isSeatTold (d + 1, SS, 0, 0) G (some (zXp (fun v0 M' L' R' => v0 = some (.int (nI (zb01 o))) ∧ M = M' ∧ L = L' ∧ R' = zRf t))) 84 [(2, .int (nI (6 + 6 * s))), (0, .ref 177), (1, .int (nI s))] [] SS M L (zRf t) := by
    intro hx
    have h3 := hno hx
    refine wp_iconst (q := 85) dX12_isSeatTold_84 zq_iconst_0 rfl ?_
    exact wp_zreturn dX12_isSeatTold_85 rfl (by first | with_reducible exact znar_0 | with_reducible exact znar_1 | assumption) ⟨rfl, ⟨by rw [h3], rfl, rfl, rfl⟩⟩ rfl rfl
  have loop : zsit n b (6 + 6 * s) → ∀ q k, k + q = s → (∀ s', s' < k → b (6 + 6 * s') ≠ b (6 + 6 * s)) → WP w YX12_isSeatTold (d + 1, SS, 0, 0) G (some (zXp (fun v0 M' L' R' => v0 = some (.int (nI (zb01 o))) ∧ M = M' ∧ L = L' ∧ R' = zRf t))) 88 [(3, .int (nI k)), (2, .int (nI (6 + 6 * s))), (0, .ref 177), (1, .int (nI s))] [] SS M L (zRf t) := by
    intro hz q
    induction q with
    | zero =>
      intro k hk hd
      rw [show k = s by omega] at hd ⊢
      have h3 := hyes ⟨hz, hd⟩
      refine wp_iload_n (q := 89) dX12_isSeatTold_88 0 rfl rfl ?_
      refine wp_iload_n (q := 90) dX12_isSeatTold_89 3 rfl rfl ?_
      refine wp_icmp_geN (tgt := 122) (q := 93) dX12_isSeatTold_90 (by decide) rfl (by omega) (by omega) (fun _ => ?_) (fun hn => absurd hn (by first | omega | exact fun h => h | exact fun h => h trivial))
      refine wp_iconst (q := 123) dX12_isSeatTold_122 zq_iconst_1 rfl ?_
      exact wp_zreturn dX12_isSeatTold_123 rfl (by first | with_reducible exact znar_0 | with_reducible exact znar_1 | assumption) ⟨rfl, ⟨by rw [h3], rfl, rfl, rfl⟩⟩ rfl rfl
    | succ q ih =>
      intro k hk hd
      have ek := hb (6 + 6 * k) (by omega)
      refine wp_iload_n (q := 89) dX12_isSeatTold_88 0 rfl rfl ?_
      refine wp_iload_n (q := 90) dX12_isSeatTold_89 3 rfl rfl ?_
      refine wp_icmp_geN (tgt := 122) (q := 93) dX12_isSeatTold_90 (by decide) rfl (by omega) (by omega) (fun hn => absurd hn (by first | omega | exact fun h => h | exact fun h => h trivial)) (fun _ => ?_)
      refine wp_aload_n (q := 94) dX12_isSeatTold_93 2 rfl rfl ?_
      refine wp_getR (q := 97) dX12_isSeatTold_94 zf_RX12_7 rfl zsh_177 (zr_177_0 _) rfl ?_
      refine wp_bipush (q := 99) dX12_isSeatTold_97 zq_bipush_6 rfl ?_
      refine wp_bipush (q := 101) dX12_isSeatTold_99 zq_bipush_6 rfl ?_
      refine wp_iload_n (q := 102) dX12_isSeatTold_101 0 rfl rfl ?_
      refine wp_imulN (q := 103) dX12_isSeatTold_102 rfl ?_
      refine wp_iaddN (q := 104) dX12_isSeatTold_103 rfl ?_
      refine wp_iald (q := 105) _ dX12_isSeatTold_104 zsh_178 rfl (by omega) (by decide) rfl ?_
      rw [ek.1]
      refine wp_aload_n (q := 106) dX12_isSeatTold_105 2 rfl rfl ?_
      refine wp_getR (q := 109) dX12_isSeatTold_106 zf_RX12_7 rfl zsh_177 (zr_177_0 _) rfl ?_
      refine wp_iload_n (q := 110) dX12_isSeatTold_109 1 rfl rfl ?_
      refine wp_iald (q := 111) _ dX12_isSeatTold_110 zsh_178 rfl (by omega) (by decide) rfl ?_
      rw [e0.1]
      refine wp_icmp_neN (tgt := 116) (q := 114) dX12_isSeatTold_111 (by decide) rfl (by omega) (by omega) (fun c => ?_) (fun c => ?_)
      · skip
        refine wp_iincN (q := 119) (loc' := [(3, _), (2, _), (0, _), (1, _)]) (n := 1) dX12_isSeatTold_116 rfl 0 rfl (by decide) rfl rfl ?_
        refine wp_goto (tgt := 88) dX12_isSeatTold_119 (by decide) ?_
        refine WP.sub (loc' := [(3, _), (2, _), (0, _), (1, _)]) [0, 1, 2, 3] rfl ?_
        refine ih (k + 1) (by omega) (fun s' hs' => ?_)
        by_cases e : s' = k
        · rw [e]; exact c
        · exact hd s' (by omega)
      · skip
        have h3 := hno (fun e => e.2 k (by omega) c)
        refine wp_iconst (q := 115) dX12_isSeatTold_114 zq_iconst_0 rfl ?_
        exact wp_zreturn dX12_isSeatTold_115 rfl (by first | with_reducible exact znar_0 | with_reducible exact znar_1 | assumption) ⟨rfl, ⟨by rw [h3], rfl, rfl, rfl⟩⟩ rfl rfl
  refine wp_bipush (q := 2) dX12_isSeatTold_0 zq_bipush_6 rfl ?_
  refine wp_bipush (q := 4) dX12_isSeatTold_2 zq_bipush_6 rfl ?_
  refine wp_iload_n (q := 5) dX12_isSeatTold_4 1 rfl rfl ?_
  refine wp_imulN (q := 6) dX12_isSeatTold_5 rfl ?_
  refine wp_iaddN (q := 7) dX12_isSeatTold_6 rfl ?_
  refine wp_istore_n (q := 8) (loc' := [(2, _), (0, _), (1, _)]) dX12_isSeatTold_7 rfl (by decide) rfl rfl ?_
  refine wp_aload_n (q := 9) dX12_isSeatTold_8 1 rfl rfl ?_
  refine wp_getR (q := 12) dX12_isSeatTold_9 zf_RX12_7 rfl zsh_177 (zr_177_0 _) rfl ?_
  refine wp_iload_n (q := 13) dX12_isSeatTold_12 0 rfl rfl ?_
  refine wp_iald (q := 14) _ dX12_isSeatTold_13 zsh_178 rfl (by omega) (by decide) rfl ?_
  rw [e0.1]
  refine wp_aload_n (q := 15) dX12_isSeatTold_14 1 rfl rfl ?_
  refine wp_cvx (q := 18) (sp_mpm (d := 0) hn) zm_X12_peopleMany zl_RX12_408 dX12_isSeatTold_15 rfl (by omega) (Nat.le_of_ble_eq_true rfl) zsh_177 rfl rfl ?_
  refine wp_icmp_geN (tgt := 84) (q := 21) dX12_isSeatTold_18 (by decide) rfl (by omega) (by omega) (fun c0 => ?_) (fun c0 => ?_)
  · skip
    refine WP.sub (loc' := [(2, _), (0, _), (1, _)]) [0, 1, 2] rfl ?_
    exact fin (fun e => by have := e.1.1; omega)
  · skip
    refine wp_aload_n (q := 22) dX12_isSeatTold_21 1 rfl rfl ?_
    refine wp_getR (q := 25) dX12_isSeatTold_22 zf_RX12_7 rfl zsh_177 (zr_177_0 _) rfl ?_
    refine wp_iload_n (q := 26) dX12_isSeatTold_25 0 rfl rfl ?_
    refine wp_iconst (q := 27) dX12_isSeatTold_26 zq_iconst_1 rfl ?_
    refine wp_iaddN (q := 28) dX12_isSeatTold_27 rfl ?_
    refine wp_iald (q := 29) _ dX12_isSeatTold_28 zsh_178 rfl (by omega) (by decide) rfl ?_
    rw [e1.1]
    refine wp_bipush (q := 31) dX12_isSeatTold_29 zq_bipush_99 rfl ?_
    refine wp_icmp_gtN (tgt := 84) (q := 34) dX12_isSeatTold_31 (by decide) rfl (by omega) (by omega) (fun c1 => ?_) (fun c1 => ?_)
    · skip
      refine WP.sub (loc' := [(2, _), (0, _), (1, _)]) [0, 1, 2] rfl ?_
      exact fin (fun e => by have := e.1.2.1; omega)
    · skip
      refine wp_aload_n (q := 35) dX12_isSeatTold_34 1 rfl rfl ?_
      refine wp_getR (q := 38) dX12_isSeatTold_35 zf_RX12_7 rfl zsh_177 (zr_177_0 _) rfl ?_
      refine wp_iload_n (q := 39) dX12_isSeatTold_38 0 rfl rfl ?_
      refine wp_iconst (q := 40) dX12_isSeatTold_39 zq_iconst_2 rfl ?_
      refine wp_iaddN (q := 41) dX12_isSeatTold_40 rfl ?_
      refine wp_iald (q := 42) _ dX12_isSeatTold_41 zsh_178 rfl (by omega) (by decide) rfl ?_
      rw [e2.1]
      refine wp_iconst (q := 43) dX12_isSeatTold_42 zq_iconst_2 rfl ?_
      refine wp_icmp_gtN (tgt := 84) (q := 46) dX12_isSeatTold_43 (by decide) rfl (by omega) (by omega) (fun c2 => ?_) (fun c2 => ?_)
      · skip
        refine WP.sub (loc' := [(2, _), (0, _), (1, _)]) [0, 1, 2] rfl ?_
        exact fin (fun e => by have := e.1.2.2.1; omega)
      · skip
        refine wp_aload_n (q := 47) dX12_isSeatTold_46 1 rfl rfl ?_
        refine wp_getR (q := 50) dX12_isSeatTold_47 zf_RX12_7 rfl zsh_177 (zr_177_0 _) rfl ?_
        refine wp_iload_n (q := 51) dX12_isSeatTold_50 0 rfl rfl ?_
        refine wp_iconst (q := 52) dX12_isSeatTold_51 zq_iconst_3 rfl ?_
        refine wp_iaddN (q := 53) dX12_isSeatTold_52 rfl ?_
        refine wp_iald (q := 54) _ dX12_isSeatTold_53 zsh_178 rfl (by omega) (by decide) rfl ?_
        rw [e3.1]
        refine wp_bipush (q := 56) dX12_isSeatTold_54 zq_bipush_9 rfl ?_
        refine wp_icmp_gtN (tgt := 84) (q := 59) dX12_isSeatTold_56 (by decide) rfl (by omega) (by omega) (fun c3 => ?_) (fun c3 => ?_)
        · skip
          refine WP.sub (loc' := [(2, _), (0, _), (1, _)]) [0, 1, 2] rfl ?_
          exact fin (fun e => by have := e.1.2.2.2.1; omega)
        · skip
          refine wp_aload_n (q := 60) dX12_isSeatTold_59 1 rfl rfl ?_
          refine wp_getR (q := 63) dX12_isSeatTold_60 zf_RX12_7 rfl zsh_177 (zr_177_0 _) rfl ?_
          refine wp_iload_n (q := 64) dX12_isSeatTold_63 0 rfl rfl ?_
          refine wp_iconst (q := 65) dX12_isSeatTold_64 zq_iconst_4 rfl ?_
          refine wp_iaddN (q := 66) dX12_isSeatTold_65 rfl ?_
          refine wp_iald (q := 67) _ dX12_isSeatTold_66 zsh_178 rfl (by omega) (by decide) rfl ?_
          rw [e4.1]
          refine wp_iconst (q := 68) dX12_isSeatTold_67 zq_iconst_2 rfl ?_
          refine wp_icmp_gtN (tgt := 84) (q := 71) dX12_isSeatTold_68 (by decide) rfl (by omega) (by omega) (fun c4 => ?_) (fun c4 => ?_)
          · skip
            refine WP.sub (loc' := [(2, _), (0, _), (1, _)]) [0, 1, 2] rfl ?_
            exact fin (fun e => by have := e.1.2.2.2.2.1; omega)
          · skip
            refine wp_aload_n (q := 72) dX12_isSeatTold_71 1 rfl rfl ?_
            refine wp_getR (q := 75) dX12_isSeatTold_72 zf_RX12_7 rfl zsh_177 (zr_177_0 _) rfl ?_
            refine wp_iload_n (q := 76) dX12_isSeatTold_75 0 rfl rfl ?_
            refine wp_iconst (q := 77) dX12_isSeatTold_76 zq_iconst_5 rfl ?_
            refine wp_iaddN (q := 78) dX12_isSeatTold_77 rfl ?_
            refine wp_iald (q := 79) _ dX12_isSeatTold_78 zsh_178 rfl (by omega) (by decide) rfl ?_
            rw [e5.1]
            refine wp_bipush (q := 81) dX12_isSeatTold_79 zq_bipush_9 rfl ?_
            refine wp_icmp_leN (tgt := 86) (q := 84) dX12_isSeatTold_81 (by decide) rfl (by omega) (by omega) (fun c5 => ?_) (fun c5 => ?_)
            · skip
              refine wp_iconst (q := 87) dX12_isSeatTold_86 zq_iconst_0 rfl ?_
              refine wp_istore_n (q := 88) (loc' := [(3, _), (2, _), (0, _), (1, _)]) dX12_isSeatTold_87 rfl (by decide) rfl rfl ?_
              refine WP.sub (loc' := [(3, _), (2, _), (0, _), (1, _)]) [0, 1, 2, 3] rfl ?_
              exact loop ⟨by omega, by omega, by omega, by omega, by omega, by omega⟩ s 0 (Nat.zero_add _) (fun s' hs' => absurd hs' (Nat.not_lt_zero _))
            · skip
              refine WP.sub (loc' := [(2, _), (0, _), (1, _)]) [0, 1, 2] rfl ?_
              exact fin (fun e => by have := e.1.2.2.2.2.2; omega)
set_option maxHeartbeats 4000000 in
set_option maxRecDepth 100000 in
theorem sp_misTold {d t n k : Nat} {M : zMI} {L : zML} {b : Nat → Nat} (hn : M 204 2 = nI n) (h8 : n ≤ 8) (hk : k ≤ 1600) (hb : ∀ i, i < k → M 178 i = nI (b i) ∧ b i < 256) {o : Bool} (ho : zIok n k b ↔ o = true) : Sy yX12_isTold YX12_isTold (d + 2) [.ref 177, .int (nI k)] M L (zRf t) (fun v0 M' L' R' => v0 = some (.int (nI (zb01 o))) ∧ M = M' ∧ L = L' ∧ R' = zRf t) := by
  refine Sp.of (by decide +kernel) rfl (fun h => by first | exact h | cases h) (Nat.le_of_ble_eq_true rfl) ?_
  intro w G
  have hno : ¬ zIok n k b → nI 0 = nI (zb01 o) := fun e => by
    cases o with
    | false => rfl
    | true => exact absurd (ho.mpr rfl) e
  have hyes : zIok n k b → nI 1 = nI (zb01 o) := fun e => by
    rw [ho.mp e]
    rfl
  have loopB : k = 7 + 6 * n → b (k - 1) = zchk b (k - 1) → (∀ j, j < 3 → 256 * b (2 * j) + b (2 * j + 1) ≤ 9999) → ∀ q s, s + q = n → (∀ s', s' < s → zSto n b s') → WP w YX12_isTold (d + 2, SS, 0, 0) G (some (zXp (fun v0 M' L' R' => v0 = some (.int (nI (zb01 o))) ∧ M = M' ∧ L = L' ∧ R' = zRf t))) 83 [(2, .int (nI s)), (0, .ref 177), (1, .int (nI k))] [] SS M L (zRf t) := by
    intro g1 g2 g3 q
    induction q with
    | zero =>
      intro s hs hd
      rw [show s = n by omega] at hd ⊢
      have h3 := hyes ⟨g1, g2, g3, fun s hs => hd s hs⟩
      refine wp_iload_n (q := 84) dX12_isTold_83 0 rfl rfl ?_
      refine wp_aload_n (q := 85) dX12_isTold_84 1 rfl rfl ?_
      refine wp_cvx (q := 88) (sp_mpm (d := 0) hn) zm_X12_peopleMany zl_RX12_408 dX12_isTold_85 rfl (by omega) (Nat.le_of_ble_eq_true rfl) zsh_177 rfl rfl ?_
      refine wp_icmp_geN (tgt := 107) (q := 91) dX12_isTold_88 (by decide) rfl (by omega) (by omega) (fun _ => ?_) (fun hn => absurd hn (by first | omega | exact fun h => h | exact fun h => h trivial))
      refine wp_iconst (q := 108) dX12_isTold_107 zq_iconst_1 rfl ?_
      exact wp_zreturn dX12_isTold_108 rfl (by first | with_reducible exact znar_0 | with_reducible exact znar_1 | assumption) ⟨rfl, ⟨by rw [h3], rfl, rfl, rfl⟩⟩ rfl rfl
    | succ q ih =>
      intro s hs hd
      have hsn : s < n := by omega
      refine wp_iload_n (q := 84) dX12_isTold_83 0 rfl rfl ?_
      refine wp_aload_n (q := 85) dX12_isTold_84 1 rfl rfl ?_
      refine wp_cvx (q := 88) (sp_mpm (d := 0) hn) zm_X12_peopleMany zl_RX12_408 dX12_isTold_85 rfl (by omega) (Nat.le_of_ble_eq_true rfl) zsh_177 rfl rfl ?_
      refine wp_icmp_geN (tgt := 107) (q := 91) dX12_isTold_88 (by decide) rfl (by omega) (by omega) (fun hn => absurd hn (by first | omega | exact fun h => h | exact fun h => h trivial)) (fun _ => ?_)
      refine wp_aload_n (q := 92) dX12_isTold_91 1 rfl rfl ?_
      refine wp_iload_n (q := 93) dX12_isTold_92 0 rfl rfl ?_
      by_cases c : zSto n b s
      · skip
        refine wp_cvy (q := 96) (sp_misSeatTold (d := 0) (o := true) (b := b) hn h8 hsn (fun i hi => hb i (by omega)) ⟨fun _ => rfl, fun _ => c⟩) zm_X12_isSeatTold zl_RX12_724 dX12_isTold_93 rfl (by omega) (Nat.le_of_ble_eq_true rfl) zsh_177 rfl rfl ?_
        rintro _ M2 L2 _ ⟨rfl, rfl, rfl, rfl⟩
        rw [zb01_t]
        refine wp_if_neN (tgt := 101) (q := 99) dX12_isTold_96 (by decide) rfl (by omega) (fun _ => ?_) (fun hn => absurd hn (by first | omega | exact fun h => h | exact fun h => h trivial))
        refine wp_iincN (q := 104) (loc' := [(2, _), (0, _), (1, _)]) (n := 1) dX12_isTold_101 rfl 0 rfl (by decide) rfl rfl ?_
        refine wp_goto (tgt := 83) dX12_isTold_104 (by decide) ?_
        refine WP.sub (loc' := [(2, _), (0, _), (1, _)]) [0, 1, 2] rfl ?_
        refine ih (s + 1) (by omega) (fun s' hs' => ?_)
        by_cases e : s' = s
        · rw [e]; exact c
        · exact hd s' (by omega)
      · skip
        have h3 := hno (fun e => c (e.2.2.2 s hsn))
        refine wp_cvy (q := 96) (sp_misSeatTold (d := 0) (o := false) (b := b) hn h8 hsn (fun i hi => hb i (by omega)) ⟨fun e => absurd e c, fun e => by cases e⟩) zm_X12_isSeatTold zl_RX12_724 dX12_isTold_93 rfl (by omega) (Nat.le_of_ble_eq_true rfl) zsh_177 rfl rfl ?_
        rintro _ M2 L2 _ ⟨rfl, rfl, rfl, rfl⟩
        rw [zb01_f]
        refine wp_if_neN (tgt := 101) (q := 99) dX12_isTold_96 (by decide) rfl (by omega) (fun hn => absurd hn (by first | omega | exact fun h => h | exact fun h => h trivial)) (fun _ => ?_)
        refine wp_iconst (q := 100) dX12_isTold_99 zq_iconst_0 rfl ?_
        exact wp_zreturn dX12_isTold_100 rfl (by first | with_reducible exact znar_0 | with_reducible exact znar_1 | assumption) ⟨rfl, ⟨by rw [h3], rfl, rfl, rfl⟩⟩ rfl rfl
  have loopA : k = 7 + 6 * n → b (k - 1) = zchk b (k - 1) → ∀ q j, j + q = 3 → (∀ j', j' < j → 256 * b (2 * j') + b (2 * j' + 1) ≤ 9999) → WP w YX12_isTold (d + 2, SS, 0, 0) G (some (zXp (fun v0 M' L' R' => v0 = some (.int (nI (zb01 o))) ∧ M = M' ∧ L = L' ∧ R' = zRf t))) 39 [(2, .int (nI j)), (0, .ref 177), (1, .int (nI k))] [] SS M L (zRf t) := by
    intro g1 g2 q
    induction q with
    | zero =>
      intro j hj hd
      rw [show j = 3 by omega] at hd ⊢
      refine wp_iload_n (q := 40) dX12_isTold_39 0 rfl rfl ?_
      refine wp_iconst (q := 41) dX12_isTold_40 zq_iconst_3 rfl ?_
      refine wp_icmp_geN (tgt := 81) (q := 44) dX12_isTold_41 (by decide) rfl (by omega) (by omega) (fun _ => ?_) (fun hn => absurd hn (by first | omega | exact fun h => h | exact fun h => h trivial))
      refine wp_iconst (q := 82) dX12_isTold_81 zq_iconst_0 rfl ?_
      refine wp_istore_n (q := 83) (loc' := [(2, _), (0, _), (1, _)]) dX12_isTold_82 rfl (by decide) rfl rfl ?_
      refine WP.sub (loc' := [(2, _), (0, _), (1, _)]) [0, 1, 2] rfl ?_
      exact loopB g1 g2 hd n 0 (Nat.zero_add _) (fun s' hs' => absurd hs' (Nat.not_lt_zero _))
    | succ q ih =>
      intro j hj hd
      have hj3 : j < 3 := by omega
      have e0 := hb (2 * j) (by omega)
      have e1 := hb (2 * j + 1) (by omega)
      refine wp_iload_n (q := 40) dX12_isTold_39 0 rfl rfl ?_
      refine wp_iconst (q := 41) dX12_isTold_40 zq_iconst_3 rfl ?_
      refine wp_icmp_geN (tgt := 81) (q := 44) dX12_isTold_41 (by decide) rfl (by omega) (by omega) (fun hn => absurd hn (by first | omega | exact fun h => h | exact fun h => h trivial)) (fun _ => ?_)
      refine wp_sipush (q := 47) dX12_isTold_44 zq_sipush_256 rfl ?_
      refine wp_aload_n (q := 48) dX12_isTold_47 1 rfl rfl ?_
      refine wp_getR (q := 51) dX12_isTold_48 zf_RX12_7 rfl zsh_177 (zr_177_0 _) rfl ?_
      refine wp_iconst (q := 52) dX12_isTold_51 zq_iconst_2 rfl ?_
      refine wp_iload_n (q := 53) dX12_isTold_52 0 rfl rfl ?_
      refine wp_imulN (q := 54) dX12_isTold_53 rfl ?_
      refine wp_iald (q := 55) _ dX12_isTold_54 zsh_178 rfl (by omega) (by decide) rfl ?_
      rw [e0.1]
      refine wp_imulN (q := 56) dX12_isTold_55 rfl ?_
      refine wp_aload_n (q := 57) dX12_isTold_56 1 rfl rfl ?_
      refine wp_getR (q := 60) dX12_isTold_57 zf_RX12_7 rfl zsh_177 (zr_177_0 _) rfl ?_
      refine wp_iconst (q := 61) dX12_isTold_60 zq_iconst_2 rfl ?_
      refine wp_iload_n (q := 62) dX12_isTold_61 0 rfl rfl ?_
      refine wp_imulN (q := 63) dX12_isTold_62 rfl ?_
      refine wp_iconst (q := 64) dX12_isTold_63 zq_iconst_1 rfl ?_
      refine wp_iaddN (q := 65) dX12_isTold_64 rfl ?_
      refine wp_iald (q := 66) _ dX12_isTold_65 zsh_178 rfl (by omega) (by decide) rfl ?_
      rw [e1.1]
      refine wp_iaddN (q := 67) dX12_isTold_66 rfl ?_
      refine wp_sipush (q := 70) dX12_isTold_67 zq_sipush_9999 rfl ?_
      refine wp_icmp_leN (tgt := 75) (q := 73) dX12_isTold_70 (by decide) rfl (by omega) (by omega) (fun c => ?_) (fun c => ?_)
      · skip
        refine wp_iincN (q := 78) (loc' := [(2, _), (0, _), (1, _)]) (n := 1) dX12_isTold_75 rfl 0 rfl (by decide) rfl rfl ?_
        refine wp_goto (tgt := 39) dX12_isTold_78 (by decide) ?_
        refine WP.sub (loc' := [(2, _), (0, _), (1, _)]) [0, 1, 2] rfl ?_
        refine ih (j + 1) (by omega) (fun j' hj' => ?_)
        by_cases e : j' = j
        · rw [e]; exact c
        · exact hd j' (by omega)
      · skip
        have h3 := hno (fun e => by have := e.2.2.1 j hj3; omega)
        refine wp_iconst (q := 74) dX12_isTold_73 zq_iconst_0 rfl ?_
        exact wp_zreturn dX12_isTold_74 rfl (by first | with_reducible exact znar_0 | with_reducible exact znar_1 | assumption) ⟨rfl, ⟨by rw [h3], rfl, rfl, rfl⟩⟩ rfl rfl
  have fin : ¬ zIok n k b → WP w YX12_isTold (d + 2, SS, 0, 0) G (some (zXp (fun v0 M' L' R' => v0 = some (.int (nI (zb01 o))) ∧ M = M' ∧ L = L' ∧ R' = zRf t))) 35 [(0, .ref 177), (1, .int (nI k))] [] SS M L (zRf t) := by
    intro hx
    have h3 := hno hx
    refine wp_iconst (q := 36) dX12_isTold_35 zq_iconst_0 rfl ?_
    exact wp_zreturn dX12_isTold_36 rfl (by first | with_reducible exact znar_0 | with_reducible exact znar_1 | assumption) ⟨rfl, ⟨by rw [h3], rfl, rfl, rfl⟩⟩ rfl rfl
  refine wp_iload_n (q := 1) dX12_isTold_0 1 rfl rfl ?_
  refine wp_bipush (q := 3) dX12_isTold_1 zq_bipush_7 rfl ?_
  refine wp_bipush (q := 5) dX12_isTold_3 zq_bipush_6 rfl ?_
  refine wp_aload_n (q := 6) dX12_isTold_5 0 rfl rfl ?_
  refine wp_cvx (q := 9) (sp_mpm (d := 0) hn) zm_X12_peopleMany zl_RX12_408 dX12_isTold_6 rfl (by omega) (Nat.le_of_ble_eq_true rfl) zsh_177 rfl rfl ?_
  refine wp_imulN (q := 10) dX12_isTold_9 rfl ?_
  refine wp_iaddN (q := 11) dX12_isTold_10 rfl ?_
  refine wp_icmp_neN (tgt := 35) (q := 14) dX12_isTold_11 (by decide) rfl (by omega) (by omega) (fun c0 => ?_) (fun c0 => ?_)
  · skip
    refine WP.sub (loc' := [(0, _), (1, _)]) [0, 1] rfl ?_
    exact fin (fun e => c0 e.1)
  · skip
    have hb1 := hb (k - 1) (by omega)
    have hz := zchk_lt b (k - 1)
    refine wp_aload_n (q := 15) dX12_isTold_14 0 rfl rfl ?_
    refine wp_getR (q := 18) dX12_isTold_15 zf_RX12_7 rfl zsh_177 (zr_177_0 _) rfl ?_
    refine wp_iload_n (q := 19) dX12_isTold_18 1 rfl rfl ?_
    refine wp_iconst (q := 20) dX12_isTold_19 zq_iconst_1 rfl ?_
    refine wp_isubN (q := 21) dX12_isTold_20 (by omega) rfl ?_
    refine wp_iald (q := 22) _ dX12_isTold_21 zsh_178 rfl (by omega) (by decide) rfl ?_
    rw [hb1.1]
    refine wp_aload_n (q := 23) dX12_isTold_22 0 rfl rfl ?_
    refine wp_getR (q := 26) dX12_isTold_23 zf_RX12_7 rfl zsh_177 (zr_177_0 _) rfl ?_
    refine wp_iload_n (q := 27) dX12_isTold_26 1 rfl rfl ?_
    refine wp_iconst (q := 28) dX12_isTold_27 zq_iconst_1 rfl ?_
    refine wp_isubN (q := 29) dX12_isTold_28 (by omega) rfl ?_
    refine wp_csx (q := 32) (sp_mchecked (d := 0) (k := k - 1) (b := b) zsh_178 (by omega) (by decide) (fun i hi => hb i (by omega))) zm_X12_checked zl_RX12_720 dX12_isTold_29 rfl (by omega) (Nat.le_of_ble_eq_true rfl) rfl ?_
    refine wp_icmp_eqN (tgt := 37) (q := 35) dX12_isTold_32 (by decide) rfl (by omega) (by omega) (fun c1 => ?_) (fun c1 => ?_)
    · skip
      refine wp_iconst (q := 38) dX12_isTold_37 zq_iconst_0 rfl ?_
      refine wp_istore_n (q := 39) (loc' := [(2, _), (0, _), (1, _)]) dX12_isTold_38 rfl (by decide) rfl rfl ?_
      refine WP.sub (loc' := [(2, _), (0, _), (1, _)]) [0, 1, 2] rfl ?_
      exact loopA c0 c1 3 0 (by decide) (fun j' hj' => absurd hj' (Nat.not_lt_zero _))
    · skip
      refine WP.sub (loc' := [(0, _), (1, _)]) [0, 1] rfl ?_
      exact fin (fun e => c1 e.2.1)
set_option maxHeartbeats 4000000 in
set_option maxRecDepth 100000 in
theorem sp_mrestore {d t n : Nat} {M : zMI} {L : zML} {g : zGd} {v : Nat → Nat} {hs : List (Nat → Nat)} {m : zMs} (h : zMo M L n g v hs m) (hok : zIok n m.1 m.2.1) : Sy yX12_restore YX12_restore (d + 3) [.ref 177] M L (zRf t) (zMn M L t n g (zvR m.2.1) [] (zMt m 0 m.2.1) (.int (nI 1))) := by
  refine Sp.of (by decide +kernel) rfl (fun h => by first | exact h | cases h) (Nat.le_of_ble_eq_true rfl) ?_
  intro w G
  have hnw := h.1.2.1
  have h8 := hnw.1.1
  have hV := zV_R h8 hok
  obtain ⟨c1, c2, c3, c4, c5, c6, c7, c8, c9, c10, c11⟩ := h.2.2.2.1
  obtain ⟨nw, k1, k2, k3, k4, k5⟩ := h.2.2.1
  obtain ⟨b, hb⟩ : ∃ b, m.2.1 = b := ⟨_, rfl⟩
  obtain ⟨ln, hln⟩ : ∃ ln, m.1 = ln := ⟨_, rfl⟩
  rw [hb] at c3
  rw [hln] at c1 c2 c3
  have hok2 := hok
  rw [hb, hln] at hok2
  rw [hb] at hV
  have hk := hok2.1
  obtain ⟨M1, hM1⟩ : ∃ M1, zu M 177 1 (nI 0) = M1 := ⟨_, rfl⟩
  have f1 : ∀ x, x ≠ 177 → M1 x = M x := fun x hx => by rw [← hM1]; exact zu_ne hx
  have f2 : ∀ k, k ≠ 1 → M1 177 k = M 177 k := fun k hk => by rw [← hM1]; exact zu_k hk
  have f3 : M1 177 1 = nI 0 := by rw [← hM1]; exact zu_s
  have hn1 : M1 204 2 = nI n := by rw [f1 204 (by decide)]; exact h.1.1
  have loop2 : ∀ q j (M2 : zMI), j + q = 6 * n → (∀ i, i < 3 + j → M2 215 i = nI (zvR b i)) → (∀ x, x ≠ 215 → M2 x = M1 x) → WP w YX12_restore (d + 3, SS, 0, 0) G (some (zXp (zMn M L t n g (zvR m.2.1) [] (zMt m 0 m.2.1) (.int (nI 1))))) 74 [(2, .int (nI j)), (0, .ref 177)] [] SS M2 L (zRf t) := by
    intro q
    induction q with
    | zero =>
      intro j M2 hj hd hf
      rw [show j = 6 * n by omega] at hd ⊢
      have ee : ∀ x, x ≠ 177 → x ≠ 179 → x ≠ 215 → x ≠ 225 → x ≠ 226 → zu M2 177 66 (nI 0) x = M x := fun x x1 _ x3 x4 x5 => by rw [zu_ne x1, hf x x3, f1 x x1]
      refine wp_iload_n (q := 75) dX12_restore_74 0 rfl rfl ?_
      refine wp_bipush (q := 77) dX12_restore_75 zq_bipush_6 rfl ?_
      refine wp_aload_n (q := 78) dX12_restore_77 1 rfl rfl ?_
      refine wp_cvx (q := 81) (sp_mpm (d := 0) (show M2 204 2 = nI n by rw [hf 204 (by decide)]; exact hn1)) zm_X12_peopleMany zl_RX12_408 dX12_restore_78 rfl (by omega) (Nat.le_of_ble_eq_true rfl) zsh_177 rfl rfl ?_
      refine wp_imulN (q := 82) dX12_restore_81 rfl ?_
      refine wp_icmp_geN (tgt := 108) (q := 85) dX12_restore_82 (by decide) rfl (by omega) (by omega) (fun _ => ?_) (fun hn => absurd hn (by first | omega | exact fun h => h | exact fun h => h trivial))
      refine wp_aload_n (q := 109) dX12_restore_108 1 rfl rfl ?_
      refine wp_iconst (q := 110) dX12_restore_109 zq_iconst_0 rfl ?_
      refine wp_putI (q := 113) dX12_restore_110 zf_RX12_359 rfl zsh_177 rfl ?_
      refine wp_iconst (q := 114) dX12_restore_113 zq_iconst_1 rfl ?_
      refine wp_zreturn dX12_restore_114 rfl (by first | with_reducible exact znar_0 | with_reducible exact znar_1 | assumption) ⟨rfl, ⟨rfl, rfl, zMo_k h ee ⟨by rw [hb]; exact hV, fun i hi => ?_⟩ ⟨nw, k1, by decide, by rw [zu_k (by decide), hf 177 (by decide), f2 67 (by decide)]; exact k3, zu_s, fun i u hu => by cases hu⟩ ?_, zYf_k ee⟩⟩ rfl rfl
      · rw [zu_ne (by decide), hb]
        exact hd i hi
      · exact ⟨by rw [zu_k (by decide), hf 177 (by decide)]; exact f3, Nat.zero_le _, fun i hi => absurd hi (Nat.not_lt_zero _), fun i hi => by rw [zu_ne (by decide), hf 179 (by decide), f1 179 (by decide)]; exact c4 i hi, c5, c6, by rw [zu_k (by decide), hf 177 (by decide), f2 7 (by decide)]; exact c7, by rw [zu_k (by decide), hf 177 (by decide), f2 8 (by decide)]; exact c8, by rw [zu_k (by decide), hf 177 (by decide), f2 98 (by decide)]; exact c9, c10, fun i hi => by rw [ee 248 (by decide) (by decide) (by decide) (by decide) (by decide)]; exact c11 i hi⟩
    | succ q ih =>
      intro j M2 hj hd hf
      have eb := (c3 (6 + j) (by omega)).1
      refine wp_iload_n (q := 75) dX12_restore_74 0 rfl rfl ?_
      refine wp_bipush (q := 77) dX12_restore_75 zq_bipush_6 rfl ?_
      refine wp_aload_n (q := 78) dX12_restore_77 1 rfl rfl ?_
      refine wp_cvx (q := 81) (sp_mpm (d := 0) (show M2 204 2 = nI n by rw [hf 204 (by decide)]; exact hn1)) zm_X12_peopleMany zl_RX12_408 dX12_restore_78 rfl (by omega) (Nat.le_of_ble_eq_true rfl) zsh_177 rfl rfl ?_
      refine wp_imulN (q := 82) dX12_restore_81 rfl ?_
      refine wp_icmp_geN (tgt := 108) (q := 85) dX12_restore_82 (by decide) rfl (by omega) (by omega) (fun hn => absurd hn (by first | omega | exact fun h => h | exact fun h => h trivial)) (fun _ => ?_)
      refine wp_aload_n (q := 86) dX12_restore_85 1 rfl rfl ?_
      refine wp_getR (q := 89) dX12_restore_86 zf_RX12_127 rfl zsh_177 (zr_177_52 _) rfl ?_
      refine wp_iconst (q := 90) dX12_restore_89 zq_iconst_3 rfl ?_
      refine wp_iload_n (q := 91) dX12_restore_90 0 rfl rfl ?_
      refine wp_iaddN (q := 92) dX12_restore_91 rfl ?_
      refine wp_aload_n (q := 93) dX12_restore_92 1 rfl rfl ?_
      refine wp_getR (q := 96) dX12_restore_93 zf_RX12_7 rfl zsh_177 (zr_177_0 _) rfl ?_
      refine wp_bipush (q := 98) dX12_restore_96 zq_bipush_6 rfl ?_
      refine wp_iload_n (q := 99) dX12_restore_98 0 rfl rfl ?_
      refine wp_iaddN (q := 100) dX12_restore_99 rfl ?_
      refine wp_iald (q := 101) _ dX12_restore_100 zsh_178 rfl (by omega) (by decide) rfl ?_
      rw [hf 178 (by decide), f1 178 (by decide), eb]
      refine wp_iast (q := 102) _ dX12_restore_101 zsh_215 rfl (by omega) (by decide) rfl ?_
      refine wp_iincN (q := 105) (loc' := [(2, _), (0, _)]) (n := 1) dX12_restore_102 rfl 0 rfl (by decide) rfl rfl ?_
      refine wp_goto (tgt := 74) dX12_restore_105 (by decide) ?_
      refine WP.sub (loc' := [(2, _), (0, _)]) [0, 1] rfl ?_
      refine ih (j + 1) _ (by omega) (fun i hi => ?_) (fun x hx => by rw [zu_ne hx]; exact hf x hx)
      by_cases e : i = 3 + j
      · rw [e, zu_s]
        unfold zvR
        rw [if_neg (by omega), show 3 + j + 3 = 6 + j by omega]
      · rw [zu_k e]
        exact hd i (by omega)
  have loop1 : ∀ q j (M2 : zMI), j + q = 3 → (∀ i, i < j → M2 215 i = nI (zvR b i)) → (∀ x, x ≠ 215 → M2 x = M1 x) → WP w YX12_restore (d + 3, SS, 0, 0) G (some (zXp (zMn M L t n g (zvR m.2.1) [] (zMt m 0 m.2.1) (.int (nI 1))))) 32 [(2, .int (nI j)), (0, .ref 177)] [] SS M2 L (zRf t) := by
    intro q
    induction q with
    | zero =>
      intro j M2 hj hd hf
      rw [show j = 3 by omega] at hd ⊢
      refine wp_iload_n (q := 33) dX12_restore_32 0 rfl rfl ?_
      refine wp_iconst (q := 34) dX12_restore_33 zq_iconst_3 rfl ?_
      refine wp_icmp_geN (tgt := 72) (q := 37) dX12_restore_34 (by decide) rfl (by omega) (by omega) (fun _ => ?_) (fun hn => absurd hn (by first | omega | exact fun h => h | exact fun h => h trivial))
      refine wp_iconst (q := 73) dX12_restore_72 zq_iconst_0 rfl ?_
      refine wp_istore_n (q := 74) (loc' := [(2, _), (0, _)]) dX12_restore_73 rfl (by decide) rfl rfl ?_
      refine WP.sub (loc' := [(2, _), (0, _)]) [0, 1] rfl ?_
      exact loop2 (6 * n) 0 M2 (Nat.zero_add _) hd hf
    | succ q ih =>
      intro j M2 hj hd hf
      have e0 := c3 (2 * j) (by omega)
      have e1 := c3 (2 * j + 1) (by omega)
      obtain ⟨e0a, e0b⟩ := e0
      obtain ⟨e1a, e1b⟩ := e1
      refine wp_iload_n (q := 33) dX12_restore_32 0 rfl rfl ?_
      refine wp_iconst (q := 34) dX12_restore_33 zq_iconst_3 rfl ?_
      refine wp_icmp_geN (tgt := 72) (q := 37) dX12_restore_34 (by decide) rfl (by omega) (by omega) (fun hn => absurd hn (by first | omega | exact fun h => h | exact fun h => h trivial)) (fun _ => ?_)
      refine wp_aload_n (q := 38) dX12_restore_37 1 rfl rfl ?_
      refine wp_getR (q := 41) dX12_restore_38 zf_RX12_127 rfl zsh_177 (zr_177_52 _) rfl ?_
      refine wp_iload_n (q := 42) dX12_restore_41 0 rfl rfl ?_
      refine wp_sipush (q := 45) dX12_restore_42 zq_sipush_256 rfl ?_
      refine wp_aload_n (q := 46) dX12_restore_45 1 rfl rfl ?_
      refine wp_getR (q := 49) dX12_restore_46 zf_RX12_7 rfl zsh_177 (zr_177_0 _) rfl ?_
      refine wp_iconst (q := 50) dX12_restore_49 zq_iconst_2 rfl ?_
      refine wp_iload_n (q := 51) dX12_restore_50 0 rfl rfl ?_
      refine wp_imulN (q := 52) dX12_restore_51 rfl ?_
      refine wp_iald (q := 53) _ dX12_restore_52 zsh_178 rfl (by omega) (by decide) rfl ?_
      rw [hf 178 (by decide), f1 178 (by decide), e0a]
      refine wp_imulN (q := 54) dX12_restore_53 rfl ?_
      refine wp_aload_n (q := 55) dX12_restore_54 1 rfl rfl ?_
      refine wp_getR (q := 58) dX12_restore_55 zf_RX12_7 rfl zsh_177 (zr_177_0 _) rfl ?_
      refine wp_iconst (q := 59) dX12_restore_58 zq_iconst_2 rfl ?_
      refine wp_iload_n (q := 60) dX12_restore_59 0 rfl rfl ?_
      refine wp_imulN (q := 61) dX12_restore_60 rfl ?_
      refine wp_iconst (q := 62) dX12_restore_61 zq_iconst_1 rfl ?_
      refine wp_iaddN (q := 63) dX12_restore_62 rfl ?_
      refine wp_iald (q := 64) _ dX12_restore_63 zsh_178 rfl (by omega) (by decide) rfl ?_
      rw [hf 178 (by decide), f1 178 (by decide), e1a]
      refine wp_iaddN (q := 65) dX12_restore_64 rfl ?_
      refine wp_iast (q := 66) _ dX12_restore_65 zsh_215 rfl (by omega) (by decide) rfl ?_
      refine wp_iincN (q := 69) (loc' := [(2, _), (0, _)]) (n := 1) dX12_restore_66 rfl 0 rfl (by decide) rfl rfl ?_
      refine wp_goto (tgt := 32) dX12_restore_69 (by decide) ?_
      refine WP.sub (loc' := [(2, _), (0, _)]) [0, 1] rfl ?_
      refine ih (j + 1) _ (by omega) (fun i hi => ?_) (fun x hx => by rw [zu_ne hx]; exact hf x hx)
      by_cases e : i = j
      · rw [e, zu_s]
        unfold zvR
        rw [if_pos (by omega)]
      · rw [zu_k e]
        exact hd i (by omega)
  refine wp_aload_n (q := 1) dX12_restore_0 0 rfl rfl ?_
  refine wp_getI (q := 4) dX12_restore_1 zf_RX12_233 rfl zsh_177 rfl ?_
  rw [c1]
  refine wp_istore_n (q := 5) (loc' := [(1, _), (0, _)]) dX12_restore_4 rfl (by decide) rfl rfl ?_
  refine wp_aload_n (q := 6) dX12_restore_5 1 rfl rfl ?_
  refine wp_iconst (q := 7) dX12_restore_6 zq_iconst_0 rfl ?_
  refine wp_putI (q := 10) dX12_restore_7 zf_RX12_233 rfl zsh_177 rfl ?_
  rw [hM1]
  refine wp_aload_n (q := 11) dX12_restore_10 1 rfl rfl ?_
  refine wp_iload_n (q := 12) dX12_restore_11 0 rfl rfl ?_
  refine wp_cvy (q := 15) (sp_misTold (d := 0) (o := true) (b := b) hn1 h8 c2 (fun i hi => by rw [f1 178 (by decide)]; exact c3 i hi) ⟨fun _ => rfl, fun _ => hok2⟩) zm_X12_isTold zl_RX12_727 dX12_restore_12 rfl (by omega) (Nat.le_of_ble_eq_true rfl) zsh_177 rfl rfl ?_
  rintro _ M2 L2 _ ⟨rfl, rfl, rfl, rfl⟩
  rw [zb01_t]
  refine wp_if_neN (tgt := 30) (q := 18) dX12_restore_15 (by decide) rfl (by omega) (fun _ => ?_) (fun hn => absurd hn (by first | omega | exact fun h => h | exact fun h => h trivial))
  refine wp_iconst (q := 31) dX12_restore_30 zq_iconst_0 rfl ?_
  refine wp_istore_n (q := 32) (loc' := [(2, _), (1, _), (0, _)]) dX12_restore_31 rfl (by decide) rfl rfl ?_
  refine WP.sub (loc' := [(2, _), (0, _)]) [0, 2] rfl ?_
  exact loop1 3 0 M1 (by decide) (fun i hi => absurd hi (Nat.not_lt_zero _)) (fun x _ => rfl)
set_option maxHeartbeats 4000000 in
set_option maxRecDepth 100000 in
theorem sp_mrestoreN {d t n : Nat} {M : zMI} {L : zML} {g : zGd} {v : Nat → Nat} {hs : List (Nat → Nat)} {m : zMs} (h : zMo M L n g v hs m) (hno : ¬ zIok n m.1 m.2.1) : Sy yX12_restore YX12_restore (d + 3) [.ref 177] M L (zRf t) (zMn M L t n g v hs (zMup (zMt m 0 m.2.1) 5) (.int (nI 0))) := by
  refine Sp.of (by decide +kernel) rfl (fun h => by first | exact h | cases h) (Nat.le_of_ble_eq_true rfl) ?_
  intro w G
  have h8 := h.1.2.1.1.1
  obtain ⟨c1, c2, c3, c4, c5, c6, c7, c8, c9, c10, c11⟩ := h.2.2.2.1
  obtain ⟨M1, hM1⟩ : ∃ M1, zu M 177 1 (nI 0) = M1 := ⟨_, rfl⟩
  have f1 : ∀ x, x ≠ 177 → M1 x = M x := fun x hx => by rw [← hM1]; exact zu_ne hx
  have f2 : ∀ k, k ≠ 1 → M1 177 k = M 177 k := fun k hk => by rw [← hM1]; exact zu_k hk
  have f3 : M1 177 1 = nI 0 := by rw [← hM1]; exact zu_s
  have hM : zMo M1 L n g v hs (zMt m 0 m.2.1) := zMo_m h (fun x x1 x2 x3 x4 => f1 x x1) (fun k hk => f2 k (by omega)) rfl (zMm_t h.2.2.2.1 (Nat.zero_le _) (fun i hi => absurd hi (Nat.not_lt_zero _)) f3 f2 (fun x x1 x2 => f1 x x1))
  refine wp_aload_n (q := 1) dX12_restore_0 0 rfl rfl ?_
  refine wp_getI (q := 4) dX12_restore_1 zf_RX12_233 rfl zsh_177 rfl ?_
  refine wp_istore_n (q := 5) (loc' := [(1, _), (0, _)]) dX12_restore_4 rfl (by decide) rfl rfl ?_
  refine wp_aload_n (q := 6) dX12_restore_5 1 rfl rfl ?_
  refine wp_iconst (q := 7) dX12_restore_6 zq_iconst_0 rfl ?_
  refine wp_putI (q := 10) dX12_restore_7 zf_RX12_233 rfl zsh_177 rfl ?_
  rw [hM1]
  rw [c1]
  refine wp_aload_n (q := 11) dX12_restore_10 1 rfl rfl ?_
  refine wp_iload_n (q := 12) dX12_restore_11 0 rfl rfl ?_
  refine wp_cvy (q := 15) (sp_misTold (d := 0) (o := false) (b := m.2.1) hM.1.1 h8 c2 (fun i hi => by rw [f1 178 (by decide)]; exact c3 i hi) ⟨fun e => absurd e hno, fun e => by cases e⟩) zm_X12_isTold zl_RX12_727 dX12_restore_12 rfl (by omega) (Nat.le_of_ble_eq_true rfl) zsh_177 rfl rfl ?_
  rintro _ M2 L2 _ ⟨rfl, rfl, rfl, rfl⟩
  rw [zb01_f]
  refine wp_if_neN (tgt := 30) (q := 18) dX12_restore_15 (by decide) rfl (by omega) (fun hn => absurd hn (by first | omega | exact fun h => h | exact fun h => h trivial)) (fun _ => ?_)
  refine wp_aload_n (q := 19) dX12_restore_18 1 rfl rfl ?_
  refine wp_getR (q := 22) dX12_restore_19 zf_RX12_17 rfl zsh_177 (zr_177_9 _) rfl ?_
  refine wp_iconst (q := 23) dX12_restore_22 zq_iconst_5 rfl ?_
  first | refine wp_dup2 (q := 24) dX12_restore_23 rfl rfl rfl ?_ | refine wp_dup2L (q := 24) dX12_restore_23 rfl rfl ?_
  refine wp_iald (q := 25) _ dX12_restore_24 zsh_179 rfl (by omega) (by decide) rfl ?_
  refine wp_iconst (q := 26) dX12_restore_25 zq_iconst_1 rfl ?_
  refine wp_iadd (q := 27) dX12_restore_26 rfl ?_
  refine wp_iast (q := 28) _ dX12_restore_27 zsh_179 rfl (by omega) (by decide) rfl ?_
  refine wp_iconst (q := 29) dX12_restore_28 zq_iconst_0 rfl ?_
  exact wp_zreturn dX12_restore_29 rfl (by first | with_reducible exact znar_0 | with_reducible exact znar_1 | assumption) ⟨rfl, ⟨rfl, rfl, zMo_rf hM (by decide), zYf_t (fun x hx => ⟨f1 x (by omega), rfl⟩) (zYf_rf (by decide))⟩⟩ rfl rfl

