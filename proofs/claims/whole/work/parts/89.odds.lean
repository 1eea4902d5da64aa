def zmgt (tb : zTb) (v : Nat → Nat) (s hd o : Nat) : Nat := zmg tb (tb.1 (wh v s) hd) (lw v s hd) (lw v o (1 - hd)) (gr v s hd)
def zsgt (tb : zTb) (v : Nat → Nat) (s hd o : Nat) : Nat := zsg tb (tb.1 (wh v s) hd) (lw v s hd) (lw v o (1 - hd)) (gr v s hd)
set_option maxHeartbeats 4000000 in
set_option maxRecDepth 100000 in
theorem sp_mmight {d t n s hd o : Nat} {M : zMI} {L : zML} {tb : zTb} {v : Nat → Nat} (h : zMc M n tb v) (hs : s < n) (hh : hd < 2) (ho : o < n) {r : Nat} (hr : zmgt tb v s hd o = r) : Sy yX12_might YX12_might (d + 3) [.ref 177, .int (nI s), .int (nI hd), .int (nI o)] M L (zRf t) (fun v0 M' L' R' => v0 = some (.int (nI r)) ∧ R' = zRf t ∧ zTo M M' L L') := by
  refine Sp.of (by decide +kernel) rfl (fun h => by first | exact h | cases h) (Nat.le_of_ble_eq_true rfl) ?_
  intro w G
  have hs1 := h.2.2.2.1
  have ha9 := (h.2.2.1 _ _ (h.2.1.1.2.1 s hs) hh).2
  have h8 := h.2.1.1.1
  unfold zmgt zmg at hr
  cases hc : tb.2.1 with
  | none =>
    rw [hc] at hs1 hr
    have hs2 : M 209 2 = -1 := hs1
    refine wp_aload_n (q := 1) dX12_might_0 0 rfl rfl ?_
    refine wp_getR (q := 4) dX12_might_1 zf_RX12_109 rfl zsh_177 (zr_177_40 _) rfl ?_
    refine wp_iconst (q := 5) dX12_might_4 zq_iconst_2 rfl ?_
    refine wp_iald (q := 6) _ dX12_might_5 zsh_209 rfl (by omega) (by decide) rfl ?_
    rw [hs2]
    refine wp_iconst (q := 7) dX12_might_6 zq_iconst_m1 rfl ?_
    refine wp_icmp_ne (tgt := 19) (q := 10) dX12_might_7 (by decide) rfl (fun hn => absurd hn (by exact fun c => c rfl)) (fun _ => ?_)
    refine wp_aload_n (q := 11) dX12_might_10 0 rfl rfl ?_
    refine wp_iload_n (q := 12) dX12_might_11 1 rfl rfl ?_
    refine wp_iload_n (q := 13) dX12_might_12 2 rfl rfl ?_
    refine wp_cvx (q := 16) (sp_marm (d := 0) h hs hh) zm_X12_armOf zl_RX12_415 dX12_might_13 rfl (by omega) (Nat.le_of_ble_eq_true rfl) zsh_177 rfl rfl ?_
    refine wp_goto (tgt := 30) dX12_might_16 (by decide) ?_
    refine wp_ireturn dX12_might_30 rfl ⟨rfl, ⟨?_, rfl, zTo_r⟩⟩ rfl rfl
    rw [← hr]
    show _ = some (Value.int (nI (zclN 999 ((tb.1 (wh v s) hd : Nat) : Int))))
    unfold zclN
    rw [if_neg (by omega), if_neg (by omega), Int.toNat_natCast]
  | some F =>
    rw [hc] at hs1 hr
    obtain ⟨f, f1, -, f3, -⟩ := id hs1
    rw [Nat.add_zero] at f1
    have hne : nI f ≠ -1 := fun e => by have := congrArg Int32.toInt e; rw [nI_toInt (by omega)] at this; have h1 : (-1 : Int32).toInt = -1 := rfl; omega
    refine wp_aload_n (q := 1) dX12_might_0 0 rfl rfl ?_
    refine wp_getR (q := 4) dX12_might_1 zf_RX12_109 rfl zsh_177 (zr_177_40 _) rfl ?_
    refine wp_iconst (q := 5) dX12_might_4 zq_iconst_2 rfl ?_
    refine wp_iald (q := 6) _ dX12_might_5 zsh_209 rfl (by omega) (by decide) rfl ?_
    rw [f1]
    refine wp_iconst (q := 7) dX12_might_6 zq_iconst_m1 rfl ?_
    refine wp_icmp_ne (tgt := 19) (q := 10) dX12_might_7 (by decide) rfl (fun _ => ?_) (fun hn => absurd hn (by exact hne))
    refine wp_aload_n (q := 20) dX12_might_19 0 rfl rfl ?_
    refine wp_iconst (q := 21) dX12_might_20 zq_iconst_0 rfl ?_
    refine wp_iload_n (q := 22) dX12_might_21 1 rfl rfl ?_
    refine wp_iload_n (q := 23) dX12_might_22 2 rfl rfl ?_
    refine wp_iload_n (q := 24) dX12_might_23 3 rfl rfl ?_
    refine wp_sipush (q := 27) dX12_might_24 zq_sipush_999 rfl ?_
    refine wp_cvy (q := 30) (sp_mtold (d := 0) (wc := 0) (ms := 999) h (by decide) hs hh ho (by decide) hs1 hr) zm_X12_told zl_RX12_431 dX12_might_27 rfl (by omega) (Nat.le_of_ble_eq_true rfl) zsh_177 rfl rfl ?_
    rintro _ M2 L2 _ ⟨rfl, rfl, hto⟩
    exact wp_ireturn dX12_might_30 rfl ⟨rfl, ⟨rfl, rfl, hto⟩⟩ rfl rfl
set_option maxHeartbeats 4000000 in
set_option maxRecDepth 100000 in
theorem sp_mslips {d t n s hd o : Nat} {M : zMI} {L : zML} {tb : zTb} {v : Nat → Nat} (h : zMc M n tb v) (hs : s < n) (hh : hd < 2) (ho : o < n) {r : Nat} (hr : zsgt tb v s hd o = r) : Sy yX12_slips YX12_slips (d + 3) [.ref 177, .int (nI s), .int (nI hd), .int (nI o)] M L (zRf t) (fun v0 M' L' R' => v0 = some (.int (nI r)) ∧ R' = zRf t ∧ zTo M M' L L') := by
  refine Sp.of (by decide +kernel) rfl (fun h => by first | exact h | cases h) (Nat.le_of_ble_eq_true rfl) ?_
  intro w G
  have hs1 := h.2.2.2.2
  have h8 := h.2.1.1.1
  unfold zsgt zsg at hr
  cases hc : tb.2.2 with
  | none =>
    rw [hc] at hs1 hr
    have hs2 : M 209 3 = -1 := hs1
    refine wp_aload_n (q := 1) dX12_slips_0 0 rfl rfl ?_
    refine wp_getR (q := 4) dX12_slips_1 zf_RX12_109 rfl zsh_177 (zr_177_40 _) rfl ?_
    refine wp_iconst (q := 5) dX12_slips_4 zq_iconst_3 rfl ?_
    refine wp_iald (q := 6) _ dX12_slips_5 zsh_209 rfl (by omega) (by decide) rfl ?_
    rw [hs2]
    refine wp_iconst (q := 7) dX12_slips_6 zq_iconst_m1 rfl ?_
    refine wp_icmp_ne (tgt := 14) (q := 10) dX12_slips_7 (by decide) rfl (fun hn => absurd hn (by exact fun c => c rfl)) (fun _ => ?_)
    refine wp_iconst (q := 11) dX12_slips_10 zq_iconst_0 rfl ?_
    refine wp_goto (tgt := 24) dX12_slips_11 (by decide) ?_
    refine wp_ireturn dX12_slips_24 rfl ⟨rfl, ⟨?_, rfl, zTo_r⟩⟩ rfl rfl
    rw [← hr]
    rfl
  | some F =>
    rw [hc] at hs1 hr
    obtain ⟨f, f1, -, f3, -⟩ := id hs1
    have f1' : M 209 3 = nI f := f1
    have hne : nI f ≠ -1 := fun e => by have := congrArg Int32.toInt e; rw [nI_toInt (by omega)] at this; have h1 : (-1 : Int32).toInt = -1 := rfl; omega
    refine wp_aload_n (q := 1) dX12_slips_0 0 rfl rfl ?_
    refine wp_getR (q := 4) dX12_slips_1 zf_RX12_109 rfl zsh_177 (zr_177_40 _) rfl ?_
    refine wp_iconst (q := 5) dX12_slips_4 zq_iconst_3 rfl ?_
    refine wp_iald (q := 6) _ dX12_slips_5 zsh_209 rfl (by omega) (by decide) rfl ?_
    rw [f1']
    refine wp_iconst (q := 7) dX12_slips_6 zq_iconst_m1 rfl ?_
    refine wp_icmp_ne (tgt := 14) (q := 10) dX12_slips_7 (by decide) rfl (fun _ => ?_) (fun hn => absurd hn (by exact hne))
    refine wp_aload_n (q := 15) dX12_slips_14 0 rfl rfl ?_
    refine wp_iconst (q := 16) dX12_slips_15 zq_iconst_1 rfl ?_
    refine wp_iload_n (q := 17) dX12_slips_16 1 rfl rfl ?_
    refine wp_iload_n (q := 18) dX12_slips_17 2 rfl rfl ?_
    refine wp_iload_n (q := 19) dX12_slips_18 3 rfl rfl ?_
    refine wp_bipush (q := 21) dX12_slips_19 zq_bipush_100 rfl ?_
    refine wp_cvy (q := 24) (sp_mtold (d := 0) (wc := 1) (ms := 100) h (by decide) hs hh ho (by decide) hs1 hr) zm_X12_told zl_RX12_431 dX12_slips_21 rfl (by omega) (Nat.le_of_ble_eq_true rfl) zsh_177 rfl rfl ?_
    rintro _ M2 L2 _ ⟨rfl, rfl, hto⟩
    exact wp_ireturn dX12_slips_24 rfl ⟨rfl, ⟨rfl, rfl, hto⟩⟩ rfl rfl
def zof (tb : zTb) (v : Nat → Nat) (a b hd : Nat) : Nat := if hd = 0 then zoR tb v a b else zoL tb v a b
set_option maxHeartbeats 4000000 in
set_option maxRecDepth 100000 in
theorem sp_moddsOf {d t n a b hd : Nat} {M : zMI} {L : zML} {tb : zTb} {v : Nat → Nat} (h : zMc M n tb v) (ha : a < n) (hb : b < n) (hh : hd < 2) {r : Nat} (hr : zof tb v a b hd = r) : Sy yX12_oddsOf YX12_oddsOf (d + 4) [.ref 177, .int (nI a), .int (nI b), .int (nI hd)] M L (zRf t) (fun v0 M' L' R' => v0 = some (.int (nI r)) ∧ R' = zRf t ∧ zTo M M' L L') := by
  refine Sp.of (by decide +kernel) rfl (fun h => by first | exact h | cases h) (Nat.le_of_ble_eq_true rfl) ?_
  intro w G
  obtain ⟨m, hm⟩ : ∃ m, zmR tb v a b = m := ⟨_, rfl⟩
  obtain ⟨k, hk⟩ : ∃ k, zmL tb v a b = k := ⟨_, rfl⟩
  obtain ⟨s, hs⟩ : ∃ s, zsR tb v a b = s := ⟨_, rfl⟩
  obtain ⟨p, hp⟩ : ∃ p, zsL tb v a b = p := ⟨_, rfl⟩
  have m9 : m ≤ 999 := by rw [← hm]; exact zclN_le _ _
  have k9 : k ≤ 999 := by rw [← hk]; exact zclN_le _ _
  have s9 : s ≤ 100 := by rw [← hs]; exact zclN_le _ _
  have p9 : p ≤ 100 := by rw [← hp]; exact zclN_le _ _
  have hB : (100 - s) * (100 - p) ≤ 100 * 100 := Nat.mul_le_mul (by omega) (by omega)
  have hsp : (100 - s) * p ≤ 100 * 100 := Nat.mul_le_mul (by omega) (by omega)
  have hps : s * (100 - p) ≤ 100 * 100 := Nat.mul_le_mul (by omega) (by omega)
  refine wp_aload_n (q := 1) dX12_oddsOf_0 0 rfl rfl ?_
  refine wp_iload_n (q := 2) dX12_oddsOf_1 1 rfl rfl ?_
  refine wp_iconst (q := 3) dX12_oddsOf_2 zq_iconst_0 rfl ?_
  refine wp_iload_n (q := 4) dX12_oddsOf_3 2 rfl rfl ?_
  refine wp_cvy (q := 7) (sp_mmight (d := 0) (hd := 0) h ha (by decide) hb hm) zm_X12_might zl_RX12_435 dX12_oddsOf_4 rfl (by omega) (Nat.le_of_ble_eq_true rfl) zsh_177 rfl rfl ?_
  rintro _ M1 L1 _ ⟨rfl, rfl, t1⟩
  refine wp_istore (q := 9) (loc' := [(4, _), (0, _), (1, _), (2, _), (3, _)]) dX12_oddsOf_7 (by decide) rfl rfl ?_
  refine wp_aload_n (q := 10) dX12_oddsOf_9 1 rfl rfl ?_
  refine wp_iload_n (q := 11) dX12_oddsOf_10 3 rfl rfl ?_
  refine wp_iconst (q := 12) dX12_oddsOf_11 zq_iconst_1 rfl ?_
  refine wp_iload_n (q := 13) dX12_oddsOf_12 2 rfl rfl ?_
  refine wp_cvy (q := 16) (sp_mmight (d := 0) (hd := 1) (zMc_o h t1) hb (by decide) ha hk) zm_X12_might zl_RX12_435 dX12_oddsOf_13 rfl (by omega) (Nat.le_of_ble_eq_true rfl) zsh_177 rfl rfl ?_
  rintro _ M2 L2 _ ⟨rfl, rfl, t2⟩
  have t12 := zTo_t t1 t2
  have rest : ∀ q, q = zsh' m k → WP w YX12_oddsOf (d + 4, SS, 0, 0) G (some (zXp (fun v0 M' L' R' => v0 = some (.int (nI r)) ∧ R' = zRf t ∧ zTo M M' L L'))) 42 [(5, .int (nI k)), (4, .int (nI m)), (0, .ref 177), (1, .int (nI a)), (2, .int (nI b)), (3, .int (nI hd))] [.int (nI q)] SS M2 L2 (zRf t) := by
    intro q hq
    have q9 : q ≤ 100 := by
      rw [hq]
      unfold zsh'
      split
      · decide
      · refine Nat.div_le_of_le_mul ?_
        rw [Nat.mul_comm]
        exact Nat.mul_le_mul (by omega) (Nat.le_refl _)
    have hBq : (100 - s) * (100 - p) * q ≤ 100 * 100 * 100 := Nat.mul_le_mul hB q9
    have hBq2 : (100 - s) * (100 - p) * q / 100 ≤ (100 - s) * (100 - p) := by
      refine Nat.div_le_of_le_mul ?_
      rw [Nat.mul_comm]
      exact Nat.mul_le_mul q9 (Nat.le_refl _)
    refine wp_istore (q := 44) (loc' := [(6, _), (5, _), (4, _), (0, _), (1, _), (2, _), (3, _)]) dX12_oddsOf_42 (by decide) rfl rfl ?_
    refine wp_aload_n (q := 45) dX12_oddsOf_44 3 rfl rfl ?_
    refine wp_iload_n (q := 46) dX12_oddsOf_45 4 rfl rfl ?_
    refine wp_iconst (q := 47) dX12_oddsOf_46 zq_iconst_0 rfl ?_
    refine wp_iload_n (q := 48) dX12_oddsOf_47 5 rfl rfl ?_
    refine wp_cvy (q := 51) (sp_mslips (d := 0) (hd := 0) (zMc_o h t12) ha (by decide) hb hs) zm_X12_slips zl_RX12_439 dX12_oddsOf_48 rfl (by omega) (Nat.le_of_ble_eq_true rfl) zsh_177 rfl rfl ?_
    rintro _ M3 L3 _ ⟨rfl, rfl, t3⟩
    have t123 := zTo_t t12 t3
    refine wp_istore (q := 53) (loc' := [(7, _), (6, _), (5, _), (4, _), (0, _), (1, _), (2, _), (3, _)]) dX12_oddsOf_51 (by decide) rfl rfl ?_
    refine wp_aload_n (q := 54) dX12_oddsOf_53 4 rfl rfl ?_
    refine wp_iload_n (q := 55) dX12_oddsOf_54 6 rfl rfl ?_
    refine wp_iconst (q := 56) dX12_oddsOf_55 zq_iconst_1 rfl ?_
    refine wp_iload_n (q := 57) dX12_oddsOf_56 5 rfl rfl ?_
    refine wp_cvy (q := 60) (sp_mslips (d := 0) (hd := 1) (zMc_o h t123) hb (by decide) ha hp) zm_X12_slips zl_RX12_439 dX12_oddsOf_57 rfl (by omega) (Nat.le_of_ble_eq_true rfl) zsh_177 rfl rfl ?_
    rintro _ M4 L4 _ ⟨rfl, rfl, t4⟩
    have t1234 := zTo_t t123 t4
    refine wp_istore (q := 62) (loc' := [(8, _), (7, _), (6, _), (5, _), (4, _), (0, _), (1, _), (2, _), (3, _)]) dX12_oddsOf_60 (by decide) rfl rfl ?_
    refine wp_bipush (q := 64) dX12_oddsOf_62 zq_bipush_100 rfl ?_
    refine wp_iload (q := 66) dX12_oddsOf_64 1 rfl rfl ?_
    refine wp_isubN (q := 67) dX12_oddsOf_66 (by omega) rfl ?_
    refine wp_bipush (q := 69) dX12_oddsOf_67 zq_bipush_100 rfl ?_
    refine wp_iload (q := 71) dX12_oddsOf_69 0 rfl rfl ?_
    refine wp_isubN (q := 72) dX12_oddsOf_71 (by omega) rfl ?_
    refine wp_imulN (q := 73) dX12_oddsOf_72 rfl ?_
    refine wp_istore (q := 75) (loc' := [(9, _), (8, _), (7, _), (6, _), (5, _), (4, _), (0, _), (1, _), (2, _), (3, _)]) dX12_oddsOf_73 (by decide) rfl rfl ?_
    refine wp_iload (q := 77) dX12_oddsOf_75 0 rfl rfl ?_
    refine wp_iload (q := 79) dX12_oddsOf_77 3 rfl rfl ?_
    refine wp_imulN (q := 80) dX12_oddsOf_79 rfl ?_
    refine wp_bipush (q := 82) dX12_oddsOf_80 zq_bipush_100 rfl ?_
    refine wp_idivN (q := 83) dX12_oddsOf_82 (by omega) (by omega) (by omega) rfl ?_
    refine wp_istore (q := 85) (loc' := [(10, _), (9, _), (8, _), (7, _), (6, _), (5, _), (4, _), (0, _), (1, _), (2, _), (3, _)]) dX12_oddsOf_83 (by decide) rfl rfl ?_
    refine wp_iload_n (q := 86) dX12_oddsOf_85 10 rfl rfl ?_
    refine wp_if_neN (tgt := 103) (q := 89) dX12_oddsOf_86 (by decide) rfl (by omega) (fun c => ?_) (fun c => ?_)
    · skip
      refine wp_iload (q := 105) dX12_oddsOf_103 3 rfl rfl ?_
      refine wp_bipush (q := 107) dX12_oddsOf_105 zq_bipush_100 rfl ?_
      refine wp_iload (q := 109) dX12_oddsOf_107 2 rfl rfl ?_
      refine wp_isubN (q := 110) dX12_oddsOf_109 (by omega) rfl ?_
      refine wp_imulN (q := 111) dX12_oddsOf_110 rfl ?_
      refine wp_iload (q := 113) dX12_oddsOf_111 1 rfl rfl ?_
      refine wp_iaddN (q := 114) dX12_oddsOf_113 rfl ?_
      refine wp_iload (q := 116) dX12_oddsOf_114 0 rfl rfl ?_
      refine wp_isubN (q := 117) dX12_oddsOf_116 (by omega) rfl ?_
      refine wp_ireturn dX12_oddsOf_117 rfl ⟨rfl, ⟨?_, rfl, t1234⟩⟩ rfl rfl
      rw [← hr]
      unfold zof zoL zrw
      rw [if_neg c, hm, hk, hs, hp, hq]
    · skip
      refine wp_bipush (q := 91) dX12_oddsOf_89 zq_bipush_100 rfl ?_
      refine wp_iload (q := 93) dX12_oddsOf_91 3 rfl rfl ?_
      refine wp_isubN (q := 94) dX12_oddsOf_93 (by omega) rfl ?_
      refine wp_iload (q := 96) dX12_oddsOf_94 2 rfl rfl ?_
      refine wp_imulN (q := 97) dX12_oddsOf_96 rfl ?_
      refine wp_iload (q := 99) dX12_oddsOf_97 0 rfl rfl ?_
      refine wp_iaddN (q := 100) dX12_oddsOf_99 rfl ?_
      refine wp_goto (tgt := 117) dX12_oddsOf_100 (by decide) ?_
      refine wp_ireturn dX12_oddsOf_117 rfl ⟨rfl, ⟨?_, rfl, t1234⟩⟩ rfl rfl
      rw [← hr]
      unfold zof zoR zrw
      rw [if_pos c, hm, hk, hs, hp, hq]
  refine wp_istore (q := 18) (loc' := [(5, _), (4, _), (0, _), (1, _), (2, _), (3, _)]) dX12_oddsOf_16 (by decide) rfl rfl ?_
  refine wp_iload (q := 20) dX12_oddsOf_18 1 rfl rfl ?_
  refine wp_iload (q := 22) dX12_oddsOf_20 0 rfl rfl ?_
  refine wp_iaddN (q := 23) dX12_oddsOf_22 rfl ?_
  refine wp_if_neN (tgt := 31) (q := 26) dX12_oddsOf_23 (by decide) rfl (by omega) (fun c => ?_) (fun c => ?_)
  · skip
    refine wp_bipush (q := 33) dX12_oddsOf_31 zq_bipush_100 rfl ?_
    refine wp_iload (q := 35) dX12_oddsOf_33 1 rfl rfl ?_
    refine wp_imulN (q := 36) dX12_oddsOf_35 rfl ?_
    refine wp_iload (q := 38) dX12_oddsOf_36 1 rfl rfl ?_
    refine wp_iload (q := 40) dX12_oddsOf_38 0 rfl rfl ?_
    refine wp_iaddN (q := 41) dX12_oddsOf_40 rfl ?_
    refine wp_idivN (q := 42) dX12_oddsOf_41 (by omega) (by omega) (by omega) rfl ?_
    refine WP.sub (loc' := [(5, _), (4, _), (0, _), (1, _), (2, _), (3, _)]) [0, 1, 2, 3, 4, 5] rfl ?_
    exact rest _ (by unfold zsh'; rw [if_neg c])
  · skip
    refine wp_bipush (q := 28) dX12_oddsOf_26 zq_bipush_50 rfl ?_
    refine wp_goto (tgt := 42) dX12_oddsOf_28 (by decide) ?_
    refine WP.sub (loc' := [(5, _), (4, _), (0, _), (1, _), (2, _), (3, _)]) [0, 1, 2, 3, 4, 5] rfl ?_
    exact rest 50 (by unfold zsh'; rw [if_pos c])
set_option maxHeartbeats 4000000 in
set_option maxRecDepth 100000 in
theorem sp_moddsAt {d t n c hd : Nat} {M : zMI} {L : zML} {tb : zTb} {v : Nat → Nat} (h : zMc M n tb v) (hc : c < n) (hh : hd < 2) {r : Nat} (hr : zof tb v c ((c + 1) % n) hd = r) : Sy yX12_oddsAt YX12_oddsAt (d + 5) [.ref 177, .int (nI c), .int (nI hd)] M L (zRf t) (fun v0 M' L' R' => v0 = some (.int (nI r)) ∧ R' = zRf t ∧ zTo M M' L L') := by
  refine Sp.of (by decide +kernel) rfl (fun h => by first | exact h | cases h) (Nat.le_of_ble_eq_true rfl) ?_
  intro w G
  refine wp_aload_n (q := 1) dX12_oddsAt_0 0 rfl rfl ?_
  refine wp_iload_n (q := 2) dX12_oddsAt_1 1 rfl rfl ?_
  refine wp_aload_n (q := 3) dX12_oddsAt_2 0 rfl rfl ?_
  refine wp_iload_n (q := 4) dX12_oddsAt_3 1 rfl rfl ?_
  refine wp_cvx (q := 7) (sp_mahead (d := 0) h.1 h.2.1.1.1 hc) zm_X12_ahead zl_RX12_442 dX12_oddsAt_4 rfl (by omega) (Nat.le_of_ble_eq_true rfl) zsh_177 rfl rfl ?_
  refine wp_iload_n (q := 8) dX12_oddsAt_7 2 rfl rfl ?_
  refine wp_cvy (q := 11) (sp_moddsOf (d := 0) h hc (Nat.mod_lt _ (by omega)) hh hr) zm_X12_oddsOf zl_RX12_445 dX12_oddsAt_8 rfl (by omega) (Nat.le_of_ble_eq_true rfl) zsh_177 rfl rfl ?_
  rintro _ M1 L1 _ ⟨rfl, rfl, t1⟩
  exact wp_ireturn dX12_oddsAt_11 rfl ⟨rfl, ⟨rfl, rfl, t1⟩⟩ rfl rfl
theorem zof_le (tb : zTb) (v : Nat → Nat) (a b hd : Nat) : zof tb v a b hd ≤ 10000 := by
  have := zo_sum tb v a b
  unfold zof
  split <;> omega
set_option maxHeartbeats 4000000 in
set_option maxRecDepth 100000 in
theorem sp_mnobodyAt {d t n c : Nat} {M : zMI} {L : zML} {tb : zTb} {v : Nat → Nat} (h : zMc M n tb v) (hc : c < n) {r : Nat} (hr : zoN tb v c ((c + 1) % n) = r) : Sy yX12_nobodyAt YX12_nobodyAt (d + 6) [.ref 177, .int (nI c)] M L (zRf t) (fun v0 M' L' R' => v0 = some (.int (nI r)) ∧ R' = zRf t ∧ zTo M M' L L') := by
  refine Sp.of (by decide +kernel) rfl (fun h => by first | exact h | cases h) (Nat.le_of_ble_eq_true rfl) ?_
  intro w G
  have hsum := zo_sum tb v c ((c + 1) % n)
  refine wp_sipush (q := 3) dX12_nobodyAt_0 zq_sipush_10000 rfl ?_
  refine wp_aload_n (q := 4) dX12_nobodyAt_3 0 rfl rfl ?_
  refine wp_iload_n (q := 5) dX12_nobodyAt_4 1 rfl rfl ?_
  refine wp_iconst (q := 6) dX12_nobodyAt_5 zq_iconst_0 rfl ?_
  refine wp_cvy (q := 9) (sp_moddsAt (d := 0) (hd := 0) h hc (by decide) (rfl : _ = zoR tb v c ((c + 1) % n))) zm_X12_oddsAt zl_RX12_448 dX12_nobodyAt_6 rfl (by omega) (Nat.le_of_ble_eq_true rfl) zsh_177 rfl rfl ?_
  rintro _ M1 L1 _ ⟨rfl, rfl, t1⟩
  refine wp_isubN (q := 10) dX12_nobodyAt_9 (by omega) rfl ?_
  refine wp_aload_n (q := 11) dX12_nobodyAt_10 0 rfl rfl ?_
  refine wp_iload_n (q := 12) dX12_nobodyAt_11 1 rfl rfl ?_
  refine wp_iconst (q := 13) dX12_nobodyAt_12 zq_iconst_1 rfl ?_
  refine wp_cvy (q := 16) (sp_moddsAt (d := 0) (hd := 1) (zMc_o h t1) hc (by decide) (rfl : _ = zoL tb v c ((c + 1) % n))) zm_X12_oddsAt zl_RX12_448 dX12_nobodyAt_13 rfl (by omega) (Nat.le_of_ble_eq_true rfl) zsh_177 rfl rfl ?_
  rintro _ M2 L2 _ ⟨rfl, rfl, t2⟩
  refine wp_isubN (q := 17) dX12_nobodyAt_16 (by omega) rfl ?_
  exact wp_ireturn dX12_nobodyAt_17 rfl ⟨rfl, ⟨by rw [← hr, show 10000 - zoR tb v c ((c + 1) % n) - zoL tb v c ((c + 1) % n) = zoN tb v c ((c + 1) % n) by omega], rfl, zTo_t t1 t2⟩⟩ rfl rfl
theorem zwy_hat {a b hh : Nat} (ha : a ≤ 10000) (hb : b ≤ 10000) (h0 : hh ≠ 0) (h2 : hh ≠ 2) : zwy a b hh = a * (10000 - b) + (10000 - a) * b := by
  unfold zwy
  rw [if_neg h0, if_neg h2, Nat.mul_comm b]
set_option maxHeartbeats 4000000 in
set_option maxRecDepth 100000 in
theorem sp_mhatted {d a b hh : Nat} {M : zMI} {L : zML} {R : zMR} (ha : a ≤ 10000) (hb : b ≤ 10000)  (hh9 : hh < 3) : Sx yX12_hatted YX12_hatted (d) [.long (lN a), .long (lN b), .int (nI hh)] M L R (some (.long (lN (zwy a b hh)))) M L R := by
  refine Sp.of (by decide +kernel) rfl (fun h => by first | exact h | cases h) (Nat.le_of_ble_eq_true rfl) ?_
  intro w G
  have m1 := zm8 (a := 10000 - a) (b := 10000 - b) (by omega) (by omega)
  have m2 := zm8 ha hb
  have m3 := zm8 (a := a) (b := 10000 - b) ha (by omega)
  have m4 := zm8 (a := 10000 - a) (b := b) (by omega) hb
  refine wp_iload (q := 2) dX12_hatted_0 2 rfl rfl ?_
  refine wp_if_neN (tgt := 17) (q := 5) dX12_hatted_2 (by decide) rfl (by omega) (fun c0 => ?_) (fun c0 => ?_)
  · skip
    refine wp_iload (q := 19) dX12_hatted_17 2 rfl rfl ?_
    refine wp_iconst (q := 20) dX12_hatted_19 zq_iconst_2 rfl ?_
    refine wp_icmp_neN (tgt := 29) (q := 23) dX12_hatted_20 (by decide) rfl (by omega) (by omega) (fun c2 => ?_) (fun c2 => ?_)
    · skip
      rw [zwy_hat ha hb c0 c2]
      refine wp_lload_n (q := 30) dX12_hatted_29 0 rfl rfl ?_
      refine wp_ldc2_w (q := 33) dX12_hatted_30 zk_RX12_451 rfl ?_
      rw [zlitL 10000]
      refine wp_lload_n (q := 34) dX12_hatted_33 1 rfl rfl ?_
      refine wp_lsubN (q := 35) dX12_hatted_34 (by omega) rfl ?_
      refine wp_lmulN (q := 36) dX12_hatted_35 rfl ?_
      refine wp_ldc2_w (q := 39) dX12_hatted_36 zk_RX12_451 rfl ?_
      rw [zlitL 10000]
      refine wp_lload_n (q := 40) dX12_hatted_39 0 rfl rfl ?_
      refine wp_lsubN (q := 41) dX12_hatted_40 (by omega) rfl ?_
      refine wp_lload_n (q := 42) dX12_hatted_41 1 rfl rfl ?_
      refine wp_lmulN (q := 43) dX12_hatted_42 rfl ?_
      refine wp_laddN (q := 44) dX12_hatted_43 rfl ?_
      exact wp_lreturn dX12_hatted_44 rfl ⟨rfl, rfl, rfl, rfl, rfl⟩ rfl rfl
    · skip
      rw [show zwy a b hh = a * b from by unfold zwy; rw [if_neg c0, if_pos c2]]
      refine wp_lload_n (q := 24) dX12_hatted_23 0 rfl rfl ?_
      refine wp_lload_n (q := 25) dX12_hatted_24 1 rfl rfl ?_
      refine wp_lmulN (q := 26) dX12_hatted_25 rfl ?_
      refine wp_goto (tgt := 44) dX12_hatted_26 (by decide) ?_
      exact wp_lreturn dX12_hatted_44 rfl ⟨rfl, rfl, rfl, rfl, rfl⟩ rfl rfl
  · skip
    rw [show zwy a b hh = (10000 - a) * (10000 - b) from by unfold zwy; rw [if_pos c0]]
    refine wp_ldc2_w (q := 8) dX12_hatted_5 zk_RX12_451 rfl ?_
    rw [zlitL 10000]
    refine wp_lload_n (q := 9) dX12_hatted_8 0 rfl rfl ?_
    refine wp_lsubN (q := 10) dX12_hatted_9 (by omega) rfl ?_
    refine wp_ldc2_w (q := 13) dX12_hatted_10 zk_RX12_451 rfl ?_
    rw [zlitL 10000]
    refine wp_lload_n (q := 14) dX12_hatted_13 1 rfl rfl ?_
    refine wp_lsubN (q := 15) dX12_hatted_14 (by omega) rfl ?_
    refine wp_lmulN (q := 16) dX12_hatted_15 rfl ?_
    exact wp_lreturn dX12_hatted_16 rfl ⟨rfl, rfl, rfl, rfl, rfl⟩ rfl rfl
set_option maxHeartbeats 4000000 in
set_option maxRecDepth 100000 in
theorem sp_mhattedAt {d t n s hh : Nat} {M : zMI} {L : zML} {tb : zTb} {v : Nat → Nat} (h : zMc M n tb v) (hs : s < n) (hh9 : hh < 3) {r : Nat} (hr : zwy (zoR tb v s ((s + 1) % n)) (zoL tb v ((s + n - 1) % n) s) hh = r) : Sy yX12_hattedAt YX12_hattedAt (d + 6) [.ref 177, .int (nI s), .int (nI hh)] M L (zRf t) (fun v0 M' L' R' => v0 = some (.long (lN r)) ∧ R' = zRf t ∧ zTo M M' L L') := by
  refine Sp.of (by decide +kernel) rfl (fun h => by first | exact h | cases h) (Nat.le_of_ble_eq_true rfl) ?_
  intro w G
  have h8 := h.2.1.1.1
  have hm : (s + n - 1) % n < n := Nat.mod_lt _ (by omega)
  have b1 : zoR tb v s ((s + 1) % n) ≤ 10000 := zof_le tb v s ((s + 1) % n) 0
  have b2 : zoL tb v ((s + n - 1) % n) s ≤ 10000 := zof_le tb v ((s + n - 1) % n) s 1
  refine wp_aload_n (q := 1) dX12_hattedAt_0 0 rfl rfl ?_
  refine wp_iload_n (q := 2) dX12_hattedAt_1 1 rfl rfl ?_
  refine wp_iconst (q := 3) dX12_hattedAt_2 zq_iconst_0 rfl ?_
  refine wp_cvy (q := 6) (sp_moddsAt (d := 0) (hd := 0) h hs (by decide) (rfl : _ = zoR tb v s ((s + 1) % n))) zm_X12_oddsAt zl_RX12_448 dX12_hattedAt_3 rfl (by omega) (Nat.le_of_ble_eq_true rfl) zsh_177 rfl rfl ?_
  rintro _ M1 L1 _ ⟨rfl, rfl, t1⟩
  refine wp_i2lN (q := 7) dX12_hattedAt_6 (by omega) rfl ?_
  refine wp_aload_n (q := 8) dX12_hattedAt_7 0 rfl rfl ?_
  refine wp_aload_n (q := 9) dX12_hattedAt_8 0 rfl rfl ?_
  refine wp_iload_n (q := 10) dX12_hattedAt_9 1 rfl rfl ?_
  refine wp_cvx (q := 13) (sp_mbehind (d := 0) (zMc_o h t1).1 h8 hs) zm_X12_behind zl_RX12_453 dX12_hattedAt_10 rfl (by omega) (Nat.le_of_ble_eq_true rfl) zsh_177 rfl rfl ?_
  refine wp_iconst (q := 14) dX12_hattedAt_13 zq_iconst_1 rfl ?_
  refine wp_cvy (q := 17) (sp_moddsAt (d := 0) (hd := 1) (zMc_o h t1) hm (by decide) (show zof tb v _ _ 1 = zoL tb v ((s + n - 1) % n) s by rw [zmod2 hs]; rfl)) zm_X12_oddsAt zl_RX12_448 dX12_hattedAt_14 rfl (by omega) (Nat.le_of_ble_eq_true rfl) zsh_177 rfl rfl ?_
  rintro _ M2 L2 _ ⟨rfl, rfl, t2⟩
  refine wp_i2lN (q := 18) dX12_hattedAt_17 (by omega) rfl ?_
  refine wp_iload_n (q := 19) dX12_hattedAt_18 2 rfl rfl ?_
  refine wp_csx (q := 22) (sp_mhatted (d := 0) (hh := hh) b1 b2 hh9) zm_X12_hatted zl_RX12_456 dX12_hattedAt_19 rfl (by omega) (Nat.le_of_ble_eq_true rfl) rfl ?_
  exact wp_lreturn dX12_hattedAt_22 rfl ⟨rfl, ⟨by rw [hr], rfl, zTo_t t1 t2⟩⟩ rfl rfl
set_option maxHeartbeats 4000000 in
set_option maxRecDepth 100000 in
theorem sp_mhatsAll {d t n : Nat} {M : zMI} {L : zML} {v : Nat → Nat} (hn : M 204 2 = nI n) (h : zNw M n v) : Sx yX12_hatsAll YX12_hatsAll (d + 1) [.ref 177] M L (zRf t) (some (.int (nI (nS (ht v) n)))) M L (zRf t) := by
  refine Sp.of (by decide +kernel) rfl (fun h => by first | exact h | cases h) (Nat.le_of_ble_eq_true rfl) ?_
  intro w G
  have h8 := h.1.1
  have h99 := h.1.2.2.2.1
  have hb : ∀ i, i ≤ n → nS (ht v) i ≤ 99 * i := fun i hi => nS_le (fun j hj => h99 j (by omega))
  have loop : ∀ k i, i + k = n → WP w YX12_hatsAll (d + 1, SS, 0, 0) G (some (zX (some (.int (nI (nS (ht v) n)))) M L (zRf t))) 4 [(2, .int (nI i)), (1, .int (nI (nS (ht v) i))), (0, .ref 177)] [] SS M L (zRf t) := by
    intro k
    induction k with
    | zero =>
      intro i hi
      refine wp_iload_n (q := 5) dX12_hatsAll_4 0 rfl rfl ?_
      refine wp_aload_n (q := 6) dX12_hatsAll_5 2 rfl rfl ?_
      refine wp_cvx (q := 9) (sp_mpm (d := 0) hn) zm_X12_peopleMany zl_RX12_408 dX12_hatsAll_6 rfl (by omega) (Nat.le_of_ble_eq_true rfl) zsh_177 rfl rfl ?_
      refine wp_icmp_geN (tgt := 26) (q := 12) dX12_hatsAll_9 (by decide) rfl (by omega) (by omega) (fun _ => ?_) (fun hn => absurd hn (by first | omega | exact fun h => h | exact fun h => h trivial))
      rw [show i = n by omega]
      refine wp_iload_n (q := 27) dX12_hatsAll_26 1 rfl rfl ?_
      exact wp_ireturn dX12_hatsAll_27 rfl ⟨rfl, rfl, rfl, rfl, rfl⟩ rfl rfl
    | succ k ih =>
      intro i hi
      refine wp_iload_n (q := 5) dX12_hatsAll_4 0 rfl rfl ?_
      refine wp_aload_n (q := 6) dX12_hatsAll_5 2 rfl rfl ?_
      refine wp_cvx (q := 9) (sp_mpm (d := 0) hn) zm_X12_peopleMany zl_RX12_408 dX12_hatsAll_6 rfl (by omega) (Nat.le_of_ble_eq_true rfl) zsh_177 rfl rfl ?_
      refine wp_icmp_geN (tgt := 26) (q := 12) dX12_hatsAll_9 (by decide) rfl (by omega) (by omega) (fun hn => absurd hn (by first | omega | exact fun h => h | exact fun h => h trivial)) (fun _ => ?_)
      refine wp_iload_n (q := 13) dX12_hatsAll_12 1 rfl rfl ?_
      refine wp_aload_n (q := 14) dX12_hatsAll_13 2 rfl rfl ?_
      refine wp_iload_n (q := 15) dX12_hatsAll_14 0 rfl rfl ?_
      refine wp_cvx (q := 18) (sp_mhats (d := 0) h (by omega : i < n)) zm_X12_hatsOf zl_RX12_460 dX12_hatsAll_15 rfl (by omega) (Nat.le_of_ble_eq_true rfl) zsh_177 rfl rfl ?_
      refine wp_iaddN (q := 19) dX12_hatsAll_18 rfl ?_
      refine wp_istore_n (q := 20) (loc' := [(1, _), (2, _), (0, _)]) dX12_hatsAll_19 rfl (by decide) rfl rfl ?_
      refine wp_iincN (q := 23) (loc' := [(2, _), (1, _), (0, _)]) (n := 1) dX12_hatsAll_20 rfl 1 rfl (by decide) rfl rfl ?_
      refine wp_goto (tgt := 4) dX12_hatsAll_23 (by decide) ?_
      refine WP.sub (loc' := [(2, _), (1, _), (0, _)]) [0, 1, 2] rfl ?_
      exact ih (i + 1) (by omega)
  refine wp_iconst (q := 1) dX12_hatsAll_0 zq_iconst_0 rfl ?_
  refine wp_istore_n (q := 2) (loc' := [(1, _), (0, _)]) dX12_hatsAll_1 rfl (by decide) rfl rfl ?_
  refine wp_iconst (q := 3) dX12_hatsAll_2 zq_iconst_0 rfl ?_
  refine wp_istore_n (q := 4) (loc' := [(2, _), (1, _), (0, _)]) dX12_hatsAll_3 rfl (by decide) rfl rfl ?_
  refine WP.sub (loc' := [(2, _), (1, _), (0, _)]) [0, 1, 2] rfl ?_
  exact loop n 0 (Nat.zero_add _)
set_option maxHeartbeats 4000000 in
set_option maxRecDepth 100000 in
theorem sp_mhatless {d t n : Nat} {M : zMI} {L : zML} {v : Nat → Nat} (hn : M 204 2 = nI n) (h : zNw M n v) : Sx yX12_hatless YX12_hatless (d + 1) [.ref 177] M L (zRf t) (some (.int (nI (znz v n)))) M L (zRf t) := by
  refine Sp.of (by decide +kernel) rfl (fun h => by first | exact h | cases h) (Nat.le_of_ble_eq_true rfl) ?_
  intro w G
  have h8 := h.1.1
  have h99 := h.1.2.2.2.1
  have loop : ∀ k i, i + k = n → WP w YX12_hatless (d + 1, SS, 0, 0) G (some (zX (some (.int (nI (znz v n)))) M L (zRf t))) 4 [(2, .int (nI i)), (1, .int (nI (znz v i))), (0, .ref 177)] [] SS M L (zRf t) := by
    intro k
    induction k with
    | zero =>
      intro i hi
      refine wp_iload_n (q := 5) dX12_hatless_4 0 rfl rfl ?_
      refine wp_aload_n (q := 6) dX12_hatless_5 2 rfl rfl ?_
      refine wp_cvx (q := 9) (sp_mpm (d := 0) hn) zm_X12_peopleMany zl_RX12_408 dX12_hatless_6 rfl (by omega) (Nat.le_of_ble_eq_true rfl) zsh_177 rfl rfl ?_
      refine wp_icmp_geN (tgt := 29) (q := 12) dX12_hatless_9 (by decide) rfl (by omega) (by omega) (fun _ => ?_) (fun hn => absurd hn (by first | omega | exact fun h => h | exact fun h => h trivial))
      rw [show i = n by omega]
      refine wp_iload_n (q := 30) dX12_hatless_29 1 rfl rfl ?_
      exact wp_ireturn dX12_hatless_30 rfl ⟨rfl, rfl, rfl, rfl, rfl⟩ rfl rfl
    | succ k ih =>
      intro i hi
      have hx := h99 i (by omega)
      have ih1 := ih (i + 1) (by omega)
      unfold znz at ih1
      rw [nC] at ih1
      refine wp_iload_n (q := 5) dX12_hatless_4 0 rfl rfl ?_
      refine wp_aload_n (q := 6) dX12_hatless_5 2 rfl rfl ?_
      refine wp_cvx (q := 9) (sp_mpm (d := 0) hn) zm_X12_peopleMany zl_RX12_408 dX12_hatless_6 rfl (by omega) (Nat.le_of_ble_eq_true rfl) zsh_177 rfl rfl ?_
      refine wp_icmp_geN (tgt := 29) (q := 12) dX12_hatless_9 (by decide) rfl (by omega) (by omega) (fun hn => absurd hn (by first | omega | exact fun h => h | exact fun h => h trivial)) (fun _ => ?_)
      refine wp_aload_n (q := 13) dX12_hatless_12 2 rfl rfl ?_
      refine wp_iload_n (q := 14) dX12_hatless_13 0 rfl rfl ?_
      refine wp_cvx (q := 17) (sp_mhats (d := 0) h (by omega : i < n)) zm_X12_hatsOf zl_RX12_460 dX12_hatless_14 rfl (by omega) (Nat.le_of_ble_eq_true rfl) zsh_177 rfl rfl ?_
      refine wp_if_neN (tgt := 23) (q := 20) dX12_hatless_17 (by decide) rfl (by omega) (fun c => ?_) (fun c => ?_)
      · skip
        rw [if_neg (by simp [c]), Nat.add_zero] at ih1
        refine wp_iincN (q := 26) (loc' := [(2, _), (1, _), (0, _)]) (n := 1) dX12_hatless_23 rfl 0 rfl (by decide) rfl rfl ?_
        refine wp_goto (tgt := 4) dX12_hatless_26 (by decide) ?_
        refine WP.sub (loc' := [(2, _), (1, _), (0, _)]) [0, 1, 2] rfl ?_
        exact ih1
      · skip
        rw [if_pos (by simp [c])] at ih1
        refine wp_iincN (q := 23) (loc' := [(1, _), (2, _), (0, _)]) (n := 1) dX12_hatless_20 rfl 1 rfl (by decide) rfl rfl ?_
        refine wp_iincN (q := 26) (loc' := [(2, _), (1, _), (0, _)]) (n := 1) dX12_hatless_23 rfl 1 rfl (by decide) rfl rfl ?_
        refine wp_goto (tgt := 4) dX12_hatless_26 (by decide) ?_
        refine WP.sub (loc' := [(2, _), (1, _), (0, _)]) [0, 1, 2] rfl ?_
        exact ih1
  refine wp_iconst (q := 1) dX12_hatless_0 zq_iconst_0 rfl ?_
  refine wp_istore_n (q := 2) (loc' := [(1, _), (0, _)]) dX12_hatless_1 rfl (by decide) rfl rfl ?_
  refine wp_iconst (q := 3) dX12_hatless_2 zq_iconst_0 rfl ?_
  refine wp_istore_n (q := 4) (loc' := [(2, _), (1, _), (0, _)]) dX12_hatless_3 rfl (by decide) rfl rfl ?_
  refine WP.sub (loc' := [(2, _), (1, _), (0, _)]) [0, 1, 2] rfl ?_
  exact loop n 0 (Nat.zero_add _)

