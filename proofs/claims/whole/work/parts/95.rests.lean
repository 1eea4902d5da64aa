def zc01 (k : Nat) : Nat := if k = 0 then 0 else 1
def zb01 (b : Bool) : Nat := if b = true then 1 else 0
theorem zc01_0 : zc01 0 = 0 := rfl
theorem zc01_s (k : Nat) : zc01 (k + 1) = 1 := rfl
theorem zb01_t : zb01 true = 1 := rfl
theorem zb01_f : zb01 false = 0 := rfl
theorem zc01_n (k : Nat) : narrow FieldType.boolean (Value.int (nI (zc01 k))) = Value.int (nI (zc01 k)) := by
  cases k with
  | zero => exact znar_0
  | succ k => exact znar_1
theorem zdid_e {tb : zTb} {v : Nat → Nat} {n s h : Nat} (hv : zV n v) (hs : s < n) (hh : h < 2) : zdid tb v n s h = false ↔ zfw tb v n s h (zbs tb v n s h) = zown tb v n s h := by
  have hg := (hv.2.2.2.2.1 s h hs hh).1
  have hl := (hv.2.2.2.2.1 s h hs hh).2
  have hm := zbi_max (zfw tb v n s h) 30 (10 * gr v s h + lw v s h) (by omega)
  have e : zfw tb v n s h (10 * gr v s h + lw v s h) = zown tb v n s h := by
    unfold zfw
    rw [zhold_cur hv hs hh]
  rw [e] at hm
  unfold zdid
  rw [decide_eq_false_iff_not]
  unfold zbs
  omega
set_option maxHeartbeats 4000000 in
set_option maxRecDepth 100000 in
theorem sp_mturns {d t n s hh : Nat} {M : zMI} {L : zML} {tb : zTb} {v : Nat → Nat} (h : zMc M n tb v) (hs0 : s < n) (hh0 : hh < 2) : Sy yX12_turns YX12_turns (d + 8) [.ref 177, .int (nI s), .int (nI hh)] M L (zRf t) (fun v0 M' L' R' => v0 = some (.int (nI (zb01 (zdid tb v n s hh)))) ∧ R' = zRf t ∧ zMc M' n tb (zturn tb v n s hh) ∧ zNo M M' L L') := by
  refine Sp.of (by decide +kernel) rfl (fun h => by first | exact h | cases h) (Nat.le_of_ble_eq_true rfl) ?_
  intro w G
  have hw := zbi_lt (zfw tb v n s hh) 30 (by decide)
  have hd := zdid_e (tb := tb) h.2.1.1 hs0 hh0
  obtain ⟨o, ho⟩ : ∃ o, zown tb v n s hh = o := ⟨_, rfl⟩
  obtain ⟨b, hb⟩ : ∃ b, zbs tb v n s hh = b := ⟨_, rfl⟩
  obtain ⟨x, hx⟩ : ∃ x, zfw tb v n s hh b = x := ⟨_, rfl⟩
  have o9 : o ≤ 10000 := by rw [← ho]; exact zown_le _ _ _ _ _
  have x9 : x ≤ 10000 := by rw [← hx]; exact zown_le _ _ _ _ _
  rw [hb, hx, ho] at hd
  have hw' : b < 30 := by rw [← hb]; exact hw
  refine wp_aload_n (q := 1) dX12_turns_0 0 rfl rfl ?_
  refine wp_iload_n (q := 2) dX12_turns_1 1 rfl rfl ?_
  refine wp_iload_n (q := 3) dX12_turns_2 2 rfl rfl ?_
  refine wp_cvy (q := 6) (sp_mownOdds (d := 0) h hs0 hh0 ho) zm_X12_ownOdds zl_RX12_515 dX12_turns_3 rfl (by omega) (Nat.le_of_ble_eq_true rfl) zsh_177 rfl rfl ?_
  rintro _ M2 L2 _ ⟨rfl, rfl, t2⟩
  refine wp_istore_n (q := 7) (loc' := [(3, _), (0, _), (1, _), (2, _)]) dX12_turns_6 rfl (by decide) rfl rfl ?_
  refine wp_aload_n (q := 8) dX12_turns_7 1 rfl rfl ?_
  refine wp_iload_n (q := 9) dX12_turns_8 2 rfl rfl ?_
  refine wp_iload_n (q := 10) dX12_turns_9 3 rfl rfl ?_
  refine wp_cvy (q := 13) (sp_mseeks (d := 0) (zMc_o h t2) hs0 hh0) zm_X12_seeksHold zl_RX12_524 dX12_turns_10 rfl (by omega) (Nat.le_of_ble_eq_true rfl) zsh_177 rfl rfl ?_
  rintro _ M3 L3 _ ⟨rfl, rfl, c3, n3, b3, x3⟩
  rw [hb] at b3 x3
  rw [hx] at x3
  have nn := zNo_t (zNo_o t2) n3
  refine wp_aload_n (q := 14) dX12_turns_13 1 rfl rfl ?_
  refine wp_getI (q := 17) dX12_turns_14 zf_RX12_508 rfl zsh_177 rfl ?_
  rw [x3]
  refine wp_iload_n (q := 18) dX12_turns_17 0 rfl rfl ?_
  refine wp_icmp_neN (tgt := 23) (q := 21) dX12_turns_18 (by decide) rfl (by omega) (by omega) (fun c => ?_) (fun c => ?_)
  · skip
    have hd2 : zdid tb v n s hh = true := by
      cases e : zdid tb v n s hh with
      | true => rfl
      | false => exact absurd (hd.mp e) c
    refine wp_aload_n (q := 24) dX12_turns_23 1 rfl rfl ?_
    refine wp_iload_n (q := 25) dX12_turns_24 2 rfl rfl ?_
    refine wp_iload_n (q := 26) dX12_turns_25 3 rfl rfl ?_
    refine wp_aload_n (q := 27) dX12_turns_26 1 rfl rfl ?_
    refine wp_getI (q := 30) dX12_turns_27 zf_RX12_518 rfl zsh_177 rfl ?_
    rw [b3]
    refine wp_bipush (q := 32) dX12_turns_30 zq_bipush_10 rfl ?_
    refine wp_idivN (q := 33) dX12_turns_32 (by omega) (by omega) (by omega) rfl ?_
    refine wp_aload_n (q := 34) dX12_turns_33 1 rfl rfl ?_
    refine wp_getI (q := 37) dX12_turns_34 zf_RX12_518 rfl zsh_177 rfl ?_
    rw [b3]
    refine wp_bipush (q := 39) dX12_turns_37 zq_bipush_10 rfl ?_
    refine wp_iremN (q := 40) dX12_turns_39 (by omega) (by omega) (by omega) rfl ?_
    refine wp_cvy (q := 43) (sp_mholdsNow (d := 0) c3.2.1 hs0 hh0 (by omega : b / 10 < 3) (by omega : b % 10 < 10)) zm_X12_holdsNow zl_RX12_511 dX12_turns_40 rfl (by omega) (Nat.le_of_ble_eq_true rfl) zsh_177 rfl rfl ?_
    rintro _ M4 L4 _ ⟨rfl, rfl, rfl, n4, e4⟩
    refine wp_iconst (q := 44) dX12_turns_43 zq_iconst_1 rfl ?_
    refine wp_zreturn dX12_turns_44 rfl (by first | with_reducible exact znar_0 | with_reducible exact znar_1 | assumption) ⟨rfl, ⟨by rw [hd2]; rfl, rfl, ?_, zNo_t nn (zNo_n e4)⟩⟩ rfl rfl
    have e : zturn tb v n s hh = zhold v s hh (10 * (b / 10) + b % 10) := by
      unfold zturn
      rw [hd2, if_pos rfl, hb]
      congr 1
      omega
    rw [e]
    exact zMc_no c3 (zNo_n (L := L3) e4) n4
  · skip
    have hd2 : zdid tb v n s hh = false := hd.mpr c
    refine wp_iconst (q := 22) dX12_turns_21 zq_iconst_0 rfl ?_
    refine wp_zreturn dX12_turns_22 rfl (by first | with_reducible exact znar_0 | with_reducible exact znar_1 | assumption) ⟨rfl, ⟨by rw [hd2]; rfl, rfl, ?_, nn⟩⟩ rfl rfl
    have e : zturn tb v n s hh = v := by
      unfold zturn
      rw [hd2]
      rfl
    rw [e]
    exact c3
set_option maxHeartbeats 4000000 in
set_option maxRecDepth 100000 in
theorem sp_mround {d t n : Nat} {M : zMI} {L : zML} {tb : zTb} {v : Nat → Nat} (h : zMc M n tb v) : Sy yX12_roundTurns YX12_roundTurns (d + 9) [.ref 177] M L (zRf t) (fun v0 M' L' R' => v0 = some (.int (nI (zc01 (zcnt tb n v (2 * n))))) ∧ R' = zRf t ∧ zMc M' n tb (zrnd tb n v (2 * n)) ∧ zNo M M' L L') := by
  refine Sp.of (by decide +kernel) rfl (fun h => by first | exact h | cases h) (Nat.le_of_ble_eq_true rfl) ?_
  intro w G
  have h8 := h.2.1.1.1
  have loop : ∀ q s (M2 : zMI) (L2 : zML), s + q = n → zMc M2 n tb (zrnd tb n v (2 * s)) → zNo M M2 L L2 → WP w YX12_roundTurns (d + 9, SS, 0, 0) G (some (zXp (fun v0 M' L' R' => v0 = some (.int (nI (zc01 (zcnt tb n v (2 * n))))) ∧ R' = zRf t ∧ zMc M' n tb (zrnd tb n v (2 * n)) ∧ zNo M M' L L'))) 4 [(2, .int (nI s)), (1, .int (nI (zc01 (zcnt tb n v (2 * s))))), (0, .ref 177)] [] SS M2 L2 (zRf t) := by
    intro q
    induction q with
    | zero =>
      intro s M2 L2 hq hc hn2
      rw [show s = n by omega] at hc ⊢
      have hnb := zc01_n (zcnt tb n v (2 * n))
      refine wp_iload_n (q := 5) dX12_roundTurns_4 0 rfl rfl ?_
      refine wp_aload_n (q := 6) dX12_roundTurns_5 2 rfl rfl ?_
      refine wp_cvx (q := 9) (sp_mpm (d := 0) hc.1) zm_X12_peopleMany zl_RX12_408 dX12_roundTurns_6 rfl (by omega) (Nat.le_of_ble_eq_true rfl) zsh_177 rfl rfl ?_
      refine wp_icmp_geN (tgt := 42) (q := 12) dX12_roundTurns_9 (by decide) rfl (by omega) (by omega) (fun _ => ?_) (fun hn => absurd hn (by first | omega | exact fun h => h | exact fun h => h trivial))
      refine wp_iload_n (q := 43) dX12_roundTurns_42 1 rfl rfl ?_
      exact wp_zreturn dX12_roundTurns_43 rfl (by first | with_reducible exact znar_0 | with_reducible exact znar_1 | assumption) ⟨rfl, ⟨rfl, rfl, hc, hn2⟩⟩ rfl rfl
    | succ q ih =>
      intro s M2 L2 hq hc hn2
      have hsn : s < n := by omega
      have a1 : 2 * s / 2 = s := by omega
      have a2 : 2 * s % 2 = 0 := by omega
      have a3 : (2 * s + 1) / 2 = s := by omega
      have a4 : (2 * s + 1) % 2 = 1 := by omega
      have ih1 := fun M5 L5 => ih (s + 1) M5 L5 (by omega)
      rw [show 2 * (s + 1) = 2 * s + 1 + 1 by omega] at ih1
      have fin : ∀ (M4 : zMI) (L4 : zML), zMc M4 n tb (zrnd tb n v (2 * s + 1)) → zNo M M4 L L4 → WP w YX12_roundTurns (d + 9, SS, 0, 0) G (some (zXp (fun v0 M' L' R' => v0 = some (.int (nI (zc01 (zcnt tb n v (2 * n))))) ∧ R' = zRf t ∧ zMc M' n tb (zrnd tb n v (2 * n)) ∧ zNo M M' L L'))) 14 [(3, .int (nI 1)), (2, .int (nI s)), (1, .int (nI (zc01 (zcnt tb n v (2 * s + 1))))), (0, .ref 177)] [] SS M4 L4 (zRf t) := by
        intro M4 L4 c4 n4
        have e5 : zrnd tb n v (2 * s + 1 + 1) = zturn tb (zrnd tb n v (2 * s + 1)) n s 1 := by rw [zrnd, a3, a4]
        have e6 : zcnt tb n v (2 * s + 1 + 1) = zcnt tb n v (2 * s + 1) + zb01 (zdid tb (zrnd tb n v (2 * s + 1)) n s 1) := by rw [zcnt, a3, a4]; rfl
        rw [e5, e6] at ih1
        refine wp_iload_n (q := 15) dX12_roundTurns_14 0 rfl rfl ?_
        refine wp_iconst (q := 16) dX12_roundTurns_15 zq_iconst_2 rfl ?_
        refine wp_icmp_geN (tgt := 36) (q := 19) dX12_roundTurns_16 (by decide) rfl (by omega) (by omega) (fun hn => absurd hn (by first | omega | exact fun h => h | exact fun h => h trivial)) (fun _ => ?_)
        refine wp_aload_n (q := 20) dX12_roundTurns_19 3 rfl rfl ?_
        refine wp_iload_n (q := 21) dX12_roundTurns_20 1 rfl rfl ?_
        refine wp_iload_n (q := 22) dX12_roundTurns_21 0 rfl rfl ?_
        refine wp_cvy (q := 25) (sp_mturns (d := 0) (hh := 1) c4 hsn (by decide)) zm_X12_turns zl_RX12_527 dX12_roundTurns_22 rfl (by omega) (Nat.le_of_ble_eq_true rfl) zsh_177 rfl rfl ?_
        rintro _ M5 L5 _ ⟨rfl, rfl, c5, n5⟩
        have n45 := zNo_t n4 n5
        cases hd : zdid tb (zrnd tb n v (2 * s + 1)) n s 1 with
        | true =>
          rw [hd, zb01_t, zc01_s] at ih1
          rw [zb01_t]
          refine wp_if_eqN (tgt := 30) (q := 28) dX12_roundTurns_25 (by decide) rfl (by omega) (fun hn => absurd hn (by first | omega | exact fun h => h | exact fun h => h trivial)) (fun _ => ?_)
          refine wp_iconst (q := 29) dX12_roundTurns_28 zq_iconst_1 rfl ?_
          refine wp_istore_n (q := 30) (loc' := [(1, _), (3, _), (2, _), (0, _)]) dX12_roundTurns_29 rfl (by decide) rfl rfl ?_
          refine wp_iincN (q := 33) (loc' := [(3, _), (1, _), (2, _), (0, _)]) (n := 1) dX12_roundTurns_30 rfl 1 rfl (by decide) rfl rfl ?_
          refine wp_goto (tgt := 14) dX12_roundTurns_33 (by decide) ?_
          refine wp_iload_n (q := 15) dX12_roundTurns_14 0 rfl rfl ?_
          refine wp_iconst (q := 16) dX12_roundTurns_15 zq_iconst_2 rfl ?_
          refine wp_icmp_geN (tgt := 36) (q := 19) dX12_roundTurns_16 (by decide) rfl (by omega) (by omega) (fun _ => ?_) (fun hn => absurd hn (by first | omega | exact fun h => h | exact fun h => h trivial))
          refine wp_iincN (q := 39) (loc' := [(2, _), (3, _), (1, _), (0, _)]) (n := 1) dX12_roundTurns_36 rfl 2 rfl (by decide) rfl rfl ?_
          refine wp_goto (tgt := 4) dX12_roundTurns_39 (by decide) ?_
          refine WP.sub (loc' := [(2, _), (1, _), (0, _)]) [0, 2, 3] rfl ?_
          exact ih1 M5 L5 c5 n45
        | false =>
          rw [hd, zb01_f, Nat.add_zero] at ih1
          rw [zb01_f]
          refine wp_if_eqN (tgt := 30) (q := 28) dX12_roundTurns_25 (by decide) rfl (by omega) (fun _ => ?_) (fun hn => absurd hn (by first | omega | exact fun h => h | exact fun h => h trivial))
          refine wp_iincN (q := 33) (loc' := [(3, _), (2, _), (1, _), (0, _)]) (n := 1) dX12_roundTurns_30 rfl 0 rfl (by decide) rfl rfl ?_
          refine wp_goto (tgt := 14) dX12_roundTurns_33 (by decide) ?_
          refine wp_iload_n (q := 15) dX12_roundTurns_14 0 rfl rfl ?_
          refine wp_iconst (q := 16) dX12_roundTurns_15 zq_iconst_2 rfl ?_
          refine wp_icmp_geN (tgt := 36) (q := 19) dX12_roundTurns_16 (by decide) rfl (by omega) (by omega) (fun _ => ?_) (fun hn => absurd hn (by first | omega | exact fun h => h | exact fun h => h trivial))
          refine wp_iincN (q := 39) (loc' := [(2, _), (3, _), (1, _), (0, _)]) (n := 1) dX12_roundTurns_36 rfl 1 rfl (by decide) rfl rfl ?_
          refine wp_goto (tgt := 4) dX12_roundTurns_39 (by decide) ?_
          refine WP.sub (loc' := [(2, _), (1, _), (0, _)]) [0, 2, 3] rfl ?_
          exact ih1 M5 L5 c5 n45
      have e7 : zrnd tb n v (2 * s + 1) = zturn tb (zrnd tb n v (2 * s)) n s 0 := by rw [zrnd, a1, a2]
      have e8 : zcnt tb n v (2 * s + 1) = zcnt tb n v (2 * s) + zb01 (zdid tb (zrnd tb n v (2 * s)) n s 0) := by rw [zcnt, a1, a2]; rfl
      rw [e7, e8] at fin
      refine wp_iload_n (q := 5) dX12_roundTurns_4 0 rfl rfl ?_
      refine wp_aload_n (q := 6) dX12_roundTurns_5 2 rfl rfl ?_
      refine wp_cvx (q := 9) (sp_mpm (d := 0) hc.1) zm_X12_peopleMany zl_RX12_408 dX12_roundTurns_6 rfl (by omega) (Nat.le_of_ble_eq_true rfl) zsh_177 rfl rfl ?_
      refine wp_icmp_geN (tgt := 42) (q := 12) dX12_roundTurns_9 (by decide) rfl (by omega) (by omega) (fun hn => absurd hn (by first | omega | exact fun h => h | exact fun h => h trivial)) (fun _ => ?_)
      refine wp_iconst (q := 13) dX12_roundTurns_12 zq_iconst_0 rfl ?_
      refine wp_istore_n (q := 14) (loc' := [(3, _), (2, _), (1, _), (0, _)]) dX12_roundTurns_13 rfl (by decide) rfl rfl ?_
      refine wp_iload_n (q := 15) dX12_roundTurns_14 0 rfl rfl ?_
      refine wp_iconst (q := 16) dX12_roundTurns_15 zq_iconst_2 rfl ?_
      refine wp_icmp_geN (tgt := 36) (q := 19) dX12_roundTurns_16 (by decide) rfl (by omega) (by omega) (fun hn => absurd hn (by first | omega | exact fun h => h | exact fun h => h trivial)) (fun _ => ?_)
      refine wp_aload_n (q := 20) dX12_roundTurns_19 3 rfl rfl ?_
      refine wp_iload_n (q := 21) dX12_roundTurns_20 1 rfl rfl ?_
      refine wp_iload_n (q := 22) dX12_roundTurns_21 0 rfl rfl ?_
      refine wp_cvy (q := 25) (sp_mturns (d := 0) (hh := 0) hc hsn (by decide)) zm_X12_turns zl_RX12_527 dX12_roundTurns_22 rfl (by omega) (Nat.le_of_ble_eq_true rfl) zsh_177 rfl rfl ?_
      rintro _ M5 L5 _ ⟨rfl, rfl, c5, n5⟩
      have n45 := zNo_t hn2 n5
      cases hd : zdid tb (zrnd tb n v (2 * s)) n s 0 with
      | true =>
        rw [hd, zb01_t, zc01_s] at fin
        rw [zb01_t]
        refine wp_if_eqN (tgt := 30) (q := 28) dX12_roundTurns_25 (by decide) rfl (by omega) (fun hn => absurd hn (by first | omega | exact fun h => h | exact fun h => h trivial)) (fun _ => ?_)
        refine wp_iconst (q := 29) dX12_roundTurns_28 zq_iconst_1 rfl ?_
        refine wp_istore_n (q := 30) (loc' := [(1, _), (3, _), (2, _), (0, _)]) dX12_roundTurns_29 rfl (by decide) rfl rfl ?_
        refine wp_iincN (q := 33) (loc' := [(3, _), (1, _), (2, _), (0, _)]) (n := 1) dX12_roundTurns_30 rfl 1 rfl (by decide) rfl rfl ?_
        refine wp_goto (tgt := 14) dX12_roundTurns_33 (by decide) ?_
        refine WP.sub (loc' := [(3, _), (2, _), (1, _), (0, _)]) [0, 2, 1, 3] rfl ?_
        exact fin M5 L5 c5 n45
      | false =>
        rw [hd, zb01_f, Nat.add_zero] at fin
        rw [zb01_f]
        refine wp_if_eqN (tgt := 30) (q := 28) dX12_roundTurns_25 (by decide) rfl (by omega) (fun _ => ?_) (fun hn => absurd hn (by first | omega | exact fun h => h | exact fun h => h trivial))
        refine wp_iincN (q := 33) (loc' := [(3, _), (2, _), (1, _), (0, _)]) (n := 1) dX12_roundTurns_30 rfl 0 rfl (by decide) rfl rfl ?_
        refine wp_goto (tgt := 14) dX12_roundTurns_33 (by decide) ?_
        refine WP.sub (loc' := [(3, _), (2, _), (1, _), (0, _)]) [0, 1, 2, 3] rfl ?_
        exact fin M5 L5 c5 n45
  refine wp_iconst (q := 1) dX12_roundTurns_0 zq_iconst_0 rfl ?_
  refine wp_istore_n (q := 2) (loc' := [(1, _), (0, _)]) dX12_roundTurns_1 rfl (by decide) rfl rfl ?_
  refine wp_iconst (q := 3) dX12_roundTurns_2 zq_iconst_0 rfl ?_
  refine wp_istore_n (q := 4) (loc' := [(2, _), (1, _), (0, _)]) dX12_roundTurns_3 rfl (by decide) rfl rfl ?_
  refine WP.sub (loc' := [(2, _), (1, _), (0, _)]) [0, 1, 2] rfl ?_
  exact loop n 0 M L (Nat.zero_add _) h zNo_r
set_option maxHeartbeats 4000000 in
set_option maxRecDepth 100000 in
theorem sp_mputsAside {d t : Nat} {M : zMI} {L : zML} : Sy yX12_putsAside YX12_putsAside (d) [.ref 177] M L (zRf t) (fun v0 M' L' R' => v0 = none ∧ L = L' ∧ R' = zRf t ∧ (∀ j, j < 51 → M' 216 j = M 215 j) ∧ ∀ x, x ≠ 216 → M' x = M x) := by
  refine Sp.of (by decide +kernel) rfl (fun h => by first | exact h | cases h) (Nat.le_of_ble_eq_true rfl) ?_
  intro w G
  have loop : ∀ q k (M2 : zMI), k + q = 51 → (∀ j, j < k → M2 216 j = M 215 j) → (∀ x, x ≠ 216 → M2 x = M x) → WP w YX12_putsAside (d, SS, 0, 0) G (some (zXp (fun v0 M' L' R' => v0 = none ∧ L = L' ∧ R' = zRf t ∧ (∀ j, j < 51 → M' 216 j = M 215 j) ∧ ∀ x, x ≠ 216 → M' x = M x))) 2 [(1, .int (nI k)), (0, .ref 177)] [] SS M2 L (zRf t) := by
    intro q
    induction q with
    | zero =>
      intro k M2 hq h1 h2
      rw [show k = 51 by omega] at h1 ⊢
      refine wp_iload_n (q := 3) dX12_putsAside_2 0 rfl rfl ?_
      refine wp_bipush (q := 5) dX12_putsAside_3 zq_bipush_51 rfl ?_
      refine wp_icmp_geN (tgt := 26) (q := 8) dX12_putsAside_5 (by decide) rfl (by omega) (by omega) (fun _ => ?_) (fun hn => absurd hn (by first | omega | exact fun h => h | exact fun h => h trivial))
      exact wp_return dX12_putsAside_26 rfl ⟨rfl, ⟨rfl, rfl, rfl, h1, h2⟩⟩ rfl rfl
    | succ q ih =>
      intro k M2 hq h1 h2
      refine wp_iload_n (q := 3) dX12_putsAside_2 0 rfl rfl ?_
      refine wp_bipush (q := 5) dX12_putsAside_3 zq_bipush_51 rfl ?_
      refine wp_icmp_geN (tgt := 26) (q := 8) dX12_putsAside_5 (by decide) rfl (by omega) (by omega) (fun hn => absurd hn (by first | omega | exact fun h => h | exact fun h => h trivial)) (fun _ => ?_)
      refine wp_aload_n (q := 9) dX12_putsAside_8 1 rfl rfl ?_
      refine wp_getR (q := 12) dX12_putsAside_9 zf_RX12_130 rfl zsh_177 (zr_177_53 _) rfl ?_
      refine wp_iload_n (q := 13) dX12_putsAside_12 0 rfl rfl ?_
      refine wp_aload_n (q := 14) dX12_putsAside_13 1 rfl rfl ?_
      refine wp_getR (q := 17) dX12_putsAside_14 zf_RX12_127 rfl zsh_177 (zr_177_52 _) rfl ?_
      refine wp_iload_n (q := 18) dX12_putsAside_17 0 rfl rfl ?_
      refine wp_iald (q := 19) _ dX12_putsAside_18 zsh_215 rfl (by omega) (by decide) rfl ?_
      refine wp_iast (q := 20) _ dX12_putsAside_19 zsh_216 rfl (by omega) (by decide) rfl ?_
      refine wp_iincN (q := 23) (loc' := [(1, _), (0, _)]) (n := 1) dX12_putsAside_20 rfl 0 rfl (by decide) rfl rfl ?_
      refine wp_goto (tgt := 2) dX12_putsAside_23 (by decide) ?_
      refine WP.sub (loc' := [(1, _), (0, _)]) [0, 1] rfl ?_
      refine ih (k + 1) _ (by omega) (fun j hj => ?_) (fun x hx => by rw [zu_ne hx]; exact h2 x hx)
      by_cases e : j = k
      · rw [e, zu_s, h2 215 (by decide)]
      · rw [zu_k e]
        exact h1 j (by omega)
  refine wp_iconst (q := 1) dX12_putsAside_0 zq_iconst_0 rfl ?_
  refine wp_istore_n (q := 2) (loc' := [(1, _), (0, _)]) dX12_putsAside_1 rfl (by decide) rfl rfl ?_
  refine WP.sub (loc' := [(1, _), (0, _)]) [0, 1] rfl ?_
  exact loop 51 0 M (by decide) (fun j hj => absurd hj (Nat.not_lt_zero _)) (fun x _ => rfl)
set_option maxHeartbeats 4000000 in
set_option maxRecDepth 100000 in
theorem sp_mtakesBack {d t : Nat} {M : zMI} {L : zML} : Sy yX12_takesBack YX12_takesBack (d) [.ref 177] M L (zRf t) (fun v0 M' L' R' => v0 = none ∧ L = L' ∧ R' = zRf t ∧ (∀ j, j < 51 → M' 215 j = M 216 j) ∧ ∀ x, x ≠ 215 → M' x = M x) := by
  refine Sp.of (by decide +kernel) rfl (fun h => by first | exact h | cases h) (Nat.le_of_ble_eq_true rfl) ?_
  intro w G
  have loop : ∀ q k (M2 : zMI), k + q = 51 → (∀ j, j < k → M2 215 j = M 216 j) → (∀ x, x ≠ 215 → M2 x = M x) → WP w YX12_takesBack (d, SS, 0, 0) G (some (zXp (fun v0 M' L' R' => v0 = none ∧ L = L' ∧ R' = zRf t ∧ (∀ j, j < 51 → M' 215 j = M 216 j) ∧ ∀ x, x ≠ 215 → M' x = M x))) 2 [(1, .int (nI k)), (0, .ref 177)] [] SS M2 L (zRf t) := by
    intro q
    induction q with
    | zero =>
      intro k M2 hq h1 h2
      rw [show k = 51 by omega] at h1 ⊢
      refine wp_iload_n (q := 3) dX12_takesBack_2 0 rfl rfl ?_
      refine wp_bipush (q := 5) dX12_takesBack_3 zq_bipush_51 rfl ?_
      refine wp_icmp_geN (tgt := 26) (q := 8) dX12_takesBack_5 (by decide) rfl (by omega) (by omega) (fun _ => ?_) (fun hn => absurd hn (by first | omega | exact fun h => h | exact fun h => h trivial))
      exact wp_return dX12_takesBack_26 rfl ⟨rfl, ⟨rfl, rfl, rfl, h1, h2⟩⟩ rfl rfl
    | succ q ih =>
      intro k M2 hq h1 h2
      refine wp_iload_n (q := 3) dX12_takesBack_2 0 rfl rfl ?_
      refine wp_bipush (q := 5) dX12_takesBack_3 zq_bipush_51 rfl ?_
      refine wp_icmp_geN (tgt := 26) (q := 8) dX12_takesBack_5 (by decide) rfl (by omega) (by omega) (fun hn => absurd hn (by first | omega | exact fun h => h | exact fun h => h trivial)) (fun _ => ?_)
      refine wp_aload_n (q := 9) dX12_takesBack_8 1 rfl rfl ?_
      refine wp_getR (q := 12) dX12_takesBack_9 zf_RX12_127 rfl zsh_177 (zr_177_52 _) rfl ?_
      refine wp_iload_n (q := 13) dX12_takesBack_12 0 rfl rfl ?_
      refine wp_aload_n (q := 14) dX12_takesBack_13 1 rfl rfl ?_
      refine wp_getR (q := 17) dX12_takesBack_14 zf_RX12_130 rfl zsh_177 (zr_177_53 _) rfl ?_
      refine wp_iload_n (q := 18) dX12_takesBack_17 0 rfl rfl ?_
      refine wp_iald (q := 19) _ dX12_takesBack_18 zsh_216 rfl (by omega) (by decide) rfl ?_
      refine wp_iast (q := 20) _ dX12_takesBack_19 zsh_215 rfl (by omega) (by decide) rfl ?_
      refine wp_iincN (q := 23) (loc' := [(1, _), (0, _)]) (n := 1) dX12_takesBack_20 rfl 0 rfl (by decide) rfl rfl ?_
      refine wp_goto (tgt := 2) dX12_takesBack_23 (by decide) ?_
      refine WP.sub (loc' := [(1, _), (0, _)]) [0, 1] rfl ?_
      refine ih (k + 1) _ (by omega) (fun j hj => ?_) (fun x hx => by rw [zu_ne hx]; exact h2 x hx)
      by_cases e : j = k
      · rw [e, zu_s, h2 216 (by decide)]
      · rw [zu_k e]
        exact h1 j (by omega)
  refine wp_iconst (q := 1) dX12_takesBack_0 zq_iconst_0 rfl ?_
  refine wp_istore_n (q := 2) (loc' := [(1, _), (0, _)]) dX12_takesBack_1 rfl (by decide) rfl rfl ?_
  refine WP.sub (loc' := [(1, _), (0, _)]) [0, 1] rfl ?_
  exact loop 51 0 M (by decide) (fun j hj => absurd hj (Nat.not_lt_zero _)) (fun x _ => rfl)
set_option maxHeartbeats 4000000 in
set_option maxRecDepth 100000 in
theorem sp_mbest {d t n s hh w0 : Nat} {M : zMI} {L : zML} {g : zGd} {v : Nat → Nat} {hs : List (Nat → Nat)} {m : zMs} (h : zMo M L n g v hs m) (h2 : 2 ≤ n) (hs0 : s < n) (hh0 : hh < 2) (hw0 : w0 < 2) : Sy yX12_best YX12_best (d + 8) [.ref 177, .int (nI s), .int (nI hh), .int (nI w0)] M L (zRf t) (zMn M L t n g v hs m (.int (nI (zbst g.2.2.2.2.2 v n s hh w0)))) := by
  refine Sp.of (by decide +kernel) rfl (fun h => by first | exact h | cases h) (Nat.le_of_ble_eq_true rfl) ?_
  intro w G
  have hn := h.1.1
  have h8 := h.1.2.1.1.1
  refine wp_aload_n (q := 1) dX12_best_0 0 rfl rfl ?_
  refine wp_cvx (q := 4) (sp_mcm (d := 0) hn h8) zm_X12_crackerMany zl_RX12_463 dX12_best_1 rfl (by omega) (Nat.le_of_ble_eq_true rfl) zsh_177 rfl rfl ?_
  rw [if_neg (by omega)]
  refine wp_if_eqN (tgt := 33) (q := 7) dX12_best_4 (by decide) rfl (by omega) (fun hn => absurd hn (by first | omega | exact fun h => h | exact fun h => h trivial)) (fun _ => ?_)
  refine wp_aload_n (q := 8) dX12_best_7 0 rfl rfl ?_
  refine wp_iload_n (q := 9) dX12_best_8 1 rfl rfl ?_
  refine wp_cvx (q := 12) (sp_misSeat (d := 0) hn h8) zm_X12_isSeat zl_RX12_477 dX12_best_9 rfl (by omega) (Nat.le_of_ble_eq_true rfl) zsh_177 rfl rfl ?_
  rw [if_pos (zin_i hs0 (by omega))]
  refine wp_if_eqN (tgt := 33) (q := 15) dX12_best_12 (by decide) rfl (by omega) (fun hn => absurd hn (by first | omega | exact fun h => h | exact fun h => h trivial)) (fun _ => ?_)
  refine wp_aload_n (q := 16) dX12_best_15 0 rfl rfl ?_
  refine wp_iload_n (q := 17) dX12_best_16 2 rfl rfl ?_
  refine wp_cvx (q := 20) (sp_misHand (d := 0)) zm_X12_isHand zl_RX12_521 dX12_best_17 rfl (by omega) (Nat.le_of_ble_eq_true rfl) zsh_177 rfl rfl ?_
  rw [if_pos (zin_i hh0 (by omega))]
  refine wp_if_eqN (tgt := 33) (q := 23) dX12_best_20 (by decide) rfl (by omega) (fun hn => absurd hn (by first | omega | exact fun h => h | exact fun h => h trivial)) (fun _ => ?_)
  refine wp_iload_n (q := 24) dX12_best_23 3 rfl rfl ?_
  refine wp_i2l (q := 25) dX12_best_24 rfl ?_
  refine wp_lconst (q := 26) dX12_best_25 zq_lconst_0 rfl ?_
  refine wp_lconst (q := 27) dX12_best_26 zq_lconst_1 rfl ?_
  refine wp_csx (q := 30) (sp_isIn (d := 0)) zm_X12_isIn zl_RX12_276 dX12_best_27 rfl (by omega) (Nat.le_of_ble_eq_true rfl) rfl ?_
  rw [if_pos ((zis1 (m := 1) (by decide)).mpr (zin_i hw0 (by decide)))]
  refine wp_if_neN (tgt := 35) (q := 33) dX12_best_30 (by decide) rfl (by omega) (fun _ => ?_) (fun hn => absurd hn (by first | omega | exact fun h => h | exact fun h => h trivial))
  refine wp_aload_n (q := 36) dX12_best_35 0 rfl rfl ?_
  refine wp_iload_n (q := 37) dX12_best_36 1 rfl rfl ?_
  refine wp_iload_n (q := 38) dX12_best_37 2 rfl rfl ?_
  refine wp_cvy (q := 41) (sp_mseeks (d := 0) h.1 hs0 hh0) zm_X12_seeksHold zl_RX12_524 dX12_best_38 rfl (by omega) (Nat.le_of_ble_eq_true rfl) zsh_177 rfl rfl ?_
  rintro _ M2 L2 _ ⟨rfl, rfl, c2, n2, b2, x2⟩
  have hM := zMo_no h n2 c2.2.1
  have hY := zYf_no n2
  have hc : w0 = 0 ∨ w0 = 1 := by omega
  refine wp_iload_n (q := 42) dX12_best_41 3 rfl rfl ?_
  rcases hc with rfl | rfl
  · skip
    refine wp_if_neN (tgt := 52) (q := 45) dX12_best_42 (by decide) rfl (by omega) (fun hn => absurd hn (by first | omega | exact fun h => h | exact fun h => h trivial)) (fun _ => ?_)
    refine wp_aload_n (q := 46) dX12_best_45 0 rfl rfl ?_
    refine wp_getI (q := 49) dX12_best_46 zf_RX12_518 rfl zsh_177 rfl ?_
    rw [b2]
    refine wp_goto (tgt := 56) dX12_best_49 (by decide) ?_
    exact wp_ireturn dX12_best_56 rfl ⟨rfl, ⟨rfl, rfl, hM, hY⟩⟩ rfl rfl
  · skip
    refine wp_if_neN (tgt := 52) (q := 45) dX12_best_42 (by decide) rfl (by omega) (fun _ => ?_) (fun hn => absurd hn (by first | omega | exact fun h => h | exact fun h => h trivial))
    refine wp_aload_n (q := 53) dX12_best_52 0 rfl rfl ?_
    refine wp_getI (q := 56) dX12_best_53 zf_RX12_508 rfl zsh_177 rfl ?_
    rw [x2]
    exact wp_ireturn dX12_best_56 rfl ⟨rfl, ⟨rfl, rfl, hM, hY⟩⟩ rfl rfl
set_option maxHeartbeats 4000000 in
set_option maxRecDepth 100000 in
theorem sp_mbestN {d t n : Nat} {x y z : Int32} {M : zMI} {L : zML} {g : zGd} {v : Nat → Nat} {hs : List (Nat → Nat)} {m : zMs} (h : zMo M L n g v hs m) (hN : ¬ (2 ≤ n ∧ zin x n ∧ zin y 2 ∧ zin z 2)) : Sy yX12_best YX12_best (d + 8) [.ref 177, .int x, .int y, .int z] M L (zRf t) (zMn M L t n g v hs m (.int (-1))) := by
  refine Sp.of (by decide +kernel) rfl (fun h => by first | exact h | cases h) (Nat.le_of_ble_eq_true rfl) ?_
  intro w G
  have hn := h.1.1
  have h8 := h.1.2.1.1.1
  refine wp_aload_n (q := 1) dX12_best_0 0 rfl rfl ?_
  refine wp_cvx (q := 4) (sp_mcm (d := 0) hn h8) zm_X12_crackerMany zl_RX12_463 dX12_best_1 rfl (by omega) (Nat.le_of_ble_eq_true rfl) zsh_177 rfl rfl ?_
  by_cases c2 : 2 ≤ n
  · rw [if_neg (by omega)]
    refine wp_if_eqN (tgt := 33) (q := 7) dX12_best_4 (by decide) rfl (by omega) (fun hn => absurd hn (by first | omega | exact fun h => h | exact fun h => h trivial)) (fun _ => ?_)
    refine wp_aload_n (q := 8) dX12_best_7 0 rfl rfl ?_
    refine wp_iload_n (q := 9) dX12_best_8 1 rfl rfl ?_
    refine wp_cvx (q := 12) (sp_misSeat (d := 0) hn h8) zm_X12_isSeat zl_RX12_477 dX12_best_9 rfl (by omega) (Nat.le_of_ble_eq_true rfl) zsh_177 rfl rfl ?_
    by_cases cx : zin x n
    · rw [if_pos cx]
      refine wp_if_eqN (tgt := 33) (q := 15) dX12_best_12 (by decide) rfl (by omega) (fun hn => absurd hn (by first | omega | exact fun h => h | exact fun h => h trivial)) (fun _ => ?_)
      refine wp_aload_n (q := 16) dX12_best_15 0 rfl rfl ?_
      refine wp_iload_n (q := 17) dX12_best_16 2 rfl rfl ?_
      refine wp_cvx (q := 20) (sp_misHand (d := 0)) zm_X12_isHand zl_RX12_521 dX12_best_17 rfl (by omega) (Nat.le_of_ble_eq_true rfl) zsh_177 rfl rfl ?_
      by_cases cy : zin y 2
      · rw [if_pos cy]
        refine wp_if_eqN (tgt := 33) (q := 23) dX12_best_20 (by decide) rfl (by omega) (fun hn => absurd hn (by first | omega | exact fun h => h | exact fun h => h trivial)) (fun _ => ?_)
        refine wp_iload_n (q := 24) dX12_best_23 3 rfl rfl ?_
        refine wp_i2l (q := 25) dX12_best_24 rfl ?_
        refine wp_lconst (q := 26) dX12_best_25 zq_lconst_0 rfl ?_
        refine wp_lconst (q := 27) dX12_best_26 zq_lconst_1 rfl ?_
        refine wp_csx (q := 30) (sp_isIn (d := 0)) zm_X12_isIn zl_RX12_276 dX12_best_27 rfl (by omega) (Nat.le_of_ble_eq_true rfl) rfl ?_
        rw [if_neg (fun e => hN ⟨c2, cx, cy, (zis1 (m := 1) (by decide)).mp e⟩)]
        refine wp_if_neN (tgt := 35) (q := 33) dX12_best_30 (by decide) rfl (by omega) (fun hn => absurd hn (by first | omega | exact fun h => h | exact fun h => h trivial)) (fun _ => ?_)
        refine wp_iconst (q := 34) dX12_best_33 zq_iconst_m1 rfl ?_
        exact wp_ireturn dX12_best_34 rfl ⟨rfl, ⟨rfl, rfl, h, zYf_r⟩⟩ rfl rfl
      · rw [if_neg cy]
        refine wp_if_eqN (tgt := 33) (q := 23) dX12_best_20 (by decide) rfl (by omega) (fun _ => ?_) (fun hn => absurd hn (by first | omega | exact fun h => h | exact fun h => h trivial))
        refine wp_iconst (q := 34) dX12_best_33 zq_iconst_m1 rfl ?_
        exact wp_ireturn dX12_best_34 rfl ⟨rfl, ⟨rfl, rfl, h, zYf_r⟩⟩ rfl rfl
    · rw [if_neg cx]
      refine wp_if_eqN (tgt := 33) (q := 15) dX12_best_12 (by decide) rfl (by omega) (fun _ => ?_) (fun hn => absurd hn (by first | omega | exact fun h => h | exact fun h => h trivial))
      refine wp_iconst (q := 34) dX12_best_33 zq_iconst_m1 rfl ?_
      exact wp_ireturn dX12_best_34 rfl ⟨rfl, ⟨rfl, rfl, h, zYf_r⟩⟩ rfl rfl
  · rw [if_pos (by omega)]
    refine wp_if_eqN (tgt := 33) (q := 7) dX12_best_4 (by decide) rfl (by omega) (fun _ => ?_) (fun hn => absurd hn (by first | omega | exact fun h => h | exact fun h => h trivial))
    refine wp_iconst (q := 34) dX12_best_33 zq_iconst_m1 rfl ?_
    exact wp_ireturn dX12_best_34 rfl ⟨rfl, ⟨rfl, rfl, h, zYf_r⟩⟩ rfl rfl

