set_option maxHeartbeats 4000000 in
set_option maxRecDepth 100000 in
theorem sp_mpass {d t n : Nat} {M : zMI} {L : zML} {g : zGd} {v : Nat → Nat} {hs : List (Nat → Nat)} {m : zMs} (h : zMo M L n g v hs m) (h2 : 2 ≤ n) : Sy yX12_pass YX12_pass (d + 3) [.ref 177] M L (zRf t) (zMn M L t n g (zpass n v) ((v :: hs).take 20) m (.int (nI (nC (zg v) n)))) := by
  refine Sp.of (by decide +kernel) rfl (fun h => by first | exact h | cases h) (Nat.le_of_ble_eq_true rfl) ?_
  intro w G
  have h8 := h.1.2.1.1.1
  refine wp_aload_n (q := 1) dX12_pass_0 0 rfl rfl ?_
  refine wp_cvx (q := 4) (sp_mcm (d := 0) h.1.1 h8) zm_X12_crackerMany zl_RX12_463 dX12_pass_1 rfl (by omega) (Nat.le_of_ble_eq_true rfl) zsh_177 rfl rfl ?_
  rw [if_neg (by omega)]
  refine wp_if_neN (tgt := 19) (q := 7) dX12_pass_4 (by decide) rfl (by omega) (fun _ => ?_) (fun hn => absurd hn (by first | omega | exact fun h => h | exact fun h => h trivial))
  refine wp_aload_n (q := 20) dX12_pass_19 0 rfl rfl ?_
  refine wp_cvy (q := 23) (sp_mkeeps (d := 0) h.1.2.1 h.2.2.1) zm_X12_keeps zl_RX12_586 dX12_pass_20 rfl (by omega) (Nat.le_of_ble_eq_true rfl) zsh_177 rfl rfl ?_
  rintro _ M2 L2 _ ⟨rfl, rfl, rfl, k2, e2, f2⟩
  refine wp_aload_n (q := 24) dX12_pass_23 0 rfl rfl ?_
  refine wp_cvy (q := 27) (sp_mpasses (d := 0) (show M2 204 2 = nI n by rw [e2 204 (by decide) (by decide)]; exact h.1.1) (zNw_fr h.1.2.1 (e2 215 (by decide) (by decide)))) zm_X12_passes zl_RX12_564 dX12_pass_24 rfl (by omega) (Nat.le_of_ble_eq_true rfl) zsh_177 rfl rfl ?_
  rintro _ M3 L3 _ ⟨rfl, rfl, rfl, n3, e3⟩
  have ee : ∀ x, x ≠ 177 → x ≠ 179 → x ≠ 215 → x ≠ 225 → x ≠ 226 → M3 x = M x := fun x x1 _ x3 x4 x5 => by rw [e3 x x3 x4, e2 x x1 x5]
  exact wp_ireturn dX12_pass_27 rfl ⟨rfl, ⟨rfl, rfl, zMo_k h ee n3 (zMk_fr k2 (by rw [e3 177 (by decide) (by decide)]) (by rw [e3 177 (by decide) (by decide)]) (e3 226 (by decide) (by decide))) (zMm_fr h.2.2.2.1 (fun k hk => by rw [e3 177 (by decide) (by decide), f2 k (by omega) (by omega)]) (ee 178 (by decide) (by decide) (by decide) (by decide) (by decide)) (by rw [e3 179 (by decide) (by decide), e2 179 (by decide) (by decide)]) (ee 248 (by decide) (by decide) (by decide) (by decide) (by decide)) rfl), zYf_k ee⟩⟩ rfl rfl
set_option maxHeartbeats 4000000 in
set_option maxRecDepth 100000 in
theorem sp_mpassN {d t n : Nat} {M : zMI} {L : zML} {g : zGd} {v : Nat → Nat} {hs : List (Nat → Nat)} {m : zMs} (h : zMo M L n g v hs m) (h2 : n < 2) : Sy yX12_pass YX12_pass (d + 3) [.ref 177] M L (zRf t) (zMn M L t n g v hs (zMup m 3) (.int (-1))) := by
  refine Sp.of (by decide +kernel) rfl (fun h => by first | exact h | cases h) (Nat.le_of_ble_eq_true rfl) ?_
  intro w G
  refine wp_aload_n (q := 1) dX12_pass_0 0 rfl rfl ?_
  refine wp_cvx (q := 4) (sp_mcm (d := 0) h.1.1 h.1.2.1.1.1) zm_X12_crackerMany zl_RX12_463 dX12_pass_1 rfl (by omega) (Nat.le_of_ble_eq_true rfl) zsh_177 rfl rfl ?_
  rw [if_pos h2]
  refine wp_if_neN (tgt := 19) (q := 7) dX12_pass_4 (by decide) rfl (by omega) (fun hn => absurd hn (by first | omega | exact fun h => h | exact fun h => h trivial)) (fun _ => ?_)
  refine wp_aload_n (q := 8) dX12_pass_7 0 rfl rfl ?_
  refine wp_getR (q := 11) dX12_pass_8 zf_RX12_17 rfl zsh_177 (zr_177_9 _) rfl ?_
  refine wp_iconst (q := 12) dX12_pass_11 zq_iconst_3 rfl ?_
  first | refine wp_dup2 (q := 13) dX12_pass_12 rfl rfl rfl ?_ | refine wp_dup2L (q := 13) dX12_pass_12 rfl rfl ?_
  refine wp_iald (q := 14) _ dX12_pass_13 zsh_179 rfl (by omega) (by decide) rfl ?_
  refine wp_iconst (q := 15) dX12_pass_14 zq_iconst_1 rfl ?_
  refine wp_iadd (q := 16) dX12_pass_15 rfl ?_
  refine wp_iast (q := 17) _ dX12_pass_16 zsh_179 rfl (by omega) (by decide) rfl ?_
  refine wp_iconst (q := 18) dX12_pass_17 zq_iconst_m1 rfl ?_
  exact wp_ireturn dX12_pass_18 rfl ⟨rfl, ⟨rfl, rfl, zMo_rf h (by decide), zYf_rf (by decide)⟩⟩ rfl rfl
set_option maxHeartbeats 4000000 in
set_option maxRecDepth 100000 in
theorem sp_mhold {d t n s hh gp lo : Nat} {M : zMI} {L : zML} {g : zGd} {v : Nat → Nat} {hs : List (Nat → Nat)} {m : zMs} (h : zMo M L n g v hs m) (hs0 : s < n) (hh0 : hh < 2) (hg0 : gp < 3) (hl0 : lo < 10) : Sy yX12_hold YX12_hold (d + 2) [.ref 177, .int (nI s), .int (nI hh), .int (nI gp), .int (nI lo)] M L (zRf t) (zMn M L t n g (zhold v s hh (10 * gp + lo)) ((v :: hs).take 20) m (.int (nI 1))) := by
  refine Sp.of (by decide +kernel) rfl (fun h => by first | exact h | cases h) (Nat.le_of_ble_eq_true rfl) ?_
  intro w G
  have h8 := h.1.2.1.1.1
  refine wp_aload_n (q := 1) dX12_hold_0 0 rfl rfl ?_
  refine wp_iload_n (q := 2) dX12_hold_1 1 rfl rfl ?_
  refine wp_cvx (q := 5) (sp_misSeat (d := 0) h.1.1 h8) zm_X12_isSeat zl_RX12_477 dX12_hold_2 rfl (by omega) (Nat.le_of_ble_eq_true rfl) zsh_177 rfl rfl ?_
  rw [if_pos (zin_i hs0 (by omega))]
  refine wp_if_eqN (tgt := 41) (q := 8) dX12_hold_5 (by decide) rfl (by omega) (fun hn => absurd hn (by first | omega | exact fun h => h | exact fun h => h trivial)) (fun _ => ?_)
  refine wp_aload_n (q := 9) dX12_hold_8 0 rfl rfl ?_
  refine wp_iload_n (q := 10) dX12_hold_9 2 rfl rfl ?_
  refine wp_cvx (q := 13) (sp_misHand (d := 0)) zm_X12_isHand zl_RX12_521 dX12_hold_10 rfl (by omega) (Nat.le_of_ble_eq_true rfl) zsh_177 rfl rfl ?_
  rw [if_pos (zin_i hh0 (by omega))]
  refine wp_if_eqN (tgt := 41) (q := 16) dX12_hold_13 (by decide) rfl (by omega) (fun hn => absurd hn (by first | omega | exact fun h => h | exact fun h => h trivial)) (fun _ => ?_)
  refine wp_iload_n (q := 17) dX12_hold_16 3 rfl rfl ?_
  refine wp_i2lN (q := 18) dX12_hold_17 (by omega) rfl ?_
  refine wp_lconst (q := 19) dX12_hold_18 zq_lconst_0 rfl ?_
  refine wp_ldc2_w (q := 22) dX12_hold_19 zk_RX12_483 rfl ?_
  rw [zlitL 2]
  refine wp_csx (q := 25) (sp_isIn (d := 0)) zm_X12_isIn zl_RX12_276 dX12_hold_22 rfl (by omega) (Nat.le_of_ble_eq_true rfl) rfl ?_
  rw [if_pos ⟨(zlN_le (by omega) (by omega)).mpr (Nat.zero_le _), (zlN_le (by omega) (by omega)).mpr (by omega)⟩]
  refine wp_if_eqN (tgt := 41) (q := 28) dX12_hold_25 (by decide) rfl (by omega) (fun hn => absurd hn (by first | omega | exact fun h => h | exact fun h => h trivial)) (fun _ => ?_)
  refine wp_iload (q := 30) dX12_hold_28 4 rfl rfl ?_
  refine wp_i2lN (q := 31) dX12_hold_30 (by omega) rfl ?_
  refine wp_lconst (q := 32) dX12_hold_31 zq_lconst_0 rfl ?_
  refine wp_ldc2_w (q := 35) dX12_hold_32 zk_RX12_592 rfl ?_
  rw [zlitL 9]
  refine wp_csx (q := 38) (sp_isIn (d := 0)) zm_X12_isIn zl_RX12_276 dX12_hold_35 rfl (by omega) (Nat.le_of_ble_eq_true rfl) rfl ?_
  rw [if_pos ⟨(zlN_le (by omega) (by omega)).mpr (Nat.zero_le _), (zlN_le (by omega) (by omega)).mpr (by omega)⟩]
  refine wp_if_neN (tgt := 53) (q := 41) dX12_hold_38 (by decide) rfl (by omega) (fun _ => ?_) (fun hn => absurd hn (by first | omega | exact fun h => h | exact fun h => h trivial))
  refine wp_aload_n (q := 54) dX12_hold_53 0 rfl rfl ?_
  refine wp_cvy (q := 57) (sp_mkeeps (d := 0) h.1.2.1 h.2.2.1) zm_X12_keeps zl_RX12_586 dX12_hold_54 rfl (by omega) (Nat.le_of_ble_eq_true rfl) zsh_177 rfl rfl ?_
  rintro _ M2 L2 _ ⟨rfl, rfl, rfl, k2, e2, f2⟩
  refine wp_aload_n (q := 58) dX12_hold_57 0 rfl rfl ?_
  refine wp_iload_n (q := 59) dX12_hold_58 1 rfl rfl ?_
  refine wp_iload_n (q := 60) dX12_hold_59 2 rfl rfl ?_
  refine wp_iload_n (q := 61) dX12_hold_60 3 rfl rfl ?_
  refine wp_iload (q := 63) dX12_hold_61 4 rfl rfl ?_
  refine wp_cvy (q := 66) (sp_mholdsNow (d := 0) (zNw_fr h.1.2.1 (e2 215 (by decide) (by decide))) hs0 hh0 hg0 hl0) zm_X12_holdsNow zl_RX12_511 dX12_hold_63 rfl (by omega) (Nat.le_of_ble_eq_true rfl) zsh_177 rfl rfl ?_
  rintro _ M3 L3 _ ⟨rfl, rfl, rfl, n3, e3⟩
  have ee : ∀ x, x ≠ 177 → x ≠ 179 → x ≠ 215 → x ≠ 225 → x ≠ 226 → M3 x = M x := fun x x1 _ x3 x4 x5 => by rw [e3 x x3, e2 x x1 x5]
  refine wp_iconst (q := 67) dX12_hold_66 zq_iconst_1 rfl ?_
  exact wp_zreturn dX12_hold_67 rfl (by first | with_reducible exact znar_0 | with_reducible exact znar_1 | assumption) ⟨rfl, ⟨rfl, rfl, zMo_k h ee n3 (zMk_fr k2 (by rw [e3 177 (by decide)]) (by rw [e3 177 (by decide)]) (e3 226 (by decide))) (zMm_fr h.2.2.2.1 (fun k hk => by rw [e3 177 (by decide), f2 k (by omega) (by omega)]) (ee 178 (by decide) (by decide) (by decide) (by decide) (by decide)) (by rw [e3 179 (by decide), e2 179 (by decide) (by decide)]) (ee 248 (by decide) (by decide) (by decide) (by decide) (by decide)) rfl), zYf_k ee⟩⟩ rfl rfl
set_option maxHeartbeats 4000000 in
set_option maxRecDepth 100000 in
theorem sp_mholdN {d t n : Nat} {x y z u : Int32} {M : zMI} {L : zML} {g : zGd} {v : Nat → Nat} {hs : List (Nat → Nat)} {m : zMs} (h : zMo M L n g v hs m) (hN : ¬ (zin x n ∧ zin y 2 ∧ zin z 3 ∧ zin u 10)) : Sy yX12_hold YX12_hold (d + 2) [.ref 177, .int x, .int y, .int z, .int u] M L (zRf t) (zMn M L t n g v hs (zMup m 2) (.int (nI 0))) := by
  refine Sp.of (by decide +kernel) rfl (fun h => by first | exact h | cases h) (Nat.le_of_ble_eq_true rfl) ?_
  intro w G
  have h8 := h.1.2.1.1.1
  have fin : WP w YX12_hold (d + 2, SS, 0, 0) G (some (zXp (zMn M L t n g v hs (zMup m 2) (.int (nI 0))))) 41 [(0, .ref 177), (1, .int x), (2, .int y), (3, .int z), (4, .int u)] [] SS M L (zRf t) := by
    refine wp_aload_n (q := 42) dX12_hold_41 0 rfl rfl ?_
    refine wp_getR (q := 45) dX12_hold_42 zf_RX12_17 rfl zsh_177 (zr_177_9 _) rfl ?_
    refine wp_iconst (q := 46) dX12_hold_45 zq_iconst_2 rfl ?_
    first | refine wp_dup2 (q := 47) dX12_hold_46 rfl rfl rfl ?_ | refine wp_dup2L (q := 47) dX12_hold_46 rfl rfl ?_
    refine wp_iald (q := 48) _ dX12_hold_47 zsh_179 rfl (by omega) (by decide) rfl ?_
    refine wp_iconst (q := 49) dX12_hold_48 zq_iconst_1 rfl ?_
    refine wp_iadd (q := 50) dX12_hold_49 rfl ?_
    refine wp_iast (q := 51) _ dX12_hold_50 zsh_179 rfl (by omega) (by decide) rfl ?_
    refine wp_iconst (q := 52) dX12_hold_51 zq_iconst_0 rfl ?_
    exact wp_zreturn dX12_hold_52 rfl (by first | with_reducible exact znar_0 | with_reducible exact znar_1 | assumption) ⟨rfl, ⟨rfl, rfl, zMo_rf h (by decide), zYf_rf (by decide)⟩⟩ rfl rfl
  refine wp_aload_n (q := 1) dX12_hold_0 0 rfl rfl ?_
  refine wp_iload_n (q := 2) dX12_hold_1 1 rfl rfl ?_
  refine wp_cvx (q := 5) (sp_misSeat (d := 0) h.1.1 h8) zm_X12_isSeat zl_RX12_477 dX12_hold_2 rfl (by omega) (Nat.le_of_ble_eq_true rfl) zsh_177 rfl rfl ?_
  by_cases cx : zin x n
  · rw [if_pos cx]
    refine wp_if_eqN (tgt := 41) (q := 8) dX12_hold_5 (by decide) rfl (by omega) (fun hn => absurd hn (by first | omega | exact fun h => h | exact fun h => h trivial)) (fun _ => ?_)
    refine wp_aload_n (q := 9) dX12_hold_8 0 rfl rfl ?_
    refine wp_iload_n (q := 10) dX12_hold_9 2 rfl rfl ?_
    refine wp_cvx (q := 13) (sp_misHand (d := 0)) zm_X12_isHand zl_RX12_521 dX12_hold_10 rfl (by omega) (Nat.le_of_ble_eq_true rfl) zsh_177 rfl rfl ?_
    by_cases cy : zin y 2
    · rw [if_pos cy]
      refine wp_if_eqN (tgt := 41) (q := 16) dX12_hold_13 (by decide) rfl (by omega) (fun hn => absurd hn (by first | omega | exact fun h => h | exact fun h => h trivial)) (fun _ => ?_)
      refine wp_iload_n (q := 17) dX12_hold_16 3 rfl rfl ?_
      refine wp_i2l (q := 18) dX12_hold_17 rfl ?_
      refine wp_lconst (q := 19) dX12_hold_18 zq_lconst_0 rfl ?_
      refine wp_ldc2_w (q := 22) dX12_hold_19 zk_RX12_483 rfl ?_
      rw [zlitL 2]
      refine wp_csx (q := 25) (sp_isIn (d := 0)) zm_X12_isIn zl_RX12_276 dX12_hold_22 rfl (by omega) (Nat.le_of_ble_eq_true rfl) rfl ?_
      by_cases cz : zin z 3
      · rw [if_pos ((zis1 (m := 2) (by decide)).mpr cz)]
        refine wp_if_eqN (tgt := 41) (q := 28) dX12_hold_25 (by decide) rfl (by omega) (fun hn => absurd hn (by first | omega | exact fun h => h | exact fun h => h trivial)) (fun _ => ?_)
        refine wp_iload (q := 30) dX12_hold_28 4 rfl rfl ?_
        refine wp_i2l (q := 31) dX12_hold_30 rfl ?_
        refine wp_lconst (q := 32) dX12_hold_31 zq_lconst_0 rfl ?_
        refine wp_ldc2_w (q := 35) dX12_hold_32 zk_RX12_592 rfl ?_
        rw [zlitL 9]
        refine wp_csx (q := 38) (sp_isIn (d := 0)) zm_X12_isIn zl_RX12_276 dX12_hold_35 rfl (by omega) (Nat.le_of_ble_eq_true rfl) rfl ?_
        rw [if_neg (fun e => hN ⟨cx, cy, cz, (zis1 (m := 9) (by decide)).mp e⟩)]
        refine wp_if_neN (tgt := 53) (q := 41) dX12_hold_38 (by decide) rfl (by omega) (fun hn => absurd hn (by first | omega | exact fun h => h | exact fun h => h trivial)) (fun _ => ?_)
        refine WP.sub (loc' := [(0, _), (1, _), (2, _), (3, _), (4, _)]) [0, 1, 2, 3, 4] rfl ?_
        exact fin
      · rw [if_neg (fun e => cz ((zis1 (m := 2) (by decide)).mp e))]
        refine wp_if_eqN (tgt := 41) (q := 28) dX12_hold_25 (by decide) rfl (by omega) (fun _ => ?_) (fun hn => absurd hn (by first | omega | exact fun h => h | exact fun h => h trivial))
        refine WP.sub (loc' := [(0, _), (1, _), (2, _), (3, _), (4, _)]) [0, 1, 2, 3, 4] rfl ?_
        exact fin
    · rw [if_neg cy]
      refine wp_if_eqN (tgt := 41) (q := 16) dX12_hold_13 (by decide) rfl (by omega) (fun _ => ?_) (fun hn => absurd hn (by first | omega | exact fun h => h | exact fun h => h trivial))
      refine WP.sub (loc' := [(0, _), (1, _), (2, _), (3, _), (4, _)]) [0, 1, 2, 3, 4] rfl ?_
      exact fin
  · rw [if_neg cx]
    refine wp_if_eqN (tgt := 41) (q := 8) dX12_hold_5 (by decide) rfl (by omega) (fun _ => ?_) (fun hn => absurd hn (by first | omega | exact fun h => h | exact fun h => h trivial))
    refine WP.sub (loc' := [(0, _), (1, _), (2, _), (3, _), (4, _)]) [0, 1, 2, 3, 4] rfl ?_
    exact fin
set_option maxHeartbeats 4000000 in
set_option maxRecDepth 100000 in
theorem sp_mrefuses {d t : Nat} {M : zMI} {L : zML} : Sx yX12_refuses YX12_refuses (d) [.ref 177] M L (zRf t) (some (.int (nI 0))) (zu M 179 3 (M 179 3 + nI 1)) L (zRf t) := by
  refine Sp.of (by decide +kernel) rfl (fun h => by first | exact h | cases h) (Nat.le_of_ble_eq_true rfl) ?_
  intro w G
  refine wp_aload_n (q := 1) dX12_refuses_0 0 rfl rfl ?_
  refine wp_getR (q := 4) dX12_refuses_1 zf_RX12_17 rfl zsh_177 (zr_177_9 _) rfl ?_
  refine wp_iconst (q := 5) dX12_refuses_4 zq_iconst_3 rfl ?_
  first | refine wp_dup2 (q := 6) dX12_refuses_5 rfl rfl rfl ?_ | refine wp_dup2L (q := 6) dX12_refuses_5 rfl rfl ?_
  refine wp_iald (q := 7) _ dX12_refuses_6 zsh_179 rfl (by omega) (by decide) rfl ?_
  refine wp_iconst (q := 8) dX12_refuses_7 zq_iconst_1 rfl ?_
  refine wp_iadd (q := 9) dX12_refuses_8 rfl ?_
  refine wp_iast (q := 10) _ dX12_refuses_9 zsh_179 rfl (by omega) (by decide) rfl ?_
  refine wp_iconst (q := 11) dX12_refuses_10 zq_iconst_0 rfl ?_
  exact wp_zreturn dX12_refuses_11 rfl (by first | with_reducible exact znar_0 | with_reducible exact znar_1 | assumption) ⟨rfl, rfl, rfl, rfl, rfl⟩ rfl rfl
set_option maxHeartbeats 4000000 in
set_option maxRecDepth 100000 in
theorem sp_mgive {d t n a b : Nat} {M : zMI} {L : zML} {g : zGd} {v : Nat → Nat} {hs : List (Nat → Nat)} {m : zMs} (h : zMo M L n g v hs m) (ha : a < n) (hb : b < n) (hab : a ≠ b) (ha0 : ht v a ≠ 0) (hb9 : ht v b < 99) : Sy yX12_give YX12_give (d + 2) [.ref 177, .int (nI a), .int (nI b)] M L (zRf t) (zMn M L t n g (vup (vup v (4 + 6 * a) (ht v a - 1)) (4 + 6 * b) (ht v b + 1)) ((v :: hs).take 20) m (.int (nI 1))) := by
  refine Sp.of (by decide +kernel) rfl (fun h => by first | exact h | cases h) (Nat.le_of_ble_eq_true rfl) ?_
  intro w G
  have hnw := h.1.2.1
  have h8 := hnw.1.1
  have h99 := hnw.1.2.2.2.1
  have ha9 := h99 a ha
  refine wp_aload_n (q := 1) dX12_give_0 0 rfl rfl ?_
  refine wp_iload_n (q := 2) dX12_give_1 1 rfl rfl ?_
  refine wp_cvx (q := 5) (sp_misSeat (d := 0) h.1.1 h8) zm_X12_isSeat zl_RX12_477 dX12_give_2 rfl (by omega) (Nat.le_of_ble_eq_true rfl) zsh_177 rfl rfl ?_
  rw [if_pos (zin_i ha (by omega))]
  refine wp_if_eqN (tgt := 39) (q := 8) dX12_give_5 (by decide) rfl (by omega) (fun hn => absurd hn (by first | omega | exact fun h => h | exact fun h => h trivial)) (fun _ => ?_)
  refine wp_aload_n (q := 9) dX12_give_8 0 rfl rfl ?_
  refine wp_iload_n (q := 10) dX12_give_9 2 rfl rfl ?_
  refine wp_cvx (q := 13) (sp_misSeat (d := 0) h.1.1 h8) zm_X12_isSeat zl_RX12_477 dX12_give_10 rfl (by omega) (Nat.le_of_ble_eq_true rfl) zsh_177 rfl rfl ?_
  rw [if_pos (zin_i hb (by omega))]
  refine wp_if_eqN (tgt := 39) (q := 16) dX12_give_13 (by decide) rfl (by omega) (fun hn => absurd hn (by first | omega | exact fun h => h | exact fun h => h trivial)) (fun _ => ?_)
  refine wp_iload_n (q := 17) dX12_give_16 1 rfl rfl ?_
  refine wp_iload_n (q := 18) dX12_give_17 2 rfl rfl ?_
  refine wp_icmp_eqN (tgt := 39) (q := 21) dX12_give_18 (by decide) rfl (by omega) (by omega) (fun hn => absurd hn (by first | omega | exact fun h => h | exact fun h => h trivial)) (fun _ => ?_)
  refine wp_aload_n (q := 22) dX12_give_21 0 rfl rfl ?_
  refine wp_iload_n (q := 23) dX12_give_22 1 rfl rfl ?_
  refine wp_cvx (q := 26) (sp_mhats (d := 0) hnw ha) zm_X12_hatsOf zl_RX12_460 dX12_give_23 rfl (by omega) (Nat.le_of_ble_eq_true rfl) zsh_177 rfl rfl ?_
  refine wp_if_eqN (tgt := 39) (q := 29) dX12_give_26 (by decide) rfl (by omega) (fun hn => absurd hn (by first | omega | exact fun h => h | exact fun h => h trivial)) (fun _ => ?_)
  refine wp_aload_n (q := 30) dX12_give_29 0 rfl rfl ?_
  refine wp_iload_n (q := 31) dX12_give_30 2 rfl rfl ?_
  refine wp_cvx (q := 34) (sp_mhats (d := 0) hnw hb) zm_X12_hatsOf zl_RX12_460 dX12_give_31 rfl (by omega) (Nat.le_of_ble_eq_true rfl) zsh_177 rfl rfl ?_
  refine wp_bipush (q := 36) dX12_give_34 zq_bipush_99 rfl ?_
  refine wp_icmp_neN (tgt := 44) (q := 39) dX12_give_36 (by decide) rfl (by omega) (by omega) (fun _ => ?_) (fun hn => absurd hn (by first | omega | exact fun h => h | exact fun h => h trivial))
  refine wp_aload_n (q := 45) dX12_give_44 0 rfl rfl ?_
  refine wp_cvy (q := 48) (sp_mkeeps (d := 0) hnw h.2.2.1) zm_X12_keeps zl_RX12_586 dX12_give_45 rfl (by omega) (Nat.le_of_ble_eq_true rfl) zsh_177 rfl rfl ?_
  rintro _ M2 L2 _ ⟨rfl, rfl, rfl, k2, e2, f2⟩
  have n2 := zNw_fr hnw (e2 215 (by decide) (by decide))
  refine wp_aload_n (q := 49) dX12_give_48 0 rfl rfl ?_
  refine wp_iload_n (q := 50) dX12_give_49 1 rfl rfl ?_
  refine wp_aload_n (q := 51) dX12_give_50 0 rfl rfl ?_
  refine wp_iload_n (q := 52) dX12_give_51 1 rfl rfl ?_
  refine wp_cvx (q := 55) (sp_mhats (d := 0) n2 ha) zm_X12_hatsOf zl_RX12_460 dX12_give_52 rfl (by omega) (Nat.le_of_ble_eq_true rfl) zsh_177 rfl rfl ?_
  refine wp_iconst (q := 56) dX12_give_55 zq_iconst_1 rfl ?_
  refine wp_isubN (q := 57) dX12_give_56 (by omega) rfl ?_
  refine wp_cvy (q := 60) (sp_mhasHats (d := 0) n2 ha (by omega : ht v a - 1 < 1000)) zm_X12_hasHats zl_RX12_561 dX12_give_57 rfl (by omega) (Nat.le_of_ble_eq_true rfl) zsh_177 rfl rfl ?_
  rintro _ M3 L3 _ ⟨rfl, rfl, rfl, n3, e3⟩
  rw [show min 99 (ht v a - 1) = ht v a - 1 by omega] at n3
  refine wp_aload_n (q := 61) dX12_give_60 0 rfl rfl ?_
  refine wp_iload_n (q := 62) dX12_give_61 2 rfl rfl ?_
  refine wp_aload_n (q := 63) dX12_give_62 0 rfl rfl ?_
  refine wp_iload_n (q := 64) dX12_give_63 2 rfl rfl ?_
  refine wp_cvx (q := 67) (sp_mhats (d := 0) n3 hb) zm_X12_hatsOf zl_RX12_460 dX12_give_64 rfl (by omega) (Nat.le_of_ble_eq_true rfl) zsh_177 rfl rfl ?_
  rw [show ht (vup v (4 + 6 * a) (ht v a - 1)) b = ht v b from vup_ne (by omega)]
  refine wp_iconst (q := 68) dX12_give_67 zq_iconst_1 rfl ?_
  refine wp_iaddN (q := 69) dX12_give_68 rfl ?_
  refine wp_cvy (q := 72) (sp_mhasHats (d := 0) n3 hb (by omega : ht v b + 1 < 1000)) zm_X12_hasHats zl_RX12_561 dX12_give_69 rfl (by omega) (Nat.le_of_ble_eq_true rfl) zsh_177 rfl rfl ?_
  rintro _ M4 L4 _ ⟨rfl, rfl, rfl, n4, e4⟩
  rw [show min 99 (ht v b + 1) = ht v b + 1 by omega] at n4
  have ee : ∀ x, x ≠ 177 → x ≠ 179 → x ≠ 215 → x ≠ 225 → x ≠ 226 → M4 x = M x := fun x x1 _ x3 x4 x5 => by rw [e4 x x3, e3 x x3, e2 x x1 x5]
  refine wp_iconst (q := 73) dX12_give_72 zq_iconst_1 rfl ?_
  exact wp_zreturn dX12_give_73 rfl (by first | with_reducible exact znar_0 | with_reducible exact znar_1 | assumption) ⟨rfl, ⟨rfl, rfl, zMo_k h ee n4 (zMk_fr k2 (by rw [e4 177 (by decide), e3 177 (by decide)]) (by rw [e4 177 (by decide), e3 177 (by decide)]) (by rw [e4 226 (by decide), e3 226 (by decide)])) (zMm_fr h.2.2.2.1 (fun k hk => by rw [e4 177 (by decide), e3 177 (by decide), f2 k (by omega) (by omega)]) (ee 178 (by decide) (by decide) (by decide) (by decide) (by decide)) (by rw [e4 179 (by decide), e3 179 (by decide), e2 179 (by decide) (by decide)]) (ee 248 (by decide) (by decide) (by decide) (by decide) (by decide)) rfl), zYf_k ee⟩⟩ rfl rfl
set_option maxHeartbeats 4000000 in
set_option maxRecDepth 100000 in
theorem sp_mgiveN {d t n : Nat} {x y : Int32} {M : zMI} {L : zML} {g : zGd} {v : Nat → Nat} {hs : List (Nat → Nat)} {m : zMs} (h : zMo M L n g v hs m) (hN : ¬ (zin x n ∧ zin y n ∧ x ≠ y ∧ ht v x.toInt.toNat ≠ 0 ∧ ht v y.toInt.toNat < 99)) : Sy yX12_give YX12_give (d + 2) [.ref 177, .int x, .int y] M L (zRf t) (zMn M L t n g v hs (zMup m 3) (.int (nI 0))) := by
  refine Sp.of (by decide +kernel) rfl (fun h => by first | exact h | cases h) (Nat.le_of_ble_eq_true rfl) ?_
  intro w G
  have hnw := h.1.2.1
  have h8 := hnw.1.1
  have h99 := hnw.1.2.2.2.1
  have fin : WP w YX12_give (d + 2, SS, 0, 0) G (some (zXp (zMn M L t n g v hs (zMup m 3) (.int (nI 0))))) 39 [(0, .ref 177), (1, .int x), (2, .int y)] [] SS M L (zRf t) := by
    refine wp_aload_n (q := 40) dX12_give_39 0 rfl rfl ?_
    refine wp_cvx (q := 43) (sp_mrefuses (d := 0)) zm_X12_refuses zl_RX12_594 dX12_give_40 rfl (by omega) (Nat.le_of_ble_eq_true rfl) zsh_177 rfl rfl ?_
    exact wp_zreturn dX12_give_43 rfl (by first | with_reducible exact znar_0 | with_reducible exact znar_1 | assumption) ⟨rfl, ⟨rfl, rfl, zMo_rf h (by decide), zYf_rf (by decide)⟩⟩ rfl rfl
  refine wp_aload_n (q := 1) dX12_give_0 0 rfl rfl ?_
  refine wp_iload_n (q := 2) dX12_give_1 1 rfl rfl ?_
  refine wp_cvx (q := 5) (sp_misSeat (d := 0) h.1.1 h8) zm_X12_isSeat zl_RX12_477 dX12_give_2 rfl (by omega) (Nat.le_of_ble_eq_true rfl) zsh_177 rfl rfl ?_
  by_cases cx : zin x n
  · rw [if_pos cx]
    refine wp_if_eqN (tgt := 39) (q := 8) dX12_give_5 (by decide) rfl (by omega) (fun hn => absurd hn (by first | omega | exact fun h => h | exact fun h => h trivial)) (fun _ => ?_)
    refine wp_aload_n (q := 9) dX12_give_8 0 rfl rfl ?_
    refine wp_iload_n (q := 10) dX12_give_9 2 rfl rfl ?_
    refine wp_cvx (q := 13) (sp_misSeat (d := 0) h.1.1 h8) zm_X12_isSeat zl_RX12_477 dX12_give_10 rfl (by omega) (Nat.le_of_ble_eq_true rfl) zsh_177 rfl rfl ?_
    by_cases cy : zin y n
    · rw [if_pos cy]
      refine wp_if_eqN (tgt := 39) (q := 16) dX12_give_13 (by decide) rfl (by omega) (fun hn => absurd hn (by first | omega | exact fun h => h | exact fun h => h trivial)) (fun _ => ?_)
      refine wp_iload_n (q := 17) dX12_give_16 1 rfl rfl ?_
      refine wp_iload_n (q := 18) dX12_give_17 2 rfl rfl ?_
      refine wp_icmp_eq (tgt := 39) (q := 21) dX12_give_18 (by decide) rfl (fun cxy => ?_) (fun cxy => ?_)
      · skip
        refine WP.sub (loc' := [(0, _), (1, _), (2, _)]) [0, 1, 2] rfl ?_
        exact fin
      · skip
        obtain ⟨a, ha, hxa⟩ := zin_n (by omega) cx
        obtain ⟨b, hb, hyb⟩ := zin_n (by omega) cy
        have za := (zVn_x (s := a) (by omega)).2
        have zb := (zVn_x (s := b) (by omega)).2
        have hb9 := h99 b hb
        have ha9 := h99 a ha
        refine wp_aload_n (q := 22) dX12_give_21 0 rfl rfl ?_
        refine wp_iload_n (q := 23) dX12_give_22 1 rfl rfl ?_
        rw [hxa]
        refine wp_cvx (q := 26) (sp_mhats (d := 0) hnw ha) zm_X12_hatsOf zl_RX12_460 dX12_give_23 rfl (by omega) (Nat.le_of_ble_eq_true rfl) zsh_177 rfl rfl ?_
        refine wp_if_eqN (tgt := 39) (q := 29) dX12_give_26 (by decide) rfl (by omega) (fun c0 => ?_) (fun c0 => ?_)
        · skip
          rw [← hxa]
          refine WP.sub (loc' := [(0, _), (1, _), (2, _)]) [0, 1, 2] rfl ?_
          exact fin
        · skip
          rw [← hxa]
          refine wp_aload_n (q := 30) dX12_give_29 0 rfl rfl ?_
          refine wp_iload_n (q := 31) dX12_give_30 2 rfl rfl ?_
          rw [hyb]
          refine wp_cvx (q := 34) (sp_mhats (d := 0) hnw hb) zm_X12_hatsOf zl_RX12_460 dX12_give_31 rfl (by omega) (Nat.le_of_ble_eq_true rfl) zsh_177 rfl rfl ?_
          refine wp_bipush (q := 36) dX12_give_34 zq_bipush_99 rfl ?_
          refine wp_icmp_neN (tgt := 44) (q := 39) dX12_give_36 (by decide) rfl (by omega) (by omega) (fun hn => absurd hn (by exact fun c => hN ⟨cx, cy, cxy, by rw [hxa, za]; exact c0, by rw [hyb, zb]; omega⟩)) (fun _ => ?_)
          rw [← hyb]
          refine WP.sub (loc' := [(0, _), (1, _), (2, _)]) [0, 1, 2] rfl ?_
          exact fin
    · rw [if_neg cy]
      refine wp_if_eqN (tgt := 39) (q := 16) dX12_give_13 (by decide) rfl (by omega) (fun _ => ?_) (fun hn => absurd hn (by first | omega | exact fun h => h | exact fun h => h trivial))
      refine WP.sub (loc' := [(0, _), (1, _), (2, _)]) [0, 1, 2] rfl ?_
      exact fin
  · rw [if_neg cx]
    refine wp_if_eqN (tgt := 39) (q := 8) dX12_give_5 (by decide) rfl (by omega) (fun _ => ?_) (fun hn => absurd hn (by first | omega | exact fun h => h | exact fun h => h trivial))
    refine WP.sub (loc' := [(0, _), (1, _), (2, _)]) [0, 1, 2] rfl ?_
    exact fin

