set_option maxHeartbeats 4000000 in
set_option maxRecDepth 100000 in
theorem sp_mqClip {d : Nat} {z : Int} {M : zMI} {L : zML} {R : zMR} (hz : zbL z) : Sx yX12_qClip YX12_qClip (d) [.long (lI z)] M L R (some (.long (lI (zclip z)))) M L R := by
  refine Sp.of (by decide +kernel) rfl (fun h => by first | exact h | cases h) (Nat.le_of_ble_eq_true rfl) ?_
  intro w G
  have b6 : zbL 1000000 := ⟨by decide, by decide⟩
  have m6 : zbL (-1000000) := ⟨by decide, by decide⟩
  refine wp_lload_n (q := 1) dX12_qClip_0 0 rfl rfl ?_
  refine wp_ldc2_w (q := 4) dX12_qClip_1 zk_RX12_389 rfl ?_
  rw [show (1000000 : Int64) = lI 1000000 from rfl]
  refine wp_lcmp_le (tgt := 14) (q := 8) dX12_qClip_4 rfl dX12_qClip_5 (by decide) rfl (fun c0 => ?_) (fun c0 => ?_)
  · skip
    have c0' := (lI_le hz b6).mp c0
    refine wp_lload_n (q := 15) dX12_qClip_14 0 rfl rfl ?_
    refine wp_ldc2_w (q := 18) dX12_qClip_15 zk_RX12_391 rfl ?_
    rw [show (-1000000 : Int64) = lI (-1000000) from rfl]
    refine wp_lcmp_ge (tgt := 28) (q := 22) dX12_qClip_18 rfl dX12_qClip_19 (by decide) rfl (fun c1 => ?_) (fun c1 => ?_)
    · skip
      have c1' := (lI_le m6 hz).mp c1
      rw [show zclip z = z from by unfold zclip; rw [if_neg (by omega), if_neg (by omega)]]
      refine wp_lload_n (q := 29) dX12_qClip_28 0 rfl rfl ?_
      exact wp_lreturn dX12_qClip_29 rfl ⟨rfl, rfl, rfl, rfl, rfl⟩ rfl rfl
    · skip
      have c1' : z < -1000000 := Int.not_le.mp (fun e => c1 ((lI_le m6 hz).mpr e))
      rw [show zclip z = -1000000 from by unfold zclip; rw [if_neg (by omega), if_pos (by omega)]]
      refine wp_ldc2_w (q := 25) dX12_qClip_22 zk_RX12_391 rfl ?_
      refine wp_goto (tgt := 29) dX12_qClip_25 (by decide) ?_
      exact wp_lreturn dX12_qClip_29 rfl ⟨rfl, rfl, rfl, rfl, rfl⟩ rfl rfl
  · skip
    have c0' : 1000000 < z := Int.not_le.mp (fun e => c0 ((lI_le hz b6).mpr e))
    rw [show zclip z = 1000000 from by unfold zclip; rw [if_pos (by omega)]]
    refine wp_ldc2_w (q := 11) dX12_qClip_8 zk_RX12_389 rfl ?_
    refine wp_goto (tgt := 29) dX12_qClip_11 (by decide) ?_
    exact wp_lreturn dX12_qClip_29 rfl ⟨rfl, rfl, rfl, rfl, rfl⟩ rfl rfl
set_option maxHeartbeats 4000000 in
set_option maxRecDepth 100000 in
theorem sp_mqFloor {d : Nat} {a b : Int} {M : zMI} {L : zML} {R : zMR} (ha : zb6 a) (hb : zb6 b) : Sx yX12_qFloor YX12_qFloor (d) [.long (lI a), .long (lI b)] M L R (some (.long (lI (zfl0 a b)))) M L R := by
  refine Sp.of (by decide +kernel) rfl (fun h => by first | exact h | cases h) (Nat.le_of_ble_eq_true rfl) ?_
  intro w G
  have z0 : zbL 0 := ⟨by decide, by decide⟩
  have e0 : lN 0 = lI 0 := rfl
  refine wp_lload_n (q := 1) dX12_qFloor_0 1 rfl rfl ?_
  refine wp_lconst (q := 2) dX12_qFloor_1 zq_lconst_0 rfl ?_
  rw [e0]
  refine wp_lcmp_ne (tgt := 8) (q := 6) dX12_qFloor_2 rfl dX12_qFloor_3 (by decide) rfl (fun c0 => ?_) (fun c0 => ?_)
  · skip
    have hb0 : b ≠ 0 := fun e => c0 (by rw [e])
    have h0 : ¬ lI b = 0 := c0
    rw [show zfl0 a b = Int.fdiv a b from if_neg hb0, zfdiv hb0]
    have hm : a.tmod b = 0 ↔ a.tdiv b * b = a := by
      have := Int.tdiv_mul_add_tmod a b
      omega
    have hmb : zbL (a.tmod b) := by
      obtain ⟨a1, a2⟩ := ha
      have hab : (a.tmod b).natAbs ≤ a.natAbs := by
        rw [Int.natAbs_tmod]
        exact Nat.mod_le _ _
      exact ⟨by omega, by omega⟩
    refine wp_lload_n (q := 9) dX12_qFloor_8 0 rfl rfl ?_
    refine wp_lload_n (q := 10) dX12_qFloor_9 1 rfl rfl ?_
    refine wp_ldiv (q := 11) dX12_qFloor_10 (by assumption) rfl ?_
    rw [lI_div ha hb]
    refine wp_lstore (q := 13) (loc' := [(4, _), (0, _), (2, _)]) dX12_qFloor_11 (by decide) rfl rfl ?_
    refine wp_lload_n (q := 14) dX12_qFloor_13 1 rfl rfl ?_
    refine wp_lload_n (q := 15) dX12_qFloor_14 2 rfl rfl ?_
    refine wp_lrem (q := 16) dX12_qFloor_15 (by assumption) rfl ?_
    rw [lI_div ha hb, lI_mul, lI_sub, show a - a.tdiv b * b = a.tmod b from by have := Int.tdiv_mul_add_tmod a b; omega]
    refine wp_lconst (q := 17) dX12_qFloor_16 zq_lconst_0 rfl ?_
    rw [e0]
    refine wp_lcmp_eq (tgt := 53) (q := 21) dX12_qFloor_17 rfl dX12_qFloor_18 (by decide) rfl (fun c1 => ?_) (fun c1 => ?_)
    · skip
      have hc := hm.mp ((lI_eq hmb z0).mp c1)
      rw [if_neg (fun e => e.1 hc)]
      refine wp_lload (q := 55) dX12_qFloor_53 0 rfl rfl ?_
      exact wp_lreturn dX12_qFloor_55 rfl ⟨rfl, rfl, rfl, rfl, rfl⟩ rfl rfl
    · skip
      have hc : a.tdiv b * b ≠ a := fun e => c1 (by rw [hm.mpr e])
      refine wp_lload_n (q := 22) dX12_qFloor_21 1 rfl rfl ?_
      refine wp_lconst (q := 23) dX12_qFloor_22 zq_lconst_0 rfl ?_
      rw [e0]
      refine wp_lcmp_ge (tgt := 31) (q := 27) dX12_qFloor_23 rfl dX12_qFloor_24 (by decide) rfl (fun c2 => ?_) (fun c2 => ?_)
      · skip
        have hc2 : 0 ≤ a := (lI_le z0 (zb6_L ha)).mp c2
        refine wp_iconst (q := 32) dX12_qFloor_31 zq_iconst_0 rfl ?_
        refine wp_lload_n (q := 33) dX12_qFloor_32 2 rfl rfl ?_
        refine wp_lconst (q := 34) dX12_qFloor_33 zq_lconst_0 rfl ?_
        rw [e0]
        refine wp_lcmp_ge (tgt := 42) (q := 38) dX12_qFloor_34 rfl dX12_qFloor_35 (by decide) rfl (fun c3 => ?_) (fun c3 => ?_)
        · skip
          have hc3 : 0 ≤ b := (lI_le z0 (zb6_L hb)).mp c3
          rw [if_neg (fun e => by omega)]
          refine wp_iconst (q := 43) dX12_qFloor_42 zq_iconst_0 rfl ?_
          refine wp_icmp_eqN (tgt := 53) (q := 46) dX12_qFloor_43 (by decide) rfl (by omega) (by omega) (fun _ => ?_) (fun hn => absurd hn (by first | omega | exact fun h => h | exact fun h => h trivial))
          refine wp_lload (q := 55) dX12_qFloor_53 0 rfl rfl ?_
          exact wp_lreturn dX12_qFloor_55 rfl ⟨rfl, rfl, rfl, rfl, rfl⟩ rfl rfl
        · skip
          have hc3 : b < 0 := Int.not_le.mp (fun e => c3 ((lI_le z0 (zb6_L hb)).mpr e))
          rw [if_pos ⟨hc, by omega⟩]
          refine wp_iconst (q := 39) dX12_qFloor_38 zq_iconst_1 rfl ?_
          refine wp_goto (tgt := 43) dX12_qFloor_39 (by decide) ?_
          refine wp_icmp_eqN (tgt := 53) (q := 46) dX12_qFloor_43 (by decide) rfl (by omega) (by omega) (fun hn => absurd hn (by first | omega | exact fun h => h | exact fun h => h trivial)) (fun _ => ?_)
          refine wp_lload (q := 48) dX12_qFloor_46 0 rfl rfl ?_
          refine wp_lconst (q := 49) dX12_qFloor_48 zq_lconst_1 rfl ?_
          rw [show lN 1 = lI 1 from rfl]
          refine wp_lsub (q := 50) dX12_qFloor_49 rfl ?_
          rw [lI_sub]
          refine wp_goto (tgt := 55) dX12_qFloor_50 (by decide) ?_
          exact wp_lreturn dX12_qFloor_55 rfl ⟨rfl, rfl, rfl, rfl, rfl⟩ rfl rfl
      · skip
        have hc2 : a < 0 := Int.not_le.mp (fun e => c2 ((lI_le z0 (zb6_L ha)).mpr e))
        refine wp_iconst (q := 28) dX12_qFloor_27 zq_iconst_1 rfl ?_
        refine wp_goto (tgt := 32) dX12_qFloor_28 (by decide) ?_
        refine wp_lload_n (q := 33) dX12_qFloor_32 2 rfl rfl ?_
        refine wp_lconst (q := 34) dX12_qFloor_33 zq_lconst_0 rfl ?_
        rw [e0]
        refine wp_lcmp_ge (tgt := 42) (q := 38) dX12_qFloor_34 rfl dX12_qFloor_35 (by decide) rfl (fun c3 => ?_) (fun c3 => ?_)
        · skip
          have hc3 : 0 ≤ b := (lI_le z0 (zb6_L hb)).mp c3
          rw [if_pos ⟨hc, by omega⟩]
          refine wp_iconst (q := 43) dX12_qFloor_42 zq_iconst_0 rfl ?_
          refine wp_icmp_eqN (tgt := 53) (q := 46) dX12_qFloor_43 (by decide) rfl (by omega) (by omega) (fun hn => absurd hn (by first | omega | exact fun h => h | exact fun h => h trivial)) (fun _ => ?_)
          refine wp_lload (q := 48) dX12_qFloor_46 0 rfl rfl ?_
          refine wp_lconst (q := 49) dX12_qFloor_48 zq_lconst_1 rfl ?_
          rw [show lN 1 = lI 1 from rfl]
          refine wp_lsub (q := 50) dX12_qFloor_49 rfl ?_
          rw [lI_sub]
          refine wp_goto (tgt := 55) dX12_qFloor_50 (by decide) ?_
          exact wp_lreturn dX12_qFloor_55 rfl ⟨rfl, rfl, rfl, rfl, rfl⟩ rfl rfl
        · skip
          have hc3 : b < 0 := Int.not_le.mp (fun e => c3 ((lI_le z0 (zb6_L hb)).mpr e))
          rw [if_neg (fun e => by omega)]
          refine wp_iconst (q := 39) dX12_qFloor_38 zq_iconst_1 rfl ?_
          refine wp_goto (tgt := 43) dX12_qFloor_39 (by decide) ?_
          refine wp_icmp_eqN (tgt := 53) (q := 46) dX12_qFloor_43 (by decide) rfl (by omega) (by omega) (fun _ => ?_) (fun hn => absurd hn (by first | omega | exact fun h => h | exact fun h => h trivial))
          refine wp_lload (q := 55) dX12_qFloor_53 0 rfl rfl ?_
          exact wp_lreturn dX12_qFloor_55 rfl ⟨rfl, rfl, rfl, rfl, rfl⟩ rfl rfl
  · skip
    rw [show zfl0 a b = 0 from if_pos ((lI_eq (zb6_L hb) z0).mp c0)]
    refine wp_lconst (q := 7) dX12_qFloor_6 zq_lconst_0 rfl ?_
    exact wp_lreturn dX12_qFloor_7 rfl ⟨rfl, rfl, rfl, rfl, rfl⟩ rfl rfl
set_option maxHeartbeats 4000000 in
set_option maxRecDepth 100000 in
theorem sp_mqPuts {d t : Nat} {z : Int} {st : List Int} {M : zMI} {L : zML} (h : zpl0 L 247 st) (hp : M 177 94 = nI st.length) (hl : st.length < 1700) : Sy yX12_qPuts YX12_qPuts (d) [.ref 177, .long (lI z)] M L (zRf t) (fun v0 M' L' R' => v0 = none ∧ R' = zRf t ∧ zpl0 L' 247 (z :: st) ∧ M' = zu M 177 94 (nI (z :: st).length) ∧ ∀ x, x ≠ 247 → L' x = L x) := by
  refine Sp.of (by decide +kernel) rfl (fun h => by first | exact h | cases h) (Nat.le_of_ble_eq_true rfl) ?_
  intro w G
  refine wp_aload_n (q := 1) dX12_qPuts_0 0 rfl rfl ?_
  refine wp_getR (q := 4) dX12_qPuts_1 zf_RX12_227 rfl zsh_177 (zr_177_93 _) rfl ?_
  refine wp_aload_n (q := 5) dX12_qPuts_4 0 rfl rfl ?_
  refine wp_getI (q := 8) dX12_qPuts_5 zf_RX12_663 rfl zsh_177 rfl ?_
  rw [hp]
  refine wp_lload_n (q := 9) dX12_qPuts_8 1 rfl rfl ?_
  refine wp_last (q := 10) _ dX12_qPuts_9 zsh_247 rfl (by omega) (by decide) rfl ?_
  refine wp_aload_n (q := 11) dX12_qPuts_10 0 rfl rfl ?_
  refine wp_dup (q := 12) dX12_qPuts_11 rfl rfl ?_
  refine wp_getI (q := 15) dX12_qPuts_12 zf_RX12_663 rfl zsh_177 rfl ?_
  rw [hp]
  refine wp_iconst (q := 16) dX12_qPuts_15 zq_iconst_1 rfl ?_
  refine wp_iaddN (q := 17) dX12_qPuts_16 rfl ?_
  refine wp_putI (q := 20) dX12_qPuts_17 zf_RX12_663 rfl zsh_177 rfl ?_
  exact wp_return dX12_qPuts_20 rfl ⟨rfl, ⟨rfl, rfl, zpl0_push h, rfl, fun x hx => zu_ne hx⟩⟩ rfl rfl
theorem zbin_10 (a b : Int) : zbin 10 a b = if a < b then 1 else 0 := by unfold zbin; rw [if_neg (by decide), if_neg (by decide), if_neg (by decide), if_neg (by decide), if_neg (by decide), if_neg (by decide), if_pos rfl]
theorem zbin_11 (a b : Int) : zbin 11 a b = if b < a then 1 else 0 := by unfold zbin; rw [if_neg (by decide), if_neg (by decide), if_neg (by decide), if_neg (by decide), if_neg (by decide), if_neg (by decide), if_neg (by decide), if_pos rfl]
theorem zbin_12 (a b : Int) : zbin 12 a b = if a = b then 1 else 0 := by unfold zbin; rw [if_neg (by decide), if_neg (by decide), if_neg (by decide), if_neg (by decide), if_neg (by decide), if_neg (by decide), if_neg (by decide), if_neg (by decide), if_pos rfl]
theorem zbin_13 (a b : Int) : zbin 13 a b = a * b := by unfold zbin; rw [if_neg (by decide), if_neg (by decide), if_neg (by decide), if_neg (by decide), if_neg (by decide), if_neg (by decide), if_neg (by decide), if_neg (by decide), if_neg (by decide), if_pos rfl]
theorem zbin_14 (a b : Int) : zbin 14 a b = if 0 < a + b then 1 else 0 := by unfold zbin; rw [if_neg (by decide), if_neg (by decide), if_neg (by decide), if_neg (by decide), if_neg (by decide), if_neg (by decide), if_neg (by decide), if_neg (by decide), if_neg (by decide), if_neg (by decide)]
set_option maxHeartbeats 4000000 in
set_option maxRecDepth 100000 in
theorem sp_mqJoins {d t op : Nat} {a b : Int} {st : List Int} {M : zMI} {L : zML} (h : zpl0 L 247 (b :: a :: st)) (hp : M 177 94 = nI (b :: a :: st).length) (hl : st.length < 1600) (ha : zb6 a) (hb : zb6 b) (h4 : 4 ≤ op) (h9 : op ≤ 14) (h01 : 13 ≤ op → z01 a ∧ z01 b) : Sy yX12_qJoins YX12_qJoins (d + 1) [.ref 177, .int (nI (op - 3))] M L (zRf t) (fun v0 M' L' R' => v0 = none ∧ R' = zRf t ∧ zpl0 L' 247 (zbin op a b :: st) ∧ M' = zu (zu M 177 94 (nI st.length)) 177 94 (nI (st.length + 1)) ∧ ∀ x, x ≠ 247 → L' x = L x) := by
  refine Sp.of (by decide +kernel) rfl (fun h => by first | exact h | cases h) (Nat.le_of_ble_eq_true rfl) ?_
  intro w G
  have hl2 : (b :: a :: st).length = st.length + 2 := rfl
  have hB := zpl0_hd h
  rw [show (a :: st).length = st.length + 1 from rfl] at hB
  have hA := zpl0_hd (zpl0_tl h)
  have hS := zpl0_tl (zpl0_tl h)
  rw [hl2] at hp
  have p0 : zu M 177 94 (nI st.length) 177 94 = nI st.length := zu_s
  refine wp_aload_n (q := 1) dX12_qJoins_0 0 rfl rfl ?_
  refine wp_getR (q := 4) dX12_qJoins_1 zf_RX12_227 rfl zsh_177 (zr_177_93 _) rfl ?_
  refine wp_aload_n (q := 5) dX12_qJoins_4 0 rfl rfl ?_
  refine wp_getI (q := 8) dX12_qJoins_5 zf_RX12_663 rfl zsh_177 rfl ?_
  rw [hp]
  refine wp_iconst (q := 9) dX12_qJoins_8 zq_iconst_1 rfl ?_
  refine wp_isubN (q := 10) dX12_qJoins_9 (by omega) rfl ?_
  rw [show st.length + 2 - 1 = st.length + 1 by omega]
  refine wp_lald (q := 11) _ dX12_qJoins_10 zsh_247 rfl (by omega) (by decide) rfl ?_
  rw [hB]
  refine wp_lstore_n (q := 12) (loc' := [(2, _), (0, _), (1, _)]) dX12_qJoins_11 rfl (by decide) rfl rfl ?_
  refine wp_aload_n (q := 13) dX12_qJoins_12 1 rfl rfl ?_
  refine wp_getR (q := 16) dX12_qJoins_13 zf_RX12_227 rfl zsh_177 (zr_177_93 _) rfl ?_
  refine wp_aload_n (q := 17) dX12_qJoins_16 1 rfl rfl ?_
  refine wp_getI (q := 20) dX12_qJoins_17 zf_RX12_663 rfl zsh_177 rfl ?_
  rw [hp]
  refine wp_iconst (q := 21) dX12_qJoins_20 zq_iconst_2 rfl ?_
  refine wp_isubN (q := 22) dX12_qJoins_21 (by omega) rfl ?_
  rw [show st.length + 2 - 2 = st.length by omega]
  refine wp_lald (q := 23) _ dX12_qJoins_22 zsh_247 rfl (by omega) (by decide) rfl ?_
  rw [hA]
  refine wp_lstore (q := 25) (loc' := [(4, _), (2, _), (0, _), (1, _)]) dX12_qJoins_23 (by decide) rfl rfl ?_
  refine wp_aload_n (q := 26) dX12_qJoins_25 2 rfl rfl ?_
  refine wp_dup (q := 27) dX12_qJoins_26 rfl rfl ?_
  refine wp_getI (q := 30) dX12_qJoins_27 zf_RX12_663 rfl zsh_177 rfl ?_
  rw [hp]
  refine wp_iconst (q := 31) dX12_qJoins_30 zq_iconst_2 rfl ?_
  refine wp_isubN (q := 32) dX12_qJoins_31 (by omega) rfl ?_
  rw [show st.length + 2 - 2 = st.length by omega]
  refine wp_putI (q := 35) dX12_qJoins_32 zf_RX12_663 rfl zsh_177 rfl ?_
  refine wp_iload_n (q := 36) dX12_qJoins_35 3 rfl rfl ?_
  have hop : op = 4 ∨ op = 5 ∨ op = 6 ∨ op = 7 ∨ op = 8 ∨ op = 9 ∨ op = 10 ∨ op = 11 ∨ op = 12 ∨ op = 13 ∨ op = 14 := by omega
  have ab := zb6_L ha
  have bb := zb6_L hb
  obtain ⟨a1, a2⟩ := id ha
  obtain ⟨b1, b2⟩ := id hb
  have hprod := zbL_mul ha hb
  rcases hop with rfl | rfl | rfl | rfl | rfl | rfl | rfl | rfl | rfl | rfl | rfl
  · skip
    refine wp_tsIn (tgt := 92) (off := 56) dX12_qJoins_36 (by decide) (by decide) (by rfl) (by decide) ?_
    refine wp_aload_n (q := 93) dX12_qJoins_92 2 rfl rfl ?_
    refine wp_lload (q := 95) dX12_qJoins_93 0 rfl rfl ?_
    refine wp_lload_n (q := 96) dX12_qJoins_95 1 rfl rfl ?_
    refine wp_ladd (q := 97) dX12_qJoins_96 rfl ?_
    rw [lI_add]
    refine wp_csx (q := 100) (sp_mqClip (d := 0) (z := a + b) ⟨by omega, by omega⟩) zm_X12_qClip zl_RX12_666 dX12_qJoins_97 rfl (by omega) (Nat.le_of_ble_eq_true rfl) rfl ?_
    refine wp_cvy (q := 103) (sp_mqPuts (d := 0) hS p0 (by omega)) zm_X12_qPuts zl_RX12_669 dX12_qJoins_100 rfl (by omega) (Nat.le_of_ble_eq_true rfl) zsh_177 rfl rfl ?_
    rintro _ _ L2 _ ⟨rfl, rfl, g1, rfl, g2⟩
    refine wp_goto (tgt := 273) dX12_qJoins_103 (by decide) ?_
    exact wp_return dX12_qJoins_273 rfl ⟨rfl, ⟨rfl, rfl, by rw [zbin_4]; exact g1, rfl, g2⟩⟩ rfl rfl
  · skip
    refine wp_tsIn (tgt := 106) (off := 70) dX12_qJoins_36 (by decide) (by decide) (by rfl) (by decide) ?_
    refine wp_aload_n (q := 107) dX12_qJoins_106 2 rfl rfl ?_
    refine wp_lload (q := 109) dX12_qJoins_107 0 rfl rfl ?_
    refine wp_lload_n (q := 110) dX12_qJoins_109 1 rfl rfl ?_
    refine wp_lsub (q := 111) dX12_qJoins_110 rfl ?_
    rw [lI_sub]
    refine wp_csx (q := 114) (sp_mqClip (d := 0) (z := a - b) ⟨by omega, by omega⟩) zm_X12_qClip zl_RX12_666 dX12_qJoins_111 rfl (by omega) (Nat.le_of_ble_eq_true rfl) rfl ?_
    refine wp_cvy (q := 117) (sp_mqPuts (d := 0) hS p0 (by omega)) zm_X12_qPuts zl_RX12_669 dX12_qJoins_114 rfl (by omega) (Nat.le_of_ble_eq_true rfl) zsh_177 rfl rfl ?_
    rintro _ _ L2 _ ⟨rfl, rfl, g1, rfl, g2⟩
    refine wp_goto (tgt := 273) dX12_qJoins_117 (by decide) ?_
    exact wp_return dX12_qJoins_273 rfl ⟨rfl, ⟨rfl, rfl, by rw [zbin_5]; exact g1, rfl, g2⟩⟩ rfl rfl
  · skip
    refine wp_tsIn (tgt := 120) (off := 84) dX12_qJoins_36 (by decide) (by decide) (by rfl) (by decide) ?_
    refine wp_aload_n (q := 121) dX12_qJoins_120 2 rfl rfl ?_
    refine wp_lload (q := 123) dX12_qJoins_121 0 rfl rfl ?_
    refine wp_lload_n (q := 124) dX12_qJoins_123 1 rfl rfl ?_
    refine wp_lmul (q := 125) dX12_qJoins_124 rfl ?_
    rw [lI_mul]
    refine wp_csx (q := 128) (sp_mqClip (d := 0) (z := a * b) hprod) zm_X12_qClip zl_RX12_666 dX12_qJoins_125 rfl (by omega) (Nat.le_of_ble_eq_true rfl) rfl ?_
    refine wp_cvy (q := 131) (sp_mqPuts (d := 0) hS p0 (by omega)) zm_X12_qPuts zl_RX12_669 dX12_qJoins_128 rfl (by omega) (Nat.le_of_ble_eq_true rfl) zsh_177 rfl rfl ?_
    rintro _ _ L2 _ ⟨rfl, rfl, g1, rfl, g2⟩
    refine wp_goto (tgt := 273) dX12_qJoins_131 (by decide) ?_
    exact wp_return dX12_qJoins_273 rfl ⟨rfl, ⟨rfl, rfl, by rw [zbin_6]; exact g1, rfl, g2⟩⟩ rfl rfl
  · skip
    refine wp_tsIn (tgt := 134) (off := 98) dX12_qJoins_36 (by decide) (by decide) (by rfl) (by decide) ?_
    refine wp_aload_n (q := 135) dX12_qJoins_134 2 rfl rfl ?_
    refine wp_lload (q := 137) dX12_qJoins_135 0 rfl rfl ?_
    refine wp_lload_n (q := 138) dX12_qJoins_137 1 rfl rfl ?_
    refine wp_csx (q := 141) (sp_mqFloor (d := 0) ha hb) zm_X12_qFloor zl_RX12_672 dX12_qJoins_138 rfl (by omega) (Nat.le_of_ble_eq_true rfl) rfl ?_
    refine wp_cvy (q := 144) (sp_mqPuts (d := 0) hS p0 (by omega)) zm_X12_qPuts zl_RX12_669 dX12_qJoins_141 rfl (by omega) (Nat.le_of_ble_eq_true rfl) zsh_177 rfl rfl ?_
    rintro _ _ L2 _ ⟨rfl, rfl, g1, rfl, g2⟩
    refine wp_goto (tgt := 273) dX12_qJoins_144 (by decide) ?_
    exact wp_return dX12_qJoins_273 rfl ⟨rfl, ⟨rfl, rfl, by rw [zbin_7]; exact g1, rfl, g2⟩⟩ rfl rfl
  · skip
    refine wp_tsIn (tgt := 147) (off := 111) dX12_qJoins_36 (by decide) (by decide) (by rfl) (by decide) ?_
    refine wp_aload_n (q := 148) dX12_qJoins_147 2 rfl rfl ?_
    refine wp_lload (q := 150) dX12_qJoins_148 0 rfl rfl ?_
    refine wp_lload_n (q := 151) dX12_qJoins_150 1 rfl rfl ?_
    refine wp_lcmp_ge (tgt := 160) (q := 155) dX12_qJoins_151 rfl dX12_qJoins_152 (by decide) rfl (fun c => ?_) (fun c => ?_)
    · skip
      have hc : b ≤ a := (lI_le bb ab).mp c
      refine wp_lload_n (q := 161) dX12_qJoins_160 1 rfl rfl ?_
      refine wp_cvy (q := 164) (sp_mqPuts (d := 0) hS p0 (by omega)) zm_X12_qPuts zl_RX12_669 dX12_qJoins_161 rfl (by omega) (Nat.le_of_ble_eq_true rfl) zsh_177 rfl rfl ?_
      rintro _ _ L2 _ ⟨rfl, rfl, g1, rfl, g2⟩
      refine wp_goto (tgt := 273) dX12_qJoins_164 (by decide) ?_
      refine wp_return dX12_qJoins_273 rfl ⟨rfl, ⟨rfl, rfl, ?_, rfl, g2⟩⟩ rfl rfl
      rw [show zbin 8 a b = b from by rw [zbin_8]; split <;> omega]
      exact g1
    · skip
      have hc : a < b := Int.not_le.mp (fun e => c ((lI_le bb ab).mpr e))
      refine wp_lload (q := 157) dX12_qJoins_155 0 rfl rfl ?_
      refine wp_goto (tgt := 161) dX12_qJoins_157 (by decide) ?_
      refine wp_cvy (q := 164) (sp_mqPuts (d := 0) hS p0 (by omega)) zm_X12_qPuts zl_RX12_669 dX12_qJoins_161 rfl (by omega) (Nat.le_of_ble_eq_true rfl) zsh_177 rfl rfl ?_
      rintro _ _ L2 _ ⟨rfl, rfl, g1, rfl, g2⟩
      refine wp_goto (tgt := 273) dX12_qJoins_164 (by decide) ?_
      refine wp_return dX12_qJoins_273 rfl ⟨rfl, ⟨rfl, rfl, ?_, rfl, g2⟩⟩ rfl rfl
      rw [show zbin 8 a b = a from by rw [zbin_8]; split <;> omega]
      exact g1
  · skip
    refine wp_tsIn (tgt := 167) (off := 131) dX12_qJoins_36 (by decide) (by decide) (by rfl) (by decide) ?_
    refine wp_aload_n (q := 168) dX12_qJoins_167 2 rfl rfl ?_
    refine wp_lload (q := 170) dX12_qJoins_168 0 rfl rfl ?_
    refine wp_lload_n (q := 171) dX12_qJoins_170 1 rfl rfl ?_
    refine wp_lcmp_le (tgt := 180) (q := 175) dX12_qJoins_171 rfl dX12_qJoins_172 (by decide) rfl (fun c => ?_) (fun c => ?_)
    · skip
      have hc : a ≤ b := (lI_le ab bb).mp c
      refine wp_lload_n (q := 181) dX12_qJoins_180 1 rfl rfl ?_
      refine wp_cvy (q := 184) (sp_mqPuts (d := 0) hS p0 (by omega)) zm_X12_qPuts zl_RX12_669 dX12_qJoins_181 rfl (by omega) (Nat.le_of_ble_eq_true rfl) zsh_177 rfl rfl ?_
      rintro _ _ L2 _ ⟨rfl, rfl, g1, rfl, g2⟩
      refine wp_goto (tgt := 273) dX12_qJoins_184 (by decide) ?_
      refine wp_return dX12_qJoins_273 rfl ⟨rfl, ⟨rfl, rfl, ?_, rfl, g2⟩⟩ rfl rfl
      rw [show zbin 9 a b = b from by rw [zbin_9]; split <;> omega]
      exact g1
    · skip
      have hc : b < a := Int.not_le.mp (fun e => c ((lI_le ab bb).mpr e))
      refine wp_lload (q := 177) dX12_qJoins_175 0 rfl rfl ?_
      refine wp_goto (tgt := 181) dX12_qJoins_177 (by decide) ?_
      refine wp_cvy (q := 184) (sp_mqPuts (d := 0) hS p0 (by omega)) zm_X12_qPuts zl_RX12_669 dX12_qJoins_181 rfl (by omega) (Nat.le_of_ble_eq_true rfl) zsh_177 rfl rfl ?_
      rintro _ _ L2 _ ⟨rfl, rfl, g1, rfl, g2⟩
      refine wp_goto (tgt := 273) dX12_qJoins_184 (by decide) ?_
      refine wp_return dX12_qJoins_273 rfl ⟨rfl, ⟨rfl, rfl, ?_, rfl, g2⟩⟩ rfl rfl
      rw [show zbin 9 a b = a from by rw [zbin_9]; split <;> omega]
      exact g1
  · skip
    refine wp_tsIn (tgt := 187) (off := 151) dX12_qJoins_36 (by decide) (by decide) (by rfl) (by decide) ?_
    refine wp_aload_n (q := 188) dX12_qJoins_187 2 rfl rfl ?_
    refine wp_lload (q := 190) dX12_qJoins_188 0 rfl rfl ?_
    refine wp_lload_n (q := 191) dX12_qJoins_190 1 rfl rfl ?_
    refine wp_lcmp_ge (tgt := 199) (q := 195) dX12_qJoins_191 rfl dX12_qJoins_192 (by decide) rfl (fun c => ?_) (fun c => ?_)
    · skip
      have hc : b ≤ a := (lI_le bb ab).mp c
      refine wp_lconst (q := 200) dX12_qJoins_199 zq_lconst_0 rfl ?_
      rw [show lN 0 = lI 0 from rfl]
      refine wp_cvy (q := 203) (sp_mqPuts (d := 0) (z := 0) hS p0 (by omega)) zm_X12_qPuts zl_RX12_669 dX12_qJoins_200 rfl (by omega) (Nat.le_of_ble_eq_true rfl) zsh_177 rfl rfl ?_
      rintro _ _ L2 _ ⟨rfl, rfl, g1, rfl, g2⟩
      refine wp_goto (tgt := 273) dX12_qJoins_203 (by decide) ?_
      refine wp_return dX12_qJoins_273 rfl ⟨rfl, ⟨rfl, rfl, ?_, rfl, g2⟩⟩ rfl rfl
      rw [show zbin 10 a b = 0 from by rw [zbin_10]; split <;> omega]
      exact g1
    · skip
      have hc : a < b := Int.not_le.mp (fun e => c ((lI_le bb ab).mpr e))
      refine wp_lconst (q := 196) dX12_qJoins_195 zq_lconst_1 rfl ?_
      refine wp_goto (tgt := 200) dX12_qJoins_196 (by decide) ?_
      rw [show lN 1 = lI 1 from rfl]
      refine wp_cvy (q := 203) (sp_mqPuts (d := 0) (z := 1) hS p0 (by omega)) zm_X12_qPuts zl_RX12_669 dX12_qJoins_200 rfl (by omega) (Nat.le_of_ble_eq_true rfl) zsh_177 rfl rfl ?_
      rintro _ _ L2 _ ⟨rfl, rfl, g1, rfl, g2⟩
      refine wp_goto (tgt := 273) dX12_qJoins_203 (by decide) ?_
      refine wp_return dX12_qJoins_273 rfl ⟨rfl, ⟨rfl, rfl, ?_, rfl, g2⟩⟩ rfl rfl
      rw [show zbin 10 a b = 1 from by rw [zbin_10]; split <;> omega]
      exact g1
  · skip
    refine wp_tsIn (tgt := 206) (off := 170) dX12_qJoins_36 (by decide) (by decide) (by rfl) (by decide) ?_
    refine wp_aload_n (q := 207) dX12_qJoins_206 2 rfl rfl ?_
    refine wp_lload (q := 209) dX12_qJoins_207 0 rfl rfl ?_
    refine wp_lload_n (q := 210) dX12_qJoins_209 1 rfl rfl ?_
    refine wp_lcmp_le (tgt := 218) (q := 214) dX12_qJoins_210 rfl dX12_qJoins_211 (by decide) rfl (fun c => ?_) (fun c => ?_)
    · skip
      have hc : a ≤ b := (lI_le ab bb).mp c
      refine wp_lconst (q := 219) dX12_qJoins_218 zq_lconst_0 rfl ?_
      rw [show lN 0 = lI 0 from rfl]
      refine wp_cvy (q := 222) (sp_mqPuts (d := 0) (z := 0) hS p0 (by omega)) zm_X12_qPuts zl_RX12_669 dX12_qJoins_219 rfl (by omega) (Nat.le_of_ble_eq_true rfl) zsh_177 rfl rfl ?_
      rintro _ _ L2 _ ⟨rfl, rfl, g1, rfl, g2⟩
      refine wp_goto (tgt := 273) dX12_qJoins_222 (by decide) ?_
      refine wp_return dX12_qJoins_273 rfl ⟨rfl, ⟨rfl, rfl, ?_, rfl, g2⟩⟩ rfl rfl
      rw [show zbin 11 a b = 0 from by rw [zbin_11]; split <;> omega]
      exact g1
    · skip
      have hc : b < a := Int.not_le.mp (fun e => c ((lI_le ab bb).mpr e))
      refine wp_lconst (q := 215) dX12_qJoins_214 zq_lconst_1 rfl ?_
      refine wp_goto (tgt := 219) dX12_qJoins_215 (by decide) ?_
      rw [show lN 1 = lI 1 from rfl]
      refine wp_cvy (q := 222) (sp_mqPuts (d := 0) (z := 1) hS p0 (by omega)) zm_X12_qPuts zl_RX12_669 dX12_qJoins_219 rfl (by omega) (Nat.le_of_ble_eq_true rfl) zsh_177 rfl rfl ?_
      rintro _ _ L2 _ ⟨rfl, rfl, g1, rfl, g2⟩
      refine wp_goto (tgt := 273) dX12_qJoins_222 (by decide) ?_
      refine wp_return dX12_qJoins_273 rfl ⟨rfl, ⟨rfl, rfl, ?_, rfl, g2⟩⟩ rfl rfl
      rw [show zbin 11 a b = 1 from by rw [zbin_11]; split <;> omega]
      exact g1
  · skip
    refine wp_tsIn (tgt := 225) (off := 189) dX12_qJoins_36 (by decide) (by decide) (by rfl) (by decide) ?_
    refine wp_aload_n (q := 226) dX12_qJoins_225 2 rfl rfl ?_
    refine wp_lload (q := 228) dX12_qJoins_226 0 rfl rfl ?_
    refine wp_lload_n (q := 229) dX12_qJoins_228 1 rfl rfl ?_
    refine wp_lcmp_ne (tgt := 237) (q := 233) dX12_qJoins_229 rfl dX12_qJoins_230 (by decide) rfl (fun c => ?_) (fun c => ?_)
    · skip
      have hc : a ≠ b := fun e => c (by rw [e])
      refine wp_lconst (q := 238) dX12_qJoins_237 zq_lconst_0 rfl ?_
      rw [show lN 0 = lI 0 from rfl]
      refine wp_cvy (q := 241) (sp_mqPuts (d := 0) (z := 0) hS p0 (by omega)) zm_X12_qPuts zl_RX12_669 dX12_qJoins_238 rfl (by omega) (Nat.le_of_ble_eq_true rfl) zsh_177 rfl rfl ?_
      rintro _ _ L2 _ ⟨rfl, rfl, g1, rfl, g2⟩
      refine wp_goto (tgt := 273) dX12_qJoins_241 (by decide) ?_
      refine wp_return dX12_qJoins_273 rfl ⟨rfl, ⟨rfl, rfl, ?_, rfl, g2⟩⟩ rfl rfl
      rw [show zbin 12 a b = 0 from by rw [zbin_12]; split <;> omega]
      exact g1
    · skip
      have hc : a = b := (lI_eq ab bb).mp c
      refine wp_lconst (q := 234) dX12_qJoins_233 zq_lconst_1 rfl ?_
      refine wp_goto (tgt := 238) dX12_qJoins_234 (by decide) ?_
      rw [show lN 1 = lI 1 from rfl]
      refine wp_cvy (q := 241) (sp_mqPuts (d := 0) (z := 1) hS p0 (by omega)) zm_X12_qPuts zl_RX12_669 dX12_qJoins_238 rfl (by omega) (Nat.le_of_ble_eq_true rfl) zsh_177 rfl rfl ?_
      rintro _ _ L2 _ ⟨rfl, rfl, g1, rfl, g2⟩
      refine wp_goto (tgt := 273) dX12_qJoins_241 (by decide) ?_
      refine wp_return dX12_qJoins_273 rfl ⟨rfl, ⟨rfl, rfl, ?_, rfl, g2⟩⟩ rfl rfl
      rw [show zbin 12 a b = 1 from by rw [zbin_12]; split <;> omega]
      exact g1
  · have hz := h01 (by decide)
    skip
    refine wp_tsIn (tgt := 244) (off := 208) dX12_qJoins_36 (by decide) (by decide) (by rfl) (by decide) ?_
    refine wp_aload_n (q := 245) dX12_qJoins_244 2 rfl rfl ?_
    refine wp_lload (q := 247) dX12_qJoins_245 0 rfl rfl ?_
    refine wp_lload_n (q := 248) dX12_qJoins_247 1 rfl rfl ?_
    refine wp_lmul (q := 249) dX12_qJoins_248 rfl ?_
    rw [lI_mul]
    refine wp_cvy (q := 252) (sp_mqPuts (d := 0) (z := a * b) hS p0 (by omega)) zm_X12_qPuts zl_RX12_669 dX12_qJoins_249 rfl (by omega) (Nat.le_of_ble_eq_true rfl) zsh_177 rfl rfl ?_
    rintro _ _ L2 _ ⟨rfl, rfl, g1, rfl, g2⟩
    refine wp_goto (tgt := 273) dX12_qJoins_252 (by decide) ?_
    exact wp_return dX12_qJoins_273 rfl ⟨rfl, ⟨rfl, rfl, by rw [zbin_13]; exact g1, rfl, g2⟩⟩ rfl rfl
  · have hz := h01 (by decide)
    have zz : zbL 0 := ⟨by decide, by decide⟩
    have sb : zbL (a + b) := ⟨by omega, by omega⟩
    skip
    refine wp_tsOut (tgt := 255) dX12_qJoins_36 (by exact Or.inr (by decide)) (by decide) ?_
    refine wp_aload_n (q := 256) dX12_qJoins_255 2 rfl rfl ?_
    refine wp_lload (q := 258) dX12_qJoins_256 0 rfl rfl ?_
    refine wp_lload_n (q := 259) dX12_qJoins_258 1 rfl rfl ?_
    refine wp_ladd (q := 260) dX12_qJoins_259 rfl ?_
    rw [lI_add]
    refine wp_lconst (q := 261) dX12_qJoins_260 zq_lconst_0 rfl ?_
    rw [show lN 0 = lI 0 from rfl]
    refine wp_lcmp_le (tgt := 269) (q := 265) dX12_qJoins_261 rfl dX12_qJoins_262 (by decide) rfl (fun c => ?_) (fun c => ?_)
    · skip
      have hc : a + b ≤ 0 := (lI_le sb zz).mp c
      refine wp_lconst (q := 270) dX12_qJoins_269 zq_lconst_0 rfl ?_
      rw [show lN 0 = lI 0 from rfl]
      refine wp_cvy (q := 273) (sp_mqPuts (d := 0) (z := 0) hS p0 (by omega)) zm_X12_qPuts zl_RX12_669 dX12_qJoins_270 rfl (by omega) (Nat.le_of_ble_eq_true rfl) zsh_177 rfl rfl ?_
      rintro _ _ L2 _ ⟨rfl, rfl, g1, rfl, g2⟩
      refine wp_return dX12_qJoins_273 rfl ⟨rfl, ⟨rfl, rfl, ?_, rfl, g2⟩⟩ rfl rfl
      rw [show zbin 14 a b = 0 from by rw [zbin_14]; split <;> omega]
      exact g1
    · skip
      have hc : 0 < a + b := Int.not_le.mp (fun e => c ((lI_le sb zz).mpr e))
      refine wp_lconst (q := 266) dX12_qJoins_265 zq_lconst_1 rfl ?_
      refine wp_goto (tgt := 270) dX12_qJoins_266 (by decide) ?_
      rw [show lN 1 = lI 1 from rfl]
      refine wp_cvy (q := 273) (sp_mqPuts (d := 0) (z := 1) hS p0 (by omega)) zm_X12_qPuts zl_RX12_669 dX12_qJoins_270 rfl (by omega) (Nat.le_of_ble_eq_true rfl) zsh_177 rfl rfl ?_
      rintro _ _ L2 _ ⟨rfl, rfl, g1, rfl, g2⟩
      refine wp_return dX12_qJoins_273 rfl ⟨rfl, ⟨rfl, rfl, ?_, rfl, g2⟩⟩ rfl rfl
      rw [show zbin 14 a b = 1 from by rw [zbin_14]; split <;> omega]
      exact g1
set_option maxHeartbeats 4000000 in
set_option maxRecDepth 100000 in
theorem sp_mthumbs {d t n s : Nat} {M : zMI} {L : zML} {v : Nat → Nat} (h : zNw M n v) (hs : s < n) : Sx yX12_thumbsOf YX12_thumbsOf (d + 1) [.ref 177, .int (nI s)] M L (zRf t) (some (.long (lN ((if gr v s 0 = 2 then 1 else 0) + (if gr v s 1 = 2 then 1 else 0))))) M L (zRf t) := by
  refine Sp.of (by decide +kernel) rfl (fun h => by first | exact h | cases h) (Nat.le_of_ble_eq_true rfl) ?_
  intro w G
  have h2 := (h.1.2.2.2.2.1 s 0 hs (by decide)).1
  have h3 := (h.1.2.2.2.2.1 s 1 hs (by decide)).1
  refine wp_aload_n (q := 1) dX12_thumbsOf_0 0 rfl rfl ?_
  refine wp_iload_n (q := 2) dX12_thumbsOf_1 1 rfl rfl ?_
  refine wp_iconst (q := 3) dX12_thumbsOf_2 zq_iconst_0 rfl ?_
  refine wp_cvx (q := 6) (sp_mgrip (d := 0) h hs (by decide : 0 < 2)) zm_X12_gripOf zl_RX12_421 dX12_thumbsOf_3 rfl (by omega) (Nat.le_of_ble_eq_true rfl) zsh_177 rfl rfl ?_
  refine wp_iconst (q := 7) dX12_thumbsOf_6 zq_iconst_2 rfl ?_
  refine wp_icmp_neN (tgt := 14) (q := 10) dX12_thumbsOf_7 (by decide) rfl (by omega) (by omega) (fun c0 => ?_) (fun c0 => ?_)
  · skip
    refine wp_lconst (q := 15) dX12_thumbsOf_14 zq_lconst_0 rfl ?_
    refine wp_aload_n (q := 16) dX12_thumbsOf_15 0 rfl rfl ?_
    refine wp_iload_n (q := 17) dX12_thumbsOf_16 1 rfl rfl ?_
    refine wp_iconst (q := 18) dX12_thumbsOf_17 zq_iconst_1 rfl ?_
    refine wp_cvx (q := 21) (sp_mgrip (d := 0) h hs (by decide : 1 < 2)) zm_X12_gripOf zl_RX12_421 dX12_thumbsOf_18 rfl (by omega) (Nat.le_of_ble_eq_true rfl) zsh_177 rfl rfl ?_
    refine wp_iconst (q := 22) dX12_thumbsOf_21 zq_iconst_2 rfl ?_
    refine wp_icmp_neN (tgt := 29) (q := 25) dX12_thumbsOf_22 (by decide) rfl (by omega) (by omega) (fun c1 => ?_) (fun c1 => ?_)
    · skip
      rw [if_neg c0, if_neg c1]
      refine wp_lconst (q := 30) dX12_thumbsOf_29 zq_lconst_0 rfl ?_
      refine wp_laddN (q := 31) dX12_thumbsOf_30 rfl ?_
      exact wp_lreturn dX12_thumbsOf_31 rfl ⟨rfl, rfl, rfl, rfl, rfl⟩ rfl rfl
    · skip
      rw [if_neg c0, if_pos c1]
      refine wp_lconst (q := 26) dX12_thumbsOf_25 zq_lconst_1 rfl ?_
      refine wp_goto (tgt := 30) dX12_thumbsOf_26 (by decide) ?_
      refine wp_laddN (q := 31) dX12_thumbsOf_30 rfl ?_
      exact wp_lreturn dX12_thumbsOf_31 rfl ⟨rfl, rfl, rfl, rfl, rfl⟩ rfl rfl
  · skip
    refine wp_lconst (q := 11) dX12_thumbsOf_10 zq_lconst_1 rfl ?_
    refine wp_goto (tgt := 15) dX12_thumbsOf_11 (by decide) ?_
    refine wp_aload_n (q := 16) dX12_thumbsOf_15 0 rfl rfl ?_
    refine wp_iload_n (q := 17) dX12_thumbsOf_16 1 rfl rfl ?_
    refine wp_iconst (q := 18) dX12_thumbsOf_17 zq_iconst_1 rfl ?_
    refine wp_cvx (q := 21) (sp_mgrip (d := 0) h hs (by decide : 1 < 2)) zm_X12_gripOf zl_RX12_421 dX12_thumbsOf_18 rfl (by omega) (Nat.le_of_ble_eq_true rfl) zsh_177 rfl rfl ?_
    refine wp_iconst (q := 22) dX12_thumbsOf_21 zq_iconst_2 rfl ?_
    refine wp_icmp_neN (tgt := 29) (q := 25) dX12_thumbsOf_22 (by decide) rfl (by omega) (by omega) (fun c1 => ?_) (fun c1 => ?_)
    · skip
      rw [if_pos c0, if_neg c1]
      refine wp_lconst (q := 30) dX12_thumbsOf_29 zq_lconst_0 rfl ?_
      refine wp_laddN (q := 31) dX12_thumbsOf_30 rfl ?_
      exact wp_lreturn dX12_thumbsOf_31 rfl ⟨rfl, rfl, rfl, rfl, rfl⟩ rfl rfl
    · skip
      rw [if_pos c0, if_pos c1]
      refine wp_lconst (q := 26) dX12_thumbsOf_25 zq_lconst_1 rfl ?_
      refine wp_goto (tgt := 30) dX12_thumbsOf_26 (by decide) ?_
      refine wp_laddN (q := 31) dX12_thumbsOf_30 rfl ?_
      exact wp_lreturn dX12_thumbsOf_31 rfl ⟨rfl, rfl, rfl, rfl, rfl⟩ rfl rfl

