theorem zWc_q {M : zMI} {wa ww : Nat} (j : Nat) (h : zWds M) (hj : j < 18) (e : 227 + j = wa) (ew : zqW j = ww) (hw : ww < 30) (hs : SS[wa]? = some (.inl ((zWL.getD ww []).length, .char))) : zWc M wa ww := ⟨hw, by omega, hs, by rw [← e, ← ew]; exact h.2 j hj⟩
def zfW (x : Nat) : Nat := if x = 16 then 0 else if x = 1 then 1 else if x = 2 then 2 else if x = 9 then 3 else if x = 6 then 4 else if x = 17 then 5 else 99
theorem zfW_v (x : Nat) : zfW x ≤ 5 ∨ zfW x = 99 := by
  unfold zfW
  repeat' split
  all_goals omega
set_option maxHeartbeats 4000000 in
set_option maxRecDepth 100000 in
theorem sp_mqWordHere {d t len c i : Nat} {M : zMI} {L : zML} {b : Nat → Nat} {T : zDD} (h : zAt M b len T c i) (hT : zTok b len T c) (hW : zWds M) : Sy yX12_qWordHere YX12_qWordHere (d + 2) [.ref 177] M L (zRf t) (fun v0 M' L' R' => v0 = some (.int (zwd (zfW (T i 4)))) ∧ L = L' ∧ R' = zRf t ∧ zAt M' b len T c i ∧ M' 177 2 = nI (T i 1) ∧ zPf M M' ∧ ∀ k, k ≠ 2 → M' 177 k = M 177 k) := by
  refine Sp.of (by decide +kernel) rfl (fun h => by first | exact h | cases h) (Nat.le_of_ble_eq_true rfl) ?_
  intro w G
  obtain ⟨x, hx⟩ : ∃ x, T i 4 = x := ⟨_, rfl⟩
  rw [hx]
  refine wp_aload_n (q := 1) dX12_qWordHere_0 0 rfl rfl ?_
  refine wp_aload_n (q := 2) dX12_qWordHere_1 0 rfl rfl ?_
  refine wp_getR (q := 5) dX12_qWordHere_2 zf_RX12_203 rfl zsh_177 (zr_177_81 _) rfl ?_
  refine wp_cvy (q := 8) (sp_mHere (d := 0) (w0 := 16) h hT (zWc_q 12 (zWds_p hW zPf_r) (by decide) rfl rfl (by decide) zsh_239)) zm_X12_isHere zl_RX12_259 dX12_qWordHere_5 rfl (by omega) (Nat.le_of_ble_eq_true rfl) zsh_177 rfl rfl ?_
  rintro _ N1 _ _ ⟨rfl, rfl, rfl, a0, b0, c0, e0⟩
  have p0 : zPf M N1 := zPf_t zPf_r ⟨e0, fun k k1 _ _ _ _ => c0 k k1⟩
  have k0 : ∀ k, k ≠ 2 → N1 177 k = M 177 k := fun k hk => by rw [c0 k hk]
  rw [hx]
  by_cases w0 : x = 16
  · rw [decide_eq_true w0]
    refine wp_if_eq (tgt := 13) (q := 11) dX12_qWordHere_8 (by decide) rfl (fun hn => absurd hn (by decide)) (fun _ => ?_)
    refine wp_iconst (q := 12) dX12_qWordHere_11 zq_iconst_0 rfl ?_
    exact wp_ireturn dX12_qWordHere_12 rfl ⟨rfl, ⟨by unfold zfW; rw [if_pos w0]; rfl, rfl, rfl, a0, b0, p0, k0⟩⟩ rfl rfl
  · rw [decide_eq_false w0]
    refine wp_if_eq (tgt := 13) (q := 11) dX12_qWordHere_8 (by decide) rfl (fun _ => ?_) (fun hn => absurd hn (by decide))
    refine wp_aload_n (q := 14) dX12_qWordHere_13 0 rfl rfl ?_
    refine wp_aload_n (q := 15) dX12_qWordHere_14 0 rfl rfl ?_
    refine wp_getR (q := 18) dX12_qWordHere_15 zf_RX12_206 rfl zsh_177 (zr_177_82 _) rfl ?_
    refine wp_cvy (q := 21) (sp_mHere (d := 0) (w0 := 1) a0 hT (zWc_q 13 (zWds_p hW p0) (by decide) rfl rfl (by decide) zsh_240)) zm_X12_isHere zl_RX12_259 dX12_qWordHere_18 rfl (by omega) (Nat.le_of_ble_eq_true rfl) zsh_177 rfl rfl ?_
    rintro _ N2 _ _ ⟨rfl, rfl, rfl, a1, b1, c1, e1⟩
    have p1 : zPf M N2 := zPf_t p0 ⟨e1, fun k k1 _ _ _ _ => c1 k k1⟩
    have k1 : ∀ k, k ≠ 2 → N2 177 k = M 177 k := fun k hk => by rw [c1 k hk, k0 k hk]
    rw [hx]
    by_cases w1 : x = 1
    · rw [decide_eq_true w1]
      refine wp_if_eq (tgt := 26) (q := 24) dX12_qWordHere_21 (by decide) rfl (fun hn => absurd hn (by decide)) (fun _ => ?_)
      refine wp_iconst (q := 25) dX12_qWordHere_24 zq_iconst_1 rfl ?_
      exact wp_ireturn dX12_qWordHere_25 rfl ⟨rfl, ⟨by unfold zfW; rw [if_neg w0, if_pos w1]; rfl, rfl, rfl, a1, b1, p1, k1⟩⟩ rfl rfl
    · rw [decide_eq_false w1]
      refine wp_if_eq (tgt := 26) (q := 24) dX12_qWordHere_21 (by decide) rfl (fun _ => ?_) (fun hn => absurd hn (by decide))
      refine wp_aload_n (q := 27) dX12_qWordHere_26 0 rfl rfl ?_
      refine wp_aload_n (q := 28) dX12_qWordHere_27 0 rfl rfl ?_
      refine wp_getR (q := 31) dX12_qWordHere_28 zf_RX12_209 rfl zsh_177 (zr_177_83 _) rfl ?_
      refine wp_cvy (q := 34) (sp_mHere (d := 0) (w0 := 2) a1 hT (zWc_q 14 (zWds_p hW p1) (by decide) rfl rfl (by decide) zsh_241)) zm_X12_isHere zl_RX12_259 dX12_qWordHere_31 rfl (by omega) (Nat.le_of_ble_eq_true rfl) zsh_177 rfl rfl ?_
      rintro _ N3 _ _ ⟨rfl, rfl, rfl, a2, b2, c2, e2⟩
      have p2 : zPf M N3 := zPf_t p1 ⟨e2, fun k k1 _ _ _ _ => c2 k k1⟩
      have k2 : ∀ k, k ≠ 2 → N3 177 k = M 177 k := fun k hk => by rw [c2 k hk, k1 k hk]
      rw [hx]
      by_cases w2 : x = 2
      · rw [decide_eq_true w2]
        refine wp_if_eq (tgt := 39) (q := 37) dX12_qWordHere_34 (by decide) rfl (fun hn => absurd hn (by decide)) (fun _ => ?_)
        refine wp_iconst (q := 38) dX12_qWordHere_37 zq_iconst_2 rfl ?_
        exact wp_ireturn dX12_qWordHere_38 rfl ⟨rfl, ⟨by unfold zfW; rw [if_neg w0, if_neg w1, if_pos w2]; rfl, rfl, rfl, a2, b2, p2, k2⟩⟩ rfl rfl
      · rw [decide_eq_false w2]
        refine wp_if_eq (tgt := 39) (q := 37) dX12_qWordHere_34 (by decide) rfl (fun _ => ?_) (fun hn => absurd hn (by decide))
        refine wp_aload_n (q := 40) dX12_qWordHere_39 0 rfl rfl ?_
        refine wp_aload_n (q := 41) dX12_qWordHere_40 0 rfl rfl ?_
        refine wp_getR (q := 44) dX12_qWordHere_41 zf_RX12_212 rfl zsh_177 (zr_177_84 _) rfl ?_
        refine wp_cvy (q := 47) (sp_mHere (d := 0) (w0 := 9) a2 hT (zWc_q 15 (zWds_p hW p2) (by decide) rfl rfl (by decide) zsh_242)) zm_X12_isHere zl_RX12_259 dX12_qWordHere_44 rfl (by omega) (Nat.le_of_ble_eq_true rfl) zsh_177 rfl rfl ?_
        rintro _ N4 _ _ ⟨rfl, rfl, rfl, a3, b3, c3, e3⟩
        have p3 : zPf M N4 := zPf_t p2 ⟨e3, fun k k1 _ _ _ _ => c3 k k1⟩
        have k3 : ∀ k, k ≠ 2 → N4 177 k = M 177 k := fun k hk => by rw [c3 k hk, k2 k hk]
        rw [hx]
        by_cases w3 : x = 9
        · rw [decide_eq_true w3]
          refine wp_if_eq (tgt := 52) (q := 50) dX12_qWordHere_47 (by decide) rfl (fun hn => absurd hn (by decide)) (fun _ => ?_)
          refine wp_iconst (q := 51) dX12_qWordHere_50 zq_iconst_3 rfl ?_
          exact wp_ireturn dX12_qWordHere_51 rfl ⟨rfl, ⟨by unfold zfW; rw [if_neg w0, if_neg w1, if_neg w2, if_pos w3]; rfl, rfl, rfl, a3, b3, p3, k3⟩⟩ rfl rfl
        · rw [decide_eq_false w3]
          refine wp_if_eq (tgt := 52) (q := 50) dX12_qWordHere_47 (by decide) rfl (fun _ => ?_) (fun hn => absurd hn (by decide))
          refine wp_aload_n (q := 53) dX12_qWordHere_52 0 rfl rfl ?_
          refine wp_aload_n (q := 54) dX12_qWordHere_53 0 rfl rfl ?_
          refine wp_getR (q := 57) dX12_qWordHere_54 zf_RX12_215 rfl zsh_177 (zr_177_85 _) rfl ?_
          refine wp_cvy (q := 60) (sp_mHere (d := 0) (w0 := 6) a3 hT (zWc_q 16 (zWds_p hW p3) (by decide) rfl rfl (by decide) zsh_243)) zm_X12_isHere zl_RX12_259 dX12_qWordHere_57 rfl (by omega) (Nat.le_of_ble_eq_true rfl) zsh_177 rfl rfl ?_
          rintro _ N5 _ _ ⟨rfl, rfl, rfl, a4, b4, c4, e4⟩
          have p4 : zPf M N5 := zPf_t p3 ⟨e4, fun k k1 _ _ _ _ => c4 k k1⟩
          have k4 : ∀ k, k ≠ 2 → N5 177 k = M 177 k := fun k hk => by rw [c4 k hk, k3 k hk]
          rw [hx]
          by_cases w4 : x = 6
          · rw [decide_eq_true w4]
            refine wp_if_eq (tgt := 65) (q := 63) dX12_qWordHere_60 (by decide) rfl (fun hn => absurd hn (by decide)) (fun _ => ?_)
            refine wp_iconst (q := 64) dX12_qWordHere_63 zq_iconst_4 rfl ?_
            exact wp_ireturn dX12_qWordHere_64 rfl ⟨rfl, ⟨by unfold zfW; rw [if_neg w0, if_neg w1, if_neg w2, if_neg w3, if_pos w4]; rfl, rfl, rfl, a4, b4, p4, k4⟩⟩ rfl rfl
          · rw [decide_eq_false w4]
            refine wp_if_eq (tgt := 65) (q := 63) dX12_qWordHere_60 (by decide) rfl (fun _ => ?_) (fun hn => absurd hn (by decide))
            refine wp_aload_n (q := 66) dX12_qWordHere_65 0 rfl rfl ?_
            refine wp_aload_n (q := 67) dX12_qWordHere_66 0 rfl rfl ?_
            refine wp_getR (q := 70) dX12_qWordHere_67 zf_RX12_218 rfl zsh_177 (zr_177_86 _) rfl ?_
            refine wp_cvy (q := 73) (sp_mHere (d := 0) (w0 := 17) a4 hT (zWc_q 17 (zWds_p hW p4) (by decide) rfl rfl (by decide) zsh_244)) zm_X12_isHere zl_RX12_259 dX12_qWordHere_70 rfl (by omega) (Nat.le_of_ble_eq_true rfl) zsh_177 rfl rfl ?_
            rintro _ N6 _ _ ⟨rfl, rfl, rfl, a5, b5, c5, e5⟩
            have p5 : zPf M N6 := zPf_t p4 ⟨e5, fun k k1 _ _ _ _ => c5 k k1⟩
            have k5 : ∀ k, k ≠ 2 → N6 177 k = M 177 k := fun k hk => by rw [c5 k hk, k4 k hk]
            rw [hx]
            by_cases w5 : x = 17
            · rw [decide_eq_true w5]
              refine wp_if_eq (tgt := 78) (q := 76) dX12_qWordHere_73 (by decide) rfl (fun hn => absurd hn (by decide)) (fun _ => ?_)
              refine wp_iconst (q := 77) dX12_qWordHere_76 zq_iconst_5 rfl ?_
              exact wp_ireturn dX12_qWordHere_77 rfl ⟨rfl, ⟨by unfold zfW; rw [if_neg w0, if_neg w1, if_neg w2, if_neg w3, if_neg w4, if_pos w5]; rfl, rfl, rfl, a5, b5, p5, k5⟩⟩ rfl rfl
            · rw [decide_eq_false w5]
              refine wp_if_eq (tgt := 78) (q := 76) dX12_qWordHere_73 (by decide) rfl (fun _ => ?_) (fun hn => absurd hn (by decide))
              refine wp_iconst (q := 79) dX12_qWordHere_78 zq_iconst_m1 rfl ?_
              exact wp_ireturn dX12_qWordHere_79 rfl ⟨rfl, ⟨by unfold zfW; rw [if_neg w0, if_neg w1, if_neg w2, if_neg w3, if_neg w4, if_neg w5]; rfl, rfl, rfl, a5, b5, p5, k5⟩⟩ rfl rfl
theorem zm1_lt {f : Nat} (h : f < 30) : (-1 : Int32) < nI f := by
  have e : ∀ f, f < 30 → (-1 : Int32) < nI f := by decide +kernel
  exact e f h
theorem zfW_i {x : Nat} {k : Nat} (h : zfW x = k) : (k = 0 → x = 16) ∧ (k = 1 → x = 1) ∧ (k = 2 → x = 2) ∧ (k = 3 → x = 9) ∧ (k = 4 → x = 6) ∧ (k = 5 → x = 17) := by
  unfold zfW at h
  refine ⟨?_, ?_, ?_, ?_, ?_, ?_⟩ <;> intro e <;> rw [e] at h <;> (repeat' split at h) <;> omega
set_option maxHeartbeats 4000000 in
set_option maxRecDepth 100000 in
theorem sp_mqWordOf {d t len c i f l : Nat} {M : zMI} {L : zML} {b : Nat → Nat} {T : zDD} (h : zAt M b len T c i) (hT : zTok b len T c) (hW : zWds M) (hf : f < 30) (hl : l < 30) : Sy yX12_qWordOf YX12_qWordOf (d + 3) [.ref 177, .int (nI f), .int (nI l)] M L (zRf t) (fun v0 M' L' R' => v0 = some (.int (zwd (if f ≤ zfW (T i 4) ∧ zfW (T i 4) < l then zfW (T i 4) else 99))) ∧ L = L' ∧ R' = zRf t ∧ zAt M' b len T c i ∧ M' 177 2 = nI (T i 1) ∧ zPf M M' ∧ ∀ k, k ≠ 2 → M' 177 k = M 177 k) := by
  refine Sp.of (by decide +kernel) rfl (fun h => by first | exact h | cases h) (Nat.le_of_ble_eq_true rfl) ?_
  intro w G
  refine wp_aload_n (q := 1) dX12_qWordOf_0 0 rfl rfl ?_
  refine wp_cvy (q := 4) (sp_mqWordHere (d := 0) h hT hW) zm_X12_qWordHere zl_RX12_618 dX12_qWordOf_1 rfl (by omega) (Nat.le_of_ble_eq_true rfl) zsh_177 rfl rfl ?_
  rintro _ N1 _ _ ⟨rfl, rfl, rfl, a1, b1, p1, k1⟩
  have hv := zfW_v (T i 4)
  obtain ⟨z, hz⟩ : ∃ z, zfW (T i 4) = z := ⟨_, rfl⟩
  rw [hz] at hv ⊢
  by_cases h5 : z ≤ 5
  · rw [show zwd z = nI z from if_pos (by omega)]
    refine wp_istore_n (q := 5) (loc' := [(3, _), (0, _), (1, _), (2, _)]) dX12_qWordOf_4 rfl (by decide) rfl rfl ?_
    refine wp_iload_n (q := 6) dX12_qWordOf_5 0 rfl rfl ?_
    refine wp_iload_n (q := 7) dX12_qWordOf_6 2 rfl rfl ?_
    refine wp_icmp_ltN (tgt := 19) (q := 10) dX12_qWordOf_7 (by decide) rfl (by omega) (by omega) (fun c1 => ?_) (fun c1 => ?_)
    · skip
      refine wp_iconst (q := 20) dX12_qWordOf_19 zq_iconst_m1 rfl ?_
      exact wp_ireturn dX12_qWordOf_20 rfl ⟨rfl, ⟨by rw [if_neg (by omega)]; rfl, rfl, rfl, a1, b1, p1, k1⟩⟩ rfl rfl
    · skip
      refine wp_iload_n (q := 11) dX12_qWordOf_10 0 rfl rfl ?_
      refine wp_iload_n (q := 12) dX12_qWordOf_11 3 rfl rfl ?_
      refine wp_icmp_geN (tgt := 19) (q := 15) dX12_qWordOf_12 (by decide) rfl (by omega) (by omega) (fun c2 => ?_) (fun c2 => ?_)
      · skip
        refine wp_iconst (q := 20) dX12_qWordOf_19 zq_iconst_m1 rfl ?_
        exact wp_ireturn dX12_qWordOf_20 rfl ⟨rfl, ⟨by rw [if_neg (by omega)]; rfl, rfl, rfl, a1, b1, p1, k1⟩⟩ rfl rfl
      · skip
        refine wp_iload_n (q := 16) dX12_qWordOf_15 0 rfl rfl ?_
        refine wp_goto (tgt := 20) dX12_qWordOf_16 (by decide) ?_
        exact wp_ireturn dX12_qWordOf_20 rfl ⟨rfl, ⟨by rw [if_pos (by omega)]; exact congrArg (fun x => some (Value.int x)) (if_pos (show z < 30 by omega)).symm, rfl, rfl, a1, b1, p1, k1⟩⟩ rfl rfl
  · have h99 : z = 99 := by omega
    rw [show zwd z = -1 from if_neg (by omega)]
    refine wp_istore_n (q := 5) (loc' := [(3, _), (0, _), (1, _), (2, _)]) dX12_qWordOf_4 rfl (by decide) rfl rfl ?_
    refine wp_iload_n (q := 6) dX12_qWordOf_5 0 rfl rfl ?_
    refine wp_iload_n (q := 7) dX12_qWordOf_6 2 rfl rfl ?_
    refine wp_icmp_lt (tgt := 19) (q := 10) dX12_qWordOf_7 (by decide) rfl (fun _ => ?_) (fun hn => absurd hn (by exact fun e => e (zm1_lt hf)))
    refine wp_iconst (q := 20) dX12_qWordOf_19 zq_iconst_m1 rfl ?_
    exact wp_ireturn dX12_qWordOf_20 rfl ⟨rfl, ⟨by rw [if_neg (by omega)]; rfl, rfl, rfl, a1, b1, p1, k1⟩⟩ rfl rfl
set_option maxHeartbeats 4000000 in
set_option maxRecDepth 100000 in
theorem sp_mqAsksWord {d t len c i k : Nat} {M : zMI} {L : zML} {b : Nat → Nat} {T : zDD} (h : zAt M b len T c i) (hT : zTok b len T c) (hW : zWds M) (hk : zfW (T i 4) = k) (hk5 : k ≤ 5) : Sy yX12_qAsksWord YX12_qAsksWord (d + 4) [.ref 177, .int (nI k)] M L (zRf t) (fun v0 M' L' R' => v0 = none ∧ L = L' ∧ R' = zRf t ∧ zAt M' b len T c (i + 1) ∧ M' 177 6 = M 177 6 ∧ zPf M M') := by
  refine Sp.of (by decide +kernel) rfl (fun h => by first | exact h | cases h) (Nat.le_of_ble_eq_true rfl) ?_
  intro w G
  have hc : k = 0 ∨ k = 1 ∨ k = 2 ∨ k = 3 ∨ k = 4 ∨ k = 5 := by omega
  rcases hc with rfl | rfl | rfl | rfl | rfl | rfl
  · have hw : T i 4 = 16 := (zfW_i hk).1 rfl
    refine wp_iload_n (q := 1) dX12_qAsksWord_0 1 rfl rfl ?_
    refine wp_tsIn (tgt := 36) (off := 35) dX12_qAsksWord_1 (by decide) (by decide) (by rfl) (by decide) ?_
    refine wp_aload_n (q := 37) dX12_qAsksWord_36 0 rfl rfl ?_
    refine wp_aload_n (q := 38) dX12_qAsksWord_37 0 rfl rfl ?_
    refine wp_getR (q := 41) dX12_qAsksWord_38 zf_RX12_203 rfl zsh_177 (zr_177_81 _) rfl ?_
    refine wp_cvy (q := 44) (sp_masks (d := 0) (w0 := 16) h hT (zWc_q 12 hW (by decide) rfl rfl (by decide) zsh_239)) zm_X12_asks zl_RX12_302 dX12_qAsksWord_41 rfl (by omega) (Nat.le_of_ble_eq_true rfl) zsh_177 rfl rfl ?_
    rintro _ N1 _ _ ⟨rfl, rfl, rfl, p1, q1, q2⟩
    refine wp_goto (tgt := 99) dX12_qAsksWord_44 (by decide) ?_
    exact wp_return dX12_qAsksWord_99 rfl ⟨rfl, ⟨rfl, rfl, rfl, (q1 hw).1, (q1 hw).2, p1⟩⟩ rfl rfl
  · have hw : T i 4 = 1 := (zfW_i hk).2.1 rfl
    refine wp_iload_n (q := 1) dX12_qAsksWord_0 1 rfl rfl ?_
    refine wp_tsIn (tgt := 47) (off := 46) dX12_qAsksWord_1 (by decide) (by decide) (by rfl) (by decide) ?_
    refine wp_aload_n (q := 48) dX12_qAsksWord_47 0 rfl rfl ?_
    refine wp_aload_n (q := 49) dX12_qAsksWord_48 0 rfl rfl ?_
    refine wp_getR (q := 52) dX12_qAsksWord_49 zf_RX12_206 rfl zsh_177 (zr_177_82 _) rfl ?_
    refine wp_cvy (q := 55) (sp_masks (d := 0) (w0 := 1) h hT (zWc_q 13 hW (by decide) rfl rfl (by decide) zsh_240)) zm_X12_asks zl_RX12_302 dX12_qAsksWord_52 rfl (by omega) (Nat.le_of_ble_eq_true rfl) zsh_177 rfl rfl ?_
    rintro _ N1 _ _ ⟨rfl, rfl, rfl, p1, q1, q2⟩
    refine wp_goto (tgt := 99) dX12_qAsksWord_55 (by decide) ?_
    exact wp_return dX12_qAsksWord_99 rfl ⟨rfl, ⟨rfl, rfl, rfl, (q1 hw).1, (q1 hw).2, p1⟩⟩ rfl rfl
  · have hw : T i 4 = 2 := (zfW_i hk).2.2.1 rfl
    refine wp_iload_n (q := 1) dX12_qAsksWord_0 1 rfl rfl ?_
    refine wp_tsIn (tgt := 58) (off := 57) dX12_qAsksWord_1 (by decide) (by decide) (by rfl) (by decide) ?_
    refine wp_aload_n (q := 59) dX12_qAsksWord_58 0 rfl rfl ?_
    refine wp_aload_n (q := 60) dX12_qAsksWord_59 0 rfl rfl ?_
    refine wp_getR (q := 63) dX12_qAsksWord_60 zf_RX12_209 rfl zsh_177 (zr_177_83 _) rfl ?_
    refine wp_cvy (q := 66) (sp_masks (d := 0) (w0 := 2) h hT (zWc_q 14 hW (by decide) rfl rfl (by decide) zsh_241)) zm_X12_asks zl_RX12_302 dX12_qAsksWord_63 rfl (by omega) (Nat.le_of_ble_eq_true rfl) zsh_177 rfl rfl ?_
    rintro _ N1 _ _ ⟨rfl, rfl, rfl, p1, q1, q2⟩
    refine wp_goto (tgt := 99) dX12_qAsksWord_66 (by decide) ?_
    exact wp_return dX12_qAsksWord_99 rfl ⟨rfl, ⟨rfl, rfl, rfl, (q1 hw).1, (q1 hw).2, p1⟩⟩ rfl rfl
  · have hw : T i 4 = 9 := (zfW_i hk).2.2.2.1 rfl
    refine wp_iload_n (q := 1) dX12_qAsksWord_0 1 rfl rfl ?_
    refine wp_tsIn (tgt := 69) (off := 68) dX12_qAsksWord_1 (by decide) (by decide) (by rfl) (by decide) ?_
    refine wp_aload_n (q := 70) dX12_qAsksWord_69 0 rfl rfl ?_
    refine wp_aload_n (q := 71) dX12_qAsksWord_70 0 rfl rfl ?_
    refine wp_getR (q := 74) dX12_qAsksWord_71 zf_RX12_212 rfl zsh_177 (zr_177_84 _) rfl ?_
    refine wp_cvy (q := 77) (sp_masks (d := 0) (w0 := 9) h hT (zWc_q 15 hW (by decide) rfl rfl (by decide) zsh_242)) zm_X12_asks zl_RX12_302 dX12_qAsksWord_74 rfl (by omega) (Nat.le_of_ble_eq_true rfl) zsh_177 rfl rfl ?_
    rintro _ N1 _ _ ⟨rfl, rfl, rfl, p1, q1, q2⟩
    refine wp_goto (tgt := 99) dX12_qAsksWord_77 (by decide) ?_
    exact wp_return dX12_qAsksWord_99 rfl ⟨rfl, ⟨rfl, rfl, rfl, (q1 hw).1, (q1 hw).2, p1⟩⟩ rfl rfl
  · have hw : T i 4 = 6 := (zfW_i hk).2.2.2.2.1 rfl
    refine wp_iload_n (q := 1) dX12_qAsksWord_0 1 rfl rfl ?_
    refine wp_tsIn (tgt := 80) (off := 79) dX12_qAsksWord_1 (by decide) (by decide) (by rfl) (by decide) ?_
    refine wp_aload_n (q := 81) dX12_qAsksWord_80 0 rfl rfl ?_
    refine wp_aload_n (q := 82) dX12_qAsksWord_81 0 rfl rfl ?_
    refine wp_getR (q := 85) dX12_qAsksWord_82 zf_RX12_215 rfl zsh_177 (zr_177_85 _) rfl ?_
    refine wp_cvy (q := 88) (sp_masks (d := 0) (w0 := 6) h hT (zWc_q 16 hW (by decide) rfl rfl (by decide) zsh_243)) zm_X12_asks zl_RX12_302 dX12_qAsksWord_85 rfl (by omega) (Nat.le_of_ble_eq_true rfl) zsh_177 rfl rfl ?_
    rintro _ N1 _ _ ⟨rfl, rfl, rfl, p1, q1, q2⟩
    refine wp_goto (tgt := 99) dX12_qAsksWord_88 (by decide) ?_
    exact wp_return dX12_qAsksWord_99 rfl ⟨rfl, ⟨rfl, rfl, rfl, (q1 hw).1, (q1 hw).2, p1⟩⟩ rfl rfl
  · have hw : T i 4 = 17 := (zfW_i hk).2.2.2.2.2 rfl
    refine wp_iload_n (q := 1) dX12_qAsksWord_0 1 rfl rfl ?_
    refine wp_tsOut (tgt := 91) dX12_qAsksWord_1 (by decide) (by decide) ?_
    refine wp_aload_n (q := 92) dX12_qAsksWord_91 0 rfl rfl ?_
    refine wp_aload_n (q := 93) dX12_qAsksWord_92 0 rfl rfl ?_
    refine wp_getR (q := 96) dX12_qAsksWord_93 zf_RX12_218 rfl zsh_177 (zr_177_86 _) rfl ?_
    refine wp_cvy (q := 99) (sp_masks (d := 0) (w0 := 17) h hT (zWc_q 17 hW (by decide) rfl rfl (by decide) zsh_244)) zm_X12_asks zl_RX12_302 dX12_qAsksWord_96 rfl (by omega) (Nat.le_of_ble_eq_true rfl) zsh_177 rfl rfl ?_
    rintro _ N1 _ _ ⟨rfl, rfl, rfl, p1, q1, q2⟩
    exact wp_return dX12_qAsksWord_99 rfl ⟨rfl, ⟨rfl, rfl, rfl, (q1 hw).1, (q1 hw).2, p1⟩⟩ rfl rfl
set_option maxHeartbeats 4000000 in
set_option maxRecDepth 100000 in
theorem sp_mqAsksWordB {d t bd : Nat} {M : zMI} {L : zML} (h : M 177 5 = nI bd) (h0 : bd ≠ 0) (h9 : bd < 10) : Sx yX12_qAsksWord YX12_qAsksWord (d + 4) [.ref 177, .int (nI 5)] M L (zRf t) (none) M L (zRf t) := by
  refine Sp.of (by decide +kernel) rfl (fun h => by first | exact h | cases h) (Nat.le_of_ble_eq_true rfl) ?_
  intro w G
  refine wp_iload_n (q := 1) dX12_qAsksWord_0 1 rfl rfl ?_
  refine wp_tsOut (tgt := 91) dX12_qAsksWord_1 (by decide) (by decide) ?_
  refine wp_aload_n (q := 92) dX12_qAsksWord_91 0 rfl rfl ?_
  refine wp_aload_n (q := 93) dX12_qAsksWord_92 0 rfl rfl ?_
  refine wp_getR (q := 96) dX12_qAsksWord_93 zf_RX12_218 rfl zsh_177 (zr_177_86 _) rfl ?_
  refine wp_cvx (q := 99) (sp_masksB (d := 0) h h0 h9) zm_X12_asks zl_RX12_302 dX12_qAsksWord_96 rfl (by omega) (Nat.le_of_ble_eq_true rfl) zsh_177 rfl rfl ?_
  exact wp_return dX12_qAsksWord_99 rfl ⟨rfl, rfl, rfl, rfl, rfl⟩ rfl rfl

