theorem zok_8 {T : Nat → Nat → Nat} {c k : Nat} {p : zP} (h : zok T c k p) : zok T c 8 p := by
  obtain ⟨a, b, e⟩ := h
  refine ⟨by decide, b, ?_⟩
  rcases e with e | ⟨m, e1, e2, e3⟩
  · exact Or.inl e
  · exact Or.inr ⟨m, e1, e2, by omega⟩
set_option maxHeartbeats 4000000 in
set_option maxRecDepth 100000 in
theorem sp_turned {d dd t c k : Nat} {M : zMI} {L : zML} {T : Nat → Nat → Nat} {p : zP} {F : zFl} (hdd : dd + 1 ≤ d) (hd1 : 3 ≤ d) (hft : ∀ (M : zMI) (p : zP) (F : zFl), zSM M T c true 39 (p, F) → zok T c k p → Sy yX5_fact YX5_fact dd [.ref 38] M L (zRf t) (zSP M L T c true 39 t (zqf T c k p F))) (h : zSM M T c true 39 (p, F)) (hQ : zok T c k (zpe T c p)) : Sy yX5_turned YX5_turned (d) [.ref 38] M L (zRf t) (fun v0 M' L' R' => zSP M L T c true 39 t (zpl (zqf T c k (zpe T c p) F).1, (zqf T c k (zpe T c p) F).2 ++ [(2, 0)]) v0 M' L' R') := by
  refine Sp.of (by decide +kernel) rfl (fun h => by first | exact h | cases h) (Nat.le_of_ble_eq_true rfl) ?_
  intro w G
  have hf : zFo 39 := Or.inr (Or.inr (Or.inr (Or.inr rfl)))
  refine wp_aload_n (q := 1) dX5_turned_0 0 rfl rfl ?_
  refine wp_getR (q := 4) dX5_turned_1 zf_RX5_26 rfl zsh_38 (zr_38_0 _) rfl ?_
  refine wp_cvy (q := 7) (sp_enter (d := 0) h.1) zm_X10_enter zl_RX5_86 dX5_turned_4 rfl (by omega) (Nat.le_of_ble_eq_true rfl) zsh_2 rfl rfl ?_
  rintro _ M2 _ _ ⟨rfl, rfl, rfl, h2, hx2⟩
  refine wp_aload_n (q := 8) dX5_turned_7 0 rfl rfl ?_
  refine wp_cvy (q := 11) (hft M2 _ F (zSM_t hf h h2 hx2) hQ) zm_X5_fact zl_RX5_77 dX5_turned_8 rfl (by omega) (Nat.le_of_ble_eq_true rfl) zsh_38 rfl rfl ?_
  rintro _ M3 _ _ ⟨rfl, rfl, rfl, h3, hx3⟩
  refine wp_aload_n (q := 12) dX5_turned_11 0 rfl rfl ?_
  refine wp_getR (q := 15) dX5_turned_12 zf_RX5_26 rfl zsh_38 (zr_38_0 _) rfl ?_
  refine wp_cvy (q := 18) (sp_leave (d := 0) h3.1) zm_X10_leave zl_RX5_93 dX5_turned_15 rfl (by omega) (Nat.le_of_ble_eq_true rfl) zsh_2 rfl rfl ?_
  rintro _ M4 _ _ ⟨rfl, rfl, rfl, h4, hx4⟩
  have h4' := zSM_t hf h3 h4 hx4
  refine wp_aload_n (q := 19) dX5_turned_18 0 rfl rfl ?_
  refine wp_getR (q := 22) dX5_turned_19 zf_RX5_12 rfl zsh_38 (zr_38_2 _) rfl ?_
  refine wp_iconst (q := 23) dX5_turned_22 zq_iconst_2 rfl ?_
  refine wp_iconst (q := 24) dX5_turned_23 zq_iconst_0 rfl ?_
  refine wp_cvy (q := 27) (sp_fad (d := 0) hf h4'.2.1 (by decide : 2 ≤ 14) (by decide : 0 ≤ 9999)) zm_X0_add zl_RX5_73 dX5_turned_24 rfl (by omega) (Nat.le_of_ble_eq_true rfl) zsh_39 rfl rfl ?_
  rintro _ M5 _ _ ⟨rfl, rfl, rfl, h5, hx5⟩
  exact wp_return dX5_turned_27 rfl ⟨rfl, ⟨rfl, rfl, rfl, zSM_f hf h4' h5 hx5, fun x x1 x2 x3 => by rw [hx5 x x2 x3, hx4 x x1, hx3 x x1 x2 x3, hx2 x x1]⟩⟩ rfl rfl
set_option maxHeartbeats 4000000 in
set_option maxRecDepth 100000 in
theorem sp_fact1 {d dd t c k : Nat} {M : zMI} {L : zML} {T : Nat → Nat → Nat} {p : zP} {F : zFl} (hdd : dd + 2 ≤ d) (hd1 : 38 ≤ dd) (hE : zTE T c) (hft : ∀ (M : zMI) (p : zP) (F : zFl), zSM M T c true 39 (p, F) → zok T c k p → Sy yX5_fact YX5_fact dd [.ref 38] M L (zRf t) (zSP M L T c true 39 t (zqf T c k p F))) (hte : ∀ (M : zMI) (p : zP) (F : zFl), zSM M T c true 39 (p, F) → zok T c k p → Sy yX5_test YX5_test dd [.ref 38] M L (zRf t) (zSP M L T c true 39 t (zlx T c 18 14 (zlx T c 19 13 (zqf T c k)) p F))) (h : zSM M T c true 39 (p, F)) (hQ : zok T c (k + 1) p) {r : zPF} (hr : zqf T c (k + 1) p F = r) : Sy yX5_fact YX5_fact (d) [.ref 38] M L (zRf t) (fun v0 M' L' R' => zSP M L T c true 39 t r v0 M' L' R') := by
  refine Sp.of (by decide +kernel) rfl (fun h => by first | exact h | cases h) (Nat.le_of_ble_eq_true rfl) ?_
  intro w G
  have hf : zFo 39 := Or.inr (Or.inr (Or.inr (Or.inr rfl)))
  rw [zqf] at hr
  refine wp_aload_n (q := 1) dX5_fact_0 0 rfl rfl ?_
  refine wp_getR (q := 4) dX5_fact_1 zf_RX5_26 rfl zsh_38 (zr_38_0 _) rfl ?_
  refine wp_bipush (q := 6) dX5_fact_4 zq_bipush_20 rfl ?_
  refine wp_cvx (q := 9) (sp_atWord (d := 0) (s := 20) h.1 (by decide)) zm_X10_atWord zl_RX5_66 dX5_fact_6 rfl (by omega) (Nat.le_of_ble_eq_true rfl) zsh_2 rfl rfl ?_
  by_cases c1 : T p.1 4 = 20
  · rw [if_pos c1] at hr
    rw [if_pos c1]
    refine wp_if_eqN (tgt := 19) (q := 12) dX5_fact_9 (by decide) rfl (by omega) (fun hn => absurd hn (by omega)) (fun _ => ?_)
    refine wp_aload_n (q := 13) dX5_fact_12 0 rfl rfl ?_
    refine wp_cvy (q := 16) (sp_turned (d := dd + 1) (k := k) (F := F) (Nat.le_refl _) (by omega) hft h (zok_e hE hQ (zTE_w hE hQ.2.1 (by omega)))) zm_X5_turned zl_RX5_80 dX5_fact_13 rfl (by omega) (Nat.le_of_ble_eq_true rfl) zsh_38 rfl rfl ?_
    rintro _ M4 _ _ ⟨rfl, rfl, rfl, h4, hx4⟩
    refine wp_goto (tgt := 96) dX5_fact_16 (by decide) ?_
    exact wp_return dX5_fact_96 rfl ⟨rfl, ⟨rfl, rfl, rfl, by rw [← hr]; exact h4, hx4⟩⟩ rfl rfl
  · rw [if_neg c1] at hr
    rw [if_neg c1]
    refine wp_if_eqN (tgt := 19) (q := 12) dX5_fact_9 (by decide) rfl (by omega) (fun _ => ?_) (fun hn => absurd hn (by omega))
    refine wp_aload_n (q := 20) dX5_fact_19 0 rfl rfl ?_
    refine wp_getR (q := 23) dX5_fact_20 zf_RX5_26 rfl zsh_38 (zr_38_0 _) rfl ?_
    refine wp_bipush (q := 25) dX5_fact_23 zq_bipush_91 rfl ?_
    refine wp_cvx (q := 28) (sp_atSign (d := 0) (s := 91) h.1 (by decide)) zm_X10_atSign zl_RX5_83 dX5_fact_25 rfl (by omega) (Nat.le_of_ble_eq_true rfl) zsh_2 rfl rfl ?_
    by_cases c2 : zpS T p 91 = true
    · rw [if_pos c2] at hr
      rw [if_pos c2]
      refine wp_if_eqN (tgt := 61) (q := 31) dX5_fact_28 (by decide) rfl (by omega) (fun hn => absurd hn (by omega)) (fun _ => ?_)
      refine wp_aload_n (q := 32) dX5_fact_31 0 rfl rfl ?_
      refine wp_getR (q := 35) dX5_fact_32 zf_RX5_26 rfl zsh_38 (zr_38_0 _) rfl ?_
      refine wp_cvy (q := 38) (sp_enter (d := 0) h.1) zm_X10_enter zl_RX5_86 dX5_fact_35 rfl (by omega) (Nat.le_of_ble_eq_true rfl) zsh_2 rfl rfl ?_
      rintro _ M3 _ _ ⟨rfl, rfl, rfl, h3, hx3⟩
      refine wp_aload_n (q := 39) dX5_fact_38 0 rfl rfl ?_
      refine wp_cvy (q := 42) (hte M3 _ F (zSM_t hf h h3 hx3) (zok_e hE hQ (zpS_0 c2))) zm_X5_test zl_RX5_49 dX5_fact_39 rfl (by omega) (Nat.le_of_ble_eq_true rfl) zsh_38 rfl rfl ?_
      rintro _ M4 _ _ ⟨rfl, rfl, rfl, h4, hx4⟩
      refine wp_aload_n (q := 43) dX5_fact_42 0 rfl rfl ?_
      refine wp_getR (q := 46) dX5_fact_43 zf_RX5_26 rfl zsh_38 (zr_38_0 _) rfl ?_
      refine wp_bipush (q := 48) dX5_fact_46 zq_bipush_93 rfl ?_
      refine wp_cvy (q := 51) (sp_needSign (d := 0) (s := 93) h4.1 (by decide)) zm_X10_needSign zl_RX5_89 dX5_fact_48 rfl (by omega) (Nat.le_of_ble_eq_true rfl) zsh_2 rfl rfl ?_
      rintro _ M5 _ _ ⟨rfl, rfl, rfl, h5, hx5⟩
      have h5' := zSM_t hf h4 h5 hx5
      refine wp_aload_n (q := 52) dX5_fact_51 0 rfl rfl ?_
      refine wp_getR (q := 55) dX5_fact_52 zf_RX5_26 rfl zsh_38 (zr_38_0 _) rfl ?_
      refine wp_cvy (q := 58) (sp_leave (d := 0) h5) zm_X10_leave zl_RX5_93 dX5_fact_55 rfl (by omega) (Nat.le_of_ble_eq_true rfl) zsh_2 rfl rfl ?_
      rintro _ M6 _ _ ⟨rfl, rfl, rfl, h6, hx6⟩
      refine wp_goto (tgt := 96) dX5_fact_58 (by decide) ?_
      exact wp_return dX5_fact_96 rfl ⟨rfl, ⟨rfl, rfl, rfl, by rw [← hr]; exact zSM_t hf h5' h6 hx6, fun x x1 x2 x3 => by rw [hx6 x x1, hx5 x x1, hx4 x x1 x2 x3, hx3 x x1]⟩⟩ rfl rfl
    · rw [if_neg c2] at hr
      rw [if_neg c2]
      refine wp_if_eqN (tgt := 61) (q := 31) dX5_fact_28 (by decide) rfl (by omega) (fun _ => ?_) (fun hn => absurd hn (by omega))
      refine wp_aload_n (q := 62) dX5_fact_61 0 rfl rfl ?_
      refine wp_getR (q := 65) dX5_fact_62 zf_RX5_26 rfl zsh_38 (zr_38_0 _) rfl ?_
      refine wp_bipush (q := 67) dX5_fact_65 zq_bipush_21 rfl ?_
      refine wp_cvx (q := 70) (sp_atWord (d := 0) (s := 21) h.1 (by decide)) zm_X10_atWord zl_RX5_66 dX5_fact_67 rfl (by omega) (Nat.le_of_ble_eq_true rfl) zsh_2 rfl rfl ?_
      by_cases c3 : T p.1 4 = 21
      · rw [if_pos c3] at hr
        rw [if_pos c3]
        refine wp_if_eqN (tgt := 92) (q := 73) dX5_fact_70 (by decide) rfl (by omega) (fun hn => absurd hn (by omega)) (fun _ => ?_)
        refine wp_aload_n (q := 74) dX5_fact_73 0 rfl rfl ?_
        refine wp_getR (q := 77) dX5_fact_74 zf_RX5_26 rfl zsh_38 (zr_38_0 _) rfl ?_
        refine wp_cvy (q := 80) (sp_next (d := 0) h.1) zm_X10_next zl_RX5_70 dX5_fact_77 rfl (by omega) (Nat.le_of_ble_eq_true rfl) zsh_2 rfl rfl ?_
        rintro _ M2 _ _ ⟨rfl, rfl, rfl, h2, hx2⟩
        have h2' := zSM_t hf h h2 hx2
        refine wp_aload_n (q := 81) dX5_fact_80 0 rfl rfl ?_
        refine wp_getR (q := 84) dX5_fact_81 zf_RX5_12 rfl zsh_38 (zr_38_2 _) rfl ?_
        refine wp_iconst (q := 85) dX5_fact_84 zq_iconst_0 rfl ?_
        refine wp_iconst (q := 86) dX5_fact_85 zq_iconst_1 rfl ?_
        refine wp_cvy (q := 89) (sp_fad (d := 0) hf h2'.2.1 (by decide : 0 ≤ 14) (by decide : 1 ≤ 9999)) zm_X0_add zl_RX5_73 dX5_fact_86 rfl (by omega) (Nat.le_of_ble_eq_true rfl) zsh_39 rfl rfl ?_
        rintro _ M3 _ _ ⟨rfl, rfl, rfl, h3, hx3⟩
        refine wp_goto (tgt := 96) dX5_fact_89 (by decide) ?_
        exact wp_return dX5_fact_96 rfl ⟨rfl, ⟨rfl, rfl, rfl, by rw [← hr]; exact zSM_f hf h2' h3 hx3, fun x x1 x2 x3 => by rw [hx3 x x2 x3, hx2 x x1]⟩⟩ rfl rfl
      · rw [if_neg c3] at hr
        rw [if_neg c3]
        refine wp_if_eqN (tgt := 92) (q := 73) dX5_fact_70 (by decide) rfl (by omega) (fun _ => ?_) (fun hn => absurd hn (by omega))
        refine wp_aload_n (q := 93) dX5_fact_92 0 rfl rfl ?_
        refine wp_cvy (q := 96) (sp_compare (d := dd - 38 + 1) hE h (zok_8 hQ) hr) zm_X5_compare zl_RX5_96 dX5_fact_93 rfl (by omega) (Nat.le_of_ble_eq_true rfl) zsh_38 rfl rfl ?_
        rintro _ M4 _ _ ⟨rfl, rfl, rfl, h4, hx4⟩
        exact wp_return dX5_fact_96 rfl ⟨rfl, ⟨rfl, rfl, rfl, h4, hx4⟩⟩ rfl rfl
theorem sp_testOf {t c k : Nat} {L : zML} {T : Nat → Nat → Nat} (hE : zTE T c) (hft : ∀ (d : Nat) (M : zMI) (p : zP) (F : zFl), 4 * k + 40 ≤ d → zSM M T c true 39 (p, F) → zok T c k p → Sy yX5_fact YX5_fact d [.ref 38] M L (zRf t) (zSP M L T c true 39 t (zqf T c k p F))) (d : Nat) (M : zMI) (p : zP) (F : zFl) (hd : 4 * k + 42 ≤ d) (h : zSM M T c true 39 (p, F)) (hQ : zok T c k p) : Sy yX5_test YX5_test d [.ref 38] M L (zRf t) (zSP M L T c true 39 t (zlx T c 18 14 (zlx T c 19 13 (zqf T c k)) p F)) :=
  sp_test (dd := d - 1) (pt := zlx T c 19 13 (zqf T c k)) (Q := zok T c k) (by omega) (by omega)
    (fun M p F h hQ => sp_both (dd := d - 2) (pt := zqf T c k) (Q := zok T c k) (by omega) (by omega) (fun M p F h hQ => hft (d - 2) M p F (by omega) h hQ) (fun p hp => zok_n hE hp) (fun p F hp => zkp_ok (zkp_qf hE k p F hp.2.1) hp) h hQ)
    (fun p hp => zok_n hE hp) (fun p F hp => zkp_ok (zkp_lx hE (zkp_qf hE k) p F hp.2.1) hp) h hQ
theorem sp_fact {t c : Nat} {L : zML} {T : Nat → Nat → Nat} (hE : zTE T c) : ∀ (k d : Nat) (M : zMI) (p : zP) (F : zFl), 4 * k + 40 ≤ d → zSM M T c true 39 (p, F) → zok T c k p → Sy yX5_fact YX5_fact d [.ref 38] M L (zRf t) (zSP M L T c true 39 t (zqf T c k p F)) := by
  intro k
  induction k with
  | zero => intro d M p F hd h hQ; exact absurd hQ.1 (by decide)
  | succ k ih =>
    intro d M p F hd h hQ
    exact sp_fact1 (dd := d - 2) (k := k) (by omega) (by omega) hE (fun M p F h hQ => ih (d - 2) M p F (by omega) h hQ) (fun M p F h hQ => sp_testOf hE ih (d - 2) M p F (by omega) h hQ) h hQ rfl
def zqt (T : Nat → Nat → Nat) (c : Nat) (p : zP) (F : zFl) : zPF := zlx T c 18 14 (zlx T c 19 13 (zqf T c 8)) p F
theorem sp_testA {t c d : Nat} {L : zML} {T : Nat → Nat → Nat} {M : zMI} {p : zP} {F : zFl} (hE : zTE T c) (h : zSM M T c true 39 (p, F)) (hQ : zok T c 8 p) : Sy yX5_test YX5_test (d + 74) [.ref 38] M L (zRf t) (zSP M L T c true 39 t (zqt T c p F)) :=
  sp_testOf hE (sp_fact hE 8) (d + 74) M p F (by omega) h hQ

