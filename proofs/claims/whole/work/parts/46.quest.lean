def zcm2 (T : Nat → Nat → Nat) (c op : Nat) (r : zPF) : zPF := ((zsum T c true (zpn c r.1) r.2).1, (zsum T c true (zpn c r.1) r.2).2 ++ [(op, 0)])
def zcm1 (T : Nat → Nat → Nat) (c : Nat) (r : zPF) : zPF := if zpS T r.1 60 then zcm2 T c 10 r else if zpS T r.1 62 then zcm2 T c 11 r else if zpS T r.1 61 then zcm2 T c 12 r else (zpfh T c r.1, r.2)
def zcmp (T : Nat → Nat → Nat) (c : Nat) (p : zP) (F : zFl) : zPF := zcm1 T c (zsum T c true p F)
set_option maxHeartbeats 4000000 in
set_option maxRecDepth 100000 in
theorem sp_compare {d t c : Nat} {M : zMI} {L : zML} {T : Nat → Nat → Nat} {p : zP} {F : zFl} (hE : zTE T c) (h : zSM M T c true 39 (p, F)) (hQ : zok T c 8 p) {A : zPF} (hA : zcmp T c p F = A) : Sy yX5_compare YX5_compare (d + 38) [.ref 38] M L (zRf t) (fun v0 M' L' R' => zSP M L T c true 39 t A v0 M' L' R') := by
  refine Sp.of (by decide +kernel) rfl (fun h => by first | exact h | cases h) (Nat.le_of_ble_eq_true rfl) ?_
  intro w G
  have hf : zFo 39 := Or.inr (Or.inr (Or.inr (Or.inr rfl)))
  have hk := zkp_sum (b := true) hE p F hQ.2.1
  unfold zcmp at hA
  refine wp_aload_n (q := 1) dX5_compare_0 0 rfl rfl ?_
  refine wp_getR (q := 4) dX5_compare_1 zf_RX5_30 rfl zsh_38 (zr_38_1 _) rfl ?_
  refine wp_aload_n (q := 5) dX5_compare_4 0 rfl rfl ?_
  refine wp_getR (q := 8) dX5_compare_5 zf_RX5_12 rfl zsh_38 (zr_38_2 _) rfl ?_
  refine wp_cvny (q := 11) (sp_sum (d := d) hE hf h hQ) zm_X8_sum (fun U H h => h.2.2.2.2.2.2.2.1) dX5_compare_8 rfl (by omega) (Nat.le_of_ble_eq_true rfl) zsh_9 rfl rfl ?_
  rintro _ M2 _ _ ⟨rfl, rfl, rfl, h2, hx2⟩
  obtain ⟨r, hr⟩ : ∃ r, zsum T c true p F = r := ⟨_, rfl⟩
  rw [hr] at hA h2 hk
  have hQ2 := zkp_ok hk hQ
  have rest : ∀ op, op ≤ 14 → zcm2 T c op r = A → WP w YX5_compare (d + 38, SS, 0, 0) G (some (zXp (fun v0 M' L' R' => zSP M L T c true 39 t A v0 M' L' R'))) 70 [(1, .int (nI op)), (0, .ref 38)] [] SS M2 L (zRf t) := by
    intro op hop hr2
    refine wp_aload_n (q := 71) dX5_compare_70 1 rfl rfl ?_
    refine wp_getR (q := 74) dX5_compare_71 zf_RX5_26 rfl zsh_38 (zr_38_0 _) rfl ?_
    refine wp_cvy (q := 77) (sp_next (d := 0) h2.1) zm_X10_next zl_RX5_70 dX5_compare_74 rfl (by omega) (Nat.le_of_ble_eq_true rfl) zsh_2 rfl rfl ?_
    rintro _ M3 _ _ ⟨rfl, rfl, rfl, h3, hx3⟩
    refine wp_aload_n (q := 78) dX5_compare_77 1 rfl rfl ?_
    refine wp_getR (q := 81) dX5_compare_78 zf_RX5_30 rfl zsh_38 (zr_38_1 _) rfl ?_
    refine wp_aload_n (q := 82) dX5_compare_81 1 rfl rfl ?_
    refine wp_getR (q := 85) dX5_compare_82 zf_RX5_12 rfl zsh_38 (zr_38_2 _) rfl ?_
    refine wp_cvny (q := 88) (sp_sum (d := d) hE hf (zSM_t hf (p := r.1) (F := r.2) h2 h3 hx3) (zok_n hE hQ2)) zm_X8_sum (fun U H h => h.2.2.2.2.2.2.2.1) dX5_compare_85 rfl (by omega) (Nat.le_of_ble_eq_true rfl) zsh_9 rfl rfl ?_
    rintro _ M4 _ _ ⟨rfl, rfl, rfl, h4, hx4⟩
    refine wp_aload_n (q := 89) dX5_compare_88 1 rfl rfl ?_
    refine wp_getR (q := 92) dX5_compare_89 zf_RX5_12 rfl zsh_38 (zr_38_2 _) rfl ?_
    refine wp_iload_n (q := 93) dX5_compare_92 0 rfl rfl ?_
    refine wp_iconst (q := 94) dX5_compare_93 zq_iconst_0 rfl ?_
    refine wp_cvy (q := 97) (sp_fad (d := 0) hf h4.2.1 hop (by decide : 0 ≤ 9999)) zm_X0_add zl_RX5_73 dX5_compare_94 rfl (by omega) (Nat.le_of_ble_eq_true rfl) zsh_39 rfl rfl ?_
    rintro _ M5 _ _ ⟨rfl, rfl, rfl, h5, hx5⟩
    exact wp_return dX5_compare_97 rfl ⟨rfl, ⟨rfl, rfl, rfl, by rw [← hr2]; exact zSM_f hf h4 h5 hx5, fun x x1 x2 x3 => by rw [hx5 x x2 x3, hx4 x x1 x2 x3, hx3 x x1, hx2 x x1 x2 x3]⟩⟩ rfl rfl
  unfold zcm1 at hA
  refine wp_bipush (q := 13) dX5_compare_11 zq_bipush_12 rfl ?_
  refine wp_istore_n (q := 14) (loc' := [(1, _), (0, _)]) dX5_compare_13 rfl (by decide) rfl rfl ?_
  refine wp_aload_n (q := 15) dX5_compare_14 1 rfl rfl ?_
  refine wp_getR (q := 18) dX5_compare_15 zf_RX5_26 rfl zsh_38 (zr_38_0 _) rfl ?_
  refine wp_bipush (q := 20) dX5_compare_18 zq_bipush_60 rfl ?_
  refine wp_cvx (q := 23) (sp_atSign (d := 0) (s := 60) h2.1 (by decide)) zm_X10_atSign zl_RX5_83 dX5_compare_20 rfl (by omega) (Nat.le_of_ble_eq_true rfl) zsh_2 rfl rfl ?_
  by_cases c1 : zpS T r.1 60 = true
  · rw [if_pos c1] at hA
    rw [if_pos c1]
    refine wp_if_eqN (tgt := 32) (q := 26) dX5_compare_23 (by decide) rfl (by omega) (fun hn => absurd hn (by omega)) (fun _ => ?_)
    refine wp_bipush (q := 28) dX5_compare_26 zq_bipush_10 rfl ?_
    refine wp_istore_n (q := 29) (loc' := [(1, _), (0, _)]) dX5_compare_28 rfl (by decide) rfl rfl ?_
    refine wp_goto (tgt := 70) dX5_compare_29 (by decide) ?_
    refine WP.sub (loc' := [(1, _), (0, _)]) [0, 1] rfl ?_
    exact rest 10 (by decide) hA
  · rw [if_neg c1] at hA
    rw [if_neg c1]
    refine wp_if_eqN (tgt := 32) (q := 26) dX5_compare_23 (by decide) rfl (by omega) (fun _ => ?_) (fun hn => absurd hn (by omega))
    refine wp_aload_n (q := 33) dX5_compare_32 1 rfl rfl ?_
    refine wp_getR (q := 36) dX5_compare_33 zf_RX5_26 rfl zsh_38 (zr_38_0 _) rfl ?_
    refine wp_bipush (q := 38) dX5_compare_36 zq_bipush_62 rfl ?_
    refine wp_cvx (q := 41) (sp_atSign (d := 0) (s := 62) h2.1 (by decide)) zm_X10_atSign zl_RX5_83 dX5_compare_38 rfl (by omega) (Nat.le_of_ble_eq_true rfl) zsh_2 rfl rfl ?_
    by_cases c2 : zpS T r.1 62 = true
    · rw [if_pos c2] at hA
      rw [if_pos c2]
      refine wp_if_eqN (tgt := 50) (q := 44) dX5_compare_41 (by decide) rfl (by omega) (fun hn => absurd hn (by omega)) (fun _ => ?_)
      refine wp_bipush (q := 46) dX5_compare_44 zq_bipush_11 rfl ?_
      refine wp_istore_n (q := 47) (loc' := [(1, _), (0, _)]) dX5_compare_46 rfl (by decide) rfl rfl ?_
      refine wp_goto (tgt := 70) dX5_compare_47 (by decide) ?_
      refine WP.sub (loc' := [(1, _), (0, _)]) [0, 1] rfl ?_
      exact rest 11 (by decide) hA
    · rw [if_neg c2] at hA
      rw [if_neg c2]
      refine wp_if_eqN (tgt := 50) (q := 44) dX5_compare_41 (by decide) rfl (by omega) (fun _ => ?_) (fun hn => absurd hn (by omega))
      refine wp_aload_n (q := 51) dX5_compare_50 1 rfl rfl ?_
      refine wp_getR (q := 54) dX5_compare_51 zf_RX5_26 rfl zsh_38 (zr_38_0 _) rfl ?_
      refine wp_bipush (q := 56) dX5_compare_54 zq_bipush_61 rfl ?_
      refine wp_cvx (q := 59) (sp_atSign (d := 0) (s := 61) h2.1 (by decide)) zm_X10_atSign zl_RX5_83 dX5_compare_56 rfl (by omega) (Nat.le_of_ble_eq_true rfl) zsh_2 rfl rfl ?_
      by_cases c3 : zpS T r.1 61 = true
      · rw [if_pos c3] at hA
        rw [if_pos c3]
        refine wp_if_neN (tgt := 70) (q := 62) dX5_compare_59 (by decide) rfl (by omega) (fun _ => ?_) (fun hn => absurd hn (by omega))
        refine WP.sub (loc' := [(1, _), (0, _)]) [0, 1] rfl ?_
        exact rest 12 (by decide) hA
      · rw [if_neg c3] at hA
        rw [if_neg c3]
        refine wp_if_neN (tgt := 70) (q := 62) dX5_compare_59 (by decide) rfl (by omega) (fun hn => absurd hn (by omega)) (fun _ => ?_)
        refine wp_aload_n (q := 63) dX5_compare_62 1 rfl rfl ?_
        refine wp_getR (q := 66) dX5_compare_63 zf_RX5_26 rfl zsh_38 (zr_38_0 _) rfl ?_
        refine wp_cvy (q := 69) (sp_failHere (d := 0) h2.1) zm_X10_failHere zl_RX5_60 dX5_compare_66 rfl (by omega) (Nat.le_of_ble_eq_true rfl) zsh_2 rfl rfl ?_
        rintro _ M3 _ _ ⟨rfl, rfl, rfl, h3, hx3⟩
        exact wp_return dX5_compare_69 rfl ⟨rfl, ⟨rfl, rfl, rfl, by rw [← hA]; exact zSM_t hf (p := r.1) (F := r.2) h2 h3 hx3, fun x x1 x2 x3 => by rw [hx3 x x1, hx2 x x1 x2 x3]⟩⟩ rfl rfl

