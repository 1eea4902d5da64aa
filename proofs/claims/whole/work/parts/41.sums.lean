set_option maxHeartbeats 4000000 in
set_option maxRecDepth 100000 in
theorem sp_product {d dd t c f : Nat} {b : Bool} {M : zMI} {L : zML} {T : Nat → Nat → Nat} {p : zP} {F : zFl} {pt : zP → zFl → zPF} {Q : zP → Prop} (hdd : dd + 1 ≤ d) (hd1 : 3 ≤ d) (hf : zFo f) (hpt : ∀ (M : zMI) (p : zP) (F : zFl), zSM M T c b f (p, F) → Q p → Sy yX8_part YX8_part dd [.ref 9, .ref f] M L (zRf t) (zSP M L T c b f t (pt p F))) (hQn : ∀ p, Q p → Q (zpn c p)) (hQp : ∀ p F, Q p → Q (pt p F).1) (h : zSM M T c b f (p, F)) (hQ : Q p) : Sy yX8_product YX8_product (d) [.ref 9, .ref f] M L (zRf t) (fun v0 M' L' R' => zSP M L T c b f t (zpd T c pt p F) v0 M' L' R') := by
  refine Sp.of (by decide +kernel) rfl (fun h => by first | exact h | cases h) (Nat.le_of_ble_eq_true rfl) ?_
  intro w G
  obtain ⟨sf1, -, -⟩ := zFo_s hf
  have loop : ∀ k n (M2 : zMI) (p2 : zP) (F2 : zFl), n + k = 1600 → zSM M2 T c b f (p2, F2) → Q p2 → zlp T c 42 47 6 7 pt k p2 F2 = zpd T c pt p F → (∀ x, x ≠ 2 → x ≠ f → x ≠ f + 1 → M2 x = M x) → WP w YX8_product (d, SS, 0, 0) G (some (zXp (fun v0 M' L' R' => zSP M L T c b f t (zpd T c pt p F) v0 M' L' R'))) 7 [(2, .int (nI n)), (0, .ref 9), (1, .ref f)] [] SS M2 L (zRf t) := by
    intro k
    induction k with
    | zero =>
      intro n M2 p2 F2 hn h2 hQ2 hr hx
      rw [show zlp T c 42 47 6 7 pt 0 p2 F2 = (p2, F2) from rfl] at hr
      refine wp_iload_n (q := 8) dX8_product_7 0 rfl rfl ?_
      refine wp_sipush (q := 11) dX8_product_8 zq_sipush_1600 rfl ?_
      refine wp_icmp_geN (tgt := 82) (q := 14) dX8_product_11 (by decide) rfl (by omega) (by omega) (fun _ => ?_) (fun hn => absurd hn (by omega))
      exact wp_return dX8_product_82 rfl ⟨rfl, ⟨rfl, rfl, rfl, by rw [← hr]; exact h2, hx⟩⟩ rfl rfl
    | succ k ih =>
      intro n M2 p2 F2 hn h2 hQ2 hr hx
      have hend : zpS T p2 42 = false → zpS T p2 47 = false → WP w YX8_product (d, SS, 0, 0) G (some (zXp (fun v0 M' L' R' => zSP M L T c b f t (zpd T c pt p F) v0 M' L' R'))) 82 [(2, .int (nI n)), (0, .ref 9), (1, .ref f)] [] SS M2 L (zRf t) := by
        intro c1 c2
        rw [zlp, c1, c2] at hr
        have hr' : (p2, F2) = zpd T c pt p F := hr
        exact wp_return dX8_product_82 rfl ⟨rfl, ⟨rfl, rfl, rfl, by rw [← hr']; exact h2, hx⟩⟩ rfl rfl
      have hmid : ∀ op, op ≤ 14 → (zpS T p2 42 || zpS T p2 47) = true → op = (if zpS T p2 42 then 6 else 7) → WP w YX8_product (d, SS, 0, 0) G (some (zXp (fun v0 M' L' R' => zSP M L T c b f t (zpd T c pt p F) v0 M' L' R'))) 57 [(2, .int (nI n)), (0, .ref 9), (1, .ref f)] [.int (nI op)] SS M2 L (zRf t) := by
        intro op hop c1 c2
        rw [zlp, if_pos c1, ← c2] at hr
        refine wp_istore_n (q := 58) (loc' := [(3, _), (2, _), (0, _), (1, _)]) dX8_product_57 rfl (by decide) rfl rfl ?_
        refine wp_aload_n (q := 59) dX8_product_58 2 rfl rfl ?_
        refine wp_getR (q := 62) dX8_product_59 zf_RX8_15 rfl zsh_9 (zr_9_0 _) rfl ?_
        refine wp_cvy (q := 65) (sp_next (d := 0) h2.1) zm_X10_next zl_RX8_29 dX8_product_62 rfl (by omega) (Nat.le_of_ble_eq_true rfl) zsh_2 rfl rfl ?_
        rintro _ M3 _ _ ⟨rfl, rfl, rfl, h3, hx3⟩
        refine wp_aload_n (q := 66) dX8_product_65 2 rfl rfl ?_
        refine wp_aload_n (q := 67) dX8_product_66 3 rfl rfl ?_
        refine wp_cvy (q := 70) (hpt M3 _ F2 (zSM_t hf h2 h3 hx3) (hQn _ hQ2)) zm_X8_part zl_RX8_38 dX8_product_67 rfl (by omega) (Nat.le_of_ble_eq_true rfl) zsh_9 rfl rfl ?_
        rintro _ M4 _ _ ⟨rfl, rfl, rfl, h4, hx4⟩
        refine wp_aload_n (q := 71) dX8_product_70 3 rfl rfl ?_
        refine wp_iload_n (q := 72) dX8_product_71 0 rfl rfl ?_
        refine wp_iconst (q := 73) dX8_product_72 zq_iconst_0 rfl ?_
        refine wp_cvy (q := 76) (sp_fad (d := 0) hf h4.2.1 hop (by decide : 0 ≤ 9999)) zm_X0_add zl_RX8_32 dX8_product_73 rfl (by omega) (Nat.le_of_ble_eq_true rfl) (by first | assumption | rfl) rfl rfl ?_
        rintro _ M5 _ _ ⟨rfl, rfl, rfl, h5, hx5⟩
        refine wp_iincN (q := 79) (loc' := [(2, _), (3, _), (0, _), (1, _)]) (n := 1) dX8_product_76 rfl 1 rfl (by decide) rfl rfl ?_
        refine wp_goto (tgt := 7) dX8_product_79 (by decide) ?_
        refine WP.sub (loc' := [(2, _), (0, _), (1, _)]) [0, 2, 3] rfl ?_
        exact ih (n + 1) M5 _ _ (by omega) (zSM_f hf h4 h5 hx5) (hQp _ _ (hQn _ hQ2)) hr (fun x x1 x2 x3 => by rw [hx5 x x2 x3, hx4 x x1 x2 x3, hx3 x x1]; exact hx x x1 x2 x3)
      refine wp_iload_n (q := 8) dX8_product_7 0 rfl rfl ?_
      refine wp_sipush (q := 11) dX8_product_8 zq_sipush_1600 rfl ?_
      refine wp_icmp_geN (tgt := 82) (q := 14) dX8_product_11 (by decide) rfl (by omega) (by omega) (fun hn => absurd hn (by omega)) (fun _ => ?_)
      refine wp_aload_n (q := 15) dX8_product_14 1 rfl rfl ?_
      refine wp_getR (q := 18) dX8_product_15 zf_RX8_15 rfl zsh_9 (zr_9_0 _) rfl ?_
      refine wp_bipush (q := 20) dX8_product_18 zq_bipush_42 rfl ?_
      refine wp_cvx (q := 23) (sp_atSign (d := 0) (s := 42) h2.1 (by decide)) zm_X10_atSign zl_RX8_23 dX8_product_20 rfl (by omega) (Nat.le_of_ble_eq_true rfl) zsh_2 rfl rfl ?_
      have hboth : (zpS T p2 42 || zpS T p2 47) = true → WP w YX8_product (d, SS, 0, 0) G (some (zXp (fun v0 M' L' R' => zSP M L T c b f t (zpd T c pt p F) v0 M' L' R'))) 38 [(2, .int (nI n)), (0, .ref 9), (1, .ref f)] [] SS M2 L (zRf t) := by
        intro c1
        refine wp_aload_n (q := 39) dX8_product_38 1 rfl rfl ?_
        refine wp_getR (q := 42) dX8_product_39 zf_RX8_15 rfl zsh_9 (zr_9_0 _) rfl ?_
        refine wp_bipush (q := 44) dX8_product_42 zq_bipush_42 rfl ?_
        refine wp_cvx (q := 47) (sp_atSign (d := 0) (s := 42) h2.1 (by decide)) zm_X10_atSign zl_RX8_23 dX8_product_44 rfl (by omega) (Nat.le_of_ble_eq_true rfl) zsh_2 rfl rfl ?_
        cases c2 : zpS T p2 42 with
        | true =>
          rw [if_pos rfl]
          refine wp_if_eqN (tgt := 55) (q := 50) dX8_product_47 (by decide) rfl (by omega) (fun hn => absurd hn (by omega)) (fun _ => ?_)
          refine wp_bipush (q := 52) dX8_product_50 zq_bipush_6 rfl ?_
          refine wp_goto (tgt := 57) dX8_product_52 (by decide) ?_
          refine WP.sub (loc' := [(2, _), (0, _), (1, _)]) [0, 1, 2] rfl ?_
          exact hmid 6 (by decide) c1 (by rw [c2]; rfl)
        | false =>
          rw [if_neg (by decide : ¬ false = true)]
          refine wp_if_eqN (tgt := 55) (q := 50) dX8_product_47 (by decide) rfl (by omega) (fun _ => ?_) (fun hn => absurd hn (by omega))
          refine wp_bipush (q := 57) dX8_product_55 zq_bipush_7 rfl ?_
          refine WP.sub (loc' := [(2, _), (0, _), (1, _)]) [0, 1, 2] rfl ?_
          exact hmid 7 (by decide) c1 (by rw [c2]; rfl)
      cases c2 : zpS T p2 42 with
      | true =>
        rw [if_pos rfl]
        refine wp_if_neN (tgt := 38) (q := 26) dX8_product_23 (by decide) rfl (by omega) (fun _ => ?_) (fun hn => absurd hn (by omega))
        refine WP.sub (loc' := [(2, _), (0, _), (1, _)]) [0, 1, 2] rfl ?_
        exact hboth (by rw [c2]; rfl)
      | false =>
        rw [if_neg (by decide : ¬ false = true)]
        refine wp_if_neN (tgt := 38) (q := 26) dX8_product_23 (by decide) rfl (by omega) (fun hn => absurd hn (by omega)) (fun _ => ?_)
        refine wp_aload_n (q := 27) dX8_product_26 1 rfl rfl ?_
        refine wp_getR (q := 30) dX8_product_27 zf_RX8_15 rfl zsh_9 (zr_9_0 _) rfl ?_
        refine wp_bipush (q := 32) dX8_product_30 zq_bipush_47 rfl ?_
        refine wp_cvx (q := 35) (sp_atSign (d := 0) (s := 47) h2.1 (by decide)) zm_X10_atSign zl_RX8_23 dX8_product_32 rfl (by omega) (Nat.le_of_ble_eq_true rfl) zsh_2 rfl rfl ?_
        cases c3 : zpS T p2 47 with
        | true =>
          rw [if_pos rfl]
          refine wp_if_eqN (tgt := 82) (q := 38) dX8_product_35 (by decide) rfl (by omega) (fun hn => absurd hn (by omega)) (fun _ => ?_)
          refine WP.sub (loc' := [(2, _), (0, _), (1, _)]) [0, 1, 2] rfl ?_
          exact hboth (by rw [c2, c3]; rfl)
        | false =>
          rw [if_neg (by decide : ¬ false = true)]
          refine wp_if_eqN (tgt := 82) (q := 38) dX8_product_35 (by decide) rfl (by omega) (fun _ => ?_) (fun hn => absurd hn (by omega))
          refine WP.sub (loc' := [(2, _), (0, _), (1, _)]) [0, 1, 2] rfl ?_
          exact hend c2 c3
  refine wp_aload_n (q := 1) dX8_product_0 0 rfl rfl ?_
  refine wp_aload_n (q := 2) dX8_product_1 1 rfl rfl ?_
  refine wp_cvy (q := 5) (hpt M p F h hQ) zm_X8_part zl_RX8_38 dX8_product_2 rfl (by omega) (Nat.le_of_ble_eq_true rfl) zsh_9 rfl rfl ?_
  rintro _ M4 _ _ ⟨rfl, rfl, rfl, h4, hx4⟩
  refine wp_iconst (q := 6) dX8_product_5 zq_iconst_0 rfl ?_
  refine wp_istore_n (q := 7) (loc' := [(2, _), (0, _), (1, _)]) dX8_product_6 rfl (by decide) rfl rfl ?_
  refine WP.sub (loc' := [(2, _), (0, _), (1, _)]) [0, 1, 2] rfl ?_
  exact loop 1600 0 M4 _ _ (Nat.zero_add _) h4 (hQp _ _ hQ) rfl hx4

