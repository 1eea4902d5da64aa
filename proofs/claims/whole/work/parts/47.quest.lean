def zlw (T : Nat → Nat → Nat) (c wd op : Nat) (pt : zP → zFl → zPF) : Nat → zP → zFl → zPF
  | 0, p, F => (p, F)
  | n + 1, p, F => if T p.1 4 = wd then zlw T c wd op pt n (pt (zpn c p) F).1 ((pt (zpn c p) F).2 ++ [(op, 0)]) else (p, F)
def zlx (T : Nat → Nat → Nat) (c wd op : Nat) (pt : zP → zFl → zPF) (p : zP) (F : zFl) : zPF := zlw T c wd op pt 1600 (pt p F).1 (pt p F).2
theorem zkp_lw {T : Nat → Nat → Nat} {c wd op : Nat} (hE : zTE T c) {pt : zP → zFl → zPF} (hpt : ∀ p F, p.1 < c → zkp T c p (pt p F).1) : ∀ n p F, p.1 < c → zkp T c p (zlw T c wd op pt n p F).1 := by
  intro n
  induction n with
  | zero => intro p F hp; exact zkp_r hp
  | succ n ih =>
    intro p F hp
    rw [zlw]
    split
    · have h1 := zkp_n hE hp
      have h2 := hpt (zpn c p) F h1.1
      exact zkp_tr h1 (zkp_tr h2 (ih _ _ h2.1))
    · exact zkp_r hp
theorem zkp_lx {T : Nat → Nat → Nat} {c wd op : Nat} (hE : zTE T c) {pt : zP → zFl → zPF} (hpt : ∀ p F, p.1 < c → zkp T c p (pt p F).1) : ∀ p F, p.1 < c → zkp T c p (zlx T c wd op pt p F).1 := fun p F hp => zkp_tr (hpt p F hp) (zkp_lw hE hpt 1600 _ _ (hpt p F hp).1)
theorem zkp_cmp {T : Nat → Nat → Nat} {c : Nat} (hE : zTE T c) (p : zP) (F : zFl) (hp : p.1 < c) : zkp T c p (zcmp T c p F).1 := by
  have h1 := zkp_sum (b := true) hE p F hp
  have h2 := zkp_n hE h1.1
  have h3 : ∀ op, zkp T c p (zcm2 T c op (zsum T c true p F)).1 := fun op => zkp_tr h1 (zkp_tr h2 (zkp_sum (b := true) hE _ _ h2.1))
  unfold zcmp zcm1
  split
  · exact h3 10
  · split
    · exact h3 11
    · split
      · exact h3 12
      · exact zkp_f hE zpf_1
def zqf (T : Nat → Nat → Nat) (c : Nat) : Nat → zP → zFl → zPF
  | 0, p, F => (p, F)
  | k + 1, p, F => if T p.1 4 = 20 then (zpl (zqf T c k (zpe T c p) F).1, (zqf T c k (zpe T c p) F).2 ++ [(2, 0)]) else if zpS T p 91 then (zpl (zpNS T c (zlx T c 18 14 (zlx T c 19 13 (zqf T c k)) (zpe T c p) F).1 93), (zlx T c 18 14 (zlx T c 19 13 (zqf T c k)) (zpe T c p) F).2) else if T p.1 4 = 21 then (zpn c p, F ++ [(0, 1)]) else zcmp T c p F
theorem zkp_qf {T : Nat → Nat → Nat} {c : Nat} (hE : zTE T c) : ∀ k p F, p.1 < c → zkp T c p (zqf T c k p F).1 := by
  intro k
  induction k with
  | zero => intro p F hp; exact zkp_r hp
  | succ k ih =>
    intro p F hp
    rw [zqf]
    split
    · rename_i h
      exact zkp_el hE (zTE_w hE hp (by omega)) (ih (zpe T c p) F (zpe_lt hE hp))
    · split
      · rename_i h
        have h1 := zkp_lx (wd := 18) (op := 14) hE (zkp_lx (wd := 19) (op := 13) hE ih) (zpe T c p) F (zpe_lt hE hp)
        exact zkp_el hE (zpS_0 h) (zkp_tr h1 (zkp_NS hE h1.1))
      · split
        · exact zkp_n hE hp
        · exact zkp_cmp hE p F hp
set_option maxHeartbeats 4000000 in
set_option maxRecDepth 100000 in
theorem sp_both {d dd t c : Nat} {M : zMI} {L : zML} {T : Nat → Nat → Nat} {p : zP} {F : zFl} {pt : zP → zFl → zPF} {Q : zP → Prop} (hdd : dd + 1 ≤ d) (hd1 : 3 ≤ d) (hpt : ∀ (M : zMI) (p : zP) (F : zFl), zSM M T c true 39 (p, F) → Q p → Sy yX5_fact YX5_fact dd [.ref 38] M L (zRf t) (zSP M L T c true 39 t (pt p F))) (hQn : ∀ p, Q p → Q (zpn c p)) (hQp : ∀ p F, Q p → Q (pt p F).1) (h : zSM M T c true 39 (p, F)) (hQ : Q p) : Sy yX5_both YX5_both (d) [.ref 38] M L (zRf t) (fun v0 M' L' R' => zSP M L T c true 39 t (zlx T c 19 13 pt p F) v0 M' L' R') := by
  refine Sp.of (by decide +kernel) rfl (fun h => by first | exact h | cases h) (Nat.le_of_ble_eq_true rfl) ?_
  intro w G
  have hf : zFo 39 := Or.inr (Or.inr (Or.inr (Or.inr rfl)))
  have loop : ∀ k n (M2 : zMI) (p2 : zP) (F2 : zFl), n + k = 1600 → zSM M2 T c true 39 (p2, F2) → Q p2 → zlw T c 19 13 pt k p2 F2 = zlx T c 19 13 pt p F → (∀ x, x ≠ 2 → x ≠ 39 → x ≠ 39 + 1 → M2 x = M x) → WP w YX5_both (d, SS, 0, 0) G (some (zXp (fun v0 M' L' R' => zSP M L T c true 39 t (zlx T c 19 13 pt p F) v0 M' L' R'))) 6 [(1, .int (nI n)), (0, .ref 38)] [] SS M2 L (zRf t) := by
    intro k
    induction k with
    | zero =>
      intro n M2 p2 F2 hn h2 hQ2 hr hx
      rw [show zlw T c 19 13 pt 0 p2 F2 = (p2, F2) from rfl] at hr
      refine wp_iload_n (q := 7) dX5_both_6 0 rfl rfl ?_
      refine wp_sipush (q := 10) dX5_both_7 zq_sipush_1600 rfl ?_
      refine wp_icmp_geN (tgt := 52) (q := 13) dX5_both_10 (by decide) rfl (by omega) (by omega) (fun _ => ?_) (fun hn => absurd hn (by omega))
      exact wp_return dX5_both_52 rfl ⟨rfl, ⟨rfl, rfl, rfl, by rw [← hr]; exact h2, hx⟩⟩ rfl rfl
    | succ k ih =>
      intro n M2 p2 F2 hn h2 hQ2 hr hx
      rw [zlw] at hr
      refine wp_iload_n (q := 7) dX5_both_6 0 rfl rfl ?_
      refine wp_sipush (q := 10) dX5_both_7 zq_sipush_1600 rfl ?_
      refine wp_icmp_geN (tgt := 52) (q := 13) dX5_both_10 (by decide) rfl (by omega) (by omega) (fun hn => absurd hn (by omega)) (fun _ => ?_)
      refine wp_aload_n (q := 14) dX5_both_13 1 rfl rfl ?_
      refine wp_getR (q := 17) dX5_both_14 zf_RX5_26 rfl zsh_38 (zr_38_0 _) rfl ?_
      refine wp_bipush (q := 19) dX5_both_17 zq_bipush_19 rfl ?_
      refine wp_cvx (q := 22) (sp_atWord (d := 0) (s := 19) h2.1 (by decide)) zm_X10_atWord zl_RX5_66 dX5_both_19 rfl (by omega) (Nat.le_of_ble_eq_true rfl) zsh_2 rfl rfl ?_
      by_cases c1 : T p2.1 4 = 19
      · rw [if_pos c1] at hr
        rw [if_pos c1]
        refine wp_if_eqN (tgt := 52) (q := 25) dX5_both_22 (by decide) rfl (by omega) (fun hn => absurd hn (by omega)) (fun _ => ?_)
        refine wp_aload_n (q := 26) dX5_both_25 1 rfl rfl ?_
        refine wp_getR (q := 29) dX5_both_26 zf_RX5_26 rfl zsh_38 (zr_38_0 _) rfl ?_
        refine wp_cvy (q := 32) (sp_next (d := 0) h2.1) zm_X10_next zl_RX5_70 dX5_both_29 rfl (by omega) (Nat.le_of_ble_eq_true rfl) zsh_2 rfl rfl ?_
        rintro _ M3 _ _ ⟨rfl, rfl, rfl, h3, hx3⟩
        refine wp_aload_n (q := 33) dX5_both_32 1 rfl rfl ?_
        refine wp_cvy (q := 36) (hpt M3 _ F2 (zSM_t hf h2 h3 hx3) (hQn _ hQ2)) zm_X5_fact zl_RX5_77 dX5_both_33 rfl (by omega) (Nat.le_of_ble_eq_true rfl) zsh_38 rfl rfl ?_
        rintro _ M4 _ _ ⟨rfl, rfl, rfl, h4, hx4⟩
        refine wp_aload_n (q := 37) dX5_both_36 1 rfl rfl ?_
        refine wp_getR (q := 40) dX5_both_37 zf_RX5_12 rfl zsh_38 (zr_38_2 _) rfl ?_
        refine wp_bipush (q := 42) dX5_both_40 zq_bipush_13 rfl ?_
        refine wp_iconst (q := 43) dX5_both_42 zq_iconst_0 rfl ?_
        refine wp_cvy (q := 46) (sp_fad (d := 0) hf h4.2.1 (by decide : 13 ≤ 14) (by decide : 0 ≤ 9999)) zm_X0_add zl_RX5_73 dX5_both_43 rfl (by omega) (Nat.le_of_ble_eq_true rfl) zsh_39 rfl rfl ?_
        rintro _ M5 _ _ ⟨rfl, rfl, rfl, h5, hx5⟩
        refine wp_iincN (q := 49) (loc' := [(1, _), (0, _)]) (n := 1) dX5_both_46 rfl 0 rfl (by decide) rfl rfl ?_
        refine wp_goto (tgt := 6) dX5_both_49 (by decide) ?_
        refine WP.sub (loc' := [(1, _), (0, _)]) [0, 1] rfl ?_
        exact ih (n + 1) M5 _ _ (by omega) (zSM_f hf h4 h5 hx5) (hQp _ _ (hQn _ hQ2)) hr (fun x x1 x2 x3 => by rw [hx5 x x2 x3, hx4 x x1 x2 x3, hx3 x x1]; exact hx x x1 x2 x3)
      · rw [if_neg c1] at hr
        rw [if_neg c1]
        refine wp_if_eqN (tgt := 52) (q := 25) dX5_both_22 (by decide) rfl (by omega) (fun _ => ?_) (fun hn => absurd hn (by omega))
        exact wp_return dX5_both_52 rfl ⟨rfl, ⟨rfl, rfl, rfl, by rw [← hr]; exact h2, hx⟩⟩ rfl rfl
  refine wp_aload_n (q := 1) dX5_both_0 0 rfl rfl ?_
  refine wp_cvy (q := 4) (hpt M p F h hQ) zm_X5_fact zl_RX5_77 dX5_both_1 rfl (by omega) (Nat.le_of_ble_eq_true rfl) zsh_38 rfl rfl ?_
  rintro _ M4 _ _ ⟨rfl, rfl, rfl, h4, hx4⟩
  refine wp_iconst (q := 5) dX5_both_4 zq_iconst_0 rfl ?_
  refine wp_istore_n (q := 6) (loc' := [(1, _), (0, _)]) dX5_both_5 rfl (by decide) rfl rfl ?_
  refine WP.sub (loc' := [(1, _), (0, _)]) [0, 1] rfl ?_
  exact loop 1600 0 M4 _ _ (Nat.zero_add _) h4 (hQp _ _ hQ) rfl hx4
set_option maxHeartbeats 4000000 in
set_option maxRecDepth 100000 in
theorem sp_test {d dd t c : Nat} {M : zMI} {L : zML} {T : Nat → Nat → Nat} {p : zP} {F : zFl} {pt : zP → zFl → zPF} {Q : zP → Prop} (hdd : dd + 1 ≤ d) (hd1 : 3 ≤ d) (hpt : ∀ (M : zMI) (p : zP) (F : zFl), zSM M T c true 39 (p, F) → Q p → Sy yX5_both YX5_both dd [.ref 38] M L (zRf t) (zSP M L T c true 39 t (pt p F))) (hQn : ∀ p, Q p → Q (zpn c p)) (hQp : ∀ p F, Q p → Q (pt p F).1) (h : zSM M T c true 39 (p, F)) (hQ : Q p) : Sy yX5_test YX5_test (d) [.ref 38] M L (zRf t) (fun v0 M' L' R' => zSP M L T c true 39 t (zlx T c 18 14 pt p F) v0 M' L' R') := by
  refine Sp.of (by decide +kernel) rfl (fun h => by first | exact h | cases h) (Nat.le_of_ble_eq_true rfl) ?_
  intro w G
  have hf : zFo 39 := Or.inr (Or.inr (Or.inr (Or.inr rfl)))
  have loop : ∀ k n (M2 : zMI) (p2 : zP) (F2 : zFl), n + k = 1600 → zSM M2 T c true 39 (p2, F2) → Q p2 → zlw T c 18 14 pt k p2 F2 = zlx T c 18 14 pt p F → (∀ x, x ≠ 2 → x ≠ 39 → x ≠ 39 + 1 → M2 x = M x) → WP w YX5_test (d, SS, 0, 0) G (some (zXp (fun v0 M' L' R' => zSP M L T c true 39 t (zlx T c 18 14 pt p F) v0 M' L' R'))) 6 [(1, .int (nI n)), (0, .ref 38)] [] SS M2 L (zRf t) := by
    intro k
    induction k with
    | zero =>
      intro n M2 p2 F2 hn h2 hQ2 hr hx
      rw [show zlw T c 18 14 pt 0 p2 F2 = (p2, F2) from rfl] at hr
      refine wp_iload_n (q := 7) dX5_test_6 0 rfl rfl ?_
      refine wp_sipush (q := 10) dX5_test_7 zq_sipush_1600 rfl ?_
      refine wp_icmp_geN (tgt := 52) (q := 13) dX5_test_10 (by decide) rfl (by omega) (by omega) (fun _ => ?_) (fun hn => absurd hn (by omega))
      exact wp_return dX5_test_52 rfl ⟨rfl, ⟨rfl, rfl, rfl, by rw [← hr]; exact h2, hx⟩⟩ rfl rfl
    | succ k ih =>
      intro n M2 p2 F2 hn h2 hQ2 hr hx
      rw [zlw] at hr
      refine wp_iload_n (q := 7) dX5_test_6 0 rfl rfl ?_
      refine wp_sipush (q := 10) dX5_test_7 zq_sipush_1600 rfl ?_
      refine wp_icmp_geN (tgt := 52) (q := 13) dX5_test_10 (by decide) rfl (by omega) (by omega) (fun hn => absurd hn (by omega)) (fun _ => ?_)
      refine wp_aload_n (q := 14) dX5_test_13 1 rfl rfl ?_
      refine wp_getR (q := 17) dX5_test_14 zf_RX5_26 rfl zsh_38 (zr_38_0 _) rfl ?_
      refine wp_bipush (q := 19) dX5_test_17 zq_bipush_18 rfl ?_
      refine wp_cvx (q := 22) (sp_atWord (d := 0) (s := 18) h2.1 (by decide)) zm_X10_atWord zl_RX5_66 dX5_test_19 rfl (by omega) (Nat.le_of_ble_eq_true rfl) zsh_2 rfl rfl ?_
      by_cases c1 : T p2.1 4 = 18
      · rw [if_pos c1] at hr
        rw [if_pos c1]
        refine wp_if_eqN (tgt := 52) (q := 25) dX5_test_22 (by decide) rfl (by omega) (fun hn => absurd hn (by omega)) (fun _ => ?_)
        refine wp_aload_n (q := 26) dX5_test_25 1 rfl rfl ?_
        refine wp_getR (q := 29) dX5_test_26 zf_RX5_26 rfl zsh_38 (zr_38_0 _) rfl ?_
        refine wp_cvy (q := 32) (sp_next (d := 0) h2.1) zm_X10_next zl_RX5_70 dX5_test_29 rfl (by omega) (Nat.le_of_ble_eq_true rfl) zsh_2 rfl rfl ?_
        rintro _ M3 _ _ ⟨rfl, rfl, rfl, h3, hx3⟩
        refine wp_aload_n (q := 33) dX5_test_32 1 rfl rfl ?_
        refine wp_cvy (q := 36) (hpt M3 _ F2 (zSM_t hf h2 h3 hx3) (hQn _ hQ2)) zm_X5_both zl_RX5_63 dX5_test_33 rfl (by omega) (Nat.le_of_ble_eq_true rfl) zsh_38 rfl rfl ?_
        rintro _ M4 _ _ ⟨rfl, rfl, rfl, h4, hx4⟩
        refine wp_aload_n (q := 37) dX5_test_36 1 rfl rfl ?_
        refine wp_getR (q := 40) dX5_test_37 zf_RX5_12 rfl zsh_38 (zr_38_2 _) rfl ?_
        refine wp_bipush (q := 42) dX5_test_40 zq_bipush_14 rfl ?_
        refine wp_iconst (q := 43) dX5_test_42 zq_iconst_0 rfl ?_
        refine wp_cvy (q := 46) (sp_fad (d := 0) hf h4.2.1 (by decide : 14 ≤ 14) (by decide : 0 ≤ 9999)) zm_X0_add zl_RX5_73 dX5_test_43 rfl (by omega) (Nat.le_of_ble_eq_true rfl) zsh_39 rfl rfl ?_
        rintro _ M5 _ _ ⟨rfl, rfl, rfl, h5, hx5⟩
        refine wp_iincN (q := 49) (loc' := [(1, _), (0, _)]) (n := 1) dX5_test_46 rfl 0 rfl (by decide) rfl rfl ?_
        refine wp_goto (tgt := 6) dX5_test_49 (by decide) ?_
        refine WP.sub (loc' := [(1, _), (0, _)]) [0, 1] rfl ?_
        exact ih (n + 1) M5 _ _ (by omega) (zSM_f hf h4 h5 hx5) (hQp _ _ (hQn _ hQ2)) hr (fun x x1 x2 x3 => by rw [hx5 x x2 x3, hx4 x x1 x2 x3, hx3 x x1]; exact hx x x1 x2 x3)
      · rw [if_neg c1] at hr
        rw [if_neg c1]
        refine wp_if_eqN (tgt := 52) (q := 25) dX5_test_22 (by decide) rfl (by omega) (fun _ => ?_) (fun hn => absurd hn (by omega))
        exact wp_return dX5_test_52 rfl ⟨rfl, ⟨rfl, rfl, rfl, by rw [← hr]; exact h2, hx⟩⟩ rfl rfl
  refine wp_aload_n (q := 1) dX5_test_0 0 rfl rfl ?_
  refine wp_cvy (q := 4) (hpt M p F h hQ) zm_X5_both zl_RX5_63 dX5_test_1 rfl (by omega) (Nat.le_of_ble_eq_true rfl) zsh_38 rfl rfl ?_
  rintro _ M4 _ _ ⟨rfl, rfl, rfl, h4, hx4⟩
  refine wp_iconst (q := 5) dX5_test_4 zq_iconst_0 rfl ?_
  refine wp_istore_n (q := 6) (loc' := [(1, _), (0, _)]) dX5_test_5 rfl (by decide) rfl rfl ?_
  refine WP.sub (loc' := [(1, _), (0, _)]) [0, 1] rfl ?_
  exact loop 1600 0 M4 _ _ (Nat.zero_add _) h4 (hQp _ _ hQ) rfl hx4

