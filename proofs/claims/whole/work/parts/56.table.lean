def zrl (T : zDD) (c : Nat) : Nat → zTS → zTS
  | 0, s => if T s.1.1 0 = 0 then s else (zpf c s.1 5 (nI (T s.1.1 1)), s.2)
  | k + 1, s => if T s.1.1 0 = 0 then s else zrl T c k (zro T c s)
set_option maxHeartbeats 4000000 in
set_option maxRecDepth 100000 in
theorem sp_tclear {d u : Nat} {M : zMI} {L : zML} {R : zMR} (hu : zTab u) : Sx yX9_clear YX9_clear (d) [.ref u] M L R (none) (zu (zu (zu (zu (zu (zu M u 0 (nI 0)) u 1 (nI 0)) u 7 (nI 0)) u 10 (nI 100)) u 11 (nI 0)) u 12 (nI 0)) L R := by
  refine Sp.of (by decide +kernel) rfl (fun h => by first | exact h | cases h) (Nat.le_of_ble_eq_true rfl) ?_
  intro w G
  obtain ⟨s0, s1, s2, s3, s4, s5, s6, s7, s8, s11⟩ := zTab_s hu
  refine wp_aload_n (q := 1) dX9_clear_0 0 rfl rfl ?_
  refine wp_iconst (q := 2) dX9_clear_1 zq_iconst_0 rfl ?_
  refine wp_putI (q := 5) dX9_clear_2 zf_RX9_9 rfl (by first | assumption | rfl) rfl ?_
  refine wp_aload_n (q := 6) dX9_clear_5 0 rfl rfl ?_
  refine wp_iconst (q := 7) dX9_clear_6 zq_iconst_0 rfl ?_
  refine wp_putI (q := 10) dX9_clear_7 zf_RX9_15 rfl (by first | assumption | rfl) rfl ?_
  refine wp_aload_n (q := 11) dX9_clear_10 0 rfl rfl ?_
  refine wp_iconst (q := 12) dX9_clear_11 zq_iconst_0 rfl ?_
  refine wp_putI (q := 15) dX9_clear_12 zf_RX9_34 rfl (by first | assumption | rfl) rfl ?_
  refine wp_aload_n (q := 16) dX9_clear_15 0 rfl rfl ?_
  refine wp_bipush (q := 18) dX9_clear_16 zq_bipush_100 rfl ?_
  refine wp_putI (q := 21) dX9_clear_18 zf_RX9_43 rfl (by first | assumption | rfl) rfl ?_
  refine wp_aload_n (q := 22) dX9_clear_21 0 rfl rfl ?_
  refine wp_iconst (q := 23) dX9_clear_22 zq_iconst_0 rfl ?_
  refine wp_putZ (q := 26) dX9_clear_23 zf_RX9_46 rfl (Or.inl rfl) (by first | assumption | rfl) rfl ?_
  refine wp_aload_n (q := 27) dX9_clear_26 0 rfl rfl ?_
  refine wp_iconst (q := 28) dX9_clear_27 zq_iconst_0 rfl ?_
  refine wp_putZ (q := 31) dX9_clear_28 zf_RX9_50 rfl (Or.inl rfl) (by first | assumption | rfl) rfl ?_
  exact wp_return dX9_clear_31 rfl ⟨rfl, rfl, rfl, rfl, rfl⟩ rfl rfl
def zDz (D : zDD) : zDD := zu (zu (zu (zu (zu (zu D 0 0 0) 0 1 0) 0 7 0) 0 10 100) 0 11 0) 0 12 0
theorem zDc_z (D : zDD) : zDc (zDz D) := ⟨⟨by simp [zDz, zu_at], by simp [zDz, zu_at], fun i hi => by simp [zDz, zu_at] at hi, fun i hi => by simp [zDz, zu_at] at hi⟩, by simp [zDz, zu_at], by simp [zDz, zu_at]⟩
theorem zT_stop {T : zDD} {c : Nat} {p : zP} (hE : zTE T c) (k : Nat) (y : Int32) : T (zpf c p k y).1 0 = 0 := by rw [zpf_1]; exact hE.2.1
set_option maxHeartbeats 4000000 in
set_option maxRecDepth 100000 in
theorem sp_treadAll {d t u c : Nat} {M : zMI} {L : zML} {T D : zDD} {p : zP} {Fm Fs : zFl} (hu : zTab u) (hE : zTE T c) (hQ : zok T c 8 p) (h : zTT M T c p) (hD : zDT M u D) (hm : zFT M (u + 8) Fm) (hs : zFT M (u + 11) Fs) {r : zTS} (hr : zrl T c 60 (p, zDz D, Fm, Fs) = r) : Sy yX9_readAll YX9_readAll (d + 40) [.ref u, .ref 2, .ref 9] M L (zRf t) (fun v0 M' L' R' => v0 = none ∧ L = L' ∧ R' = zRf t ∧ zTA M' T c u r ∧ zDc r.2.1 ∧ zkp T c p r.1 ∧ ∀ x, x ≠ 2 → x ≠ 9 → (x < u ∨ u + 13 < x) → M' x = M x) := by
  refine Sp.of (by decide +kernel) rfl (fun h => by first | exact h | cases h) (Nat.le_of_ble_eq_true rfl) ?_
  intro w G
  obtain ⟨s0, s1, s2, s3, s4, s5, s6, s7, s8, s11⟩ := zTab_s hu
  have hu2 : u = 10 ∨ u = 24 := hu
  have hp := hQ.2.1
  have loop : ∀ k n (M2 : zMI) (s : zTS), n + k = 60 → zTA M2 T c u s → zok T c 8 s.1 → zDc s.2.1 → zkp T c p s.1 → (∀ x, x ≠ 2 → x ≠ 9 → (x < u ∨ u + 13 < x) → M2 x = M x) → zrl T c k s = r → WP w YX9_readAll (d + 40, SS, 0, 0) G (some (zXp (fun v0 M' L' R' => v0 = none ∧ L = L' ∧ R' = zRf t ∧ zTA M' T c u r ∧ zDc r.2.1 ∧ zkp T c p r.1 ∧ ∀ x, x ≠ 2 → x ≠ 9 → (x < u ∨ u + 13 < x) → M' x = M x))) 6 [(3, .int (nI n)), (0, .ref u), (1, .ref 2), (2, .ref 9)] [] SS M2 L (zRf t) := by
    intro k
    induction k with
    | zero =>
      intro n M2 s hn h2 hQ2 hc2 hk2 hx2 hr2
      rw [zrl] at hr2
      refine wp_iload_n (q := 7) dX9_readAll_6 0 rfl rfl ?_
      refine wp_bipush (q := 9) dX9_readAll_7 zq_bipush_60 rfl ?_
      refine wp_icmp_gtN (tgt := 49) (q := 12) dX9_readAll_9 (by decide) rfl (by omega) (by omega) (fun hn => absurd hn (by omega)) (fun _ => ?_)
      refine wp_aload_n (q := 13) dX9_readAll_12 2 rfl rfl ?_
      refine wp_cvx (q := 16) (sp_atEnd (d := 0) h2.1) zm_X10_atEnd zl_RX9_66 dX9_readAll_13 rfl (by omega) (Nat.le_of_ble_eq_true rfl) zsh_2 rfl rfl ?_
      by_cases c1 : T s.1.1 0 = 0
      · rw [if_pos c1] at hr2
        rw [if_pos c1]
        refine wp_if_neN (tgt := 49) (q := 19) dX9_readAll_16 (by decide) rfl (by omega) (fun _ => ?_) (fun hn => absurd hn (by omega))
        exact wp_return dX9_readAll_49 rfl ⟨rfl, ⟨rfl, rfl, rfl, by rw [← hr2]; exact h2, by rw [← hr2]; exact hc2, by rw [← hr2]; exact hk2, hx2⟩⟩ rfl rfl
      · rw [if_neg c1] at hr2
        rw [if_neg c1]
        refine wp_if_neN (tgt := 49) (q := 19) dX9_readAll_16 (by decide) rfl (by omega) (fun hn => absurd hn (by omega)) (fun _ => ?_)
        refine wp_iload_n (q := 20) dX9_readAll_19 0 rfl rfl ?_
        refine wp_bipush (q := 22) dX9_readAll_20 zq_bipush_60 rfl ?_
        refine wp_icmp_neN (tgt := 37) (q := 25) dX9_readAll_22 (by decide) rfl (by omega) (by omega) (fun hn => absurd hn (by omega)) (fun _ => ?_)
        refine wp_aload_n (q := 26) dX9_readAll_25 2 rfl rfl ?_
        refine wp_iconst (q := 27) dX9_readAll_26 zq_iconst_5 rfl ?_
        refine wp_aload_n (q := 28) dX9_readAll_27 2 rfl rfl ?_
        refine wp_cvx (q := 31) (sp_place (d := 0) h2.1) zm_X10_place zl_RX9_72 dX9_readAll_28 rfl (by omega) (Nat.le_of_ble_eq_true rfl) zsh_2 rfl rfl ?_
        refine wp_cvy (q := 34) (sp_fail (d := 0) (y := nI (T s.1.1 1)) h2.1 (by decide : 5 ≤ 5)) zm_X10_fail zl_RX9_76 dX9_readAll_31 rfl (by omega) (Nat.le_of_ble_eq_true rfl) zsh_2 rfl rfl ?_
        rintro _ M3 _ _ ⟨rfl, rfl, rfl, h3, hx3⟩
        refine wp_goto (tgt := 43) dX9_readAll_34 (by decide) ?_
        refine wp_iincN (q := 46) (loc' := [(3, _), (0, _), (1, _), (2, _)]) (n := 1) dX9_readAll_43 rfl 0 rfl (by decide) rfl rfl ?_
        refine wp_goto (tgt := 6) dX9_readAll_46 (by decide) ?_
        refine wp_iload_n (q := 7) dX9_readAll_6 0 rfl rfl ?_
        refine wp_bipush (q := 9) dX9_readAll_7 zq_bipush_60 rfl ?_
        refine wp_icmp_gtN (tgt := 49) (q := 12) dX9_readAll_9 (by decide) rfl (by omega) (by omega) (fun _ => ?_) (fun hn => absurd hn (by omega))
        exact wp_return dX9_readAll_49 rfl ⟨rfl, ⟨rfl, rfl, rfl, by rw [← hr2]; exact ⟨h3, zDT_2 hu h2.2.1 hx3, zFT_fr h2.2.2.1 (hx3 _ (by omega)) (hx3 _ (by omega)), zFT_fr h2.2.2.2 (hx3 _ (by omega)) (hx3 _ (by omega))⟩, by rw [← hr2]; exact hc2, by rw [← hr2]; exact zkp_f hE zpf_1, fun x x1 x2 x3 => by rw [hx3 x x1]; exact hx2 x x1 x2 x3⟩⟩ rfl rfl
    | succ k ih =>
      intro n M2 s hn h2 hQ2 hc2 hk2 hx2 hr2
      rw [zrl] at hr2
      refine wp_iload_n (q := 7) dX9_readAll_6 0 rfl rfl ?_
      refine wp_bipush (q := 9) dX9_readAll_7 zq_bipush_60 rfl ?_
      refine wp_icmp_gtN (tgt := 49) (q := 12) dX9_readAll_9 (by decide) rfl (by omega) (by omega) (fun hn => absurd hn (by omega)) (fun _ => ?_)
      refine wp_aload_n (q := 13) dX9_readAll_12 2 rfl rfl ?_
      refine wp_cvx (q := 16) (sp_atEnd (d := 0) h2.1) zm_X10_atEnd zl_RX9_66 dX9_readAll_13 rfl (by omega) (Nat.le_of_ble_eq_true rfl) zsh_2 rfl rfl ?_
      by_cases c1 : T s.1.1 0 = 0
      · rw [if_pos c1] at hr2
        rw [if_pos c1]
        refine wp_if_neN (tgt := 49) (q := 19) dX9_readAll_16 (by decide) rfl (by omega) (fun _ => ?_) (fun hn => absurd hn (by omega))
        exact wp_return dX9_readAll_49 rfl ⟨rfl, ⟨rfl, rfl, rfl, by rw [← hr2]; exact h2, by rw [← hr2]; exact hc2, by rw [← hr2]; exact hk2, hx2⟩⟩ rfl rfl
      · rw [if_neg c1] at hr2
        rw [if_neg c1]
        refine wp_if_neN (tgt := 49) (q := 19) dX9_readAll_16 (by decide) rfl (by omega) (fun hn => absurd hn (by omega)) (fun _ => ?_)
        refine wp_iload_n (q := 20) dX9_readAll_19 0 rfl rfl ?_
        refine wp_bipush (q := 22) dX9_readAll_20 zq_bipush_60 rfl ?_
        refine wp_icmp_neN (tgt := 37) (q := 25) dX9_readAll_22 (by decide) rfl (by omega) (by omega) (fun _ => ?_) (fun hn => absurd hn (by omega))
        refine wp_aload_n (q := 38) dX9_readAll_37 1 rfl rfl ?_
        refine wp_aload_n (q := 39) dX9_readAll_38 2 rfl rfl ?_
        refine wp_aload_n (q := 40) dX9_readAll_39 3 rfl rfl ?_
        refine wp_cvy (q := 43) (sp_readOne (d := d) hu hE hQ2 h2 hc2 rfl) zm_X9_readOne zl_RX9_80 dX9_readAll_40 rfl (by omega) (Nat.le_of_ble_eq_true rfl) (by first | assumption | rfl) rfl rfl ?_
        rintro _ M3 _ _ ⟨rfl, rfl, rfl, h3, hx3⟩
        refine wp_iincN (q := 46) (loc' := [(3, _), (0, _), (1, _), (2, _)]) (n := 1) dX9_readAll_43 rfl 0 rfl (by decide) rfl rfl ?_
        refine wp_goto (tgt := 6) dX9_readAll_46 (by decide) ?_
        refine WP.sub (loc' := [(3, _), (0, _), (1, _), (2, _)]) [0, 1, 2, 3] rfl ?_
        have hk := zkp_ro hE s hQ2.2.1
        exact ih (n + 1) M3 _ (by omega) h3 (zkp_ok hk hQ2) (zDc_ro hE (zTT_v h2.1) s hQ2.2.1 hc2) (zkp_tr hk2 hk) (fun x x1 x2 x3 => by rw [hx3 x x1 x2 x3]; exact hx2 x x1 x2 x3) hr2
  refine wp_aload_n (q := 1) dX9_readAll_0 0 rfl rfl ?_
  refine wp_cvx (q := 4) (sp_tclear (d := 0) hu) zm_X9_clear zl_RX9_63 dX9_readAll_1 rfl (by omega) (Nat.le_of_ble_eq_true rfl) (by first | assumption | rfl) rfl rfl ?_
  refine wp_iconst (q := 5) dX9_readAll_4 zq_iconst_0 rfl ?_
  refine wp_istore_n (q := 6) (loc' := [(3, _), (0, _), (1, _), (2, _)]) dX9_readAll_5 rfl (by decide) rfl rfl ?_
  refine WP.sub (loc' := [(3, _), (0, _), (1, _), (2, _)]) [0, 1, 2, 3] rfl ?_
  have hDz : zDT (zu (zu (zu (zu (zu (zu M u 0 (nI 0)) u 1 (nI 0)) u 7 (nI 0)) u 10 (nI 100)) u 11 (nI 0)) u 12 (nI 0)) u (zDz D) := zDT_w (zDT_w (zDT_w (zDT_w (zDT_w (zDT_w hD 0 0 0) 0 1 0) 0 7 0) 0 10 100) 0 11 0) 0 12 0
  have hx : ∀ x, x ≠ u → zu (zu (zu (zu (zu (zu M u 0 (nI 0)) u 1 (nI 0)) u 7 (nI 0)) u 10 (nI 100)) u 11 (nI 0)) u 12 (nI 0) x = M x := fun x hx => by rw [zu_ne hx, zu_ne hx, zu_ne hx, zu_ne hx, zu_ne hx, zu_ne hx]
  exact loop 60 0 _ _ (Nat.zero_add _) ⟨zTT_fr h (fun x x1 => hx x (by omega)), hDz, zFT_fr hm (hx _ (by omega)) (hx _ (by omega)), zFT_fr hs (hx _ (by omega)) (hx _ (by omega))⟩ hQ (zDc_z D) (zkp_r hp) (fun x x1 x2 x3 => hx x (by omega)) hr

