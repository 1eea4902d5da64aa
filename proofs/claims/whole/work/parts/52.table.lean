def ztn (T : Nat → Nat → Nat) (c : Nat) (p : zP) (n : Nat) (nm : Nat → Nat) (bx : Nat) (bn : Nat → Nat) : zP × Nat := if (zpNa T c p).1.2.2.1 = 0 ∧ (zfi nm (zpNa T c p).2 n 0 < 30 ∨ zfi bn (zpNa T c p).2 bx 0 < 30) then (zpf c (zpNa T c p).1 3 (nI (T p.1 1)), (zpNa T c p).2) else zpNa T c p
set_option maxHeartbeats 4000000 in
set_option maxRecDepth 100000 in
theorem sp_newName {d t u n bx c : Nat} {M : zMI} {L : zML} {nm bn : Nat → Nat} {T : Nat → Nat → Nat} {p : zP} (hu : zTab u) (h : zTT M T c p) (hn : zTn M u n bx nm bn) {r : zP × Nat} (hr : ztn T c p n nm bx bn = r) : Sy yX9_newName YX9_newName (d + 3) [.ref u, .ref 2] M L (zRf t) (fun v0 M' L' R' => v0 = some (.int (nI r.2)) ∧ L = L' ∧ R' = zRf t ∧ zTT M' T c r.1 ∧ ∀ x, x ≠ 2 → M' x = M x) := by
  refine Sp.of (by decide +kernel) rfl (fun h => by first | exact h | cases h) (Nat.le_of_ble_eq_true rfl) ?_
  intro w G
  obtain ⟨s0, s1, s2, s3, s4, s5, s6, s7, s8, s11⟩ := zTab_s hu
  have h01 : ∀ z, z < 30 → (nI z : Int32) ≠ -1 := by decide +kernel
  unfold ztn at hr
  refine wp_aload_n (q := 1) dX9_newName_0 1 rfl rfl ?_
  refine wp_cvx (q := 4) (sp_place (d := 0) h) zm_X10_place zl_RX9_72 dX9_newName_1 rfl (by omega) (Nat.le_of_ble_eq_true rfl) zsh_2 rfl rfl ?_
  refine wp_istore_n (q := 5) (loc' := [(2, _), (0, _), (1, _)]) dX9_newName_4 rfl (by decide) rfl rfl ?_
  refine wp_aload_n (q := 6) dX9_newName_5 2 rfl rfl ?_
  refine wp_cvy (q := 9) (sp_needName (d := 0) h) zm_X10_needName zl_RX9_145 dX9_newName_6 rfl (by omega) (Nat.le_of_ble_eq_true rfl) zsh_2 rfl rfl ?_
  rintro _ M2 _ _ ⟨rfl, rfl, rfl, h2, hx2⟩
  have hl := zpNa_lt h
  obtain ⟨q, hq⟩ : ∃ q, zpNa T c p = q := ⟨_, rfl⟩
  rw [hq] at hr h2 hl ⊢
  have hn2 := zTn_fr hu hn hx2
  obtain ⟨n1, n2, n3, n4, n5, n6⟩ := hn2
  refine wp_istore_n (q := 10) (loc' := [(3, _), (2, _), (0, _), (1, _)]) dX9_newName_9 rfl (by decide) rfl rfl ?_
  have good : q = r → WP w YX9_newName (d + 3, SS, 0, 0) G (some (zXp (fun v0 M' L' R' => v0 = some (.int (nI r.2)) ∧ L = L' ∧ R' = zRf t ∧ zTT M' T c r.1 ∧ ∀ x, x ≠ 2 → M' x = M x))) 41 [(3, .int (nI q.2)), (2, .int (nI (T p.1 1))), (0, .ref u), (1, .ref 2)] [] SS M2 L (zRf t) := by
    intro e
    refine wp_iload_n (q := 42) dX9_newName_41 0 rfl rfl ?_
    exact wp_ireturn dX9_newName_42 rfl ⟨rfl, ⟨by rw [e], rfl, rfl, by rw [← e]; exact h2, hx2⟩⟩ rfl rfl
  have bad : (zpf c q.1 3 (nI (T p.1 1)), q.2) = r → WP w YX9_newName (d + 3, SS, 0, 0) G (some (zXp (fun v0 M' L' R' => v0 = some (.int (nI r.2)) ∧ L = L' ∧ R' = zRf t ∧ zTT M' T c r.1 ∧ ∀ x, x ≠ 2 → M' x = M x))) 35 [(3, .int (nI q.2)), (2, .int (nI (T p.1 1))), (0, .ref u), (1, .ref 2)] [] SS M2 L (zRf t) := by
    intro e
    refine wp_aload_n (q := 36) dX9_newName_35 3 rfl rfl ?_
    refine wp_iconst (q := 37) dX9_newName_36 zq_iconst_3 rfl ?_
    refine wp_iload_n (q := 38) dX9_newName_37 1 rfl rfl ?_
    refine wp_cvy (q := 41) (sp_fail (d := 0) (y := nI (T p.1 1)) h2 (by decide : 3 ≤ 5)) zm_X10_fail zl_RX9_76 dX9_newName_38 rfl (by omega) (Nat.le_of_ble_eq_true rfl) zsh_2 rfl rfl ?_
    rintro _ M3 _ _ ⟨rfl, rfl, rfl, h3, hx3⟩
    refine wp_iload_n (q := 42) dX9_newName_41 0 rfl rfl ?_
    exact wp_ireturn dX9_newName_42 rfl ⟨rfl, ⟨by rw [← e], rfl, rfl, by rw [← e]; exact h3, fun x hx => by rw [hx3 x hx, hx2 x hx]⟩⟩ rfl rfl
  refine wp_aload_n (q := 11) dX9_newName_10 3 rfl rfl ?_
  refine wp_cvx (q := 14) (sp_failed (d := 0) h2) zm_X10_failed zl_RX9_148 dX9_newName_11 rfl (by omega) (Nat.le_of_ble_eq_true rfl) zsh_2 rfl rfl ?_
  by_cases c1 : q.1.2.2.1 = 0
  · rw [if_pos c1]
    refine wp_if_neN (tgt := 41) (q := 17) dX9_newName_14 (by decide) rfl (by omega) (fun hn => absurd hn (by omega)) (fun _ => ?_)
    refine wp_aload_n (q := 18) dX9_newName_17 2 rfl rfl ?_
    refine wp_iload_n (q := 19) dX9_newName_18 0 rfl rfl ?_
    refine wp_cvx (q := 22) (sp_personOf (d := 0) hu n1 n2 n3 hl) zm_X9_personOf zl_RX9_151 dX9_newName_19 rfl (by omega) (Nat.le_of_ble_eq_true rfl) (by first | assumption | rfl) rfl rfl ?_
    rcases zfi_v nm q.2 n 0 (by omega) with c2 | c2
    · rw [if_pos ⟨c1, Or.inl c2⟩] at hr
      rw [show zwd (zfi nm q.2 n 0) = nI (zfi nm q.2 n 0) from if_pos c2]
      refine wp_iconst (q := 23) dX9_newName_22 zq_iconst_m1 rfl ?_
      refine wp_icmp_ne (tgt := 35) (q := 26) dX9_newName_23 (by decide) rfl (fun _ => ?_) (fun hn => absurd hn (by exact h01 _ c2))
      refine WP.sub (loc' := [(3, _), (2, _), (0, _), (1, _)]) [0, 1, 2, 3] rfl ?_
      exact bad hr
    · rw [c2, show zwd 99 = -1 from rfl]
      refine wp_iconst (q := 23) dX9_newName_22 zq_iconst_m1 rfl ?_
      refine wp_icmp_ne (tgt := 35) (q := 26) dX9_newName_23 (by decide) rfl (fun hn => absurd hn (by exact fun c => c rfl)) (fun _ => ?_)
      refine wp_aload_n (q := 27) dX9_newName_26 2 rfl rfl ?_
      refine wp_iload_n (q := 28) dX9_newName_27 0 rfl rfl ?_
      refine wp_cvx (q := 31) (sp_boxOf (d := 0) hu n4 n5 n6 hl) zm_X9_boxOf zl_RX9_154 dX9_newName_28 rfl (by omega) (Nat.le_of_ble_eq_true rfl) (by first | assumption | rfl) rfl rfl ?_
      rcases zfi_v bn q.2 bx 0 (by omega) with c3 | c3
      · rw [if_pos ⟨c1, Or.inr c3⟩] at hr
        rw [show zwd (zfi bn q.2 bx 0) = nI (zfi bn q.2 bx 0) from if_pos c3]
        refine wp_iconst (q := 32) dX9_newName_31 zq_iconst_m1 rfl ?_
        refine wp_icmp_eq (tgt := 41) (q := 35) dX9_newName_32 (by decide) rfl (fun hn => absurd hn (by exact h01 _ c3)) (fun _ => ?_)
        refine WP.sub (loc' := [(3, _), (2, _), (0, _), (1, _)]) [0, 1, 2, 3] rfl ?_
        exact bad hr
      · rw [if_neg (fun e => by omega)] at hr
        rw [c3, show zwd 99 = -1 from rfl]
        refine wp_iconst (q := 32) dX9_newName_31 zq_iconst_m1 rfl ?_
        refine wp_icmp_eq (tgt := 41) (q := 35) dX9_newName_32 (by decide) rfl (fun _ => ?_) (fun hn => absurd hn (by exact fun c => c rfl))
        refine WP.sub (loc' := [(3, _), (2, _), (0, _), (1, _)]) [0, 1, 2, 3] rfl ?_
        exact good hr
  · rw [if_neg (fun e => c1 e.1)] at hr
    rw [if_neg c1]
    refine wp_if_neN (tgt := 41) (q := 17) dX9_newName_14 (by decide) rfl (by omega) (fun _ => ?_) (fun hn => absurd hn (by omega))
    refine WP.sub (loc' := [(3, _), (2, _), (0, _), (1, _)]) [0, 1, 2, 3] rfl ?_
    exact good hr

