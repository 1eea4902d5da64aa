def zfi (nm : Nat → Nat) (x : Nat) : Nat → Nat → Nat
  | 0, _ => 99
  | k + 1, i => if nm i = x then i else zfi nm x k (i + 1)
set_option maxHeartbeats 4000000 in
set_option maxRecDepth 100000 in
theorem sp_personOf {d t u n x : Nat} {M : zMI} {L : zML} {nm : Nat → Nat} (hu : zTab u) (hn : M u 1 = nI n) (hn8 : n ≤ 8) (hm : ∀ i, i < n → M (u + 1) i = nI (nm i) ∧ nm i < 2147483648) (hx : x < 2147483648) : Sx yX9_personOf YX9_personOf (d) [.ref u, .int (nI x)] M L (zRf t) (some (.int (zwd (zfi nm x n 0)))) M L (zRf t) := by
  refine Sp.of (by decide +kernel) rfl (fun h => by first | exact h | cases h) (Nat.le_of_ble_eq_true rfl) ?_
  intro w G
  obtain ⟨s0, s1, s2, s3, s4, s5, s6, s7, s8, s11⟩ := zTab_s hu
  obtain ⟨r2, r3, r4, r5, r6, r8, r9, r13, r14⟩ := zTab_r (t := t) hu
  have loop : ∀ k i, i + k = n → zfi nm x k i = zfi nm x n 0 → WP w YX9_personOf (d, SS, 0, 0) G (some (zX (some (.int (zwd (zfi nm x n 0)))) M L (zRf t))) 2 [(2, .int (nI i)), (0, .ref u), (1, .int (nI x))] [] SS M L (zRf t) := by
    intro k
    induction k with
    | zero =>
      intro i hi hz
      refine wp_iload_n (q := 3) dX9_personOf_2 0 rfl rfl ?_
      refine wp_aload_n (q := 4) dX9_personOf_3 1 rfl rfl ?_
      refine wp_getI (q := 7) dX9_personOf_4 zf_RX9_15 rfl (by first | assumption | rfl) rfl ?_
      rw [hn]
      refine wp_icmp_geN (tgt := 28) (q := 10) dX9_personOf_7 (by decide) rfl (by omega) (by omega) (fun _ => ?_) (fun hn => absurd hn (by omega))
      rw [← hz]
      refine wp_iconst (q := 29) dX9_personOf_28 zq_iconst_m1 rfl ?_
      exact wp_ireturn dX9_personOf_29 rfl ⟨rfl, rfl, rfl, rfl, rfl⟩ rfl rfl
    | succ k ih =>
      intro i hi hz
      obtain ⟨m1, m2⟩ := hm i (by omega)
      rw [zfi] at hz
      refine wp_iload_n (q := 3) dX9_personOf_2 0 rfl rfl ?_
      refine wp_aload_n (q := 4) dX9_personOf_3 1 rfl rfl ?_
      refine wp_getI (q := 7) dX9_personOf_4 zf_RX9_15 rfl (by first | assumption | rfl) rfl ?_
      rw [hn]
      refine wp_icmp_geN (tgt := 28) (q := 10) dX9_personOf_7 (by decide) rfl (by omega) (by omega) (fun hn => absurd hn (by omega)) (fun _ => ?_)
      refine wp_aload_n (q := 11) dX9_personOf_10 1 rfl rfl ?_
      refine wp_getR (q := 14) dX9_personOf_11 zf_RX9_18 rfl (by first | assumption | rfl) (by first | assumption | rfl) rfl ?_
      refine wp_iload_n (q := 15) dX9_personOf_14 0 rfl rfl ?_
      refine wp_iald (q := 16) _ dX9_personOf_15 (by first | assumption | rfl) rfl (by omega) (by decide) rfl ?_
      rw [m1]
      refine wp_iload_n (q := 17) dX9_personOf_16 2 rfl rfl ?_
      refine wp_icmp_neN (tgt := 22) (q := 20) dX9_personOf_17 (by decide) rfl (by omega) (by omega) (fun hne => ?_) (fun hne => ?_)
      · skip
        rw [if_neg hne] at hz
        refine wp_iincN (q := 25) (loc' := [(2, _), (0, _), (1, _)]) (n := 1) dX9_personOf_22 rfl 0 rfl (by decide) rfl rfl ?_
        refine wp_goto (tgt := 2) dX9_personOf_25 (by decide) ?_
        refine WP.sub (loc' := [(2, _), (0, _), (1, _)]) [0, 1, 2] rfl ?_
        exact ih (i + 1) (by omega) hz
      · skip
        rw [if_pos hne] at hz
        rw [← hz, show zwd i = nI i from if_pos (by omega)]
        refine wp_iload_n (q := 21) dX9_personOf_20 0 rfl rfl ?_
        exact wp_ireturn dX9_personOf_21 rfl ⟨rfl, rfl, rfl, rfl, rfl⟩ rfl rfl
  refine wp_iconst (q := 1) dX9_personOf_0 zq_iconst_0 rfl ?_
  refine wp_istore_n (q := 2) (loc' := [(2, _), (0, _), (1, _)]) dX9_personOf_1 rfl (by decide) rfl rfl ?_
  refine WP.sub (loc' := [(2, _), (0, _), (1, _)]) [0, 1, 2] rfl ?_
  exact loop n 0 (Nat.zero_add _) rfl
set_option maxHeartbeats 4000000 in
set_option maxRecDepth 100000 in
theorem sp_boxOf {d t u n x : Nat} {M : zMI} {L : zML} {nm : Nat → Nat} (hu : zTab u) (hn : M u 7 = nI n) (hn8 : n ≤ 4) (hm : ∀ i, i < n → M (u + 6) i = nI (nm i) ∧ nm i < 2147483648) (hx : x < 2147483648) : Sx yX9_boxOf YX9_boxOf (d) [.ref u, .int (nI x)] M L (zRf t) (some (.int (zwd (zfi nm x n 0)))) M L (zRf t) := by
  refine Sp.of (by decide +kernel) rfl (fun h => by first | exact h | cases h) (Nat.le_of_ble_eq_true rfl) ?_
  intro w G
  obtain ⟨s0, s1, s2, s3, s4, s5, s6, s7, s8, s11⟩ := zTab_s hu
  obtain ⟨r2, r3, r4, r5, r6, r8, r9, r13, r14⟩ := zTab_r (t := t) hu
  have loop : ∀ k i, i + k = n → zfi nm x k i = zfi nm x n 0 → WP w YX9_boxOf (d, SS, 0, 0) G (some (zX (some (.int (zwd (zfi nm x n 0)))) M L (zRf t))) 2 [(2, .int (nI i)), (0, .ref u), (1, .int (nI x))] [] SS M L (zRf t) := by
    intro k
    induction k with
    | zero =>
      intro i hi hz
      refine wp_iload_n (q := 3) dX9_boxOf_2 0 rfl rfl ?_
      refine wp_aload_n (q := 4) dX9_boxOf_3 1 rfl rfl ?_
      refine wp_getI (q := 7) dX9_boxOf_4 zf_RX9_34 rfl (by first | assumption | rfl) rfl ?_
      rw [hn]
      refine wp_icmp_geN (tgt := 28) (q := 10) dX9_boxOf_7 (by decide) rfl (by omega) (by omega) (fun _ => ?_) (fun hn => absurd hn (by omega))
      rw [← hz]
      refine wp_iconst (q := 29) dX9_boxOf_28 zq_iconst_m1 rfl ?_
      exact wp_ireturn dX9_boxOf_29 rfl ⟨rfl, rfl, rfl, rfl, rfl⟩ rfl rfl
    | succ k ih =>
      intro i hi hz
      obtain ⟨m1, m2⟩ := hm i (by omega)
      rw [zfi] at hz
      refine wp_iload_n (q := 3) dX9_boxOf_2 0 rfl rfl ?_
      refine wp_aload_n (q := 4) dX9_boxOf_3 1 rfl rfl ?_
      refine wp_getI (q := 7) dX9_boxOf_4 zf_RX9_34 rfl (by first | assumption | rfl) rfl ?_
      rw [hn]
      refine wp_icmp_geN (tgt := 28) (q := 10) dX9_boxOf_7 (by decide) rfl (by omega) (by omega) (fun hn => absurd hn (by omega)) (fun _ => ?_)
      refine wp_aload_n (q := 11) dX9_boxOf_10 1 rfl rfl ?_
      refine wp_getR (q := 14) dX9_boxOf_11 zf_RX9_37 rfl (by first | assumption | rfl) (by first | assumption | rfl) rfl ?_
      refine wp_iload_n (q := 15) dX9_boxOf_14 0 rfl rfl ?_
      refine wp_iald (q := 16) _ dX9_boxOf_15 (by first | assumption | rfl) rfl (by omega) (by decide) rfl ?_
      rw [m1]
      refine wp_iload_n (q := 17) dX9_boxOf_16 2 rfl rfl ?_
      refine wp_icmp_neN (tgt := 22) (q := 20) dX9_boxOf_17 (by decide) rfl (by omega) (by omega) (fun hne => ?_) (fun hne => ?_)
      · skip
        rw [if_neg hne] at hz
        refine wp_iincN (q := 25) (loc' := [(2, _), (0, _), (1, _)]) (n := 1) dX9_boxOf_22 rfl 0 rfl (by decide) rfl rfl ?_
        refine wp_goto (tgt := 2) dX9_boxOf_25 (by decide) ?_
        refine WP.sub (loc' := [(2, _), (0, _), (1, _)]) [0, 1, 2] rfl ?_
        exact ih (i + 1) (by omega) hz
      · skip
        rw [if_pos hne] at hz
        rw [← hz, show zwd i = nI i from if_pos (by omega)]
        refine wp_iload_n (q := 21) dX9_boxOf_20 0 rfl rfl ?_
        exact wp_ireturn dX9_boxOf_21 rfl ⟨rfl, rfl, rfl, rfl, rfl⟩ rfl rfl
  refine wp_iconst (q := 1) dX9_boxOf_0 zq_iconst_0 rfl ?_
  refine wp_istore_n (q := 2) (loc' := [(2, _), (0, _), (1, _)]) dX9_boxOf_1 rfl (by decide) rfl rfl ?_
  refine WP.sub (loc' := [(2, _), (0, _), (1, _)]) [0, 1, 2] rfl ?_
  exact loop n 0 (Nat.zero_add _) rfl

