def zSt (o : Nat) : Prop := o = 43 ∨ o = 157 ∨ o = 162 ∨ ∃ i, i < 20 ∧ o = 50 + 5 * i
theorem zSt_all {o : Nat} {P : Nat → Prop} (h : zSt o) (hp : ∀ x, x ∈ [43, 157, 162] ++ (List.range 20).map (fun i => 50 + 5 * i) → P x) : P o := by
  refine hp o ?_
  rcases h with rfl | rfl | rfl | ⟨i, hi, rfl⟩
  · simp
  · simp
  · simp
  · exact List.mem_append_right _ (List.mem_map.mpr ⟨i, List.mem_range.mpr hi, rfl⟩)
theorem zSt_s {o : Nat} (h : zSt o) : SS[o]? = some (.inr 7) := zSt_all (P := fun o => SS[o]? = some (.inr 7)) h (by decide +kernel)
theorem zSt_a {o : Nat} (h : zSt o) : SS[o + 1]? = some (.inl (8, .int)) ∧ SS[o + 2]? = some (.inl (8, .int)) ∧ SS[o + 3]? = some (.inl (16, .int)) ∧ SS[o + 4]? = some (.inl (16, .int)) := zSt_all (P := fun o => SS[o + 1]? = some (.inl (8, .int)) ∧ SS[o + 2]? = some (.inl (8, .int)) ∧ SS[o + 3]? = some (.inl (16, .int)) ∧ SS[o + 4]? = some (.inl (16, .int))) h (by decide +kernel)
theorem zSt_r {o t : Nat} (h : zSt o) : zRf t o 4 = some (o + 1) ∧ zRf t o 5 = some (o + 2) ∧ zRf t o 6 = some (o + 3) ∧ zRf t o 7 = some (o + 4) := by
  have h1 : zRc o 4 = some (o + 1) ∧ zRc o 5 = some (o + 2) ∧ zRc o 6 = some (o + 3) ∧ zRc o 7 = some (o + 4) := zSt_all (P := fun o => zRc o 4 = some (o + 1) ∧ zRc o 5 = some (o + 2) ∧ zRc o 6 = some (o + 3) ∧ zRc o 7 = some (o + 4)) h (by decide +kernel)
  have h2 : o ≠ 0 ∧ o ≠ 150 := zSt_all (P := fun o => o ≠ 0 ∧ o ≠ 150) h (by decide +kernel)
  simp [zRf, h1, h2.1, h2.2]
set_option maxHeartbeats 4000000 in
set_option maxRecDepth 100000 in
theorem sp_isSeat {d t : Nat} {M : zMI} {L : zML} {s : Int32} {n : Nat} (hn : M 43 0 = nI n) (hn8 : n ≤ 8) : Sx yX11_isSeat YX11_isSeat (d) [.ref 0, .int s] M L (zRf t) (some (.int (if 0 ≤ s ∧ s < nI n then nI 1 else nI 0))) M L (zRf t) := by
  refine Sp.of (by decide +kernel) rfl (fun h => by first | exact h | cases h) (Nat.le_of_ble_eq_true rfl) ?_
  intro w G
  refine wp_iload_n (q := 1) dX11_isSeat_0 1 rfl rfl ?_
  refine wp_if_lt (tgt := 19) (q := 4) dX11_isSeat_1 (by decide) rfl (fun h => ?_) (fun h => ?_)
  · skip
    rw [if_neg (fun e => absurd e.1 (Int32.not_le.mpr h))]
    refine wp_iconst (q := 20) dX11_isSeat_19 zq_iconst_0 rfl ?_
    exact wp_zreturn dX11_isSeat_20 rfl (by first | with_reducible exact znar_0 | with_reducible exact znar_1 | assumption) ⟨rfl, rfl, rfl, rfl, rfl⟩ rfl rfl
  · skip
    refine wp_iload_n (q := 5) dX11_isSeat_4 1 rfl rfl ?_
    refine wp_aload_n (q := 6) dX11_isSeat_5 0 rfl rfl ?_
    refine wp_getR (q := 9) dX11_isSeat_6 zf_RX11_55 rfl zsh_0 (zr_0_7 _) rfl ?_
    refine wp_getI (q := 12) dX11_isSeat_9 zf_RX11_165 rfl zsh_43 rfl ?_
    rw [hn]
    refine wp_icmp_ge (tgt := 19) (q := 15) dX11_isSeat_12 (by decide) rfl (fun h2 => ?_) (fun h2 => ?_)
    · skip
      rw [if_neg (fun e => absurd e.2 (Int32.not_lt.mpr h2))]
      refine wp_iconst (q := 20) dX11_isSeat_19 zq_iconst_0 rfl ?_
      exact wp_zreturn dX11_isSeat_20 rfl (by first | with_reducible exact znar_0 | with_reducible exact znar_1 | assumption) ⟨rfl, rfl, rfl, rfl, rfl⟩ rfl rfl
    · skip
      rw [if_pos ⟨Int32.not_lt.mp h, Int32.not_le.mp h2⟩]
      refine wp_iconst (q := 16) dX11_isSeat_15 zq_iconst_1 rfl ?_
      refine wp_goto (tgt := 20) dX11_isSeat_16 (by decide) ?_
      exact wp_zreturn dX11_isSeat_20 rfl (by first | with_reducible exact znar_0 | with_reducible exact znar_1 | assumption) ⟨rfl, rfl, rfl, rfl, rfl⟩ rfl rfl
set_option maxHeartbeats 4000000 in
set_option maxRecDepth 100000 in
theorem sp_crackers {d t o : Nat} {M : zMI} {L : zML} {n : Nat} (ho : zSt o) (hn : M o 0 = nI n) (hn8 : n ≤ 8) : Sx yX7_crackers YX7_crackers (d) [.ref o] M L (zRf t) (some (.int (nI (if n < 2 then 0 else n)))) M L (zRf t) := by
  refine Sp.of (by decide +kernel) rfl (fun h => by first | exact h | cases h) (Nat.le_of_ble_eq_true rfl) ?_
  intro w G
  have hs := zSt_s ho
  refine wp_aload_n (q := 1) dX7_crackers_0 0 rfl rfl ?_
  refine wp_getI (q := 4) dX7_crackers_1 zf_RX7_9 rfl (by first | assumption | rfl) rfl ?_
  refine wp_iconst (q := 5) dX7_crackers_4 zq_iconst_2 rfl ?_
  rw [hn]
  refine wp_icmp_geN (tgt := 12) (q := 8) dX7_crackers_5 (by decide) rfl (by omega) (by omega) (fun h => ?_) (fun h => ?_)
  · skip
    rw [if_neg (by omega)]
    refine wp_aload_n (q := 13) dX7_crackers_12 0 rfl rfl ?_
    refine wp_getI (q := 16) dX7_crackers_13 zf_RX7_9 rfl (by first | assumption | rfl) rfl ?_
    rw [hn]
    exact wp_ireturn dX7_crackers_16 rfl ⟨rfl, rfl, rfl, rfl, rfl⟩ rfl rfl
  · skip
    rw [if_pos (by omega)]
    refine wp_iconst (q := 9) dX7_crackers_8 zq_iconst_0 rfl ?_
    refine wp_goto (tgt := 16) dX7_crackers_9 (by decide) ?_
    exact wp_ireturn dX7_crackers_16 rfl ⟨rfl, rfl, rfl, rfl, rfl⟩ rfl rfl
set_option maxHeartbeats 4000000 in
set_option maxRecDepth 100000 in
theorem sp_behind {d t o s : Nat} {M : zMI} {L : zML} {n : Nat} (ho : zSt o) (hn : M o 0 = nI n) (hn8 : n ≤ 8) (hs : s < n) : Sx yX7_behind YX7_behind (d) [.ref o, .int (nI s)] M L (zRf t) (some (.int (nI ((s + 1) % n)))) M L (zRf t) := by
  refine Sp.of (by decide +kernel) rfl (fun h => by first | exact h | cases h) (Nat.le_of_ble_eq_true rfl) ?_
  intro w G
  have hss := zSt_s ho
  refine wp_iload_n (q := 1) dX7_behind_0 1 rfl rfl ?_
  refine wp_iconst (q := 2) dX7_behind_1 zq_iconst_1 rfl ?_
  refine wp_iaddN (q := 3) dX7_behind_2 rfl ?_
  refine wp_aload_n (q := 4) dX7_behind_3 0 rfl rfl ?_
  refine wp_getI (q := 7) dX7_behind_4 zf_RX7_9 rfl (by first | assumption | rfl) rfl ?_
  rw [hn]
  refine wp_icmp_ltN (tgt := 14) (q := 10) dX7_behind_7 (by decide) rfl (by omega) (by omega) (fun h => ?_) (fun h => ?_)
  · skip
    rw [Nat.mod_eq_of_lt (by omega)]
    refine wp_iload_n (q := 15) dX7_behind_14 1 rfl rfl ?_
    refine wp_iconst (q := 16) dX7_behind_15 zq_iconst_1 rfl ?_
    refine wp_iaddN (q := 17) dX7_behind_16 rfl ?_
    exact wp_ireturn dX7_behind_17 rfl ⟨rfl, rfl, rfl, rfl, rfl⟩ rfl rfl
  · skip
    have e : (s + 1) % n = 0 := by rw [show s + 1 = n by omega, Nat.mod_self]
    rw [e]
    refine wp_iconst (q := 11) dX7_behind_10 zq_iconst_0 rfl ?_
    refine wp_goto (tgt := 17) dX7_behind_11 (by decide) ?_
    exact wp_ireturn dX7_behind_17 rfl ⟨rfl, rfl, rfl, rfl, rfl⟩ rfl rfl
set_option maxHeartbeats 4000000 in
set_option maxRecDepth 100000 in
theorem sp_hatless {d t o : Nat} {M : zMI} {L : zML} {n : Nat} {f : Nat → Nat} (ho : zSt o) (hn : M o 0 = nI n) (hn8 : n ≤ 8) (hf : ∀ i, i < n → M (o + 2) i = nI (f i) ∧ f i ≤ 99) : Sx yX7_hatless YX7_hatless (d) [.ref o] M L (zRf t) (some (.int (nI ((List.range n).countP (fun i => f i == 0))))) M L (zRf t) := by
  refine Sp.of (by decide +kernel) rfl (fun h => by first | exact h | cases h) (Nat.le_of_ble_eq_true rfl) ?_
  intro w G
  have hss := zSt_s ho
  obtain ⟨ha1, ha2, ha3, ha4⟩ := zSt_a ho
  obtain ⟨hr1, hr2, hr3, hr4⟩ := zSt_r (t := t) ho
  have loop : ∀ k i, i + k = n → WP w YX7_hatless (d, SS, 0, 0) G (some (zX (some (.int (nI ((List.range n).countP (fun i => f i == 0))))) M L (zRf t))) 4 [(0, .ref o), (1, .int (nI ((List.range i).countP (fun i => f i == 0)))), (2, .int (nI i))] [] SS M L (zRf t) := by
    intro k
    induction k with
    | zero =>
      intro i hi
      refine wp_iload_n (q := 5) dX7_hatless_4 2 rfl rfl ?_
      refine wp_aload_n (q := 6) dX7_hatless_5 0 rfl rfl ?_
      refine wp_getI (q := 9) dX7_hatless_6 zf_RX7_9 rfl (by first | assumption | rfl) rfl ?_
      rw [hn]
      refine wp_icmp_geN (tgt := 30) (q := 12) dX7_hatless_9 (by decide) rfl (by omega) (by omega) (fun _ => ?_) (fun hn => absurd hn (by omega))
      refine wp_iload_n (q := 31) dX7_hatless_30 1 rfl rfl ?_
      rw [show i = n by omega]
      exact wp_ireturn dX7_hatless_31 rfl ⟨rfl, rfl, rfl, rfl, rfl⟩ rfl rfl
    | succ k ih =>
      intro i hi
      refine wp_iload_n (q := 5) dX7_hatless_4 2 rfl rfl ?_
      refine wp_aload_n (q := 6) dX7_hatless_5 0 rfl rfl ?_
      refine wp_getI (q := 9) dX7_hatless_6 zf_RX7_9 rfl (by first | assumption | rfl) rfl ?_
      rw [hn]
      refine wp_icmp_geN (tgt := 30) (q := 12) dX7_hatless_9 (by decide) rfl (by omega) (by omega) (fun hn => absurd hn (by omega)) (fun _ => ?_)
      refine wp_aload_n (q := 13) dX7_hatless_12 0 rfl rfl ?_
      refine wp_getR (q := 16) dX7_hatless_13 zf_RX7_28 rfl (by first | assumption | rfl) (by first | assumption | rfl) rfl ?_
      refine wp_iload_n (q := 17) dX7_hatless_16 2 rfl rfl ?_
      refine wp_iald (q := 18) _ dX7_hatless_17 (by first | assumption | rfl) rfl (by omega) (by decide) rfl ?_
      rw [(hf i (by omega)).1]
      have := (hf i (by omega)).2
      have hc : (List.range (i + 1)).countP (fun i => f i == 0) = (List.range i).countP (fun i => f i == 0) + (if f i = 0 then 1 else 0) := by
        rw [List.range_succ, List.countP_append, List.countP_singleton]
        simp
      have ih1 := ih (i + 1) (by omega)
      rw [hc] at ih1
      refine wp_if_neN (tgt := 24) (q := 21) dX7_hatless_18 (by decide) rfl (by omega) (fun h => ?_) (fun h => ?_)
      · skip
        rw [if_neg h, Nat.add_zero] at ih1
        refine wp_iincN (q := 27) (loc' := [(2, _), (0, _), (1, _)]) (n := 1) dX7_hatless_24 rfl 2 rfl (by decide) rfl rfl ?_
        refine wp_goto (tgt := 4) dX7_hatless_27 (by decide) ?_
        refine WP.sub (loc' := [(0, _), (1, _), (2, _)]) [1, 2, 0] rfl ?_
        exact ih1
      · skip
        rw [if_pos h] at ih1
        refine wp_iincN (q := 24) (loc' := [(1, _), (0, _), (2, _)]) (n := 1) dX7_hatless_21 rfl 1 rfl (by decide) rfl rfl ?_
        refine wp_iincN (q := 27) (loc' := [(2, _), (1, _), (0, _)]) (n := 1) dX7_hatless_24 rfl 2 rfl (by decide) rfl rfl ?_
        refine wp_goto (tgt := 4) dX7_hatless_27 (by decide) ?_
        refine WP.sub (loc' := [(0, _), (1, _), (2, _)]) [2, 1, 0] rfl ?_
        exact ih1
  refine wp_iconst (q := 1) dX7_hatless_0 zq_iconst_0 rfl ?_
  refine wp_istore_n (q := 2) (loc' := [(1, _), (0, _)]) dX7_hatless_1 rfl (by decide) rfl rfl ?_
  refine wp_iconst (q := 3) dX7_hatless_2 zq_iconst_0 rfl ?_
  refine wp_istore_n (q := 4) (loc' := [(2, _), (1, _), (0, _)]) dX7_hatless_3 rfl (by decide) rfl rfl ?_
  refine WP.sub (loc' := [(0, _), (1, _), (2, _)]) [2, 1, 0] rfl ?_
  exact loop n 0 (by omega)

