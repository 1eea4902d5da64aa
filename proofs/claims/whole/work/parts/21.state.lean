abbrev wh (v : Nat → Nat) (s : Nat) : Nat := v (3 + 6 * s)
abbrev ht (v : Nat → Nat) (s : Nat) : Nat := v (4 + 6 * s)
abbrev gr (v : Nat → Nat) (s h : Nat) : Nat := v (5 + 6 * s + 2 * h)
abbrev lw (v : Nat → Nat) (s h : Nat) : Nat := v (6 + 6 * s + 2 * h)
def zV (n : Nat) (v : Nat → Nat) : Prop := n ≤ 8 ∧ (∀ s, s < n → wh v s < n) ∧ (∀ s s', s < n → s' < n → wh v s = wh v s' → s = s') ∧ (∀ s, s < n → ht v s ≤ 99) ∧ (∀ s h, s < n → h < 2 → gr v s h ≤ 2 ∧ lw v s h ≤ 9) ∧ v 0 ≤ 9999 ∧ v 1 ≤ 9999 ∧ v 2 ≤ 9999
def zSR (M : zMI) (o n : Nat) (v : Nat → Nat) : Prop := M o 0 = nI n ∧ M o 1 = nI (v 0) ∧ M o 2 = nI (v 1) ∧ M o 3 = nI (v 2) ∧ ∀ s, s < n → M (o + 1) s = nI (wh v s) ∧ M (o + 2) (wh v s) = nI (ht v s) ∧ ∀ h, h < 2 → M (o + 3) (2 * wh v s + h) = nI (gr v s h) ∧ M (o + 4) (2 * wh v s + h) = nI (lw v s h)
set_option maxHeartbeats 4000000 in
set_option maxRecDepth 100000 in
theorem sp_ahead {d t o s : Nat} {M : zMI} {L : zML} {n : Nat} (ho : zSt o) (hn : M o 0 = nI n) (hn8 : n ≤ 8) (hs : s < n) : Sx yX7_ahead YX7_ahead (d) [.ref o, .int (nI s)] M L (zRf t) (some (.int (nI ((s + n - 1) % n)))) M L (zRf t) := by
  refine Sp.of (by decide +kernel) rfl (fun h => by first | exact h | cases h) (Nat.le_of_ble_eq_true rfl) ?_
  intro w G
  have hss := zSt_s ho
  refine wp_iload_n (q := 1) dX7_ahead_0 1 rfl rfl ?_
  refine wp_if_gtN (tgt := 13) (q := 4) dX7_ahead_1 (by decide) rfl (by omega) (fun h => ?_) (fun h => ?_)
  · skip
    refine wp_iload_n (q := 14) dX7_ahead_13 1 rfl rfl ?_
    refine wp_iconst (q := 15) dX7_ahead_14 zq_iconst_1 rfl ?_
    refine wp_isubN (q := 16) dX7_ahead_15 (by omega) rfl ?_
    rw [show (s + n - 1) % n = s - 1 by rw [show s + n - 1 = s - 1 + n by omega, Nat.add_mod_right, Nat.mod_eq_of_lt (by omega)]]
    exact wp_ireturn dX7_ahead_16 rfl ⟨rfl, rfl, rfl, rfl, rfl⟩ rfl rfl
  · skip
    refine wp_aload_n (q := 5) dX7_ahead_4 0 rfl rfl ?_
    refine wp_getI (q := 8) dX7_ahead_5 zf_RX7_9 rfl (by first | assumption | rfl) rfl ?_
    rw [hn]
    refine wp_iconst (q := 9) dX7_ahead_8 zq_iconst_1 rfl ?_
    refine wp_isubN (q := 10) dX7_ahead_9 (by omega) rfl ?_
    refine wp_goto (tgt := 16) dX7_ahead_10 (by decide) ?_
    subst h
    rw [show (0 + n - 1) % n = n - 1 by rw [Nat.zero_add, Nat.mod_eq_of_lt (by omega)]]
    exact wp_ireturn dX7_ahead_16 rfl ⟨rfl, rfl, rfl, rfl, rfl⟩ rfl rfl
set_option maxHeartbeats 4000000 in
set_option maxRecDepth 100000 in
theorem sp_handOf {d t o s h n : Nat} {M : zMI} {L : zML} {v : Nat → Nat} (ho : zSt o) (hv : zV n v) (hr : zSR M o n v) (hs : s < n) (hh : h < 2) : Sx yX7_handOf YX7_handOf (d) [.ref o, .int (nI s), .int (nI h)] M L (zRf t) (some (.int (nI (2 * wh v s + h)))) M L (zRf t) := by
  refine Sp.of (by decide +kernel) rfl (fun h => by first | exact h | cases h) (Nat.le_of_ble_eq_true rfl) ?_
  intro w G
  have hss := zSt_s ho
  obtain ⟨ha1, ha2, ha3, ha4⟩ := zSt_a ho
  obtain ⟨hr1, hr2, hr3, hr4⟩ := zSt_r (t := t) ho
  have h8 := hv.1
  refine wp_iconst (q := 1) dX7_handOf_0 zq_iconst_2 rfl ?_
  refine wp_aload_n (q := 2) dX7_handOf_1 0 rfl rfl ?_
  refine wp_getR (q := 5) dX7_handOf_2 zf_RX7_24 rfl (by first | assumption | rfl) (by first | assumption | rfl) rfl ?_
  refine wp_iload_n (q := 6) dX7_handOf_5 1 rfl rfl ?_
  refine wp_iald (q := 7) _ dX7_handOf_6 (by first | assumption | rfl) rfl (by omega) (by decide) rfl ?_
  rw [(hr.2.2.2.2 s hs).1]
  refine wp_imulN (q := 8) dX7_handOf_7 rfl ?_
  refine wp_iload_n (q := 9) dX7_handOf_8 2 rfl rfl ?_
  refine wp_iaddN (q := 10) dX7_handOf_9 rfl ?_
  exact wp_ireturn dX7_handOf_10 rfl ⟨rfl, rfl, rfl, rfl, rfl⟩ rfl rfl
set_option maxHeartbeats 4000000 in
set_option maxRecDepth 100000 in
theorem sp_holdOf {d t o p g w n : Nat} {M : zMI} {L : zML} (ho : zSt o) (hg : M (o + 3) p = nI g) (hw : M (o + 4) p = nI w) (hp : p < 16) : Sx yX7_holdOf YX7_holdOf (d) [.ref o, .int (nI p)] M L (zRf t) (some (.int (nI (10 * g + w)))) M L (zRf t) := by
  refine Sp.of (by decide +kernel) rfl (fun h => by first | exact h | cases h) (Nat.le_of_ble_eq_true rfl) ?_
  intro w G
  have hss := zSt_s ho
  obtain ⟨ha1, ha2, ha3, ha4⟩ := zSt_a ho
  obtain ⟨hr1, hr2, hr3, hr4⟩ := zSt_r (t := t) ho
  refine wp_bipush (q := 2) dX7_holdOf_0 zq_bipush_10 rfl ?_
  refine wp_aload_n (q := 3) dX7_holdOf_2 0 rfl rfl ?_
  refine wp_getR (q := 6) dX7_holdOf_3 zf_RX7_31 rfl (by first | assumption | rfl) (by first | assumption | rfl) rfl ?_
  refine wp_iload_n (q := 7) dX7_holdOf_6 1 rfl rfl ?_
  refine wp_iald (q := 8) _ dX7_holdOf_7 (by first | assumption | rfl) rfl (by omega) (by decide) rfl ?_
  rw [hg]
  refine wp_imulN (q := 9) dX7_holdOf_8 rfl ?_
  refine wp_aload_n (q := 10) dX7_holdOf_9 0 rfl rfl ?_
  refine wp_getR (q := 13) dX7_holdOf_10 zf_RX7_34 rfl (by first | assumption | rfl) (by first | assumption | rfl) rfl ?_
  refine wp_iload_n (q := 14) dX7_holdOf_13 1 rfl rfl ?_
  refine wp_iald (q := 15) _ dX7_holdOf_14 (by first | assumption | rfl) rfl (by omega) (by decide) rfl ?_
  rw [hw]
  refine wp_iaddN (q := 16) dX7_holdOf_15 rfl ?_
  exact wp_ireturn dX7_holdOf_16 rfl ⟨rfl, rfl, rfl, rfl, rfl⟩ rfl rfl
set_option maxHeartbeats 4000000 in
set_option maxRecDepth 100000 in
theorem sp_allHats {d t o n : Nat} {M : zMI} {L : zML} {v : Nat → Nat} (ho : zSt o) (hv : zV n v) (hr : zSR M o n v) : Sx yX7_allHats YX7_allHats (d) [.ref o] M L (zRf t) (some (.int (nI (nS (ht v) n)))) M L (zRf t) := by
  refine Sp.of (by decide +kernel) rfl (fun h => by first | exact h | cases h) (Nat.le_of_ble_eq_true rfl) ?_
  intro w G
  have hss := zSt_s ho
  obtain ⟨ha1, ha2, ha3, ha4⟩ := zSt_a ho
  obtain ⟨hr1, hr2, hr3, hr4⟩ := zSt_r (t := t) ho
  obtain ⟨h8, hw, hi, h99, -⟩ := id hv
  have hn := hr.1
  obtain ⟨f, hf⟩ : ∃ f : Nat → Nat, ∀ s, s < n → f (wh v s) = ht v s ∧ M (o + 2) (wh v s) = nI (f (wh v s)) := by
    refine ⟨fun p => (M (o + 2) p).toInt.toNat, fun s hs => ?_⟩
    have h1 := (hr.2.2.2.2 s hs).2.1
    have h2 := h99 s hs
    have h3 : (M (o + 2) (wh v s)).toInt.toNat = ht v s := by rw [h1, nI_toInt (by omega)]; exact Int.toNat_natCast _
    exact ⟨h3, by show _ = nI ((M (o + 2) (wh v s)).toInt.toNat); rw [h3]; exact h1⟩
  have hfp : ∀ p, p < n → M (o + 2) p = nI (f p) ∧ f p ≤ 99 := by
    intro p hp
    obtain ⟨s, h1, h2⟩ := zsurj hw hi hp
    have h3 := hf s h1
    have h4 := h99 s h1
    rw [h2] at h3
    exact ⟨h3.2, by omega⟩
  have hsum : nS (ht v) n = nS f n := by
    rw [← nS_perm f hw hi]
    exact nS_congr (fun s hs => (hf s hs).1.symm)
  have hb : ∀ i, i ≤ n → nS f i ≤ 99 * i := fun i hi => nS_le (fun j hj => (hfp j (by omega)).2)
  have loop : ∀ k i, i + k = n → WP w YX7_allHats (d, SS, 0, 0) G (some (zX (some (.int (nI (nS (ht v) n)))) M L (zRf t))) 4 [(0, .ref o), (1, .int (nI (nS f i))), (2, .int (nI i))] [] SS M L (zRf t) := by
    intro k
    induction k with
    | zero =>
      intro i hi
      refine wp_iload_n (q := 5) dX7_allHats_4 2 rfl rfl ?_
      refine wp_aload_n (q := 6) dX7_allHats_5 0 rfl rfl ?_
      refine wp_getI (q := 9) dX7_allHats_6 zf_RX7_9 rfl (by first | assumption | rfl) rfl ?_
      rw [hn]
      refine wp_icmp_geN (tgt := 27) (q := 12) dX7_allHats_9 (by decide) rfl (by omega) (by omega) (fun _ => ?_) (fun hn => absurd hn (by omega))
      refine wp_iload_n (q := 28) dX7_allHats_27 1 rfl rfl ?_
      rw [show i = n by omega, ← hsum]
      exact wp_ireturn dX7_allHats_28 rfl ⟨rfl, rfl, rfl, rfl, rfl⟩ rfl rfl
    | succ k ih =>
      intro i hi
      refine wp_iload_n (q := 5) dX7_allHats_4 2 rfl rfl ?_
      refine wp_aload_n (q := 6) dX7_allHats_5 0 rfl rfl ?_
      refine wp_getI (q := 9) dX7_allHats_6 zf_RX7_9 rfl (by first | assumption | rfl) rfl ?_
      rw [hn]
      refine wp_icmp_geN (tgt := 27) (q := 12) dX7_allHats_9 (by decide) rfl (by omega) (by omega) (fun hn => absurd hn (by omega)) (fun _ => ?_)
      refine wp_iload_n (q := 13) dX7_allHats_12 1 rfl rfl ?_
      refine wp_aload_n (q := 14) dX7_allHats_13 0 rfl rfl ?_
      refine wp_getR (q := 17) dX7_allHats_14 zf_RX7_28 rfl (by first | assumption | rfl) (by first | assumption | rfl) rfl ?_
      refine wp_iload_n (q := 18) dX7_allHats_17 2 rfl rfl ?_
      refine wp_iald (q := 19) _ dX7_allHats_18 (by first | assumption | rfl) rfl (by omega) (by decide) rfl ?_
      rw [(hfp i (by omega)).1]
      refine wp_iaddN (q := 20) dX7_allHats_19 rfl ?_
      refine wp_istore_n (q := 21) (loc' := [(1, _), (0, _), (2, _)]) dX7_allHats_20 rfl (by decide) rfl rfl ?_
      refine wp_iincN (q := 24) (loc' := [(2, _), (1, _), (0, _)]) (n := 1) dX7_allHats_21 rfl 2 rfl (by decide) rfl rfl ?_
      refine wp_goto (tgt := 4) dX7_allHats_24 (by decide) ?_
      refine WP.sub (loc' := [(0, _), (1, _), (2, _)]) [2, 1, 0] rfl ?_
      exact ih (i + 1) (by omega)
  refine wp_iconst (q := 1) dX7_allHats_0 zq_iconst_0 rfl ?_
  refine wp_istore_n (q := 2) (loc' := [(1, _), (0, _)]) dX7_allHats_1 rfl (by decide) rfl rfl ?_
  refine wp_iconst (q := 3) dX7_allHats_2 zq_iconst_0 rfl ?_
  refine wp_istore_n (q := 4) (loc' := [(2, _), (1, _), (0, _)]) dX7_allHats_3 rfl (by decide) rfl rfl ?_
  refine WP.sub (loc' := [(0, _), (1, _), (2, _)]) [2, 1, 0] rfl ?_
  exact loop n 0 (by omega)
def vup (v : Nat → Nat) (k x : Nat) : Nat → Nat := fun j => if j = k then x else v j
theorem vup_ne {v : Nat → Nat} {k x j : Nat} (h : j ≠ k) : vup v k x j = v j := if_neg h
theorem vup_eq {v : Nat → Nat} {k x : Nat} : vup v k x k = x := if_pos rfl
theorem zSR_ht {M M' : zMI} {o n s x : Nat} {v : Nat → Nat} (hv : zV n v) (hr : zSR M o n v) (hs : s < n) (h2 : ∀ p, M' (o + 2) p = if p = wh v s then nI x else M (o + 2) p) (ho : ∀ a, a ≠ o + 2 → M' a = M a) : zSR M' o n (vup v (4 + 6 * s) x) := by
  obtain ⟨r0, r1, r2, r3, r4⟩ := hr
  have e0 : M' o = M o := ho o (by omega)
  refine ⟨by rw [e0, r0], by rw [e0, r1, vup_ne (by omega)], by rw [e0, r2, vup_ne (by omega)], by rw [e0, r3, vup_ne (by omega)], fun s' hs' => ?_⟩
  have e1 : wh (vup v (4 + 6 * s) x) s' = wh v s' := if_neg (by omega)
  rw [e1, ho (o + 1) (by omega), ho (o + 3) (by omega), ho (o + 4) (by omega)]
  obtain ⟨a1, a2, a3⟩ := r4 s' hs'
  refine ⟨a1, ?_, fun h hh => ?_⟩
  · rw [h2]
    by_cases e : s' = s
    · subst e
      rw [if_pos rfl]
      exact congrArg nI (if_pos rfl).symm
    · rw [if_neg (fun c => e (hv.2.2.1 s' s hs' hs c)), a2]
      exact congrArg nI (if_neg (by omega)).symm
  · obtain ⟨b1, b2⟩ := a3 h hh
    rw [b1, b2]
    exact ⟨congrArg nI (if_neg (by omega)).symm, congrArg nI (if_neg (by omega)).symm⟩
theorem zV_ht {n s x : Nat} {v : Nat → Nat} (hv : zV n v) (hs : s < n) (hx : x ≤ 99) : zV n (vup v (4 + 6 * s) x) := by
  obtain ⟨h8, hw, hi, h99, hg, h0, h1, h2⟩ := hv
  have e1 : ∀ s', wh (vup v (4 + 6 * s) x) s' = wh v s' := fun s' => if_neg (by omega)
  refine ⟨h8, fun s' h => by rw [e1]; exact hw s' h, fun a b ha hb h => by rw [e1, e1] at h; exact hi a b ha hb h, fun s' h => ?_, fun s' h hs' hh => ?_, by rw [vup_ne (by omega)]; exact h0, by rw [vup_ne (by omega)]; exact h1, by rw [vup_ne (by omega)]; exact h2⟩
  · show (if 4 + 6 * s' = 4 + 6 * s then x else v (4 + 6 * s')) ≤ 99
    by_cases e : s' = s
    · subst e; rw [if_pos rfl]; exact hx
    · rw [if_neg (by omega)]; exact h99 s' h
  · have := hg s' h hs' hh
    rw [show gr (vup v (4 + 6 * s) x) s' h = gr v s' h from if_neg (by omega), show lw (vup v (4 + 6 * s) x) s' h = lw v s' h from if_neg (by omega)]
    exact this
set_option maxHeartbeats 4000000 in
set_option maxRecDepth 100000 in
theorem sp_addHat {d t o s n : Nat} {M : zMI} {L : zML} {v : Nat → Nat} (ho : zSt o) (hv : zV n v) (hr : zSR M o n v) (hs : s < n) : Sy yX7_addHat YX7_addHat (d + 1) [.ref o, .int (nI s)] M L (zRf t) (fun v0 M' L' R' => v0 = none ∧ L = L' ∧ R' = zRf t ∧ zSR M' o n (vup v (4 + 6 * s) (min 99 (ht v s + 1))) ∧ ∀ a, a ≠ o + 2 → M' a = M a) := by
  refine Sp.of (by decide +kernel) rfl (fun h => by first | exact h | cases h) (Nat.le_of_ble_eq_true rfl) ?_
  intro w G
  have hss := zSt_s ho
  obtain ⟨ha1, ha2, ha3, ha4⟩ := zSt_a ho
  obtain ⟨hr1, hr2, hr3, hr4⟩ := zSt_r (t := t) ho
  have h8 := hv.1
  have hw := hv.2.1 s hs
  have h9 := hv.2.2.2.1 s hs
  obtain ⟨a1, a2, -⟩ := hr.2.2.2.2 s hs
  refine wp_aload_n (q := 1) dX7_addHat_0 0 rfl rfl ?_
  refine wp_getR (q := 4) dX7_addHat_1 zf_RX7_28 rfl (by first | assumption | rfl) (by first | assumption | rfl) rfl ?_
  refine wp_aload_n (q := 5) dX7_addHat_4 0 rfl rfl ?_
  refine wp_getR (q := 8) dX7_addHat_5 zf_RX7_24 rfl (by first | assumption | rfl) (by first | assumption | rfl) rfl ?_
  refine wp_iload_n (q := 9) dX7_addHat_8 1 rfl rfl ?_
  refine wp_iald (q := 10) _ dX7_addHat_9 (by first | assumption | rfl) rfl (by omega) (by decide) rfl ?_
  rw [a1]
  refine wp_bipush (q := 12) dX7_addHat_10 zq_bipush_99 rfl ?_
  refine wp_aload_n (q := 13) dX7_addHat_12 0 rfl rfl ?_
  refine wp_getR (q := 16) dX7_addHat_13 zf_RX7_28 rfl (by first | assumption | rfl) (by first | assumption | rfl) rfl ?_
  refine wp_aload_n (q := 17) dX7_addHat_16 0 rfl rfl ?_
  refine wp_getR (q := 20) dX7_addHat_17 zf_RX7_24 rfl (by first | assumption | rfl) (by first | assumption | rfl) rfl ?_
  refine wp_iload_n (q := 21) dX7_addHat_20 1 rfl rfl ?_
  refine wp_iald (q := 22) _ dX7_addHat_21 (by first | assumption | rfl) rfl (by omega) (by decide) rfl ?_
  rw [a1]
  refine wp_iald (q := 23) _ dX7_addHat_22 (by first | assumption | rfl) rfl (by omega) (by decide) rfl ?_
  rw [a2]
  refine wp_iconst (q := 24) dX7_addHat_23 zq_iconst_1 rfl ?_
  refine wp_iaddN (q := 25) dX7_addHat_24 rfl ?_
  refine wp_mmin (q := 28) dX7_addHat_25 zl_RX7_49 (by omega) (Nat.le_of_ble_eq_true rfl) (Nat.le_refl _) (Nat.le_refl _) rfl ?_
  have e : (if nI (ht v s + 1) < nI 99 then nI (ht v s + 1) else nI 99) = nI (min 99 (ht v s + 1)) := by
    by_cases h : ht v s + 1 < 99
    · rw [if_pos ((nI_ltI (by omega) (by decide)).mpr h), Nat.min_eq_right (by omega)]
    · rw [if_neg (fun c => h ((nI_ltI (by omega) (by decide)).mp c)), Nat.min_eq_left (by omega)]
  rw [e]
  refine wp_iast (q := 29) _ dX7_addHat_28 (by first | assumption | rfl) rfl (by omega) (by decide) rfl ?_
  exact wp_return dX7_addHat_29 rfl ⟨rfl, ⟨rfl, rfl, rfl, zSR_ht hv hr hs (fun p => by rw [zu_o]) (fun a ha => zu_ne ha), fun a ha => zu_ne ha⟩⟩ rfl rfl

