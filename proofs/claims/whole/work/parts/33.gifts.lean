def zmt (c : Nat → Nat) : Nat → Nat
  | 0 => 1000000
  | k + 1 => min (zmt c k) (c (16 - k))
def zab (i : Nat) : Nat := if i < 8 then 8 - i else i - 8
def zstp (c : Nat → Nat) (h : Nat) : Nat → Nat := fun i => if i + 1 - h < 17 then zmt c (17 - (i + 1 - h)) + zab i else 1000000
def zgc (v : Nat → Nat) (f : Nat) : Nat → Nat → Nat
  | 0 => fun i => if i = f then 0 else 1000000
  | s + 1 => zstp (zgc v f s) (ht v s)
def zgm (v : Nat → Nat) (n : Nat) : Nat → Nat
  | 0 => 1000000
  | k + 1 => min (zgm v n k) (zgc v k n k)
theorem zmt_le (c : Nat → Nat) : ∀ k, zmt c k ≤ 1000000 := by
  intro k
  induction k with
  | zero => exact Nat.le_refl _
  | succ k ih => exact Nat.le_trans (Nat.min_le_left _ _) ih
theorem zab_le {i : Nat} (h : i < 17) : zab i ≤ 8 := by unfold zab; split <;> omega
theorem zstp_le (c : Nat → Nat) (h : Nat) {i : Nat} (hi : i < 17) : zstp c h i ≤ 1000008 := by
  unfold zstp
  have := zmt_le c (17 - (i + 1 - h))
  have := zab_le hi
  split <;> omega
theorem zgc_le (v : Nat → Nat) (f : Nat) : ∀ s i, i < 17 → zgc v f s i ≤ 1000008 := by
  intro s i hi
  cases s with
  | zero => show (if i = f then 0 else 1000000) ≤ 1000008; split <;> omega
  | succ s => exact zstp_le _ _ hi
theorem zgm_le (v : Nat → Nat) (n : Nat) : ∀ k, zgm v n k ≤ 1000000 := by
  intro k
  induction k with
  | zero => exact Nat.le_refl _
  | succ k ih => exact Nat.le_trans (Nat.min_le_left _ _) ih
theorem zmin {a b : Nat} (ha : a ≤ 2147483647) (hb : b ≤ 2147483647) : (if nI b < nI a then nI b else nI a) = nI (min a b) := by
  by_cases h : b < a
  · rw [if_pos ((nI_ltI (by omega) (by omega)).mpr h), Nat.min_eq_right (by omega)]
  · rw [if_neg (fun c => h ((nI_ltI (by omega) (by omega)).mp c)), Nat.min_eq_left (by omega)]
theorem zmax0 : ∀ i, i < 17 → ∀ h, h < 100 → (if nI 0 < nI (i + 1) - nI h then nI (i + 1) - nI h else nI 0) = nI (i + 1 - h) := by decide +kernel
theorem zabs8 : ∀ i, i < 17 → (if 0 ≤ nI i - nI 8 then nI i - nI 8 else 0 - (nI i - nI 8)) = nI (zab i) := by decide +kernel
def zdn (k : Nat) : Int32 := if k = 0 then -1 else nI (k - 1)
theorem zdn_i : ∀ k, k < 18 → nI k + Int32.ofInt (-1) = zdn k := by decide +kernel
set_option maxHeartbeats 4000000 in
set_option maxRecDepth 100000 in
theorem sp_gstep {d h t : Nat} {M : zMI} {L : zML} {c : Nat → Nat} (hc : ∀ i, i < 17 → M 173 i = nI (c i)) (hb : ∀ i, i < 17 → c i ≤ 1000008) (hh : h ≤ 99) : Sy yX1_step YX1_step (d + 1) [.ref 172, .int (nI h)] M L (zRf t) (fun v0 M' L' R' => v0 = none ∧ L = L' ∧ R' = zRf t ∧ (∀ i, i < 17 → M' 173 i = nI (zstp c h i)) ∧ ∀ x, x ≠ 173 → x ≠ 174 → M' x = M x) := by
  refine Sp.of (by decide +kernel) rfl (fun h => by first | exact h | cases h) (Nat.le_of_ble_eq_true rfl) ?_
  intro w G
  have loop2 : ∀ k i (M2 : zMI), i + k = 17 → (∀ j, j < 17 → M2 174 j = nI (zmt c (17 - j))) → (∀ j, j < i → M2 173 j = nI (zstp c h j)) → (∀ x, x ≠ 173 → x ≠ 174 → M2 x = M x) → WP w YX1_step (d + 1, SS, 0, 0) G (some (zXp (fun v0 M' L' R' => v0 = none ∧ L = L' ∧ R' = zRf t ∧ (∀ i, i < 17 → M' 173 i = nI (zstp c h i)) ∧ ∀ x, x ≠ 173 → x ≠ 174 → M' x = M x))) 36 [(3, .int (nI i)), (0, .ref 172), (1, .int (nI h))] [] SS M2 L (zRf t) := by
    intro k
    induction k with
    | zero =>
      intro i M2 hi hb2 hj hf
      refine wp_iload_n (q := 37) dX1_step_36 0 rfl rfl ?_
      refine wp_bipush (q := 39) dX1_step_37 zq_bipush_17 rfl ?_
      refine wp_icmp_geN (tgt := 92) (q := 42) dX1_step_39 (by decide) rfl (by omega) (by omega) (fun _ => ?_) (fun hn => absurd hn (by omega))
      exact wp_return dX1_step_92 rfl ⟨rfl, ⟨rfl, rfl, rfl, fun j hj2 => hj j (by omega), hf⟩⟩ rfl rfl
    | succ k ih =>
      intro i M2 hi hb2 hj hf
      have hi17 : i < 17 := by omega
      refine wp_iload_n (q := 37) dX1_step_36 0 rfl rfl ?_
      refine wp_bipush (q := 39) dX1_step_37 zq_bipush_17 rfl ?_
      refine wp_icmp_geN (tgt := 92) (q := 42) dX1_step_39 (by decide) rfl (by omega) (by omega) (fun hn => absurd hn (by omega)) (fun _ => ?_)
      refine wp_iconst (q := 43) dX1_step_42 zq_iconst_0 rfl ?_
      refine wp_iload_n (q := 44) dX1_step_43 0 rfl rfl ?_
      refine wp_iconst (q := 45) dX1_step_44 zq_iconst_1 rfl ?_
      refine wp_iaddN (q := 46) dX1_step_45 rfl ?_
      refine wp_iload_n (q := 47) dX1_step_46 2 rfl rfl ?_
      refine wp_isub (q := 48) dX1_step_47 rfl ?_
      refine wp_mmax (q := 51) dX1_step_48 zl_RX1_45 (by omega) (Nat.le_of_ble_eq_true rfl) (Nat.le_refl _) (Nat.le_refl _) rfl ?_
      rw [zmax0 i hi17 h (by omega)]
      refine wp_istore (q := 53) (loc' := [(4, _), (3, _), (0, _), (1, _)]) dX1_step_51 (by decide) rfl rfl ?_
      refine wp_aload_n (q := 54) dX1_step_53 2 rfl rfl ?_
      refine wp_getR (q := 57) dX1_step_54 zf_RX1_9 rfl zsh_172 (zr_172_0 _) rfl ?_
      refine wp_iload_n (q := 58) dX1_step_57 1 rfl rfl ?_
      refine wp_iload (q := 60) dX1_step_58 0 rfl rfl ?_
      refine wp_bipush (q := 62) dX1_step_60 zq_bipush_17 rfl ?_
      refine wp_icmp_geN (tgt := 83) (q := 65) dX1_step_62 (by decide) rfl (by omega) (by omega) (fun hlt => ?_) (fun hlt => ?_)
      · skip
        have hz : zstp c h i = 1000000 := if_neg (by omega)
        refine wp_ldc (q := 85) dX1_step_83 zk_RX1_18 rfl ?_
        refine wp_iast (q := 86) _ dX1_step_85 zsh_173 rfl (by omega) (by decide) rfl ?_
        refine wp_iincN (q := 89) (loc' := [(3, _), (4, _), (0, _), (1, _)]) (n := 1) dX1_step_86 rfl 1 rfl (by decide) rfl rfl ?_
        refine wp_goto (tgt := 36) dX1_step_89 (by decide) ?_
        refine WP.sub (loc' := [(3, _), (0, _), (1, _)]) [0, 2, 3] rfl ?_
        refine ih (i + 1) _ (by omega) (fun j hj2 => by rw [zu_ne (by decide)]; exact hb2 j hj2) (fun j hj2 => ?_) (fun x x1 x2 => by rw [zu_ne x1]; exact hf x x1 x2)
        by_cases e : j = i
        · subst e
          rw [zu_s, hz]
          exact zlitI 1000000
        · rw [zu_k e]
          exact hj j (by omega)
      · skip
        have hz : zstp c h i = zmt c (17 - (i + 1 - h)) + zab i := if_pos (by omega)
        have hml := zmt_le c (17 - (i + 1 - h))
        have hal := zab_le hi17
        refine wp_aload_n (q := 66) dX1_step_65 2 rfl rfl ?_
        refine wp_getR (q := 69) dX1_step_66 zf_RX1_15 rfl zsh_172 (zr_172_1 _) rfl ?_
        refine wp_iload (q := 71) dX1_step_69 0 rfl rfl ?_
        refine wp_iald (q := 72) _ dX1_step_71 zsh_174 rfl (by omega) (by decide) rfl ?_
        rw [hb2 _ (by omega)]
        refine wp_iload_n (q := 73) dX1_step_72 1 rfl rfl ?_
        refine wp_bipush (q := 75) dX1_step_73 zq_bipush_8 rfl ?_
        refine wp_isub (q := 76) dX1_step_75 rfl ?_
        refine wp_mabs (q := 79) dX1_step_76 zl_RX1_48 (by omega) (Nat.le_of_ble_eq_true rfl) (Nat.le_refl _) (Nat.le_refl _) rfl ?_
        rw [zabs8 i hi17]
        refine wp_iaddN (q := 80) dX1_step_79 rfl ?_
        refine wp_goto (tgt := 85) dX1_step_80 (by decide) ?_
        refine wp_iast (q := 86) _ dX1_step_85 zsh_173 rfl (by omega) (by decide) rfl ?_
        refine wp_iincN (q := 89) (loc' := [(3, _), (4, _), (0, _), (1, _)]) (n := 1) dX1_step_86 rfl 1 rfl (by decide) rfl rfl ?_
        refine wp_goto (tgt := 36) dX1_step_89 (by decide) ?_
        refine WP.sub (loc' := [(3, _), (0, _), (1, _)]) [0, 2, 3] rfl ?_
        refine ih (i + 1) _ (by omega) (fun j hj2 => by rw [zu_ne (by decide)]; exact hb2 j hj2) (fun j hj2 => ?_) (fun x x1 x2 => by rw [zu_ne x1]; exact hf x x1 x2)
        by_cases e : j = i
        · subst e
          rw [zu_s, hz]
        · rw [zu_k e]
          exact hj j (by omega)
  have loop1 : ∀ k (M2 : zMI), k ≤ 17 → (∀ j, j < 17 → M2 173 j = nI (c j)) → (∀ j, k ≤ j → j < 17 → M2 174 j = nI (zmt c (17 - j))) → (∀ x, x ≠ 174 → M2 x = M x) → WP w YX1_step (d + 1, SS, 0, 0) G (some (zXp (fun v0 M' L' R' => v0 = none ∧ L = L' ∧ R' = zRf t ∧ (∀ i, i < 17 → M' 173 i = nI (zstp c h i)) ∧ ∀ x, x ≠ 173 → x ≠ 174 → M' x = M x))) 6 [(3, .int (zdn k)), (2, .int (nI (zmt c (17 - k)))), (0, .ref 172), (1, .int (nI h))] [] SS M2 L (zRf t) := by
    intro k
    induction k with
    | zero =>
      intro M2 hk h3 h4 hf
      rw [show zdn 0 = (-1 : Int32) from rfl]
      refine wp_iload_n (q := 7) dX1_step_6 0 rfl rfl ?_
      refine wp_if_lt (tgt := 34) (q := 10) dX1_step_7 (by decide) rfl (fun _ => ?_) (fun hn => absurd hn (by decide))
      refine wp_iconst (q := 35) dX1_step_34 zq_iconst_0 rfl ?_
      refine wp_istore_n (q := 36) (loc' := [(3, _), (2, _), (0, _), (1, _)]) dX1_step_35 rfl (by decide) rfl rfl ?_
      refine WP.sub (loc' := [(3, _), (0, _), (1, _)]) [0, 2, 3] rfl ?_
      exact loop2 17 0 M2 (by omega) (fun j hj => h4 j (by omega) hj) (fun j hj => absurd hj (Nat.not_lt_zero _)) (fun x x1 x2 => hf x x2)
    | succ k ih =>
      intro M2 hk h3 h4 hf
      have hz : zmt c (17 - k) = min (zmt c (17 - (k + 1))) (c k) := by
        rw [show 17 - k = (17 - (k + 1)) + 1 by omega, zmt, show 16 - (17 - (k + 1)) = k by omega]
      have hml := zmt_le c (17 - (k + 1))
      have hck := hb k (by omega)
      rw [show zdn (k + 1) = nI k from if_neg (by omega)]
      refine wp_iload_n (q := 7) dX1_step_6 0 rfl rfl ?_
      refine wp_if_lt (tgt := 34) (q := 10) dX1_step_7 (by decide) rfl (fun hn => absurd hn (by exact nI_pos (by omega))) (fun _ => ?_)
      refine wp_iload_n (q := 11) dX1_step_10 1 rfl rfl ?_
      refine wp_aload_n (q := 12) dX1_step_11 2 rfl rfl ?_
      refine wp_getR (q := 15) dX1_step_12 zf_RX1_9 rfl zsh_172 (zr_172_0 _) rfl ?_
      refine wp_iload_n (q := 16) dX1_step_15 0 rfl rfl ?_
      refine wp_iald (q := 17) _ dX1_step_16 zsh_173 rfl (by omega) (by decide) rfl ?_
      rw [h3 k (by omega)]
      refine wp_mmin (q := 20) dX1_step_17 zl_RX1_23 (by omega) (Nat.le_of_ble_eq_true rfl) (Nat.le_refl _) (Nat.le_refl _) rfl ?_
      rw [zmin (by omega) (by omega), ← hz]
      refine wp_istore_n (q := 21) (loc' := [(2, _), (3, _), (0, _), (1, _)]) dX1_step_20 rfl (by decide) rfl rfl ?_
      refine wp_aload_n (q := 22) dX1_step_21 2 rfl rfl ?_
      refine wp_getR (q := 25) dX1_step_22 zf_RX1_15 rfl zsh_172 (zr_172_1 _) rfl ?_
      refine wp_iload_n (q := 26) dX1_step_25 1 rfl rfl ?_
      refine wp_iload_n (q := 27) dX1_step_26 0 rfl rfl ?_
      refine wp_iast (q := 28) _ dX1_step_27 zsh_174 rfl (by omega) (by decide) rfl ?_
      refine wp_iinc (q := 31) (loc' := [(3, _), (2, _), (0, _), (1, _)]) dX1_step_28 1 rfl rfl (by decide) rfl rfl ?_
      rw [zdn_i k (by omega)]
      refine wp_goto (tgt := 6) dX1_step_31 (by decide) ?_
      refine WP.sub (loc' := [(3, _), (2, _), (0, _), (1, _)]) [0, 1, 2, 3] rfl ?_
      refine ih _ (by omega) (fun j hj => by rw [zu_ne (by decide)]; exact h3 j hj) (fun j hj1 hj2 => ?_) (fun x x1 => by rw [zu_ne x1]; exact hf x x1)
      by_cases e : j = k
      · subst e
        rw [zu_s]
      · rw [zu_k e]
        exact h4 j (by omega) hj2
  refine wp_ldc (q := 2) dX1_step_0 zk_RX1_18 rfl ?_
  refine wp_istore_n (q := 3) (loc' := [(2, _), (0, _), (1, _)]) dX1_step_2 rfl (by decide) rfl rfl ?_
  refine wp_bipush (q := 5) dX1_step_3 zq_bipush_16 rfl ?_
  refine wp_istore_n (q := 6) (loc' := [(3, _), (2, _), (0, _), (1, _)]) dX1_step_5 rfl (by decide) rfl rfl ?_
  refine WP.sub (loc' := [(3, _), (2, _), (0, _), (1, _)]) [0, 1, 2, 3] rfl ?_
  exact loop1 17 M (Nat.le_refl _) hc (fun j h1 h2 => by omega) (fun _ _ => rfl)
set_option maxHeartbeats 4000000 in
set_option maxRecDepth 100000 in
theorem sp_withFlow {d t o n f : Nat} {M : zMI} {L : zML} {v : Nat → Nat} (ho : zSt o) (hv : zV n v) (hr : zSR M o n v) (hf17 : f < 17) : Sy yX1_withFlow YX1_withFlow (d + 2) [.ref 172, .ref o, .int (nI f)] M L (zRf t) (fun v0 M' L' R' => v0 = some (.int (nI (zgc v f n f))) ∧ L = L' ∧ R' = zRf t ∧ ∀ x, x ≠ 173 → x ≠ 174 → M' x = M x) := by
  refine Sp.of (by decide +kernel) rfl (fun h => by first | exact h | cases h) (Nat.le_of_ble_eq_true rfl) ?_
  intro w G
  have hss := zSt_s ho
  obtain ⟨ha1, ha2, ha3, ha4⟩ := zSt_a ho
  obtain ⟨hr1, hr2, hr3, hr4⟩ := zSt_r (t := t) ho
  have h8 := hv.1
  have hot : o + 4 < 150 ∨ (157 ≤ o ∧ o + 4 < 173) := by rcases ho with rfl | rfl | rfl | ⟨i, hi, rfl⟩ <;> omega
  have loop2 : ∀ k s (M2 : zMI), s + k = n → (∀ i, i < 17 → M2 173 i = nI (zgc v f s i)) → (∀ x, x ≠ 173 → x ≠ 174 → M2 x = M x) → WP w YX1_withFlow (d + 2, SS, 0, 0) G (some (zXp (fun v0 M' L' R' => v0 = some (.int (nI (zgc v f n f))) ∧ L = L' ∧ R' = zRf t ∧ ∀ x, x ≠ 173 → x ≠ 174 → M' x = M x))) 33 [(3, .int (nI s)), (0, .ref 172), (1, .ref o), (2, .int (nI f))] [] SS M2 L (zRf t) := by
    intro k
    induction k with
    | zero =>
      intro s M2 hs hc hf
      have hr2 := zSR_fr (M' := M2) hr (fun x a1 a2 => hf x (by omega) (by omega))
      refine wp_iload_n (q := 34) dX1_withFlow_33 0 rfl rfl ?_
      refine wp_aload_n (q := 35) dX1_withFlow_34 2 rfl rfl ?_
      refine wp_getI (q := 38) dX1_withFlow_35 zf_RX1_29 rfl (by first | assumption | rfl) rfl ?_
      rw [hr2.1]
      refine wp_icmp_geN (tgt := 62) (q := 41) dX1_withFlow_38 (by decide) rfl (by omega) (by omega) (fun _ => ?_) (fun hn => absurd hn (by omega))
      refine wp_aload_n (q := 63) dX1_withFlow_62 1 rfl rfl ?_
      refine wp_getR (q := 66) dX1_withFlow_63 zf_RX1_9 rfl zsh_172 (zr_172_0 _) rfl ?_
      refine wp_iload_n (q := 67) dX1_withFlow_66 3 rfl rfl ?_
      refine wp_iald (q := 68) _ dX1_withFlow_67 zsh_173 rfl (by omega) (by decide) rfl ?_
      rw [hc f hf17, show s = n by omega]
      exact wp_ireturn dX1_withFlow_68 rfl ⟨rfl, ⟨rfl, rfl, rfl, hf⟩⟩ rfl rfl
    | succ k ih =>
      intro s M2 hs hc hf
      have hsl : s < n := by omega
      have hr2 := zSR_fr (M' := M2) hr (fun x a1 a2 => hf x (by omega) (by omega))
      have hws := hv.2.1 s hsl
      have h99 := hv.2.2.2.1 s hsl
      refine wp_iload_n (q := 34) dX1_withFlow_33 0 rfl rfl ?_
      refine wp_aload_n (q := 35) dX1_withFlow_34 2 rfl rfl ?_
      refine wp_getI (q := 38) dX1_withFlow_35 zf_RX1_29 rfl (by first | assumption | rfl) rfl ?_
      rw [hr2.1]
      refine wp_icmp_geN (tgt := 62) (q := 41) dX1_withFlow_38 (by decide) rfl (by omega) (by omega) (fun hn => absurd hn (by omega)) (fun _ => ?_)
      refine wp_aload_n (q := 42) dX1_withFlow_41 1 rfl rfl ?_
      refine wp_aload_n (q := 43) dX1_withFlow_42 2 rfl rfl ?_
      refine wp_getR (q := 46) dX1_withFlow_43 zf_RX1_35 rfl (by first | assumption | rfl) (by first | assumption | rfl) rfl ?_
      refine wp_aload_n (q := 47) dX1_withFlow_46 2 rfl rfl ?_
      refine wp_getR (q := 50) dX1_withFlow_47 zf_RX1_38 rfl (by first | assumption | rfl) (by first | assumption | rfl) rfl ?_
      refine wp_iload_n (q := 51) dX1_withFlow_50 0 rfl rfl ?_
      refine wp_iald (q := 52) _ dX1_withFlow_51 (by first | assumption | rfl) rfl (by omega) (by decide) rfl ?_
      rw [(hr2.2.2.2.2 s hsl).1]
      refine wp_iald (q := 53) _ dX1_withFlow_52 (by first | assumption | rfl) rfl (by omega) (by decide) rfl ?_
      rw [(hr2.2.2.2.2 s hsl).2.1]
      refine wp_cvy (q := 56) (sp_gstep (d := d) hc (zgc_le v f s) h99) zm_X1_step zl_RX1_41 dX1_withFlow_53 rfl (by omega) (Nat.le_of_ble_eq_true rfl) zsh_172 rfl rfl ?_
      rintro _ M3 _ _ ⟨rfl, rfl, rfl, hc3, hf3⟩
      refine wp_iincN (q := 59) (loc' := [(3, _), (0, _), (1, _), (2, _)]) (n := 1) dX1_withFlow_56 rfl 0 rfl (by decide) rfl rfl ?_
      refine wp_goto (tgt := 33) dX1_withFlow_59 (by decide) ?_
      refine WP.sub (loc' := [(3, _), (0, _), (1, _), (2, _)]) [0, 1, 2, 3] rfl ?_
      exact ih (s + 1) M3 (by omega) hc3 (fun x x1 x2 => (hf3 x x1 x2).trans (hf x x1 x2))
  have loop1 : ∀ k i (M2 : zMI), i + k = 17 → (∀ j, j < i → M2 173 j = nI (zgc v f 0 j)) → (∀ x, x ≠ 173 → x ≠ 174 → M2 x = M x) → WP w YX1_withFlow (d + 2, SS, 0, 0) G (some (zXp (fun v0 M' L' R' => v0 = some (.int (nI (zgc v f n f))) ∧ L = L' ∧ R' = zRf t ∧ ∀ x, x ≠ 173 → x ≠ 174 → M' x = M x))) 2 [(3, .int (nI i)), (0, .ref 172), (1, .ref o), (2, .int (nI f))] [] SS M2 L (zRf t) := by
    intro k
    induction k with
    | zero =>
      intro i M2 hi hc hf
      refine wp_iload_n (q := 3) dX1_withFlow_2 0 rfl rfl ?_
      refine wp_bipush (q := 5) dX1_withFlow_3 zq_bipush_17 rfl ?_
      refine wp_icmp_geN (tgt := 31) (q := 8) dX1_withFlow_5 (by decide) rfl (by omega) (by omega) (fun _ => ?_) (fun hn => absurd hn (by omega))
      refine wp_iconst (q := 32) dX1_withFlow_31 zq_iconst_0 rfl ?_
      refine wp_istore_n (q := 33) (loc' := [(3, _), (0, _), (1, _), (2, _)]) dX1_withFlow_32 rfl (by decide) rfl rfl ?_
      refine WP.sub (loc' := [(3, _), (0, _), (1, _), (2, _)]) [0, 1, 2, 3] rfl ?_
      exact loop2 n 0 M2 (by omega) (fun j hj => hc j (by omega)) hf
    | succ k ih =>
      intro i M2 hi hc hf
      have hi17 : i < 17 := by omega
      refine wp_iload_n (q := 3) dX1_withFlow_2 0 rfl rfl ?_
      refine wp_bipush (q := 5) dX1_withFlow_3 zq_bipush_17 rfl ?_
      refine wp_icmp_geN (tgt := 31) (q := 8) dX1_withFlow_5 (by decide) rfl (by omega) (by omega) (fun hn => absurd hn (by omega)) (fun _ => ?_)
      refine wp_aload_n (q := 9) dX1_withFlow_8 1 rfl rfl ?_
      refine wp_getR (q := 12) dX1_withFlow_9 zf_RX1_9 rfl zsh_172 (zr_172_0 _) rfl ?_
      refine wp_iload_n (q := 13) dX1_withFlow_12 0 rfl rfl ?_
      refine wp_iload_n (q := 14) dX1_withFlow_13 0 rfl rfl ?_
      refine wp_iload_n (q := 15) dX1_withFlow_14 3 rfl rfl ?_
      refine wp_icmp_neN (tgt := 22) (q := 18) dX1_withFlow_15 (by decide) rfl (by omega) (by omega) (fun hif => ?_) (fun hif => ?_)
      · skip
        have hz : zgc v f 0 i = 1000000 := if_neg hif
        refine wp_ldc (q := 24) dX1_withFlow_22 zk_RX1_18 rfl ?_
        refine wp_iast (q := 25) _ dX1_withFlow_24 zsh_173 rfl (by omega) (by decide) rfl ?_
        refine wp_iincN (q := 28) (loc' := [(3, _), (0, _), (1, _), (2, _)]) (n := 1) dX1_withFlow_25 rfl 0 rfl (by decide) rfl rfl ?_
        refine wp_goto (tgt := 2) dX1_withFlow_28 (by decide) ?_
        refine WP.sub (loc' := [(3, _), (0, _), (1, _), (2, _)]) [0, 1, 2, 3] rfl ?_
        refine ih (i + 1) _ (by omega) (fun j hj => ?_) (fun x x1 x2 => by rw [zu_ne x1]; exact hf x x1 x2)
        by_cases e : j = i
        · subst e
          rw [zu_s, hz]
          exact zlitI 1000000
        · rw [zu_k e]
          exact hc j (by omega)
      · skip
        have hz : zgc v f 0 i = 0 := if_pos hif
        refine wp_iconst (q := 19) dX1_withFlow_18 zq_iconst_0 rfl ?_
        refine wp_goto (tgt := 24) dX1_withFlow_19 (by decide) ?_
        refine wp_iast (q := 25) _ dX1_withFlow_24 zsh_173 rfl (by omega) (by decide) rfl ?_
        refine wp_iincN (q := 28) (loc' := [(3, _), (0, _), (1, _), (2, _)]) (n := 1) dX1_withFlow_25 rfl 0 rfl (by decide) rfl rfl ?_
        refine wp_goto (tgt := 2) dX1_withFlow_28 (by decide) ?_
        refine WP.sub (loc' := [(3, _), (0, _), (1, _), (2, _)]) [0, 1, 2, 3] rfl ?_
        refine ih (i + 1) _ (by omega) (fun j hj => ?_) (fun x x1 x2 => by rw [zu_ne x1]; exact hf x x1 x2)
        by_cases e : j = i
        · rw [e, zu_s, hz]
        · rw [zu_k e]
          exact hc j (by omega)
  refine wp_iconst (q := 1) dX1_withFlow_0 zq_iconst_0 rfl ?_
  refine wp_istore_n (q := 2) (loc' := [(3, _), (0, _), (1, _), (2, _)]) dX1_withFlow_1 rfl (by decide) rfl rfl ?_
  refine WP.sub (loc' := [(3, _), (0, _), (1, _), (2, _)]) [0, 1, 2, 3] rfl ?_
  exact loop1 17 0 M (Nat.zero_add _) (fun j hj => absurd hj (Nat.not_lt_zero _)) (fun _ _ _ => rfl)
set_option maxHeartbeats 4000000 in
set_option maxRecDepth 100000 in
theorem sp_fewest {d t o n : Nat} {M : zMI} {L : zML} {v : Nat → Nat} (ho : zSt o) (hv : zV n v) (hr : zSR M o n v) : Sy yX1_fewest YX1_fewest (d + 3) [.ref 172, .ref o] M L (zRf t) (fun v0 M' L' R' => v0 = some (.int (nI (zgm v n 17))) ∧ L = L' ∧ R' = zRf t ∧ ∀ x, x ≠ 173 → x ≠ 174 → M' x = M x) := by
  refine Sp.of (by decide +kernel) rfl (fun h => by first | exact h | cases h) (Nat.le_of_ble_eq_true rfl) ?_
  intro w G
  have hot : o + 4 < 150 ∨ (157 ≤ o ∧ o + 4 < 173) := by rcases ho with rfl | rfl | rfl | ⟨i, hi, rfl⟩ <;> omega
  have loop : ∀ k i (M2 : zMI), i + k = 17 → (∀ x, x ≠ 173 → x ≠ 174 → M2 x = M x) → WP w YX1_fewest (d + 3, SS, 0, 0) G (some (zXp (fun v0 M' L' R' => v0 = some (.int (nI (zgm v n 17))) ∧ L = L' ∧ R' = zRf t ∧ ∀ x, x ≠ 173 → x ≠ 174 → M' x = M x))) 5 [(3, .int (nI i)), (2, .int (nI (zgm v n i))), (0, .ref 172), (1, .ref o)] [] SS M2 L (zRf t) := by
    intro k
    induction k with
    | zero =>
      intro i M2 hi hf
      have hml := zgm_le v n i
      refine wp_iload_n (q := 6) dX1_fewest_5 0 rfl rfl ?_
      refine wp_bipush (q := 8) dX1_fewest_6 zq_bipush_17 rfl ?_
      refine wp_icmp_geN (tgt := 28) (q := 11) dX1_fewest_8 (by decide) rfl (by omega) (by omega) (fun _ => ?_) (fun hn => absurd hn (by omega))
      refine wp_iload_n (q := 29) dX1_fewest_28 1 rfl rfl ?_
      rw [show i = 17 by omega]
      exact wp_ireturn dX1_fewest_29 rfl ⟨rfl, ⟨rfl, rfl, rfl, hf⟩⟩ rfl rfl
    | succ k ih =>
      intro i M2 hi hf
      have hml := zgm_le v n i
      have hi17 : i < 17 := by omega
      have hcl := zgc_le v i n i hi17
      have hr2 := zSR_fr (M' := M2) hr (fun x a1 a2 => hf x (by omega) (by omega))
      refine wp_iload_n (q := 6) dX1_fewest_5 0 rfl rfl ?_
      refine wp_bipush (q := 8) dX1_fewest_6 zq_bipush_17 rfl ?_
      refine wp_icmp_geN (tgt := 28) (q := 11) dX1_fewest_8 (by decide) rfl (by omega) (by omega) (fun hn => absurd hn (by omega)) (fun _ => ?_)
      refine wp_iload_n (q := 12) dX1_fewest_11 1 rfl rfl ?_
      refine wp_aload_n (q := 13) dX1_fewest_12 2 rfl rfl ?_
      refine wp_aload_n (q := 14) dX1_fewest_13 3 rfl rfl ?_
      refine wp_iload_n (q := 15) dX1_fewest_14 0 rfl rfl ?_
      refine wp_cvy (q := 18) (sp_withFlow (d := d) ho hv hr2 hi17) zm_X1_withFlow zl_RX1_19 dX1_fewest_15 rfl (by omega) (Nat.le_of_ble_eq_true rfl) zsh_172 rfl rfl ?_
      rintro _ M3 _ _ ⟨rfl, rfl, rfl, hf3⟩
      refine wp_mmin (q := 21) dX1_fewest_18 zl_RX1_23 (by omega) (Nat.le_of_ble_eq_true rfl) (Nat.le_refl _) (Nat.le_refl _) rfl ?_
      rw [zmin (by omega) (by omega)]
      refine wp_istore_n (q := 22) (loc' := [(2, _), (3, _), (0, _), (1, _)]) dX1_fewest_21 rfl (by decide) rfl rfl ?_
      refine wp_iincN (q := 25) (loc' := [(3, _), (2, _), (0, _), (1, _)]) (n := 1) dX1_fewest_22 rfl 1 rfl (by decide) rfl rfl ?_
      refine wp_goto (tgt := 5) dX1_fewest_25 (by decide) ?_
      refine WP.sub (loc' := [(3, _), (2, _), (0, _), (1, _)]) [0, 1, 2, 3] rfl ?_
      exact ih (i + 1) M3 (by omega) (fun x x1 x2 => (hf3 x x1 x2).trans (hf x x1 x2))
  refine wp_ldc (q := 2) dX1_fewest_0 zk_RX1_18 rfl ?_
  refine wp_istore_n (q := 3) (loc' := [(2, _), (0, _), (1, _)]) dX1_fewest_2 rfl (by decide) rfl rfl ?_
  refine wp_iconst (q := 4) dX1_fewest_3 zq_iconst_0 rfl ?_
  refine wp_istore_n (q := 5) (loc' := [(3, _), (2, _), (0, _), (1, _)]) dX1_fewest_4 rfl (by decide) rfl rfl ?_
  rw [zlitI 1000000]
  refine WP.sub (loc' := [(3, _), (2, _), (0, _), (1, _)]) [0, 1, 2, 3] rfl ?_
  exact loop 17 0 M (Nat.zero_add _) (fun _ _ _ => rfl)

