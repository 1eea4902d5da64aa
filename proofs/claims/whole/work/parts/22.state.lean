-- bits
def zpc (a : Nat) : Nat := nC (fun i => a.testBit i) 8
set_option maxRecDepth 100000 in
theorem zbc : ∀ a, a < 256 → ∀ x0 x1 x2 x3 x4 x5 x6 : Int32, x0 = nI a → x1 = x0 - ((x0.toUInt32 >>> ((nI 1).toUInt32 &&& Int32.toUInt32 31)).toInt32 &&& 1431655765) → x2 = (x1 &&& 858993459) + ((x1.toUInt32 >>> ((nI 2).toUInt32 &&& Int32.toUInt32 31)).toInt32 &&& 858993459) →
    x3 = (x2 + (x2.toUInt32 >>> ((nI 4).toUInt32 &&& Int32.toUInt32 31)).toInt32) &&& 252645135 → x4 = x3 + (x3.toUInt32 >>> ((nI 8).toUInt32 &&& Int32.toUInt32 31)).toInt32 → x5 = x4 + (x4.toUInt32 >>> ((nI 16).toUInt32 &&& Int32.toUInt32 31)).toInt32 → x6 = x5 &&& nI 63 → x6 = nI (zpc a) := by
  intro a ha x0 x1 x2 x3 x4 x5 x6 e0 e1 e2 e3 e4 e5 e6
  subst e0 e1 e2 e3 e4 e5 e6
  revert a
  decide +kernel
set_option maxHeartbeats 4000000 in
set_option maxRecDepth 100000 in
theorem sp_bitCount {d a : Nat} {M : zMI} {L : zML} {R : zMR} (ha : a < 256) : Sx yJ6_bitCount_0f7a4 YJ6_bitCount_0f7a4 (d) [.int (nI a)] M L R (some (.int (nI (zpc a)))) M L R := by
  refine Sp.of (by decide +kernel) rfl (fun h => by first | exact h | cases h) (Nat.le_of_ble_eq_true rfl) ?_
  intro w G
  refine wp_iload_n (q := 1) dJ6_bitCount_0f7a4_0 0 rfl rfl ?_
  refine wp_iload_n (q := 2) dJ6_bitCount_0f7a4_1 0 rfl rfl ?_
  refine wp_iconst (q := 3) dJ6_bitCount_0f7a4_2 zq_iconst_1 rfl ?_
  refine wp_iushr (q := 4) dJ6_bitCount_0f7a4_3 rfl ?_
  refine wp_ldc_w (q := 7) dJ6_bitCount_0f7a4_4 zk_RJ6_265 rfl ?_
  refine wp_iand (q := 8) dJ6_bitCount_0f7a4_7 rfl ?_
  refine wp_isub (q := 9) dJ6_bitCount_0f7a4_8 rfl ?_
  refine wp_istore_n (q := 10) (loc' := [(0, _)]) dJ6_bitCount_0f7a4_9 rfl (by decide) rfl rfl ?_
  refine wp_iload_n (q := 11) dJ6_bitCount_0f7a4_10 0 rfl rfl ?_
  refine wp_ldc_w (q := 14) dJ6_bitCount_0f7a4_11 zk_RJ6_266 rfl ?_
  refine wp_iand (q := 15) dJ6_bitCount_0f7a4_14 rfl ?_
  refine wp_iload_n (q := 16) dJ6_bitCount_0f7a4_15 0 rfl rfl ?_
  refine wp_iconst (q := 17) dJ6_bitCount_0f7a4_16 zq_iconst_2 rfl ?_
  refine wp_iushr (q := 18) dJ6_bitCount_0f7a4_17 rfl ?_
  refine wp_ldc_w (q := 21) dJ6_bitCount_0f7a4_18 zk_RJ6_266 rfl ?_
  refine wp_iand (q := 22) dJ6_bitCount_0f7a4_21 rfl ?_
  refine wp_iadd (q := 23) dJ6_bitCount_0f7a4_22 rfl ?_
  refine wp_istore_n (q := 24) (loc' := [(0, _)]) dJ6_bitCount_0f7a4_23 rfl (by decide) rfl rfl ?_
  refine wp_iload_n (q := 25) dJ6_bitCount_0f7a4_24 0 rfl rfl ?_
  refine wp_iload_n (q := 26) dJ6_bitCount_0f7a4_25 0 rfl rfl ?_
  refine wp_iconst (q := 27) dJ6_bitCount_0f7a4_26 zq_iconst_4 rfl ?_
  refine wp_iushr (q := 28) dJ6_bitCount_0f7a4_27 rfl ?_
  refine wp_iadd (q := 29) dJ6_bitCount_0f7a4_28 rfl ?_
  refine wp_ldc_w (q := 32) dJ6_bitCount_0f7a4_29 zk_RJ6_267 rfl ?_
  refine wp_iand (q := 33) dJ6_bitCount_0f7a4_32 rfl ?_
  refine wp_istore_n (q := 34) (loc' := [(0, _)]) dJ6_bitCount_0f7a4_33 rfl (by decide) rfl rfl ?_
  refine wp_iload_n (q := 35) dJ6_bitCount_0f7a4_34 0 rfl rfl ?_
  refine wp_iload_n (q := 36) dJ6_bitCount_0f7a4_35 0 rfl rfl ?_
  refine wp_bipush (q := 38) dJ6_bitCount_0f7a4_36 zq_bipush_8 rfl ?_
  refine wp_iushr (q := 39) dJ6_bitCount_0f7a4_38 rfl ?_
  refine wp_iadd (q := 40) dJ6_bitCount_0f7a4_39 rfl ?_
  refine wp_istore_n (q := 41) (loc' := [(0, _)]) dJ6_bitCount_0f7a4_40 rfl (by decide) rfl rfl ?_
  refine wp_iload_n (q := 42) dJ6_bitCount_0f7a4_41 0 rfl rfl ?_
  refine wp_iload_n (q := 43) dJ6_bitCount_0f7a4_42 0 rfl rfl ?_
  refine wp_bipush (q := 45) dJ6_bitCount_0f7a4_43 zq_bipush_16 rfl ?_
  refine wp_iushr (q := 46) dJ6_bitCount_0f7a4_45 rfl ?_
  refine wp_iadd (q := 47) dJ6_bitCount_0f7a4_46 rfl ?_
  refine wp_istore_n (q := 48) (loc' := [(0, _)]) dJ6_bitCount_0f7a4_47 rfl (by decide) rfl rfl ?_
  refine wp_iload_n (q := 49) dJ6_bitCount_0f7a4_48 0 rfl rfl ?_
  refine wp_bipush (q := 51) dJ6_bitCount_0f7a4_49 zq_bipush_63 rfl ?_
  refine wp_iand (q := 52) dJ6_bitCount_0f7a4_51 rfl ?_
  exact wp_ireturn dJ6_bitCount_0f7a4_52 rfl ⟨congrArg (fun x => some (Value.int x)) (zbc a ha _ _ _ _ _ _ _ rfl rfl rfl rfl rfl rfl rfl), rfl, rfl, rfl, rfl⟩ rfl rfl
def zmk (g : Nat → Bool) : Nat → Nat
  | 0 => 0
  | i + 1 => if g i then zmk g i ||| 2 ^ i else zmk g i
theorem zmk_bit (g : Nat → Bool) : ∀ i s, (zmk g i).testBit s = (decide (s < i) && g s) := by
  intro i
  induction i with
  | zero => intro s; simp [zmk]
  | succ i ih =>
    intro s
    rw [zmk]
    by_cases hg : g i = true
    · rw [if_pos hg, Nat.testBit_or, ih, Nat.testBit_two_pow]
      by_cases hs : s = i
      · subst hs; simp [hg]
      · by_cases h2 : s < i
        · simp [h2, show s < i + 1 by omega, Ne.symm hs]
        · simp [h2, show ¬ s < i + 1 by omega, Ne.symm hs]
    · rw [if_neg hg, ih]
      by_cases hs : s = i
      · subst hs; simp [hg]
      · by_cases h2 : s < i
        · simp [h2, show s < i + 1 by omega]
        · simp [h2, show ¬ s < i + 1 by omega]
theorem zmk_lt (g : Nat → Bool) (i : Nat) : zmk g i < 2 ^ i := by
  induction i with
  | zero => exact Nat.one_pos
  | succ i ih =>
    rw [zmk]
    have h2 : 2 ^ i < 2 ^ (i + 1) := Nat.pow_lt_pow_right (by decide) (by omega)
    split
    · exact Nat.or_lt_two_pow (by omega) h2
    · omega
theorem zmk_pc (g : Nat → Bool) {n : Nat} (h : n ≤ 8) : zpc (zmk g n) = nC g n := by
  unfold zpc
  have key : ∀ k, n ≤ k → nC (fun i => (zmk g n).testBit i) k = nC g n := by
    intro k hk
    induction k with
    | zero => rw [show n = 0 by omega]; rfl
    | succ k ih =>
      rw [nC, zmk_bit]
      by_cases e : n = k + 1
      · subst e
        rw [nC, show decide (k < k + 1) = true by simp, Bool.true_and]
        congr 1
        exact nC_congr (fun i hi => by rw [zmk_bit]; simp [show i < k + 1 by omega])
      · rw [ih (by omega)]
        simp [show ¬ k < n by omega]
  exact key 8 h
theorem zmk_and {a s : Nat} : (a / 2 ^ s) &&& 1 = if a.testBit s then 1 else 0 := by
  rw [Nat.and_one_is_mod, Nat.testBit_eq_decide_div_mod_eq]
  by_cases h : a / 2 ^ s % 2 = 1
  · simp [h]
  · have : a / 2 ^ s % 2 < 2 := Nat.mod_lt _ (by decide)
    simp [h]
    omega
-- one round to the left: who gives, and the hats behind it
def zg (v : Nat → Nat) (s : Nat) : Bool := decide (2 ≤ ht v s)
def zd1 (v : Nat → Nat) : Nat → Nat → Nat
  | 0 => v
  | i + 1 => if zg v i then vup (zd1 v i) (4 + 6 * i) (ht v i - 1) else zd1 v i
def zd2 (n : Nat) (v : Nat → Nat) : Nat → Nat → Nat
  | 0 => zd1 v n
  | i + 1 => if zg v i then vup (zd2 n v i) (4 + 6 * ((i + 1) % n)) (min 99 (ht (zd2 n v i) ((i + 1) % n) + 1)) else zd2 n v i
def zpass (n : Nat) (v : Nat → Nat) : Nat → Nat := fun j => if 4 ≤ j ∧ (j - 4) % 6 = 0 ∧ (j - 4) / 6 < n then min 99 (v j - (if zg v ((j - 4) / 6) then 1 else 0) + (if zg v (((j - 4) / 6 + n - 1) % n) then 1 else 0)) else v j
theorem zd1_at (v : Nat → Nat) : ∀ i j, zd1 v i j = if 4 ≤ j ∧ (j - 4) % 6 = 0 ∧ (j - 4) / 6 < i then v j - (if zg v ((j - 4) / 6) then 1 else 0) else v j := by
  intro i
  induction i with
  | zero => intro j; simp [zd1]
  | succ i ih =>
    intro j
    rw [zd1]
    by_cases hj : j = 4 + 6 * i
    · subst hj
      rw [if_pos (show 4 ≤ 4 + 6 * i ∧ (4 + 6 * i - 4) % 6 = 0 ∧ (4 + 6 * i - 4) / 6 < i + 1 by omega), show (4 + 6 * i - 4) / 6 = i by omega]
      by_cases hg : zg v i = true
      · rw [if_pos hg, if_pos hg, vup_eq]
      · rw [if_neg hg, if_neg hg, ih, if_neg (by omega)]
        rfl
    · have e : (if zg v i = true then vup (zd1 v i) (4 + 6 * i) (ht v i - 1) else zd1 v i) j = zd1 v i j := by
        split
        · exact vup_ne hj
        · rfl
      rw [e, ih]
      by_cases h : 4 ≤ j ∧ (j - 4) % 6 = 0 ∧ (j - 4) / 6 < i
      · rw [if_pos h, if_pos (show 4 ≤ j ∧ (j - 4) % 6 = 0 ∧ (j - 4) / 6 < i + 1 from ⟨h.1, h.2.1, by omega⟩)]
      · rw [if_neg h, if_neg (show ¬ (4 ≤ j ∧ (j - 4) % 6 = 0 ∧ (j - 4) / 6 < i + 1) from fun c => h ⟨c.1, c.2.1, by omega⟩)]
theorem zmod1 {s n : Nat} (hs : s < n) : ((s + 1) % n + n - 1) % n = s := by
  by_cases h : s + 1 = n
  · rw [h, Nat.mod_self]
    rw [Nat.zero_add, Nat.mod_eq_of_lt (by omega)]
    omega
  · rw [Nat.mod_eq_of_lt (show s + 1 < n by omega), show s + 1 + n - 1 = s + n by omega, Nat.add_mod_right, Nat.mod_eq_of_lt hs]
theorem zmod2 {s n : Nat} (hs : s < n) : ((s + n - 1) % n + 1) % n = s := by
  by_cases h : s = 0
  · subst h
    rw [Nat.zero_add, Nat.mod_eq_of_lt (show n - 1 < n by omega), show n - 1 + 1 = n by omega, Nat.mod_self]
  · rw [show s + n - 1 = s - 1 + n by omega, Nat.add_mod_right, Nat.mod_eq_of_lt (show s - 1 < n by omega), show s - 1 + 1 = s by omega, Nat.mod_eq_of_lt hs]
theorem zd2_at {n : Nat} {v : Nat → Nat} (h99 : ∀ s, s < n → ht v s ≤ 99) : ∀ i, i ≤ n → ∀ j, zd2 n v i j = if 4 ≤ j ∧ (j - 4) % 6 = 0 ∧ (j - 4) / 6 < n ∧ ((j - 4) / 6 + n - 1) % n < i then min 99 (zd1 v n j + (if zg v (((j - 4) / 6 + n - 1) % n) then 1 else 0)) else zd1 v n j := by
  intro i
  induction i with
  | zero => intro _ j; simp [zd2]
  | succ i ih =>
    intro hi j
    have ih := ih (by omega)
    rw [zd2]
    have hm : (i + 1) % n < n := Nat.mod_lt _ (by omega)
    have hp := zmod1 (show i < n by omega)
    by_cases hj : j = 4 + 6 * ((i + 1) % n)
    · subst hj
      have e1 : (4 + 6 * ((i + 1) % n) - 4) / 6 = (i + 1) % n := by omega
      have e0 : 4 ≤ 4 + 6 * ((i + 1) % n) ∧ (4 + 6 * ((i + 1) % n) - 4) % 6 = 0 ∧ (4 + 6 * ((i + 1) % n) - 4) / 6 < n ∧ ((4 + 6 * ((i + 1) % n) - 4) / 6 + n - 1) % n < i + 1 := ⟨by omega, by omega, by omega, by rw [e1, hp]; omega⟩
      rw [if_pos e0, e1, hp]
      have e2 : ∀ z, zd2 n v i (4 + 6 * ((i + 1) % n)) = z ↔ zd1 v n (4 + 6 * ((i + 1) % n)) = z := by
        intro z
        rw [ih, if_neg (fun c => by have := c.2.2.2; rw [e1, hp] at this; omega)]
      have e3 := (e2 _).mpr rfl
      by_cases hg : zg v i = true
      · rw [if_pos hg, if_pos hg, vup_eq]
        show min 99 (zd2 n v i (4 + 6 * ((i + 1) % n)) + 1) = _
        rw [e3]
      · rw [if_neg hg, if_neg hg, e3, Nat.add_zero]
        have := h99 _ hm
        have h2 : zd1 v n (4 + 6 * ((i + 1) % n)) ≤ v (4 + 6 * ((i + 1) % n)) := by
          rw [zd1_at]
          split <;> omega
        have h3 : v (4 + 6 * ((i + 1) % n)) ≤ 99 := this
        omega
    · have e : (if zg v i = true then vup (zd2 n v i) (4 + 6 * ((i + 1) % n)) (min 99 (ht (zd2 n v i) ((i + 1) % n) + 1)) else zd2 n v i) j = zd2 n v i j := by
        split
        · exact vup_ne hj
        · rfl
      rw [e, ih]
      by_cases h : 4 ≤ j ∧ (j - 4) % 6 = 0 ∧ (j - 4) / 6 < n ∧ ((j - 4) / 6 + n - 1) % n < i
      · rw [if_pos h, if_pos (show 4 ≤ j ∧ (j - 4) % 6 = 0 ∧ (j - 4) / 6 < n ∧ ((j - 4) / 6 + n - 1) % n < i + 1 from ⟨h.1, h.2.1, h.2.2.1, by omega⟩)]
      · rw [if_neg h, if_neg]
        rintro ⟨h1, h2, h3, h4⟩
        have h5 : ((j - 4) / 6 + n - 1) % n = i := by
          refine Classical.byContradiction fun c => h ⟨h1, h2, h3, by omega⟩
        have h6 := zmod2 h3
        rw [h5] at h6
        omega
theorem zd2_pass {n : Nat} {v : Nat → Nat} (h99 : ∀ s, s < n → ht v s ≤ 99) : zd2 n v n = zpass n v := by
  funext j
  rw [zd2_at h99 n (Nat.le_refl _), zpass, zd1_at]
  by_cases h : 4 ≤ j ∧ (j - 4) % 6 = 0 ∧ (j - 4) / 6 < n
  · rw [if_pos h, if_pos h, if_pos ⟨h.1, h.2.1, h.2.2, Nat.mod_lt _ (by omega)⟩]
  · rw [if_neg h, if_neg h, if_neg (fun c => h ⟨c.1, c.2.1, c.2.2.1⟩)]
theorem zV_d1 {n : Nat} {v : Nat → Nat} (hv : zV n v) : ∀ i, i ≤ n → zV n (zd1 v i) := by
  intro i
  induction i with
  | zero => intro _; exact hv
  | succ i ih =>
    intro hi
    rw [zd1]
    have h9 := hv.2.2.2.1 i (by omega)
    split
    · exact zV_ht (ih (by omega)) (by omega) (by omega)
    · exact ih (by omega)
theorem zV_d2 {n : Nat} {v : Nat → Nat} (hv : zV n v) : ∀ i, i ≤ n → zV n (zd2 n v i) := by
  intro i
  induction i with
  | zero => intro _; exact zV_d1 hv n (Nat.le_refl _)
  | succ i ih =>
    intro hi
    rw [zd2]
    split
    · exact zV_ht (ih (by omega)) (Nat.mod_lt _ (by omega)) (Nat.min_le_left _ _)
    · exact ih (by omega)
theorem wh_d1 {n : Nat} {v : Nat → Nat} {i s : Nat} : wh (zd1 v i) s = wh v s := by
  show zd1 v i (3 + 6 * s) = v (3 + 6 * s)
  rw [zd1_at, if_neg (by omega)]
set_option maxHeartbeats 4000000 in
set_option maxRecDepth 100000 in
theorem sp_giveLeft {d t o n : Nat} {M : zMI} {L : zML} {v : Nat → Nat} (ho : zSt o) (hv : zV n v) (hr : zSR M o n v) (h2 : 2 ≤ n) : Sy yX7_giveLeft YX7_giveLeft (d + 2) [.ref o] M L (zRf t) (fun v0 M' L' R' => v0 = some (.int (nI (nC (zg v) n))) ∧ L = L' ∧ R' = zRf t ∧ zSR M' o n (zpass n v) ∧ ∀ a, a ≠ o + 2 → M' a = M a) := by
  refine Sp.of (by decide +kernel) rfl (fun h => by first | exact h | cases h) (Nat.le_of_ble_eq_true rfl) ?_
  intro w G
  have hss := zSt_s ho
  obtain ⟨ha1, ha2, ha3, ha4⟩ := zSt_a ho
  obtain ⟨hr1, hr2, hr3, hr4⟩ := zSt_r (t := t) ho
  have h8 := hv.1
  have hmk : ∀ i, i ≤ n → zmk (zg v) i < 256 := fun i hi => Nat.lt_of_lt_of_le (zmk_lt _ i) (Nat.pow_le_pow_right (by decide) (show i ≤ 8 by omega))
  have p2 : ∀ i, i ≤ 8 → 1 * 2 ^ i < 4294967296 := fun i hi => by
    have := Nat.pow_le_pow_right (n := 2) (by decide) hi
    omega
  have loop2 : ∀ k i (M2 : zMI), i + k = n → zSR M2 o n (zd2 n v i) → (∀ a, a ≠ o + 2 → M2 a = M a) → WP w YX7_giveLeft (d + 2, SS, 0, 0) G (some (zXp (fun v0 M' L' R' => v0 = some (.int (nI (nC (zg v) n))) ∧ L = L' ∧ R' = zRf t ∧ zSR M' o n (zpass n v) ∧ ∀ a, a ≠ o + 2 → M' a = M a))) 56 [(0, .ref o), (1, .int (nI (zmk (zg v) n))), (2, .int (nI i))] [] SS M2 L (zRf t) := by
    intro k
    induction k with
    | zero =>
      intro i M2 hi hz hf
      refine wp_iload_n (q := 57) dX7_giveLeft_56 2 rfl rfl ?_
      refine wp_aload_n (q := 58) dX7_giveLeft_57 0 rfl rfl ?_
      refine wp_getI (q := 61) dX7_giveLeft_58 zf_RX7_9 rfl (by first | assumption | rfl) rfl ?_
      rw [hz.1]
      refine wp_icmp_geN (tgt := 88) (q := 64) dX7_giveLeft_61 (by decide) rfl (by omega) (by omega) (fun _ => ?_) (fun hn => absurd hn (by omega))
      have hl := hmk n (Nat.le_refl _)
      refine wp_iload_n (q := 89) dX7_giveLeft_88 1 rfl rfl ?_
      refine wp_csx (q := 92) (sp_bitCount (d := d) hl) zm_J6_bitCount_0f7a4 zl_RX7_63 dX7_giveLeft_89 rfl (by omega) (Nat.le_of_ble_eq_true rfl) rfl ?_
      rw [zmk_pc _ h8]
      rw [show i = n by omega, zd2_pass hv.2.2.2.1] at hz
      exact wp_ireturn dX7_giveLeft_92 rfl ⟨rfl, ⟨rfl, rfl, rfl, hz, hf⟩⟩ rfl rfl
    | succ k ih =>
      intro i M2 hi hz hf
      refine wp_iload_n (q := 57) dX7_giveLeft_56 2 rfl rfl ?_
      refine wp_aload_n (q := 58) dX7_giveLeft_57 0 rfl rfl ?_
      refine wp_getI (q := 61) dX7_giveLeft_58 zf_RX7_9 rfl (by first | assumption | rfl) rfl ?_
      rw [hz.1]
      refine wp_icmp_geN (tgt := 88) (q := 64) dX7_giveLeft_61 (by decide) rfl (by omega) (by omega) (fun hn => absurd hn (by omega)) (fun _ => ?_)
      have hl := hmk n (Nat.le_refl _)
      refine wp_iload_n (q := 65) dX7_giveLeft_64 1 rfl rfl ?_
      refine wp_iload_n (q := 66) dX7_giveLeft_65 2 rfl rfl ?_
      refine wp_ishrN (q := 67) dX7_giveLeft_66 (by omega) (by omega) rfl ?_
      refine wp_iconst (q := 68) dX7_giveLeft_67 zq_iconst_1 rfl ?_
      refine wp_iandN (q := 69) dX7_giveLeft_68 rfl ?_
      refine wp_iconst (q := 70) dX7_giveLeft_69 zq_iconst_1 rfl ?_
      rw [zmk_and, zmk_bit, show decide (i < n) = true by simp; omega, Bool.true_and]
      by_cases hg : zg v i = true
      · rw [if_pos hg]
        refine wp_icmp_neN (tgt := 82) (q := 73) dX7_giveLeft_70 (by decide) rfl (by omega) (by omega) (fun hn => absurd hn (by omega)) (fun _ => ?_)
        refine wp_aload_n (q := 74) dX7_giveLeft_73 0 rfl rfl ?_
        refine wp_aload_n (q := 75) dX7_giveLeft_74 0 rfl rfl ?_
        refine wp_iload_n (q := 76) dX7_giveLeft_75 2 rfl rfl ?_
        refine wp_cvx (q := 79) (sp_behind (d := d) ho hz.1 h8 (by omega)) zm_X7_behind zl_RX7_55 dX7_giveLeft_76 rfl (by omega) (Nat.le_of_ble_eq_true rfl) (by first | assumption | rfl) rfl rfl ?_
        refine wp_cvy (q := 82) (sp_addHat (d := d) ho (zV_d2 hv i (by omega)) hz (Nat.mod_lt _ (by omega))) zm_X7_addHat zl_RX7_59 dX7_giveLeft_79 rfl (by omega) (Nat.le_of_ble_eq_true rfl) (by first | assumption | rfl) rfl rfl ?_
        rintro _ M3 _ _ ⟨rfl, rfl, rfl, hz3, hf3⟩
        refine wp_iincN (q := 85) (loc' := [(2, _), (0, _), (1, _)]) (n := 1) dX7_giveLeft_82 rfl 2 rfl (by decide) rfl rfl ?_
        refine wp_goto (tgt := 56) dX7_giveLeft_85 (by decide) ?_
        refine WP.sub (loc' := [(0, _), (1, _), (2, _)]) [1, 2, 0] rfl ?_
        refine ih (i + 1) M3 (by omega) ?_ (fun a ha => (hf3 a ha).trans (hf a ha))
        rw [zd2, if_pos hg]
        exact hz3
      · rw [if_neg hg]
        refine wp_icmp_neN (tgt := 82) (q := 73) dX7_giveLeft_70 (by decide) rfl (by omega) (by omega) (fun _ => ?_) (fun hn => absurd hn (by omega))
        refine wp_iincN (q := 85) (loc' := [(2, _), (0, _), (1, _)]) (n := 1) dX7_giveLeft_82 rfl 2 rfl (by decide) rfl rfl ?_
        refine wp_goto (tgt := 56) dX7_giveLeft_85 (by decide) ?_
        refine WP.sub (loc' := [(0, _), (1, _), (2, _)]) [1, 2, 0] rfl ?_
        refine ih (i + 1) M2 (by omega) ?_ hf
        rw [zd2, if_neg hg]
        exact hz
  have loop1 : ∀ k i (M2 : zMI), i + k = n → zSR M2 o n (zd1 v i) → (∀ a, a ≠ o + 2 → M2 a = M a) → WP w YX7_giveLeft (d + 2, SS, 0, 0) G (some (zXp (fun v0 M' L' R' => v0 = some (.int (nI (nC (zg v) n))) ∧ L = L' ∧ R' = zRf t ∧ zSR M' o n (zpass n v) ∧ ∀ a, a ≠ o + 2 → M' a = M a))) 4 [(0, .ref o), (1, .int (nI (zmk (zg v) i))), (2, .int (nI i))] [] SS M2 L (zRf t) := by
    intro k
    induction k with
    | zero =>
      intro i M2 hi hz hf
      refine wp_iload_n (q := 5) dX7_giveLeft_4 2 rfl rfl ?_
      refine wp_aload_n (q := 6) dX7_giveLeft_5 0 rfl rfl ?_
      refine wp_getI (q := 9) dX7_giveLeft_6 zf_RX7_9 rfl (by first | assumption | rfl) rfl ?_
      rw [hz.1]
      refine wp_icmp_geN (tgt := 54) (q := 12) dX7_giveLeft_9 (by decide) rfl (by omega) (by omega) (fun _ => ?_) (fun hn => absurd hn (by omega))
      refine wp_iconst (q := 55) dX7_giveLeft_54 zq_iconst_0 rfl ?_
      refine wp_istore_n (q := 56) (loc' := [(2, _), (0, _), (1, _)]) dX7_giveLeft_55 rfl (by decide) rfl rfl ?_
      refine WP.sub (loc' := [(0, _), (1, _), (2, _)]) [1, 2, 0] rfl ?_
      rw [show i = n by omega] at hz ⊢
      exact loop2 n 0 M2 (by omega) hz hf
    | succ k ih =>
      intro i M2 hi hz hf
      have hin : i < n := by omega
      have ew : wh (zd1 v i) i = wh v i := wh_d1 (n := n)
      have eh : ht (zd1 v i) i = ht v i := by
        show zd1 v i (4 + 6 * i) = _
        rw [zd1_at, if_neg (by omega)]
      obtain ⟨b1, b2, -⟩ := hz.2.2.2.2 i hin
      rw [ew] at b1 b2
      rw [eh] at b2
      have hwl := hv.2.1 i hin
      have hh9 := hv.2.2.2.1 i hin
      refine wp_iload_n (q := 5) dX7_giveLeft_4 2 rfl rfl ?_
      refine wp_aload_n (q := 6) dX7_giveLeft_5 0 rfl rfl ?_
      refine wp_getI (q := 9) dX7_giveLeft_6 zf_RX7_9 rfl (by first | assumption | rfl) rfl ?_
      rw [hz.1]
      refine wp_icmp_geN (tgt := 54) (q := 12) dX7_giveLeft_9 (by decide) rfl (by omega) (by omega) (fun hn => absurd hn (by omega)) (fun _ => ?_)
      refine wp_aload_n (q := 13) dX7_giveLeft_12 0 rfl rfl ?_
      refine wp_getR (q := 16) dX7_giveLeft_13 zf_RX7_28 rfl (by first | assumption | rfl) (by first | assumption | rfl) rfl ?_
      refine wp_aload_n (q := 17) dX7_giveLeft_16 0 rfl rfl ?_
      refine wp_getR (q := 20) dX7_giveLeft_17 zf_RX7_24 rfl (by first | assumption | rfl) (by first | assumption | rfl) rfl ?_
      refine wp_iload_n (q := 21) dX7_giveLeft_20 2 rfl rfl ?_
      refine wp_iald (q := 22) _ dX7_giveLeft_21 (by first | assumption | rfl) rfl (by omega) (by decide) rfl ?_
      rw [b1]
      refine wp_iald (q := 23) _ dX7_giveLeft_22 (by first | assumption | rfl) rfl (by omega) (by decide) rfl ?_
      rw [b2]
      by_cases hg : zg v i = true
      · have hg2 : 2 ≤ ht v i := of_decide_eq_true hg
        refine wp_iconst (q := 24) dX7_giveLeft_23 zq_iconst_2 rfl ?_
        refine wp_icmp_ltN (tgt := 48) (q := 27) dX7_giveLeft_24 (by decide) rfl (by omega) (by omega) (fun hn => absurd hn (by omega)) (fun _ => ?_)
        refine wp_iload_n (q := 28) dX7_giveLeft_27 1 rfl rfl ?_
        refine wp_iconst (q := 29) dX7_giveLeft_28 zq_iconst_1 rfl ?_
        refine wp_iload_n (q := 30) dX7_giveLeft_29 2 rfl rfl ?_
        refine wp_ishlN (q := 31) dX7_giveLeft_30 (by omega) (p2 i (by omega)) rfl ?_
        refine wp_iorN (q := 32) dX7_giveLeft_31 rfl ?_
        refine wp_istore_n (q := 33) (loc' := [(1, _), (0, _), (2, _)]) dX7_giveLeft_32 rfl (by decide) rfl rfl ?_
        refine wp_aload_n (q := 34) dX7_giveLeft_33 1 rfl rfl ?_
        refine wp_getR (q := 37) dX7_giveLeft_34 zf_RX7_28 rfl (by first | assumption | rfl) (by first | assumption | rfl) rfl ?_
        refine wp_aload_n (q := 38) dX7_giveLeft_37 1 rfl rfl ?_
        refine wp_getR (q := 41) dX7_giveLeft_38 zf_RX7_24 rfl (by first | assumption | rfl) (by first | assumption | rfl) rfl ?_
        refine wp_iload_n (q := 42) dX7_giveLeft_41 2 rfl rfl ?_
        refine wp_iald (q := 43) _ dX7_giveLeft_42 (by first | assumption | rfl) rfl (by omega) (by decide) rfl ?_
        rw [b1]
        first | refine wp_dup2 (q := 44) dX7_giveLeft_43 rfl rfl rfl ?_ | refine wp_dup2L (q := 44) dX7_giveLeft_43 rfl rfl ?_
        refine wp_iald (q := 45) _ dX7_giveLeft_44 (by first | assumption | rfl) rfl (by omega) (by decide) rfl ?_
        rw [b2]
        refine wp_iconst (q := 46) dX7_giveLeft_45 zq_iconst_1 rfl ?_
        refine wp_isubN (q := 47) dX7_giveLeft_46 (by omega) rfl ?_
        refine wp_iast (q := 48) _ dX7_giveLeft_47 (by first | assumption | rfl) rfl (by omega) (by decide) rfl ?_
        refine wp_iincN (q := 51) (loc' := [(2, _), (1, _), (0, _)]) (n := 1) dX7_giveLeft_48 rfl 2 rfl (by decide) rfl rfl ?_
        refine wp_goto (tgt := 4) dX7_giveLeft_51 (by decide) ?_
        refine WP.sub (loc' := [(0, _), (1, _), (2, _)]) [2, 1, 0] rfl ?_
        rw [Nat.one_mul]
        have := ih (i + 1) (zu M2 (o + 2) (wh v i) (nI (ht v i - 1))) (by omega) ?_ (fun a ha => (zu_ne ha).trans (hf a ha))
        · rw [zmk, if_pos hg] at this
          exact this
        · rw [zd1, if_pos hg]
          exact zSR_ht (zV_d1 hv i (by omega)) hz hin (fun p => by rw [zu_o, ew]) (fun a ha => zu_ne ha)
      · have hg2 : ht v i < 2 := by
          refine Nat.not_le.mp (fun c => hg (decide_eq_true c))
        refine wp_iconst (q := 24) dX7_giveLeft_23 zq_iconst_2 rfl ?_
        refine wp_icmp_ltN (tgt := 48) (q := 27) dX7_giveLeft_24 (by decide) rfl (by omega) (by omega) (fun _ => ?_) (fun hn => absurd hn (by omega))
        refine wp_iincN (q := 51) (loc' := [(2, _), (0, _), (1, _)]) (n := 1) dX7_giveLeft_48 rfl 2 rfl (by decide) rfl rfl ?_
        refine wp_goto (tgt := 4) dX7_giveLeft_51 (by decide) ?_
        refine WP.sub (loc' := [(0, _), (1, _), (2, _)]) [1, 2, 0] rfl ?_
        have := ih (i + 1) M2 (by omega) ?_ hf
        · rw [zmk, if_neg hg] at this
          exact this
        · rw [zd1, if_neg hg]
          exact hz
  refine wp_iconst (q := 1) dX7_giveLeft_0 zq_iconst_0 rfl ?_
  refine wp_istore_n (q := 2) (loc' := [(1, _), (0, _)]) dX7_giveLeft_1 rfl (by decide) rfl rfl ?_
  refine wp_iconst (q := 3) dX7_giveLeft_2 zq_iconst_0 rfl ?_
  refine wp_istore_n (q := 4) (loc' := [(2, _), (1, _), (0, _)]) dX7_giveLeft_3 rfl (by decide) rfl rfl ?_
  refine WP.sub (loc' := [(0, _), (1, _), (2, _)]) [2, 1, 0] rfl ?_
  exact loop1 n 0 M (by omega) hr (fun _ _ => rfl)

