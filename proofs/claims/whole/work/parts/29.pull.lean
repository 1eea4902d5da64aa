theorem zlitL (n : Nat) : (OfNat.ofNat n : Int64) = lN n := rfl
theorem zlitI (n : Nat) : (OfNat.ofNat n : Int32) = nI n := rfl
def zAll (M : zMI) (n : Nat) (tb : zTb) (v : Nat → Nat) : Prop := ∀ c, c < n → M 153 c = nI (zoR tb v c ((c + 1) % n)) ∧ M 154 c = nI (zoL tb v c ((c + 1) % n)) ∧ M 155 c = nI (zoN tb v c ((c + 1) % n))
def zPy (t x : Nat) : Prop := zPx t x ∨ x = 153 ∨ x = 154 ∨ x = 155
theorem zPy_n {t x : Nat} (h : ¬ zPy t x) : ¬ zPx t x ∧ x ≠ 153 ∧ x ≠ 154 ∧ x ≠ 155 := ⟨fun c => h (Or.inl c), fun c => h (Or.inr (Or.inl c)), fun c => h (Or.inr (Or.inr (Or.inl c))), fun c => h (Or.inr (Or.inr (Or.inr c)))⟩
theorem zPx_st {t o x : Nat} (hT : zTab t) (ho : zSt o) (h1 : o ≤ x) (h2 : x ≤ o + 4) : ¬ zPy t x := by
  have ht2 : t = 10 ∨ t = 24 := hT
  have hot : 43 ≤ o ∧ (o + 4 < 150 ∨ 157 ≤ o) := by rcases ho with rfl | rfl | rfl | ⟨i, hi, rfl⟩ <;> omega
  intro c
  rcases c with (c | c | c | c) | c | c | c <;> omega
theorem zPx_tb {t x : Nat} (hT : zTab t) (h1 : t ≤ x) (h2 : x ≤ t + 12) (h3 : x ≠ t + 10) : ¬ zPy t x := by
  have ht2 : t = 10 ∨ t = 24 := hT
  intro c
  rcases c with (c | c | c | c) | c | c | c <;> omega
set_option maxHeartbeats 4000000 in
set_option maxRecDepth 100000 in
theorem sp_workAll {d t o n : Nat} {M : zMI} {L : zML} {tb : zTb} {v : Nat → Nat} (hT : zTab t) (ho : zSt o) (hTM : zTM M t n tb) (hv : zV n v) (hr : zSR M o n v) (h6 : zPM M) : Sy yX4_workAll YX4_workAll (d + 5) [.ref 150, .ref o] M L (zRf t) (fun v0 M' L' R' => v0 = none ∧ L = L' ∧ R' = zRf t ∧ (2 ≤ n → zAll M' n tb v) ∧ zPM M' ∧ ∀ x, ¬ zPy t x → M' x = M x) := by
  refine Sp.of (by decide +kernel) rfl (fun h => by first | exact h | cases h) (Nat.le_of_ble_eq_true rfl) ?_
  intro w G
  have hss := zSt_s ho
  have h8 := hv.1
  have hcr : (if n < 2 then 0 else n) ≤ 8 := by split <;> omega
  have loop : ∀ k i (M2 : zMI), i + k = (if n < 2 then 0 else n) → zPM M2 → (∀ x, ¬ zPy t x → M2 x = M x) → (∀ c, c < i → M2 153 c = nI (zoR tb v c ((c + 1) % n)) ∧ M2 154 c = nI (zoL tb v c ((c + 1) % n)) ∧ M2 155 c = nI (zoN tb v c ((c + 1) % n))) → WP w YX4_workAll (d + 5, SS, 0, 0) G (some (zXp (fun v0 M' L' R' => v0 = none ∧ L = L' ∧ R' = zRf t ∧ (2 ≤ n → zAll M' n tb v) ∧ zPM M' ∧ ∀ x, ¬ zPy t x → M' x = M x))) 2 [(0, .ref 150), (1, .ref o), (2, .int (nI i))] [] SS M2 L (zRf t) := by
    intro k
    induction k with
    | zero =>
      intro i M2 hi hp hf hc
      have hr2 := zSR_fr (M' := M2) hr (fun x a1 a2 => hf x (zPx_st hT ho a1 a2))
      refine wp_iload_n (q := 3) dX4_workAll_2 2 rfl rfl ?_
      refine wp_aload_n (q := 4) dX4_workAll_3 1 rfl rfl ?_
      refine wp_cvx (q := 7) (sp_crackers (d := d + 4) ho hr2.1 h8) zm_X7_crackers zl_RX4_80 dX4_workAll_4 rfl (by omega) (Nat.le_of_ble_eq_true rfl) (by first | assumption | rfl) rfl rfl ?_
      refine wp_icmp_geN (tgt := 64) (q := 10) dX4_workAll_7 (by decide) rfl (by omega) (by omega) (fun _ => ?_) (fun hn => absurd hn (by omega))
      exact wp_return dX4_workAll_64 rfl ⟨rfl, ⟨rfl, rfl, rfl, fun h2 c hcn => hc c (by rw [if_neg (by omega)] at hi; omega), hp, hf⟩⟩ rfl rfl
    | succ k ih =>
      intro i M2 hi hp hf hc
      have hr2 := zSR_fr (M' := M2) hr (fun x a1 a2 => hf x (zPx_st hT ho a1 a2))
      have hTM2 := zTM_fr (M' := M2) hTM (fun x a1 a2 a3 => hf x (zPx_tb hT a1 a2 a3))
      have hn2 : ¬ n < 2 := fun c => by rw [if_pos c] at hi; omega
      rw [if_neg hn2] at hi
      have hil : i < n := by omega
      have hml : (i + 1) % n < n := Nat.mod_lt _ (by omega)
      have hs1 := zo_sum tb v i ((i + 1) % n)
      refine wp_iload_n (q := 3) dX4_workAll_2 2 rfl rfl ?_
      refine wp_aload_n (q := 4) dX4_workAll_3 1 rfl rfl ?_
      refine wp_cvx (q := 7) (sp_crackers (d := d + 4) ho hr2.1 h8) zm_X7_crackers zl_RX4_80 dX4_workAll_4 rfl (by omega) (Nat.le_of_ble_eq_true rfl) (by first | assumption | rfl) rfl rfl ?_
      rw [if_neg hn2]
      refine wp_icmp_geN (tgt := 64) (q := 10) dX4_workAll_7 (by decide) rfl (by omega) (by omega) (fun hn => absurd hn (by omega)) (fun _ => ?_)
      refine wp_aload_n (q := 11) dX4_workAll_10 0 rfl rfl ?_
      refine wp_aload_n (q := 12) dX4_workAll_11 1 rfl rfl ?_
      refine wp_iload_n (q := 13) dX4_workAll_12 2 rfl rfl ?_
      refine wp_aload_n (q := 14) dX4_workAll_13 1 rfl rfl ?_
      refine wp_iload_n (q := 15) dX4_workAll_14 2 rfl rfl ?_
      refine wp_cvx (q := 18) (sp_behind (d := d + 4) ho hr2.1 h8 hil) zm_X7_behind zl_RX4_84 dX4_workAll_15 rfl (by omega) (Nat.le_of_ble_eq_true rfl) (by first | assumption | rfl) rfl rfl ?_
      refine wp_cvy (q := 21) (sp_work (d := d) hT ho hTM2 hv hr2 hil hml hp) zm_X4_work zl_RX4_88 dX4_workAll_18 rfl (by omega) (Nat.le_of_ble_eq_true rfl) zsh_150 rfl rfl ?_
      rintro _ M3 _ _ ⟨rfl, rfl, rfl, -, -, -, -, w4, w5, w6, hp3, hf3⟩
      refine wp_aload_n (q := 22) dX4_workAll_21 0 rfl rfl ?_
      refine wp_getR (q := 25) dX4_workAll_22 zf_RX4_18 rfl zsh_150 (zr_150_3 _) rfl ?_
      refine wp_iload_n (q := 26) dX4_workAll_25 2 rfl rfl ?_
      refine wp_aload_n (q := 27) dX4_workAll_26 0 rfl rfl ?_
      refine wp_getR (q := 30) dX4_workAll_27 zf_RX4_15 rfl zsh_150 (zr_150_2 _) rfl ?_
      refine wp_iconst (q := 31) dX4_workAll_30 zq_iconst_4 rfl ?_
      refine wp_iald (q := 32) _ dX4_workAll_31 zsh_152 rfl (by omega) (by decide) rfl ?_
      rw [w4]
      refine wp_iast (q := 33) _ dX4_workAll_32 zsh_153 rfl (by omega) (by decide) rfl ?_
      refine wp_aload_n (q := 34) dX4_workAll_33 0 rfl rfl ?_
      refine wp_getR (q := 37) dX4_workAll_34 zf_RX4_21 rfl zsh_150 (zr_150_4 _) rfl ?_
      refine wp_iload_n (q := 38) dX4_workAll_37 2 rfl rfl ?_
      refine wp_aload_n (q := 39) dX4_workAll_38 0 rfl rfl ?_
      refine wp_getR (q := 42) dX4_workAll_39 zf_RX4_15 rfl zsh_150 (zr_150_2 _) rfl ?_
      refine wp_iconst (q := 43) dX4_workAll_42 zq_iconst_5 rfl ?_
      refine wp_iald (q := 44) _ dX4_workAll_43 zsh_152 rfl (by omega) (by decide) rfl ?_
      rw [zu_ne (by decide), w5]
      refine wp_iast (q := 45) _ dX4_workAll_44 zsh_154 rfl (by omega) (by decide) rfl ?_
      refine wp_aload_n (q := 46) dX4_workAll_45 0 rfl rfl ?_
      refine wp_getR (q := 49) dX4_workAll_46 zf_RX4_24 rfl zsh_150 (zr_150_5 _) rfl ?_
      refine wp_iload_n (q := 50) dX4_workAll_49 2 rfl rfl ?_
      refine wp_aload_n (q := 51) dX4_workAll_50 0 rfl rfl ?_
      refine wp_getR (q := 54) dX4_workAll_51 zf_RX4_15 rfl zsh_150 (zr_150_2 _) rfl ?_
      refine wp_bipush (q := 56) dX4_workAll_54 zq_bipush_6 rfl ?_
      refine wp_iald (q := 57) _ dX4_workAll_56 zsh_152 rfl (by omega) (by decide) rfl ?_
      rw [zu_ne (by decide), zu_ne (by decide), w6]
      refine wp_iast (q := 58) _ dX4_workAll_57 zsh_155 rfl (by omega) (by decide) rfl ?_
      refine wp_iincN (q := 61) (loc' := [(2, _), (0, _), (1, _)]) (n := 1) dX4_workAll_58 rfl 2 rfl (by decide) rfl rfl ?_
      refine wp_goto (tgt := 2) dX4_workAll_61 (by decide) ?_
      refine WP.sub (loc' := [(0, _), (1, _), (2, _)]) [1, 2, 0] rfl ?_
      refine ih (i + 1) _ (by rw [if_neg hn2]; omega) (fun k h1 h2 => by rw [zu_ne (by decide), zu_ne (by decide), zu_ne (by decide)]; exact hp3 k h1 h2) (fun x hx => ?_) (fun c hci => ?_)
      · obtain ⟨x0, x1, x2, x3⟩ := zPy_n hx
        rw [zu_ne x3, zu_ne x2, zu_ne x1, hf3 x x0, hf x hx]
      · by_cases e : c = i
        · subst e
          refine ⟨?_, ?_, ?_⟩
          · rw [zu_ne (by decide), zu_ne (by decide), zu_s]
          · rw [zu_ne (by decide), zu_s]
          · rw [zu_s]
        · obtain ⟨q1, q2, q3⟩ := hc c (by omega)
          have nx : ∀ x, x = 153 ∨ x = 154 ∨ x = 155 → ¬ zPx t x := by
            intro x hx c
            have ht2 : t = 10 ∨ t = 24 := hT
            rcases c with c | c | c | c <;> omega
          refine ⟨?_, ?_, ?_⟩
          · rw [zu_ne (by decide), zu_ne (by decide), zu_k e, hf3 153 (nx 153 (Or.inl rfl)), q1]
          · rw [zu_ne (by decide), zu_k e, zu_ne (by decide), hf3 154 (nx 154 (Or.inr (Or.inl rfl))), q2]
          · rw [zu_k e, zu_ne (by decide), zu_ne (by decide), hf3 155 (nx 155 (Or.inr (Or.inr rfl))), q3]
  refine wp_iconst (q := 1) dX4_workAll_0 zq_iconst_0 rfl ?_
  refine wp_istore_n (q := 2) (loc' := [(2, _), (0, _), (1, _)]) dX4_workAll_1 rfl (by decide) rfl rfl ?_
  refine WP.sub (loc' := [(0, _), (1, _), (2, _)]) [1, 2, 0] rfl ?_
  exact loop _ 0 M (Nat.zero_add _) h6 (fun _ _ => rfl) (fun c hc => absurd hc (Nat.not_lt_zero _))
def zwy (r l h : Nat) : Nat := if h = 0 then (10000 - r) * (10000 - l) else if h = 2 then r * l else r * (10000 - l) + l * (10000 - r)
theorem zm8 {a b : Nat} (ha : a ≤ 10000) (hb : b ≤ 10000) : a * b ≤ 100000000 := Nat.le_trans (Nat.mul_le_mul ha hb) (by decide)
set_option maxHeartbeats 4000000 in
set_option maxRecDepth 100000 in
theorem sp_ways {d t o n s h : Nat} {M : zMI} {L : zML} {tb : zTb} {v : Nat → Nat} (ho : zSt o) (hn : M o 0 = nI n) (h8 : n ≤ 8) (ha : zAll M n tb v) (hs : s < n) (hh : h ≤ 2) : Sx yX4_ways YX4_ways (d + 1) [.ref 150, .ref o, .int (nI s), .int (nI h)] M L (zRf t) (some (.long (lN (zwy (zoR tb v s ((s + 1) % n)) (zoL tb v ((s + n - 1) % n) s) h)))) M L (zRf t) := by
  refine Sp.of (by decide +kernel) rfl (fun h => by first | exact h | cases h) (Nat.le_of_ble_eq_true rfl) ?_
  intro w G
  have hss := zSt_s ho
  have hml : (s + n - 1) % n < n := Nat.mod_lt _ (by omega)
  have e1 := (ha s hs).1
  have e2 := (ha _ hml).2.1
  rw [zmod2 hs] at e2
  have b1 := zo_sum tb v s ((s + 1) % n)
  have b2 := zo_sum tb v ((s + n - 1) % n) s
  obtain ⟨r, hr⟩ : ∃ r, zoR tb v s ((s + 1) % n) = r := ⟨_, rfl⟩
  obtain ⟨l, hl⟩ : ∃ l, zoL tb v ((s + n - 1) % n) s = l := ⟨_, rfl⟩
  rw [hr] at e1 b1 ⊢
  rw [hl] at e2 b2 ⊢
  have c1 : r ≤ 10000 := by omega
  have c2 : l ≤ 10000 := by omega
  have m1 := zm8 (show 10000 - r ≤ 10000 by omega) (show 10000 - l ≤ 10000 by omega)
  have m2 := zm8 c1 c2
  have m3 := zm8 c1 (show 10000 - l ≤ 10000 by omega)
  have m4 := zm8 c2 (show 10000 - r ≤ 10000 by omega)
  refine wp_aload_n (q := 1) dX4_ways_0 0 rfl rfl ?_
  refine wp_getR (q := 4) dX4_ways_1 zf_RX4_18 rfl zsh_150 (zr_150_3 _) rfl ?_
  refine wp_iload_n (q := 5) dX4_ways_4 2 rfl rfl ?_
  refine wp_iald (q := 6) _ dX4_ways_5 zsh_153 rfl (by omega) (by decide) rfl ?_
  rw [e1]
  refine wp_i2lN (q := 7) dX4_ways_6 (by omega) rfl ?_
  refine wp_lstore (q := 9) (loc' := [(4, _), (0, _), (1, _), (2, _), (3, _)]) dX4_ways_7 (by decide) rfl rfl ?_
  refine wp_aload_n (q := 10) dX4_ways_9 1 rfl rfl ?_
  refine wp_getR (q := 13) dX4_ways_10 zf_RX4_21 rfl zsh_150 (zr_150_4 _) rfl ?_
  refine wp_aload_n (q := 14) dX4_ways_13 2 rfl rfl ?_
  refine wp_iload_n (q := 15) dX4_ways_14 3 rfl rfl ?_
  refine wp_cvx (q := 18) (sp_ahead (d := d) ho hn h8 hs) zm_X7_ahead zl_RX4_92 dX4_ways_15 rfl (by omega) (Nat.le_of_ble_eq_true rfl) (by first | assumption | rfl) rfl rfl ?_
  refine wp_iald (q := 19) _ dX4_ways_18 zsh_154 rfl (by omega) (by decide) rfl ?_
  rw [e2]
  refine wp_i2lN (q := 20) dX4_ways_19 (by omega) rfl ?_
  refine wp_lstore (q := 22) (loc' := [(6, _), (4, _), (0, _), (1, _), (2, _), (3, _)]) dX4_ways_20 (by decide) rfl rfl ?_
  refine wp_iload_n (q := 23) dX4_ways_22 5 rfl rfl ?_
  refine wp_if_neN (tgt := 40) (q := 26) dX4_ways_23 (by decide) rfl (by omega) (fun h1 => ?_) (fun h1 => ?_)
  · skip
    refine wp_iload_n (q := 41) dX4_ways_40 5 rfl rfl ?_
    refine wp_iconst (q := 42) dX4_ways_41 zq_iconst_2 rfl ?_
    refine wp_icmp_neN (tgt := 53) (q := 45) dX4_ways_42 (by decide) rfl (by omega) (by omega) (fun h3 => ?_) (fun h3 => ?_)
    · skip
      refine wp_lload (q := 55) dX4_ways_53 1 rfl rfl ?_
      refine wp_ldc2_w (q := 58) dX4_ways_55 zk_RX4_95 rfl ?_
      rw [zlitL 10000]
      refine wp_lload (q := 60) dX4_ways_58 0 rfl rfl ?_
      refine wp_lsubN (q := 61) dX4_ways_60 (by omega) rfl ?_
      refine wp_lmulN (q := 62) dX4_ways_61 rfl ?_
      refine wp_lload (q := 64) dX4_ways_62 0 rfl rfl ?_
      refine wp_ldc2_w (q := 67) dX4_ways_64 zk_RX4_95 rfl ?_
      rw [zlitL 10000]
      refine wp_lload (q := 69) dX4_ways_67 1 rfl rfl ?_
      refine wp_lsubN (q := 70) dX4_ways_69 (by omega) rfl ?_
      refine wp_lmulN (q := 71) dX4_ways_70 rfl ?_
      refine wp_laddN (q := 72) dX4_ways_71 rfl ?_
      rw [show zwy r l h = r * (10000 - l) + l * (10000 - r) by unfold zwy; rw [if_neg h1, if_neg h3]]
      exact wp_lreturn dX4_ways_72 rfl ⟨rfl, rfl, rfl, rfl, rfl⟩ rfl rfl
    · skip
      refine wp_lload (q := 47) dX4_ways_45 1 rfl rfl ?_
      refine wp_lload (q := 49) dX4_ways_47 0 rfl rfl ?_
      refine wp_lmulN (q := 50) dX4_ways_49 rfl ?_
      refine wp_goto (tgt := 72) dX4_ways_50 (by decide) ?_
      rw [show zwy r l h = r * l by unfold zwy; rw [if_neg h1, if_pos h3]]
      exact wp_lreturn dX4_ways_72 rfl ⟨rfl, rfl, rfl, rfl, rfl⟩ rfl rfl
  · skip
    refine wp_ldc2_w (q := 29) dX4_ways_26 zk_RX4_95 rfl ?_
    rw [zlitL 10000]
    refine wp_lload (q := 31) dX4_ways_29 1 rfl rfl ?_
    refine wp_lsubN (q := 32) dX4_ways_31 (by omega) rfl ?_
    refine wp_ldc2_w (q := 35) dX4_ways_32 zk_RX4_95 rfl ?_
    rw [zlitL 10000]
    refine wp_lload (q := 37) dX4_ways_35 0 rfl rfl ?_
    refine wp_lsubN (q := 38) dX4_ways_37 (by omega) rfl ?_
    refine wp_lmulN (q := 39) dX4_ways_38 rfl ?_
    rw [show zwy r l h = (10000 - r) * (10000 - l) by unfold zwy; rw [if_pos h1]]
    exact wp_lreturn dX4_ways_39 rfl ⟨rfl, rfl, rfl, rfl, rfl⟩ rfl rfl

