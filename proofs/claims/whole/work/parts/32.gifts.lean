set_option maxHeartbeats 4000000 in
set_option maxRecDepth 100000 in
theorem sp_begin {d t : Nat} {M : zMI} {L : zML} (hT : zTab t) : Sy yX7_begin YX7_begin (d + 1) [.ref 43, .ref t] M L (zRf t) (fun v0 M' L' R' => v0 = none ∧ L = L' ∧ R' = zRf t ∧ M' 43 0 = M t 1 ∧ M' 43 1 = nI 0 ∧ M' 43 2 = nI 0 ∧ M' 43 3 = nI 0 ∧ (∀ i, i < 8 → M' 44 i = nI i) ∧ (∀ i, i < 8 → M' 45 i = M (t + 5) i) ∧ (∀ i, i < 16 → M' 46 i = M (t + 3) i) ∧ (∀ i, i < 16 → M' 47 i = M (t + 4) i) ∧ ∀ x, (x < 43 ∨ 47 < x) → M' x = M x) := by
  refine Sp.of (by decide +kernel) rfl (fun h => by first | exact h | cases h) (Nat.le_of_ble_eq_true rfl) ?_
  intro w G
  obtain ⟨s0, s1, s2, s3, s4, s5, s6, s7, s8, s11⟩ := zTab_s hT
  obtain ⟨r2, r3, r4, r5, r6, r8, r9, r13, r14⟩ := zTab_r (t := t) hT
  have ht2 : t = 10 ∨ t = 24 := hT
  have loop : ∀ k i (M2 : zMI), i + k = 8 → M2 43 0 = M t 1 → M2 43 1 = nI 0 → M2 43 2 = nI 0 → M2 43 3 = nI 0 → (∀ j, j < i → M2 44 j = nI j) → (∀ x, (x < 43 ∨ 44 < x) → M2 x = M x) → WP w YX7_begin (d + 1, SS, 0, 0) G (some (zXp (fun v0 M' L' R' => v0 = none ∧ L = L' ∧ R' = zRf t ∧ M' 43 0 = M t 1 ∧ M' 43 1 = nI 0 ∧ M' 43 2 = nI 0 ∧ M' 43 3 = nI 0 ∧ (∀ i, i < 8 → M' 44 i = nI i) ∧ (∀ i, i < 8 → M' 45 i = M (t + 5) i) ∧ (∀ i, i < 16 → M' 46 i = M (t + 3) i) ∧ (∀ i, i < 16 → M' 47 i = M (t + 4) i) ∧ ∀ x, (x < 43 ∨ 47 < x) → M' x = M x))) 25 [(0, .ref 43), (1, .ref t), (2, .int (nI i))] [] SS M2 L (zRf t) := by
    intro k
    induction k with
    | zero =>
      intro i M2 hi h0 h1 h2 h3 hw hf
      refine wp_iload_n (q := 26) dX7_begin_25 2 rfl rfl ?_
      refine wp_bipush (q := 28) dX7_begin_26 zq_bipush_8 rfl ?_
      refine wp_icmp_geN (tgt := 44) (q := 31) dX7_begin_28 (by decide) rfl (by omega) (by omega) (fun _ => ?_) (fun hn => absurd hn (by omega))
      refine wp_aload_n (q := 45) dX7_begin_44 1 rfl rfl ?_
      refine wp_getR (q := 48) dX7_begin_45 zf_RX7_40 rfl (by first | assumption | rfl) (by first | assumption | rfl) rfl ?_
      refine wp_iconst (q := 49) dX7_begin_48 zq_iconst_0 rfl ?_
      refine wp_aload_n (q := 50) dX7_begin_49 0 rfl rfl ?_
      refine wp_getR (q := 53) dX7_begin_50 zf_RX7_28 rfl zsh_43 (zr_43_5 _) rfl ?_
      refine wp_iconst (q := 54) dX7_begin_53 zq_iconst_0 rfl ?_
      refine wp_bipush (q := 56) dX7_begin_54 zq_bipush_8 rfl ?_
      refine wp_copy (q := 59) dX7_begin_56 zl_RX7_41 (by first | assumption | rfl) zsh_45 rfl rfl rfl (by omega) (by omega) (by decide) (by decide) (by omega) (by decide) rfl ?_
      refine wp_aload_n (q := 60) dX7_begin_59 1 rfl rfl ?_
      refine wp_getR (q := 63) dX7_begin_60 zf_RX7_47 rfl (by first | assumption | rfl) (by first | assumption | rfl) rfl ?_
      refine wp_iconst (q := 64) dX7_begin_63 zq_iconst_0 rfl ?_
      refine wp_aload_n (q := 65) dX7_begin_64 0 rfl rfl ?_
      refine wp_getR (q := 68) dX7_begin_65 zf_RX7_31 rfl zsh_43 (zr_43_6 _) rfl ?_
      refine wp_iconst (q := 69) dX7_begin_68 zq_iconst_0 rfl ?_
      refine wp_bipush (q := 71) dX7_begin_69 zq_bipush_16 rfl ?_
      refine wp_copy (q := 74) dX7_begin_71 zl_RX7_41 (by first | assumption | rfl) zsh_46 rfl rfl rfl (by omega) (by omega) (by decide) (by decide) (by omega) (by decide) rfl ?_
      refine wp_aload_n (q := 75) dX7_begin_74 1 rfl rfl ?_
      refine wp_getR (q := 78) dX7_begin_75 zf_RX7_48 rfl (by first | assumption | rfl) (by first | assumption | rfl) rfl ?_
      refine wp_iconst (q := 79) dX7_begin_78 zq_iconst_0 rfl ?_
      refine wp_aload_n (q := 80) dX7_begin_79 0 rfl rfl ?_
      refine wp_getR (q := 83) dX7_begin_80 zf_RX7_34 rfl zsh_43 (zr_43_7 _) rfl ?_
      refine wp_iconst (q := 84) dX7_begin_83 zq_iconst_0 rfl ?_
      refine wp_bipush (q := 86) dX7_begin_84 zq_bipush_16 rfl ?_
      refine wp_copy (q := 89) dX7_begin_86 zl_RX7_41 (by first | assumption | rfl) zsh_47 rfl rfl rfl (by omega) (by omega) (by decide) (by decide) (by omega) (by decide) rfl ?_
      refine wp_return dX7_begin_89 rfl ⟨rfl, ⟨rfl, rfl, rfl, ?_, ?_, ?_, ?_, fun j hj => ?_, fun j hj => ?_, fun j hj => ?_, fun j hj => ?_, fun x hx => ?_⟩⟩ rfl rfl
      · rw [zcp_ne (by omega), zcp_ne (by omega), zcp_ne (by omega), h0]
      · rw [zcp_ne (by omega), zcp_ne (by omega), zcp_ne (by omega), h1]
      · rw [zcp_ne (by omega), zcp_ne (by omega), zcp_ne (by omega), h2]
      · rw [zcp_ne (by omega), zcp_ne (by omega), zcp_ne (by omega), h3]
      · rw [zcp_ne (by omega), zcp_ne (by omega), zcp_ne (by omega), hw j (by omega)]
      · rw [zcp_ne (by omega), zcp_ne (by omega), zcp_eq, if_pos hj, hf _ (by omega)]
      · rw [zcp_ne (by omega), zcp_eq, if_pos hj, zcp_ne (by omega), hf _ (by omega)]
      · rw [zcp_eq, if_pos hj, zcp_ne (by omega), zcp_ne (by omega), hf _ (by omega)]
      · rw [zcp_ne (by omega), zcp_ne (by omega), zcp_ne (by omega), hf x (by omega)]
    | succ k ih =>
      intro i M2 hi h0 h1 h2 h3 hw hf
      refine wp_iload_n (q := 26) dX7_begin_25 2 rfl rfl ?_
      refine wp_bipush (q := 28) dX7_begin_26 zq_bipush_8 rfl ?_
      refine wp_icmp_geN (tgt := 44) (q := 31) dX7_begin_28 (by decide) rfl (by omega) (by omega) (fun hn => absurd hn (by omega)) (fun _ => ?_)
      refine wp_aload_n (q := 32) dX7_begin_31 0 rfl rfl ?_
      refine wp_getR (q := 35) dX7_begin_32 zf_RX7_24 rfl zsh_43 (zr_43_4 _) rfl ?_
      refine wp_iload_n (q := 36) dX7_begin_35 2 rfl rfl ?_
      refine wp_iload_n (q := 37) dX7_begin_36 2 rfl rfl ?_
      refine wp_iast (q := 38) _ dX7_begin_37 zsh_44 rfl (by omega) (by decide) rfl ?_
      refine wp_iincN (q := 41) (loc' := [(2, _), (0, _), (1, _)]) (n := 1) dX7_begin_38 rfl 2 rfl (by decide) rfl rfl ?_
      refine wp_goto (tgt := 25) dX7_begin_41 (by decide) ?_
      refine WP.sub (loc' := [(0, _), (1, _), (2, _)]) [1, 2, 0] rfl ?_
      refine ih (i + 1) _ (by omega) ?_ ?_ ?_ ?_ (fun j hj => ?_) (fun x hx => ?_)
      · rw [zu_ne (by decide), h0]
      · rw [zu_ne (by decide), h1]
      · rw [zu_ne (by decide), h2]
      · rw [zu_ne (by decide), h3]
      · by_cases e : j = i
        · subst e
          rw [zu_s]
        · rw [zu_k e, hw j (by omega)]
      · rw [zu_ne (by omega), hf x hx]
  refine wp_aload_n (q := 1) dX7_begin_0 0 rfl rfl ?_
  refine wp_aload_n (q := 2) dX7_begin_1 1 rfl rfl ?_
  refine wp_getI (q := 5) dX7_begin_2 zf_RX7_37 rfl (by first | assumption | rfl) rfl ?_
  refine wp_putI (q := 8) dX7_begin_5 zf_RX7_9 rfl zsh_43 rfl ?_
  refine wp_aload_n (q := 9) dX7_begin_8 0 rfl rfl ?_
  refine wp_iconst (q := 10) dX7_begin_9 zq_iconst_0 rfl ?_
  refine wp_putI (q := 13) dX7_begin_10 zf_RX7_15 rfl zsh_43 rfl ?_
  refine wp_aload_n (q := 14) dX7_begin_13 0 rfl rfl ?_
  refine wp_iconst (q := 15) dX7_begin_14 zq_iconst_0 rfl ?_
  refine wp_putI (q := 18) dX7_begin_15 zf_RX7_18 rfl zsh_43 rfl ?_
  refine wp_aload_n (q := 19) dX7_begin_18 0 rfl rfl ?_
  refine wp_iconst (q := 20) dX7_begin_19 zq_iconst_0 rfl ?_
  refine wp_putI (q := 23) dX7_begin_20 zf_RX7_21 rfl zsh_43 rfl ?_
  refine wp_iconst (q := 24) dX7_begin_23 zq_iconst_0 rfl ?_
  refine wp_istore_n (q := 25) (loc' := [(2, _), (0, _), (1, _)]) dX7_begin_24 rfl (by decide) rfl rfl ?_
  refine WP.sub (loc' := [(0, _), (1, _), (2, _)]) [1, 2, 0] rfl ?_
  refine loop 8 0 _ (Nat.zero_add _) ?_ ?_ ?_ ?_ (fun j hj => absurd hj (Nat.not_lt_zero _)) (fun x hx => ?_)
  · rw [zu_k (by decide), zu_k (by decide), zu_k (by decide), zu_s]
  · rw [zu_k (by decide), zu_k (by decide), zu_s]
  · rw [zu_k (by decide), zu_s]
  · rw [zu_s]
  · rw [zu_ne (by omega), zu_ne (by omega), zu_ne (by omega), zu_ne (by omega)]
def zcan1 (tb : zTb) (v : Nat → Nat) (n g c : Nat) : Bool := (decide (0 < zoR tb v c ((c + 1) % n)) && !g.testBit c) || (decide (0 < zoL tb v c ((c + 1) % n)) && !g.testBit ((c + 1) % n)) || decide (0 < zoN tb v c ((c + 1) % n))
def zcan (tb : zTb) (v : Nat → Nat) (n g : Nat) : Nat → Bool
  | 0 => true
  | i + 1 => zcan tb v n g i && zcan1 tb v n g i
theorem zcan_f {tb : zTb} {v : Nat → Nat} {n g : Nat} {i : Nat} (h : zcan tb v n g i = false) : ∀ k, zcan tb v n g (i + k) = false := by
  intro k
  induction k with
  | zero => exact h
  | succ k ih => show (zcan tb v n g (i + k) && zcan1 tb v n g (i + k)) = false; rw [ih, Bool.false_and]
set_option maxHeartbeats 4000000 in
set_option maxRecDepth 100000 in
theorem sp_canGo {d t o n g : Nat} {M : zMI} {L : zML} {tb : zTb} {v : Nat → Nat} (ho : zSt o) (hn : M o 0 = nI n) (h8 : n ≤ 8) (ha : 2 ≤ n → zAll M n tb v) (hg : g < 256) : Sx yX4_canGoWithout YX4_canGoWithout (d + 1) [.ref 150, .ref o, .int (nI g)] M L (zRf t) (some (.int (if zcan tb v n g (if n < 2 then 0 else n) then nI 1 else nI 0))) M L (zRf t) := by
  refine Sp.of (by decide +kernel) rfl (fun h => by first | exact h | cases h) (Nat.le_of_ble_eq_true rfl) ?_
  intro w G
  have hss := zSt_s ho
  have hcr : (if n < 2 then 0 else n) ≤ 8 := by split <;> omega
  have loop : ∀ k i, i + k = (if n < 2 then 0 else n) → zcan tb v n g i = true → WP w YX4_canGoWithout (d + 1, SS, 0, 0) G (some (zX (some (.int (if zcan tb v n g (if n < 2 then 0 else n) then nI 1 else nI 0))) M L (zRf t))) 2 [(3, .int (nI i)), (0, .ref 150), (1, .ref o), (2, .int (nI g))] [] SS M L (zRf t) := by
    intro k
    induction k with
    | zero =>
      intro i hi hc
      refine wp_iload_n (q := 3) dX4_canGoWithout_2 0 rfl rfl ?_
      refine wp_aload_n (q := 4) dX4_canGoWithout_3 2 rfl rfl ?_
      refine wp_cvx (q := 7) (sp_crackers (d := d) ho hn h8) zm_X7_crackers zl_RX4_80 dX4_canGoWithout_4 rfl (by omega) (Nat.le_of_ble_eq_true rfl) (by first | assumption | rfl) rfl rfl ?_
      refine wp_icmp_geN (tgt := 89) (q := 10) dX4_canGoWithout_7 (by decide) rfl (by omega) (by omega) (fun _ => ?_) (fun hn => absurd hn (by omega))
      refine wp_iconst (q := 90) dX4_canGoWithout_89 zq_iconst_1 rfl ?_
      rw [show (if n < 2 then 0 else n) = i by omega, hc, if_pos rfl]
      exact wp_zreturn dX4_canGoWithout_90 rfl (by first | with_reducible exact znar_0 | with_reducible exact znar_1 | assumption) ⟨rfl, rfl, rfl, rfl, rfl⟩ rfl rfl
    | succ k ih =>
      intro i hi hc
      have hn2 : ¬ n < 2 := fun c => by rw [if_pos c] at hi; omega
      have hi2 : i + (k + 1) = n := by rw [if_neg hn2] at hi; exact hi
      obtain ⟨a1, a2, a3⟩ := ha (by omega) i (by omega)
      have bs := zo_sum tb v i ((i + 1) % n)
      have hml : (i + 1) % n < n := Nat.mod_lt _ (by omega)
      obtain ⟨r, hr⟩ : ∃ r, zoR tb v i ((i + 1) % n) = r := ⟨_, rfl⟩
      obtain ⟨l, hl⟩ : ∃ l, zoL tb v i ((i + 1) % n) = l := ⟨_, rfl⟩
      obtain ⟨z, hz⟩ : ∃ z, zoN tb v i ((i + 1) % n) = z := ⟨_, rfl⟩
      have e1 : zcan1 tb v n g i = ((decide (0 < r) && !g.testBit i) || (decide (0 < l) && !g.testBit ((i + 1) % n)) || decide (0 < z)) := by unfold zcan1; rw [hr, hl, hz]
      rw [hr] at a1 bs
      rw [hl] at a2 bs
      rw [hz] at a3 bs
      have hs1 : zcan tb v n g (i + 1) = zcan1 tb v n g i := by show (zcan tb v n g i && zcan1 tb v n g i) = _; rw [hc, Bool.true_and]
      -- with both told
      have tail : ∀ b1 b2 : Bool, b1 = (decide (0 < r) && !g.testBit i) → b2 = (decide (0 < l) && !g.testBit ((i + 1) % n)) → WP w YX4_canGoWithout (d + 1, SS, 0, 0) G (some (zX (some (.int (if zcan tb v n g (if n < 2 then 0 else n) then nI 1 else nI 0))) M L (zRf t))) 62 [(4, .int (if b1 then nI 1 else nI 0)), (5, .int (if b2 then nI 1 else nI 0)), (3, .int (nI i)), (0, .ref 150), (1, .ref o), (2, .int (nI g))] [] SS M L (zRf t) := by
        intro b1 b2 q1 q2
        have next : zcan1 tb v n g i = true → WP w YX4_canGoWithout (d + 1, SS, 0, 0) G (some (zX (some (.int (if zcan tb v n g (if n < 2 then 0 else n) then nI 1 else nI 0))) M L (zRf t))) 83 [(3, .int (nI i)), (0, .ref 150), (1, .ref o), (2, .int (nI g))] [] SS M L (zRf t) := by
          intro h1
          refine wp_iincN (q := 86) (loc' := [(3, _), (0, _), (1, _), (2, _)]) (n := 1) dX4_canGoWithout_83 rfl 0 rfl (by decide) rfl rfl ?_
          refine wp_goto (tgt := 2) dX4_canGoWithout_86 (by decide) ?_
          refine WP.sub (loc' := [(3, _), (0, _), (1, _), (2, _)]) [0, 1, 2, 3] rfl ?_
          exact ih (i + 1) (by omega) (by rw [hs1, h1])
        rw [← q1, ← q2] at e1
        cases b1 with
        | true =>
          rw [if_pos rfl]
          refine wp_iload (q := 64) dX4_canGoWithout_62 0 rfl rfl ?_
          refine wp_if_neN (tgt := 83) (q := 67) dX4_canGoWithout_64 (by decide) rfl (by omega) (fun _ => ?_) (fun hn => absurd hn (by omega))
          refine WP.sub (loc' := [(3, _), (0, _), (1, _), (2, _)]) [2, 3, 4, 5] rfl ?_
          exact next (by rw [e1]; rfl)
        | false =>
          rw [if_neg (by decide : ¬ false = true)]
          refine wp_iload (q := 64) dX4_canGoWithout_62 0 rfl rfl ?_
          refine wp_if_neN (tgt := 83) (q := 67) dX4_canGoWithout_64 (by decide) rfl (by omega) (fun hn => absurd hn (by omega)) (fun _ => ?_)
          cases b2 with
          | true =>
            rw [if_pos rfl]
            refine wp_iload (q := 69) dX4_canGoWithout_67 1 rfl rfl ?_
            refine wp_if_neN (tgt := 83) (q := 72) dX4_canGoWithout_69 (by decide) rfl (by omega) (fun _ => ?_) (fun hn => absurd hn (by omega))
            refine WP.sub (loc' := [(3, _), (0, _), (1, _), (2, _)]) [2, 3, 4, 5] rfl ?_
            exact next (by rw [e1]; rfl)
          | false =>
            rw [if_neg (by decide : ¬ false = true)]
            refine wp_iload (q := 69) dX4_canGoWithout_67 1 rfl rfl ?_
            refine wp_if_neN (tgt := 83) (q := 72) dX4_canGoWithout_69 (by decide) rfl (by omega) (fun hn => absurd hn (by omega)) (fun _ => ?_)
            refine wp_aload_n (q := 73) dX4_canGoWithout_72 3 rfl rfl ?_
            refine wp_getR (q := 76) dX4_canGoWithout_73 zf_RX4_24 rfl zsh_150 (zr_150_5 _) rfl ?_
            refine wp_iload_n (q := 77) dX4_canGoWithout_76 2 rfl rfl ?_
            refine wp_iald (q := 78) _ dX4_canGoWithout_77 zsh_155 rfl (by omega) (by decide) rfl ?_
            rw [a3]
            refine wp_if_neN (tgt := 83) (q := 81) dX4_canGoWithout_78 (by decide) rfl (by omega) (fun hz0 => ?_) (fun hz0 => ?_)
            · skip
              refine WP.sub (loc' := [(3, _), (0, _), (1, _), (2, _)]) [2, 3, 4, 5] rfl ?_
              exact next (by rw [e1, decide_eq_true (by omega)]; rfl)
            · skip
              refine wp_iconst (q := 82) dX4_canGoWithout_81 zq_iconst_0 rfl ?_
              rw [show zcan tb v n g (if n < 2 then 0 else n) = false by
                have z0 := zcan_f (show zcan tb v n g (i + 1) = false by rw [hs1, e1, decide_eq_false (by omega)]; rfl) k
                rw [if_neg hn2]
                rw [show i + 1 + k = n by omega] at z0
                exact z0, if_neg (by decide : ¬ false = true)]
              exact wp_zreturn dX4_canGoWithout_82 rfl (by first | with_reducible exact znar_0 | with_reducible exact znar_1 | assumption) ⟨rfl, rfl, rfl, rfl, rfl⟩ rfl rfl
      have mid : ∀ b1 : Bool, b1 = (decide (0 < r) && !g.testBit i) → WP w YX4_canGoWithout (d + 1, SS, 0, 0) G (some (zX (some (.int (if zcan tb v n g (if n < 2 then 0 else n) then nI 1 else nI 0))) M L (zRf t))) 34 [(4, .int (if b1 then nI 1 else nI 0)), (3, .int (nI i)), (0, .ref 150), (1, .ref o), (2, .int (nI g))] [] SS M L (zRf t) := by
        intro b1 q1
        refine wp_aload_n (q := 35) dX4_canGoWithout_34 2 rfl rfl ?_
        refine wp_getR (q := 38) dX4_canGoWithout_35 zf_RX4_21 rfl zsh_150 (zr_150_4 _) rfl ?_
        refine wp_iload_n (q := 39) dX4_canGoWithout_38 1 rfl rfl ?_
        refine wp_iald (q := 40) _ dX4_canGoWithout_39 zsh_154 rfl (by omega) (by decide) rfl ?_
        rw [a2]
        refine wp_if_leN (tgt := 59) (q := 43) dX4_canGoWithout_40 (by decide) rfl (by omega) (fun hl0 => ?_) (fun hl0 => ?_)
        · skip
          refine wp_iconst (q := 60) dX4_canGoWithout_59 zq_iconst_0 rfl ?_
          refine wp_istore (q := 62) (loc' := [(5, _), (4, _), (3, _), (0, _), (1, _), (2, _)]) dX4_canGoWithout_60 (by decide) rfl rfl ?_
          refine WP.sub (loc' := [(4, _), (5, _), (3, _), (0, _), (1, _), (2, _)]) [1, 0, 2, 3, 4, 5] rfl ?_
          exact tail b1 false q1 (by rw [decide_eq_false (by omega), Bool.false_and])
        · skip
          refine wp_iload_n (q := 44) dX4_canGoWithout_43 4 rfl rfl ?_
          refine wp_aload_n (q := 45) dX4_canGoWithout_44 3 rfl rfl ?_
          refine wp_iload_n (q := 46) dX4_canGoWithout_45 1 rfl rfl ?_
          refine wp_cvx (q := 49) (sp_behind (d := d) ho hn h8 (by omega)) zm_X7_behind zl_RX4_84 dX4_canGoWithout_46 rfl (by omega) (Nat.le_of_ble_eq_true rfl) (by first | assumption | rfl) rfl rfl ?_
          refine wp_ishrN (q := 50) dX4_canGoWithout_49 (by omega) (by omega) rfl ?_
          refine wp_iconst (q := 51) dX4_canGoWithout_50 zq_iconst_1 rfl ?_
          refine wp_iandN (q := 52) dX4_canGoWithout_51 rfl ?_
          rw [zmk_and]
          by_cases hb : g.testBit ((i + 1) % n) = true
          · rw [if_pos hb]
            refine wp_if_neN (tgt := 59) (q := 55) dX4_canGoWithout_52 (by decide) rfl (by omega) (fun _ => ?_) (fun hn => absurd hn (by omega))
            refine wp_iconst (q := 60) dX4_canGoWithout_59 zq_iconst_0 rfl ?_
            refine wp_istore (q := 62) (loc' := [(5, _), (4, _), (3, _), (0, _), (1, _), (2, _)]) dX4_canGoWithout_60 (by decide) rfl rfl ?_
            refine WP.sub (loc' := [(4, _), (5, _), (3, _), (0, _), (1, _), (2, _)]) [1, 0, 2, 3, 4, 5] rfl ?_
            exact tail b1 false q1 (by rw [hb]; simp)
          · rw [if_neg hb]
            refine wp_if_neN (tgt := 59) (q := 55) dX4_canGoWithout_52 (by decide) rfl (by omega) (fun hn => absurd hn (by omega)) (fun _ => ?_)
            refine wp_iconst (q := 56) dX4_canGoWithout_55 zq_iconst_1 rfl ?_
            refine wp_goto (tgt := 60) dX4_canGoWithout_56 (by decide) ?_
            refine wp_istore (q := 62) (loc' := [(5, _), (4, _), (3, _), (0, _), (1, _), (2, _)]) dX4_canGoWithout_60 (by decide) rfl rfl ?_
            refine WP.sub (loc' := [(4, _), (5, _), (3, _), (0, _), (1, _), (2, _)]) [1, 0, 2, 3, 4, 5] rfl ?_
            exact tail b1 true q1 (by rw [decide_eq_true (by omega), Bool.eq_false_iff.mpr hb]; rfl)
      refine wp_iload_n (q := 3) dX4_canGoWithout_2 0 rfl rfl ?_
      refine wp_aload_n (q := 4) dX4_canGoWithout_3 2 rfl rfl ?_
      refine wp_cvx (q := 7) (sp_crackers (d := d) ho hn h8) zm_X7_crackers zl_RX4_80 dX4_canGoWithout_4 rfl (by omega) (Nat.le_of_ble_eq_true rfl) (by first | assumption | rfl) rfl rfl ?_
      refine wp_icmp_geN (tgt := 89) (q := 10) dX4_canGoWithout_7 (by decide) rfl (by omega) (by omega) (fun hn => absurd hn (by omega)) (fun _ => ?_)
      refine wp_aload_n (q := 11) dX4_canGoWithout_10 1 rfl rfl ?_
      refine wp_getR (q := 14) dX4_canGoWithout_11 zf_RX4_18 rfl zsh_150 (zr_150_3 _) rfl ?_
      refine wp_iload_n (q := 15) dX4_canGoWithout_14 0 rfl rfl ?_
      refine wp_iald (q := 16) _ dX4_canGoWithout_15 zsh_153 rfl (by omega) (by decide) rfl ?_
      rw [a1]
      refine wp_if_leN (tgt := 31) (q := 19) dX4_canGoWithout_16 (by decide) rfl (by omega) (fun hr0 => ?_) (fun hr0 => ?_)
      · skip
        refine wp_iconst (q := 32) dX4_canGoWithout_31 zq_iconst_0 rfl ?_
        refine wp_istore (q := 34) (loc' := [(4, _), (3, _), (0, _), (1, _), (2, _)]) dX4_canGoWithout_32 (by decide) rfl rfl ?_
        refine WP.sub (loc' := [(4, _), (3, _), (0, _), (1, _), (2, _)]) [0, 1, 2, 3, 4] rfl ?_
        exact mid false (by rw [decide_eq_false (by omega), Bool.false_and])
      · skip
        refine wp_iload_n (q := 20) dX4_canGoWithout_19 3 rfl rfl ?_
        refine wp_iload_n (q := 21) dX4_canGoWithout_20 0 rfl rfl ?_
        refine wp_ishrN (q := 22) dX4_canGoWithout_21 (by omega) (by omega) rfl ?_
        refine wp_iconst (q := 23) dX4_canGoWithout_22 zq_iconst_1 rfl ?_
        refine wp_iandN (q := 24) dX4_canGoWithout_23 rfl ?_
        rw [zmk_and]
        by_cases hb : g.testBit i = true
        · rw [if_pos hb]
          refine wp_if_neN (tgt := 31) (q := 27) dX4_canGoWithout_24 (by decide) rfl (by omega) (fun _ => ?_) (fun hn => absurd hn (by omega))
          refine wp_iconst (q := 32) dX4_canGoWithout_31 zq_iconst_0 rfl ?_
          refine wp_istore (q := 34) (loc' := [(4, _), (3, _), (0, _), (1, _), (2, _)]) dX4_canGoWithout_32 (by decide) rfl rfl ?_
          refine WP.sub (loc' := [(4, _), (3, _), (0, _), (1, _), (2, _)]) [0, 1, 2, 3, 4] rfl ?_
          exact mid false (by rw [hb]; simp)
        · rw [if_neg hb]
          refine wp_if_neN (tgt := 31) (q := 27) dX4_canGoWithout_24 (by decide) rfl (by omega) (fun hn => absurd hn (by omega)) (fun _ => ?_)
          refine wp_iconst (q := 28) dX4_canGoWithout_27 zq_iconst_1 rfl ?_
          refine wp_goto (tgt := 32) dX4_canGoWithout_28 (by decide) ?_
          refine wp_istore (q := 34) (loc' := [(4, _), (3, _), (0, _), (1, _), (2, _)]) dX4_canGoWithout_32 (by decide) rfl rfl ?_
          refine WP.sub (loc' := [(4, _), (3, _), (0, _), (1, _), (2, _)]) [0, 1, 2, 3, 4] rfl ?_
          exact mid true (by rw [decide_eq_true (by omega), Bool.eq_false_iff.mpr hb]; rfl)
  refine wp_iconst (q := 1) dX4_canGoWithout_0 zq_iconst_0 rfl ?_
  refine wp_istore_n (q := 2) (loc' := [(3, _), (0, _), (1, _), (2, _)]) dX4_canGoWithout_1 rfl (by decide) rfl rfl ?_
  refine WP.sub (loc' := [(3, _), (0, _), (1, _), (2, _)]) [0, 1, 2, 3] rfl ?_
  exact loop _ 0 (Nat.zero_add _) rfl

