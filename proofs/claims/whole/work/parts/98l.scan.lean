-- the reference reads its tape
theorem zcl_0 {x : Nat} : zcl x = 0 ↔ x = 10 ∨ x = 32 := by
  unfold zcl
  split
  · rename_i h
    constructor
    · intro e; omega
    · intro e; omega
  · split
    · rename_i h
      constructor
      · intro e; omega
      · intro e; omega
    · split
      · rename_i h
        exact ⟨fun _ => h, fun _ => rfl⟩
      · rename_i h
        constructor
        · intro e; omega
        · intro e; exact absurd e h
theorem zcl_1i {x : Nat} : zcl x = 1 ↔ 97 ≤ x ∧ x ≤ 122 := ⟨zcl_1, fun h => by unfold zcl; rw [if_pos h]⟩
theorem zcl_2i {x : Nat} : zcl x = 2 ↔ 48 ≤ x ∧ x ≤ 57 := ⟨zcl_2, fun h => by unfold zcl; rw [if_neg (by omega), if_pos h]⟩
set_option maxHeartbeats 4000000 in
set_option maxRecDepth 100000 in
theorem sp_mfail {d t kd : Nat} {y : Int32} {M : zMI} {L : zML} (h : M 177 5 = nI 0) : Sx yX12_fail YX12_fail (d) [.ref 177, .int (nI kd), .int y] M L (zRf t) (none) (zu (zu M 177 5 (nI kd)) 177 6 y) L (zRf t) := by
  refine Sp.of (by decide +kernel) rfl (fun h => by first | exact h | cases h) (Nat.le_of_ble_eq_true rfl) ?_
  intro w G
  refine wp_aload_n (q := 1) dX12_fail_0 0 rfl rfl ?_
  refine wp_getI (q := 4) dX12_fail_1 zf_RX12_236 rfl zsh_177 rfl ?_
  rw [h]
  refine wp_if_eqN (tgt := 8) (q := 7) dX12_fail_4 (by decide) rfl (by omega) (fun _ => ?_) (fun hn => absurd hn (by first | omega | exact fun h => h | exact fun h => h trivial))
  refine wp_aload_n (q := 9) dX12_fail_8 0 rfl rfl ?_
  refine wp_iload_n (q := 10) dX12_fail_9 1 rfl rfl ?_
  refine wp_putI (q := 13) dX12_fail_10 zf_RX12_236 rfl zsh_177 rfl ?_
  refine wp_aload_n (q := 14) dX12_fail_13 0 rfl rfl ?_
  refine wp_iload_n (q := 15) dX12_fail_14 2 rfl rfl ?_
  refine wp_putI (q := 18) dX12_fail_15 zf_RX12_239 rfl zsh_177 rfl ?_
  exact wp_return dX12_fail_18 rfl ⟨rfl, rfl, rfl, rfl, rfl⟩ rfl rfl
set_option maxHeartbeats 4000000 in
set_option maxRecDepth 100000 in
theorem sp_mfailB {d t bd kd : Nat} {y : Int32} {M : zMI} {L : zML} (h : M 177 5 = nI bd) (h0 : bd ≠ 0) (h9 : bd < 10) : Sx yX12_fail YX12_fail (d) [.ref 177, .int (nI kd), .int y] M L (zRf t) (none) M L (zRf t) := by
  refine Sp.of (by decide +kernel) rfl (fun h => by first | exact h | cases h) (Nat.le_of_ble_eq_true rfl) ?_
  intro w G
  refine wp_aload_n (q := 1) dX12_fail_0 0 rfl rfl ?_
  refine wp_getI (q := 4) dX12_fail_1 zf_RX12_236 rfl zsh_177 rfl ?_
  rw [h]
  refine wp_if_eqN (tgt := 8) (q := 7) dX12_fail_4 (by decide) rfl (by omega) (fun hn => absurd hn (by first | omega | exact fun h => h | exact fun h => h trivial)) (fun _ => ?_)
  exact wp_return dX12_fail_7 rfl ⟨rfl, rfl, rfl, rfl, rfl⟩ rfl rfl
set_option maxHeartbeats 4000000 in
set_option maxRecDepth 100000 in
theorem sp_misLetter {d : Nat} {x : Int32} {M : zMI} {L : zML} {R : zMR} {o : Bool} (ho : (nI 97 ≤ x ∧ x ≤ nI 122) ↔ o = true) : Sx yX12_isLetter YX12_isLetter (d) [.int x] M L R (some (.int (nI (zb01 o)))) M L R := by
  refine Sp.of (by decide +kernel) rfl (fun h => by first | exact h | cases h) (Nat.le_of_ble_eq_true rfl) ?_
  intro w G
  have fin : o = false → WP w YX12_isLetter (d, SS, 0, 0) G (some (zX (some (.int (nI (zb01 o)))) M L R)) 16 [(0, .int x)] [] SS M L R := by
    intro e
    rw [e, zb01_f]
    refine wp_iconst (q := 17) dX12_isLetter_16 zq_iconst_0 rfl ?_
    exact wp_zreturn dX12_isLetter_17 rfl (by first | with_reducible exact znar_0 | with_reducible exact znar_1 | assumption) ⟨rfl, rfl, rfl, rfl, rfl⟩ rfl rfl
  refine wp_iload_n (q := 1) dX12_isLetter_0 0 rfl rfl ?_
  refine wp_bipush (q := 3) dX12_isLetter_1 zq_bipush_97 rfl ?_
  refine wp_icmp_lt (tgt := 16) (q := 6) dX12_isLetter_3 (by decide) rfl (fun c1 => ?_) (fun c1 => ?_)
  · skip
    refine WP.sub (loc' := [(0, _)]) [0] rfl ?_
    refine fin ?_
    cases o with
    | false => rfl
    | true => exact absurd (ho.mpr rfl).1 (Int32.not_le.mpr c1)
  · skip
    refine wp_iload_n (q := 7) dX12_isLetter_6 0 rfl rfl ?_
    refine wp_bipush (q := 9) dX12_isLetter_7 zq_bipush_122 rfl ?_
    refine wp_icmp_gt (tgt := 16) (q := 12) dX12_isLetter_9 (by decide) rfl (fun c2 => ?_) (fun c2 => ?_)
    · skip
      refine WP.sub (loc' := [(0, _)]) [0] rfl ?_
      refine fin ?_
      cases o with
      | false => rfl
      | true => exact absurd (ho.mpr rfl).2 (Int32.not_le.mpr c2)
    · skip
      rw [ho.mp ⟨Int32.not_lt.mp c1, Int32.not_lt.mp c2⟩, zb01_t]
      refine wp_iconst (q := 13) dX12_isLetter_12 zq_iconst_1 rfl ?_
      refine wp_goto (tgt := 17) dX12_isLetter_13 (by decide) ?_
      exact wp_zreturn dX12_isLetter_17 rfl (by first | with_reducible exact znar_0 | with_reducible exact znar_1 | assumption) ⟨rfl, rfl, rfl, rfl, rfl⟩ rfl rfl
set_option maxHeartbeats 4000000 in
set_option maxRecDepth 100000 in
theorem sp_misDigit {d : Nat} {x : Int32} {M : zMI} {L : zML} {R : zMR} {o : Bool} (ho : (nI 48 ≤ x ∧ x ≤ nI 57) ↔ o = true) : Sx yX12_isDigit YX12_isDigit (d) [.int x] M L R (some (.int (nI (zb01 o)))) M L R := by
  refine Sp.of (by decide +kernel) rfl (fun h => by first | exact h | cases h) (Nat.le_of_ble_eq_true rfl) ?_
  intro w G
  have fin : o = false → WP w YX12_isDigit (d, SS, 0, 0) G (some (zX (some (.int (nI (zb01 o)))) M L R)) 16 [(0, .int x)] [] SS M L R := by
    intro e
    rw [e, zb01_f]
    refine wp_iconst (q := 17) dX12_isDigit_16 zq_iconst_0 rfl ?_
    exact wp_zreturn dX12_isDigit_17 rfl (by first | with_reducible exact znar_0 | with_reducible exact znar_1 | assumption) ⟨rfl, rfl, rfl, rfl, rfl⟩ rfl rfl
  refine wp_iload_n (q := 1) dX12_isDigit_0 0 rfl rfl ?_
  refine wp_bipush (q := 3) dX12_isDigit_1 zq_bipush_48 rfl ?_
  refine wp_icmp_lt (tgt := 16) (q := 6) dX12_isDigit_3 (by decide) rfl (fun c1 => ?_) (fun c1 => ?_)
  · skip
    refine WP.sub (loc' := [(0, _)]) [0] rfl ?_
    refine fin ?_
    cases o with
    | false => rfl
    | true => exact absurd (ho.mpr rfl).1 (Int32.not_le.mpr c1)
  · skip
    refine wp_iload_n (q := 7) dX12_isDigit_6 0 rfl rfl ?_
    refine wp_bipush (q := 9) dX12_isDigit_7 zq_bipush_57 rfl ?_
    refine wp_icmp_gt (tgt := 16) (q := 12) dX12_isDigit_9 (by decide) rfl (fun c2 => ?_) (fun c2 => ?_)
    · skip
      refine WP.sub (loc' := [(0, _)]) [0] rfl ?_
      refine fin ?_
      cases o with
      | false => rfl
      | true => exact absurd (ho.mpr rfl).2 (Int32.not_le.mpr c2)
    · skip
      rw [ho.mp ⟨Int32.not_lt.mp c1, Int32.not_lt.mp c2⟩, zb01_t]
      refine wp_iconst (q := 13) dX12_isDigit_12 zq_iconst_1 rfl ?_
      refine wp_goto (tgt := 17) dX12_isDigit_13 (by decide) ?_
      exact wp_zreturn dX12_isDigit_17 rfl (by first | with_reducible exact znar_0 | with_reducible exact znar_1 | assumption) ⟨rfl, rfl, rfl, rfl, rfl⟩ rfl rfl
def zTa (M : zMI) (b : Nat → Nat) (len : Nat) : Prop := M 177 3 = nI len ∧ len ≤ 1600 ∧ ∀ i, i < len → M 178 i = nI (b i) ∧ b i < 256
theorem zTa_fr {M M' : zMI} {b : Nat → Nat} {len : Nat} (h : zTa M b len) (e1 : M' 177 3 = M 177 3) (e2 : M' 178 = M 178) : zTa M' b len := by
  unfold zTa at *
  rw [e1, e2]
  exact h
def zlkv (b : Nat → Nat) (len s : Nat) : Int32 := if s < len then nI (b s) else -1
set_option maxHeartbeats 4000000 in
set_option maxRecDepth 100000 in
theorem sp_mlook {d t a s len : Nat} {M : zMI} {L : zML} {b : Nat → Nat} (h : zTa M b len) (ha : M 177 2 = nI a) (has : a ≤ s) (hsl : s ≤ len) (hgap : ∀ k, a ≤ k → k < s → zcl (b k) = 0) (hend : s < len → zcl (b s) ≠ 0) : Sy yX12_look YX12_look (d) [.ref 177] M L (zRf t) (fun v0 M' L' R' => v0 = some (.int (zlkv b len s)) ∧ L = L' ∧ R' = zRf t ∧ M' 177 2 = nI s ∧ (∀ k, k ≠ 2 → M' 177 k = M 177 k) ∧ ∀ x, x ≠ 177 → M' x = M x) := by
  refine Sp.of (by decide +kernel) rfl (fun h => by first | exact h | cases h) (Nat.le_of_ble_eq_true rfl) ?_
  intro w G
  obtain ⟨hlen, hl, hb⟩ := h
  have fin : ∀ (M2 : zMI), M2 177 2 = nI s → (∀ k, k ≠ 2 → M2 177 k = M 177 k) → (∀ x, x ≠ 177 → M2 x = M x) → WP w YX12_look (d, SS, 0, 0) G (some (zXp (fun v0 M' L' R' => v0 = some (.int (zlkv b len s)) ∧ L = L' ∧ R' = zRf t ∧ M' 177 2 = nI s ∧ (∀ k, k ≠ 2 → M' 177 k = M 177 k) ∧ ∀ x, x ≠ 177 → M' x = M x))) 52 [(0, .ref 177)] [] SS M2 L (zRf t) := by
    intro M2 g1 g2 g3
    refine wp_aload_n (q := 53) dX12_look_52 0 rfl rfl ?_
    refine wp_getI (q := 56) dX12_look_53 zf_RX12_242 rfl zsh_177 rfl ?_
    rw [g1]
    refine wp_aload_n (q := 57) dX12_look_56 0 rfl rfl ?_
    refine wp_getI (q := 60) dX12_look_57 zf_RX12_245 rfl zsh_177 rfl ?_
    rw [g2 3 (by decide), hlen]
    refine wp_icmp_geN (tgt := 75) (q := 63) dX12_look_60 (by decide) rfl (by omega) (by omega) (fun c => ?_) (fun c => ?_)
    · skip
      refine wp_iconst (q := 76) dX12_look_75 zq_iconst_m1 rfl ?_
      refine wp_ireturn dX12_look_76 rfl ⟨rfl, ⟨?_, rfl, rfl, g1, g2, g3⟩⟩ rfl rfl
      unfold zlkv
      rw [if_neg (by omega)]
    · skip
      refine wp_aload_n (q := 64) dX12_look_63 0 rfl rfl ?_
      refine wp_getR (q := 67) dX12_look_64 zf_RX12_7 rfl zsh_177 (zr_177_0 _) rfl ?_
      refine wp_aload_n (q := 68) dX12_look_67 0 rfl rfl ?_
      refine wp_getI (q := 71) dX12_look_68 zf_RX12_242 rfl zsh_177 rfl ?_
      rw [g1]
      have hbs := hb s c
      refine wp_iald (q := 72) _ dX12_look_71 zsh_178 rfl (by omega) (by decide) rfl ?_
      rw [g3 178 (by decide), hbs.1]
      refine wp_goto (tgt := 76) dX12_look_72 (by decide) ?_
      refine wp_ireturn dX12_look_76 rfl ⟨rfl, ⟨?_, rfl, rfl, g1, g2, g3⟩⟩ rfl rfl
      unfold zlkv
      rw [if_pos c]
  have loop : ∀ q i (M2 : zMI), i + q = s → a ≤ i → M2 177 2 = nI i → (∀ k, k ≠ 2 → M2 177 k = M 177 k) → (∀ x, x ≠ 177 → M2 x = M x) → WP w YX12_look (d, SS, 0, 0) G (some (zXp (fun v0 M' L' R' => v0 = some (.int (zlkv b len s)) ∧ L = L' ∧ R' = zRf t ∧ M' 177 2 = nI s ∧ (∀ k, k ≠ 2 → M' 177 k = M 177 k) ∧ ∀ x, x ≠ 177 → M' x = M x))) 0 [(0, .ref 177)] [] SS M2 L (zRf t) := by
    intro q
    induction q with
    | zero =>
      intro i M2 hi hai g1 g2 g3
      rw [show i = s by omega] at g1
      refine wp_aload_n (q := 1) dX12_look_0 0 rfl rfl ?_
      refine wp_getI (q := 4) dX12_look_1 zf_RX12_242 rfl zsh_177 rfl ?_
      rw [g1]
      refine wp_aload_n (q := 5) dX12_look_4 0 rfl rfl ?_
      refine wp_getI (q := 8) dX12_look_5 zf_RX12_245 rfl zsh_177 rfl ?_
      rw [g2 3 (by decide), hlen]
      refine wp_icmp_geN (tgt := 52) (q := 11) dX12_look_8 (by decide) rfl (by omega) (by omega) (fun c => ?_) (fun c => ?_)
      · skip
        refine WP.sub (loc' := [(0, _)]) [0] rfl ?_
        exact fin M2 g1 g2 g3
      · skip
        have hbs := hb s c
        have hne := hend c
        have hne2 : ¬ (b s = 10 ∨ b s = 32) := fun e => hne (zcl_0.mpr e)
        refine wp_aload_n (q := 12) dX12_look_11 0 rfl rfl ?_
        refine wp_getR (q := 15) dX12_look_12 zf_RX12_7 rfl zsh_177 (zr_177_0 _) rfl ?_
        refine wp_aload_n (q := 16) dX12_look_15 0 rfl rfl ?_
        refine wp_getI (q := 19) dX12_look_16 zf_RX12_242 rfl zsh_177 rfl ?_
        rw [g1]
        refine wp_iald (q := 20) _ dX12_look_19 zsh_178 rfl (by omega) (by decide) rfl ?_
        rw [g3 178 (by decide), hbs.1]
        refine wp_bipush (q := 22) dX12_look_20 zq_bipush_10 rfl ?_
        refine wp_icmp_eqN (tgt := 39) (q := 25) dX12_look_22 (by decide) rfl (by omega) (by omega) (fun hn => absurd hn (by first | omega | exact fun h => h | exact fun h => h trivial)) (fun _ => ?_)
        refine wp_aload_n (q := 26) dX12_look_25 0 rfl rfl ?_
        refine wp_getR (q := 29) dX12_look_26 zf_RX12_7 rfl zsh_177 (zr_177_0 _) rfl ?_
        refine wp_aload_n (q := 30) dX12_look_29 0 rfl rfl ?_
        refine wp_getI (q := 33) dX12_look_30 zf_RX12_242 rfl zsh_177 rfl ?_
        rw [g1]
        refine wp_iald (q := 34) _ dX12_look_33 zsh_178 rfl (by omega) (by decide) rfl ?_
        rw [g3 178 (by decide), hbs.1]
        refine wp_bipush (q := 36) dX12_look_34 zq_bipush_32 rfl ?_
        refine wp_icmp_neN (tgt := 52) (q := 39) dX12_look_36 (by decide) rfl (by omega) (by omega) (fun _ => ?_) (fun hn => absurd hn (by first | omega | exact fun h => h | exact fun h => h trivial))
        refine WP.sub (loc' := [(0, _)]) [0] rfl ?_
        exact fin M2 g1 g2 g3
    | succ q ih =>
      intro i M2 hi hai g1 g2 g3
      have hbs := hb i (by omega)
      have hz := zcl_0.mp (hgap i hai (by omega))
      have nxt : WP w YX12_look (d, SS, 0, 0) G (some (zXp (fun v0 M' L' R' => v0 = some (.int (zlkv b len s)) ∧ L = L' ∧ R' = zRf t ∧ M' 177 2 = nI s ∧ (∀ k, k ≠ 2 → M' 177 k = M 177 k) ∧ ∀ x, x ≠ 177 → M' x = M x))) 39 [(0, .ref 177)] [] SS M2 L (zRf t) := by
        refine wp_aload_n (q := 40) dX12_look_39 0 rfl rfl ?_
        refine wp_dup (q := 41) dX12_look_40 rfl rfl ?_
        refine wp_getI (q := 44) dX12_look_41 zf_RX12_242 rfl zsh_177 rfl ?_
        rw [g1]
        refine wp_iconst (q := 45) dX12_look_44 zq_iconst_1 rfl ?_
        refine wp_iaddN (q := 46) dX12_look_45 rfl ?_
        refine wp_putI (q := 49) dX12_look_46 zf_RX12_242 rfl zsh_177 rfl ?_
        refine wp_goto (tgt := 0) dX12_look_49 (by decide) ?_
        refine WP.sub (loc' := [(0, _)]) [0] rfl ?_
        exact ih (i + 1) _ (by omega) (by omega) zu_s (fun k hk => by rw [zu_k hk]; exact g2 k hk) (fun x hx => by rw [zu_ne hx]; exact g3 x hx)
      refine wp_aload_n (q := 1) dX12_look_0 0 rfl rfl ?_
      refine wp_getI (q := 4) dX12_look_1 zf_RX12_242 rfl zsh_177 rfl ?_
      rw [g1]
      refine wp_aload_n (q := 5) dX12_look_4 0 rfl rfl ?_
      refine wp_getI (q := 8) dX12_look_5 zf_RX12_245 rfl zsh_177 rfl ?_
      rw [g2 3 (by decide), hlen]
      refine wp_icmp_geN (tgt := 52) (q := 11) dX12_look_8 (by decide) rfl (by omega) (by omega) (fun hn => absurd hn (by first | omega | exact fun h => h | exact fun h => h trivial)) (fun _ => ?_)
      refine wp_aload_n (q := 12) dX12_look_11 0 rfl rfl ?_
      refine wp_getR (q := 15) dX12_look_12 zf_RX12_7 rfl zsh_177 (zr_177_0 _) rfl ?_
      refine wp_aload_n (q := 16) dX12_look_15 0 rfl rfl ?_
      refine wp_getI (q := 19) dX12_look_16 zf_RX12_242 rfl zsh_177 rfl ?_
      rw [g1]
      refine wp_iald (q := 20) _ dX12_look_19 zsh_178 rfl (by omega) (by decide) rfl ?_
      rw [g3 178 (by decide), hbs.1]
      refine wp_bipush (q := 22) dX12_look_20 zq_bipush_10 rfl ?_
      refine wp_icmp_eqN (tgt := 39) (q := 25) dX12_look_22 (by decide) rfl (by omega) (by omega) (fun c10 => ?_) (fun c10 => ?_)
      · skip
        refine WP.sub (loc' := [(0, _)]) [0] rfl ?_
        exact nxt
      · skip
        refine wp_aload_n (q := 26) dX12_look_25 0 rfl rfl ?_
        refine wp_getR (q := 29) dX12_look_26 zf_RX12_7 rfl zsh_177 (zr_177_0 _) rfl ?_
        refine wp_aload_n (q := 30) dX12_look_29 0 rfl rfl ?_
        refine wp_getI (q := 33) dX12_look_30 zf_RX12_242 rfl zsh_177 rfl ?_
        rw [g1]
        refine wp_iald (q := 34) _ dX12_look_33 zsh_178 rfl (by omega) (by decide) rfl ?_
        rw [g3 178 (by decide), hbs.1]
        refine wp_bipush (q := 36) dX12_look_34 zq_bipush_32 rfl ?_
        refine wp_icmp_neN (tgt := 52) (q := 39) dX12_look_36 (by decide) rfl (by omega) (by omega) (fun hn => absurd hn (by first | omega | exact fun h => h | exact fun h => h trivial)) (fun _ => ?_)
        refine WP.sub (loc' := [(0, _)]) [0] rfl ?_
        exact nxt
  refine WP.sub (loc' := [(0, _)]) [0] rfl ?_
  exact loop (s - a) a M (by omega) (Nat.le_refl _) ha (fun k _ => rfl) (fun x _ => rfl)

