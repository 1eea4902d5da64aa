theorem zNw_u {M M' : zMI} {n k x : Nat} {v : Nat → Nat} (h : zNw M n v) (hv : zV n (vup v k x)) (e : M' 215 = zu M 215 k (nI x) 215) : zNw M' n (vup v k x) := by
  refine ⟨hv, fun j hj => ?_⟩
  rw [e]
  by_cases c : j = k
  · rw [c, zu_s, vup_eq]
  · rw [zu_k c, vup_ne c]
    exact h.2 j hj
set_option maxHeartbeats 4000000 in
set_option maxRecDepth 100000 in
theorem sp_mhasHats {d t n s k : Nat} {M : zMI} {L : zML} {v : Nat → Nat} (h : zNw M n v) (hs0 : s < n) (hk : k < 1000) : Sy yX12_hasHats YX12_hasHats (d) [.ref 177, .int (nI s), .int (nI k)] M L (zRf t) (fun v0 M' L' R' => v0 = none ∧ L = L' ∧ R' = zRf t ∧ zNw M' n (vup v (4 + 6 * s) (min 99 k)) ∧ ∀ x, x ≠ 215 → M' x = M x) := by
  refine Sp.of (by decide +kernel) rfl (fun h => by first | exact h | cases h) (Nat.le_of_ble_eq_true rfl) ?_
  intro w G
  have h8 := h.1.1
  refine wp_aload_n (q := 1) dX12_hasHats_0 0 rfl rfl ?_
  refine wp_getR (q := 4) dX12_hasHats_1 zf_RX12_127 rfl zsh_177 (zr_177_52 _) rfl ?_
  refine wp_iconst (q := 5) dX12_hasHats_4 zq_iconst_3 rfl ?_
  refine wp_bipush (q := 7) dX12_hasHats_5 zq_bipush_6 rfl ?_
  refine wp_iload_n (q := 8) dX12_hasHats_7 1 rfl rfl ?_
  refine wp_imulN (q := 9) dX12_hasHats_8 rfl ?_
  refine wp_iaddN (q := 10) dX12_hasHats_9 rfl ?_
  refine wp_iconst (q := 11) dX12_hasHats_10 zq_iconst_1 rfl ?_
  refine wp_iaddN (q := 12) dX12_hasHats_11 rfl ?_
  refine wp_iload_n (q := 13) dX12_hasHats_12 2 rfl rfl ?_
  refine wp_bipush (q := 15) dX12_hasHats_13 zq_bipush_99 rfl ?_
  refine wp_icmp_leN (tgt := 23) (q := 18) dX12_hasHats_15 (by decide) rfl (by omega) (by omega) (fun c => ?_) (fun c => ?_)
  · skip
    refine wp_iload_n (q := 24) dX12_hasHats_23 2 rfl rfl ?_
    refine wp_iast (q := 25) _ dX12_hasHats_24 zsh_215 rfl (by omega) (by decide) rfl ?_
    exact wp_return dX12_hasHats_25 rfl ⟨rfl, ⟨rfl, rfl, rfl, zNw_u h (zV_ht h.1 hs0 (by omega)) (by rw [show min 99 k = k by omega, show 4 + 6 * s = 3 + 6 * s + 1 by omega]), fun x hx => zu_ne hx⟩⟩ rfl rfl
  · skip
    refine wp_bipush (q := 20) dX12_hasHats_18 zq_bipush_99 rfl ?_
    refine wp_goto (tgt := 24) dX12_hasHats_20 (by decide) ?_
    refine wp_iast (q := 25) _ dX12_hasHats_24 zsh_215 rfl (by omega) (by decide) rfl ?_
    exact wp_return dX12_hasHats_25 rfl ⟨rfl, ⟨rfl, rfl, rfl, zNw_u h (zV_ht h.1 hs0 (by omega)) (by rw [show min 99 k = 99 by omega, show 4 + 6 * s = 3 + 6 * s + 1 by omega]), fun x hx => zu_ne hx⟩⟩ rfl rfl
def zpp (n : Nat) (v : Nat → Nat) (i : Nat) : Nat → Nat := fun j => if 4 ≤ j ∧ (j - 4) % 6 = 0 ∧ (j - 4) / 6 < i then min 99 (v j - (if zg v ((j - 4) / 6) then 1 else 0) + (if zg v (((j - 4) / 6 + n - 1) % n) then 1 else 0)) else v j
theorem zpp_n {n : Nat} {v : Nat → Nat} : zpp n v n = zpass n v := rfl
theorem zpp_0 {n : Nat} {v : Nat → Nat} : zpp n v 0 = v := by
  funext j
  unfold zpp
  rw [if_neg (by omega)]
theorem zpp_s {n i : Nat} {v : Nat → Nat} : zpp n v (i + 1) = vup (zpp n v i) (4 + 6 * i) (min 99 (ht v i - (if zg v i then 1 else 0) + (if zg v ((i + n - 1) % n) then 1 else 0))) := by
  funext j
  by_cases c : j = 4 + 6 * i
  · rw [c, vup_eq]
    unfold zpp
    rw [if_pos (by omega), show (4 + 6 * i - 4) / 6 = i by omega]
  · rw [vup_ne c]
    unfold zpp
    by_cases c2 : 4 ≤ j ∧ (j - 4) % 6 = 0 ∧ (j - 4) / 6 < i
    · rw [if_pos c2, if_pos (by omega)]
    · rw [if_neg c2, if_neg (by omega)]
theorem zg_n {v : Nat → Nat} {s : Nat} : (ht v s ≤ 1 → zg v s = false) ∧ (1 < ht v s → zg v s = true) := ⟨fun h => decide_eq_false (by omega), fun h => decide_eq_true (by omega)⟩
set_option maxHeartbeats 4000000 in
set_option maxRecDepth 100000 in
theorem sp_mpasses {d t n : Nat} {M : zMI} {L : zML} {v : Nat → Nat} (hn : M 204 2 = nI n) (h : zNw M n v) : Sy yX12_passes YX12_passes (d + 2) [.ref 177] M L (zRf t) (fun v0 M' L' R' => v0 = some (.int (nI (nC (zg v) n))) ∧ L = L' ∧ R' = zRf t ∧ zNw M' n (zpass n v) ∧ ∀ x, x ≠ 215 → x ≠ 225 → M' x = M x) := by
  refine Sp.of (by decide +kernel) rfl (fun h => by first | exact h | cases h) (Nat.le_of_ble_eq_true rfl) ?_
  intro w G
  have h8 := h.1.1
  have h99 := h.1.2.2.2.1
  have loop2 : ∀ q s (M2 : zMI), s + q = n → (∀ i, i < n → M2 225 i = nI (ht v i)) → zNw M2 n (zpp n v s) → (∀ x, x ≠ 215 → x ≠ 225 → M2 x = M x) → WP w YX12_passes (d + 2, SS, 0, 0) G (some (zXp (fun v0 M' L' R' => v0 = some (.int (nI (nC (zg v) n))) ∧ L = L' ∧ R' = zRf t ∧ zNw M' n (zpass n v) ∧ ∀ x, x ≠ 215 → x ≠ 225 → M' x = M x))) 33 [(3, .int (nI s)), (2, .int (nI (nC (zg v) s))), (1, .int (nI n)), (0, .ref 177)] [] SS M2 L (zRf t) := by
    intro q
    induction q with
    | zero =>
      intro s M2 hq h1 h2 h3
      rw [show s = n by omega] at h2 ⊢
      rw [zpp_n] at h2
      refine wp_iload_n (q := 34) dX12_passes_33 0 rfl rfl ?_
      refine wp_iload_n (q := 35) dX12_passes_34 2 rfl rfl ?_
      refine wp_icmp_geN (tgt := 104) (q := 38) dX12_passes_35 (by decide) rfl (by omega) (by omega) (fun _ => ?_) (fun hn => absurd hn (by first | omega | exact fun h => h | exact fun h => h trivial))
      refine wp_iload_n (q := 105) dX12_passes_104 1 rfl rfl ?_
      exact wp_ireturn dX12_passes_105 rfl ⟨rfl, ⟨rfl, rfl, rfl, h2, h3⟩⟩ rfl rfl
    | succ q ih =>
      intro s M2 hq h1 h2 h3
      have hs : s < n := by omega
      have hb : (s + n - 1) % n < n := Nat.mod_lt _ (by omega)
      have hs9 := h99 s hs
      have hb9 := h99 _ hb
      have hle : nC (zg v) s ≤ s := nC_le
      have hn2 : M2 204 2 = nI n := by rw [h3 204 (by decide) (by decide)]; exact hn
      have e1 := h1 s hs
      have e2 := h1 _ hb
      have ihn := fun M3 => ih (s + 1) M3 (by omega) 
      rw [nC, zpp_s] at ihn
      obtain ⟨a, ha⟩ : ∃ a, (if zg v s then 1 else 0) = a := ⟨_, rfl⟩
      obtain ⟨b, hb0⟩ : ∃ b, (if zg v ((s + n - 1) % n) then 1 else 0) = b := ⟨_, rfl⟩
      obtain ⟨c0, hc0⟩ : ∃ c0, nC (zg v) s = c0 := ⟨_, rfl⟩
      have ha1 : ht v s ≤ 1 → a = 0 := fun c => by rw [← ha, zg_n.1 c]; rfl
      have ha2 : 1 < ht v s → a = 1 := fun c => by rw [← ha, zg_n.2 c]; rfl
      have hb1 : ht v ((s + n - 1) % n) ≤ 1 → b = 0 := fun c => by rw [← hb0, zg_n.1 c]; rfl
      have hb2 : 1 < ht v ((s + n - 1) % n) → b = 1 := fun c => by rw [← hb0, zg_n.2 c]; rfl
      rw [ha, hb0] at ihn
      rw [hc0] at ihn hle ⊢
      -- the store and what follows
      have fin : ∀ y, y = b → WP w YX12_passes (d + 2, SS, 0, 0) G (some (zXp (fun v0 M' L' R' => v0 = some (.int (nI (nC (zg v) n))) ∧ L = L' ∧ R' = zRf t ∧ zNw M' n (zpass n v) ∧ ∀ x, x ≠ 215 → x ≠ 225 → M' x = M x))) 94 [(3, .int (nI s)), (2, .int (nI (c0 + a))), (1, .int (nI n)), (0, .ref 177)] [.int (nI y), .int (nI (ht v s - a)), .int (nI s), .ref 177] SS M2 L (zRf t) := by
        intro y hy
        rw [hy]
        have hb01 : b ≤ 1 := by
          by_cases c : ht v ((s + n - 1) % n) ≤ 1
          · rw [hb1 c]; omega
          · rw [hb2 (by omega)]; omega
        refine wp_iaddN (q := 95) dX12_passes_94 rfl ?_
        refine wp_cvy (q := 98) (sp_mhasHats (d := 0) h2 hs (by omega : ht v s - a + b < 1000)) zm_X12_hasHats zl_RX12_561 dX12_passes_95 rfl (by omega) (Nat.le_of_ble_eq_true rfl) (by first | assumption | rfl) rfl rfl ?_
        rintro _ M3 L3 _ ⟨rfl, rfl, rfl, n3, e3⟩
        refine wp_iincN (q := 101) (loc' := [(3, _), (2, _), (1, _), (0, _)]) (n := 1) dX12_passes_98 rfl 0 rfl (by decide) rfl rfl ?_
        refine wp_goto (tgt := 33) dX12_passes_101 (by decide) ?_
        refine WP.sub (loc' := [(3, _), (2, _), (1, _), (0, _)]) [0, 1, 2, 3] rfl ?_
        exact ihn M3 (fun i hi => by rw [e3 225 (by decide)]; exact h1 i hi) n3 (fun x x1 x2 => by rw [e3 x x1]; exact h3 x x1 x2)
      have mid : ∀ y, y = a → WP w YX12_passes (d + 2, SS, 0, 0) G (some (zXp (fun v0 M' L' R' => v0 = some (.int (nI (nC (zg v) n))) ∧ L = L' ∧ R' = zRf t ∧ zNw M' n (zpass n v) ∧ ∀ x, x ≠ 215 → x ≠ 225 → M' x = M x))) 74 [(3, .int (nI s)), (2, .int (nI (c0 + a))), (1, .int (nI n)), (0, .ref 177)] [.int (nI y), .int (nI (ht v s)), .int (nI s), .ref 177] SS M2 L (zRf t) := by
        intro y hy
        rw [hy]
        have ha01 : a ≤ ht v s := by
          by_cases c : ht v s ≤ 1
          · rw [ha1 c]; omega
          · rw [ha2 (by omega)]; omega
        refine wp_isubN (q := 75) dX12_passes_74 (by omega) rfl ?_
        refine wp_aload_n (q := 76) dX12_passes_75 3 rfl rfl ?_
        refine wp_getR (q := 79) dX12_passes_76 zf_RX12_157 rfl zsh_177 (zr_177_64 _) rfl ?_
        refine wp_aload_n (q := 80) dX12_passes_79 3 rfl rfl ?_
        refine wp_iload_n (q := 81) dX12_passes_80 0 rfl rfl ?_
        refine wp_cvx (q := 84) (sp_mbehind (d := 0) hn2 h8 hs) zm_X12_behind zl_RX12_453 dX12_passes_81 rfl (by omega) (Nat.le_of_ble_eq_true rfl) zsh_177 rfl rfl ?_
        refine wp_iald (q := 85) _ dX12_passes_84 zsh_225 rfl (by omega) (by decide) rfl ?_
        rw [e2]
        refine wp_iconst (q := 86) dX12_passes_85 zq_iconst_1 rfl ?_
        refine wp_icmp_leN (tgt := 93) (q := 89) dX12_passes_86 (by decide) rfl (by omega) (by omega) (fun c => ?_) (fun c => ?_)
        · skip
          refine wp_iconst (q := 94) dX12_passes_93 zq_iconst_0 rfl ?_
          refine WP.sub (loc' := [(3, _), (2, _), (1, _), (0, _)]) [0, 1, 2, 3] rfl ?_
          exact fin 0 (hb1 c).symm
        · skip
          refine wp_iconst (q := 90) dX12_passes_89 zq_iconst_1 rfl ?_
          refine wp_goto (tgt := 94) dX12_passes_90 (by decide) ?_
          refine WP.sub (loc' := [(3, _), (2, _), (1, _), (0, _)]) [0, 1, 2, 3] rfl ?_
          exact fin 1 (hb2 (by omega)).symm
      refine wp_iload_n (q := 34) dX12_passes_33 0 rfl rfl ?_
      refine wp_iload_n (q := 35) dX12_passes_34 2 rfl rfl ?_
      refine wp_icmp_geN (tgt := 104) (q := 38) dX12_passes_35 (by decide) rfl (by omega) (by omega) (fun hn => absurd hn (by first | omega | exact fun h => h | exact fun h => h trivial)) (fun _ => ?_)
      refine wp_aload_n (q := 39) dX12_passes_38 3 rfl rfl ?_
      refine wp_getR (q := 42) dX12_passes_39 zf_RX12_157 rfl zsh_177 (zr_177_64 _) rfl ?_
      refine wp_iload_n (q := 43) dX12_passes_42 0 rfl rfl ?_
      refine wp_iald (q := 44) _ dX12_passes_43 zsh_225 rfl (by omega) (by decide) rfl ?_
      rw [e1]
      refine wp_iconst (q := 45) dX12_passes_44 zq_iconst_1 rfl ?_
      refine wp_icmp_leN (tgt := 51) (q := 48) dX12_passes_45 (by decide) rfl (by omega) (by omega) (fun c => ?_) (fun c => ?_)
      · skip
        refine wp_aload_n (q := 52) dX12_passes_51 3 rfl rfl ?_
        refine wp_iload_n (q := 53) dX12_passes_52 0 rfl rfl ?_
        refine wp_aload_n (q := 54) dX12_passes_53 3 rfl rfl ?_
        refine wp_getR (q := 57) dX12_passes_54 zf_RX12_157 rfl zsh_177 (zr_177_64 _) rfl ?_
        refine wp_iload_n (q := 58) dX12_passes_57 0 rfl rfl ?_
        refine wp_iald (q := 59) _ dX12_passes_58 zsh_225 rfl (by omega) (by decide) rfl ?_
        rw [e1]
        refine wp_aload_n (q := 60) dX12_passes_59 3 rfl rfl ?_
        refine wp_getR (q := 63) dX12_passes_60 zf_RX12_157 rfl zsh_177 (zr_177_64 _) rfl ?_
        refine wp_iload_n (q := 64) dX12_passes_63 0 rfl rfl ?_
        refine wp_iald (q := 65) _ dX12_passes_64 zsh_225 rfl (by omega) (by decide) rfl ?_
        rw [e1]
        refine wp_iconst (q := 66) dX12_passes_65 zq_iconst_1 rfl ?_
        refine wp_icmp_leN (tgt := 73) (q := 69) dX12_passes_66 (by decide) rfl (by omega) (by omega) (fun _ => ?_) (fun hn => absurd hn (by first | omega | exact fun h => h | exact fun h => h trivial))
        refine wp_iconst (q := 74) dX12_passes_73 zq_iconst_0 rfl ?_
        have ha0 := ha1 c
        have := mid 0 ha0.symm
        rw [ha0, Nat.add_zero] at this
        refine WP.sub (loc' := [(3, _), (2, _), (1, _), (0, _)]) [0, 1, 2, 3] rfl ?_
        exact this
      · skip
        refine wp_iincN (q := 51) (loc' := [(2, _), (3, _), (1, _), (0, _)]) (n := 1) dX12_passes_48 rfl 1 rfl (by decide) rfl rfl ?_
        refine wp_aload_n (q := 52) dX12_passes_51 3 rfl rfl ?_
        refine wp_iload_n (q := 53) dX12_passes_52 1 rfl rfl ?_
        refine wp_aload_n (q := 54) dX12_passes_53 3 rfl rfl ?_
        refine wp_getR (q := 57) dX12_passes_54 zf_RX12_157 rfl zsh_177 (zr_177_64 _) rfl ?_
        refine wp_iload_n (q := 58) dX12_passes_57 1 rfl rfl ?_
        refine wp_iald (q := 59) _ dX12_passes_58 zsh_225 rfl (by omega) (by decide) rfl ?_
        rw [e1]
        refine wp_aload_n (q := 60) dX12_passes_59 3 rfl rfl ?_
        refine wp_getR (q := 63) dX12_passes_60 zf_RX12_157 rfl zsh_177 (zr_177_64 _) rfl ?_
        refine wp_iload_n (q := 64) dX12_passes_63 1 rfl rfl ?_
        refine wp_iald (q := 65) _ dX12_passes_64 zsh_225 rfl (by omega) (by decide) rfl ?_
        rw [e1]
        refine wp_iconst (q := 66) dX12_passes_65 zq_iconst_1 rfl ?_
        refine wp_icmp_leN (tgt := 73) (q := 69) dX12_passes_66 (by decide) rfl (by omega) (by omega) (fun hn => absurd hn (by first | omega | exact fun h => h | exact fun h => h trivial)) (fun _ => ?_)
        refine wp_iconst (q := 70) dX12_passes_69 zq_iconst_1 rfl ?_
        refine wp_goto (tgt := 74) dX12_passes_70 (by decide) ?_
        have ha0 := ha2 (by omega)
        have := mid 1 ha0.symm
        rw [ha0] at this
        refine WP.sub (loc' := [(3, _), (2, _), (1, _), (0, _)]) [1, 0, 2, 3] rfl ?_
        exact this
  have loop : ∀ q s (M2 : zMI), s + q = n → (∀ i, i < s → M2 225 i = nI (ht v i)) → (∀ x, x ≠ 225 → M2 x = M x) → WP w YX12_passes (d + 2, SS, 0, 0) G (some (zXp (fun v0 M' L' R' => v0 = some (.int (nI (nC (zg v) n))) ∧ L = L' ∧ R' = zRf t ∧ zNw M' n (zpass n v) ∧ ∀ x, x ≠ 215 → x ≠ 225 → M' x = M x))) 9 [(3, .int (nI s)), (2, .int (nI 0)), (1, .int (nI n)), (0, .ref 177)] [] SS M2 L (zRf t) := by
    intro q
    induction q with
    | zero =>
      intro s M2 hq h1 h2
      rw [show s = n by omega] at h1 ⊢
      refine wp_iload_n (q := 10) dX12_passes_9 0 rfl rfl ?_
      refine wp_iload_n (q := 11) dX12_passes_10 2 rfl rfl ?_
      refine wp_icmp_geN (tgt := 31) (q := 14) dX12_passes_11 (by decide) rfl (by omega) (by omega) (fun _ => ?_) (fun hn => absurd hn (by first | omega | exact fun h => h | exact fun h => h trivial))
      refine wp_iconst (q := 32) dX12_passes_31 zq_iconst_0 rfl ?_
      refine wp_istore_n (q := 33) (loc' := [(3, _), (2, _), (1, _), (0, _)]) dX12_passes_32 rfl (by decide) rfl rfl ?_
      refine WP.sub (loc' := [(3, _), (2, _), (1, _), (0, _)]) [0, 1, 2, 3] rfl ?_
      exact loop2 n 0 M2 (Nat.zero_add _) h1 (by rw [zpp_0]; exact zNw_fr h (h2 215 (by decide))) (fun x _ x2 => h2 x x2)
    | succ q ih =>
      intro s M2 hq h1 h2
      have hs : s < n := by omega
      have hs9 := h99 s hs
      refine wp_iload_n (q := 10) dX12_passes_9 0 rfl rfl ?_
      refine wp_iload_n (q := 11) dX12_passes_10 2 rfl rfl ?_
      refine wp_icmp_geN (tgt := 31) (q := 14) dX12_passes_11 (by decide) rfl (by omega) (by omega) (fun hn => absurd hn (by first | omega | exact fun h => h | exact fun h => h trivial)) (fun _ => ?_)
      refine wp_aload_n (q := 15) dX12_passes_14 3 rfl rfl ?_
      refine wp_getR (q := 18) dX12_passes_15 zf_RX12_157 rfl zsh_177 (zr_177_64 _) rfl ?_
      refine wp_iload_n (q := 19) dX12_passes_18 0 rfl rfl ?_
      refine wp_aload_n (q := 20) dX12_passes_19 3 rfl rfl ?_
      refine wp_iload_n (q := 21) dX12_passes_20 0 rfl rfl ?_
      refine wp_cvx (q := 24) (sp_mhats (d := 0) (zNw_fr h (h2 215 (by decide))) hs) zm_X12_hatsOf zl_RX12_460 dX12_passes_21 rfl (by omega) (Nat.le_of_ble_eq_true rfl) zsh_177 rfl rfl ?_
      refine wp_iast (q := 25) _ dX12_passes_24 zsh_225 rfl (by omega) (by decide) rfl ?_
      refine wp_iincN (q := 28) (loc' := [(3, _), (2, _), (1, _), (0, _)]) (n := 1) dX12_passes_25 rfl 0 rfl (by decide) rfl rfl ?_
      refine wp_goto (tgt := 9) dX12_passes_28 (by decide) ?_
      refine WP.sub (loc' := [(3, _), (2, _), (1, _), (0, _)]) [0, 1, 2, 3] rfl ?_
      refine ih (s + 1) _ (by omega) (fun i hi => ?_) (fun x hx => by rw [zu_ne hx]; exact h2 x hx)
      by_cases e : i = s
      · rw [e, zu_s]
      · rw [zu_k e]
        exact h1 i (by omega)
  refine wp_aload_n (q := 1) dX12_passes_0 0 rfl rfl ?_
  refine wp_cvx (q := 4) (sp_mpm (d := 0) hn) zm_X12_peopleMany zl_RX12_408 dX12_passes_1 rfl (by omega) (Nat.le_of_ble_eq_true rfl) zsh_177 rfl rfl ?_
  refine wp_istore_n (q := 5) (loc' := [(1, _), (0, _)]) dX12_passes_4 rfl (by decide) rfl rfl ?_
  refine wp_iconst (q := 6) dX12_passes_5 zq_iconst_0 rfl ?_
  refine wp_istore_n (q := 7) (loc' := [(2, _), (1, _), (0, _)]) dX12_passes_6 rfl (by decide) rfl rfl ?_
  refine wp_iconst (q := 8) dX12_passes_7 zq_iconst_0 rfl ?_
  refine wp_istore_n (q := 9) (loc' := [(3, _), (2, _), (1, _), (0, _)]) dX12_passes_8 rfl (by decide) rfl rfl ?_
  refine WP.sub (loc' := [(3, _), (2, _), (1, _), (0, _)]) [0, 1, 2, 3] rfl ?_
  exact loop n 0 M (Nat.zero_add _) (fun i hi => absurd hi (Nat.not_lt_zero _)) (fun x _ => rfl)
set_option maxHeartbeats 4000000 in
set_option maxRecDepth 100000 in
theorem sp_mleft {d t n w0 : Nat} {M : zMI} {L : zML} {g : zGd} {v : Nat → Nat} {hs : List (Nat → Nat)} {m : zMs} (h : zMo M L n g v hs m) (h2 : 2 ≤ n) (hw0 : w0 < 2) : Sy yX12_left YX12_left (d + 3) [.ref 177, .int (nI w0)] M L (zRf t) (zMn M L t n g v hs m (.int (zlfa (zlf n 61 0 0 v) w0))) := by
  refine Sp.of (by decide +kernel) rfl (fun h => by first | exact h | cases h) (Nat.le_of_ble_eq_true rfl) ?_
  intro w G
  have hn := h.1.1
  have h8 := h.1.2.1.1.1
  obtain ⟨r, hr⟩ : ∃ r, zlf n 61 0 0 v = r := ⟨_, rfl⟩
  have hend : ∀ (M1 M4 M5 : zMI), (∀ j, j < 51 → M1 216 j = M 215 j) → (∀ x, x ≠ 216 → M1 x = M x) → (∀ x, x ≠ 215 → x ≠ 225 → M4 x = M1 x) → (∀ j, j < 51 → M5 215 j = M4 216 j) → (∀ x, x ≠ 215 → M5 x = M4 x) → zMo M5 L n g v hs m ∧ zYf M M5 L L := by
    intro M1 M4 M5 e1 e2 e3 e4 e5
    refine ⟨zMo_n h (fun x hx h5 => ?_) (fun k hk => ?_) rfl rfl ⟨h.1.2.1.1, fun j hj => ?_⟩, fun x hx => ⟨?_, rfl⟩⟩
    · unfold zKp at hx
      rw [e5 x h5, e3 x h5 (by omega), e2 x (by omega)]
    · rw [e5 177 (by decide), e3 177 (by decide) (by decide), e2 177 (by decide)]
    · rw [e4 j (by omega), e3 216 (by decide) (by decide), e1 j (by omega)]
      exact h.1.2.1.2 j hj
    · rw [e5 x (by omega), e3 x (by omega) (by omega), e2 x (by omega)]
  have hgo : ∀ {M1 M2 : zMI}, (∀ x, x ≠ 216 → M1 x = M x) → (∀ x, x ≠ 215 → x ≠ 225 → M2 x = M1 x) → M2 204 2 = nI n := fun e1 e2 => by rw [e2 204 (by decide) (by decide), e1 204 (by decide)]; exact hn
  have tail : ∀ rd gv u (M1 M4 : zMI), rd ≤ 60 → gv ≤ 480 → (∀ j, j < 51 → M1 216 j = M 215 j) → (∀ x, x ≠ 216 → M1 x = M x) → zNw M4 n u → (∀ x, x ≠ 215 → x ≠ 225 → M4 x = M1 x) → r = (if znz u n = 0 then some (rd, gv) else none) → WP w YX12_left (d + 3, SS, 0, 0) G (some (zXp (zMn M L t n g v hs m (.int (zlfa (zlf n 61 0 0 v) w0))))) 53 [(3, .int (nI gv)), (2, .int (nI rd)), (0, .ref 177), (1, .int (nI w0))] [] SS M4 L (zRf t) := by
    intro rd gv u M1 M4 hrd hgv e1 e2 n4 e3 hre
    have hz := znz_le u n
    refine wp_aload_n (q := 54) dX12_left_53 2 rfl rfl ?_
    refine wp_cvx (q := 57) (sp_mhatless (d := 0) (hgo e2 e3) n4) zm_X12_hatless zl_RX12_472 dX12_left_54 rfl (by omega) (Nat.le_of_ble_eq_true rfl) zsh_177 rfl rfl ?_
    refine wp_if_neN (tgt := 64) (q := 60) dX12_left_57 (by decide) rfl (by omega) (fun c => ?_) (fun c => ?_)
    · skip
      rw [if_neg c] at hre
      refine wp_iconst (q := 65) dX12_left_64 zq_iconst_0 rfl ?_
      refine wp_istore (q := 67) (loc' := [(4, _), (3, _), (2, _), (0, _), (1, _)]) dX12_left_65 (by decide) rfl rfl ?_
      refine wp_aload_n (q := 68) dX12_left_67 3 rfl rfl ?_
      refine wp_cvy (q := 71) (sp_mtakesBack (d := 0)) zm_X12_takesBack zl_RX12_537 dX12_left_68 rfl (by omega) (Nat.le_of_ble_eq_true rfl) zsh_177 rfl rfl ?_
      rintro _ M5 L5 _ ⟨rfl, rfl, rfl, e4, e5⟩
      obtain ⟨q1, q2⟩ := hend M1 M4 M5 e1 e2 e3 e4 e5
      refine wp_iload (q := 73) dX12_left_71 0 rfl rfl ?_
      refine wp_if_neN (tgt := 80) (q := 76) dX12_left_73 (by decide) rfl (by omega) (fun hn => absurd hn (by first | omega | exact fun h => h | exact fun h => h trivial)) (fun _ => ?_)
      refine wp_iconst (q := 77) dX12_left_76 zq_iconst_m1 rfl ?_
      refine wp_goto (tgt := 89) dX12_left_77 (by decide) ?_
      exact wp_ireturn dX12_left_89 rfl ⟨rfl, ⟨by rw [hr, hre]; rfl, rfl, q1, q2⟩⟩ rfl rfl
    · skip
      rw [if_pos c] at hre
      refine wp_iconst (q := 61) dX12_left_60 zq_iconst_1 rfl ?_
      refine wp_goto (tgt := 65) dX12_left_61 (by decide) ?_
      refine wp_istore (q := 67) (loc' := [(4, _), (3, _), (2, _), (0, _), (1, _)]) dX12_left_65 (by decide) rfl rfl ?_
      refine wp_aload_n (q := 68) dX12_left_67 3 rfl rfl ?_
      refine wp_cvy (q := 71) (sp_mtakesBack (d := 0)) zm_X12_takesBack zl_RX12_537 dX12_left_68 rfl (by omega) (Nat.le_of_ble_eq_true rfl) zsh_177 rfl rfl ?_
      rintro _ M5 L5 _ ⟨rfl, rfl, rfl, e4, e5⟩
      obtain ⟨q1, q2⟩ := hend M1 M4 M5 e1 e2 e3 e4 e5
      refine wp_iload (q := 73) dX12_left_71 0 rfl rfl ?_
      refine wp_if_neN (tgt := 80) (q := 76) dX12_left_73 (by decide) rfl (by omega) (fun _ => ?_) (fun hn => absurd hn (by first | omega | exact fun h => h | exact fun h => h trivial))
      refine wp_iload_n (q := 81) dX12_left_80 4 rfl rfl ?_
      refine wp_if_neN (tgt := 88) (q := 84) dX12_left_81 (by decide) rfl (by omega) (fun c2 => ?_) (fun c2 => ?_)
      · skip
        refine wp_iload_n (q := 89) dX12_left_88 1 rfl rfl ?_
        refine wp_ireturn dX12_left_89 rfl ⟨rfl, ⟨?_, rfl, q1, q2⟩⟩ rfl rfl
        rw [hr, hre]
        show _ = some (Value.int (nI (if w0 = 0 then rd else gv)))
        rw [if_neg c2]
      · skip
        refine wp_iload_n (q := 85) dX12_left_84 2 rfl rfl ?_
        refine wp_goto (tgt := 89) dX12_left_85 (by decide) ?_
        refine wp_ireturn dX12_left_89 rfl ⟨rfl, ⟨?_, rfl, q1, q2⟩⟩ rfl rfl
        rw [hr, hre]
        show _ = some (Value.int (nI (if w0 = 0 then rd else gv)))
        rw [if_pos c2]
  have loop : ∀ q rd gv u (M1 M2 : zMI), rd + q = 60 → gv ≤ 8 * rd → zlf n (q + 1) rd gv u = r → (∀ j, j < 51 → M1 216 j = M 215 j) → (∀ x, x ≠ 216 → M1 x = M x) → zNw M2 n u → (∀ x, x ≠ 215 → x ≠ 225 → M2 x = M1 x) → WP w YX12_left (d + 3, SS, 0, 0) G (some (zXp (zMn M L t n g v hs m (.int (zlfa (zlf n 61 0 0 v) w0))))) 27 [(3, .int (nI gv)), (2, .int (nI rd)), (0, .ref 177), (1, .int (nI w0))] [] SS M2 L (zRf t) := by
    intro q
    induction q with
    | zero =>
      intro rd gv u M1 M2 hq hgv hz e1 e2 n2 e3
      have hzl := znz_le u n
      have hre : r = (if znz u n = 0 then some (rd, gv) else none) := by rw [← hz, zlf]; rfl
      have tl := tail rd gv u M1 M2 (by omega) (by omega) e1 e2 n2 e3 hre
      rw [show rd = 60 by omega] at tl ⊢
      refine wp_aload_n (q := 28) dX12_left_27 2 rfl rfl ?_
      refine wp_cvx (q := 31) (sp_mhatless (d := 0) (hgo e2 e3) n2) zm_X12_hatless zl_RX12_472 dX12_left_28 rfl (by omega) (Nat.le_of_ble_eq_true rfl) zsh_177 rfl rfl ?_
      refine wp_if_leN (tgt := 53) (q := 34) dX12_left_31 (by decide) rfl (by omega) (fun c => ?_) (fun c => ?_)
      · skip
        refine WP.sub (loc' := [(3, _), (2, _), (0, _), (1, _)]) [0, 1, 2, 3] rfl ?_
        exact tl
      · skip
        refine wp_iload_n (q := 35) dX12_left_34 1 rfl rfl ?_
        refine wp_bipush (q := 37) dX12_left_35 zq_bipush_60 rfl ?_
        refine wp_icmp_geN (tgt := 53) (q := 40) dX12_left_37 (by decide) rfl (by omega) (by omega) (fun _ => ?_) (fun hn => absurd hn (by first | omega | exact fun h => h | exact fun h => h trivial))
        refine WP.sub (loc' := [(3, _), (2, _), (0, _), (1, _)]) [0, 1, 2, 3] rfl ?_
        exact tl
    | succ q ih =>
      intro rd gv u M1 M2 hq hgv hz e1 e2 n2 e3
      have hzl := znz_le u n
      have hcl : nC (zg u) n ≤ n := nC_le
      rw [zlf] at hz
      refine wp_aload_n (q := 28) dX12_left_27 2 rfl rfl ?_
      refine wp_cvx (q := 31) (sp_mhatless (d := 0) (hgo e2 e3) n2) zm_X12_hatless zl_RX12_472 dX12_left_28 rfl (by omega) (Nat.le_of_ble_eq_true rfl) zsh_177 rfl rfl ?_
      refine wp_if_leN (tgt := 53) (q := 34) dX12_left_31 (by decide) rfl (by omega) (fun c => ?_) (fun c => ?_)
      · skip
        rw [if_pos (by omega)] at hz
        have hre : r = (if znz u n = 0 then some (rd, gv) else none) := by rw [if_pos (by omega), hz]
        refine WP.sub (loc' := [(3, _), (2, _), (0, _), (1, _)]) [0, 1, 2, 3] rfl ?_
        exact tail rd gv u M1 M2 (by omega) (by omega) e1 e2 n2 e3 hre
      · skip
        rw [if_neg (by omega)] at hz
        refine wp_iload_n (q := 35) dX12_left_34 1 rfl rfl ?_
        refine wp_bipush (q := 37) dX12_left_35 zq_bipush_60 rfl ?_
        refine wp_icmp_geN (tgt := 53) (q := 40) dX12_left_37 (by decide) rfl (by omega) (by omega) (fun hn => absurd hn (by first | omega | exact fun h => h | exact fun h => h trivial)) (fun _ => ?_)
        refine wp_iload_n (q := 41) dX12_left_40 0 rfl rfl ?_
        refine wp_aload_n (q := 42) dX12_left_41 2 rfl rfl ?_
        refine wp_cvy (q := 45) (sp_mpasses (d := 0) (hgo e2 e3) n2) zm_X12_passes zl_RX12_564 dX12_left_42 rfl (by omega) (Nat.le_of_ble_eq_true rfl) zsh_177 rfl rfl ?_
        rintro _ M3 L3 _ ⟨rfl, rfl, rfl, n3, e4⟩
        refine wp_iaddN (q := 46) dX12_left_45 rfl ?_
        refine wp_istore_n (q := 47) (loc' := [(3, _), (2, _), (0, _), (1, _)]) dX12_left_46 rfl (by decide) rfl rfl ?_
        refine wp_iincN (q := 50) (loc' := [(2, _), (3, _), (0, _), (1, _)]) (n := 1) dX12_left_47 rfl 1 rfl (by decide) rfl rfl ?_
        refine wp_goto (tgt := 27) dX12_left_50 (by decide) ?_
        refine WP.sub (loc' := [(3, _), (2, _), (0, _), (1, _)]) [1, 0, 2, 3] rfl ?_
        exact ih (rd + 1) _ _ M1 M3 (by omega) (by omega) hz e1 e2 n3 (fun x x1 x2 => by rw [e4 x x1 x2, e3 x x1 x2])
  refine wp_aload_n (q := 1) dX12_left_0 0 rfl rfl ?_
  refine wp_cvx (q := 4) (sp_mcm (d := 0) hn h8) zm_X12_crackerMany zl_RX12_463 dX12_left_1 rfl (by omega) (Nat.le_of_ble_eq_true rfl) zsh_177 rfl rfl ?_
  rw [if_neg (by omega)]
  refine wp_if_eqN (tgt := 17) (q := 7) dX12_left_4 (by decide) rfl (by omega) (fun hn => absurd hn (by first | omega | exact fun h => h | exact fun h => h trivial)) (fun _ => ?_)
  refine wp_iload_n (q := 8) dX12_left_7 1 rfl rfl ?_
  refine wp_i2lN (q := 9) dX12_left_8 (by omega) rfl ?_
  refine wp_lconst (q := 10) dX12_left_9 zq_lconst_0 rfl ?_
  refine wp_lconst (q := 11) dX12_left_10 zq_lconst_1 rfl ?_
  refine wp_csx (q := 14) (sp_isIn (d := 0)) zm_X12_isIn zl_RX12_276 dX12_left_11 rfl (by omega) (Nat.le_of_ble_eq_true rfl) rfl ?_
  rw [if_pos ⟨(zlN_le (by omega) (by omega)).mpr (Nat.zero_le _), (zlN_le (by omega) (by omega)).mpr (by omega)⟩]
  refine wp_if_neN (tgt := 19) (q := 17) dX12_left_14 (by decide) rfl (by omega) (fun _ => ?_) (fun hn => absurd hn (by first | omega | exact fun h => h | exact fun h => h trivial))
  refine wp_aload_n (q := 20) dX12_left_19 0 rfl rfl ?_
  refine wp_cvy (q := 23) (sp_mputsAside (d := 0)) zm_X12_putsAside zl_RX12_531 dX12_left_20 rfl (by omega) (Nat.le_of_ble_eq_true rfl) zsh_177 rfl rfl ?_
  rintro _ M1 L1 _ ⟨rfl, rfl, rfl, e1, e2⟩
  refine wp_iconst (q := 24) dX12_left_23 zq_iconst_0 rfl ?_
  refine wp_istore_n (q := 25) (loc' := [(2, _), (0, _), (1, _)]) dX12_left_24 rfl (by decide) rfl rfl ?_
  refine wp_iconst (q := 26) dX12_left_25 zq_iconst_0 rfl ?_
  refine wp_istore_n (q := 27) (loc' := [(3, _), (2, _), (0, _), (1, _)]) dX12_left_26 rfl (by decide) rfl rfl ?_
  refine WP.sub (loc' := [(3, _), (2, _), (0, _), (1, _)]) [0, 1, 2, 3] rfl ?_
  exact loop 60 0 0 v M1 M1 (by decide) (by decide) hr e1 e2 (zNw_fr h.1.2.1 (e2 215 (by decide))) (fun x _ _ => rfl)
set_option maxHeartbeats 4000000 in
set_option maxRecDepth 100000 in
theorem sp_mleftN {d t n : Nat} {x : Int32} {M : zMI} {L : zML} {g : zGd} {v : Nat → Nat} {hs : List (Nat → Nat)} {m : zMs} (h : zMo M L n g v hs m) (hN : ¬ (2 ≤ n ∧ zin x 2)) : Sy yX12_left YX12_left (d + 3) [.ref 177, .int x] M L (zRf t) (zMn M L t n g v hs m (.int (-1))) := by
  refine Sp.of (by decide +kernel) rfl (fun h => by first | exact h | cases h) (Nat.le_of_ble_eq_true rfl) ?_
  intro w G
  have hn := h.1.1
  have h8 := h.1.2.1.1.1
  refine wp_aload_n (q := 1) dX12_left_0 0 rfl rfl ?_
  refine wp_cvx (q := 4) (sp_mcm (d := 0) hn h8) zm_X12_crackerMany zl_RX12_463 dX12_left_1 rfl (by omega) (Nat.le_of_ble_eq_true rfl) zsh_177 rfl rfl ?_
  by_cases c2 : 2 ≤ n
  · rw [if_neg (by omega)]
    refine wp_if_eqN (tgt := 17) (q := 7) dX12_left_4 (by decide) rfl (by omega) (fun hn => absurd hn (by first | omega | exact fun h => h | exact fun h => h trivial)) (fun _ => ?_)
    refine wp_iload_n (q := 8) dX12_left_7 1 rfl rfl ?_
    refine wp_i2l (q := 9) dX12_left_8 rfl ?_
    refine wp_lconst (q := 10) dX12_left_9 zq_lconst_0 rfl ?_
    refine wp_lconst (q := 11) dX12_left_10 zq_lconst_1 rfl ?_
    refine wp_csx (q := 14) (sp_isIn (d := 0)) zm_X12_isIn zl_RX12_276 dX12_left_11 rfl (by omega) (Nat.le_of_ble_eq_true rfl) rfl ?_
    rw [if_neg (fun e => hN ⟨c2, (zis1 (m := 1) (by decide)).mp e⟩)]
    refine wp_if_neN (tgt := 19) (q := 17) dX12_left_14 (by decide) rfl (by omega) (fun hn => absurd hn (by first | omega | exact fun h => h | exact fun h => h trivial)) (fun _ => ?_)
    refine wp_iconst (q := 18) dX12_left_17 zq_iconst_m1 rfl ?_
    exact wp_ireturn dX12_left_18 rfl ⟨rfl, ⟨rfl, rfl, h, zYf_r⟩⟩ rfl rfl
  · rw [if_pos (by omega)]
    refine wp_if_eqN (tgt := 17) (q := 7) dX12_left_4 (by decide) rfl (by omega) (fun _ => ?_) (fun hn => absurd hn (by first | omega | exact fun h => h | exact fun h => h trivial))
    refine wp_iconst (q := 18) dX12_left_17 zq_iconst_m1 rfl ?_
    exact wp_ireturn dX12_left_18 rfl ⟨rfl, ⟨rfl, rfl, h, zYf_r⟩⟩ rfl rfl
-- an act of the reference: what it keeps
theorem zMo_k {M M' : zMI} {L : zML} {n : Nat} {g : zGd} {v u : Nat → Nat} {hs hs' : List (Nat → Nat)} {m m' : zMs} (h : zMo M L n g v hs m) (e : ∀ x, x ≠ 177 → x ≠ 179 → x ≠ 215 → x ≠ 225 → x ≠ 226 → M' x = M x) (hu : zNw M' n u) (hk : zMk M' n hs') (hm : zMm M' L m') : zMo M' L n g u hs' m' := by
  obtain ⟨a1, a2, a3, a4, a5⟩ := h
  exact ⟨zMc_n a1 (fun x hx => e x (by omega) (by omega) (by omega) (by omega) (by omega)) hu, zMd_fr a2 (e 204 (by omega) (by omega) (by omega) (by omega) (by omega)) rfl (e 207 (by omega) (by omega) (by omega) (by omega) (by omega)) (e 208 (by omega) (by omega) (by omega) (by omega) (by omega)), hk, hm, zWds_fr a5 (fun x hx => e x (by omega) (by omega) (by omega) (by omega) (by omega))⟩
theorem zYf_k {M M' : zMI} {L : zML} (e : ∀ x, x ≠ 177 → x ≠ 179 → x ≠ 215 → x ≠ 225 → x ≠ 226 → M' x = M x) : zYf M M' L L := fun x hx => ⟨e x (by omega) (by omega) (by omega) (by omega) (by omega), rfl⟩
theorem zk51 {a b i j : Nat} (hi : i < 51) (hj : j < 51) (h : 51 * a + i = 51 * b + j) : a = b ∧ i = j := by omega
set_option maxHeartbeats 4000000 in
set_option maxRecDepth 100000 in
theorem sp_mkeeps {d t n : Nat} {M : zMI} {L : zML} {v : Nat → Nat} {hs : List (Nat → Nat)} (h : zNw M n v) (hk : zMk M n hs) : Sy yX12_keeps YX12_keeps (d) [.ref 177] M L (zRf t) (fun v0 M' L' R' => v0 = none ∧ L = L' ∧ R' = zRf t ∧ zMk M' n ((v :: hs).take 20) ∧ (∀ x, x ≠ 177 → x ≠ 226 → M' x = M x) ∧ ∀ k, k ≠ 66 → k ≠ 67 → M' 177 k = M 177 k) := by
  refine Sp.of (by decide +kernel) rfl (fun h => by first | exact h | cases h) (Nat.le_of_ble_eq_true rfl) ?_
  intro w G
  have h8 := h.1.1
  obtain ⟨nw, k1, k2, k3, k4, k5⟩ := hk
  have hmd : (nw + 1) % 20 < 20 := Nat.mod_lt _ (by decide)
  obtain ⟨nx, hnx⟩ : ∃ nx, (nw + 1) % 20 = nx := ⟨_, rfl⟩
  rw [hnx] at hmd
  have fin : ∀ (M2 : zMI) (ln : Nat), ln = min 20 (hs.length + 1) → M2 177 66 = nI ln → M2 177 67 = nI nx → (∀ j, j < 51 → M2 226 (51 * nx + j) = M 215 j) → (∀ i, (∀ j, j < 51 → i ≠ 51 * nx + j) → M2 226 i = M 226 i) → zMk M2 n ((v :: hs).take 20) := by
    intro M2 ln hln g1 g2 g3 g4
    refine ⟨nx, hmd, by rw [List.length_take]; exact Nat.min_le_left _ _, g2, by rw [g1, hln, List.length_take, List.length_cons], fun i u hu => ?_⟩
    have hil : i < 20 := by
      have := (List.getElem?_eq_some_iff.mp hu).1
      rw [List.length_take] at this
      omega
    rw [List.getElem?_take, if_pos hil] at hu
    cases i with
    | zero =>
      have hu2 : some v = some u := hu
      obtain rfl := Option.some.inj hu2
      refine ⟨h.1, fun j hj => ?_⟩
      rw [show (nx + 20 - 0) % 20 = nx by omega, g3 j (by omega)]
      exact h.2 j hj
    | succ i =>
      have hu2 : hs[i]? = some u := hu
      obtain ⟨q1, q2⟩ := k5 i u hu2
      refine ⟨q1, fun j hj => ?_⟩
      have e : (nx + 20 - (i + 1)) % 20 = (nw + 20 - i) % 20 := by omega
      rw [e, g4 _ (fun j' hj' ee => by have := (zk51 (by omega) hj' ee).1; omega)]
      exact q2 j hj
  have loop : ∀ q k (M2 : zMI), k + q = 51 → M2 177 66 = nI hs.length → M2 177 67 = nI nx → (∀ j, j < k → M2 226 (51 * nx + j) = M 215 j) → (∀ i, (∀ j, j < 51 → i ≠ 51 * nx + j) → M2 226 i = M 226 i) → (∀ x, x ≠ 177 → x ≠ 226 → M2 x = M x) → (∀ k, k ≠ 66 → k ≠ 67 → M2 177 k = M 177 k) → WP w YX12_keeps (d, SS, 0, 0) G (some (zXp (fun v0 M' L' R' => v0 = none ∧ L = L' ∧ R' = zRf t ∧ zMk M' n ((v :: hs).take 20) ∧ (∀ x, x ≠ 177 → x ≠ 226 → M' x = M x) ∧ ∀ k, k ≠ 66 → k ≠ 67 → M' 177 k = M 177 k))) 15 [(1, .int (nI k)), (0, .ref 177)] [] SS M2 L (zRf t) := by
    intro q
    induction q with
    | zero =>
      intro k M2 hq g1 g2 g3 g4 g5 g6
      rw [show k = 51 by omega] at g3 ⊢
      refine wp_iload_n (q := 16) dX12_keeps_15 0 rfl rfl ?_
      refine wp_bipush (q := 18) dX12_keeps_16 zq_bipush_51 rfl ?_
      refine wp_icmp_geN (tgt := 47) (q := 21) dX12_keeps_18 (by decide) rfl (by omega) (by omega) (fun _ => ?_) (fun hn => absurd hn (by first | omega | exact fun h => h | exact fun h => h trivial))
      refine wp_aload_n (q := 48) dX12_keeps_47 1 rfl rfl ?_
      refine wp_getI (q := 51) dX12_keeps_48 zf_RX12_359 rfl zsh_177 rfl ?_
      rw [g1]
      refine wp_bipush (q := 53) dX12_keeps_51 zq_bipush_20 rfl ?_
      refine wp_icmp_geN (tgt := 66) (q := 56) dX12_keeps_53 (by decide) rfl (by omega) (by omega) (fun c => ?_) (fun c => ?_)
      · skip
        exact wp_return dX12_keeps_66 rfl ⟨rfl, ⟨rfl, rfl, rfl, fin M2 hs.length (by omega) g1 g2 g3 g4, g5, g6⟩⟩ rfl rfl
      · skip
        refine wp_aload_n (q := 57) dX12_keeps_56 1 rfl rfl ?_
        refine wp_dup (q := 58) dX12_keeps_57 rfl rfl ?_
        refine wp_getI (q := 61) dX12_keeps_58 zf_RX12_359 rfl zsh_177 rfl ?_
        rw [g1]
        refine wp_iconst (q := 62) dX12_keeps_61 zq_iconst_1 rfl ?_
        refine wp_iaddN (q := 63) dX12_keeps_62 rfl ?_
        refine wp_putI (q := 66) dX12_keeps_63 zf_RX12_359 rfl zsh_177 rfl ?_
        exact wp_return dX12_keeps_66 rfl ⟨rfl, ⟨rfl, rfl, rfl, fin _ (hs.length + 1) (by omega) zu_s (by rw [zu_k (by decide)]; exact g2) (fun j hj => by rw [zu_ne (by decide)]; exact g3 j hj) (fun i hi => by rw [zu_ne (by decide)]; exact g4 i hi), fun x x1 x2 => by rw [zu_ne x1]; exact g5 x x1 x2, fun k k1 k2 => by rw [zu_k k1]; exact g6 k k1 k2⟩⟩ rfl rfl
    | succ q ih =>
      intro k M2 hq g1 g2 g3 g4 g5 g6
      refine wp_iload_n (q := 16) dX12_keeps_15 0 rfl rfl ?_
      refine wp_bipush (q := 18) dX12_keeps_16 zq_bipush_51 rfl ?_
      refine wp_icmp_geN (tgt := 47) (q := 21) dX12_keeps_18 (by decide) rfl (by omega) (by omega) (fun hn => absurd hn (by first | omega | exact fun h => h | exact fun h => h trivial)) (fun _ => ?_)
      refine wp_aload_n (q := 22) dX12_keeps_21 1 rfl rfl ?_
      refine wp_getR (q := 25) dX12_keeps_22 zf_RX12_160 rfl zsh_177 (zr_177_65 _) rfl ?_
      refine wp_bipush (q := 27) dX12_keeps_25 zq_bipush_51 rfl ?_
      refine wp_aload_n (q := 28) dX12_keeps_27 1 rfl rfl ?_
      refine wp_getI (q := 31) dX12_keeps_28 zf_RX12_567 rfl zsh_177 rfl ?_
      rw [g2]
      refine wp_imulN (q := 32) dX12_keeps_31 rfl ?_
      refine wp_iload_n (q := 33) dX12_keeps_32 0 rfl rfl ?_
      refine wp_iaddN (q := 34) dX12_keeps_33 rfl ?_
      refine wp_aload_n (q := 35) dX12_keeps_34 1 rfl rfl ?_
      refine wp_getR (q := 38) dX12_keeps_35 zf_RX12_127 rfl zsh_177 (zr_177_52 _) rfl ?_
      refine wp_iload_n (q := 39) dX12_keeps_38 0 rfl rfl ?_
      refine wp_iald (q := 40) _ dX12_keeps_39 zsh_215 rfl (by omega) (by decide) rfl ?_
      rw [g5 215 (by decide) (by decide)]
      refine wp_iast (q := 41) _ dX12_keeps_40 zsh_226 rfl (by omega) (by decide) rfl ?_
      refine wp_iincN (q := 44) (loc' := [(1, _), (0, _)]) (n := 1) dX12_keeps_41 rfl 0 rfl (by decide) rfl rfl ?_
      refine wp_goto (tgt := 15) dX12_keeps_44 (by decide) ?_
      refine WP.sub (loc' := [(1, _), (0, _)]) [0, 1] rfl ?_
      refine ih (k + 1) _ (by omega) (by rw [zu_ne (by decide)]; exact g1) (by rw [zu_ne (by decide)]; exact g2) (fun j hj => ?_) (fun i hi => by rw [zu_k (hi k (by omega))]; exact g4 i hi) (fun x x1 x2 => by rw [zu_ne x2]; exact g5 x x1 x2) (fun k k1 k2 => by rw [zu_ne (by decide)]; exact g6 k k1 k2)
      by_cases e : j = k
      · rw [e, zu_s]
      · rw [zu_k (by omega)]
        exact g3 j (by omega)
  refine wp_aload_n (q := 1) dX12_keeps_0 0 rfl rfl ?_
  refine wp_aload_n (q := 2) dX12_keeps_1 0 rfl rfl ?_
  refine wp_getI (q := 5) dX12_keeps_2 zf_RX12_567 rfl zsh_177 rfl ?_
  rw [k3]
  refine wp_iconst (q := 6) dX12_keeps_5 zq_iconst_1 rfl ?_
  refine wp_iaddN (q := 7) dX12_keeps_6 rfl ?_
  refine wp_bipush (q := 9) dX12_keeps_7 zq_bipush_20 rfl ?_
  refine wp_iremN (q := 10) dX12_keeps_9 (by omega) (by omega) (by omega) rfl ?_
  rw [hnx]
  refine wp_putI (q := 13) dX12_keeps_10 zf_RX12_567 rfl zsh_177 rfl ?_
  refine wp_iconst (q := 14) dX12_keeps_13 zq_iconst_0 rfl ?_
  refine wp_istore_n (q := 15) (loc' := [(1, _), (0, _)]) dX12_keeps_14 rfl (by decide) rfl rfl ?_
  refine WP.sub (loc' := [(1, _), (0, _)]) [0, 1] rfl ?_
  exact loop 51 0 _ (by decide) (by rw [zu_k (by decide)]; exact k4) zu_s (fun j hj => absurd hj (Nat.not_lt_zero _)) (fun i _ => by rw [zu_ne (by decide)]) (fun x x1 _ => zu_ne x1) (fun k _ k2 => zu_k k2)

