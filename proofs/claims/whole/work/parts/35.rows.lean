def zRP (M : zMI) (L : zML) (n t : Nat) (q : List Nat) (a : Nat × List Nat) : Option Value → zMI → zML → zMR → Prop := fun v0 M' L' R' => v0 = none ∧ R' = zRf t ∧ zRb M' L' n a ∧ (∀ o k, o ≠ 167 ∨ k ≠ 6 → L' o k = L o k) ∧ (∀ i, i < q.length → M' 170 i = M 170 i) ∧ ∀ x, x ≠ 170 → x ≠ 171 → M' x = M x
theorem zRt_fr {M M' : zMI} {n : Nat} {tb : zTb} {v : Nat → Nat} (h : zRt M n tb v) (hf : ∀ x, x ≠ 170 → x ≠ 171 → M' x = M x) : zRt M' n tb v := by
  obtain ⟨a, b, c⟩ := h
  exact ⟨by rw [hf 167 (by decide) (by decide)]; exact a, b, fun r l hr hl => by rw [hf 168 (by decide) (by decide), hf 169 (by decide) (by decide)]; exact c r l hr hl⟩
set_option maxHeartbeats 4000000 in
set_option maxRecDepth 100000 in
theorem sp_placeEach {d t n k tk dd : Nat} {M : zMI} {L : zML} {tb : zTb} {v : Nat → Nat} {q : List Nat} {a : Nat × List Nat} (hdd : dd + 2 ≤ d) (hgo : ∀ (M : zMI) (L : zML) (q : List Nat) (tk : Nat) (a : Nat × List Nat), zRt M n tb v → zRq M q → q.length + k = n → 1 ≤ q.length → (∀ x, x ∈ q → x < n) → tk < 256 → (∀ x, x < 8 → tk.testBit x = q.contains x) → zRb M L n a → Sy yX6_goOn YX6_goOn (dd + 1) [.ref 167, .int (nI q.length), .int (nI tk), .long (lN (zps (zW tb v) q q.length))] M L (zRf t) (zRP M L n t q ((zxt n k q).foldl (zbt (zW tb v) n) a))) (hR : zRt M n tb v) (hq : zRq M q) (hl : q.length + (k + 1) = n) (h1 : 1 ≤ q.length) (hlt : ∀ x, x ∈ q → x < n) (htk : tk < 256) (ht : ∀ x, x < 8 → tk.testBit x = q.contains x) (ha : zRb M L n a) {A : Nat × List Nat} (hA : (zxt n (k + 1) q).foldl (zbt (zW tb v) n) a = A) : Sy yX6_placeEach YX6_placeEach (d) [.ref 167, .int (nI q.length), .int (nI tk), .long (lN (zps (zW tb v) q q.length))] M L (zRf t) (fun v0 M' L' R' => zRP M L n t q A v0 M' L' R') := by
  refine Sp.of (by decide +kernel) rfl (fun h => by first | exact h | cases h) (Nat.le_of_ble_eq_true rfl) ?_
  intro w G
  have h8 := hR.2.1
  have w3 := zps_le (zW_le tb v) q q.length
  have loop : ∀ j i (M2 : zMI) (L2 : zML) (a2 : Nat × List Nat), i + j = n → 1 ≤ i → zRq M2 q → zRb M2 L2 n a2 → ((List.range' i j).flatMap (fun x => if q.contains x then [] else zxt n k (q ++ [x]))).foldl (zbt (zW tb v) n) a2 = A → (∀ o k, o ≠ 167 ∨ k ≠ 6 → L2 o k = L o k) → (∀ i, i < q.length → M2 170 i = M 170 i) → (∀ x, x ≠ 170 → x ≠ 171 → M2 x = M x) → WP w YX6_placeEach (d, SS, 0, 0) G (some (zXp (fun v0 M' L' R' => zRP M L n t q A v0 M' L' R'))) 3 [(5, .int (nI i)), (0, .ref 167), (1, .int (nI q.length)), (2, .int (nI tk)), (3, .long (lN (zps (zW tb v) q q.length)))] [] SS M2 L2 (zRf t) := by
    intro j
    induction j with
    | zero =>
      intro i M2 L2 a2 hi hi1 hq2 hb2 hacc hL hf0 hf
      have hR2 := zRt_fr hR hf
      refine wp_iload (q := 5) dX6_placeEach_3 0 rfl rfl ?_
      refine wp_aload_n (q := 6) dX6_placeEach_5 1 rfl rfl ?_
      refine wp_getI (q := 9) dX6_placeEach_6 zf_RX6_21 rfl zsh_167 rfl ?_
      rw [hR2.1]
      refine wp_icmp_geN (tgt := 85) (q := 12) dX6_placeEach_9 (by decide) rfl (by omega) (by omega) (fun _ => ?_) (fun hn => absurd hn (by omega))
      rw [List.range'_zero, List.flatMap_nil, List.foldl_nil] at hacc
      rw [hacc] at hb2
      exact wp_return dX6_placeEach_85 rfl ⟨rfl, ⟨rfl, rfl, hb2, hL, hf0, hf⟩⟩ rfl rfl
    | succ j ih =>
      intro i M2 L2 a2 hi hi1 hq2 hb2 hacc hL hf0 hf
      have hR2 := zRt_fr hR hf
      have hi8 : i < 8 := by omega
      rw [List.range'_succ, List.flatMap_cons, List.foldl_append] at hacc
      refine wp_iload (q := 5) dX6_placeEach_3 0 rfl rfl ?_
      refine wp_aload_n (q := 6) dX6_placeEach_5 1 rfl rfl ?_
      refine wp_getI (q := 9) dX6_placeEach_6 zf_RX6_21 rfl zsh_167 rfl ?_
      rw [hR2.1]
      refine wp_icmp_geN (tgt := 85) (q := 12) dX6_placeEach_9 (by decide) rfl (by omega) (by omega) (fun hn => absurd hn (by omega)) (fun _ => ?_)
      refine wp_iload_n (q := 13) dX6_placeEach_12 3 rfl rfl ?_
      refine wp_iload (q := 15) dX6_placeEach_13 0 rfl rfl ?_
      refine wp_ishrN (q := 16) dX6_placeEach_15 (by omega) (by omega) rfl ?_
      refine wp_iconst (q := 17) dX6_placeEach_16 zq_iconst_1 rfl ?_
      refine wp_iandN (q := 18) dX6_placeEach_17 rfl ?_
      rw [zmk_and, ht i hi8]
      by_cases hc : q.contains i = true
      · rw [if_pos hc] at hacc
        rw [if_pos hc]
        refine wp_if_neN (tgt := 79) (q := 21) dX6_placeEach_18 (by decide) rfl (by omega) (fun _ => ?_) (fun hn => absurd hn (by omega))
        refine wp_iincN (q := 82) (loc' := [(5, _), (0, _), (1, _), (2, _), (3, _)]) (n := 1) dX6_placeEach_79 rfl 0 rfl (by decide) rfl rfl ?_
        refine wp_goto (tgt := 3) dX6_placeEach_82 (by decide) ?_
        refine WP.sub (loc' := [(5, _), (0, _), (1, _), (2, _), (3, _)]) [0, 1, 2, 3, 4] rfl ?_
        exact ih (i + 1) M2 L2 a2 (by omega) (by omega) hq2 hb2 hacc hL hf0 hf
      · rw [if_neg hc] at hacc
        rw [if_neg hc]
        refine wp_if_neN (tgt := 79) (q := 21) dX6_placeEach_18 (by decide) rfl (by omega) (fun hn => absurd hn (by omega)) (fun _ => ?_)
        have hl' : (q ++ [i]).length = q.length + 1 := by rw [List.length_append]; rfl
        have hps : zps (zW tb v) (q ++ [i]) q.length = zps (zW tb v) q q.length := zps_pre _ _ _ _ (Nat.le_refl _)
        have hM3 : ∀ x, x ≠ 170 → x ≠ 171 → zu M2 170 q.length (nI i) x = M x := fun x x1 x2 => by rw [zu_ne x1]; exact hf x x1 x2
        have hq3 : zRq (zu M2 170 q.length (nI i)) (q ++ [i]) := by
          intro y hy
          rw [hl'] at hy
          by_cases e : y = q.length
          · subst e
            rw [zu_s, zgd_e]
          · rw [zu_k e, zgd_l (by omega)]
            exact hq2 y (by omega)
        have ht' : ∀ x, x < 8 → (tk ||| 2 ^ i).testBit x = (q ++ [i]).contains x := by
          intro x hx
          rw [Nat.testBit_or, ht x hx, Nat.testBit_two_pow]
          simp [eq_comm]
        have htk' : tk ||| 2 ^ i < 256 := Nat.or_lt_two_pow (n := 8) htk (Nat.pow_lt_pow_right (by decide) hi8)
        have hp8 : 2 ^ i < 256 := Nat.pow_lt_pow_right (a := 2) (by decide) hi8
        have rest : ∀ more, zps (zW tb v) q q.length + more = zps (zW tb v) (q ++ [i]) (q.length + 1) → WP w YX6_placeEach (d, SS, 0, 0) G (some (zXp (fun v0 M' L' R' => zRP M L n t q A v0 M' L' R'))) 60 [(5, .int (nI i)), (0, .ref 167), (1, .int (nI q.length)), (2, .int (nI tk)), (3, .long (lN (zps (zW tb v) q q.length)))] [.long (lN more)] SS (zu M2 170 q.length (nI i)) L2 (zRf t) := by
          intro more hm
          refine wp_lstore (q := 62) (loc' := [(6, _), (5, _), (0, _), (1, _), (2, _), (3, _)]) dX6_placeEach_60 (by decide) rfl rfl ?_
          refine wp_aload_n (q := 63) dX6_placeEach_62 2 rfl rfl ?_
          refine wp_iload_n (q := 64) dX6_placeEach_63 3 rfl rfl ?_
          refine wp_iconst (q := 65) dX6_placeEach_64 zq_iconst_1 rfl ?_
          refine wp_iaddN (q := 66) dX6_placeEach_65 rfl ?_
          refine wp_iload_n (q := 67) dX6_placeEach_66 4 rfl rfl ?_
          refine wp_iconst (q := 68) dX6_placeEach_67 zq_iconst_1 rfl ?_
          refine wp_iload (q := 70) dX6_placeEach_68 1 rfl rfl ?_
          refine wp_ishlN (q := 71) dX6_placeEach_70 (by omega) (by omega) rfl ?_
          refine wp_iorN (q := 72) dX6_placeEach_71 rfl ?_
          refine wp_lload_n (q := 73) dX6_placeEach_72 5 rfl rfl ?_
          refine wp_lload (q := 75) dX6_placeEach_73 0 rfl rfl ?_
          refine wp_laddN (q := 76) dX6_placeEach_75 rfl ?_
          rw [hm, Nat.one_mul]
          have hg := hgo _ L2 (q ++ [i]) (tk ||| 2 ^ i) a2 (zRt_fr hR hM3) hq3 (by omega) (by omega) (fun x hx => ?_) htk' ht' ⟨hb2.1, hb2.2.1, fun h y hy => by rw [zu_ne (by decide)]; exact hb2.2.2 h y hy⟩
          rw [hl'] at hg
          refine wp_cvy (q := 79) (hg) zm_X6_goOn zl_RX6_54 dX6_placeEach_76 rfl (by omega) (Nat.le_of_ble_eq_true rfl) zsh_167 rfl rfl ?_
          rintro _ M4 L4 _ ⟨rfl, rfl, hb4, hL4, hf40, hf4⟩
          rw [hl'] at hf40
          refine wp_iincN (q := 82) (loc' := [(5, _), (6, _), (0, _), (1, _), (2, _), (3, _)]) (n := 1) dX6_placeEach_79 rfl 1 rfl (by decide) rfl rfl ?_
          refine wp_goto (tgt := 3) dX6_placeEach_82 (by decide) ?_
          refine WP.sub (loc' := [(5, _), (0, _), (1, _), (2, _), (3, _)]) [0, 2, 3, 4, 5] rfl ?_
          refine ih (i + 1) M4 L4 _ (by omega) (by omega) (fun y hy => ?_) hb4 hacc (fun o k hk => (hL4 o k hk).trans (hL o k hk)) (fun y hy => ?_) (fun x x1 x2 => (hf4 x x1 x2).trans (hM3 x x1 x2))
          · rw [hf40 y (by omega), zu_k (by omega)]
            exact hq2 y hy
          · rw [hf40 y (by omega), zu_k (by omega)]
            exact hf0 y hy
          · rw [List.mem_append, List.mem_singleton] at hx
            rcases hx with hx | hx
            · exact hlt x hx
            · omega
        refine wp_aload_n (q := 22) dX6_placeEach_21 1 rfl rfl ?_
        refine wp_getR (q := 25) dX6_placeEach_22 zf_RX6_18 rfl zsh_167 (zr_167_3 _) rfl ?_
        refine wp_iload_n (q := 26) dX6_placeEach_25 2 rfl rfl ?_
        refine wp_iload (q := 28) dX6_placeEach_26 0 rfl rfl ?_
        refine wp_iast (q := 29) _ dX6_placeEach_28 zsh_170 rfl (by omega) (by decide) rfl ?_
        refine wp_iload_n (q := 30) dX6_placeEach_29 2 rfl rfl ?_
        refine wp_iconst (q := 31) dX6_placeEach_30 zq_iconst_2 rfl ?_
        refine wp_icmp_geN (tgt := 38) (q := 34) dX6_placeEach_31 (by decide) rfl (by omega) (by omega) (fun hp2 => ?_) (fun hp2 => ?_)
        · skip
          refine wp_aload_n (q := 39) dX6_placeEach_38 1 rfl rfl ?_
          refine wp_aload_n (q := 40) dX6_placeEach_39 1 rfl rfl ?_
          refine wp_getR (q := 43) dX6_placeEach_40 zf_RX6_18 rfl zsh_167 (zr_167_3 _) rfl ?_
          refine wp_iload_n (q := 44) dX6_placeEach_43 2 rfl rfl ?_
          refine wp_iconst (q := 45) dX6_placeEach_44 zq_iconst_2 rfl ?_
          refine wp_isubN (q := 46) dX6_placeEach_45 (by omega) rfl ?_
          refine wp_iald (q := 47) _ dX6_placeEach_46 zsh_170 rfl (by omega) (by decide) rfl ?_
          rw [zu_k (by omega), hq2 _ (by omega)]
          refine wp_aload_n (q := 48) dX6_placeEach_47 1 rfl rfl ?_
          refine wp_getR (q := 51) dX6_placeEach_48 zf_RX6_18 rfl zsh_167 (zr_167_3 _) rfl ?_
          refine wp_iload_n (q := 52) dX6_placeEach_51 2 rfl rfl ?_
          refine wp_iconst (q := 53) dX6_placeEach_52 zq_iconst_1 rfl ?_
          refine wp_isubN (q := 54) dX6_placeEach_53 (by omega) rfl ?_
          refine wp_iald (q := 55) _ dX6_placeEach_54 zsh_170 rfl (by omega) (by decide) rfl ?_
          rw [zu_k (by omega), hq2 _ (by omega)]
          refine wp_iload (q := 57) dX6_placeEach_55 0 rfl rfl ?_
          refine wp_cvx (q := 60) (sp_without (d := 0) (zRt_fr hR hM3) (zgd_lt hlt (by omega)) (zgd_lt hlt (by omega)) (show i < n by omega)) zm_X6_without zl_RX6_65 dX6_placeEach_57 rfl (by omega) (Nat.le_of_ble_eq_true rfl) zsh_167 rfl rfl ?_
          refine WP.sub (loc' := [(5, _), (0, _), (1, _), (2, _), (3, _)]) [0, 1, 2, 3, 4] rfl ?_
          refine rest _ ?_
          rw [zps, if_neg (by omega), hps, zgd_e, zgd_l (by omega), zgd_l (by omega)]
        · skip
          refine wp_lconst (q := 35) dX6_placeEach_34 zq_lconst_0 rfl ?_
          refine wp_goto (tgt := 60) dX6_placeEach_35 (by decide) ?_
          refine WP.sub (loc' := [(5, _), (0, _), (1, _), (2, _), (3, _)]) [0, 1, 2, 3, 4] rfl ?_
          refine rest 0 ?_
          rw [zps, if_pos (by omega), hps]
  refine wp_iconst (q := 1) dX6_placeEach_0 zq_iconst_1 rfl ?_
  refine wp_istore (q := 3) (loc' := [(5, _), (0, _), (1, _), (2, _), (3, _)]) dX6_placeEach_1 (by decide) rfl rfl ?_
  refine WP.sub (loc' := [(5, _), (0, _), (1, _), (2, _), (3, _)]) [0, 1, 2, 3, 4] rfl ?_
  exact loop (n - 1) 1 M L a (by omega) (Nat.le_refl _) hq ha hA (fun _ _ _ => rfl) (fun _ _ => rfl) (fun _ _ _ => rfl)

