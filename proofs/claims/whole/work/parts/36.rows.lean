set_option maxHeartbeats 4000000 in
set_option maxRecDepth 100000 in
theorem sp_goOn1 {d t n k tk : Nat} {M : zMI} {L : zML} {tb : zTb} {v : Nat → Nat} {q : List Nat} {a : Nat × List Nat} (hpl : ∀ k', k = k' + 1 → Sy yX6_placeEach YX6_placeEach d [.ref 167, .int (nI q.length), .int (nI tk), .long (lN (zps (zW tb v) q q.length))] M L (zRf t) (fun v0 M' L' R' => zRP M L n t q ((zxt n (k' + 1) q).foldl (zbt (zW tb v) n) a) v0 M' L' R')) (hd : 2 ≤ d) (h2 : 2 ≤ n) (hR : zRt M n tb v) (hq : zRq M q) (hl : q.length + k = n) (h1 : 1 ≤ q.length) (hlt : ∀ x, x ∈ q → x < n) (ha : zRb M L n a) : Sy yX6_goOn YX6_goOn (d + 1) [.ref 167, .int (nI q.length), .int (nI tk), .long (lN (zps (zW tb v) q q.length))] M L (zRf t) (fun v0 M' L' R' => zRP M L n t q ((zxt n k q).foldl (zbt (zW tb v) n) a) v0 M' L' R') := by
  refine Sp.of (by decide +kernel) rfl (fun h => by first | exact h | cases h) (Nat.le_of_ble_eq_true rfl) ?_
  intro w G
  have h8 := hR.2.1
  have w3 := zps_le (zW_le tb v) q q.length
  obtain ⟨f1, f2, f3⟩ := id ha
  refine wp_lload_n (q := 1) dX6_goOn_0 3 rfl rfl ?_
  refine wp_aload_n (q := 2) dX6_goOn_1 0 rfl rfl ?_
  refine wp_getL (q := 5) dX6_goOn_2 zf_RX6_28 rfl zsh_167 rfl ?_
  rw [f1]
  refine wp_lcmp_geN (tgt := 15) (q := 9) dX6_goOn_5 rfl dX6_goOn_6 (by decide) rfl (by omega) (by omega) (fun hge => ?_) (fun hge => ?_)
  · skip
    have hz : (zxt n k q).foldl (zbt (zW tb v) n) a = a := zprune (F := a.1) (B := a.2) (zW tb v) hl hge
    rw [hz]
    exact wp_return dX6_goOn_15 rfl ⟨rfl, ⟨rfl, rfl, ha, fun _ _ _ => rfl, fun _ _ => rfl, fun _ _ _ => rfl⟩⟩ rfl rfl
  · skip
    refine wp_iload_n (q := 10) dX6_goOn_9 1 rfl rfl ?_
    refine wp_bipush (q := 12) dX6_goOn_10 zq_bipush_8 rfl ?_
    refine wp_icmp_leN (tgt := 16) (q := 15) dX6_goOn_12 (by decide) rfl (by omega) (by omega) (fun _ => ?_) (fun hn => absurd hn (by omega))
    refine wp_iload_n (q := 17) dX6_goOn_16 1 rfl rfl ?_
    refine wp_aload_n (q := 18) dX6_goOn_17 0 rfl rfl ?_
    refine wp_getI (q := 21) dX6_goOn_18 zf_RX6_21 rfl zsh_167 rfl ?_
    rw [hR.1]
    refine wp_icmp_ltN (tgt := 32) (q := 24) dX6_goOn_21 (by decide) rfl (by omega) (by omega) (fun hp => ?_) (fun hp => ?_)
    · skip
      obtain ⟨k', rfl⟩ : ∃ k', k = k' + 1 := ⟨k - 1, by omega⟩
      refine wp_aload_n (q := 33) dX6_goOn_32 0 rfl rfl ?_
      refine wp_iload_n (q := 34) dX6_goOn_33 1 rfl rfl ?_
      refine wp_iload_n (q := 35) dX6_goOn_34 2 rfl rfl ?_
      refine wp_lload_n (q := 36) dX6_goOn_35 3 rfl rfl ?_
      refine wp_cvy (q := 39) (hpl k' rfl) zm_X6_placeEach zl_RX6_62 dX6_goOn_36 rfl (by omega) (Nat.le_of_ble_eq_true rfl) zsh_167 rfl rfl ?_
      rintro _ M4 L4 _ ⟨rfl, rfl, hb4, hL4, hf40, hf4⟩
      exact wp_return dX6_goOn_39 rfl ⟨rfl, ⟨rfl, rfl, hb4, hL4, hf40, hf4⟩⟩ rfl rfl
    · skip
      obtain rfl : k = 0 := by omega
      have e : q.length = n := hl
      refine wp_aload_n (q := 25) dX6_goOn_24 0 rfl rfl ?_
      refine wp_lload_n (q := 26) dX6_goOn_25 3 rfl rfl ?_
      rw [e]
      refine wp_cvy (q := 29) (sp_close (d := 0) hR h2 hq e hlt ha) zm_X6_close zl_RX6_58 dX6_goOn_26 rfl (by omega) (Nat.le_of_ble_eq_true rfl) zsh_167 rfl rfl ?_
      rintro _ M4 L4 _ ⟨rfl, rfl, hb4, hL4, hf4⟩
      refine wp_goto (tgt := 39) dX6_goOn_29 (by decide) ?_
      exact wp_return dX6_goOn_39 rfl ⟨rfl, ⟨rfl, rfl, hb4, hL4, fun i hi => congrFun (hf4 170 (by decide)) i, fun x x1 x2 => hf4 x x2⟩⟩ rfl rfl
theorem sp_goOn {t n : Nat} {tb : zTb} {v : Nat → Nat} (h2 : 2 ≤ n) : ∀ (k d : Nat) (M : zMI) (L : zML) (q : List Nat) (tk : Nat) (a : Nat × List Nat), 2 * k + 2 ≤ d → zRt M n tb v → zRq M q → q.length + k = n → 1 ≤ q.length → (∀ x, x ∈ q → x < n) → tk < 256 → (∀ x, x < 8 → tk.testBit x = q.contains x) → zRb M L n a → Sy yX6_goOn YX6_goOn (d + 1) [.ref 167, .int (nI q.length), .int (nI tk), .long (lN (zps (zW tb v) q q.length))] M L (zRf t) (fun v0 M' L' R' => zRP M L n t q ((zxt n k q).foldl (zbt (zW tb v) n) a) v0 M' L' R') := by
  intro k
  induction k with
  | zero =>
    intro d M L q tk a hd hR hq hl h1 hlt htk ht ha
    exact sp_goOn1 (fun k' hk => absurd hk (by omega)) (by omega) h2 hR hq hl h1 hlt ha
  | succ k ih =>
    intro d M L q tk a hd hR hq hl h1 hlt htk ht ha
    refine sp_goOn1 (fun k' hk => ?_) (by omega) h2 hR hq hl h1 hlt ha
    obtain rfl : k = k' := by omega
    exact sp_placeEach (dd := d - 2) (by omega) (fun M L q tk a b1 b2 b3 b4 b5 b6 b7 b8 => ih (d - 2) M L q tk a (by omega) b1 b2 b3 b4 b5 b6 b7 b8) hR hq hl h1 hlt htk ht ha rfl
set_option maxHeartbeats 4000000 in
set_option maxRecDepth 100000 in
theorem sp_searchK {d : Nat} {M : zMI} {L : zML} {R : zMR} {o : Nat} (hk : M 167 7 = nI 1) : Sx yX6_search YX6_search (d) [.ref 167, .ref o] M L R (none) M L R := by
  refine Sp.of (by decide +kernel) rfl (fun h => by first | exact h | cases h) (Nat.le_of_ble_eq_true rfl) ?_
  intro w G
  refine wp_aload_n (q := 1) dX6_search_0 0 rfl rfl ?_
  refine wp_getI (q := 4) dX6_search_1 zf_RX6_32 rfl zsh_167 rfl ?_
  rw [hk]
  refine wp_if_eqN (tgt := 8) (q := 7) dX6_search_4 (by decide) rfl (by omega) (fun hn => absurd hn (by omega)) (fun _ => ?_)
  exact wp_return dX6_search_7 rfl ⟨rfl, rfl, rfl, rfl, rfl⟩ rfl rfl
set_option maxHeartbeats 4000000 in
set_option maxRecDepth 100000 in
theorem sp_search {d t n : Nat} {M : zMI} {L : zML} {tb : zTb} {v : Nat → Nat} (hT : zTab t) (hTM : zTM M t n tb) (hv : zV n v) (hr : zSR M 43 n v) (h6 : zPM M) (hk : M 167 7 = nI 0) (h2 : 2 ≤ n) : Sy yX6_search YX6_search (d + 25) [.ref 167, .ref 43] M L (zRf t) (fun v0 M' L' R' => v0 = none ∧ R' = zRf t ∧ zPM M' ∧ M' 167 7 = nI 1 ∧ zRb M' L' n ((zxt n (n - 1) [0]).foldl (zbt (zW tb v) n) (1000000000000, [])) ∧ (∀ o k, o ≠ 167 ∨ k ≠ 6 → L' o k = L o k) ∧ ∀ x, ¬ zPx t x → (x < 167 ∨ 171 < x) → M' x = M x) := by
  refine Sp.of (by decide +kernel) rfl (fun h => by first | exact h | cases h) (Nat.le_of_ble_eq_true rfl) ?_
  intro w G
  have h8 := hv.1
  have ht2 : t = 10 ∨ t = 24 := hT
  have hot : zSt 43 := Or.inl rfl
  have nx : ∀ x, (t ≤ x ∧ x ≤ t + 12 ∧ x ≠ t + 10) ∨ (43 ≤ x ∧ x ≠ 151 ∧ x ≠ 152) → ¬ zPx t x := by
    intro x hx c
    rcases c with c | c | c | c <;> omega
  have loop : ∀ k i (M2 : zMI), i + k = n → zPM M2 → M2 167 7 = nI 1 → M2 167 4 = nI n → (∀ r l, r < i → l < n → M2 168 (8 * r + l) = nI (zoR tb v r l) ∧ M2 169 (8 * r + l) = nI (zoL tb v r l)) → (∀ x, ¬ zPx t x → (x < 167 ∨ 171 < x) → M2 x = M x) → WP w YX6_search (d + 25, SS, 0, 0) G (some (zXp (fun v0 M' L' R' => v0 = none ∧ R' = zRf t ∧ zPM M' ∧ M' 167 7 = nI 1 ∧ zRb M' L' n ((zxt n (n - 1) [0]).foldl (zbt (zW tb v) n) (1000000000000, [])) ∧ (∀ o k, o ≠ 167 ∨ k ≠ 6 → L' o k = L o k) ∧ ∀ x, ¬ zPx t x → (x < 167 ∨ 171 < x) → M' x = M x))) 23 [(2, .int (nI i)), (0, .ref 167), (1, .ref 43)] [] SS M2 L (zRf t) := by
    intro k
    induction k with
    | zero =>
      intro i M2 hi hp k7 k4 hc hf
      refine wp_iload_n (q := 24) dX6_search_23 0 rfl rfl ?_
      refine wp_aload_n (q := 25) dX6_search_24 1 rfl rfl ?_
      refine wp_getI (q := 28) dX6_search_25 zf_RX6_21 rfl zsh_167 rfl ?_
      rw [k4]
      refine wp_icmp_geN (tgt := 103) (q := 31) dX6_search_28 (by decide) rfl (by omega) (by omega) (fun _ => ?_) (fun hn => absurd hn (by omega))
      refine wp_aload_n (q := 104) dX6_search_103 1 rfl rfl ?_
      refine wp_ldc2_w (q := 107) dX6_search_104 zk_RX6_52 rfl ?_
      rw [zlitL 1000000000000]
      refine wp_putL (q := 110) dX6_search_107 zf_RX6_28 rfl zsh_167 rfl ?_
      refine wp_aload_n (q := 111) dX6_search_110 1 rfl rfl ?_
      refine wp_getR (q := 114) dX6_search_111 zf_RX6_18 rfl zsh_167 (zr_167_3 _) rfl ?_
      refine wp_iconst (q := 115) dX6_search_114 zq_iconst_0 rfl ?_
      refine wp_iconst (q := 116) dX6_search_115 zq_iconst_0 rfl ?_
      refine wp_iast (q := 117) _ dX6_search_116 zsh_170 rfl (by omega) (by decide) rfl ?_
      refine wp_aload_n (q := 118) dX6_search_117 1 rfl rfl ?_
      refine wp_iconst (q := 119) dX6_search_118 zq_iconst_1 rfl ?_
      refine wp_iconst (q := 120) dX6_search_119 zq_iconst_1 rfl ?_
      refine wp_lconst (q := 121) dX6_search_120 zq_lconst_0 rfl ?_
      have hin : i = n := by omega
      subst hin
      have hc0 : zRt (zu M2 170 0 (nI 0)) i tb v := ⟨by rw [zu_ne (by decide)]; exact k4, h8, fun r l hr hl => by rw [zu_ne (by decide), zu_ne (by decide)]; exact hc r l hr hl⟩
      have hg : Sy yX6_goOn YX6_goOn (d + 23 + 1) [.ref 167, .int (nI 1), .int (nI 1), .long (lN 0)] (zu M2 170 0 (nI 0)) (zu L 167 6 (lN 1000000000000)) (zRf t) (fun v0 M' L' R' => zRP (zu M2 170 0 (nI 0)) (zu L 167 6 (lN 1000000000000)) i t [0] ((zxt i (i - 1) [0]).foldl (zbt (zW tb v) i) (1000000000000, [])) v0 M' L' R') := by
        refine sp_goOn h2 (i - 1) (d + 23) _ _ [0] 1 (1000000000000, []) (by omega) hc0 (fun y hy => ?_) (show 1 + (i - 1) = i by omega) (Nat.le_refl _) (fun x hx => ?_) (by decide) ?_ ⟨zu_s, Nat.le_refl _, fun h => absurd h (Nat.lt_irrefl _)⟩
        · have : y = 0 := Nat.lt_one_iff.mp hy
          subst this
          rw [zu_s]
          rfl
        · rw [List.mem_singleton] at hx
          omega
        · decide
      refine wp_cvy (q := 124) (hg) zm_X6_goOn zl_RX6_54 dX6_search_121 rfl (by omega) (Nat.le_of_ble_eq_true rfl) zsh_167 rfl rfl ?_
      rintro _ M4 L4 _ ⟨rfl, rfl, hb4, hL4, hf40, hf4⟩
      refine wp_return dX6_search_124 rfl ⟨rfl, ⟨rfl, rfl, fun y y1 y2 => ?_, ?_, hb4, fun o k hk => ?_, fun x x1 x2 => ?_⟩⟩ rfl rfl
      · rw [hf4 151 (by decide) (by decide), zu_ne (by decide)]; exact hp y y1 y2
      · rw [hf4 167 (by decide) (by decide), zu_ne (by decide)]; exact k7
      · rw [hL4 o k hk]
        by_cases e : o = 167
        · subst e
          exact zu_k (by omega)
        · exact congrFun (zu_ne e) k
      · rw [hf4 x (by omega) (by omega), zu_ne (by omega)]; exact hf x x1 x2
    | succ k ih =>
      intro i M2 hi hp k7 k4 hc hf
      refine wp_iload_n (q := 24) dX6_search_23 0 rfl rfl ?_
      refine wp_aload_n (q := 25) dX6_search_24 1 rfl rfl ?_
      refine wp_getI (q := 28) dX6_search_25 zf_RX6_21 rfl zsh_167 rfl ?_
      rw [k4]
      refine wp_icmp_geN (tgt := 103) (q := 31) dX6_search_28 (by decide) rfl (by omega) (by omega) (fun hn => absurd hn (by omega)) (fun _ => ?_)
      have inner : ∀ kk j (M3 : zMI), j + kk = n → zPM M3 → M3 167 7 = nI 1 → M3 167 4 = nI n → (∀ r l, r < i ∨ (r = i ∧ l < j) → l < n → M3 168 (8 * r + l) = nI (zoR tb v r l) ∧ M3 169 (8 * r + l) = nI (zoL tb v r l)) → (∀ x, ¬ zPx t x → (x < 167 ∨ 171 < x) → M3 x = M x) → WP w YX6_search (d + 25, SS, 0, 0) G (some (zXp (fun v0 M' L' R' => v0 = none ∧ R' = zRf t ∧ zPM M' ∧ M' 167 7 = nI 1 ∧ zRb M' L' n ((zxt n (n - 1) [0]).foldl (zbt (zW tb v) n) (1000000000000, [])) ∧ (∀ o k, o ≠ 167 ∨ k ≠ 6 → L' o k = L o k) ∧ ∀ x, ¬ zPx t x → (x < 167 ∨ 171 < x) → M' x = M x))) 33 [(3, .int (nI j)), (2, .int (nI i)), (0, .ref 167), (1, .ref 43)] [] SS M3 L (zRf t) := by
        intro kk
        induction kk with
        | zero =>
          intro j M3 hj hp3 q7 q4 hc3 hf3
          refine wp_iload_n (q := 34) dX6_search_33 0 rfl rfl ?_
          refine wp_aload_n (q := 35) dX6_search_34 2 rfl rfl ?_
          refine wp_getI (q := 38) dX6_search_35 zf_RX6_21 rfl zsh_167 rfl ?_
          rw [q4]
          refine wp_icmp_geN (tgt := 97) (q := 41) dX6_search_38 (by decide) rfl (by omega) (by omega) (fun _ => ?_) (fun hn => absurd hn (by omega))
          refine wp_iincN (q := 100) (loc' := [(2, _), (3, _), (0, _), (1, _)]) (n := 1) dX6_search_97 rfl 1 rfl (by decide) rfl rfl ?_
          refine wp_goto (tgt := 23) dX6_search_100 (by decide) ?_
          refine WP.sub (loc' := [(2, _), (0, _), (1, _)]) [0, 2, 3] rfl ?_
          exact ih (i + 1) M3 (by omega) hp3 q7 q4 (fun r l hr hl => hc3 r l (by omega) hl) hf3
        | succ kk ihk =>
          intro j M3 hj hp3 q7 q4 hc3 hf3
          have hTM3 := zTM_fr (M' := M3) hTM (fun x a1 a2 a3 => hf3 x (nx x (Or.inl ⟨a1, a2, a3⟩)) (by omega))
          have hr3 := zSR_fr (M' := M3) hr (fun x a1 a2 => hf3 x (nx x (Or.inr ⟨by omega, by omega, by omega⟩)) (by omega))
          refine wp_iload_n (q := 34) dX6_search_33 0 rfl rfl ?_
          refine wp_aload_n (q := 35) dX6_search_34 2 rfl rfl ?_
          refine wp_getI (q := 38) dX6_search_35 zf_RX6_21 rfl zsh_167 rfl ?_
          rw [q4]
          refine wp_icmp_geN (tgt := 97) (q := 41) dX6_search_38 (by decide) rfl (by omega) (by omega) (fun hn => absurd hn (by omega)) (fun _ => ?_)
          refine wp_aload_n (q := 42) dX6_search_41 2 rfl rfl ?_
          refine wp_getR (q := 45) dX6_search_42 zf_RX6_36 rfl zsh_167 (zr_167_0 _) rfl ?_
          refine wp_aload_n (q := 46) dX6_search_45 3 rfl rfl ?_
          refine wp_iload_n (q := 47) dX6_search_46 1 rfl rfl ?_
          refine wp_iload_n (q := 48) dX6_search_47 0 rfl rfl ?_
          refine wp_cvy (q := 51) (sp_work (d := 0) hT hot hTM3 hv hr3 (show i < n by omega) (show j < n by omega) hp3) zm_X4_work zl_RX6_43 dX6_search_48 rfl (by omega) (Nat.le_of_ble_eq_true rfl) zsh_150 rfl rfl ?_
          rintro _ M4 _ _ ⟨rfl, rfl, rfl, -, -, -, -, o4, o5, -, hp4, hf4⟩
          refine wp_aload_n (q := 52) dX6_search_51 2 rfl rfl ?_
          refine wp_getR (q := 55) dX6_search_52 zf_RX6_9 rfl zsh_167 (zr_167_1 _) rfl ?_
          refine wp_bipush (q := 57) dX6_search_55 zq_bipush_8 rfl ?_
          refine wp_iload_n (q := 58) dX6_search_57 1 rfl rfl ?_
          refine wp_imulN (q := 59) dX6_search_58 rfl ?_
          refine wp_iload_n (q := 60) dX6_search_59 0 rfl rfl ?_
          refine wp_iaddN (q := 61) dX6_search_60 rfl ?_
          refine wp_aload_n (q := 62) dX6_search_61 2 rfl rfl ?_
          refine wp_getR (q := 65) dX6_search_62 zf_RX6_36 rfl zsh_167 (zr_167_0 _) rfl ?_
          refine wp_getR (q := 68) dX6_search_65 zf_RX6_49 rfl zsh_150 (zr_150_2 _) rfl ?_
          refine wp_iconst (q := 69) dX6_search_68 zq_iconst_4 rfl ?_
          refine wp_iald (q := 70) _ dX6_search_69 zsh_152 rfl (by omega) (by decide) rfl ?_
          rw [o4]
          refine wp_iast (q := 71) _ dX6_search_70 zsh_168 rfl (by omega) (by decide) rfl ?_
          refine wp_aload_n (q := 72) dX6_search_71 2 rfl rfl ?_
          refine wp_getR (q := 75) dX6_search_72 zf_RX6_15 rfl zsh_167 (zr_167_2 _) rfl ?_
          refine wp_bipush (q := 77) dX6_search_75 zq_bipush_8 rfl ?_
          refine wp_iload_n (q := 78) dX6_search_77 1 rfl rfl ?_
          refine wp_imulN (q := 79) dX6_search_78 rfl ?_
          refine wp_iload_n (q := 80) dX6_search_79 0 rfl rfl ?_
          refine wp_iaddN (q := 81) dX6_search_80 rfl ?_
          refine wp_aload_n (q := 82) dX6_search_81 2 rfl rfl ?_
          refine wp_getR (q := 85) dX6_search_82 zf_RX6_36 rfl zsh_167 (zr_167_0 _) rfl ?_
          refine wp_getR (q := 88) dX6_search_85 zf_RX6_49 rfl zsh_150 (zr_150_2 _) rfl ?_
          refine wp_iconst (q := 89) dX6_search_88 zq_iconst_5 rfl ?_
          refine wp_iald (q := 90) _ dX6_search_89 zsh_152 rfl (by omega) (by decide) rfl ?_
          rw [zu_ne (by decide), o5]
          refine wp_iast (q := 91) _ dX6_search_90 zsh_169 rfl (by omega) (by decide) rfl ?_
          refine wp_iincN (q := 94) (loc' := [(3, _), (2, _), (0, _), (1, _)]) (n := 1) dX6_search_91 rfl 0 rfl (by decide) rfl rfl ?_
          refine wp_goto (tgt := 33) dX6_search_94 (by decide) ?_
          refine WP.sub (loc' := [(3, _), (2, _), (0, _), (1, _)]) [0, 1, 2, 3] rfl ?_
          have g4 : ∀ x, 153 ≤ x → M4 x = M3 x := fun x hx => hf4 x (nx x (Or.inr ⟨by omega, by omega, by omega⟩))
          refine ihk (j + 1) _ (by omega) (fun y y1 y2 => by rw [zu_ne (by decide), zu_ne (by decide)]; exact hp4 y y1 y2) (by rw [zu_ne (by decide), zu_ne (by decide), g4 167 (by decide)]; exact q7) (by rw [zu_ne (by decide), zu_ne (by decide), g4 167 (by decide)]; exact q4) (fun r l hrl hl => ?_) (fun x x1 x2 => by rw [zu_ne (by omega), zu_ne (by omega)]; exact (hf4 x x1).trans (hf3 x x1 x2))
          by_cases e : r = i ∧ l = j
          · obtain ⟨e1, e2⟩ := e
            subst e1 e2
            rw [zu_s, zu_ne (by decide), zu_s]
            exact ⟨rfl, rfl⟩
          · have ne : 8 * r + l ≠ 8 * i + j := by omega
            rw [zu_ne (by decide), zu_k ne, zu_k ne, zu_ne (by decide), g4 168 (by decide), g4 169 (by decide)]
            exact hc3 r l (by omega) hl
      refine wp_iconst (q := 32) dX6_search_31 zq_iconst_0 rfl ?_
      refine wp_istore_n (q := 33) (loc' := [(3, _), (2, _), (0, _), (1, _)]) dX6_search_32 rfl (by decide) rfl rfl ?_
      refine WP.sub (loc' := [(3, _), (2, _), (0, _), (1, _)]) [0, 1, 2, 3] rfl ?_
      exact inner n 0 M2 (Nat.zero_add _) hp k7 k4 (fun r l hr hl => hc r l (by omega) hl) hf
  refine wp_aload_n (q := 1) dX6_search_0 0 rfl rfl ?_
  refine wp_getI (q := 4) dX6_search_1 zf_RX6_32 rfl zsh_167 rfl ?_
  rw [hk]
  refine wp_if_eqN (tgt := 8) (q := 7) dX6_search_4 (by decide) rfl (by omega) (fun _ => ?_) (fun hn => absurd hn (by omega))
  refine wp_aload_n (q := 9) dX6_search_8 0 rfl rfl ?_
  refine wp_iconst (q := 10) dX6_search_9 zq_iconst_1 rfl ?_
  refine wp_putZ (q := 13) dX6_search_10 zf_RX6_32 rfl (Or.inr rfl) zsh_167 rfl ?_
  refine wp_aload_n (q := 14) dX6_search_13 0 rfl rfl ?_
  refine wp_aload_n (q := 15) dX6_search_14 1 rfl rfl ?_
  refine wp_getI (q := 18) dX6_search_15 zf_RX6_40 rfl zsh_43 rfl ?_
  rw [zu_ne (by decide), hr.1]
  refine wp_putI (q := 21) dX6_search_18 zf_RX6_21 rfl zsh_167 rfl ?_
  refine wp_iconst (q := 22) dX6_search_21 zq_iconst_0 rfl ?_
  refine wp_istore_n (q := 23) (loc' := [(2, _), (0, _), (1, _)]) dX6_search_22 rfl (by decide) rfl rfl ?_
  refine WP.sub (loc' := [(2, _), (0, _), (1, _)]) [0, 1, 2] rfl ?_
  refine loop n 0 _ (Nat.zero_add _) (fun y y1 y2 => ?_) ?_ ?_ (fun r l hr hl => absurd hr (Nat.not_lt_zero _)) (fun x x1 x2 => ?_)
  · rw [zu_ne (by decide), zu_ne (by decide)]; exact h6 y y1 y2
  · rw [zu_k (by decide), zu_s]
  · rw [zu_s]
  · rw [zu_ne (by omega), zu_ne (by omega)]

