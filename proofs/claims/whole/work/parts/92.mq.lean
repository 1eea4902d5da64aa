def zBa (a : Nat) (l : List Nat) : Nat := l.foldl (fun v c => 27 * v + c) a
theorem zBa_d : ∀ (l : List Nat) (a : Nat), (∀ c, c ∈ l → 1 ≤ c ∧ c ≤ 26) → zBa a l / 27 ^ l.length = a
  | [], a, _ => by show a / 27 ^ 0 = a; rw [Nat.pow_zero, Nat.div_one]
  | c :: r, a, h => by
    show zBa (27 * a + c) r / 27 ^ (r.length + 1) = a
    rw [Nat.pow_succ, ← Nat.div_div_eq_div_mul, zBa_d r (27 * a + c) (fun c hc => h c (List.mem_cons_of_mem _ hc))]
    have := h c (List.mem_cons_self ..)
    omega
theorem zBa_k : ∀ (l : List Nat) (a k : Nat), (∀ c, c ∈ l → 1 ≤ c ∧ c ≤ 26) → k < l.length → zBa a l / 27 ^ (l.length - 1 - k) % 27 = l.getD k 0
  | [], a, k, _, hk => absurd hk (Nat.not_lt_zero _)
  | c :: r, a, 0, h, _ => by
    show zBa (27 * a + c) r / 27 ^ (r.length + 1 - 1 - 0) % 27 = c
    rw [show r.length + 1 - 1 - 0 = r.length by omega, zBa_d r (27 * a + c) (fun c hc => h c (List.mem_cons_of_mem _ hc))]
    have := h c (List.mem_cons_self ..)
    omega
  | c :: r, a, k + 1, h, hk => by
    have h1 := zBa_k r (27 * a + c) k (fun c hc => h c (List.mem_cons_of_mem _ hc)) (by have : k + 1 < r.length + 1 := hk; omega)
    show zBa (27 * a + c) r / 27 ^ (r.length + 1 - 1 - (k + 1)) % 27 = r.getD k 0
    rw [show r.length + 1 - 1 - (k + 1) = r.length - 1 - k by omega]
    exact h1
theorem zLE_k : ∀ (l : List Nat) (k : Nat), (∀ c, c ∈ l → 1 ≤ c ∧ c ≤ 26) → zLE l / 27 ^ k % 27 = l.getD k 0
  | [], k, _ => by show 0 / 27 ^ k % 27 = 0; rw [Nat.zero_div]
  | c :: r, 0, h => by
    show (c + 27 * zLE r) / 27 ^ 0 % 27 = c
    have := h c (List.mem_cons_self ..)
    rw [Nat.pow_zero, Nat.div_one]
    omega
  | c :: r, k + 1, h => by
    have := h c (List.mem_cons_self ..)
    show (c + 27 * zLE r) / 27 ^ (k + 1) % 27 = r.getD k 0
    rw [Nat.pow_succ, Nat.mul_comm (27 ^ k) 27, ← Nat.div_div_eq_div_mul, show (c + 27 * zLE r) / 27 = zLE r by omega]
    exact zLE_k r k (fun c hc => h c (List.mem_cons_of_mem _ hc))
-- what letters need of a name: its length, and its numbers
theorem zNm_u {x y : Nat} (h : zNm x y) : ∃ len, 1 ≤ len ∧ len ≤ 6 ∧ y < 27 ^ len ∧ (∀ i, i < len → y / 27 ^ i ≠ 0) ∧ (∀ k, k < len → y / 27 ^ (len - 1 - k) % 27 = x / 27 ^ k % 27) ∧ ∀ k, len ≤ k → x / 27 ^ k % 27 = 0 := by
  obtain ⟨l, h1, h6, hc, rfl, rfl⟩ := h
  have e : zBE l = zBa 0 l := rfl
  have hd := zBa_d l 0 hc
  rw [← e] at hd
  have hlt : zBE l < 27 ^ l.length := by
    rcases Nat.div_eq_zero_iff.mp hd with h | h
    · exact absurd h (Nat.ne_of_gt (Nat.pow_pos (by decide)))
    · exact h
  refine ⟨l.length, h1, h6, hlt, fun i hi e0 => ?_, fun k hk => ?_, fun k hk => ?_⟩
  · have h0 := zBa_k l 0 0 hc (by omega)
    rw [← e, show l.length - 1 - 0 = i + (l.length - 1 - i) by omega, Nat.pow_add, ← Nat.div_div_eq_div_mul, e0, Nat.zero_div] at h0
    cases l with
    | nil => exact absurd h1 (by decide)
    | cons c r =>
      have := hc c (List.mem_cons_self ..)
      have h2 : 0 % 27 = c := h0
      omega
  · rw [e, zBa_k l 0 k hc hk, zLE_k l k hc]
  · rw [zLE_k l k hc, List.getD_eq_getElem?_getD, List.getElem?_eq_none hk]
    rfl
set_option maxHeartbeats 4000000 in
set_option maxRecDepth 100000 in
theorem sp_mletter {d t n kd s k x0 : Nat} {M : zMI} {L : zML} {g : zGd} {v : Nat → Nat} {hs : List (Nat → Nat)} {m : zMs} (h : zMo M L n g v hs m) (hkd : kd = 0 ∧ s < n ∧ g.1 (wh v s) = x0 ∨ kd = 1 ∧ s < g.2.1 ∧ g.2.2.1 s = x0) (hk : k < 6) : Sy yX12_letter YX12_letter (d + 1) [.ref 177, .int (nI kd), .int (nI s), .int (nI k)] M L (zRf t) (zMn M L t n g v hs m (.int (nI (x0 / 27 ^ k % 27)))) := by
  refine Sp.of (by decide +kernel) rfl (fun h => by first | exact h | cases h) (Nat.le_of_ble_eq_true rfl) ?_
  intro w G
  have hn := h.1.1
  have hnw := h.1.2.1
  have h8 := hnw.1.1
  obtain ⟨b1, b2, b3, b4, b5, b6, b7⟩ := h.2.1
  have hs9 : s < 8 := by omega
  have hk9 : kd < 2 := by omega
  have tail : ∀ y, zNm x0 y → WP w YX12_letter (d + 1, SS, 0, 0) G (some (zXp (zMn M L t n g v hs m (.int (nI (x0 / 27 ^ k % 27)))))) 68 [(0, .ref 177), (1, .int (nI kd)), (2, .int (nI s)), (3, .int (nI k))] [.long (lN y)] SS M L (zRf t) := by
    intro y hy
    obtain ⟨len, l1, l6, ly, lp, lk, lz⟩ := zNm_u hy
    have h276 : 27 ^ len ≤ 27 ^ 6 := Nat.pow_le_pow_right (by decide) l6
    have h6 : 27 ^ 6 = 387420489 := by decide
    have yb : y < 387420489 := by omega
    have loop2 : ∀ q i, len - 1 - i = k + q → i + 1 ≤ len → k < len → WP w YX12_letter (d + 1, SS, 0, 0) G (some (zXp (zMn M L t n g v hs m (.int (nI (x0 / 27 ^ k % 27)))))) 112 [(7, .int (nI (len - 1 - i))), (4, .long (lN (y / 27 ^ i))), (0, .ref 177), (1, .int (nI kd)), (2, .int (nI s)), (3, .int (nI k)), (6, .int (nI len))] [] SS M L (zRf t) := by
      intro q
      induction q with
      | zero =>
        intro i hi hi2 hkl
        have hq : y / 27 ^ i ≤ y := Nat.div_le_self _ _
        rw [show i = len - 1 - k by omega]
        rw [show i = len - 1 - k by omega] at hq
        rw [show len - 1 - (len - 1 - k) = k by omega]
        refine wp_iload (q := 114) dX12_letter_112 0 rfl rfl ?_
        refine wp_iload_n (q := 115) dX12_letter_114 5 rfl rfl ?_
        refine wp_icmp_leN (tgt := 132) (q := 118) dX12_letter_115 (by decide) rfl (by omega) (by omega) (fun _ => ?_) (fun hn => absurd hn (by first | omega | exact fun h => h | exact fun h => h trivial))
        refine wp_lload (q := 134) dX12_letter_132 1 rfl rfl ?_
        refine wp_ldc2_w (q := 137) dX12_letter_134 zk_RX12_287 rfl ?_
        rw [zlitL 27]
        refine wp_lremN (q := 138) dX12_letter_137 (by omega) (by omega) (by omega) rfl ?_
        refine wp_l2iN (q := 139) dX12_letter_138 rfl ?_
        rw [lk k hkl]
        exact wp_ireturn dX12_letter_139 rfl ⟨rfl, ⟨rfl, rfl, h, zYf_r⟩⟩ rfl rfl
      | succ q ih =>
        intro i hi hi2 hkl
        have hq : y / 27 ^ i ≤ y := Nat.div_le_self _ _
        refine wp_iload (q := 114) dX12_letter_112 0 rfl rfl ?_
        refine wp_iload_n (q := 115) dX12_letter_114 5 rfl rfl ?_
        refine wp_icmp_leN (tgt := 132) (q := 118) dX12_letter_115 (by decide) rfl (by omega) (by omega) (fun hn => absurd hn (by first | omega | exact fun h => h | exact fun h => h trivial)) (fun _ => ?_)
        refine wp_lload (q := 120) dX12_letter_118 1 rfl rfl ?_
        refine wp_ldc2_w (q := 123) dX12_letter_120 zk_RX12_287 rfl ?_
        rw [zlitL 27]
        refine wp_ldivN (q := 124) dX12_letter_123 (by omega) (by omega) (by omega) rfl ?_
        rw [Nat.div_div_eq_div_mul, ← Nat.pow_succ, show len - 1 - i = len - 1 - (i + 1) + 1 by omega]
        refine wp_lstore (q := 126) (loc' := [(4, _), (7, _), (0, _), (1, _), (2, _), (3, _), (6, _)]) dX12_letter_124 (by decide) rfl rfl ?_
        refine wp_iincM (q := 129) (loc' := [(7, _), (4, _), (0, _), (1, _), (2, _), (3, _), (6, _)]) dX12_letter_126 1 rfl (by decide) rfl rfl ?_
        refine wp_goto (tgt := 112) dX12_letter_129 (by decide) ?_
        refine WP.sub (loc' := [(7, _), (4, _), (0, _), (1, _), (2, _), (3, _), (6, _)]) [0, 1, 2, 3, 4, 5, 6] rfl ?_
        exact ih (i + 1) (by omega) (by omega) hkl
    have loop1 : ∀ q i, i + q = len → WP w YX12_letter (d + 1, SS, 0, 0) G (some (zXp (zMn M L t n g v hs m (.int (nI (x0 / 27 ^ k % 27)))))) 77 [(7, .long (lN (y / 27 ^ i))), (6, .int (nI i)), (4, .long (lN y)), (0, .ref 177), (1, .int (nI kd)), (2, .int (nI s)), (3, .int (nI k))] [] SS M L (zRf t) := by
      intro q
      induction q with
      | zero =>
        intro i hi
        rw [show i = len by omega, Nat.div_eq_of_lt ly]
        refine wp_lload (q := 79) dX12_letter_77 0 rfl rfl ?_
        refine wp_lconst (q := 80) dX12_letter_79 zq_lconst_0 rfl ?_
        refine wp_lcmp_leN (tgt := 98) (q := 84) dX12_letter_80 rfl dX12_letter_81 (by decide) rfl (by omega) (by omega) (fun _ => ?_) (fun hn => absurd hn (by first | omega | exact fun h => h | exact fun h => h trivial))
        refine wp_iload_n (q := 99) dX12_letter_98 6 rfl rfl ?_
        refine wp_iload (q := 101) dX12_letter_99 1 rfl rfl ?_
        by_cases c : k < len
        · skip
          refine wp_icmp_ltN (tgt := 106) (q := 104) dX12_letter_101 (by decide) rfl (by omega) (by omega) (fun _ => ?_) (fun hn => absurd hn (by first | omega | exact fun h => h | exact fun h => h trivial))
          refine wp_iload (q := 108) dX12_letter_106 1 rfl rfl ?_
          refine wp_iconst (q := 109) dX12_letter_108 zq_iconst_1 rfl ?_
          refine wp_isubN (q := 110) dX12_letter_109 (by omega) rfl ?_
          refine wp_istore (q := 112) (loc' := [(7, _), (6, _), (4, _), (0, _), (1, _), (2, _), (3, _)]) dX12_letter_110 (by decide) rfl rfl ?_
          have := loop2 (len - 1 - k) 0 (by omega) (by omega) c
          rw [Nat.pow_zero, Nat.div_one] at this
          refine WP.sub (loc' := [(7, _), (4, _), (0, _), (1, _), (2, _), (3, _), (6, _)]) [0, 2, 3, 4, 5, 6, 1] rfl ?_
          exact this
        · skip
          refine wp_icmp_ltN (tgt := 106) (q := 104) dX12_letter_101 (by decide) rfl (by omega) (by omega) (fun hn => absurd hn (by first | omega | exact fun h => h | exact fun h => h trivial)) (fun _ => ?_)
          refine wp_iconst (q := 105) dX12_letter_104 zq_iconst_0 rfl ?_
          rw [lz k (by omega)]
          exact wp_ireturn dX12_letter_105 rfl ⟨rfl, ⟨rfl, rfl, h, zYf_r⟩⟩ rfl rfl
      | succ q ih =>
        intro i hi
        have hq : y / 27 ^ i ≤ y := Nat.div_le_self _ _
        have hp := lp i (by omega)
        refine wp_lload (q := 79) dX12_letter_77 0 rfl rfl ?_
        refine wp_lconst (q := 80) dX12_letter_79 zq_lconst_0 rfl ?_
        refine wp_lcmp_leN (tgt := 98) (q := 84) dX12_letter_80 rfl dX12_letter_81 (by decide) rfl (by omega) (by omega) (fun hn => absurd hn (by exact fun c => hp (Nat.le_zero.mp c))) (fun _ => ?_)
        refine wp_iincN (q := 87) (loc' := [(6, _), (7, _), (4, _), (0, _), (1, _), (2, _), (3, _)]) (n := 1) dX12_letter_84 rfl 1 rfl (by decide) rfl rfl ?_
        refine wp_lload (q := 89) dX12_letter_87 1 rfl rfl ?_
        refine wp_ldc2_w (q := 92) dX12_letter_89 zk_RX12_287 rfl ?_
        rw [zlitL 27]
        refine wp_ldivN (q := 93) dX12_letter_92 (by omega) (by omega) (by omega) rfl ?_
        rw [Nat.div_div_eq_div_mul, ← Nat.pow_succ]
        refine wp_lstore (q := 95) (loc' := [(7, _), (6, _), (4, _), (0, _), (1, _), (2, _), (3, _)]) dX12_letter_93 (by decide) rfl rfl ?_
        refine wp_goto (tgt := 77) dX12_letter_95 (by decide) ?_
        refine WP.sub (loc' := [(7, _), (6, _), (4, _), (0, _), (1, _), (2, _), (3, _)]) [0, 1, 2, 3, 4, 5, 6] rfl ?_
        exact ih (i + 1) (by omega)
    refine wp_lstore (q := 70) (loc' := [(4, _), (0, _), (1, _), (2, _), (3, _)]) dX12_letter_68 (by decide) rfl rfl ?_
    refine wp_iconst (q := 71) dX12_letter_70 zq_iconst_0 rfl ?_
    refine wp_istore (q := 73) (loc' := [(6, _), (4, _), (0, _), (1, _), (2, _), (3, _)]) dX12_letter_71 (by decide) rfl rfl ?_
    refine wp_lload (q := 75) dX12_letter_73 1 rfl rfl ?_
    refine wp_lstore (q := 77) (loc' := [(7, _), (6, _), (4, _), (0, _), (1, _), (2, _), (3, _)]) dX12_letter_75 (by decide) rfl rfl ?_
    have := loop1 len 0 (Nat.zero_add _)
    rw [Nat.pow_zero, Nat.div_one] at this
    refine WP.sub (loc' := [(7, _), (6, _), (4, _), (0, _), (1, _), (2, _), (3, _)]) [0, 1, 2, 3, 4, 5, 6] rfl ?_
    exact this
  refine wp_iload_n (q := 1) dX12_letter_0 1 rfl rfl ?_
  refine wp_i2l (q := 2) dX12_letter_1 rfl ?_
  refine wp_lconst (q := 3) dX12_letter_2 zq_lconst_0 rfl ?_
  refine wp_lconst (q := 4) dX12_letter_3 zq_lconst_1 rfl ?_
  refine wp_csx (q := 7) (sp_isIn (d := 0)) zm_X12_isIn zl_RX12_276 dX12_letter_4 rfl (by omega) (Nat.le_of_ble_eq_true rfl) rfl ?_
  rw [if_pos ((zis1 (m := 1) (by decide)).mpr (zin_i hk9 (by decide)))]
  refine wp_if_eqN (tgt := 42) (q := 10) dX12_letter_7 (by decide) rfl (by omega) (fun hn => absurd hn (by first | omega | exact fun h => h | exact fun h => h trivial)) (fun _ => ?_)
  rcases hkd with ⟨rfl, hs0, hx⟩ | ⟨rfl, hs0, hx⟩
  · skip
    refine wp_iload_n (q := 11) dX12_letter_10 2 rfl rfl ?_
    refine wp_i2l (q := 12) dX12_letter_11 rfl ?_
    refine wp_lconst (q := 13) dX12_letter_12 zq_lconst_0 rfl ?_
    refine wp_aload_n (q := 14) dX12_letter_13 0 rfl rfl ?_
    refine wp_getR (q := 17) dX12_letter_14 zf_RX12_93 rfl zsh_177 (zr_177_35 _) rfl ?_
    refine wp_iconst (q := 18) dX12_letter_17 zq_iconst_2 rfl ?_
    refine wp_iload_n (q := 19) dX12_letter_18 1 rfl rfl ?_
    refine wp_iaddN (q := 20) dX12_letter_19 rfl ?_
    refine wp_iald (q := 21) _ dX12_letter_20 zsh_204 rfl (by omega) (by decide) rfl ?_
    rw [hn]
    refine wp_iconst (q := 22) dX12_letter_21 zq_iconst_1 rfl ?_
    refine wp_isub (q := 23) dX12_letter_22 rfl ?_
    refine wp_i2l (q := 24) dX12_letter_23 rfl ?_
    refine wp_csx (q := 27) (sp_isIn (d := 0)) zm_X12_isIn zl_RX12_276 dX12_letter_24 rfl (by omega) (Nat.le_of_ble_eq_true rfl) rfl ?_
    rw [if_pos ((zis0 (m := n) (by omega)).mpr (zin_i hs0 (by omega)))]
    refine wp_if_eqN (tgt := 42) (q := 30) dX12_letter_27 (by decide) rfl (by omega) (fun hn => absurd hn (by first | omega | exact fun h => h | exact fun h => h trivial)) (fun _ => ?_)
    refine wp_iload_n (q := 31) dX12_letter_30 3 rfl rfl ?_
    refine wp_i2l (q := 32) dX12_letter_31 rfl ?_
    refine wp_lconst (q := 33) dX12_letter_32 zq_lconst_0 rfl ?_
    refine wp_ldc2_w (q := 36) dX12_letter_33 zk_RX12_475 rfl ?_
    rw [zlitL 5]
    refine wp_csx (q := 39) (sp_isIn (d := 0)) zm_X12_isIn zl_RX12_276 dX12_letter_36 rfl (by omega) (Nat.le_of_ble_eq_true rfl) rfl ?_
    rw [if_pos ((zis1 (m := 5) (by decide)).mpr (zin_i hk (by decide)))]
    refine wp_if_neN (tgt := 44) (q := 42) dX12_letter_39 (by decide) rfl (by omega) (fun _ => ?_) (fun hn => absurd hn (by first | omega | exact fun h => h | exact fun h => h trivial))
    refine wp_aload_n (q := 45) dX12_letter_44 0 rfl rfl ?_
    refine wp_getR (q := 48) dX12_letter_45 zf_RX12_96 rfl zsh_177 (zr_177_36 _) rfl ?_
    refine wp_bipush (q := 50) dX12_letter_48 zq_bipush_12 rfl ?_
    refine wp_iload_n (q := 51) dX12_letter_50 1 rfl rfl ?_
    refine wp_if_neN (tgt := 62) (q := 54) dX12_letter_51 (by decide) rfl (by omega) (fun hn => absurd hn (by first | omega | exact fun h => h | exact fun h => h trivial)) (fun _ => ?_)
    refine wp_aload_n (q := 55) dX12_letter_54 0 rfl rfl ?_
    refine wp_iload_n (q := 56) dX12_letter_55 2 rfl rfl ?_
    refine wp_cvx (q := 59) (sp_mwho (d := 0) hnw hs0) zm_X12_whoAt zl_RX12_411 dX12_letter_56 rfl (by omega) (Nat.le_of_ble_eq_true rfl) zsh_177 rfl rfl ?_
    have hwh := hnw.1.2.1 s hs0
    obtain ⟨y, hy1, hy2⟩ := b3 _ hwh
    refine wp_goto (tgt := 66) dX12_letter_59 (by decide) ?_
    refine wp_iaddN (q := 67) dX12_letter_66 rfl ?_
    refine wp_lald (q := 68) _ dX12_letter_67 zsh_205 rfl (by omega) (by decide) rfl ?_
    rw [hy1]
    rw [hx] at hy2
    refine WP.sub (loc' := [(0, _), (1, _), (2, _), (3, _)]) [0, 1, 2, 3] rfl ?_
    exact tail y hy2
  · skip
    refine wp_iload_n (q := 11) dX12_letter_10 2 rfl rfl ?_
    refine wp_i2l (q := 12) dX12_letter_11 rfl ?_
    refine wp_lconst (q := 13) dX12_letter_12 zq_lconst_0 rfl ?_
    refine wp_aload_n (q := 14) dX12_letter_13 0 rfl rfl ?_
    refine wp_getR (q := 17) dX12_letter_14 zf_RX12_93 rfl zsh_177 (zr_177_35 _) rfl ?_
    refine wp_iconst (q := 18) dX12_letter_17 zq_iconst_2 rfl ?_
    refine wp_iload_n (q := 19) dX12_letter_18 1 rfl rfl ?_
    refine wp_iaddN (q := 20) dX12_letter_19 rfl ?_
    refine wp_iald (q := 21) _ dX12_letter_20 zsh_204 rfl (by omega) (by decide) rfl ?_
    rw [b1]
    refine wp_iconst (q := 22) dX12_letter_21 zq_iconst_1 rfl ?_
    refine wp_isub (q := 23) dX12_letter_22 rfl ?_
    refine wp_i2l (q := 24) dX12_letter_23 rfl ?_
    refine wp_csx (q := 27) (sp_isIn (d := 0)) zm_X12_isIn zl_RX12_276 dX12_letter_24 rfl (by omega) (Nat.le_of_ble_eq_true rfl) rfl ?_
    rw [if_pos ((zis0 (m := g.2.1) (by omega)).mpr (zin_i hs0 (by omega)))]
    refine wp_if_eqN (tgt := 42) (q := 30) dX12_letter_27 (by decide) rfl (by omega) (fun hn => absurd hn (by first | omega | exact fun h => h | exact fun h => h trivial)) (fun _ => ?_)
    refine wp_iload_n (q := 31) dX12_letter_30 3 rfl rfl ?_
    refine wp_i2l (q := 32) dX12_letter_31 rfl ?_
    refine wp_lconst (q := 33) dX12_letter_32 zq_lconst_0 rfl ?_
    refine wp_ldc2_w (q := 36) dX12_letter_33 zk_RX12_475 rfl ?_
    rw [zlitL 5]
    refine wp_csx (q := 39) (sp_isIn (d := 0)) zm_X12_isIn zl_RX12_276 dX12_letter_36 rfl (by omega) (Nat.le_of_ble_eq_true rfl) rfl ?_
    rw [if_pos ((zis1 (m := 5) (by decide)).mpr (zin_i hk (by decide)))]
    refine wp_if_neN (tgt := 44) (q := 42) dX12_letter_39 (by decide) rfl (by omega) (fun _ => ?_) (fun hn => absurd hn (by first | omega | exact fun h => h | exact fun h => h trivial))
    refine wp_aload_n (q := 45) dX12_letter_44 0 rfl rfl ?_
    refine wp_getR (q := 48) dX12_letter_45 zf_RX12_96 rfl zsh_177 (zr_177_36 _) rfl ?_
    refine wp_bipush (q := 50) dX12_letter_48 zq_bipush_12 rfl ?_
    refine wp_iload_n (q := 51) dX12_letter_50 1 rfl rfl ?_
    refine wp_if_neN (tgt := 62) (q := 54) dX12_letter_51 (by decide) rfl (by omega) (fun _ => ?_) (fun hn => absurd hn (by first | omega | exact fun h => h | exact fun h => h trivial))
    obtain ⟨y, hy1, hy2⟩ := b4 _ hs0
    refine wp_bipush (q := 64) dX12_letter_62 zq_bipush_8 rfl ?_
    refine wp_iload_n (q := 65) dX12_letter_64 2 rfl rfl ?_
    refine wp_iaddN (q := 66) dX12_letter_65 rfl ?_
    refine wp_iaddN (q := 67) dX12_letter_66 rfl ?_
    refine wp_lald (q := 68) _ dX12_letter_67 zsh_205 rfl (by omega) (by decide) rfl ?_
    rw [show 12 + (8 + s) = 20 + s by omega, hy1]
    rw [hx] at hy2
    refine WP.sub (loc' := [(0, _), (1, _), (2, _), (3, _)]) [0, 1, 2, 3] rfl ?_
    exact tail y hy2
set_option maxHeartbeats 4000000 in
set_option maxRecDepth 100000 in
theorem sp_mletterN {d t n : Nat} {x y z : Int32} {M : zMI} {L : zML} {g : zGd} {v : Nat → Nat} {hs : List (Nat → Nat)} {m : zMs} (h : zMo M L n g v hs m) (hN : ¬ (zin z 6 ∧ ((x = 0 ∧ zin y n) ∨ (x = nI 1 ∧ zin y g.2.1)))) : Sy yX12_letter YX12_letter (d + 1) [.ref 177, .int x, .int y, .int z] M L (zRf t) (zMn M L t n g v hs m (.int (-1))) := by
  refine Sp.of (by decide +kernel) rfl (fun h => by first | exact h | cases h) (Nat.le_of_ble_eq_true rfl) ?_
  intro w G
  have hn := h.1.1
  have hnw := h.1.2.1
  have h8 := hnw.1.1
  obtain ⟨b1, b2, b3, b4, b5, b6, b7⟩ := h.2.1
  refine wp_iload_n (q := 1) dX12_letter_0 1 rfl rfl ?_
  refine wp_i2l (q := 2) dX12_letter_1 rfl ?_
  refine wp_lconst (q := 3) dX12_letter_2 zq_lconst_0 rfl ?_
  refine wp_lconst (q := 4) dX12_letter_3 zq_lconst_1 rfl ?_
  refine wp_csx (q := 7) (sp_isIn (d := 0)) zm_X12_isIn zl_RX12_276 dX12_letter_4 rfl (by omega) (Nat.le_of_ble_eq_true rfl) rfl ?_
  by_cases cx : zin x 2
  · rw [if_pos ((zis1 (m := 1) (by decide)).mpr cx)]
    obtain ⟨kd, hkd, rfl⟩ := zin_n (by decide) cx
    refine wp_if_eqN (tgt := 42) (q := 10) dX12_letter_7 (by decide) rfl (by omega) (fun hn => absurd hn (by first | omega | exact fun h => h | exact fun h => h trivial)) (fun _ => ?_)
    refine wp_iload_n (q := 11) dX12_letter_10 2 rfl rfl ?_
    refine wp_i2l (q := 12) dX12_letter_11 rfl ?_
    refine wp_lconst (q := 13) dX12_letter_12 zq_lconst_0 rfl ?_
    refine wp_aload_n (q := 14) dX12_letter_13 0 rfl rfl ?_
    refine wp_getR (q := 17) dX12_letter_14 zf_RX12_93 rfl zsh_177 (zr_177_35 _) rfl ?_
    refine wp_iconst (q := 18) dX12_letter_17 zq_iconst_2 rfl ?_
    refine wp_iload_n (q := 19) dX12_letter_18 1 rfl rfl ?_
    refine wp_iaddN (q := 20) dX12_letter_19 rfl ?_
    have hc : ∃ w, w ≤ 8 ∧ M 204 (2 + kd) = nI w ∧ (zin z 6 → ¬ zin y w) := by
      have hc : kd = 0 ∨ kd = 1 := by omega
      rcases hc with rfl | rfl
      · exact ⟨n, h8, hn, fun c1 c2 => hN ⟨c1, Or.inl ⟨rfl, c2⟩⟩⟩
      · exact ⟨g.2.1, by omega, b1, fun c1 c2 => hN ⟨c1, Or.inr ⟨rfl, c2⟩⟩⟩
    obtain ⟨w, hw8, hw1, hw2⟩ := hc
    refine wp_iald (q := 21) _ dX12_letter_20 zsh_204 rfl (by omega) (by decide) rfl ?_
    rw [hw1]
    refine wp_iconst (q := 22) dX12_letter_21 zq_iconst_1 rfl ?_
    refine wp_isub (q := 23) dX12_letter_22 rfl ?_
    refine wp_i2l (q := 24) dX12_letter_23 rfl ?_
    refine wp_csx (q := 27) (sp_isIn (d := 0)) zm_X12_isIn zl_RX12_276 dX12_letter_24 rfl (by omega) (Nat.le_of_ble_eq_true rfl) rfl ?_
    by_cases cy : zin y w
    · rw [if_pos ((zis0 (m := w) (by omega)).mpr cy)]
      refine wp_if_eqN (tgt := 42) (q := 30) dX12_letter_27 (by decide) rfl (by omega) (fun hn => absurd hn (by first | omega | exact fun h => h | exact fun h => h trivial)) (fun _ => ?_)
      refine wp_iload_n (q := 31) dX12_letter_30 3 rfl rfl ?_
      refine wp_i2l (q := 32) dX12_letter_31 rfl ?_
      refine wp_lconst (q := 33) dX12_letter_32 zq_lconst_0 rfl ?_
      refine wp_ldc2_w (q := 36) dX12_letter_33 zk_RX12_475 rfl ?_
      rw [zlitL 5]
      refine wp_csx (q := 39) (sp_isIn (d := 0)) zm_X12_isIn zl_RX12_276 dX12_letter_36 rfl (by omega) (Nat.le_of_ble_eq_true rfl) rfl ?_
      rw [if_neg (fun e => hw2 ((zis1 (m := 5) (by decide)).mp e) cy)]
      refine wp_if_neN (tgt := 44) (q := 42) dX12_letter_39 (by decide) rfl (by omega) (fun hn => absurd hn (by first | omega | exact fun h => h | exact fun h => h trivial)) (fun _ => ?_)
      refine wp_iconst (q := 43) dX12_letter_42 zq_iconst_m1 rfl ?_
      exact wp_ireturn dX12_letter_43 rfl ⟨rfl, ⟨rfl, rfl, h, zYf_r⟩⟩ rfl rfl
    · rw [if_neg (fun e => cy ((zis0 (m := w) (by omega)).mp e))]
      refine wp_if_eqN (tgt := 42) (q := 30) dX12_letter_27 (by decide) rfl (by omega) (fun _ => ?_) (fun hn => absurd hn (by first | omega | exact fun h => h | exact fun h => h trivial))
      refine wp_iconst (q := 43) dX12_letter_42 zq_iconst_m1 rfl ?_
      exact wp_ireturn dX12_letter_43 rfl ⟨rfl, ⟨rfl, rfl, h, zYf_r⟩⟩ rfl rfl
  · rw [if_neg (fun e => cx ((zis1 (m := 1) (by decide)).mp e))]
    refine wp_if_eqN (tgt := 42) (q := 10) dX12_letter_7 (by decide) rfl (by omega) (fun _ => ?_) (fun hn => absurd hn (by first | omega | exact fun h => h | exact fun h => h trivial))
    refine wp_iconst (q := 43) dX12_letter_42 zq_iconst_m1 rfl ?_
    exact wp_ireturn dX12_letter_43 rfl ⟨rfl, ⟨rfl, rfl, h, zYf_r⟩⟩ rfl rfl
set_option maxHeartbeats 4000000 in
set_option maxRecDepth 100000 in
theorem sp_modds {d t n s hh : Nat} {M : zMI} {L : zML} {g : zGd} {v : Nat → Nat} {hs : List (Nat → Nat)} {m : zMs} (h : zMo M L n g v hs m) (h2 : 2 ≤ n) (hs0 : s < n) (hh0 : hh < 3) : Sy yX12_odds YX12_odds (d + 7) [.ref 177, .int (nI s), .int (nI hh)] M L (zRf t) (zMn M L t n g v hs m (.int (nI (zwy (zoR g.2.2.2.2.2 v s ((s + 1) % n)) (zoL g.2.2.2.2.2 v ((s + n - 1) % n) s) hh / 100)))) := by
  refine Sp.of (by decide +kernel) rfl (fun h => by first | exact h | cases h) (Nat.le_of_ble_eq_true rfl) ?_
  intro w G
  have hn := h.1.1
  have hnw := h.1.2.1
  have h8 := hnw.1.1
  have hle := zwy_le (zof_le g.2.2.2.2.2 v s ((s + 1) % n) 0) (zof_le g.2.2.2.2.2 v ((s + n - 1) % n) s 1) (h := hh)
  rw [show zof g.2.2.2.2.2 v s ((s + 1) % n) 0 = zoR g.2.2.2.2.2 v s ((s + 1) % n) from rfl, show zof g.2.2.2.2.2 v ((s + n - 1) % n) s 1 = zoL g.2.2.2.2.2 v ((s + n - 1) % n) s from rfl] at hle
  obtain ⟨r, hr⟩ : ∃ r, zwy (zoR g.2.2.2.2.2 v s ((s + 1) % n)) (zoL g.2.2.2.2.2 v ((s + n - 1) % n) s) hh = r := ⟨_, rfl⟩
  rw [hr] at hle ⊢
  refine wp_aload_n (q := 1) dX12_odds_0 0 rfl rfl ?_
  refine wp_cvx (q := 4) (sp_mcm (d := 0) hn h8) zm_X12_crackerMany zl_RX12_463 dX12_odds_1 rfl (by omega) (Nat.le_of_ble_eq_true rfl) zsh_177 rfl rfl ?_
  rw [if_neg (by omega)]
  refine wp_if_eqN (tgt := 27) (q := 7) dX12_odds_4 (by decide) rfl (by omega) (fun hn => absurd hn (by first | omega | exact fun h => h | exact fun h => h trivial)) (fun _ => ?_)
  refine wp_aload_n (q := 8) dX12_odds_7 0 rfl rfl ?_
  refine wp_iload_n (q := 9) dX12_odds_8 1 rfl rfl ?_
  refine wp_cvx (q := 12) (sp_misSeat (d := 0) hn h8) zm_X12_isSeat zl_RX12_477 dX12_odds_9 rfl (by omega) (Nat.le_of_ble_eq_true rfl) zsh_177 rfl rfl ?_
  rw [if_pos (zin_i hs0 (by omega))]
  refine wp_if_eqN (tgt := 27) (q := 15) dX12_odds_12 (by decide) rfl (by omega) (fun hn => absurd hn (by first | omega | exact fun h => h | exact fun h => h trivial)) (fun _ => ?_)
  refine wp_iload_n (q := 16) dX12_odds_15 2 rfl rfl ?_
  refine wp_i2l (q := 17) dX12_odds_16 rfl ?_
  refine wp_lconst (q := 18) dX12_odds_17 zq_lconst_0 rfl ?_
  refine wp_ldc2_w (q := 21) dX12_odds_18 zk_RX12_483 rfl ?_
  rw [zlitL 2]
  refine wp_csx (q := 24) (sp_isIn (d := 0)) zm_X12_isIn zl_RX12_276 dX12_odds_21 rfl (by omega) (Nat.le_of_ble_eq_true rfl) rfl ?_
  rw [if_pos ((zis1 (m := 2) (by decide)).mpr (zin_i hh0 (by decide)))]
  refine wp_if_neN (tgt := 29) (q := 27) dX12_odds_24 (by decide) rfl (by omega) (fun _ => ?_) (fun hn => absurd hn (by first | omega | exact fun h => h | exact fun h => h trivial))
  refine wp_aload_n (q := 30) dX12_odds_29 0 rfl rfl ?_
  refine wp_iload_n (q := 31) dX12_odds_30 1 rfl rfl ?_
  refine wp_iload_n (q := 32) dX12_odds_31 2 rfl rfl ?_
  refine wp_cvy (q := 35) (sp_mhattedAt (d := 0) h.1 hs0 hh0 hr) zm_X12_hattedAt zl_RX12_485 dX12_odds_32 rfl (by omega) (Nat.le_of_ble_eq_true rfl) zsh_177 rfl rfl ?_
  rintro _ M2 L2 _ ⟨rfl, rfl, hto⟩
  refine wp_ldc2_w (q := 38) dX12_odds_35 zk_RX12_489 rfl ?_
  rw [zlitL 100]
  refine wp_ldivN (q := 39) dX12_odds_38 (by omega) (by omega) (by omega) rfl ?_
  refine wp_l2iN (q := 40) dX12_odds_39 rfl ?_
  exact wp_ireturn dX12_odds_40 rfl ⟨rfl, ⟨rfl, rfl, zMo_o h hto, zYf_o hto⟩⟩ rfl rfl
set_option maxHeartbeats 4000000 in
set_option maxRecDepth 100000 in
theorem sp_moddsN {d t n : Nat} {x y : Int32} {M : zMI} {L : zML} {g : zGd} {v : Nat → Nat} {hs : List (Nat → Nat)} {m : zMs} (h : zMo M L n g v hs m) (hN : ¬ (2 ≤ n ∧ zin x n ∧ zin y 3)) : Sy yX12_odds YX12_odds (d + 7) [.ref 177, .int x, .int y] M L (zRf t) (zMn M L t n g v hs m (.int (-1))) := by
  refine Sp.of (by decide +kernel) rfl (fun h => by first | exact h | cases h) (Nat.le_of_ble_eq_true rfl) ?_
  intro w G
  have hn := h.1.1
  have hnw := h.1.2.1
  have h8 := hnw.1.1
  refine wp_aload_n (q := 1) dX12_odds_0 0 rfl rfl ?_
  refine wp_cvx (q := 4) (sp_mcm (d := 0) hn h8) zm_X12_crackerMany zl_RX12_463 dX12_odds_1 rfl (by omega) (Nat.le_of_ble_eq_true rfl) zsh_177 rfl rfl ?_
  by_cases c2 : 2 ≤ n
  · rw [if_neg (by omega)]
    refine wp_if_eqN (tgt := 27) (q := 7) dX12_odds_4 (by decide) rfl (by omega) (fun hn => absurd hn (by first | omega | exact fun h => h | exact fun h => h trivial)) (fun _ => ?_)
    refine wp_aload_n (q := 8) dX12_odds_7 0 rfl rfl ?_
    refine wp_iload_n (q := 9) dX12_odds_8 1 rfl rfl ?_
    refine wp_cvx (q := 12) (sp_misSeat (d := 0) hn h8) zm_X12_isSeat zl_RX12_477 dX12_odds_9 rfl (by omega) (Nat.le_of_ble_eq_true rfl) zsh_177 rfl rfl ?_
    by_cases cx : zin x n
    · rw [if_pos cx]
      refine wp_if_eqN (tgt := 27) (q := 15) dX12_odds_12 (by decide) rfl (by omega) (fun hn => absurd hn (by first | omega | exact fun h => h | exact fun h => h trivial)) (fun _ => ?_)
      refine wp_iload_n (q := 16) dX12_odds_15 2 rfl rfl ?_
      refine wp_i2l (q := 17) dX12_odds_16 rfl ?_
      refine wp_lconst (q := 18) dX12_odds_17 zq_lconst_0 rfl ?_
      refine wp_ldc2_w (q := 21) dX12_odds_18 zk_RX12_483 rfl ?_
      rw [zlitL 2]
      refine wp_csx (q := 24) (sp_isIn (d := 0)) zm_X12_isIn zl_RX12_276 dX12_odds_21 rfl (by omega) (Nat.le_of_ble_eq_true rfl) rfl ?_
      rw [if_neg (fun e => hN ⟨c2, cx, (zis1 (m := 2) (by decide)).mp e⟩)]
      refine wp_if_neN (tgt := 29) (q := 27) dX12_odds_24 (by decide) rfl (by omega) (fun hn => absurd hn (by first | omega | exact fun h => h | exact fun h => h trivial)) (fun _ => ?_)
      refine wp_iconst (q := 28) dX12_odds_27 zq_iconst_m1 rfl ?_
      exact wp_ireturn dX12_odds_28 rfl ⟨rfl, ⟨rfl, rfl, h, zYf_r⟩⟩ rfl rfl
    · rw [if_neg cx]
      refine wp_if_eqN (tgt := 27) (q := 15) dX12_odds_12 (by decide) rfl (by omega) (fun _ => ?_) (fun hn => absurd hn (by first | omega | exact fun h => h | exact fun h => h trivial))
      refine wp_iconst (q := 28) dX12_odds_27 zq_iconst_m1 rfl ?_
      exact wp_ireturn dX12_odds_28 rfl ⟨rfl, ⟨rfl, rfl, h, zYf_r⟩⟩ rfl rfl
  · rw [if_pos (by omega)]
    refine wp_if_eqN (tgt := 27) (q := 7) dX12_odds_4 (by decide) rfl (by omega) (fun _ => ?_) (fun hn => absurd hn (by first | omega | exact fun h => h | exact fun h => h trivial))
    refine wp_iconst (q := 28) dX12_odds_27 zq_iconst_m1 rfl ?_
    exact wp_ireturn dX12_odds_28 rfl ⟨rfl, ⟨rfl, rfl, h, zYf_r⟩⟩ rfl rfl
set_option maxHeartbeats 4000000 in
set_option maxRecDepth 100000 in
theorem sp_mmean {d t n hh : Nat} {M : zMI} {L : zML} {g : zGd} {v : Nat → Nat} {hs : List (Nat → Nat)} {m : zMs} (h : zMo M L n g v hs m) (h2 : 2 ≤ n) (hh0 : hh < 3) : Sy yX12_mean YX12_mean (d + 7) [.ref 177, .int (nI hh)] M L (zRf t) (zMn M L t n g v hs m (.int (nI (zmn g.2.2.2.2.2 v n hh / 100000)))) := by
  refine Sp.of (by decide +kernel) rfl (fun h => by first | exact h | cases h) (Nat.le_of_ble_eq_true rfl) ?_
  intro w G
  have hn := h.1.1
  have hnw := h.1.2.1
  have h8 := hnw.1.1
  obtain ⟨W, hW⟩ : ∃ W : Nat → Nat, (fun s => zwy (zoR g.2.2.2.2.2 v s ((s + 1) % n)) (zoL g.2.2.2.2.2 v ((s + n - 1) % n) s) hh) = W := ⟨_, rfl⟩
  have hWs : ∀ s, zwy (zoR g.2.2.2.2.2 v s ((s + 1) % n)) (zoL g.2.2.2.2.2 v ((s + n - 1) % n) s) hh = W s := fun s => congrFun hW s
  have hle : ∀ s, W s ≤ 200000000 := fun s => by rw [← hWs]; exact zwy_le (zof_le g.2.2.2.2.2 v s ((s + 1) % n) 0) (zof_le g.2.2.2.2.2 v ((s + n - 1) % n) s 1) (h := hh)
  have hS : ∀ i, nS W i ≤ 200000000 * i := fun i => nS_le (fun j _ => hle j)
  have hres : zmn g.2.2.2.2.2 v n hh = nS W n := by
    unfold zmn
    rw [hW]
  have loop : ∀ q i (M2 : zMI) (L2 : zML), i + q = n → zTo M M2 L L2 → WP w YX12_mean (d + 7, SS, 0, 0) G (some (zXp (zMn M L t n g v hs m (.int (nI (zmn g.2.2.2.2.2 v n hh / 100000)))))) 26 [(4, .int (nI i)), (2, .long (lN (nS W i))), (0, .ref 177), (1, .int (nI hh))] [] SS M2 L2 (zRf t) := by
    intro q
    induction q with
    | zero =>
      intro i M2 L2 hi hto
      have hSn := hS n
      rw [show i = n by omega]
      refine wp_iload (q := 28) dX12_mean_26 0 rfl rfl ?_
      refine wp_aload_n (q := 29) dX12_mean_28 2 rfl rfl ?_
      refine wp_cvx (q := 32) (sp_mpm (d := 0) (zMc_o h.1 hto).1) zm_X12_peopleMany zl_RX12_408 dX12_mean_29 rfl (by omega) (Nat.le_of_ble_eq_true rfl) zsh_177 rfl rfl ?_
      refine wp_icmp_geN (tgt := 51) (q := 35) dX12_mean_32 (by decide) rfl (by omega) (by omega) (fun _ => ?_) (fun hn => absurd hn (by first | omega | exact fun h => h | exact fun h => h trivial))
      refine wp_lload_n (q := 52) dX12_mean_51 1 rfl rfl ?_
      refine wp_ldc2_w (q := 55) dX12_mean_52 zk_RX12_491 rfl ?_
      rw [zlitL 100000]
      refine wp_ldivN (q := 56) dX12_mean_55 (by omega) (by omega) (by omega) rfl ?_
      refine wp_l2iN (q := 57) dX12_mean_56 rfl ?_
      exact wp_ireturn dX12_mean_57 rfl ⟨rfl, ⟨by rw [hres], rfl, zMo_o h hto, zYf_o hto⟩⟩ rfl rfl
    | succ q ih =>
      intro i M2 L2 hi hto
      have hSi := hS i
      have hWi := hle i
      refine wp_iload (q := 28) dX12_mean_26 0 rfl rfl ?_
      refine wp_aload_n (q := 29) dX12_mean_28 2 rfl rfl ?_
      refine wp_cvx (q := 32) (sp_mpm (d := 0) (zMc_o h.1 hto).1) zm_X12_peopleMany zl_RX12_408 dX12_mean_29 rfl (by omega) (Nat.le_of_ble_eq_true rfl) zsh_177 rfl rfl ?_
      refine wp_icmp_geN (tgt := 51) (q := 35) dX12_mean_32 (by decide) rfl (by omega) (by omega) (fun hn => absurd hn (by first | omega | exact fun h => h | exact fun h => h trivial)) (fun _ => ?_)
      refine wp_lload_n (q := 36) dX12_mean_35 1 rfl rfl ?_
      refine wp_aload_n (q := 37) dX12_mean_36 2 rfl rfl ?_
      refine wp_iload (q := 39) dX12_mean_37 0 rfl rfl ?_
      refine wp_iload_n (q := 40) dX12_mean_39 3 rfl rfl ?_
      refine wp_cvy (q := 43) (sp_mhattedAt (d := 0) (zMc_o h.1 hto) (by omega : i < n) hh0 (hWs i)) zm_X12_hattedAt zl_RX12_485 dX12_mean_40 rfl (by omega) (Nat.le_of_ble_eq_true rfl) zsh_177 rfl rfl ?_
      rintro _ M3 L3 _ ⟨rfl, rfl, hto2⟩
      refine wp_laddN (q := 44) dX12_mean_43 rfl ?_
      refine wp_lstore_n (q := 45) (loc' := [(2, _), (4, _), (0, _), (1, _)]) dX12_mean_44 rfl (by decide) rfl rfl ?_
      refine wp_iincN (q := 48) (loc' := [(4, _), (2, _), (0, _), (1, _)]) (n := 1) dX12_mean_45 rfl 1 rfl (by decide) rfl rfl ?_
      refine wp_goto (tgt := 26) dX12_mean_48 (by decide) ?_
      refine WP.sub (loc' := [(4, _), (2, _), (0, _), (1, _)]) [0, 1, 2, 3] rfl ?_
      exact ih (i + 1) M3 L3 (by omega) (zTo_t hto hto2)
  refine wp_aload_n (q := 1) dX12_mean_0 0 rfl rfl ?_
  refine wp_cvx (q := 4) (sp_mcm (d := 0) hn h8) zm_X12_crackerMany zl_RX12_463 dX12_mean_1 rfl (by omega) (Nat.le_of_ble_eq_true rfl) zsh_177 rfl rfl ?_
  rw [if_neg (by omega)]
  refine wp_if_eqN (tgt := 19) (q := 7) dX12_mean_4 (by decide) rfl (by omega) (fun hn => absurd hn (by first | omega | exact fun h => h | exact fun h => h trivial)) (fun _ => ?_)
  refine wp_iload_n (q := 8) dX12_mean_7 1 rfl rfl ?_
  refine wp_i2l (q := 9) dX12_mean_8 rfl ?_
  refine wp_lconst (q := 10) dX12_mean_9 zq_lconst_0 rfl ?_
  refine wp_ldc2_w (q := 13) dX12_mean_10 zk_RX12_483 rfl ?_
  rw [zlitL 2]
  refine wp_csx (q := 16) (sp_isIn (d := 0)) zm_X12_isIn zl_RX12_276 dX12_mean_13 rfl (by omega) (Nat.le_of_ble_eq_true rfl) rfl ?_
  rw [if_pos ((zis1 (m := 2) (by decide)).mpr (zin_i hh0 (by decide)))]
  refine wp_if_neN (tgt := 21) (q := 19) dX12_mean_16 (by decide) rfl (by omega) (fun _ => ?_) (fun hn => absurd hn (by first | omega | exact fun h => h | exact fun h => h trivial))
  refine wp_lconst (q := 22) dX12_mean_21 zq_lconst_0 rfl ?_
  refine wp_lstore_n (q := 23) (loc' := [(2, _), (0, _), (1, _)]) dX12_mean_22 rfl (by decide) rfl rfl ?_
  refine wp_iconst (q := 24) dX12_mean_23 zq_iconst_0 rfl ?_
  refine wp_istore (q := 26) (loc' := [(4, _), (2, _), (0, _), (1, _)]) dX12_mean_24 (by decide) rfl rfl ?_
  refine WP.sub (loc' := [(4, _), (2, _), (0, _), (1, _)]) [0, 1, 2, 3] rfl ?_
  exact loop n 0 M L (Nat.zero_add _) zTo_r
set_option maxHeartbeats 4000000 in
set_option maxRecDepth 100000 in
theorem sp_mmeanN {d t n : Nat} {x : Int32} {M : zMI} {L : zML} {g : zGd} {v : Nat → Nat} {hs : List (Nat → Nat)} {m : zMs} (h : zMo M L n g v hs m) (hN : ¬ (2 ≤ n ∧ zin x 3)) : Sy yX12_mean YX12_mean (d + 7) [.ref 177, .int x] M L (zRf t) (zMn M L t n g v hs m (.int (-1))) := by
  refine Sp.of (by decide +kernel) rfl (fun h => by first | exact h | cases h) (Nat.le_of_ble_eq_true rfl) ?_
  intro w G
  have hn := h.1.1
  have h8 := h.1.2.1.1.1
  refine wp_aload_n (q := 1) dX12_mean_0 0 rfl rfl ?_
  refine wp_cvx (q := 4) (sp_mcm (d := 0) hn h8) zm_X12_crackerMany zl_RX12_463 dX12_mean_1 rfl (by omega) (Nat.le_of_ble_eq_true rfl) zsh_177 rfl rfl ?_
  by_cases c2 : 2 ≤ n
  · rw [if_neg (by omega)]
    refine wp_if_eqN (tgt := 19) (q := 7) dX12_mean_4 (by decide) rfl (by omega) (fun hn => absurd hn (by first | omega | exact fun h => h | exact fun h => h trivial)) (fun _ => ?_)
    refine wp_iload_n (q := 8) dX12_mean_7 1 rfl rfl ?_
    refine wp_i2l (q := 9) dX12_mean_8 rfl ?_
    refine wp_lconst (q := 10) dX12_mean_9 zq_lconst_0 rfl ?_
    refine wp_ldc2_w (q := 13) dX12_mean_10 zk_RX12_483 rfl ?_
    rw [zlitL 2]
    refine wp_csx (q := 16) (sp_isIn (d := 0)) zm_X12_isIn zl_RX12_276 dX12_mean_13 rfl (by omega) (Nat.le_of_ble_eq_true rfl) rfl ?_
    rw [if_neg (fun e => hN ⟨c2, (zis1 (m := 2) (by decide)).mp e⟩)]
    refine wp_if_neN (tgt := 21) (q := 19) dX12_mean_16 (by decide) rfl (by omega) (fun hn => absurd hn (by first | omega | exact fun h => h | exact fun h => h trivial)) (fun _ => ?_)
    refine wp_iconst (q := 20) dX12_mean_19 zq_iconst_m1 rfl ?_
    exact wp_ireturn dX12_mean_20 rfl ⟨rfl, ⟨rfl, rfl, h, zYf_r⟩⟩ rfl rfl
  · rw [if_pos (by omega)]
    refine wp_if_eqN (tgt := 19) (q := 7) dX12_mean_4 (by decide) rfl (by omega) (fun _ => ?_) (fun hn => absurd hn (by first | omega | exact fun h => h | exact fun h => h trivial))
    refine wp_iconst (q := 20) dX12_mean_19 zq_iconst_m1 rfl ?_
    exact wp_ireturn dX12_mean_20 rfl ⟨rfl, ⟨rfl, rfl, h, zYf_r⟩⟩ rfl rfl

