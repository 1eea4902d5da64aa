-- classes of bytes: 1 a letter, 2 a digit, 0 a blank, 3 another one
def zcl (x : Nat) : Nat := if 97 ≤ x ∧ x ≤ 122 then 1 else if 48 ≤ x ∧ x ≤ 57 then 2 else if x = 10 ∨ x = 32 then 0 else 3
theorem zcl_le (x : Nat) : zcl x ≤ 3 := by
  unfold zcl
  repeat' split
  all_goals decide
def zte (k x pl : Nat) (s : zTK) : zTK := if s.2.2 = k then s else ztst k pl s
def ztk (x pl : Nat) (s : zTK) : zTK :=
  if zcl x = 1 then ztal (x - 97 + 1) (zte 1 x pl s)
  else if zcl x = 2 then ztad (x - 48) (zte 2 x pl s)
  else if zcl x = 0 then (s.1, s.2.1, 3)
  else (zu (ztst 3 pl s).1 s.2.1 2 x, (ztst 3 pl s).2)
set_option maxHeartbeats 4000000 in
set_option maxRecDepth 100000 in
theorem sp_take {d t x pl : Nat} {M : zMI} {L : zML} {s : zTK} (h : zMK M s) (hx : x < 256) (hr3 : s.2.2 ≤ 3) (hc : s.2.1 < 1601) (h1 : s.2.2 ≠ 3 → 1 ≤ s.2.1 ∧ s.1 (s.2.1 - 1) 3 ≤ 1600) : Sy yX10_take YX10_take (d + 1) [.ref 2, .int (nI x), .int (nI pl)] M L (zRf t) (fun v0 M' L' R' => v0 = none ∧ L = L' ∧ R' = zRf t ∧ zMK M' (ztk x pl s) ∧ zKf M M') := by
  refine Sp.of (by decide +kernel) rfl (fun h => by first | exact h | cases h) (Nat.le_of_ble_eq_true rfl) ?_
  intro w G
  obtain ⟨g1, g2, g3, g4⟩ := id h
  have let1 : zcl x = 1 → WP w YX10_take (d + 1, SS, 0, 0) G (some (zXp (fun v0 M' L' R' => v0 = none ∧ L = L' ∧ R' = zRf t ∧ zMK M' (ztk x pl s) ∧ zKf M M'))) 12 [(0, .ref 2), (1, .int (nI x)), (2, .int (nI pl))] [] SS M L (zRf t) := by
    intro e1
    have hb : 97 ≤ x ∧ x ≤ 122 := by
      unfold zcl at e1
      split at e1
      · assumption
      · split at e1
        · omega
        · split at e1 <;> omega
    have tail : ∀ (M2 : zMI) (s2 : zTK), zMK M2 s2 → zKf M M2 → zte 1 x pl s = s2 → 1 ≤ s2.2.1 → s2.1 (s2.2.1 - 1) 3 ≤ 1600 → WP w YX10_take (d + 1, SS, 0, 0) G (some (zXp (fun v0 M' L' R' => v0 = none ∧ L = L' ∧ R' = zRf t ∧ zMK M' (ztk x pl s) ∧ zKf M M'))) 26 [(0, .ref 2), (1, .int (nI x)), (2, .int (nI pl))] [] SS M2 L (zRf t) := by
      intro M2 s2 h2 hk2 e2 a1 a2
      refine wp_aload_n (q := 27) dX10_take_26 0 rfl rfl ?_
      refine wp_iload_n (q := 28) dX10_take_27 1 rfl rfl ?_
      refine wp_bipush (q := 30) dX10_take_28 zq_bipush_97 rfl ?_
      refine wp_isubN (q := 31) dX10_take_30 (by omega) rfl ?_
      refine wp_iconst (q := 32) dX10_take_31 zq_iconst_1 rfl ?_
      refine wp_iaddN (q := 33) dX10_take_32 rfl ?_
      refine wp_cvy (q := 36) (sp_addLetter (d := 0) h2 a1 a2) zm_X10_addLetter zl_RX10_75 dX10_take_33 rfl (by omega) (Nat.le_of_ble_eq_true rfl) zsh_2 rfl rfl ?_
      rintro _ M3 _ _ ⟨rfl, rfl, rfl, h3, hk3⟩
      refine wp_goto (tgt := 114) dX10_take_36 (by decide) ?_
      exact wp_return dX10_take_114 rfl ⟨rfl, ⟨rfl, rfl, rfl, by unfold ztk; rw [if_pos e1, e2]; exact h3, zKf_tr hk2 hk3⟩⟩ rfl rfl
    refine wp_aload_n (q := 13) dX10_take_12 0 rfl rfl ?_
    refine wp_getI (q := 16) dX10_take_13 zf_RX10_34 rfl zsh_2 rfl ?_
    rw [g3]
    refine wp_iconst (q := 17) dX10_take_16 zq_iconst_1 rfl ?_
    refine wp_icmp_eqN (tgt := 26) (q := 20) dX10_take_17 (by decide) rfl (by omega) (by omega) (fun c1 => ?_) (fun c1 => ?_)
    · skip
      have c2 := h1 (by omega)
      refine WP.sub (loc' := [(0, _), (1, _), (2, _)]) [0, 1, 2] rfl ?_
      exact tail M s h ⟨fun _ _ _ _ _ _ => rfl, fun _ _ _ => rfl⟩ (if_pos c1) c2.1 c2.2
    · skip
      refine wp_aload_n (q := 21) dX10_take_20 0 rfl rfl ?_
      refine wp_iconst (q := 22) dX10_take_21 zq_iconst_1 rfl ?_
      refine wp_iload_n (q := 23) dX10_take_22 2 rfl rfl ?_
      refine wp_cvy (q := 26) (sp_start (d := 0) (k := 1) h (by decide) hr3 hc) zm_X10_start zl_RX10_68 dX10_take_23 rfl (by omega) (Nat.le_of_ble_eq_true rfl) zsh_2 rfl rfl ?_
      rintro _ M3 _ _ ⟨rfl, rfl, rfl, h3, hk3⟩
      refine WP.sub (loc' := [(0, _), (1, _), (2, _)]) [0, 1, 2] rfl ?_
      exact tail M3 _ h3 hk3 (if_neg c1) (show 1 ≤ s.2.1 + 1 by omega) (by simp [ztst, zu_at])
  have dig : zcl x = 2 → WP w YX10_take (d + 1, SS, 0, 0) G (some (zXp (fun v0 M' L' R' => v0 = none ∧ L = L' ∧ R' = zRf t ∧ zMK M' (ztk x pl s) ∧ zKf M M'))) 51 [(0, .ref 2), (1, .int (nI x)), (2, .int (nI pl))] [] SS M L (zRf t) := by
    intro e1
    have hb : 48 ≤ x ∧ x ≤ 57 := by
      unfold zcl at e1
      split at e1
      · omega
      · split at e1
        · assumption
        · split at e1 <;> omega
    have tail : ∀ (M2 : zMI) (s2 : zTK), zMK M2 s2 → zKf M M2 → zte 2 x pl s = s2 → 1 ≤ s2.2.1 → s2.1 (s2.2.1 - 1) 3 ≤ 1600 → WP w YX10_take (d + 1, SS, 0, 0) G (some (zXp (fun v0 M' L' R' => v0 = none ∧ L = L' ∧ R' = zRf t ∧ zMK M' (ztk x pl s) ∧ zKf M M'))) 65 [(0, .ref 2), (1, .int (nI x)), (2, .int (nI pl))] [] SS M2 L (zRf t) := by
      intro M2 s2 h2 hk2 e2 a1 a2
      refine wp_aload_n (q := 66) dX10_take_65 0 rfl rfl ?_
      refine wp_iload_n (q := 67) dX10_take_66 1 rfl rfl ?_
      refine wp_bipush (q := 69) dX10_take_67 zq_bipush_48 rfl ?_
      refine wp_isubN (q := 70) dX10_take_69 (by omega) rfl ?_
      refine wp_cvy (q := 73) (sp_addDigit (d := 0) h2 a1 a2) zm_X10_addDigit zl_RX10_79 dX10_take_70 rfl (by omega) (Nat.le_of_ble_eq_true rfl) zsh_2 rfl rfl ?_
      rintro _ M3 _ _ ⟨rfl, rfl, rfl, h3, hk3⟩
      refine wp_goto (tgt := 114) dX10_take_73 (by decide) ?_
      exact wp_return dX10_take_114 rfl ⟨rfl, ⟨rfl, rfl, rfl, by unfold ztk; rw [if_neg (by omega), if_pos e1, e2]; exact h3, zKf_tr hk2 hk3⟩⟩ rfl rfl
    refine wp_aload_n (q := 52) dX10_take_51 0 rfl rfl ?_
    refine wp_getI (q := 55) dX10_take_52 zf_RX10_34 rfl zsh_2 rfl ?_
    rw [g3]
    refine wp_iconst (q := 56) dX10_take_55 zq_iconst_2 rfl ?_
    refine wp_icmp_eqN (tgt := 65) (q := 59) dX10_take_56 (by decide) rfl (by omega) (by omega) (fun c1 => ?_) (fun c1 => ?_)
    · skip
      have c2 := h1 (by omega)
      refine WP.sub (loc' := [(0, _), (1, _), (2, _)]) [0, 1, 2] rfl ?_
      exact tail M s h ⟨fun _ _ _ _ _ _ => rfl, fun _ _ _ => rfl⟩ (if_pos c1) c2.1 c2.2
    · skip
      refine wp_aload_n (q := 60) dX10_take_59 0 rfl rfl ?_
      refine wp_iconst (q := 61) dX10_take_60 zq_iconst_2 rfl ?_
      refine wp_iload_n (q := 62) dX10_take_61 2 rfl rfl ?_
      refine wp_cvy (q := 65) (sp_start (d := 0) (k := 2) h (by decide) hr3 hc) zm_X10_start zl_RX10_68 dX10_take_62 rfl (by omega) (Nat.le_of_ble_eq_true rfl) zsh_2 rfl rfl ?_
      rintro _ M3 _ _ ⟨rfl, rfl, rfl, h3, hk3⟩
      refine WP.sub (loc' := [(0, _), (1, _), (2, _)]) [0, 1, 2] rfl ?_
      exact tail M3 _ h3 hk3 (if_neg c1) (show 1 ≤ s.2.1 + 1 by omega) (by simp [ztst, zu_at])
  have bla : zcl x = 0 → WP w YX10_take (d + 1, SS, 0, 0) G (some (zXp (fun v0 M' L' R' => v0 = none ∧ L = L' ∧ R' = zRf t ∧ zMK M' (ztk x pl s) ∧ zKf M M'))) 88 [(0, .ref 2), (1, .int (nI x)), (2, .int (nI pl))] [] SS M L (zRf t) := by
    intro e1
    refine wp_aload_n (q := 89) dX10_take_88 0 rfl rfl ?_
    refine wp_iconst (q := 90) dX10_take_89 zq_iconst_3 rfl ?_
    refine wp_putI (q := 93) dX10_take_90 zf_RX10_34 rfl zsh_2 rfl ?_
    refine wp_goto (tgt := 114) dX10_take_93 (by decide) ?_
    refine wp_return dX10_take_114 rfl ⟨rfl, ⟨rfl, rfl, rfl, ?_, ⟨fun x a b c d e => zu_ne a, fun k a b => zu_k b⟩⟩⟩ rfl rfl
    unfold ztk
    rw [if_neg (by omega), if_neg (by omega), if_pos e1]
    exact ⟨g1, by rw [zu_k (by decide)]; exact g2, zu_s, fun j hj => by rw [zu_ne (by decide), zu_ne (by decide), zu_ne (by decide), zu_ne (by decide)]; exact g4 j hj⟩
  have sig : zcl x = 3 → WP w YX10_take (d + 1, SS, 0, 0) G (some (zXp (fun v0 M' L' R' => v0 = none ∧ L = L' ∧ R' = zRf t ∧ zMK M' (ztk x pl s) ∧ zKf M M'))) 96 [(0, .ref 2), (1, .int (nI x)), (2, .int (nI pl))] [] SS M L (zRf t) := by
    intro e1
    refine wp_aload_n (q := 97) dX10_take_96 0 rfl rfl ?_
    refine wp_iconst (q := 98) dX10_take_97 zq_iconst_3 rfl ?_
    refine wp_iload_n (q := 99) dX10_take_98 2 rfl rfl ?_
    refine wp_cvy (q := 102) (sp_start (d := 0) (k := 3) (pl := pl) h (by decide) hr3 hc) zm_X10_start zl_RX10_68 dX10_take_99 rfl (by omega) (Nat.le_of_ble_eq_true rfl) zsh_2 rfl rfl ?_
    rintro _ M3 _ _ ⟨rfl, rfl, rfl, h3, hk3⟩
    obtain ⟨b1, b2, b3, b4⟩ := id h3
    have bs : (ztst 3 pl s).2.1 = s.2.1 + 1 := rfl
    refine wp_aload_n (q := 103) dX10_take_102 0 rfl rfl ?_
    refine wp_getR (q := 106) dX10_take_103 zf_RX10_18 rfl zsh_2 (zr_2_2 _) rfl ?_
    refine wp_aload_n (q := 107) dX10_take_106 0 rfl rfl ?_
    refine wp_getI (q := 110) dX10_take_107 zf_RX10_30 rfl zsh_2 rfl ?_
    rw [b2, bs]
    refine wp_iconst (q := 111) dX10_take_110 zq_iconst_1 rfl ?_
    refine wp_isubN (q := 112) dX10_take_111 (by omega) rfl ?_
    refine wp_iload_n (q := 113) dX10_take_112 1 rfl rfl ?_
    refine wp_iast (q := 114) _ dX10_take_113 zsh_5 rfl (by omega) (by decide) rfl ?_
    refine wp_return dX10_take_114 rfl ⟨rfl, ⟨rfl, rfl, rfl, ?_, zKf_tr hk3 ⟨fun x a b c d e => zu_ne d, fun k a b => by rw [zu_ne (by decide)]⟩⟩⟩ rfl rfl
    unfold ztk
    rw [if_neg (by omega), if_neg (by omega), if_neg (by omega)]
    refine ⟨b1, by rw [zu_ne (by decide)]; exact b2, by rw [zu_ne (by decide)]; exact b3, fun j hj => ?_⟩
    have := b4 j hj
    simp only [zu_at]
    by_cases e : j = s.2.1
    · subst e
      simp [this]
    · simp [e, this]
  have oth : ¬ (97 ≤ x ∧ x ≤ 122) → ¬ (48 ≤ x ∧ x ≤ 57) → WP w YX10_take (d + 1, SS, 0, 0) G (some (zXp (fun v0 M' L' R' => v0 = none ∧ L = L' ∧ R' = zRf t ∧ zMK M' (ztk x pl s) ∧ zKf M M'))) 76 [(0, .ref 2), (1, .int (nI x)), (2, .int (nI pl))] [] SS M L (zRf t) := by
    intro n1 n2
    refine wp_iload_n (q := 77) dX10_take_76 1 rfl rfl ?_
    refine wp_bipush (q := 79) dX10_take_77 zq_bipush_10 rfl ?_
    refine wp_icmp_eqN (tgt := 88) (q := 82) dX10_take_79 (by decide) rfl (by omega) (by omega) (fun c4 => ?_) (fun c4 => ?_)
    · skip
      refine WP.sub (loc' := [(0, _), (1, _), (2, _)]) [0, 1, 2] rfl ?_
      exact bla (by unfold zcl; rw [if_neg n1, if_neg n2, if_pos (Or.inl c4)])
    · skip
      refine wp_iload_n (q := 83) dX10_take_82 1 rfl rfl ?_
      refine wp_bipush (q := 85) dX10_take_83 zq_bipush_32 rfl ?_
      refine wp_icmp_neN (tgt := 96) (q := 88) dX10_take_85 (by decide) rfl (by omega) (by omega) (fun c5 => ?_) (fun c5 => ?_)
      · skip
        refine WP.sub (loc' := [(0, _), (1, _), (2, _)]) [0, 1, 2] rfl ?_
        exact sig (by unfold zcl; rw [if_neg n1, if_neg n2, if_neg (by omega)])
      · skip
        refine WP.sub (loc' := [(0, _), (1, _), (2, _)]) [0, 1, 2] rfl ?_
        exact bla (by unfold zcl; rw [if_neg n1, if_neg n2, if_pos (by omega)])
  have nl : ¬ (97 ≤ x ∧ x ≤ 122) → WP w YX10_take (d + 1, SS, 0, 0) G (some (zXp (fun v0 M' L' R' => v0 = none ∧ L = L' ∧ R' = zRf t ∧ zMK M' (ztk x pl s) ∧ zKf M M'))) 39 [(0, .ref 2), (1, .int (nI x)), (2, .int (nI pl))] [] SS M L (zRf t) := by
    intro n1
    refine wp_iload_n (q := 40) dX10_take_39 1 rfl rfl ?_
    refine wp_bipush (q := 42) dX10_take_40 zq_bipush_48 rfl ?_
    refine wp_icmp_ltN (tgt := 76) (q := 45) dX10_take_42 (by decide) rfl (by omega) (by omega) (fun c4 => ?_) (fun c4 => ?_)
    · skip
      refine WP.sub (loc' := [(0, _), (1, _), (2, _)]) [0, 1, 2] rfl ?_
      exact oth n1 (by omega)
    · skip
      refine wp_iload_n (q := 46) dX10_take_45 1 rfl rfl ?_
      refine wp_bipush (q := 48) dX10_take_46 zq_bipush_57 rfl ?_
      refine wp_icmp_gtN (tgt := 76) (q := 51) dX10_take_48 (by decide) rfl (by omega) (by omega) (fun c5 => ?_) (fun c5 => ?_)
      · skip
        refine WP.sub (loc' := [(0, _), (1, _), (2, _)]) [0, 1, 2] rfl ?_
        exact oth n1 (by omega)
      · skip
        refine WP.sub (loc' := [(0, _), (1, _), (2, _)]) [0, 1, 2] rfl ?_
        exact dig (by unfold zcl; rw [if_neg n1, if_pos (by omega)])
  refine wp_iload_n (q := 1) dX10_take_0 1 rfl rfl ?_
  refine wp_bipush (q := 3) dX10_take_1 zq_bipush_97 rfl ?_
  refine wp_icmp_ltN (tgt := 39) (q := 6) dX10_take_3 (by decide) rfl (by omega) (by omega) (fun c1 => ?_) (fun c1 => ?_)
  · skip
    refine WP.sub (loc' := [(0, _), (1, _), (2, _)]) [0, 1, 2] rfl ?_
    exact nl (by omega)
  · skip
    refine wp_iload_n (q := 7) dX10_take_6 1 rfl rfl ?_
    refine wp_bipush (q := 9) dX10_take_7 zq_bipush_122 rfl ?_
    refine wp_icmp_gtN (tgt := 39) (q := 12) dX10_take_9 (by decide) rfl (by omega) (by omega) (fun c2 => ?_) (fun c2 => ?_)
    · skip
      refine WP.sub (loc' := [(0, _), (1, _), (2, _)]) [0, 1, 2] rfl ?_
      exact nl (by omega)
    · skip
      refine WP.sub (loc' := [(0, _), (1, _), (2, _)]) [0, 1, 2] rfl ?_
      exact let1 (by unfold zcl; rw [if_pos (by omega)])
-- the words that are known
def zWL : List (List Nat) := [[112, 101, 114, 115, 111, 110], [114, 105, 103, 104, 116], [108, 101, 102, 116], [104, 111, 108, 100, 115], [115, 101, 97, 109], [112, 97, 112, 101, 114], [116, 104, 117, 109, 98], [98, 111, 120], [100, 117, 100, 115], [104, 97, 116, 115], [112, 117, 108, 108], [115, 108, 105, 112], [98, 97, 110, 103], [97, 114, 109], [108, 111, 119], [111, 116, 104, 101, 114], [110, 117, 109, 98, 101, 114], [119, 105, 110, 115], [111, 114], [97, 110, 100], [110, 111, 116], [97, 108, 108], [109, 105, 110], [109, 97, 120], [102, 105, 114, 115, 116], [108, 97, 115, 116], [111, 102, 116, 101, 110], [116, 111, 116, 97, 108], [109, 111, 115, 116], [108, 101, 97, 115, 116]]
-- letters as a number, the first one the lowest
def zeL : List Nat → Nat
  | [] => 0
  | x :: r => (x - 96) + 27 * zeL r
def zkw (w : Nat) : Nat := zeL (zWL.getD w [])
def zkn (M : zMI) : Prop := ∀ w, w < 30 → M 8 w = nI (zkw w)
theorem zkw_lt : ∀ w, w < 30 → zkw w < 387420489 := by decide +kernel
def zfk (x : Nat) : Nat → Nat → Nat
  | 0, _ => 99
  | k + 1, i => if zkw i = x then i else zfk x k (i + 1)
set_option maxHeartbeats 4000000 in
set_option maxRecDepth 100000 in
theorem sp_wordOf {d t x : Nat} {M : zMI} {L : zML} (hk : zkn M) (hx : x < 2147483648) : Sx yX10_wordOf YX10_wordOf (d) [.ref 2, .int (nI x)] M L (zRf t) (some (.int (zwd (zfk x 30 0)))) M L (zRf t) := by
  refine Sp.of (by decide +kernel) rfl (fun h => by first | exact h | cases h) (Nat.le_of_ble_eq_true rfl) ?_
  intro w G
  have loop : ∀ k i, i + k = 30 → zfk x k i = zfk x 30 0 → WP w YX10_wordOf (d, SS, 0, 0) G (some (zX (some (.int (zwd (zfk x 30 0)))) M L (zRf t))) 2 [(2, .int (nI i)), (0, .ref 2), (1, .int (nI x))] [] SS M L (zRf t) := by
    intro k
    induction k with
    | zero =>
      intro i hi hz
      refine wp_iload_n (q := 3) dX10_wordOf_2 0 rfl rfl ?_
      refine wp_bipush (q := 5) dX10_wordOf_3 zq_bipush_30 rfl ?_
      refine wp_icmp_geN (tgt := 26) (q := 8) dX10_wordOf_5 (by decide) rfl (by omega) (by omega) (fun _ => ?_) (fun hn => absurd hn (by omega))
      rw [← hz]
      refine wp_iconst (q := 27) dX10_wordOf_26 zq_iconst_m1 rfl ?_
      exact wp_ireturn dX10_wordOf_27 rfl ⟨rfl, rfl, rfl, rfl, rfl⟩ rfl rfl
    | succ k ih =>
      intro i hi hz
      have m1 := hk i (by omega)
      have m2 := zkw_lt i (by omega)
      rw [zfk] at hz
      refine wp_iload_n (q := 3) dX10_wordOf_2 0 rfl rfl ?_
      refine wp_bipush (q := 5) dX10_wordOf_3 zq_bipush_30 rfl ?_
      refine wp_icmp_geN (tgt := 26) (q := 8) dX10_wordOf_5 (by decide) rfl (by omega) (by omega) (fun hn => absurd hn (by omega)) (fun _ => ?_)
      refine wp_aload_n (q := 9) dX10_wordOf_8 1 rfl rfl ?_
      refine wp_getR (q := 12) dX10_wordOf_9 zf_RX10_27 rfl zsh_2 (zr_2_5 _) rfl ?_
      refine wp_iload_n (q := 13) dX10_wordOf_12 0 rfl rfl ?_
      refine wp_iald (q := 14) _ dX10_wordOf_13 zsh_8 rfl (by omega) (by decide) rfl ?_
      rw [m1]
      refine wp_iload_n (q := 15) dX10_wordOf_14 2 rfl rfl ?_
      refine wp_icmp_neN (tgt := 20) (q := 18) dX10_wordOf_15 (by decide) rfl (by omega) (by omega) (fun hne => ?_) (fun hne => ?_)
      · skip
        rw [if_neg hne] at hz
        refine wp_iincN (q := 23) (loc' := [(2, _), (0, _), (1, _)]) (n := 1) dX10_wordOf_20 rfl 0 rfl (by decide) rfl rfl ?_
        refine wp_goto (tgt := 2) dX10_wordOf_23 (by decide) ?_
        refine WP.sub (loc' := [(2, _), (0, _), (1, _)]) [0, 1, 2] rfl ?_
        exact ih (i + 1) (by omega) hz
      · skip
        rw [if_pos hne] at hz
        rw [← hz, show zwd i = nI i from if_pos (by omega)]
        refine wp_iload_n (q := 19) dX10_wordOf_18 0 rfl rfl ?_
        exact wp_ireturn dX10_wordOf_19 rfl ⟨rfl, rfl, rfl, rfl, rfl⟩ rfl rfl
  refine wp_iconst (q := 1) dX10_wordOf_0 zq_iconst_0 rfl ?_
  refine wp_istore_n (q := 2) (loc' := [(2, _), (0, _), (1, _)]) dX10_wordOf_1 rfl (by decide) rfl rfl ?_
  refine WP.sub (loc' := [(2, _), (0, _), (1, _)]) [0, 1, 2] rfl ?_
  exact loop 30 0 (Nat.zero_add _) rfl

