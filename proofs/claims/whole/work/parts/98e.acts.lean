def zsw2 (v : Nat → Nat) (a b k : Nat) : Nat → Nat := fun j => if 3 + 6 * a ≤ j ∧ j < 3 + 6 * a + k then v (j - 6 * a + 6 * b) else if 3 + 6 * b ≤ j ∧ j < 3 + 6 * b + k then v (j - 6 * b + 6 * a) else v j
theorem zsw2_6 {v : Nat → Nat} {a b : Nat} : zsw2 v a b 6 = zswp v a b := by
  funext j
  unfold zsw2 zswp
  rw [show 3 + 6 * a + 6 = 9 + 6 * a by omega, show 3 + 6 * b + 6 = 9 + 6 * b by omega]
theorem zsw2_0 {v : Nat → Nat} {a b : Nat} : zsw2 v a b 0 = v := by
  funext j
  unfold zsw2
  rw [if_neg (by omega), if_neg (by omega)]
theorem zsw2_s {v : Nat → Nat} {a b k : Nat} (hab : a ≠ b) (hk : k < 6) : zsw2 v a b k (3 + 6 * a + k) = v (3 + 6 * a + k) ∧ zsw2 v a b k (3 + 6 * b + k) = v (3 + 6 * b + k) ∧ ∀ j, zsw2 v a b (k + 1) j = if j = 3 + 6 * b + k then v (3 + 6 * a + k) else if j = 3 + 6 * a + k then v (3 + 6 * b + k) else zsw2 v a b k j := by
  refine ⟨?_, ?_, fun j => ?_⟩
  · unfold zsw2
    rw [if_neg (by omega), if_neg (by omega)]
  · unfold zsw2
    rw [if_neg (by omega), if_neg (by omega)]
  · by_cases c1 : j = 3 + 6 * b + k
    · rw [if_pos c1, c1]
      unfold zsw2
      rw [if_neg (by omega), if_pos (by omega)]
      congr 1
      omega
    · rw [if_neg c1]
      by_cases c2 : j = 3 + 6 * a + k
      · rw [if_pos c2, c2]
        unfold zsw2
        rw [if_pos (by omega)]
        congr 1
        omega
      · rw [if_neg c2]
        unfold zsw2
        by_cases c3 : 3 + 6 * a ≤ j ∧ j < 3 + 6 * a + k
        · rw [if_pos c3, if_pos (by omega)]
        · rw [if_neg c3, if_neg (by omega)]
          by_cases c4 : 3 + 6 * b ≤ j ∧ j < 3 + 6 * b + k
          · rw [if_pos c4, if_pos (by omega)]
          · rw [if_neg c4, if_neg (by omega)]
set_option maxHeartbeats 4000000 in
set_option maxRecDepth 100000 in
theorem sp_mchange {d t n a b : Nat} {M : zMI} {L : zML} {g : zGd} {v : Nat → Nat} {hs : List (Nat → Nat)} {m : zMs} (h : zMo M L n g v hs m) (ha : a < n) (hb : b < n) (hab : a ≠ b) : Sy yX12_change YX12_change (d + 2) [.ref 177, .int (nI a), .int (nI b)] M L (zRf t) (zMn M L t n g (zswp v a b) ((v :: hs).take 20) m (.int (nI 1))) := by
  refine Sp.of (by decide +kernel) rfl (fun h => by first | exact h | cases h) (Nat.le_of_ble_eq_true rfl) ?_
  intro w G
  have hnw := h.1.2.1
  have h8 := hnw.1.1
  have loop : ∀ q k (M1 M2 : zMI), k + q = 6 → zMk M1 n ((v :: hs).take 20) → (∀ x, x ≠ 177 → x ≠ 226 → M1 x = M x) → (∀ k, k ≠ 66 → k ≠ 67 → M1 177 k = M 177 k) → (∀ j, j < 3 + 6 * n → M2 215 j = nI (zsw2 v a b k j)) → (∀ x, x ≠ 215 → M2 x = M1 x) → WP w YX12_change (d + 2, SS, 0, 0) G (some (zXp (zMn M L t n g (zswp v a b) ((v :: hs).take 20) m (.int (nI 1))))) 32 [(3, .int (nI k)), (0, .ref 177), (1, .int (nI a)), (2, .int (nI b))] [] SS M2 L (zRf t) := by
    intro q
    induction q with
    | zero =>
      intro k M1 M2 hq k2 e2 f2 n3 e3
      rw [show k = 6 by omega] at n3 ⊢
      rw [zsw2_6] at n3
      have ee : ∀ x, x ≠ 177 → x ≠ 179 → x ≠ 215 → x ≠ 225 → x ≠ 226 → M2 x = M x := fun x x1 _ x3 x4 x5 => by rw [e3 x x3, e2 x x1 x5]
      refine wp_iload_n (q := 33) dX12_change_32 0 rfl rfl ?_
      refine wp_bipush (q := 35) dX12_change_33 zq_bipush_6 rfl ?_
      refine wp_icmp_geN (tgt := 100) (q := 38) dX12_change_35 (by decide) rfl (by omega) (by omega) (fun _ => ?_) (fun hn => absurd hn (by first | omega | exact fun h => h | exact fun h => h trivial))
      refine wp_iconst (q := 101) dX12_change_100 zq_iconst_1 rfl ?_
      exact wp_zreturn dX12_change_101 rfl (by first | with_reducible exact znar_0 | with_reducible exact znar_1 | assumption) ⟨rfl, ⟨rfl, rfl, zMo_k h ee ⟨zV_swp hnw.1 ha hb, n3⟩ (zMk_fr k2 (by rw [e3 177 (by decide)]) (by rw [e3 177 (by decide)]) (e3 226 (by decide))) (zMm_fr h.2.2.2.1 (fun k hk => by rw [e3 177 (by decide), f2 k (by omega) (by omega)]) (ee 178 (by decide) (by decide) (by decide) (by decide) (by decide)) (by rw [e3 179 (by decide), e2 179 (by decide) (by decide)]) (ee 248 (by decide) (by decide) (by decide) (by decide) (by decide)) rfl), zYf_k ee⟩⟩ rfl rfl
    | succ q ih =>
      intro k M1 M2 hq k2 e2 f2 n3 e3
      obtain ⟨s1, s2, s3⟩ := zsw2_s (v := v) hab (by omega : k < 6)
      have l1 := n3 (3 + 6 * a + k) (by omega)
      have l2 := n3 (3 + 6 * b + k) (by omega)
      rw [s1] at l1
      rw [s2] at l2
      refine wp_iload_n (q := 33) dX12_change_32 0 rfl rfl ?_
      refine wp_bipush (q := 35) dX12_change_33 zq_bipush_6 rfl ?_
      refine wp_icmp_geN (tgt := 100) (q := 38) dX12_change_35 (by decide) rfl (by omega) (by omega) (fun hn => absurd hn (by first | omega | exact fun h => h | exact fun h => h trivial)) (fun _ => ?_)
      refine wp_aload_n (q := 39) dX12_change_38 1 rfl rfl ?_
      refine wp_getR (q := 42) dX12_change_39 zf_RX12_127 rfl zsh_177 (zr_177_52 _) rfl ?_
      refine wp_iconst (q := 43) dX12_change_42 zq_iconst_3 rfl ?_
      refine wp_bipush (q := 45) dX12_change_43 zq_bipush_6 rfl ?_
      refine wp_iload_n (q := 46) dX12_change_45 2 rfl rfl ?_
      refine wp_imulN (q := 47) dX12_change_46 rfl ?_
      refine wp_iaddN (q := 48) dX12_change_47 rfl ?_
      refine wp_iload_n (q := 49) dX12_change_48 0 rfl rfl ?_
      refine wp_iaddN (q := 50) dX12_change_49 rfl ?_
      refine wp_iald (q := 51) _ dX12_change_50 zsh_215 rfl (by omega) (by decide) rfl ?_
      rw [l1]
      refine wp_istore (q := 53) (loc' := [(4, _), (3, _), (0, _), (1, _), (2, _)]) dX12_change_51 (by decide) rfl rfl ?_
      refine wp_aload_n (q := 54) dX12_change_53 2 rfl rfl ?_
      refine wp_getR (q := 57) dX12_change_54 zf_RX12_127 rfl zsh_177 (zr_177_52 _) rfl ?_
      refine wp_iconst (q := 58) dX12_change_57 zq_iconst_3 rfl ?_
      refine wp_bipush (q := 60) dX12_change_58 zq_bipush_6 rfl ?_
      refine wp_iload_n (q := 61) dX12_change_60 3 rfl rfl ?_
      refine wp_imulN (q := 62) dX12_change_61 rfl ?_
      refine wp_iaddN (q := 63) dX12_change_62 rfl ?_
      refine wp_iload_n (q := 64) dX12_change_63 1 rfl rfl ?_
      refine wp_iaddN (q := 65) dX12_change_64 rfl ?_
      refine wp_aload_n (q := 66) dX12_change_65 2 rfl rfl ?_
      refine wp_getR (q := 69) dX12_change_66 zf_RX12_127 rfl zsh_177 (zr_177_52 _) rfl ?_
      refine wp_iconst (q := 70) dX12_change_69 zq_iconst_3 rfl ?_
      refine wp_bipush (q := 72) dX12_change_70 zq_bipush_6 rfl ?_
      refine wp_iload_n (q := 73) dX12_change_72 4 rfl rfl ?_
      refine wp_imulN (q := 74) dX12_change_73 rfl ?_
      refine wp_iaddN (q := 75) dX12_change_74 rfl ?_
      refine wp_iload_n (q := 76) dX12_change_75 1 rfl rfl ?_
      refine wp_iaddN (q := 77) dX12_change_76 rfl ?_
      refine wp_iald (q := 78) _ dX12_change_77 zsh_215 rfl (by omega) (by decide) rfl ?_
      rw [l2]
      refine wp_iast (q := 79) _ dX12_change_78 zsh_215 rfl (by omega) (by decide) rfl ?_
      refine wp_aload_n (q := 80) dX12_change_79 2 rfl rfl ?_
      refine wp_getR (q := 83) dX12_change_80 zf_RX12_127 rfl zsh_177 (zr_177_52 _) rfl ?_
      refine wp_iconst (q := 84) dX12_change_83 zq_iconst_3 rfl ?_
      refine wp_bipush (q := 86) dX12_change_84 zq_bipush_6 rfl ?_
      refine wp_iload_n (q := 87) dX12_change_86 4 rfl rfl ?_
      refine wp_imulN (q := 88) dX12_change_87 rfl ?_
      refine wp_iaddN (q := 89) dX12_change_88 rfl ?_
      refine wp_iload_n (q := 90) dX12_change_89 1 rfl rfl ?_
      refine wp_iaddN (q := 91) dX12_change_90 rfl ?_
      refine wp_iload (q := 93) dX12_change_91 0 rfl rfl ?_
      refine wp_iast (q := 94) _ dX12_change_93 zsh_215 rfl (by omega) (by decide) rfl ?_
      refine wp_iincN (q := 97) (loc' := [(3, _), (4, _), (0, _), (1, _), (2, _)]) (n := 1) dX12_change_94 rfl 1 rfl (by decide) rfl rfl ?_
      refine wp_goto (tgt := 32) dX12_change_97 (by decide) ?_
      refine WP.sub (loc' := [(3, _), (0, _), (1, _), (2, _)]) [0, 2, 3, 4] rfl ?_
      refine ih (k + 1) M1 _ (by omega) k2 e2 f2 (fun j hj => ?_) (fun x hx => by rw [zu_ne hx, zu_ne hx]; exact e3 x hx)
      rw [s3]
      by_cases c1 : j = 3 + 6 * b + k
      · rw [if_pos c1, c1, zu_s]
      · rw [if_neg c1, zu_k c1]
        by_cases c2 : j = 3 + 6 * a + k
        · rw [if_pos c2, c2, zu_s]
        · rw [if_neg c2, zu_k c2]
          exact n3 j hj
  refine wp_aload_n (q := 1) dX12_change_0 0 rfl rfl ?_
  refine wp_iload_n (q := 2) dX12_change_1 1 rfl rfl ?_
  refine wp_cvx (q := 5) (sp_misSeat (d := 0) h.1.1 h8) zm_X12_isSeat zl_RX12_477 dX12_change_2 rfl (by omega) (Nat.le_of_ble_eq_true rfl) zsh_177 rfl rfl ?_
  rw [if_pos (zin_i ha (by omega))]
  refine wp_if_eqN (tgt := 21) (q := 8) dX12_change_5 (by decide) rfl (by omega) (fun hn => absurd hn (by first | omega | exact fun h => h | exact fun h => h trivial)) (fun _ => ?_)
  refine wp_aload_n (q := 9) dX12_change_8 0 rfl rfl ?_
  refine wp_iload_n (q := 10) dX12_change_9 2 rfl rfl ?_
  refine wp_cvx (q := 13) (sp_misSeat (d := 0) h.1.1 h8) zm_X12_isSeat zl_RX12_477 dX12_change_10 rfl (by omega) (Nat.le_of_ble_eq_true rfl) zsh_177 rfl rfl ?_
  rw [if_pos (zin_i hb (by omega))]
  refine wp_if_eqN (tgt := 21) (q := 16) dX12_change_13 (by decide) rfl (by omega) (fun hn => absurd hn (by first | omega | exact fun h => h | exact fun h => h trivial)) (fun _ => ?_)
  refine wp_iload_n (q := 17) dX12_change_16 1 rfl rfl ?_
  refine wp_iload_n (q := 18) dX12_change_17 2 rfl rfl ?_
  refine wp_icmp_neN (tgt := 26) (q := 21) dX12_change_18 (by decide) rfl (by omega) (by omega) (fun _ => ?_) (fun hn => absurd hn (by first | omega | exact fun h => h | exact fun h => h trivial))
  refine wp_aload_n (q := 27) dX12_change_26 0 rfl rfl ?_
  refine wp_cvy (q := 30) (sp_mkeeps (d := 0) hnw h.2.2.1) zm_X12_keeps zl_RX12_586 dX12_change_27 rfl (by omega) (Nat.le_of_ble_eq_true rfl) zsh_177 rfl rfl ?_
  rintro _ M2 L2 _ ⟨rfl, rfl, rfl, k2, e2, f2⟩
  refine wp_iconst (q := 31) dX12_change_30 zq_iconst_0 rfl ?_
  refine wp_istore_n (q := 32) (loc' := [(3, _), (0, _), (1, _), (2, _)]) dX12_change_31 rfl (by decide) rfl rfl ?_
  refine WP.sub (loc' := [(3, _), (0, _), (1, _), (2, _)]) [0, 1, 2, 3] rfl ?_
  exact loop 6 0 M2 M2 (by decide) k2 e2 f2 (fun j hj => by rw [zsw2_0, e2 215 (by decide) (by decide)]; exact hnw.2 j hj) (fun x _ => rfl)
set_option maxHeartbeats 4000000 in
set_option maxRecDepth 100000 in
theorem sp_mchangeN {d t n : Nat} {x y : Int32} {M : zMI} {L : zML} {g : zGd} {v : Nat → Nat} {hs : List (Nat → Nat)} {m : zMs} (h : zMo M L n g v hs m) (hN : ¬ (zin x n ∧ zin y n ∧ x ≠ y)) : Sy yX12_change YX12_change (d + 2) [.ref 177, .int x, .int y] M L (zRf t) (zMn M L t n g v hs (zMup m 3) (.int (nI 0))) := by
  refine Sp.of (by decide +kernel) rfl (fun h => by first | exact h | cases h) (Nat.le_of_ble_eq_true rfl) ?_
  intro w G
  have h8 := h.1.2.1.1.1
  have fin : WP w YX12_change (d + 2, SS, 0, 0) G (some (zXp (zMn M L t n g v hs (zMup m 3) (.int (nI 0))))) 21 [(0, .ref 177), (1, .int x), (2, .int y)] [] SS M L (zRf t) := by
    refine wp_aload_n (q := 22) dX12_change_21 0 rfl rfl ?_
    refine wp_cvx (q := 25) (sp_mrefuses (d := 0)) zm_X12_refuses zl_RX12_594 dX12_change_22 rfl (by omega) (Nat.le_of_ble_eq_true rfl) zsh_177 rfl rfl ?_
    exact wp_zreturn dX12_change_25 rfl (by first | with_reducible exact znar_0 | with_reducible exact znar_1 | assumption) ⟨rfl, ⟨rfl, rfl, zMo_rf h (by decide), zYf_rf (by decide)⟩⟩ rfl rfl
  refine wp_aload_n (q := 1) dX12_change_0 0 rfl rfl ?_
  refine wp_iload_n (q := 2) dX12_change_1 1 rfl rfl ?_
  refine wp_cvx (q := 5) (sp_misSeat (d := 0) h.1.1 h8) zm_X12_isSeat zl_RX12_477 dX12_change_2 rfl (by omega) (Nat.le_of_ble_eq_true rfl) zsh_177 rfl rfl ?_
  by_cases cx : zin x n
  · rw [if_pos cx]
    refine wp_if_eqN (tgt := 21) (q := 8) dX12_change_5 (by decide) rfl (by omega) (fun hn => absurd hn (by first | omega | exact fun h => h | exact fun h => h trivial)) (fun _ => ?_)
    refine wp_aload_n (q := 9) dX12_change_8 0 rfl rfl ?_
    refine wp_iload_n (q := 10) dX12_change_9 2 rfl rfl ?_
    refine wp_cvx (q := 13) (sp_misSeat (d := 0) h.1.1 h8) zm_X12_isSeat zl_RX12_477 dX12_change_10 rfl (by omega) (Nat.le_of_ble_eq_true rfl) zsh_177 rfl rfl ?_
    by_cases cy : zin y n
    · rw [if_pos cy]
      refine wp_if_eqN (tgt := 21) (q := 16) dX12_change_13 (by decide) rfl (by omega) (fun hn => absurd hn (by first | omega | exact fun h => h | exact fun h => h trivial)) (fun _ => ?_)
      refine wp_iload_n (q := 17) dX12_change_16 1 rfl rfl ?_
      refine wp_iload_n (q := 18) dX12_change_17 2 rfl rfl ?_
      refine wp_icmp_ne (tgt := 26) (q := 21) dX12_change_18 (by decide) rfl (fun hn => absurd hn (by exact fun c => hN ⟨cx, cy, c⟩)) (fun _ => ?_)
      refine WP.sub (loc' := [(0, _), (1, _), (2, _)]) [0, 1, 2] rfl ?_
      exact fin
    · rw [if_neg cy]
      refine wp_if_eqN (tgt := 21) (q := 16) dX12_change_13 (by decide) rfl (by omega) (fun _ => ?_) (fun hn => absurd hn (by first | omega | exact fun h => h | exact fun h => h trivial))
      refine WP.sub (loc' := [(0, _), (1, _), (2, _)]) [0, 1, 2] rfl ?_
      exact fin
  · rw [if_neg cx]
    refine wp_if_eqN (tgt := 21) (q := 8) dX12_change_5 (by decide) rfl (by omega) (fun _ => ?_) (fun hn => absurd hn (by first | omega | exact fun h => h | exact fun h => h trivial))
    refine WP.sub (loc' := [(0, _), (1, _), (2, _)]) [0, 1, 2] rfl ?_
    exact fin
set_option maxHeartbeats 4000000 in
set_option maxRecDepth 100000 in
theorem sp_mundo {d t n : Nat} {M : zMI} {L : zML} {g : zGd} {v u : Nat → Nat} {hs : List (Nat → Nat)} {m : zMs} (h : zMo M L n g v (u :: hs) m) : Sy yX12_undo YX12_undo (d) [.ref 177] M L (zRf t) (zMn M L t n g u hs m (.int (nI 1))) := by
  refine Sp.of (by decide +kernel) rfl (fun h => by first | exact h | cases h) (Nat.le_of_ble_eq_true rfl) ?_
  intro w G
  have h8 := h.1.2.1.1.1
  obtain ⟨nw, k1, k2, k3, k4, k5⟩ := h.2.2.1
  rw [List.length_cons] at k2 k4
  have hu := k5 0 u rfl
  rw [show (nw + 20 - 0) % 20 = nw by omega] at hu
  have loop : ∀ q k (M2 : zMI), k + q = 51 → (∀ j, j < k → M2 215 j = M 226 (51 * nw + j)) → (∀ x, x ≠ 215 → M2 x = M x) → WP w YX12_undo (d, SS, 0, 0) G (some (zXp (zMn M L t n g u hs m (.int (nI 1))))) 21 [(1, .int (nI k)), (0, .ref 177)] [] SS M2 L (zRf t) := by
    intro q
    induction q with
    | zero =>
      intro k M2 hq g1 g2
      rw [show k = 51 by omega] at g1 ⊢
      refine wp_iload_n (q := 22) dX12_undo_21 0 rfl rfl ?_
      refine wp_bipush (q := 24) dX12_undo_22 zq_bipush_51 rfl ?_
      refine wp_icmp_geN (tgt := 53) (q := 27) dX12_undo_24 (by decide) rfl (by omega) (by omega) (fun _ => ?_) (fun hn => absurd hn (by first | omega | exact fun h => h | exact fun h => h trivial))
      refine wp_aload_n (q := 54) dX12_undo_53 1 rfl rfl ?_
      refine wp_aload_n (q := 55) dX12_undo_54 1 rfl rfl ?_
      refine wp_getI (q := 58) dX12_undo_55 zf_RX12_567 rfl zsh_177 rfl ?_
      rw [g2 177 (by decide), k3]
      refine wp_bipush (q := 60) dX12_undo_58 zq_bipush_20 rfl ?_
      refine wp_iaddN (q := 61) dX12_undo_60 rfl ?_
      refine wp_iconst (q := 62) dX12_undo_61 zq_iconst_1 rfl ?_
      refine wp_isubN (q := 63) dX12_undo_62 (by omega) rfl ?_
      refine wp_bipush (q := 65) dX12_undo_63 zq_bipush_20 rfl ?_
      refine wp_iremN (q := 66) dX12_undo_65 (by omega) (by omega) (by omega) rfl ?_
      refine wp_putI (q := 69) dX12_undo_66 zf_RX12_567 rfl zsh_177 rfl ?_
      refine wp_aload_n (q := 70) dX12_undo_69 1 rfl rfl ?_
      refine wp_dup (q := 71) dX12_undo_70 rfl rfl ?_
      refine wp_getI (q := 74) dX12_undo_71 zf_RX12_359 rfl zsh_177 rfl ?_
      rw [zu_k (by decide), g2 177 (by decide), k4]
      refine wp_iconst (q := 75) dX12_undo_74 zq_iconst_1 rfl ?_
      refine wp_isubN (q := 76) dX12_undo_75 (by omega) rfl ?_
      refine wp_putI (q := 79) dX12_undo_76 zf_RX12_359 rfl zsh_177 rfl ?_
      refine wp_iconst (q := 80) dX12_undo_79 zq_iconst_1 rfl ?_
      have ee : ∀ x, x ≠ 177 → x ≠ 179 → x ≠ 215 → x ≠ 225 → x ≠ 226 → zu (zu M2 177 67 (nI ((nw + 20 - 1) % 20))) 177 66 (nI (hs.length + 1 - 1)) x = M x := fun x x1 _ x3 x4 x5 => by rw [zu_ne x1, zu_ne x1, g2 x x3]
      refine wp_zreturn dX12_undo_80 rfl (by first | with_reducible exact znar_0 | with_reducible exact znar_1 | assumption) ⟨rfl, ⟨rfl, rfl, zMo_k h ee ⟨hu.1, fun j hj => ?_⟩ ⟨(nw + 20 - 1) % 20, Nat.mod_lt _ (by decide), by omega, by rw [zu_k (by decide), zu_s], by rw [zu_s, Nat.add_sub_cancel], fun i w hw => ?_⟩ (zMm_fr h.2.2.2.1 (fun k hk => by rw [zu_k (by omega), zu_k (by omega), g2 177 (by decide)]) (ee 178 (by decide) (by decide) (by decide) (by decide) (by decide)) (by rw [zu_ne (by decide), zu_ne (by decide), g2 179 (by decide)]) (ee 248 (by decide) (by decide) (by decide) (by decide) (by decide)) rfl), zYf_k ee⟩⟩ rfl rfl
      · rw [zu_ne (by decide), zu_ne (by decide), g1 j (by omega)]
        exact hu.2 j hj
      · have hil := (List.getElem?_eq_some_iff.mp hw).1
        obtain ⟨q1, q2⟩ := k5 (i + 1) w hw
        refine ⟨q1, fun j hj => ?_⟩
        rw [zu_ne (by decide), zu_ne (by decide), g2 226 (by decide), show ((nw + 20 - 1) % 20 + 20 - i) % 20 = (nw + 20 - (i + 1)) % 20 by omega]
        exact q2 j hj
    | succ q ih =>
      intro k M2 hq g1 g2
      refine wp_iload_n (q := 22) dX12_undo_21 0 rfl rfl ?_
      refine wp_bipush (q := 24) dX12_undo_22 zq_bipush_51 rfl ?_
      refine wp_icmp_geN (tgt := 53) (q := 27) dX12_undo_24 (by decide) rfl (by omega) (by omega) (fun hn => absurd hn (by first | omega | exact fun h => h | exact fun h => h trivial)) (fun _ => ?_)
      refine wp_aload_n (q := 28) dX12_undo_27 1 rfl rfl ?_
      refine wp_getR (q := 31) dX12_undo_28 zf_RX12_127 rfl zsh_177 (zr_177_52 _) rfl ?_
      refine wp_iload_n (q := 32) dX12_undo_31 0 rfl rfl ?_
      refine wp_aload_n (q := 33) dX12_undo_32 1 rfl rfl ?_
      refine wp_getR (q := 36) dX12_undo_33 zf_RX12_160 rfl zsh_177 (zr_177_65 _) rfl ?_
      refine wp_bipush (q := 38) dX12_undo_36 zq_bipush_51 rfl ?_
      refine wp_aload_n (q := 39) dX12_undo_38 1 rfl rfl ?_
      refine wp_getI (q := 42) dX12_undo_39 zf_RX12_567 rfl zsh_177 rfl ?_
      rw [g2 177 (by decide), k3]
      refine wp_imulN (q := 43) dX12_undo_42 rfl ?_
      refine wp_iload_n (q := 44) dX12_undo_43 0 rfl rfl ?_
      refine wp_iaddN (q := 45) dX12_undo_44 rfl ?_
      refine wp_iald (q := 46) _ dX12_undo_45 zsh_226 rfl (by omega) (by decide) rfl ?_
      rw [g2 226 (by decide)]
      refine wp_iast (q := 47) _ dX12_undo_46 zsh_215 rfl (by omega) (by decide) rfl ?_
      refine wp_iincN (q := 50) (loc' := [(1, _), (0, _)]) (n := 1) dX12_undo_47 rfl 0 rfl (by decide) rfl rfl ?_
      refine wp_goto (tgt := 21) dX12_undo_50 (by decide) ?_
      refine WP.sub (loc' := [(1, _), (0, _)]) [0, 1] rfl ?_
      refine ih (k + 1) _ (by omega) (fun j hj => ?_) (fun x hx => by rw [zu_ne hx]; exact g2 x hx)
      by_cases e : j = k
      · rw [e, zu_s]
      · rw [zu_k e]
        exact g1 j (by omega)
  refine wp_aload_n (q := 1) dX12_undo_0 0 rfl rfl ?_
  refine wp_getI (q := 4) dX12_undo_1 zf_RX12_359 rfl zsh_177 rfl ?_
  rw [k4]
  refine wp_if_neN (tgt := 19) (q := 7) dX12_undo_4 (by decide) rfl (by omega) (fun _ => ?_) (fun hn => absurd hn (by first | omega | exact fun h => h | exact fun h => h trivial))
  refine wp_iconst (q := 20) dX12_undo_19 zq_iconst_0 rfl ?_
  refine wp_istore_n (q := 21) (loc' := [(1, _), (0, _)]) dX12_undo_20 rfl (by decide) rfl rfl ?_
  refine WP.sub (loc' := [(1, _), (0, _)]) [0, 1] rfl ?_
  exact loop 51 0 M (by decide) (fun j hj => absurd hj (Nat.not_lt_zero _)) (fun x _ => rfl)
set_option maxHeartbeats 4000000 in
set_option maxRecDepth 100000 in
theorem sp_mundoN {d t n : Nat} {M : zMI} {L : zML} {g : zGd} {v : Nat → Nat} {m : zMs} (h : zMo M L n g v [] m) : Sy yX12_undo YX12_undo (d) [.ref 177] M L (zRf t) (zMn M L t n g v [] (zMup m 4) (.int (nI 0))) := by
  refine Sp.of (by decide +kernel) rfl (fun h => by first | exact h | cases h) (Nat.le_of_ble_eq_true rfl) ?_
  intro w G
  obtain ⟨nw, k1, k2, k3, k4, k5⟩ := h.2.2.1
  have k4' : M 177 66 = nI 0 := k4
  refine wp_aload_n (q := 1) dX12_undo_0 0 rfl rfl ?_
  refine wp_getI (q := 4) dX12_undo_1 zf_RX12_359 rfl zsh_177 rfl ?_
  rw [k4']
  refine wp_if_neN (tgt := 19) (q := 7) dX12_undo_4 (by decide) rfl (by omega) (fun hn => absurd hn (by first | omega | exact fun h => h | exact fun h => h trivial)) (fun _ => ?_)
  refine wp_aload_n (q := 8) dX12_undo_7 0 rfl rfl ?_
  refine wp_getR (q := 11) dX12_undo_8 zf_RX12_17 rfl zsh_177 (zr_177_9 _) rfl ?_
  refine wp_iconst (q := 12) dX12_undo_11 zq_iconst_4 rfl ?_
  first | refine wp_dup2 (q := 13) dX12_undo_12 rfl rfl rfl ?_ | refine wp_dup2L (q := 13) dX12_undo_12 rfl rfl ?_
  refine wp_iald (q := 14) _ dX12_undo_13 zsh_179 rfl (by omega) (by decide) rfl ?_
  refine wp_iconst (q := 15) dX12_undo_14 zq_iconst_1 rfl ?_
  refine wp_iadd (q := 16) dX12_undo_15 rfl ?_
  refine wp_iast (q := 17) _ dX12_undo_16 zsh_179 rfl (by omega) (by decide) rfl ?_
  refine wp_iconst (q := 18) dX12_undo_17 zq_iconst_0 rfl ?_
  exact wp_zreturn dX12_undo_18 rfl (by first | with_reducible exact znar_0 | with_reducible exact znar_1 | assumption) ⟨rfl, ⟨rfl, rfl, zMo_rf h (by decide), zYf_rf (by decide)⟩⟩ rfl rfl

