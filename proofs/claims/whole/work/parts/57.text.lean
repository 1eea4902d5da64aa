-- the scanner: rows T, how many, what runs
abbrev zTK : Type := zDD × Nat × Nat
def zMK (M : zMI) (s : zTK) : Prop := s.2.1 ≤ 1601 ∧ M 2 6 = nI s.2.1 ∧ M 2 7 = nI s.2.2 ∧ ∀ j, j < s.2.1 → M 3 j = nI (s.1 j 0) ∧ M 4 j = nI (s.1 j 1) ∧ M 5 j = nI (s.1 j 2) ∧ M 6 j = nI (s.1 j 3)
def zKf (M M' : zMI) : Prop := (∀ x, x ≠ 2 → x ≠ 3 → x ≠ 4 → x ≠ 5 → x ≠ 6 → M' x = M x) ∧ ∀ k, k ≠ 6 → k ≠ 7 → M' 2 k = M 2 k
theorem zKf_tr {M M' M'' : zMI} (h : zKf M M') (h' : zKf M' M'') : zKf M M'' := ⟨fun x a b c d e => by rw [h'.1 x a b c d e, h.1 x a b c d e], fun k a b => by rw [h'.2 k a b, h.2 k a b]⟩
def ztgl (k r : Nat) : Prop := (k = 1 ∧ r = 2) ∨ (k = 2 ∧ r = 1)
def ztg (k r : Nat) : Nat := if k = 1 then (if r = 2 then 4 else k) else if k = 2 then (if r = 1 then 4 else k) else k
def ztst (k pl : Nat) (s : zTK) : zTK := (zu (zu (zu (zu s.1 s.2.1 0 (ztg k s.2.2)) s.2.1 1 pl) s.2.1 2 0) s.2.1 3 0, s.2.1 + 1, k)
set_option maxHeartbeats 4000000 in
set_option maxRecDepth 100000 in
theorem sp_start {d t k pl : Nat} {M : zMI} {L : zML} {s : zTK} (h : zMK M s) (hk : k ≤ 3) (hr3 : s.2.2 ≤ 3) (hc : s.2.1 < 1601) : Sy yX10_start YX10_start (d) [.ref 2, .int (nI k), .int (nI pl)] M L (zRf t) (fun v0 M' L' R' => v0 = none ∧ L = L' ∧ R' = zRf t ∧ zMK M' (ztst k pl s) ∧ zKf M M') := by
  refine Sp.of (by decide +kernel) rfl (fun h => by first | exact h | cases h) (Nat.le_of_ble_eq_true rfl) ?_
  intro w G
  obtain ⟨h1, h2, h3, h4⟩ := id h
  have rest : ∀ g, ztg k s.2.2 = (if g = 0 then k else 4) → g ≤ 1 → WP w YX10_start (d, SS, 0, 0) G (some (zXp (fun v0 M' L' R' => v0 = none ∧ L = L' ∧ R' = zRf t ∧ zMK M' (ztst k pl s) ∧ zKf M M'))) 31 [(0, .ref 2), (1, .int (nI k)), (2, .int (nI pl))] [.int (nI g)] SS M L (zRf t) := by
    intro g hg hg1
    refine wp_istore_n (q := 32) (loc' := [(3, _), (0, _), (1, _), (2, _)]) dX10_start_31 rfl (by decide) rfl rfl ?_
    refine wp_aload_n (q := 33) dX10_start_32 1 rfl rfl ?_
    refine wp_getI (q := 36) dX10_start_33 zf_RX10_30 rfl zsh_2 rfl ?_
    rw [h2]
    refine wp_aload_n (q := 37) dX10_start_36 1 rfl rfl ?_
    refine wp_getR (q := 40) dX10_start_37 zf_RX10_9 rfl zsh_2 (zr_2_0 _) rfl ?_
    refine wp_alen (q := 41) dX10_start_40 zsh_3 (by simp [zTys]) rfl ?_
    refine wp_icmp_geN (tgt := 102) (q := 44) dX10_start_41 (by decide) rfl (by omega) (by omega) (fun hn => absurd hn (by omega)) (fun _ => ?_)
    refine wp_aload_n (q := 45) dX10_start_44 1 rfl rfl ?_
    refine wp_getR (q := 48) dX10_start_45 zf_RX10_9 rfl zsh_2 (zr_2_0 _) rfl ?_
    refine wp_aload_n (q := 49) dX10_start_48 1 rfl rfl ?_
    refine wp_getI (q := 52) dX10_start_49 zf_RX10_30 rfl zsh_2 rfl ?_
    rw [h2]
    refine wp_iload_n (q := 53) dX10_start_52 0 rfl rfl ?_
    have store : WP w YX10_start (d, SS, 0, 0) G (some (zXp (fun v0 M' L' R' => v0 = none ∧ L = L' ∧ R' = zRf t ∧ zMK M' (ztst k pl s) ∧ zKf M M'))) 61 [(3, .int (nI g)), (0, .ref 2), (1, .int (nI k)), (2, .int (nI pl))] [.int (nI (if g = 0 then k else 4)), .int (nI s.2.1), .ref 3] SS M L (zRf t) := by
      refine wp_iast (q := 62) _ dX10_start_61 (by first | assumption | rfl) rfl (by omega) (by decide) rfl ?_
      refine wp_aload_n (q := 63) dX10_start_62 1 rfl rfl ?_
      refine wp_getR (q := 66) dX10_start_63 zf_RX10_15 rfl zsh_2 (zr_2_1 _) rfl ?_
      refine wp_aload_n (q := 67) dX10_start_66 1 rfl rfl ?_
      refine wp_getI (q := 70) dX10_start_67 zf_RX10_30 rfl zsh_2 rfl ?_
      rw [zu_ne (by decide), h2]
      refine wp_iload_n (q := 71) dX10_start_70 3 rfl rfl ?_
      refine wp_iast (q := 72) _ dX10_start_71 zsh_4 rfl (by omega) (by decide) rfl ?_
      refine wp_aload_n (q := 73) dX10_start_72 1 rfl rfl ?_
      refine wp_getR (q := 76) dX10_start_73 zf_RX10_18 rfl zsh_2 (zr_2_2 _) rfl ?_
      refine wp_aload_n (q := 77) dX10_start_76 1 rfl rfl ?_
      refine wp_getI (q := 80) dX10_start_77 zf_RX10_30 rfl zsh_2 rfl ?_
      rw [zu_ne (by decide), zu_ne (by decide), h2]
      refine wp_iconst (q := 81) dX10_start_80 zq_iconst_0 rfl ?_
      refine wp_iast (q := 82) _ dX10_start_81 zsh_5 rfl (by omega) (by decide) rfl ?_
      refine wp_aload_n (q := 83) dX10_start_82 1 rfl rfl ?_
      refine wp_getR (q := 86) dX10_start_83 zf_RX10_21 rfl zsh_2 (zr_2_3 _) rfl ?_
      refine wp_aload_n (q := 87) dX10_start_86 1 rfl rfl ?_
      refine wp_getI (q := 90) dX10_start_87 zf_RX10_30 rfl zsh_2 rfl ?_
      rw [zu_ne (by decide), zu_ne (by decide), zu_ne (by decide), h2]
      refine wp_iconst (q := 91) dX10_start_90 zq_iconst_0 rfl ?_
      refine wp_iast (q := 92) _ dX10_start_91 zsh_6 rfl (by omega) (by decide) rfl ?_
      refine wp_aload_n (q := 93) dX10_start_92 1 rfl rfl ?_
      refine wp_dup (q := 94) dX10_start_93 rfl rfl ?_
      refine wp_getI (q := 97) dX10_start_94 zf_RX10_30 rfl zsh_2 rfl ?_
      rw [zu_ne (by decide), zu_ne (by decide), zu_ne (by decide), zu_ne (by decide), h2]
      refine wp_iconst (q := 98) dX10_start_97 zq_iconst_1 rfl ?_
      refine wp_iaddN (q := 99) dX10_start_98 rfl ?_
      refine wp_putI (q := 102) dX10_start_99 zf_RX10_30 rfl zsh_2 rfl ?_
      refine wp_aload_n (q := 103) dX10_start_102 1 rfl rfl ?_
      refine wp_iload_n (q := 104) dX10_start_103 2 rfl rfl ?_
      refine wp_putI (q := 107) dX10_start_104 zf_RX10_34 rfl zsh_2 rfl ?_
      refine wp_return dX10_start_107 rfl ⟨rfl, ⟨rfl, rfl, rfl, ?_, ?_⟩⟩ rfl rfl
      · refine ⟨show s.2.1 + 1 ≤ 1601 by omega, ?_, ?_, fun j hj => ?_⟩
        · rw [zu_k (by decide), zu_s]; rfl
        · rw [zu_s]; rfl
        · rw [← hg]
          simp only [ztst, zu_at]
          by_cases e : j = s.2.1
          · subst e
            simp
          · have := h4 j (by have : j < s.2.1 + 1 := hj; omega)
            simp [e, this]
      · refine ⟨fun x a b c d e => by rw [zu_ne a, zu_ne a, zu_ne e, zu_ne d, zu_ne c, zu_ne b], fun k a b => by rw [zu_k b, zu_k a, zu_ne (by decide), zu_ne (by decide), zu_ne (by decide), zu_ne (by decide)]⟩
    refine wp_if_eqN (tgt := 60) (q := 56) dX10_start_53 (by decide) rfl (by omega) (fun h0 => ?_) (fun h0 => ?_)
    · skip
      subst h0
      refine wp_iload_n (q := 61) dX10_start_60 2 rfl rfl ?_
      refine WP.sub (loc' := [(3, _), (0, _), (1, _), (2, _)]) [0, 1, 2, 3] rfl ?_
      exact store
    · skip
      rw [if_neg h0] at store
      refine wp_iconst (q := 57) dX10_start_56 zq_iconst_4 rfl ?_
      refine wp_goto (tgt := 61) dX10_start_57 (by decide) ?_
      refine WP.sub (loc' := [(3, _), (0, _), (1, _), (2, _)]) [0, 1, 2, 3] rfl ?_
      exact store
  have no2 : k ≠ 1 → WP w YX10_start (d, SS, 0, 0) G (some (zXp (fun v0 M' L' R' => v0 = none ∧ L = L' ∧ R' = zRf t ∧ zMK M' (ztst k pl s) ∧ zKf M M'))) 13 [(0, .ref 2), (1, .int (nI k)), (2, .int (nI pl))] [] SS M L (zRf t) := by
    intro e1
    refine wp_iload_n (q := 14) dX10_start_13 1 rfl rfl ?_
    refine wp_iconst (q := 15) dX10_start_14 zq_iconst_2 rfl ?_
    refine wp_icmp_neN (tgt := 30) (q := 18) dX10_start_15 (by decide) rfl (by omega) (by omega) (fun c1 => ?_) (fun c1 => ?_)
    · skip
      refine wp_iconst (q := 31) dX10_start_30 zq_iconst_0 rfl ?_
      refine WP.sub (loc' := [(0, _), (1, _), (2, _)]) [0, 1, 2] rfl ?_
      exact rest 0 (by unfold ztg; rw [if_neg e1, if_neg c1]; rfl) (by decide)
    · skip
      refine wp_aload_n (q := 19) dX10_start_18 0 rfl rfl ?_
      refine wp_getI (q := 22) dX10_start_19 zf_RX10_34 rfl zsh_2 rfl ?_
      rw [h3]
      refine wp_iconst (q := 23) dX10_start_22 zq_iconst_1 rfl ?_
      refine wp_icmp_neN (tgt := 30) (q := 26) dX10_start_23 (by decide) rfl (by omega) (by omega) (fun c2 => ?_) (fun c2 => ?_)
      · skip
        refine wp_iconst (q := 31) dX10_start_30 zq_iconst_0 rfl ?_
        refine WP.sub (loc' := [(0, _), (1, _), (2, _)]) [0, 1, 2] rfl ?_
        exact rest 0 (by unfold ztg; rw [if_neg e1, if_pos c1, if_neg c2]; rfl) (by decide)
      · skip
        refine wp_iconst (q := 27) dX10_start_26 zq_iconst_1 rfl ?_
        refine wp_goto (tgt := 31) dX10_start_27 (by decide) ?_
        refine WP.sub (loc' := [(0, _), (1, _), (2, _)]) [0, 1, 2] rfl ?_
        exact rest 1 (by unfold ztg; rw [if_neg e1, if_pos c1, if_pos c2]; rfl) (by decide)
  refine wp_iload_n (q := 1) dX10_start_0 1 rfl rfl ?_
  refine wp_iconst (q := 2) dX10_start_1 zq_iconst_1 rfl ?_
  refine wp_icmp_neN (tgt := 13) (q := 5) dX10_start_2 (by decide) rfl (by omega) (by omega) (fun c1 => ?_) (fun c1 => ?_)
  · skip
    refine WP.sub (loc' := [(0, _), (1, _), (2, _)]) [0, 1, 2] rfl ?_
    exact no2 c1
  · skip
    refine wp_aload_n (q := 6) dX10_start_5 0 rfl rfl ?_
    refine wp_getI (q := 9) dX10_start_6 zf_RX10_34 rfl zsh_2 rfl ?_
    rw [h3]
    refine wp_iconst (q := 10) dX10_start_9 zq_iconst_2 rfl ?_
    refine wp_icmp_eqN (tgt := 26) (q := 13) dX10_start_10 (by decide) rfl (by omega) (by omega) (fun c2 => ?_) (fun c2 => ?_)
    · skip
      refine wp_iconst (q := 27) dX10_start_26 zq_iconst_1 rfl ?_
      refine wp_goto (tgt := 31) dX10_start_27 (by decide) ?_
      refine WP.sub (loc' := [(0, _), (1, _), (2, _)]) [0, 1, 2] rfl ?_
      exact rest 1 (by unfold ztg; rw [if_pos c1, if_pos c2]; rfl) (by decide)
    · skip
      refine wp_iload_n (q := 14) dX10_start_13 1 rfl rfl ?_
      refine wp_iconst (q := 15) dX10_start_14 zq_iconst_2 rfl ?_
      refine wp_icmp_neN (tgt := 30) (q := 18) dX10_start_15 (by decide) rfl (by omega) (by omega) (fun _ => ?_) (fun hn => absurd hn (by omega))
      refine wp_iconst (q := 31) dX10_start_30 zq_iconst_0 rfl ?_
      refine WP.sub (loc' := [(0, _), (1, _), (2, _)]) [0, 1, 2] rfl ?_
      exact rest 0 (by unfold ztg; rw [if_pos c1, if_neg c2]; rfl) (by decide)
def zlw27 (j : Nat) : Nat := 27 ^ j
theorem zLW_n : ∀ j, j < 6 → zLW j = nI (27 ^ j) := by decide +kernel
def ztal (l : Nat) (s : zTK) : zTK := (zu (if s.1 (s.2.1 - 1) 3 < 6 then zu s.1 (s.2.1 - 1) 2 (s.1 (s.2.1 - 1) 2 + l * 27 ^ s.1 (s.2.1 - 1) 3) else s.1) (s.2.1 - 1) 3 (s.1 (s.2.1 - 1) 3 + 1), s.2)
set_option maxHeartbeats 4000000 in
set_option maxRecDepth 100000 in
theorem sp_addLetter {d t l : Nat} {M : zMI} {L : zML} {s : zTK} (h : zMK M s) (h1 : 1 ≤ s.2.1) (hz : s.1 (s.2.1 - 1) 3 ≤ 1600) : Sy yX10_addLetter YX10_addLetter (d) [.ref 2, .int (nI l)] M L (zRf t) (fun v0 M' L' R' => v0 = none ∧ L = L' ∧ R' = zRf t ∧ zMK M' (ztal l s) ∧ zKf M M') := by
  refine Sp.of (by decide +kernel) rfl (fun h => by first | exact h | cases h) (Nat.le_of_ble_eq_true rfl) ?_
  intro w G
  obtain ⟨g1, g2, g3, g4⟩ := id h
  obtain ⟨l0, l1, l2, l3⟩ := g4 (s.2.1 - 1) (by omega)
  refine wp_aload_n (q := 1) dX10_addLetter_0 0 rfl rfl ?_
  refine wp_getI (q := 4) dX10_addLetter_1 zf_RX10_30 rfl zsh_2 rfl ?_
  rw [g2]
  refine wp_iconst (q := 5) dX10_addLetter_4 zq_iconst_1 rfl ?_
  refine wp_isubN (q := 6) dX10_addLetter_5 (by omega) rfl ?_
  refine wp_istore_n (q := 7) (loc' := [(2, _), (0, _), (1, _)]) dX10_addLetter_6 rfl (by decide) rfl rfl ?_
  refine wp_aload_n (q := 8) dX10_addLetter_7 1 rfl rfl ?_
  refine wp_getR (q := 11) dX10_addLetter_8 zf_RX10_21 rfl zsh_2 (zr_2_3 _) rfl ?_
  refine wp_iload_n (q := 12) dX10_addLetter_11 0 rfl rfl ?_
  refine wp_iald (q := 13) _ dX10_addLetter_12 zsh_6 rfl (by omega) (by decide) rfl ?_
  rw [l3]
  refine wp_bipush (q := 15) dX10_addLetter_13 zq_bipush_6 rfl ?_
  refine wp_icmp_geN (tgt := 39) (q := 18) dX10_addLetter_15 (by decide) rfl (by omega) (by omega) (fun c1 => ?_) (fun c1 => ?_)
  · skip
    refine wp_aload_n (q := 40) dX10_addLetter_39 1 rfl rfl ?_
    refine wp_getR (q := 43) dX10_addLetter_40 zf_RX10_21 rfl zsh_2 (zr_2_3 _) rfl ?_
    refine wp_iload_n (q := 44) dX10_addLetter_43 0 rfl rfl ?_
    first | refine wp_dup2 (q := 45) dX10_addLetter_44 rfl rfl rfl ?_ | refine wp_dup2L (q := 45) dX10_addLetter_44 rfl rfl ?_
    refine wp_iald (q := 46) _ dX10_addLetter_45 zsh_6 rfl (by omega) (by decide) rfl ?_
    rw [l3]
    refine wp_iconst (q := 47) dX10_addLetter_46 zq_iconst_1 rfl ?_
    refine wp_iaddN (q := 48) dX10_addLetter_47 rfl ?_
    refine wp_iast (q := 49) _ dX10_addLetter_48 zsh_6 rfl (by omega) (by decide) rfl ?_
    refine wp_return dX10_addLetter_49 rfl ⟨rfl, ⟨rfl, rfl, rfl, ?_, ?_⟩⟩ rfl rfl
    · refine ⟨g1, by rw [zu_ne (by decide)]; exact g2, by rw [zu_ne (by decide)]; exact g3, fun j hj => ?_⟩
      have := g4 j hj
      unfold ztal
      rw [if_neg (by omega)]
      simp only [zu_at]
      by_cases e : j = s.2.1 - 1
      · subst e
        simp [this]
      · simp [e, this]
    · exact ⟨fun x a b c d e => zu_ne e, fun k a b => by rw [zu_ne (by decide)]⟩
  · skip
    refine wp_aload_n (q := 19) dX10_addLetter_18 1 rfl rfl ?_
    refine wp_getR (q := 22) dX10_addLetter_19 zf_RX10_18 rfl zsh_2 (zr_2_2 _) rfl ?_
    refine wp_iload_n (q := 23) dX10_addLetter_22 0 rfl rfl ?_
    first | refine wp_dup2 (q := 24) dX10_addLetter_23 rfl rfl rfl ?_ | refine wp_dup2L (q := 24) dX10_addLetter_23 rfl rfl ?_
    refine wp_iald (q := 25) _ dX10_addLetter_24 zsh_5 rfl (by omega) (by decide) rfl ?_
    rw [l2]
    refine wp_iload_n (q := 26) dX10_addLetter_25 2 rfl rfl ?_
    refine wp_getsLWN (q := 29) dX10_addLetter_26 (fun U H h => h.2.2.2.2.2.2.2.2) rfl ?_
    refine wp_aload_n (q := 30) dX10_addLetter_29 1 rfl rfl ?_
    refine wp_getR (q := 33) dX10_addLetter_30 zf_RX10_21 rfl zsh_2 (zr_2_3 _) rfl ?_
    refine wp_iload_n (q := 34) dX10_addLetter_33 0 rfl rfl ?_
    refine wp_iald (q := 35) _ dX10_addLetter_34 zsh_6 rfl (by omega) (by decide) rfl ?_
    rw [l3]
    first | refine wp_iald (q := 36) _ dX10_addLetter_35 (by first | assumption | rfl) rfl (by omega) (by decide) rfl ?_ | refine wp_ialdLW (q := 36) _ dX10_addLetter_35 rfl (by omega) rfl ?_
    rw [zLW_n _ (by omega)]
    refine wp_imulN (q := 37) dX10_addLetter_36 rfl ?_
    refine wp_iaddN (q := 38) dX10_addLetter_37 rfl ?_
    refine wp_iast (q := 39) _ dX10_addLetter_38 zsh_5 rfl (by omega) (by decide) rfl ?_
    refine wp_aload_n (q := 40) dX10_addLetter_39 1 rfl rfl ?_
    refine wp_getR (q := 43) dX10_addLetter_40 zf_RX10_21 rfl zsh_2 (zr_2_3 _) rfl ?_
    refine wp_iload_n (q := 44) dX10_addLetter_43 0 rfl rfl ?_
    first | refine wp_dup2 (q := 45) dX10_addLetter_44 rfl rfl rfl ?_ | refine wp_dup2L (q := 45) dX10_addLetter_44 rfl rfl ?_
    refine wp_iald (q := 46) _ dX10_addLetter_45 zsh_6 rfl (by omega) (by decide) rfl ?_
    rw [zu_ne (by decide), l3]
    refine wp_iconst (q := 47) dX10_addLetter_46 zq_iconst_1 rfl ?_
    refine wp_iaddN (q := 48) dX10_addLetter_47 rfl ?_
    refine wp_iast (q := 49) _ dX10_addLetter_48 zsh_6 rfl (by omega) (by decide) rfl ?_
    refine wp_return dX10_addLetter_49 rfl ⟨rfl, ⟨rfl, rfl, rfl, ?_, ?_⟩⟩ rfl rfl
    · refine ⟨g1, by rw [zu_ne (by decide), zu_ne (by decide)]; exact g2, by rw [zu_ne (by decide), zu_ne (by decide)]; exact g3, fun j hj => ?_⟩
      have := g4 j hj
      unfold ztal
      rw [if_pos (by omega)]
      simp only [zu_at]
      by_cases e : j = s.2.1 - 1
      · subst e
        simp [this]
      · simp [e, this]
    · exact ⟨fun x a b c d e => by rw [zu_ne e, zu_ne d], fun k a b => by rw [zu_ne (by decide), zu_ne (by decide)]⟩
def ztad (l : Nat) (s : zTK) : zTK := (zu (if s.1 (s.2.1 - 1) 3 < 4 then zu s.1 (s.2.1 - 1) 2 (10 * s.1 (s.2.1 - 1) 2 + l) else s.1) (s.2.1 - 1) 3 (s.1 (s.2.1 - 1) 3 + 1), s.2)
set_option maxHeartbeats 4000000 in
set_option maxRecDepth 100000 in
theorem sp_addDigit {d t l : Nat} {M : zMI} {L : zML} {s : zTK} (h : zMK M s) (h1 : 1 ≤ s.2.1) (hz : s.1 (s.2.1 - 1) 3 ≤ 1600) : Sy yX10_addDigit YX10_addDigit (d) [.ref 2, .int (nI l)] M L (zRf t) (fun v0 M' L' R' => v0 = none ∧ L = L' ∧ R' = zRf t ∧ zMK M' (ztad l s) ∧ zKf M M') := by
  refine Sp.of (by decide +kernel) rfl (fun h => by first | exact h | cases h) (Nat.le_of_ble_eq_true rfl) ?_
  intro w G
  obtain ⟨g1, g2, g3, g4⟩ := id h
  obtain ⟨l0, l1, l2, l3⟩ := g4 (s.2.1 - 1) (by omega)
  refine wp_aload_n (q := 1) dX10_addDigit_0 0 rfl rfl ?_
  refine wp_getI (q := 4) dX10_addDigit_1 zf_RX10_30 rfl zsh_2 rfl ?_
  rw [g2]
  refine wp_iconst (q := 5) dX10_addDigit_4 zq_iconst_1 rfl ?_
  refine wp_isubN (q := 6) dX10_addDigit_5 (by omega) rfl ?_
  refine wp_istore_n (q := 7) (loc' := [(2, _), (0, _), (1, _)]) dX10_addDigit_6 rfl (by decide) rfl rfl ?_
  refine wp_aload_n (q := 8) dX10_addDigit_7 1 rfl rfl ?_
  refine wp_getR (q := 11) dX10_addDigit_8 zf_RX10_21 rfl zsh_2 (zr_2_3 _) rfl ?_
  refine wp_iload_n (q := 12) dX10_addDigit_11 0 rfl rfl ?_
  refine wp_iald (q := 13) _ dX10_addDigit_12 zsh_6 rfl (by omega) (by decide) rfl ?_
  rw [l3]
  refine wp_iconst (q := 14) dX10_addDigit_13 zq_iconst_4 rfl ?_
  refine wp_icmp_geN (tgt := 34) (q := 17) dX10_addDigit_14 (by decide) rfl (by omega) (by omega) (fun c1 => ?_) (fun c1 => ?_)
  · skip
    refine wp_aload_n (q := 35) dX10_addDigit_34 1 rfl rfl ?_
    refine wp_getR (q := 38) dX10_addDigit_35 zf_RX10_21 rfl zsh_2 (zr_2_3 _) rfl ?_
    refine wp_iload_n (q := 39) dX10_addDigit_38 0 rfl rfl ?_
    first | refine wp_dup2 (q := 40) dX10_addDigit_39 rfl rfl rfl ?_ | refine wp_dup2L (q := 40) dX10_addDigit_39 rfl rfl ?_
    refine wp_iald (q := 41) _ dX10_addDigit_40 zsh_6 rfl (by omega) (by decide) rfl ?_
    rw [l3]
    refine wp_iconst (q := 42) dX10_addDigit_41 zq_iconst_1 rfl ?_
    refine wp_iaddN (q := 43) dX10_addDigit_42 rfl ?_
    refine wp_iast (q := 44) _ dX10_addDigit_43 zsh_6 rfl (by omega) (by decide) rfl ?_
    refine wp_return dX10_addDigit_44 rfl ⟨rfl, ⟨rfl, rfl, rfl, ?_, ?_⟩⟩ rfl rfl
    · refine ⟨g1, by rw [zu_ne (by decide)]; exact g2, by rw [zu_ne (by decide)]; exact g3, fun j hj => ?_⟩
      have := g4 j hj
      unfold ztad
      rw [if_neg (by omega)]
      simp only [zu_at]
      by_cases e : j = s.2.1 - 1
      · subst e
        simp [this]
      · simp [e, this]
    · exact ⟨fun x a b c d e => zu_ne e, fun k a b => by rw [zu_ne (by decide)]⟩
  · skip
    refine wp_aload_n (q := 18) dX10_addDigit_17 1 rfl rfl ?_
    refine wp_getR (q := 21) dX10_addDigit_18 zf_RX10_18 rfl zsh_2 (zr_2_2 _) rfl ?_
    refine wp_iload_n (q := 22) dX10_addDigit_21 0 rfl rfl ?_
    refine wp_bipush (q := 24) dX10_addDigit_22 zq_bipush_10 rfl ?_
    refine wp_aload_n (q := 25) dX10_addDigit_24 1 rfl rfl ?_
    refine wp_getR (q := 28) dX10_addDigit_25 zf_RX10_18 rfl zsh_2 (zr_2_2 _) rfl ?_
    refine wp_iload_n (q := 29) dX10_addDigit_28 0 rfl rfl ?_
    refine wp_iald (q := 30) _ dX10_addDigit_29 zsh_5 rfl (by omega) (by decide) rfl ?_
    rw [l2]
    refine wp_imulN (q := 31) dX10_addDigit_30 rfl ?_
    refine wp_iload_n (q := 32) dX10_addDigit_31 2 rfl rfl ?_
    refine wp_iaddN (q := 33) dX10_addDigit_32 rfl ?_
    refine wp_iast (q := 34) _ dX10_addDigit_33 zsh_5 rfl (by omega) (by decide) rfl ?_
    refine wp_aload_n (q := 35) dX10_addDigit_34 1 rfl rfl ?_
    refine wp_getR (q := 38) dX10_addDigit_35 zf_RX10_21 rfl zsh_2 (zr_2_3 _) rfl ?_
    refine wp_iload_n (q := 39) dX10_addDigit_38 0 rfl rfl ?_
    first | refine wp_dup2 (q := 40) dX10_addDigit_39 rfl rfl rfl ?_ | refine wp_dup2L (q := 40) dX10_addDigit_39 rfl rfl ?_
    refine wp_iald (q := 41) _ dX10_addDigit_40 zsh_6 rfl (by omega) (by decide) rfl ?_
    rw [zu_ne (by decide), l3]
    refine wp_iconst (q := 42) dX10_addDigit_41 zq_iconst_1 rfl ?_
    refine wp_iaddN (q := 43) dX10_addDigit_42 rfl ?_
    refine wp_iast (q := 44) _ dX10_addDigit_43 zsh_6 rfl (by omega) (by decide) rfl ?_
    refine wp_return dX10_addDigit_44 rfl ⟨rfl, ⟨rfl, rfl, rfl, ?_, ?_⟩⟩ rfl rfl
    · refine ⟨g1, by rw [zu_ne (by decide), zu_ne (by decide)]; exact g2, by rw [zu_ne (by decide), zu_ne (by decide)]; exact g3, fun j hj => ?_⟩
      have := g4 j hj
      unfold ztad
      rw [if_pos (by omega)]
      simp only [zu_at]
      by_cases e : j = s.2.1 - 1
      · subst e
        simp [this]
      · simp [e, this]
    · exact ⟨fun x a b c d e => by rw [zu_ne e, zu_ne d], fun k a b => by rw [zu_ne (by decide), zu_ne (by decide)]⟩

