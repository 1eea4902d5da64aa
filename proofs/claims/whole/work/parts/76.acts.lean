set_option maxHeartbeats 4000000 in
set_option maxRecDepth 100000 in
theorem sp_give {d t n a b : Nat} {M : zMI} {L : zML} {g : zGd} {v : Nat → Nat} {hs : List (Nat → Nat)} {m : zMs} (h : zCI M L t n g v hs m) (ha : a < n) (hb : b < n) (hab : a ≠ b) (ha0 : ht v a ≠ 0) (hb9 : ht v b < 99) : Sy yX11_give YX11_give (d + 4) [.ref 0, .int (nI a), .int (nI b)] M L (zRf t) (zAn M L t n g (vup (vup v (4 + 6 * a) (ht v a - 1)) (4 + 6 * b) (ht v b + 1)) ((v :: hs).take 20) m (.int (nI 1))) := by
  refine Sp.of (by decide +kernel) rfl (fun h => by first | exact h | cases h) (Nat.le_of_ble_eq_true rfl) ?_
  intro w G
  have hv := zCI_hv h
  have hr := zCI_sr h
  have h8 := hv.1
  have hwa := hv.2.1 a ha
  have hwb := hv.2.1 b hb
  have h99 := hv.2.2.2.1 a ha
  have hwab : wh v b ≠ wh v a := fun e => hab (hv.2.2.1 b a hb ha e).symm
  obtain ⟨p1, p2, -⟩ := hr.2.2.2.2 a ha
  obtain ⟨q1, q2, -⟩ := hr.2.2.2.2 b hb
  refine wp_aload_n (q := 1) dX11_give_0 0 rfl rfl ?_
  refine wp_iload_n (q := 2) dX11_give_1 1 rfl rfl ?_
  refine wp_cvx (q := 5) (sp_isSeat (d := 0) hr.1 h8) zm_X11_isSeat zl_RX11_196 dX11_give_2 rfl (by omega) (Nat.le_of_ble_eq_true rfl) zsh_0 rfl rfl ?_
  rw [if_pos (zin_i ha (by omega))]
  refine wp_if_eqN (tgt := 21) (q := 8) dX11_give_5 (by decide) rfl (by omega) (fun hn => absurd hn (by first | omega | exact fun h => h | exact fun h => h trivial)) (fun _ => ?_)
  refine wp_aload_n (q := 9) dX11_give_8 0 rfl rfl ?_
  refine wp_iload_n (q := 10) dX11_give_9 2 rfl rfl ?_
  refine wp_cvx (q := 13) (sp_isSeat (d := 0) hr.1 h8) zm_X11_isSeat zl_RX11_196 dX11_give_10 rfl (by omega) (Nat.le_of_ble_eq_true rfl) zsh_0 rfl rfl ?_
  rw [if_pos (zin_i hb (by omega))]
  refine wp_if_eqN (tgt := 21) (q := 16) dX11_give_13 (by decide) rfl (by omega) (fun hn => absurd hn (by first | omega | exact fun h => h | exact fun h => h trivial)) (fun _ => ?_)
  refine wp_iload_n (q := 17) dX11_give_16 1 rfl rfl ?_
  refine wp_iload_n (q := 18) dX11_give_17 2 rfl rfl ?_
  refine wp_icmp_neN (tgt := 27) (q := 21) dX11_give_18 (by decide) rfl (by omega) (by omega) (fun _ => ?_) (fun hn => absurd hn (by first | omega | exact fun h => h | exact fun h => h trivial))
  refine wp_aload_n (q := 28) dX11_give_27 0 rfl rfl ?_
  refine wp_getR (q := 31) dX11_give_28 zf_RX11_55 rfl zsh_0 (by first | rfl | assumption) rfl ?_
  refine wp_getR (q := 34) dX11_give_31 zf_RX11_202 rfl zsh_43 (by first | rfl | assumption) rfl ?_
  refine wp_iload_n (q := 35) dX11_give_34 1 rfl rfl ?_
  refine wp_iald (q := 36) _ dX11_give_35 zsh_44 rfl (by omega) (by decide) rfl ?_
  rw [p1]
  refine wp_istore_n (q := 37) (loc' := [(3, _), (0, _), (1, _), (2, _)]) dX11_give_36 rfl (by decide) rfl rfl ?_
  refine wp_aload_n (q := 38) dX11_give_37 1 rfl rfl ?_
  refine wp_getR (q := 41) dX11_give_38 zf_RX11_55 rfl zsh_0 (by first | rfl | assumption) rfl ?_
  refine wp_getR (q := 44) dX11_give_41 zf_RX11_202 rfl zsh_43 (by first | rfl | assumption) rfl ?_
  refine wp_iload_n (q := 45) dX11_give_44 3 rfl rfl ?_
  refine wp_iald (q := 46) _ dX11_give_45 zsh_44 rfl (by omega) (by decide) rfl ?_
  rw [q1]
  refine wp_istore (q := 48) (loc' := [(4, _), (3, _), (0, _), (1, _), (2, _)]) dX11_give_46 (by decide) rfl rfl ?_
  refine wp_aload_n (q := 49) dX11_give_48 2 rfl rfl ?_
  refine wp_getR (q := 52) dX11_give_49 zf_RX11_55 rfl zsh_0 (by first | rfl | assumption) rfl ?_
  refine wp_getR (q := 55) dX11_give_52 zf_RX11_218 rfl zsh_43 (by first | rfl | assumption) rfl ?_
  refine wp_iload_n (q := 56) dX11_give_55 1 rfl rfl ?_
  refine wp_iald (q := 57) _ dX11_give_56 zsh_45 rfl (by omega) (by decide) rfl ?_
  rw [p2]
  refine wp_if_eqN (tgt := 75) (q := 60) dX11_give_57 (by decide) rfl (by omega) (fun hn => absurd hn (by first | omega | exact fun h => h | exact fun h => h trivial)) (fun _ => ?_)
  refine wp_aload_n (q := 61) dX11_give_60 2 rfl rfl ?_
  refine wp_getR (q := 64) dX11_give_61 zf_RX11_55 rfl zsh_0 (by first | rfl | assumption) rfl ?_
  refine wp_getR (q := 67) dX11_give_64 zf_RX11_218 rfl zsh_43 (by first | rfl | assumption) rfl ?_
  refine wp_iload (q := 69) dX11_give_67 0 rfl rfl ?_
  refine wp_iald (q := 70) _ dX11_give_69 zsh_45 rfl (by omega) (by decide) rfl ?_
  rw [q2]
  refine wp_bipush (q := 72) dX11_give_70 zq_bipush_99 rfl ?_
  refine wp_icmp_ltN (tgt := 81) (q := 75) dX11_give_72 (by decide) rfl (by omega) (by omega) (fun _ => ?_) (fun hn => absurd hn (by first | omega | exact fun h => h | exact fun h => h trivial))
  refine wp_aload_n (q := 82) dX11_give_81 2 rfl rfl ?_
  refine wp_cvy (q := 85) (sp_act (d := 0) h) zm_X11_act zl_RX11_345 dX11_give_82 rfl (by omega) (Nat.le_of_ble_eq_true rfl) zsh_0 rfl rfl ?_
  rintro _ M1 _ _ ⟨rfl, rfl, rfl, h1, k1, k2, hf1⟩
  have hr1 := zCI_sr h1
  obtain ⟨-, p3, -⟩ := hr1.2.2.2.2 a ha
  obtain ⟨-, q3, -⟩ := hr1.2.2.2.2 b hb
  refine wp_aload_n (q := 86) dX11_give_85 2 rfl rfl ?_
  refine wp_getR (q := 89) dX11_give_86 zf_RX11_55 rfl zsh_0 (by first | rfl | assumption) rfl ?_
  refine wp_getR (q := 92) dX11_give_89 zf_RX11_218 rfl zsh_43 (by first | rfl | assumption) rfl ?_
  refine wp_iload_n (q := 93) dX11_give_92 1 rfl rfl ?_
  first | refine wp_dup2 (q := 94) dX11_give_93 rfl rfl rfl ?_ | refine wp_dup2L (q := 94) dX11_give_93 rfl rfl ?_
  refine wp_iald (q := 95) _ dX11_give_94 zsh_45 rfl (by omega) (by decide) rfl ?_
  rw [p3]
  refine wp_iconst (q := 96) dX11_give_95 zq_iconst_1 rfl ?_
  refine wp_isubN (q := 97) dX11_give_96 (by omega) rfl ?_
  refine wp_iast (q := 98) _ dX11_give_97 zsh_45 rfl (by omega) (by decide) rfl ?_
  refine wp_aload_n (q := 99) dX11_give_98 2 rfl rfl ?_
  refine wp_getR (q := 102) dX11_give_99 zf_RX11_55 rfl zsh_0 (by first | rfl | assumption) rfl ?_
  refine wp_getR (q := 105) dX11_give_102 zf_RX11_218 rfl zsh_43 (by first | rfl | assumption) rfl ?_
  refine wp_iload (q := 107) dX11_give_105 0 rfl rfl ?_
  first | refine wp_dup2 (q := 108) dX11_give_107 rfl rfl rfl ?_ | refine wp_dup2L (q := 108) dX11_give_107 rfl rfl ?_
  refine wp_iald (q := 109) _ dX11_give_108 zsh_45 rfl (by omega) (by decide) rfl ?_
  rw [zu_k hwab, q3]
  refine wp_iconst (q := 110) dX11_give_109 zq_iconst_1 rfl ?_
  refine wp_iaddN (q := 111) dX11_give_110 rfl ?_
  refine wp_iast (q := 112) _ dX11_give_111 zsh_45 rfl (by omega) (by decide) rfl ?_
  refine wp_iconst (q := 113) dX11_give_112 zq_iconst_1 rfl ?_
  have hr2 := zSR_ht (x := ht v a - 1) (M' := zu M1 45 (wh v a) (nI (ht v a - 1))) hv hr1 ha (fun p => by rw [zu_o]) (fun x hx => zu_ne hx)
  have hv2 := zV_ht (x := ht v a - 1) hv ha (by omega)
  have hr3 := zSR_ht (x := ht v b + 1) (M' := zu (zu M1 45 (wh v a) (nI (ht v a - 1))) 45 (wh v b) (nI (ht v b + 1))) hv2 hr2 hb (fun p => by rw [zu_o, show wh (vup v (4 + 6 * a) (ht v a - 1)) b = wh v b from vup_ne (by omega)]) (fun x hx => zu_ne hx)
  exact wp_zreturn dX11_give_113 rfl (by first | with_reducible exact znar_0 | with_reducible exact znar_1 | assumption) ⟨rfl, ⟨rfl, rfl, zCI_v h1 k1 k2 (fun x x1 x2 => by rw [zu_ne (by omega), zu_ne (by omega)]) (zV_ht hv2 hb (by omega)) hr3, zXf_t hf1 (fun x hx => by rw [zu_ne (by omega), zu_ne (by omega)])⟩⟩ rfl rfl
set_option maxHeartbeats 4000000 in
set_option maxRecDepth 100000 in
theorem sp_giveN {d t n : Nat} {x y : Int32} {M : zMI} {L : zML} {g : zGd} {v : Nat → Nat} {hs : List (Nat → Nat)} {m : zMs} (h : zCI M L t n g v hs m) (hN : ¬ (zin x n ∧ zin y n ∧ x ≠ y ∧ ht v x.toInt.toNat ≠ 0 ∧ ht v y.toInt.toNat < 99)) : Sy yX11_give YX11_give (d + 4) [.ref 0, .int x, .int y] M L (zRf t) (zAn M L t n g v hs (zMup m 3) (.int (nI 0))) := by
  refine Sp.of (by decide +kernel) rfl (fun h => by first | exact h | cases h) (Nat.le_of_ble_eq_true rfl) ?_
  intro w G
  have hv := zCI_hv h
  have hr := zCI_sr h
  have h8 := hv.1
  have fin : WP w YX11_give (d + 4, SS, 0, 0) G (some (zXp (zAn M L t n g v hs (zMup m 3) (.int (nI 0))))) 21 [(0, .ref 0), (1, .int x), (2, .int y)] [] SS M L (zRf t) := by
    refine wp_aload_n (q := 22) dX11_give_21 0 rfl rfl ?_
    refine wp_iconst (q := 23) dX11_give_22 zq_iconst_3 rfl ?_
    refine wp_cvx (q := 26) (sp_deny (d := 0) (k := 3) (by decide)) zm_X11_deny zl_RX11_124 dX11_give_23 rfl (by omega) (Nat.le_of_ble_eq_true rfl) zsh_0 rfl rfl ?_
    exact wp_zreturn dX11_give_26 rfl (by first | with_reducible exact znar_0 | with_reducible exact znar_1 | assumption) ⟨rfl, ⟨rfl, rfl, zCI_rf h (by decide), zXf_rf⟩⟩ rfl rfl
  refine wp_aload_n (q := 1) dX11_give_0 0 rfl rfl ?_
  refine wp_iload_n (q := 2) dX11_give_1 1 rfl rfl ?_
  refine wp_cvx (q := 5) (sp_isSeat (d := 0) hr.1 h8) zm_X11_isSeat zl_RX11_196 dX11_give_2 rfl (by omega) (Nat.le_of_ble_eq_true rfl) zsh_0 rfl rfl ?_
  by_cases c : zin x n
  · rw [if_pos c]
    refine wp_if_eqN (tgt := 21) (q := 8) dX11_give_5 (by decide) rfl (by omega) (fun hn => absurd hn (by first | omega | exact fun h => h | exact fun h => h trivial)) (fun _ => ?_)
    refine wp_aload_n (q := 9) dX11_give_8 0 rfl rfl ?_
    refine wp_iload_n (q := 10) dX11_give_9 2 rfl rfl ?_
    refine wp_cvx (q := 13) (sp_isSeat (d := 0) hr.1 h8) zm_X11_isSeat zl_RX11_196 dX11_give_10 rfl (by omega) (Nat.le_of_ble_eq_true rfl) zsh_0 rfl rfl ?_
    by_cases c2 : zin y n
    · rw [if_pos c2]
      refine wp_if_eqN (tgt := 21) (q := 16) dX11_give_13 (by decide) rfl (by omega) (fun hn => absurd hn (by first | omega | exact fun h => h | exact fun h => h trivial)) (fun _ => ?_)
      refine wp_iload_n (q := 17) dX11_give_16 1 rfl rfl ?_
      refine wp_iload_n (q := 18) dX11_give_17 2 rfl rfl ?_
      refine wp_icmp_ne (tgt := 27) (q := 21) dX11_give_18 (by decide) rfl (fun c3 => ?_) (fun c3 => ?_)
      · skip
        obtain ⟨a, ha, rfl⟩ := zin_n (by omega) c
        obtain ⟨b, hb, rfl⟩ := zin_n (by omega) c2
        rw [nI_toInt (by omega), nI_toInt (by omega)] at hN
        have hN' : ¬ (ht v a ≠ 0 ∧ ht v b < 99) := fun e => hN ⟨c, c2, c3, e⟩
        obtain ⟨p1, p2, -⟩ := hr.2.2.2.2 a ha
        obtain ⟨q1, q2, -⟩ := hr.2.2.2.2 b hb
        have hwa := hv.2.1 a ha
        have hwb := hv.2.1 b hb
        have h99 := hv.2.2.2.1 a ha
        have h99b := hv.2.2.2.1 b hb
        have fin2 : WP w YX11_give (d + 4, SS, 0, 0) G (some (zXp (zAn M L t n g v hs (zMup m 3) (.int (nI 0))))) 75 [(4, .int (nI (wh v b))), (3, .int (nI (wh v a))), (0, .ref 0), (1, .int (nI a)), (2, .int (nI b))] [] SS M L (zRf t) := by
          refine wp_aload_n (q := 76) dX11_give_75 2 rfl rfl ?_
          refine wp_iconst (q := 77) dX11_give_76 zq_iconst_3 rfl ?_
          refine wp_cvx (q := 80) (sp_deny (d := 0) (k := 3) (by decide)) zm_X11_deny zl_RX11_124 dX11_give_77 rfl (by omega) (Nat.le_of_ble_eq_true rfl) zsh_0 rfl rfl ?_
          exact wp_zreturn dX11_give_80 rfl (by first | with_reducible exact znar_0 | with_reducible exact znar_1 | assumption) ⟨rfl, ⟨rfl, rfl, zCI_rf h (by decide), zXf_rf⟩⟩ rfl rfl
        refine wp_aload_n (q := 28) dX11_give_27 0 rfl rfl ?_
        refine wp_getR (q := 31) dX11_give_28 zf_RX11_55 rfl zsh_0 (by first | rfl | assumption) rfl ?_
        refine wp_getR (q := 34) dX11_give_31 zf_RX11_202 rfl zsh_43 (by first | rfl | assumption) rfl ?_
        refine wp_iload_n (q := 35) dX11_give_34 1 rfl rfl ?_
        refine wp_iald (q := 36) _ dX11_give_35 zsh_44 rfl (by omega) (by decide) rfl ?_
        rw [p1]
        refine wp_istore_n (q := 37) (loc' := [(3, _), (0, _), (1, _), (2, _)]) dX11_give_36 rfl (by decide) rfl rfl ?_
        refine wp_aload_n (q := 38) dX11_give_37 1 rfl rfl ?_
        refine wp_getR (q := 41) dX11_give_38 zf_RX11_55 rfl zsh_0 (by first | rfl | assumption) rfl ?_
        refine wp_getR (q := 44) dX11_give_41 zf_RX11_202 rfl zsh_43 (by first | rfl | assumption) rfl ?_
        refine wp_iload_n (q := 45) dX11_give_44 3 rfl rfl ?_
        refine wp_iald (q := 46) _ dX11_give_45 zsh_44 rfl (by omega) (by decide) rfl ?_
        rw [q1]
        refine wp_istore (q := 48) (loc' := [(4, _), (3, _), (0, _), (1, _), (2, _)]) dX11_give_46 (by decide) rfl rfl ?_
        refine wp_aload_n (q := 49) dX11_give_48 2 rfl rfl ?_
        refine wp_getR (q := 52) dX11_give_49 zf_RX11_55 rfl zsh_0 (by first | rfl | assumption) rfl ?_
        refine wp_getR (q := 55) dX11_give_52 zf_RX11_218 rfl zsh_43 (by first | rfl | assumption) rfl ?_
        refine wp_iload_n (q := 56) dX11_give_55 1 rfl rfl ?_
        refine wp_iald (q := 57) _ dX11_give_56 zsh_45 rfl (by omega) (by decide) rfl ?_
        rw [p2]
        refine wp_if_eqN (tgt := 75) (q := 60) dX11_give_57 (by decide) rfl (by omega) (fun c4 => ?_) (fun c4 => ?_)
        · skip
          refine WP.sub (loc' := [(4, _), (3, _), (0, _), (1, _), (2, _)]) [0, 1, 2, 3, 4] rfl ?_
          exact fin2
        · skip
          refine wp_aload_n (q := 61) dX11_give_60 2 rfl rfl ?_
          refine wp_getR (q := 64) dX11_give_61 zf_RX11_55 rfl zsh_0 (by first | rfl | assumption) rfl ?_
          refine wp_getR (q := 67) dX11_give_64 zf_RX11_218 rfl zsh_43 (by first | rfl | assumption) rfl ?_
          refine wp_iload (q := 69) dX11_give_67 0 rfl rfl ?_
          refine wp_iald (q := 70) _ dX11_give_69 zsh_45 rfl (by omega) (by decide) rfl ?_
          rw [q2]
          refine wp_bipush (q := 72) dX11_give_70 zq_bipush_99 rfl ?_
          refine wp_icmp_ltN (tgt := 81) (q := 75) dX11_give_72 (by decide) rfl (by omega) (by omega) (fun hn => absurd hn (by first | omega | exact fun h => h | exact fun h => h trivial)) (fun _ => ?_)
          refine WP.sub (loc' := [(4, _), (3, _), (0, _), (1, _), (2, _)]) [0, 1, 2, 3, 4] rfl ?_
          exact fin2
      · skip
        refine WP.sub (loc' := [(0, _), (1, _), (2, _)]) [0, 1, 2] rfl ?_
        exact fin
    · rw [if_neg c2]
      refine wp_if_eqN (tgt := 21) (q := 16) dX11_give_13 (by decide) rfl (by omega) (fun _ => ?_) (fun hn => absurd hn (by first | omega | exact fun h => h | exact fun h => h trivial))
      refine WP.sub (loc' := [(0, _), (1, _), (2, _)]) [0, 1, 2] rfl ?_
      exact fin
  · rw [if_neg c]
    refine wp_if_eqN (tgt := 21) (q := 8) dX11_give_5 (by decide) rfl (by omega) (fun _ => ?_) (fun hn => absurd hn (by first | omega | exact fun h => h | exact fun h => h trivial))
    refine WP.sub (loc' := [(0, _), (1, _), (2, _)]) [0, 1, 2] rfl ?_
    exact fin
set_option maxHeartbeats 4000000 in
set_option maxRecDepth 100000 in
theorem sp_undo {d t n : Nat} {M : zMI} {L : zML} {g : zGd} {v u : Nat → Nat} {hs : List (Nat → Nat)} {m : zMs} (h : zCI M L t n g v (u :: hs) m) : Sy yX11_undo YX11_undo (d + 3) [.ref 0] M L (zRf t) (zAn M L t n g u hs m (.int (nI 1))) := by
  refine Sp.of (by decide +kernel) rfl (fun h => by first | exact h | cases h) (Nat.le_of_ble_eq_true rfl) ?_
  intro w G
  obtain ⟨nx, hh⟩ := h.2.2.2.2.1
  have hl := hh.2.1
  have hlen : (u :: hs).length = hs.length + 1 := List.length_cons
  have hu := (hh.2.2.2.2 0 u rfl).1
  refine wp_aload_n (q := 1) dX11_undo_0 0 rfl rfl ?_
  refine wp_getR (q := 4) dX11_undo_1 zf_RX11_62 rfl zsh_0 (by first | rfl | assumption) rfl ?_
  refine wp_getI (q := 7) dX11_undo_4 zf_RX11_193 rfl zsh_48 rfl ?_
  rw [hh.2.2.2.1]
  refine wp_if_neN (tgt := 16) (q := 10) dX11_undo_7 (by decide) rfl (by omega) (fun _ => ?_) (fun hn => absurd hn (by first | omega | exact fun h => h | exact fun h => h trivial))
  refine wp_aload_n (q := 17) dX11_undo_16 0 rfl rfl ?_
  refine wp_getR (q := 20) dX11_undo_17 zf_RX11_62 rfl zsh_0 (by first | rfl | assumption) rfl ?_
  refine wp_aload_n (q := 21) dX11_undo_20 0 rfl rfl ?_
  refine wp_getR (q := 24) dX11_undo_21 zf_RX11_55 rfl zsh_0 (by first | rfl | assumption) rfl ?_
  refine wp_cvy (q := 27) (sp_bringBack (d := 0) hh) zm_X2_bringBack zl_RX11_364 dX11_undo_24 rfl (by omega) (Nat.le_of_ble_eq_true rfl) zsh_48 rfl rfl ?_
  rintro _ M2 _ _ ⟨rfl, rfl, rfl, hr2, hh2, hx⟩
  refine wp_aload_n (q := 28) dX11_undo_27 0 rfl rfl ?_
  refine wp_cvx (q := 31) (sp_forgetA (d := 0)) zm_X11_forgetAnswers zl_RX11_144 dX11_undo_28 rfl (by omega) (Nat.le_of_ble_eq_true rfl) zsh_0 rfl rfl ?_
  have k1 : zu (zu M2 156 3 (nI 0)) 167 7 (nI 0) 156 3 = nI 0 := by rw [zu_ne (by decide), zu_s]
  have hx2 : ∀ x, (x < 43 ∨ 48 < x) → x ≠ 156 → x ≠ 167 → zu (zu M2 156 3 (nI 0)) 167 7 (nI 0) x = M x := fun x x1 x2 x3 => by rw [zu_ne x3, zu_ne x2]; exact hx x (by omega)
  refine wp_iconst (q := 32) dX11_undo_31 zq_iconst_1 rfl ?_
  refine wp_zreturn dX11_undo_32 rfl (by first | with_reducible exact znar_0 | with_reducible exact znar_1 | assumption) ⟨rfl, ⟨rfl, rfl, ?_, fun x x1 => ⟨hx2 x (by omega) (by omega) (by omega), rfl⟩⟩⟩ rfl rfl
  obtain ⟨a1, a2, a3, a4, -, a6, a7, a8, a9, a10, a11⟩ := h
  have ht2 : t = 10 ∨ t = 24 := a1
  exact ⟨a1, hu, zCt_fr a3 (fun x x1 x2 x3 => hx2 x (by omega) (by omega) (by omega)), zSR_fr hr2 (fun x x1 x2 => by rw [zu_ne (by omega), zu_ne (by omega)]), ⟨_, zHi_fr hh2 (fun x x1 x2 => by rw [zu_ne (by omega), zu_ne (by omega)])⟩, zPM_fr a6 (hx2 151 (by omega) (by omega) (by omega)), ⟨Or.inl k1, Or.inl zu_s⟩, zCm_fr a8 (hx2 0 (by omega) (by omega) (by omega)) (hx2 1 (by omega) (by omega) (by omega)) (hx2 175 (by omega) (by omega) (by omega)) (hx2 176 (by omega) (by omega) (by omega)), zDx_fr a9 (fun x x1 x2 x3 => hx2 x (by omega) (by omega) (by omega)), zDx_fr a10 (fun x x1 x2 x3 => hx2 x (by omega) (by omega) (by omega)), fun w hw => by rw [hx2 8 (by omega) (by omega) (by omega)]; exact a11 w hw⟩
set_option maxHeartbeats 4000000 in
set_option maxRecDepth 100000 in
theorem sp_undoN {d t n : Nat} {M : zMI} {L : zML} {g : zGd} {v : Nat → Nat} {m : zMs} (h : zCI M L t n g v [] m) : Sy yX11_undo YX11_undo (d + 3) [.ref 0] M L (zRf t) (zAn M L t n g v [] (zMup m 4) (.int (nI 0))) := by
  refine Sp.of (by decide +kernel) rfl (fun h => by first | exact h | cases h) (Nat.le_of_ble_eq_true rfl) ?_
  intro w G
  obtain ⟨nx, hh⟩ := h.2.2.2.2.1
  refine wp_aload_n (q := 1) dX11_undo_0 0 rfl rfl ?_
  refine wp_getR (q := 4) dX11_undo_1 zf_RX11_62 rfl zsh_0 (by first | rfl | assumption) rfl ?_
  refine wp_getI (q := 7) dX11_undo_4 zf_RX11_193 rfl zsh_48 rfl ?_
  rw [hh.2.2.2.1, show ([] : List (Nat → Nat)).length = 0 from rfl]
  refine wp_if_neN (tgt := 16) (q := 10) dX11_undo_7 (by decide) rfl (by omega) (fun hn => absurd hn (by exact fun c => c rfl)) (fun _ => ?_)
  refine wp_aload_n (q := 11) dX11_undo_10 0 rfl rfl ?_
  refine wp_iconst (q := 12) dX11_undo_11 zq_iconst_4 rfl ?_
  refine wp_cvx (q := 15) (sp_deny (d := 0) (k := 4) (by decide)) zm_X11_deny zl_RX11_124 dX11_undo_12 rfl (by omega) (Nat.le_of_ble_eq_true rfl) zsh_0 rfl rfl ?_
  exact wp_zreturn dX11_undo_15 rfl (by first | with_reducible exact znar_0 | with_reducible exact znar_1 | assumption) ⟨rfl, ⟨rfl, rfl, zCI_rf h (by decide), zXf_rf⟩⟩ rfl rfl

