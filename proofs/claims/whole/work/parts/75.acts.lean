theorem zXf_t {M M1 M' : zMI} {L : zML} (h1 : ∀ x, 177 ≤ x → M1 x = M x) (h2 : ∀ x, 177 ≤ x → M' x = M1 x) : zXf M M' L L := fun x hx => ⟨by rw [h2 x hx, h1 x hx], rfl⟩
set_option maxHeartbeats 4000000 in
set_option maxRecDepth 100000 in
theorem sp_hold {d t n s hh gp lo : Nat} {M : zMI} {L : zML} {g : zGd} {v : Nat → Nat} {hs : List (Nat → Nat)} {m : zMs} (h : zCI M L t n g v hs m) (hs0 : s < n) (hh0 : hh < 2) (hg0 : gp < 3) (hl0 : lo < 10) : Sy yX11_hold YX11_hold (d + 4) [.ref 0, .int (nI s), .int (nI hh), .int (nI gp), .int (nI lo)] M L (zRf t) (zAn M L t n g (zhold v s hh (10 * gp + lo)) ((v :: hs).take 20) m (.int (nI 1))) := by
  refine Sp.of (by decide +kernel) rfl (fun h => by first | exact h | cases h) (Nat.le_of_ble_eq_true rfl) ?_
  intro w G
  have hv := zCI_hv h
  have hr := zCI_sr h
  have h8 := hv.1
  have ho : zSt 43 := Or.inl rfl
  have hw := hv.2.1 s hs0
  refine wp_aload_n (q := 1) dX11_hold_0 0 rfl rfl ?_
  refine wp_iload_n (q := 2) dX11_hold_1 1 rfl rfl ?_
  refine wp_cvx (q := 5) (sp_isSeat (d := 0) hr.1 h8) zm_X11_isSeat zl_RX11_196 dX11_hold_2 rfl (by omega) (Nat.le_of_ble_eq_true rfl) zsh_0 rfl rfl ?_
  rw [if_pos (zin_i hs0 (by omega))]
  refine wp_if_eqN (tgt := 37) (q := 8) dX11_hold_5 (by decide) rfl (by omega) (fun hn => absurd hn (by first | omega | exact fun h => h | exact fun h => h trivial)) (fun _ => ?_)
  refine wp_aload_n (q := 9) dX11_hold_8 0 rfl rfl ?_
  refine wp_iload_n (q := 10) dX11_hold_9 2 rfl rfl ?_
  refine wp_cvx (q := 13) (sp_isHand (d := 0)) zm_X11_isHand zl_RX11_284 dX11_hold_10 rfl (by omega) (Nat.le_of_ble_eq_true rfl) zsh_0 rfl rfl ?_
  rw [if_pos (zin_i hh0 (by decide))]
  refine wp_if_eqN (tgt := 37) (q := 16) dX11_hold_13 (by decide) rfl (by omega) (fun hn => absurd hn (by first | omega | exact fun h => h | exact fun h => h trivial)) (fun _ => ?_)
  refine wp_iload_n (q := 17) dX11_hold_16 3 rfl rfl ?_
  refine wp_if_ltN (tgt := 37) (q := 20) dX11_hold_17 (by decide) rfl (by omega) (fun hn => absurd hn (by first | omega | exact fun h => h | exact fun h => h trivial)) (fun _ => ?_)
  refine wp_iload_n (q := 21) dX11_hold_20 3 rfl rfl ?_
  refine wp_iconst (q := 22) dX11_hold_21 zq_iconst_2 rfl ?_
  refine wp_icmp_gtN (tgt := 37) (q := 25) dX11_hold_22 (by decide) rfl (by omega) (by omega) (fun hn => absurd hn (by first | omega | exact fun h => h | exact fun h => h trivial)) (fun _ => ?_)
  refine wp_iload (q := 27) dX11_hold_25 4 rfl rfl ?_
  refine wp_if_ltN (tgt := 37) (q := 30) dX11_hold_27 (by decide) rfl (by omega) (fun hn => absurd hn (by first | omega | exact fun h => h | exact fun h => h trivial)) (fun _ => ?_)
  refine wp_iload (q := 32) dX11_hold_30 4 rfl rfl ?_
  refine wp_bipush (q := 34) dX11_hold_32 zq_bipush_9 rfl ?_
  refine wp_icmp_leN (tgt := 43) (q := 37) dX11_hold_34 (by decide) rfl (by omega) (by omega) (fun _ => ?_) (fun hn => absurd hn (by first | omega | exact fun h => h | exact fun h => h trivial))
  refine wp_aload_n (q := 44) dX11_hold_43 0 rfl rfl ?_
  refine wp_cvy (q := 47) (sp_act (d := 0) h) zm_X11_act zl_RX11_345 dX11_hold_44 rfl (by omega) (Nat.le_of_ble_eq_true rfl) zsh_0 rfl rfl ?_
  rintro _ M1 _ _ ⟨rfl, rfl, rfl, h1, k1, k2, hf1⟩
  refine wp_aload_n (q := 48) dX11_hold_47 0 rfl rfl ?_
  refine wp_getR (q := 51) dX11_hold_48 zf_RX11_55 rfl zsh_0 (by first | rfl | assumption) rfl ?_
  refine wp_iload_n (q := 52) dX11_hold_51 1 rfl rfl ?_
  refine wp_iload_n (q := 53) dX11_hold_52 2 rfl rfl ?_
  refine wp_cvx (q := 56) (sp_handOf (d := 0) ho hv (zCI_sr h1) hs0 hh0) zm_X7_handOf zl_RX11_215 dX11_hold_53 rfl (by omega) (Nat.le_of_ble_eq_true rfl) zsh_43 rfl rfl ?_
  refine wp_istore (q := 58) (loc' := [(5, _), (0, _), (1, _), (2, _), (3, _), (4, _)]) dX11_hold_56 (by decide) rfl rfl ?_
  refine wp_aload_n (q := 59) dX11_hold_58 1 rfl rfl ?_
  refine wp_getR (q := 62) dX11_hold_59 zf_RX11_55 rfl zsh_0 (by first | rfl | assumption) rfl ?_
  refine wp_getR (q := 65) dX11_hold_62 zf_RX11_224 rfl zsh_43 (by first | rfl | assumption) rfl ?_
  refine wp_iload (q := 67) dX11_hold_65 0 rfl rfl ?_
  refine wp_iload_n (q := 68) dX11_hold_67 4 rfl rfl ?_
  refine wp_iast (q := 69) _ dX11_hold_68 zsh_46 rfl (by omega) (by decide) rfl ?_
  refine wp_aload_n (q := 70) dX11_hold_69 1 rfl rfl ?_
  refine wp_getR (q := 73) dX11_hold_70 zf_RX11_55 rfl zsh_0 (by first | rfl | assumption) rfl ?_
  refine wp_getR (q := 76) dX11_hold_73 zf_RX11_227 rfl zsh_43 (by first | rfl | assumption) rfl ?_
  refine wp_iload (q := 78) dX11_hold_76 0 rfl rfl ?_
  refine wp_iload (q := 80) dX11_hold_78 5 rfl rfl ?_
  refine wp_iast (q := 81) _ dX11_hold_80 zsh_47 rfl (by omega) (by decide) rfl ?_
  refine wp_iconst (q := 82) dX11_hold_81 zq_iconst_1 rfl ?_
  refine wp_zreturn dX11_hold_82 rfl (by first | with_reducible exact znar_0 | with_reducible exact znar_1 | assumption) ⟨rfl, ⟨rfl, rfl, ?_, zXf_t hf1 (fun x hx => by rw [zu_ne (by omega), zu_ne (by omega)])⟩⟩ rfl rfl
  refine zCI_v h1 k1 k2 (fun x x1 x2 => by rw [zu_ne (by omega), zu_ne (by omega)]) (zV_hold hv hh0 (by omega)) ?_
  refine zSR_hold hv (zCI_sr h1) hs0 hh0 (fun p => ?_) (fun p => ?_) (fun a a1 a2 => by rw [zu_ne (by omega), zu_ne (by omega)])
  · rw [zu_ne (by decide), zu_at, show (10 * gp + lo) / 10 = gp by omega]
    by_cases c : p = 2 * wh v s + hh
    · rw [if_pos ⟨rfl, c⟩, if_pos c]
    · rw [if_neg (fun e => c e.2), if_neg c]
  · rw [zu_at, zu_ne (by decide), show (10 * gp + lo) % 10 = lo by omega]
    by_cases c : p = 2 * wh v s + hh
    · rw [if_pos ⟨rfl, c⟩, if_pos c]
    · rw [if_neg (fun e => c e.2), if_neg c]
set_option maxHeartbeats 4000000 in
set_option maxRecDepth 100000 in
theorem sp_holdN {d t n : Nat} {x y z u : Int32} {M : zMI} {L : zML} {g : zGd} {v : Nat → Nat} {hs : List (Nat → Nat)} {m : zMs} (h : zCI M L t n g v hs m) (hN : ¬ (zin x n ∧ zin y 2 ∧ zin z 3 ∧ zin u 10)) : Sy yX11_hold YX11_hold (d + 4) [.ref 0, .int x, .int y, .int z, .int u] M L (zRf t) (zAn M L t n g v hs (zMup m 2) (.int (nI 0))) := by
  refine Sp.of (by decide +kernel) rfl (fun h => by first | exact h | cases h) (Nat.le_of_ble_eq_true rfl) ?_
  intro w G
  have hv := zCI_hv h
  have hr := zCI_sr h
  have h8 := hv.1
  have fin : WP w YX11_hold (d + 4, SS, 0, 0) G (some (zXp (zAn M L t n g v hs (zMup m 2) (.int (nI 0))))) 37 [(0, .ref 0), (1, .int x), (2, .int y), (3, .int z), (4, .int u)] [] SS M L (zRf t) := by
    refine wp_aload_n (q := 38) dX11_hold_37 0 rfl rfl ?_
    refine wp_iconst (q := 39) dX11_hold_38 zq_iconst_2 rfl ?_
    refine wp_cvx (q := 42) (sp_deny (d := 0) (k := 2) (by decide)) zm_X11_deny zl_RX11_124 dX11_hold_39 rfl (by omega) (Nat.le_of_ble_eq_true rfl) zsh_0 rfl rfl ?_
    exact wp_zreturn dX11_hold_42 rfl (by first | with_reducible exact znar_0 | with_reducible exact znar_1 | assumption) ⟨rfl, ⟨rfl, rfl, zCI_rf h (by decide), zXf_rf⟩⟩ rfl rfl
  refine wp_aload_n (q := 1) dX11_hold_0 0 rfl rfl ?_
  refine wp_iload_n (q := 2) dX11_hold_1 1 rfl rfl ?_
  refine wp_cvx (q := 5) (sp_isSeat (d := 0) hr.1 h8) zm_X11_isSeat zl_RX11_196 dX11_hold_2 rfl (by omega) (Nat.le_of_ble_eq_true rfl) zsh_0 rfl rfl ?_
  by_cases c : zin x n
  · rw [if_pos c]
    refine wp_if_eqN (tgt := 37) (q := 8) dX11_hold_5 (by decide) rfl (by omega) (fun hn => absurd hn (by first | omega | exact fun h => h | exact fun h => h trivial)) (fun _ => ?_)
    refine wp_aload_n (q := 9) dX11_hold_8 0 rfl rfl ?_
    refine wp_iload_n (q := 10) dX11_hold_9 2 rfl rfl ?_
    refine wp_cvx (q := 13) (sp_isHand (d := 0)) zm_X11_isHand zl_RX11_284 dX11_hold_10 rfl (by omega) (Nat.le_of_ble_eq_true rfl) zsh_0 rfl rfl ?_
    by_cases c2 : zin y 2
    · rw [if_pos c2]
      refine wp_if_eqN (tgt := 37) (q := 16) dX11_hold_13 (by decide) rfl (by omega) (fun hn => absurd hn (by first | omega | exact fun h => h | exact fun h => h trivial)) (fun _ => ?_)
      refine wp_iload_n (q := 17) dX11_hold_16 3 rfl rfl ?_
      refine wp_if_lt (tgt := 37) (q := 20) dX11_hold_17 (by decide) rfl (fun e1 => ?_) (fun e1 => ?_)
      · skip
        refine WP.sub (loc' := [(0, _), (1, _), (2, _), (3, _), (4, _)]) [0, 1, 2, 3, 4] rfl ?_
        exact fin
      · skip
        refine wp_iload_n (q := 21) dX11_hold_20 3 rfl rfl ?_
        refine wp_iconst (q := 22) dX11_hold_21 zq_iconst_2 rfl ?_
        refine wp_icmp_gt (tgt := 37) (q := 25) dX11_hold_22 (by decide) rfl (fun e2 => ?_) (fun e2 => ?_)
        · skip
          refine WP.sub (loc' := [(0, _), (1, _), (2, _), (3, _), (4, _)]) [0, 1, 2, 3, 4] rfl ?_
          exact fin
        · skip
          have c3 : zin z 3 := zin_le (by decide) e1 e2
          refine wp_iload (q := 27) dX11_hold_25 4 rfl rfl ?_
          refine wp_if_lt (tgt := 37) (q := 30) dX11_hold_27 (by decide) rfl (fun e3 => ?_) (fun e3 => ?_)
          · skip
            refine WP.sub (loc' := [(0, _), (1, _), (2, _), (3, _), (4, _)]) [0, 1, 2, 3, 4] rfl ?_
            exact fin
          · skip
            refine wp_iload (q := 32) dX11_hold_30 4 rfl rfl ?_
            refine wp_bipush (q := 34) dX11_hold_32 zq_bipush_9 rfl ?_
            refine wp_icmp_le (tgt := 43) (q := 37) dX11_hold_34 (by decide) rfl (fun hn => absurd hn (by exact fun e4 => hN ⟨c, c2, c3, zin_le (by decide) e3 (fun e5 => Int32.not_le.mpr e5 e4)⟩)) (fun _ => ?_)
            refine WP.sub (loc' := [(0, _), (1, _), (2, _), (3, _), (4, _)]) [0, 1, 2, 3, 4] rfl ?_
            exact fin
    · rw [if_neg c2]
      refine wp_if_eqN (tgt := 37) (q := 16) dX11_hold_13 (by decide) rfl (by omega) (fun _ => ?_) (fun hn => absurd hn (by first | omega | exact fun h => h | exact fun h => h trivial))
      refine WP.sub (loc' := [(0, _), (1, _), (2, _), (3, _), (4, _)]) [0, 1, 2, 3, 4] rfl ?_
      exact fin
  · rw [if_neg c]
    refine wp_if_eqN (tgt := 37) (q := 8) dX11_hold_5 (by decide) rfl (by omega) (fun _ => ?_) (fun hn => absurd hn (by first | omega | exact fun h => h | exact fun h => h trivial))
    refine WP.sub (loc' := [(0, _), (1, _), (2, _), (3, _), (4, _)]) [0, 1, 2, 3, 4] rfl ?_
    exact fin
set_option maxHeartbeats 4000000 in
set_option maxRecDepth 100000 in
theorem sp_pass {d t n : Nat} {M : zMI} {L : zML} {g : zGd} {v : Nat → Nat} {hs : List (Nat → Nat)} {m : zMs} (h : zCI M L t n g v hs m) (h2 : 2 ≤ n) : Sy yX11_pass YX11_pass (d + 4) [.ref 0] M L (zRf t) (zAn M L t n g (zpass n v) ((v :: hs).take 20) m (.int (nI (nC (zg v) n)))) := by
  refine Sp.of (by decide +kernel) rfl (fun h => by first | exact h | cases h) (Nat.le_of_ble_eq_true rfl) ?_
  intro w G
  have hv := zCI_hv h
  have hr := zCI_sr h
  have h8 := hv.1
  have ho : zSt 43 := Or.inl rfl
  refine wp_aload_n (q := 1) dX11_pass_0 0 rfl rfl ?_
  refine wp_getR (q := 4) dX11_pass_1 zf_RX11_55 rfl zsh_0 (zr_0_7 _) rfl ?_
  refine wp_cvx (q := 7) (sp_crackers (d := 0) ho hr.1 h8) zm_X7_crackers zl_RX11_168 dX11_pass_4 rfl (by omega) (Nat.le_of_ble_eq_true rfl) zsh_43 rfl rfl ?_
  rw [if_neg (by omega)]
  refine wp_if_neN (tgt := 16) (q := 10) dX11_pass_7 (by decide) rfl (by omega) (fun _ => ?_) (fun hn => absurd hn (by first | omega | exact fun h => h | exact fun h => h trivial))
  refine wp_aload_n (q := 17) dX11_pass_16 0 rfl rfl ?_
  refine wp_cvy (q := 20) (sp_act (d := 0) h) zm_X11_act zl_RX11_345 dX11_pass_17 rfl (by omega) (Nat.le_of_ble_eq_true rfl) zsh_0 rfl rfl ?_
  rintro _ M1 _ _ ⟨rfl, rfl, rfl, h1, k1, k2, hf1⟩
  refine wp_aload_n (q := 21) dX11_pass_20 0 rfl rfl ?_
  refine wp_getR (q := 24) dX11_pass_21 zf_RX11_55 rfl zsh_0 (by first | rfl | assumption) rfl ?_
  refine wp_cvy (q := 27) (sp_giveLeft (d := 0) ho hv (zCI_sr h1) h2) zm_X7_giveLeft zl_RX11_339 dX11_pass_24 rfl (by omega) (Nat.le_of_ble_eq_true rfl) zsh_43 rfl rfl ?_
  rintro _ M3 _ _ ⟨rfl, rfl, rfl, hr3, hx3⟩
  exact wp_ireturn dX11_pass_27 rfl ⟨rfl, ⟨rfl, rfl, zCI_v h1 k1 k2 (fun x x1 x2 => hx3 x (by omega)) (zV_pass hv) hr3, zXf_t hf1 (fun x hx => hx3 x (by omega))⟩⟩ rfl rfl
set_option maxHeartbeats 4000000 in
set_option maxRecDepth 100000 in
theorem sp_passN {d t n : Nat} {M : zMI} {L : zML} {g : zGd} {v : Nat → Nat} {hs : List (Nat → Nat)} {m : zMs} (h : zCI M L t n g v hs m) (h2 : n < 2) : Sy yX11_pass YX11_pass (d + 4) [.ref 0] M L (zRf t) (zAn M L t n g v hs (zMup m 3) (.int (-1))) := by
  refine Sp.of (by decide +kernel) rfl (fun h => by first | exact h | cases h) (Nat.le_of_ble_eq_true rfl) ?_
  intro w G
  have hv := zCI_hv h
  have hr := zCI_sr h
  have ho : zSt 43 := Or.inl rfl
  refine wp_aload_n (q := 1) dX11_pass_0 0 rfl rfl ?_
  refine wp_getR (q := 4) dX11_pass_1 zf_RX11_55 rfl zsh_0 (zr_0_7 _) rfl ?_
  refine wp_cvx (q := 7) (sp_crackers (d := 0) ho hr.1 hv.1) zm_X7_crackers zl_RX11_168 dX11_pass_4 rfl (by omega) (Nat.le_of_ble_eq_true rfl) zsh_43 rfl rfl ?_
  rw [if_pos h2]
  refine wp_if_neN (tgt := 16) (q := 10) dX11_pass_7 (by decide) rfl (by omega) (fun hn => absurd hn (by first | omega | exact fun h => h | exact fun h => h trivial)) (fun _ => ?_)
  refine wp_aload_n (q := 11) dX11_pass_10 0 rfl rfl ?_
  refine wp_iconst (q := 12) dX11_pass_11 zq_iconst_3 rfl ?_
  refine wp_cvx (q := 15) (sp_refuse (d := 0) (k := 3) (by decide)) zm_X11_refuse zl_RX11_116 dX11_pass_12 rfl (by omega) (Nat.le_of_ble_eq_true rfl) zsh_0 rfl rfl ?_
  exact wp_ireturn dX11_pass_15 rfl ⟨rfl, ⟨rfl, rfl, zCI_rf h (by decide), zXf_rf⟩⟩ rfl rfl
def zswp (v : Nat → Nat) (a b : Nat) : Nat → Nat := fun j => if 3 + 6 * a ≤ j ∧ j < 9 + 6 * a then v (j - 6 * a + 6 * b) else if 3 + 6 * b ≤ j ∧ j < 9 + 6 * b then v (j - 6 * b + 6 * a) else v j
theorem zswp_at {v : Nat → Nat} {a b s k : Nat} (hk : 3 ≤ k) (hk9 : k < 9) : zswp v a b (k + 6 * s) = v (k + 6 * (if s = a then b else if s = b then a else s)) := by
  unfold zswp
  by_cases c : s = a
  · rw [if_pos (by omega), if_pos c]
    congr 1
    omega
  · rw [if_neg (by omega), if_neg c]
    by_cases c2 : s = b
    · rw [if_pos (by omega), if_pos c2]
      congr 1
      omega
    · rw [if_neg (by omega), if_neg c2]
theorem zV_swp {n a b : Nat} {v : Nat → Nat} (hv : zV n v) (ha : a < n) (hb : b < n) : zV n (zswp v a b) := by
  obtain ⟨h8, hw, hi, h99, hg, h0, h1, h2⟩ := hv
  have hp : ∀ s, s < n → (if s = a then b else if s = b then a else s) < n := fun s hs => by split <;> (try split) <;> omega
  have ew : ∀ s, wh (zswp v a b) s = wh v (if s = a then b else if s = b then a else s) := fun s => zswp_at (by decide) (by decide)
  have eh : ∀ s, ht (zswp v a b) s = ht v (if s = a then b else if s = b then a else s) := fun s => zswp_at (by decide) (by decide)
  have eg : ∀ s h, h < 2 → gr (zswp v a b) s h = gr v (if s = a then b else if s = b then a else s) h := fun s h hh => by
    have := zswp_at (v := v) (a := a) (b := b) (s := s) (k := 5 + 2 * h) (by omega) (by omega)
    show zswp v a b (5 + 6 * s + 2 * h) = v (5 + 6 * (if s = a then b else if s = b then a else s) + 2 * h)
    rw [show 5 + 6 * s + 2 * h = 5 + 2 * h + 6 * s by omega, this, show 5 + 2 * h + 6 * (if s = a then b else if s = b then a else s) = 5 + 6 * (if s = a then b else if s = b then a else s) + 2 * h by omega]
  have el : ∀ s h, h < 2 → lw (zswp v a b) s h = lw v (if s = a then b else if s = b then a else s) h := fun s h hh => by
    have := zswp_at (v := v) (a := a) (b := b) (s := s) (k := 6 + 2 * h) (by omega) (by omega)
    show zswp v a b (6 + 6 * s + 2 * h) = v (6 + 6 * (if s = a then b else if s = b then a else s) + 2 * h)
    rw [show 6 + 6 * s + 2 * h = 6 + 2 * h + 6 * s by omega, this, show 6 + 2 * h + 6 * (if s = a then b else if s = b then a else s) = 6 + 6 * (if s = a then b else if s = b then a else s) + 2 * h by omega]
  have e3 : ∀ j, j < 3 → zswp v a b j = v j := fun j hj => by unfold zswp; rw [if_neg (by omega), if_neg (by omega)]
  refine ⟨h8, fun s hs => by rw [ew]; exact hw _ (hp s hs), fun s s' hs hs' e => ?_, fun s hs => by rw [eh]; exact h99 _ (hp s hs), fun s h hs hh => by rw [eg s h hh, el s h hh]; exact hg _ h (hp s hs) hh, by rw [e3 0 (by decide)]; exact h0, by rw [e3 1 (by decide)]; exact h1, by rw [e3 2 (by decide)]; exact h2⟩
  rw [ew, ew] at e
  have := hi _ _ (hp s hs) (hp s' hs') e
  clear e
  revert this
  repeat' split
  all_goals omega
theorem zSR_swp {M M' : zMI} {o n a b : Nat} {v : Nat → Nat} (hr : zSR M o n v) (ha : a < n) (hb : b < n) (h1 : ∀ s, s < n → M' (o + 1) s = M (o + 1) (if s = a then b else if s = b then a else s)) (ho : ∀ x, x ≠ o + 1 → M' x = M x) : zSR M' o n (zswp v a b) := by
  obtain ⟨r0, r1, r2, r3, r4⟩ := hr
  have e0 := ho o (by omega)
  have hp : ∀ s, s < n → (if s = a then b else if s = b then a else s) < n := fun s hs => by split <;> (try split) <;> omega
  have ew : ∀ s, wh (zswp v a b) s = wh v (if s = a then b else if s = b then a else s) := fun s => zswp_at (by decide) (by decide)
  have eh : ∀ s, ht (zswp v a b) s = ht v (if s = a then b else if s = b then a else s) := fun s => zswp_at (by decide) (by decide)
  have eg : ∀ s h, h < 2 → gr (zswp v a b) s h = gr v (if s = a then b else if s = b then a else s) h := fun s h hh => by
    have := zswp_at (v := v) (a := a) (b := b) (s := s) (k := 5 + 2 * h) (by omega) (by omega)
    show zswp v a b (5 + 6 * s + 2 * h) = v (5 + 6 * (if s = a then b else if s = b then a else s) + 2 * h)
    rw [show 5 + 6 * s + 2 * h = 5 + 2 * h + 6 * s by omega, this, show 5 + 2 * h + 6 * (if s = a then b else if s = b then a else s) = 5 + 6 * (if s = a then b else if s = b then a else s) + 2 * h by omega]
  have el : ∀ s h, h < 2 → lw (zswp v a b) s h = lw v (if s = a then b else if s = b then a else s) h := fun s h hh => by
    have := zswp_at (v := v) (a := a) (b := b) (s := s) (k := 6 + 2 * h) (by omega) (by omega)
    show zswp v a b (6 + 6 * s + 2 * h) = v (6 + 6 * (if s = a then b else if s = b then a else s) + 2 * h)
    rw [show 6 + 6 * s + 2 * h = 6 + 2 * h + 6 * s by omega, this, show 6 + 2 * h + 6 * (if s = a then b else if s = b then a else s) = 6 + 6 * (if s = a then b else if s = b then a else s) + 2 * h by omega]
  have e3 : ∀ j, j < 3 → zswp v a b j = v j := fun j hj => by unfold zswp; rw [if_neg (by omega), if_neg (by omega)]
  refine ⟨by rw [e0]; exact r0, by rw [e0, e3 0 (by decide)]; exact r1, by rw [e0, e3 1 (by decide)]; exact r2, by rw [e0, e3 2 (by decide)]; exact r3, fun s hs => ?_⟩
  obtain ⟨a1, a2, a3⟩ := r4 _ (hp s hs)
  rw [h1 s hs, ho (o + 2) (by omega), ho (o + 3) (by omega), ho (o + 4) (by omega), ew, eh]
  refine ⟨a1, a2, fun h hh => ?_⟩
  rw [eg s h hh, el s h hh]
  exact a3 h hh
set_option maxHeartbeats 4000000 in
set_option maxRecDepth 100000 in
theorem sp_change {d t n a b : Nat} {M : zMI} {L : zML} {g : zGd} {v : Nat → Nat} {hs : List (Nat → Nat)} {m : zMs} (h : zCI M L t n g v hs m) (ha : a < n) (hb : b < n) (hab : a ≠ b) : Sy yX11_change YX11_change (d + 4) [.ref 0, .int (nI a), .int (nI b)] M L (zRf t) (zAn M L t n g (zswp v a b) ((v :: hs).take 20) m (.int (nI 1))) := by
  refine Sp.of (by decide +kernel) rfl (fun h => by first | exact h | cases h) (Nat.le_of_ble_eq_true rfl) ?_
  intro w G
  have hv := zCI_hv h
  have hr := zCI_sr h
  have h8 := hv.1
  refine wp_aload_n (q := 1) dX11_change_0 0 rfl rfl ?_
  refine wp_iload_n (q := 2) dX11_change_1 1 rfl rfl ?_
  refine wp_cvx (q := 5) (sp_isSeat (d := 0) hr.1 h8) zm_X11_isSeat zl_RX11_196 dX11_change_2 rfl (by omega) (Nat.le_of_ble_eq_true rfl) zsh_0 rfl rfl ?_
  rw [if_pos (zin_i ha (by omega))]
  refine wp_if_eqN (tgt := 21) (q := 8) dX11_change_5 (by decide) rfl (by omega) (fun hn => absurd hn (by first | omega | exact fun h => h | exact fun h => h trivial)) (fun _ => ?_)
  refine wp_aload_n (q := 9) dX11_change_8 0 rfl rfl ?_
  refine wp_iload_n (q := 10) dX11_change_9 2 rfl rfl ?_
  refine wp_cvx (q := 13) (sp_isSeat (d := 0) hr.1 h8) zm_X11_isSeat zl_RX11_196 dX11_change_10 rfl (by omega) (Nat.le_of_ble_eq_true rfl) zsh_0 rfl rfl ?_
  rw [if_pos (zin_i hb (by omega))]
  refine wp_if_eqN (tgt := 21) (q := 16) dX11_change_13 (by decide) rfl (by omega) (fun hn => absurd hn (by first | omega | exact fun h => h | exact fun h => h trivial)) (fun _ => ?_)
  refine wp_iload_n (q := 17) dX11_change_16 1 rfl rfl ?_
  refine wp_iload_n (q := 18) dX11_change_17 2 rfl rfl ?_
  refine wp_icmp_neN (tgt := 27) (q := 21) dX11_change_18 (by decide) rfl (by omega) (by omega) (fun _ => ?_) (fun hn => absurd hn (by first | omega | exact fun h => h | exact fun h => h trivial))
  refine wp_aload_n (q := 28) dX11_change_27 0 rfl rfl ?_
  refine wp_cvy (q := 31) (sp_act (d := 0) h) zm_X11_act zl_RX11_345 dX11_change_28 rfl (by omega) (Nat.le_of_ble_eq_true rfl) zsh_0 rfl rfl ?_
  rintro _ M1 _ _ ⟨rfl, rfl, rfl, h1, k1, k2, hf1⟩
  have a1 := ((zCI_sr h1).2.2.2.2 a ha).1
  have b1 := ((zCI_sr h1).2.2.2.2 b hb).1
  refine wp_aload_n (q := 32) dX11_change_31 0 rfl rfl ?_
  refine wp_getR (q := 35) dX11_change_32 zf_RX11_55 rfl zsh_0 (by first | rfl | assumption) rfl ?_
  refine wp_getR (q := 38) dX11_change_35 zf_RX11_202 rfl zsh_43 (by first | rfl | assumption) rfl ?_
  refine wp_iload_n (q := 39) dX11_change_38 1 rfl rfl ?_
  refine wp_iald (q := 40) _ dX11_change_39 zsh_44 rfl (by omega) (by decide) rfl ?_
  refine wp_istore_n (q := 41) (loc' := [(3, _), (0, _), (1, _), (2, _)]) dX11_change_40 rfl (by decide) rfl rfl ?_
  refine wp_aload_n (q := 42) dX11_change_41 1 rfl rfl ?_
  refine wp_getR (q := 45) dX11_change_42 zf_RX11_55 rfl zsh_0 (by first | rfl | assumption) rfl ?_
  refine wp_getR (q := 48) dX11_change_45 zf_RX11_202 rfl zsh_43 (by first | rfl | assumption) rfl ?_
  refine wp_iload_n (q := 49) dX11_change_48 2 rfl rfl ?_
  refine wp_aload_n (q := 50) dX11_change_49 1 rfl rfl ?_
  refine wp_getR (q := 53) dX11_change_50 zf_RX11_55 rfl zsh_0 (by first | rfl | assumption) rfl ?_
  refine wp_getR (q := 56) dX11_change_53 zf_RX11_202 rfl zsh_43 (by first | rfl | assumption) rfl ?_
  refine wp_iload_n (q := 57) dX11_change_56 3 rfl rfl ?_
  refine wp_iald (q := 58) _ dX11_change_57 zsh_44 rfl (by omega) (by decide) rfl ?_
  refine wp_iast (q := 59) _ dX11_change_58 zsh_44 rfl (by omega) (by decide) rfl ?_
  refine wp_aload_n (q := 60) dX11_change_59 1 rfl rfl ?_
  refine wp_getR (q := 63) dX11_change_60 zf_RX11_55 rfl zsh_0 (by first | rfl | assumption) rfl ?_
  refine wp_getR (q := 66) dX11_change_63 zf_RX11_202 rfl zsh_43 (by first | rfl | assumption) rfl ?_
  refine wp_iload_n (q := 67) dX11_change_66 3 rfl rfl ?_
  refine wp_iload_n (q := 68) dX11_change_67 0 rfl rfl ?_
  refine wp_iast (q := 69) _ dX11_change_68 zsh_44 rfl (by omega) (by decide) rfl ?_
  refine wp_iconst (q := 70) dX11_change_69 zq_iconst_1 rfl ?_
  refine wp_zreturn dX11_change_70 rfl (by first | with_reducible exact znar_0 | with_reducible exact znar_1 | assumption) ⟨rfl, ⟨rfl, rfl, ?_, zXf_t hf1 (fun x hx => by rw [zu_ne (by omega), zu_ne (by omega)])⟩⟩ rfl rfl
  refine zCI_v h1 k1 k2 (fun x x1 x2 => by rw [zu_ne (by omega), zu_ne (by omega)]) (zV_swp hv ha hb) (zSR_swp (zCI_sr h1) ha hb (fun s hs => ?_) (fun x hx => by rw [zu_ne hx, zu_ne hx]))
  simp only [zu_at]
  by_cases c1 : s = a
  · have c2 : s ≠ b := by omega
    simp [c1, hab]
  · by_cases c2 : s = b
    · simp [c2, Ne.symm hab]
    · simp [c1, c2]
set_option maxHeartbeats 4000000 in
set_option maxRecDepth 100000 in
theorem sp_changeN {d t n : Nat} {x y : Int32} {M : zMI} {L : zML} {g : zGd} {v : Nat → Nat} {hs : List (Nat → Nat)} {m : zMs} (h : zCI M L t n g v hs m) (hN : ¬ (zin x n ∧ zin y n ∧ x ≠ y)) : Sy yX11_change YX11_change (d + 4) [.ref 0, .int x, .int y] M L (zRf t) (zAn M L t n g v hs (zMup m 3) (.int (nI 0))) := by
  refine Sp.of (by decide +kernel) rfl (fun h => by first | exact h | cases h) (Nat.le_of_ble_eq_true rfl) ?_
  intro w G
  have hv := zCI_hv h
  have hr := zCI_sr h
  have h8 := hv.1
  have fin : WP w YX11_change (d + 4, SS, 0, 0) G (some (zXp (zAn M L t n g v hs (zMup m 3) (.int (nI 0))))) 21 [(0, .ref 0), (1, .int x), (2, .int y)] [] SS M L (zRf t) := by
    refine wp_aload_n (q := 22) dX11_change_21 0 rfl rfl ?_
    refine wp_iconst (q := 23) dX11_change_22 zq_iconst_3 rfl ?_
    refine wp_cvx (q := 26) (sp_deny (d := 0) (k := 3) (by decide)) zm_X11_deny zl_RX11_124 dX11_change_23 rfl (by omega) (Nat.le_of_ble_eq_true rfl) zsh_0 rfl rfl ?_
    exact wp_zreturn dX11_change_26 rfl (by first | with_reducible exact znar_0 | with_reducible exact znar_1 | assumption) ⟨rfl, ⟨rfl, rfl, zCI_rf h (by decide), zXf_rf⟩⟩ rfl rfl
  refine wp_aload_n (q := 1) dX11_change_0 0 rfl rfl ?_
  refine wp_iload_n (q := 2) dX11_change_1 1 rfl rfl ?_
  refine wp_cvx (q := 5) (sp_isSeat (d := 0) hr.1 h8) zm_X11_isSeat zl_RX11_196 dX11_change_2 rfl (by omega) (Nat.le_of_ble_eq_true rfl) zsh_0 rfl rfl ?_
  by_cases c : zin x n
  · rw [if_pos c]
    refine wp_if_eqN (tgt := 21) (q := 8) dX11_change_5 (by decide) rfl (by omega) (fun hn => absurd hn (by first | omega | exact fun h => h | exact fun h => h trivial)) (fun _ => ?_)
    refine wp_aload_n (q := 9) dX11_change_8 0 rfl rfl ?_
    refine wp_iload_n (q := 10) dX11_change_9 2 rfl rfl ?_
    refine wp_cvx (q := 13) (sp_isSeat (d := 0) hr.1 h8) zm_X11_isSeat zl_RX11_196 dX11_change_10 rfl (by omega) (Nat.le_of_ble_eq_true rfl) zsh_0 rfl rfl ?_
    by_cases c2 : zin y n
    · rw [if_pos c2]
      refine wp_if_eqN (tgt := 21) (q := 16) dX11_change_13 (by decide) rfl (by omega) (fun hn => absurd hn (by first | omega | exact fun h => h | exact fun h => h trivial)) (fun _ => ?_)
      refine wp_iload_n (q := 17) dX11_change_16 1 rfl rfl ?_
      refine wp_iload_n (q := 18) dX11_change_17 2 rfl rfl ?_
      refine wp_icmp_ne (tgt := 27) (q := 21) dX11_change_18 (by decide) rfl (fun hn => absurd hn (by exact fun e => hN ⟨c, c2, e⟩)) (fun _ => ?_)
      refine WP.sub (loc' := [(0, _), (1, _), (2, _)]) [0, 1, 2] rfl ?_
      exact fin
    · rw [if_neg c2]
      refine wp_if_eqN (tgt := 21) (q := 16) dX11_change_13 (by decide) rfl (by omega) (fun _ => ?_) (fun hn => absurd hn (by first | omega | exact fun h => h | exact fun h => h trivial))
      refine WP.sub (loc' := [(0, _), (1, _), (2, _)]) [0, 1, 2] rfl ?_
      exact fin
  · rw [if_neg c]
    refine wp_if_eqN (tgt := 21) (q := 8) dX11_change_5 (by decide) rfl (by omega) (fun _ => ?_) (fun hn => absurd hn (by first | omega | exact fun h => h | exact fun h => h trivial))
    refine WP.sub (loc' := [(0, _), (1, _), (2, _)]) [0, 1, 2] rfl ?_
    exact fin

