theorem zCI_tr {M M' : zMI} {L : zML} {t n : Nat} {g : zGd} {v : Nat → Nat} {hs : List (Nat → Nat)} {m : zMs} (h : zCI M L t n g v hs m) (e : ∀ x, (x < 157 ∨ 161 < x) → M' x = M x) : zCI M' L t n g v hs m :=
  zCI_scr h (zPM_fr (zCI_pm h) (e 151 (by decide))) (fun x x1 x2 x3 => e x (by unfold zScr at x2; omega)) (by rw [e 156 (by decide)]) (by rw [e 156 (by decide)]) rfl
theorem zPx_156 {t x : Nat} (hT : zTab t) (h1 : 156 ≤ x) : ¬ zPx t x := by
  have ht2 : t = 10 ∨ t = 24 := hT
  intro c
  rcases c with c | c | c | c <;> omega
def zbst (tb : zTb) (v : Nat → Nat) (n s h w : Nat) : Nat := if w = 0 then zbs tb v n s h else zfw tb v n s h (zbs tb v n s h)
set_option maxHeartbeats 4000000 in
set_option maxRecDepth 100000 in
theorem sp_best {d t n s hh w0 : Nat} {M : zMI} {L : zML} {g : zGd} {v : Nat → Nat} {hs : List (Nat → Nat)} {m : zMs} (h : zCI M L t n g v hs m) (h2 : 2 ≤ n) (hs0 : s < n) (hh0 : hh < 2) (hw0 : w0 < 2) : Sy yX11_best YX11_best (d + 6) [.ref 0, .int (nI s), .int (nI hh), .int (nI w0)] M L (zRf t) (zAn M L t n g v hs m (.int (nI (zbst g.2.2.2.2.2 v n s hh w0)))) := by
  refine Sp.of (by decide +kernel) rfl (fun h => by first | exact h | cases h) (Nat.le_of_ble_eq_true rfl) ?_
  intro w G
  have hv := zCI_hv h
  have hr := zCI_sr h
  have h8 := hv.1
  have ho : zSt 43 := Or.inl rfl
  have h157 : zSt 157 := Or.inr (Or.inl rfl)
  have ht2 : t = 10 ∨ t = 24 := h.1
  refine wp_aload_n (q := 1) dX11_best_0 0 rfl rfl ?_
  refine wp_iload_n (q := 2) dX11_best_1 1 rfl rfl ?_
  refine wp_cvx (q := 5) (sp_pulls (d := 0) hv hr) zm_X11_pulls zl_RX11_243 dX11_best_2 rfl (by omega) (Nat.le_of_ble_eq_true rfl) zsh_0 rfl rfl ?_
  rw [if_pos ⟨zin_i hs0 (by omega), h2⟩]
  refine wp_if_eqN (tgt := 25) (q := 8) dX11_best_5 (by decide) rfl (by omega) (fun hn => absurd hn (by first | omega | exact fun h => h | exact fun h => h trivial)) (fun _ => ?_)
  refine wp_aload_n (q := 9) dX11_best_8 0 rfl rfl ?_
  refine wp_iload_n (q := 10) dX11_best_9 2 rfl rfl ?_
  refine wp_cvx (q := 13) (sp_isHand (d := 0)) zm_X11_isHand zl_RX11_284 dX11_best_10 rfl (by omega) (Nat.le_of_ble_eq_true rfl) zsh_0 rfl rfl ?_
  rw [if_pos (zin_i hh0 (by decide))]
  refine wp_if_eqN (tgt := 25) (q := 16) dX11_best_13 (by decide) rfl (by omega) (fun hn => absurd hn (by first | omega | exact fun h => h | exact fun h => h trivial)) (fun _ => ?_)
  refine wp_iload_n (q := 17) dX11_best_16 3 rfl rfl ?_
  refine wp_if_ltN (tgt := 25) (q := 20) dX11_best_17 (by decide) rfl (by omega) (fun hn => absurd hn (by first | omega | exact fun h => h | exact fun h => h trivial)) (fun _ => ?_)
  refine wp_iload_n (q := 21) dX11_best_20 3 rfl rfl ?_
  refine wp_iconst (q := 22) dX11_best_21 zq_iconst_1 rfl ?_
  refine wp_icmp_leN (tgt := 27) (q := 25) dX11_best_22 (by decide) rfl (by omega) (by omega) (fun _ => ?_) (fun hn => absurd hn (by first | omega | exact fun h => h | exact fun h => h trivial))
  refine wp_aload_n (q := 28) dX11_best_27 0 rfl rfl ?_
  refine wp_getR (q := 31) dX11_best_28 zf_RX11_80 rfl zsh_0 (by first | rfl | assumption) rfl ?_
  refine wp_getR (q := 34) dX11_best_31 zf_RX11_287 rfl zsh_156 (by first | rfl | assumption) rfl ?_
  refine wp_aload_n (q := 35) dX11_best_34 0 rfl rfl ?_
  refine wp_getR (q := 38) dX11_best_35 zf_RX11_55 rfl zsh_0 (by first | rfl | assumption) rfl ?_
  refine wp_cvy (q := 41) (sp_copyFrom (d := 0) (a := 157) (b := 43) h157 ho (by decide)) zm_X7_copyFrom zl_RX11_290 dX11_best_38 rfl (by omega) (Nat.le_of_ble_eq_true rfl) zsh_157 rfl rfl ?_
  rintro _ M2 _ _ ⟨rfl, rfl, rfl, hc, hx⟩
  have h' := zCI_tr h (fun x hx' => hx x (by omega))
  have hr2 := hc n v hv hr
  refine wp_aload_n (q := 42) dX11_best_41 0 rfl rfl ?_
  refine wp_getR (q := 45) dX11_best_42 zf_RX11_80 rfl zsh_0 (by first | rfl | assumption) rfl ?_
  refine wp_aload_n (q := 46) dX11_best_45 0 rfl rfl ?_
  refine wp_getR (q := 49) dX11_best_46 zf_RX11_80 rfl zsh_0 (by first | rfl | assumption) rfl ?_
  refine wp_getR (q := 52) dX11_best_49 zf_RX11_287 rfl zsh_156 (by first | rfl | assumption) rfl ?_
  refine wp_iload_n (q := 53) dX11_best_52 1 rfl rfl ?_
  refine wp_iload_n (q := 54) dX11_best_53 2 rfl rfl ?_
  refine wp_cvy (q := 57) (sp_findBest (d := d) h.1 h157 (zCI_tm h') hv hr2 (zCI_pm h') hs0 hh0) zm_X3_findBest zl_RX11_293 dX11_best_54 rfl (by omega) (Nat.le_of_ble_eq_true rfl) zsh_156 rfl rfl ?_
  rintro _ M3 _ _ ⟨rfl, rfl, rfl, hr3, hp3, b5, b6, b7, bo, hx3⟩
  have h3 : zCI M3 L t n g v hs m := zCI_scr h' hp3 (fun x x1 x2 x3 => hx3 x (fun c => x2 (zPy_scr h.1 (Or.inl c))) x3 (by unfold zScr at x2; omega)) (bo 3 (by decide) (by decide) (by decide)) (bo 4 (by decide) (by decide) (by decide)) rfl
  have hxf : zXf M M3 L L := fun x hx' => ⟨by rw [hx3 x (zPx_156 h.1 (by omega)) (by omega) (by omega), hx x (by omega)], rfl⟩
  refine wp_iload_n (q := 58) dX11_best_57 3 rfl rfl ?_
  refine wp_if_neN (tgt := 71) (q := 61) dX11_best_58 (by decide) rfl (by omega) (fun c0 => ?_) (fun c0 => ?_)
  · skip
    refine wp_aload_n (q := 72) dX11_best_71 0 rfl rfl ?_
    refine wp_getR (q := 75) dX11_best_72 zf_RX11_80 rfl zsh_0 (by first | rfl | assumption) rfl ?_
    refine wp_getI (q := 78) dX11_best_75 zf_RX11_299 rfl zsh_156 rfl ?_
    rw [b6]
    exact wp_ireturn dX11_best_78 rfl ⟨rfl, ⟨by unfold zbst; rw [if_neg c0]; rfl, rfl, h3, hxf⟩⟩ rfl rfl
  · skip
    refine wp_aload_n (q := 62) dX11_best_61 0 rfl rfl ?_
    refine wp_getR (q := 65) dX11_best_62 zf_RX11_80 rfl zsh_0 (by first | rfl | assumption) rfl ?_
    refine wp_getI (q := 68) dX11_best_65 zf_RX11_296 rfl zsh_156 rfl ?_
    rw [b5]
    refine wp_goto (tgt := 78) dX11_best_68 (by decide) ?_
    exact wp_ireturn dX11_best_78 rfl ⟨rfl, ⟨by unfold zbst; rw [if_pos c0]; rfl, rfl, h3, hxf⟩⟩ rfl rfl
set_option maxHeartbeats 4000000 in
set_option maxRecDepth 100000 in
theorem sp_bestN {d t n : Nat} {x y z : Int32} {M : zMI} {L : zML} {g : zGd} {v : Nat → Nat} {hs : List (Nat → Nat)} {m : zMs} (h : zCI M L t n g v hs m) (hN : ¬ (2 ≤ n ∧ zin x n ∧ zin y 2 ∧ zin z 2)) : Sy yX11_best YX11_best (d + 6) [.ref 0, .int x, .int y, .int z] M L (zRf t) (zAn M L t n g v hs m (.int (-1))) := by
  refine Sp.of (by decide +kernel) rfl (fun h => by first | exact h | cases h) (Nat.le_of_ble_eq_true rfl) ?_
  intro w G
  have hv := zCI_hv h
  have hr := zCI_sr h
  refine wp_aload_n (q := 1) dX11_best_0 0 rfl rfl ?_
  refine wp_iload_n (q := 2) dX11_best_1 1 rfl rfl ?_
  refine wp_cvx (q := 5) (sp_pulls (d := 0) hv hr) zm_X11_pulls zl_RX11_243 dX11_best_2 rfl (by omega) (Nat.le_of_ble_eq_true rfl) zsh_0 rfl rfl ?_
  by_cases c : zin x n ∧ 2 ≤ n
  · rw [if_pos c]
    refine wp_if_eqN (tgt := 25) (q := 8) dX11_best_5 (by decide) rfl (by omega) (fun hn => absurd hn (by first | omega | exact fun h => h | exact fun h => h trivial)) (fun _ => ?_)
    refine wp_aload_n (q := 9) dX11_best_8 0 rfl rfl ?_
    refine wp_iload_n (q := 10) dX11_best_9 2 rfl rfl ?_
    refine wp_cvx (q := 13) (sp_isHand (d := 0)) zm_X11_isHand zl_RX11_284 dX11_best_10 rfl (by omega) (Nat.le_of_ble_eq_true rfl) zsh_0 rfl rfl ?_
    by_cases c2 : zin y 2
    · rw [if_pos c2]
      refine wp_if_eqN (tgt := 25) (q := 16) dX11_best_13 (by decide) rfl (by omega) (fun hn => absurd hn (by first | omega | exact fun h => h | exact fun h => h trivial)) (fun _ => ?_)
      refine wp_iload_n (q := 17) dX11_best_16 3 rfl rfl ?_
      refine wp_if_lt (tgt := 25) (q := 20) dX11_best_17 (by decide) rfl (fun e1 => ?_) (fun e1 => ?_)
      · skip
        refine wp_iconst (q := 26) dX11_best_25 zq_iconst_m1 rfl ?_
        exact wp_ireturn dX11_best_26 rfl ⟨rfl, ⟨rfl, rfl, h, zXf_r⟩⟩ rfl rfl
      · skip
        refine wp_iload_n (q := 21) dX11_best_20 3 rfl rfl ?_
        refine wp_iconst (q := 22) dX11_best_21 zq_iconst_1 rfl ?_
        refine wp_icmp_le (tgt := 27) (q := 25) dX11_best_22 (by decide) rfl (fun hn => absurd hn (by exact fun e2 => hN ⟨c.2, c.1, c2, zin_le (by decide) e1 (fun e3 => Int32.not_le.mpr e3 e2)⟩)) (fun _ => ?_)
        refine wp_iconst (q := 26) dX11_best_25 zq_iconst_m1 rfl ?_
        exact wp_ireturn dX11_best_26 rfl ⟨rfl, ⟨rfl, rfl, h, zXf_r⟩⟩ rfl rfl
    · rw [if_neg c2]
      refine wp_if_eqN (tgt := 25) (q := 16) dX11_best_13 (by decide) rfl (by omega) (fun _ => ?_) (fun hn => absurd hn (by first | omega | exact fun h => h | exact fun h => h trivial))
      refine wp_iconst (q := 26) dX11_best_25 zq_iconst_m1 rfl ?_
      exact wp_ireturn dX11_best_26 rfl ⟨rfl, ⟨rfl, rfl, h, zXf_r⟩⟩ rfl rfl
  · rw [if_neg c]
    refine wp_if_eqN (tgt := 25) (q := 8) dX11_best_5 (by decide) rfl (by omega) (fun _ => ?_) (fun hn => absurd hn (by first | omega | exact fun h => h | exact fun h => h trivial))
    refine wp_iconst (q := 26) dX11_best_25 zq_iconst_m1 rfl ?_
    exact wp_ireturn dX11_best_26 rfl ⟨rfl, ⟨rfl, rfl, h, zXf_r⟩⟩ rfl rfl
def zrs (tb : zTb) (v : Nat → Nat) (n : Nat) (x y : Int32) : Nat := if x = -1 then (zse tb n 12 1 v).1 else 10 * gr (zse tb n 12 1 v).2 x.toInt.toNat y.toInt.toNat + lw (zse tb n 12 1 v).2 x.toInt.toNat y.toInt.toNat
theorem zholdw_wh {v : Nat → Nat} {tb : zTb} {n s h s' : Nat} (hh : h < 2) : wh (zturn tb v n s h) s' = wh v s' := by
  unfold zturn
  split
  · exact zhold_wh hh
  · rfl
theorem zrnd_wh {tb : zTb} {n s : Nat} {v : Nat → Nat} : ∀ i, wh (zrnd tb n v i) s = wh v s := by
  intro i
  induction i with
  | zero => rfl
  | succ i ih => rw [zrnd, zholdw_wh (Nat.mod_lt _ (by decide)), ih]
theorem zse_wh {tb : zTb} {n s : Nat} : ∀ j i (v : Nat → Nat), wh (zse tb n j i v).2 s = wh v s := by
  intro j
  induction j with
  | zero => intro i v; rfl
  | succ j ih =>
    intro i v
    rw [zse]
    split
    · exact zrnd_wh _
    · rw [ih, zrnd_wh]
theorem zse_V {tb : zTb} {n : Nat} : ∀ j i (v : Nat → Nat), zV n v → zV n (zse tb n j i v).2 := by
  intro j
  induction j with
  | zero => intro i v h; exact h
  | succ j ih =>
    intro i v h
    rw [zse]
    split
    · exact zV_rnd h _ (Nat.le_refl _)
    · exact ih _ _ (zV_rnd h _ (Nat.le_refl _))
set_option maxHeartbeats 4000000 in
set_option maxRecDepth 100000 in
theorem sp_rests {d t n : Nat} {x y : Int32} {M : zMI} {L : zML} {g : zGd} {v : Nat → Nat} {hs : List (Nat → Nat)} {m : zMs} (h : zCI M L t n g v hs m) (h2 : 2 ≤ n) (hx0 : x = -1 ∨ (zin x n ∧ zin y 2)) : Sy yX11_rests YX11_rests (d + 7) [.ref 0, .int x, .int y] M L (zRf t) (zAn M L t n g v hs m (.int (nI (zrs g.2.2.2.2.2 v n x y)))) := by
  refine Sp.of (by decide +kernel) rfl (fun h => by first | exact h | cases h) (Nat.le_of_ble_eq_true rfl) ?_
  intro w G
  have hv := zCI_hv h
  have hr := zCI_sr h
  have h8 := hv.1
  have ho : zSt 43 := Or.inl rfl
  have h162 : zSt 162 := Or.inr (Or.inr (Or.inl rfl))
  have ht2 : t = 10 ∨ t = 24 := h.1
  have fin : ∀ (M2 : zMI), zCI M2 L t n g v hs m → M2 156 4 = nI (zse g.2.2.2.2.2 n 12 1 v).1 → zSR M2 162 n (zse g.2.2.2.2.2 n 12 1 v).2 → zXf M M2 L L → WP w YX11_rests (d + 7, SS, 0, 0) G (some (zXp (zAn M L t n g v hs m (.int (nI (zrs g.2.2.2.2.2 v n x y)))))) 44 [(0, .ref 0), (1, .int x), (2, .int y)] [] SS M2 L (zRf t) := by
    intro M2 h' b1 b2 hxf
    refine wp_iload_n (q := 45) dX11_rests_44 1 rfl rfl ?_
    refine wp_iconst (q := 46) dX11_rests_45 zq_iconst_m1 rfl ?_
    rcases hx0 with rfl | ⟨hx0, hy0⟩
    · skip
      refine wp_icmp_ne (tgt := 59) (q := 49) dX11_rests_46 (by decide) rfl (fun hn => absurd hn (by exact fun c => c rfl)) (fun _ => ?_)
      refine wp_aload_n (q := 50) dX11_rests_49 0 rfl rfl ?_
      refine wp_getR (q := 53) dX11_rests_50 zf_RX11_80 rfl zsh_0 (by first | rfl | assumption) rfl ?_
      refine wp_getI (q := 56) dX11_rests_53 zf_RX11_305 rfl zsh_156 rfl ?_
      rw [b1]
      refine wp_goto (tgt := 78) dX11_rests_56 (by decide) ?_
      exact wp_ireturn dX11_rests_78 rfl ⟨rfl, ⟨rfl, rfl, h', hxf⟩⟩ rfl rfl
    · obtain ⟨s, hs0, rfl⟩ := zin_n (by omega) hx0
      obtain ⟨hd, hd0, rfl⟩ := zin_n (by decide) hy0
      have hne : nI s ≠ -1 := fun e => by have := congrArg Int32.toInt e; rw [nI_toInt (by omega)] at this; have h1 : (-1 : Int32).toInt = -1 := rfl; omega
      have hw := hv.2.1 s hs0
      have hg := (b2.2.2.2.2 s hs0).2.2 hd hd0
      rw [zse_wh] at hg
      refine wp_icmp_ne (tgt := 59) (q := 49) dX11_rests_46 (by decide) rfl (fun _ => ?_) (fun hn => absurd hn (by exact hne))
      refine wp_aload_n (q := 60) dX11_rests_59 0 rfl rfl ?_
      refine wp_getR (q := 63) dX11_rests_60 zf_RX11_80 rfl zsh_0 (by first | rfl | assumption) rfl ?_
      refine wp_getR (q := 66) dX11_rests_63 zf_RX11_308 rfl zsh_156 (by first | rfl | assumption) rfl ?_
      refine wp_aload_n (q := 67) dX11_rests_66 0 rfl rfl ?_
      refine wp_getR (q := 70) dX11_rests_67 zf_RX11_55 rfl zsh_0 (by first | rfl | assumption) rfl ?_
      refine wp_iload_n (q := 71) dX11_rests_70 1 rfl rfl ?_
      refine wp_iload_n (q := 72) dX11_rests_71 2 rfl rfl ?_
      refine wp_cvx (q := 75) (sp_handOf (d := 0) ho hv (zCI_sr h') hs0 hd0) zm_X7_handOf zl_RX11_215 dX11_rests_72 rfl (by omega) (Nat.le_of_ble_eq_true rfl) zsh_43 rfl rfl ?_
      refine wp_cvx (q := 78) (sp_holdOf (d := 0) (n := n) h162 hg.1 hg.2 (by omega)) zm_X7_holdOf zl_RX11_311 dX11_rests_75 rfl (by omega) (Nat.le_of_ble_eq_true rfl) zsh_162 rfl rfl ?_
      exact wp_ireturn dX11_rests_78 rfl ⟨rfl, ⟨by unfold zrs; rw [if_neg hne, nI_toInt (by omega), nI_toInt (by omega)]; rfl, rfl, h', hxf⟩⟩ rfl rfl
  have goon : WP w YX11_rests (d + 7, SS, 0, 0) G (some (zXp (zAn M L t n g v hs m (.int (nI (zrs g.2.2.2.2.2 v n x y)))))) 33 [(0, .ref 0), (1, .int x), (2, .int y)] [] SS M L (zRf t) := by
    refine wp_aload_n (q := 34) dX11_rests_33 0 rfl rfl ?_
    refine wp_getR (q := 37) dX11_rests_34 zf_RX11_80 rfl zsh_0 (by first | rfl | assumption) rfl ?_
    refine wp_aload_n (q := 38) dX11_rests_37 0 rfl rfl ?_
    refine wp_getR (q := 41) dX11_rests_38 zf_RX11_55 rfl zsh_0 (by first | rfl | assumption) rfl ?_
    have hck := h.2.2.2.2.2.2.1
    rcases hck.1 with hk | ⟨hk, hk2, hk3⟩
    · skip
      refine wp_cvy (q := 44) (sp_settle (d := d) h.1 (zCI_tm h) hv hr (zCI_pm h) hk) zm_X3_settle zl_RX11_302 dX11_rests_41 rfl (by omega) (Nat.le_of_ble_eq_true rfl) zsh_156 rfl rfl ?_
      rintro _ M2 _ _ ⟨rfl, rfl, rfl, hp, hk1, hk2, hk3, hx⟩
      refine WP.sub (loc' := [(0, _), (1, _), (2, _)]) [0, 1, 2] rfl ?_
      have hx6 : ∀ x, 167 ≤ x → M2 x = M x := fun x x1 => hx x (zPx_156 h.1 (by omega)) (by omega) (by omega)
      refine fin M2 (zCI_ck h hp (fun x x1 x2 x3 => hx x (fun c => x2 (zPy_scr h.1 (Or.inl c))) (by omega) (by omega)) ⟨Or.inr ⟨hk1, hk2, hk3⟩, ?_⟩) hk2 hk3 (fun x x1 => ⟨hx6 x (by omega), rfl⟩)
      rcases hck.2 with c | ⟨c1, c2, c3⟩
      · exact Or.inl (by rw [hx6 167 (by decide)]; exact c)
      · exact Or.inr ⟨by rw [hx6 167 (by decide)]; exact c1, c2, zRb_fr c3 (hx6 171 (by decide)) rfl⟩
    · skip
      refine wp_cvx (q := 44) (sp_settleK (d := 0) hk) zm_X3_settle zl_RX11_302 dX11_rests_41 rfl (by omega) (Nat.le_of_ble_eq_true rfl) zsh_156 rfl rfl ?_
      refine WP.sub (loc' := [(0, _), (1, _), (2, _)]) [0, 1, 2] rfl ?_
      exact fin M h hk2 hk3 zXf_r
  refine wp_aload_n (q := 1) dX11_rests_0 0 rfl rfl ?_
  refine wp_getR (q := 4) dX11_rests_1 zf_RX11_55 rfl zsh_0 (zr_0_7 _) rfl ?_
  refine wp_cvx (q := 7) (sp_crackers (d := 0) ho hr.1 h8) zm_X7_crackers zl_RX11_168 dX11_rests_4 rfl (by omega) (Nat.le_of_ble_eq_true rfl) zsh_43 rfl rfl ?_
  rw [if_neg (by omega)]
  refine wp_if_eqN (tgt := 31) (q := 10) dX11_rests_7 (by decide) rfl (by omega) (fun hn => absurd hn (by first | omega | exact fun h => h | exact fun h => h trivial)) (fun _ => ?_)
  refine wp_iload_n (q := 11) dX11_rests_10 1 rfl rfl ?_
  refine wp_iconst (q := 12) dX11_rests_11 zq_iconst_m1 rfl ?_
  refine wp_icmp_eq (tgt := 33) (q := 15) dX11_rests_12 (by decide) rfl (fun e1 => ?_) (fun e1 => ?_)
  · skip
    refine WP.sub (loc' := [(0, _), (1, _), (2, _)]) [0, 1, 2] rfl ?_
    exact goon
  · skip
    obtain ⟨hx1, hy1⟩ := hx0.resolve_left e1
    refine wp_aload_n (q := 16) dX11_rests_15 0 rfl rfl ?_
    refine wp_iload_n (q := 17) dX11_rests_16 1 rfl rfl ?_
    refine wp_cvx (q := 20) (sp_isSeat (d := 0) hr.1 h8) zm_X11_isSeat zl_RX11_196 dX11_rests_17 rfl (by omega) (Nat.le_of_ble_eq_true rfl) zsh_0 rfl rfl ?_
    rw [if_pos hx1]
    refine wp_if_eqN (tgt := 31) (q := 23) dX11_rests_20 (by decide) rfl (by omega) (fun hn => absurd hn (by first | omega | exact fun h => h | exact fun h => h trivial)) (fun _ => ?_)
    refine wp_aload_n (q := 24) dX11_rests_23 0 rfl rfl ?_
    refine wp_iload_n (q := 25) dX11_rests_24 2 rfl rfl ?_
    refine wp_cvx (q := 28) (sp_isHand (d := 0)) zm_X11_isHand zl_RX11_284 dX11_rests_25 rfl (by omega) (Nat.le_of_ble_eq_true rfl) zsh_0 rfl rfl ?_
    rw [if_pos hy1]
    refine wp_if_neN (tgt := 33) (q := 31) dX11_rests_28 (by decide) rfl (by omega) (fun _ => ?_) (fun hn => absurd hn (by first | omega | exact fun h => h | exact fun h => h trivial))
    refine WP.sub (loc' := [(0, _), (1, _), (2, _)]) [0, 1, 2] rfl ?_
    exact goon
set_option maxHeartbeats 4000000 in
set_option maxRecDepth 100000 in
theorem sp_restsN {d t n : Nat} {x y : Int32} {M : zMI} {L : zML} {g : zGd} {v : Nat → Nat} {hs : List (Nat → Nat)} {m : zMs} (h : zCI M L t n g v hs m) (hN : ¬ (2 ≤ n ∧ (x = -1 ∨ (zin x n ∧ zin y 2)))) : Sy yX11_rests YX11_rests (d + 7) [.ref 0, .int x, .int y] M L (zRf t) (zAn M L t n g v hs m (.int (-1))) := by
  refine Sp.of (by decide +kernel) rfl (fun h => by first | exact h | cases h) (Nat.le_of_ble_eq_true rfl) ?_
  intro w G
  have hv := zCI_hv h
  have hr := zCI_sr h
  have h8 := hv.1
  have ho : zSt 43 := Or.inl rfl
  refine wp_aload_n (q := 1) dX11_rests_0 0 rfl rfl ?_
  refine wp_getR (q := 4) dX11_rests_1 zf_RX11_55 rfl zsh_0 (zr_0_7 _) rfl ?_
  refine wp_cvx (q := 7) (sp_crackers (d := 0) ho hr.1 h8) zm_X7_crackers zl_RX11_168 dX11_rests_4 rfl (by omega) (Nat.le_of_ble_eq_true rfl) zsh_43 rfl rfl ?_
  by_cases c : n < 2
  · rw [if_pos c]
    refine wp_if_eqN (tgt := 31) (q := 10) dX11_rests_7 (by decide) rfl (by omega) (fun _ => ?_) (fun hn => absurd hn (by first | omega | exact fun h => h | exact fun h => h trivial))
    refine wp_iconst (q := 32) dX11_rests_31 zq_iconst_m1 rfl ?_
    exact wp_ireturn dX11_rests_32 rfl ⟨rfl, ⟨rfl, rfl, h, zXf_r⟩⟩ rfl rfl
  · rw [if_neg c]
    refine wp_if_eqN (tgt := 31) (q := 10) dX11_rests_7 (by decide) rfl (by omega) (fun hn => absurd hn (by first | omega | exact fun h => h | exact fun h => h trivial)) (fun _ => ?_)
    refine wp_iload_n (q := 11) dX11_rests_10 1 rfl rfl ?_
    refine wp_iconst (q := 12) dX11_rests_11 zq_iconst_m1 rfl ?_
    refine wp_icmp_eq (tgt := 33) (q := 15) dX11_rests_12 (by decide) rfl (fun hn => absurd hn (by exact fun e => hN ⟨by omega, Or.inl e⟩)) (fun _ => ?_)
    refine wp_aload_n (q := 16) dX11_rests_15 0 rfl rfl ?_
    refine wp_iload_n (q := 17) dX11_rests_16 1 rfl rfl ?_
    refine wp_cvx (q := 20) (sp_isSeat (d := 0) hr.1 h8) zm_X11_isSeat zl_RX11_196 dX11_rests_17 rfl (by omega) (Nat.le_of_ble_eq_true rfl) zsh_0 rfl rfl ?_
    by_cases c1 : zin x n
    · rw [if_pos c1]
      refine wp_if_eqN (tgt := 31) (q := 23) dX11_rests_20 (by decide) rfl (by omega) (fun hn => absurd hn (by first | omega | exact fun h => h | exact fun h => h trivial)) (fun _ => ?_)
      refine wp_aload_n (q := 24) dX11_rests_23 0 rfl rfl ?_
      refine wp_iload_n (q := 25) dX11_rests_24 2 rfl rfl ?_
      refine wp_cvx (q := 28) (sp_isHand (d := 0)) zm_X11_isHand zl_RX11_284 dX11_rests_25 rfl (by omega) (Nat.le_of_ble_eq_true rfl) zsh_0 rfl rfl ?_
      rw [if_neg (fun e => hN ⟨by omega, Or.inr ⟨c1, e⟩⟩)]
      refine wp_if_neN (tgt := 33) (q := 31) dX11_rests_28 (by decide) rfl (by omega) (fun hn => absurd hn (by first | omega | exact fun h => h | exact fun h => h trivial)) (fun _ => ?_)
      refine wp_iconst (q := 32) dX11_rests_31 zq_iconst_m1 rfl ?_
      exact wp_ireturn dX11_rests_32 rfl ⟨rfl, ⟨rfl, rfl, h, zXf_r⟩⟩ rfl rfl
    · rw [if_neg c1]
      refine wp_if_eqN (tgt := 31) (q := 23) dX11_rests_20 (by decide) rfl (by omega) (fun _ => ?_) (fun hn => absurd hn (by first | omega | exact fun h => h | exact fun h => h trivial))
      refine wp_iconst (q := 32) dX11_rests_31 zq_iconst_m1 rfl ?_
      exact wp_ireturn dX11_rests_32 rfl ⟨rfl, ⟨rfl, rfl, h, zXf_r⟩⟩ rfl rfl

