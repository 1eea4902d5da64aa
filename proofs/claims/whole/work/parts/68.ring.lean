theorem zwy_le {r l h : Nat} (hr : r ≤ 10000) (hl : l ≤ 10000) : zwy r l h ≤ 200000000 := by
  have a1 := zm8 (a := 10000 - r) (b := 10000 - l) (by omega) (by omega)
  have a2 := zm8 hr hl
  have a3 := zm8 (a := r) (b := 10000 - l) hr (by omega)
  have a4 := zm8 (a := l) (b := 10000 - r) hl (by omega)
  unfold zwy
  split
  · omega
  · split <;> omega
set_option maxHeartbeats 4000000 in
set_option maxRecDepth 100000 in
theorem sp_odds {d t n s hh : Nat} {M : zMI} {L : zML} {g : zGd} {v : Nat → Nat} {hs : List (Nat → Nat)} {m : zMs} (h : zCI M L t n g v hs m) (h2 : 2 ≤ n) (hs0 : s < n) (hh0 : hh < 3) : Sy yX11_odds YX11_odds (d + 6) [.ref 0, .int (nI s), .int (nI hh)] M L (zRf t) (zAn M L t n g v hs m (.int (nI (zwy (zoR g.2.2.2.2.2 v s ((s + 1) % n)) (zoL g.2.2.2.2.2 v ((s + n - 1) % n) s) hh / 100)))) := by
  refine Sp.of (by decide +kernel) rfl (fun h => by first | exact h | cases h) (Nat.le_of_ble_eq_true rfl) ?_
  intro w G
  have hv := zCI_hv h
  have hr := zCI_sr h
  have h8 := hv.1
  have ho : zSt 43 := Or.inl rfl
  refine wp_aload_n (q := 1) dX11_odds_0 0 rfl rfl ?_
  refine wp_iload_n (q := 2) dX11_odds_1 1 rfl rfl ?_
  refine wp_cvx (q := 5) (sp_pulls (d := 0) hv hr) zm_X11_pulls zl_RX11_243 dX11_odds_2 rfl (by omega) (Nat.le_of_ble_eq_true rfl) zsh_0 rfl rfl ?_
  rw [if_pos ⟨zin_i hs0 (by omega), h2⟩]
  refine wp_if_eqN (tgt := 16) (q := 8) dX11_odds_5 (by decide) rfl (by omega) (fun hn => absurd hn (by first | omega | exact fun h => h | exact fun h => h trivial)) (fun _ => ?_)
  refine wp_aload_n (q := 9) dX11_odds_8 0 rfl rfl ?_
  refine wp_iload_n (q := 10) dX11_odds_9 2 rfl rfl ?_
  refine wp_cvx (q := 13) (sp_isDinnersHats (d := 0)) zm_X11_isDinnersHats zl_RX11_246 dX11_odds_10 rfl (by omega) (Nat.le_of_ble_eq_true rfl) zsh_0 rfl rfl ?_
  rw [if_pos (zin_i hh0 (by decide))]
  refine wp_if_neN (tgt := 18) (q := 16) dX11_odds_13 (by decide) rfl (by omega) (fun _ => ?_) (fun hn => absurd hn (by first | omega | exact fun h => h | exact fun h => h trivial))
  refine wp_aload_n (q := 19) dX11_odds_18 0 rfl rfl ?_
  refine wp_getR (q := 22) dX11_odds_19 zf_RX11_71 rfl zsh_0 (zr_0_9 _) rfl ?_
  refine wp_aload_n (q := 23) dX11_odds_22 0 rfl rfl ?_
  refine wp_getR (q := 26) dX11_odds_23 zf_RX11_55 rfl zsh_0 (zr_0_7 _) rfl ?_
  refine wp_cvy (q := 29) (sp_workAll (d := 0) h.1 ho (zCI_tm h) hv hr (zCI_pm h)) zm_X4_workAll zl_RX11_249 dX11_odds_26 rfl (by omega) (Nat.le_of_ble_eq_true rfl) zsh_150 rfl rfl ?_
  rintro _ M2 _ _ ⟨rfl, rfl, rfl, ha, hp, hx⟩
  have h' := zCI_py h hp hx
  refine wp_aload_n (q := 30) dX11_odds_29 0 rfl rfl ?_
  refine wp_getR (q := 33) dX11_odds_30 zf_RX11_71 rfl zsh_0 (zr_0_9 _) rfl ?_
  refine wp_aload_n (q := 34) dX11_odds_33 0 rfl rfl ?_
  refine wp_getR (q := 37) dX11_odds_34 zf_RX11_55 rfl zsh_0 (zr_0_7 _) rfl ?_
  refine wp_iload_n (q := 38) dX11_odds_37 1 rfl rfl ?_
  refine wp_iload_n (q := 39) dX11_odds_38 2 rfl rfl ?_
  refine wp_cvx (q := 42) (sp_ways (d := 0) ho (zCI_sr h').1 h8 (ha h2) hs0 (by omega : hh ≤ 2)) zm_X4_ways zl_RX11_253 dX11_odds_39 rfl (by omega) (Nat.le_of_ble_eq_true rfl) zsh_150 rfl rfl ?_
  refine wp_ldc2_w (q := 45) dX11_odds_42 zk_RX11_257 rfl ?_
  have hb : zwy (zoR g.2.2.2.2.2 v s ((s + 1) % n)) (zoL g.2.2.2.2.2 v ((s + n - 1) % n) s) hh ≤ 200000000 := zwy_le (by have := zo_sum g.2.2.2.2.2 v s ((s + 1) % n); omega) (by have := zo_sum g.2.2.2.2.2 v ((s + n - 1) % n) s; omega)
  rw [zlitL 100]
  refine wp_ldivN (q := 46) dX11_odds_45 (by omega) (by omega) (by omega) rfl ?_
  refine wp_l2iN (q := 47) dX11_odds_46 rfl ?_
  exact wp_ireturn dX11_odds_47 rfl ⟨rfl, ⟨rfl, rfl, h', zXf_py h.1 hx⟩⟩ rfl rfl
set_option maxHeartbeats 4000000 in
set_option maxRecDepth 100000 in
theorem sp_oddsN {d t n : Nat} {x y : Int32} {M : zMI} {L : zML} {g : zGd} {v : Nat → Nat} {hs : List (Nat → Nat)} {m : zMs} (h : zCI M L t n g v hs m) (hN : ¬ (2 ≤ n ∧ zin x n ∧ zin y 3)) : Sy yX11_odds YX11_odds (d + 6) [.ref 0, .int x, .int y] M L (zRf t) (zAn M L t n g v hs m (.int (-1))) := by
  refine Sp.of (by decide +kernel) rfl (fun h => by first | exact h | cases h) (Nat.le_of_ble_eq_true rfl) ?_
  intro w G
  have hv := zCI_hv h
  have hr := zCI_sr h
  refine wp_aload_n (q := 1) dX11_odds_0 0 rfl rfl ?_
  refine wp_iload_n (q := 2) dX11_odds_1 1 rfl rfl ?_
  refine wp_cvx (q := 5) (sp_pulls (d := 0) hv hr) zm_X11_pulls zl_RX11_243 dX11_odds_2 rfl (by omega) (Nat.le_of_ble_eq_true rfl) zsh_0 rfl rfl ?_
  by_cases c : zin x n ∧ 2 ≤ n
  · rw [if_pos c]
    refine wp_if_eqN (tgt := 16) (q := 8) dX11_odds_5 (by decide) rfl (by omega) (fun hn => absurd hn (by first | omega | exact fun h => h | exact fun h => h trivial)) (fun _ => ?_)
    refine wp_aload_n (q := 9) dX11_odds_8 0 rfl rfl ?_
    refine wp_iload_n (q := 10) dX11_odds_9 2 rfl rfl ?_
    refine wp_cvx (q := 13) (sp_isDinnersHats (d := 0)) zm_X11_isDinnersHats zl_RX11_246 dX11_odds_10 rfl (by omega) (Nat.le_of_ble_eq_true rfl) zsh_0 rfl rfl ?_
    rw [if_neg (fun e => hN ⟨c.2, c.1, e⟩)]
    refine wp_if_neN (tgt := 18) (q := 16) dX11_odds_13 (by decide) rfl (by omega) (fun hn => absurd hn (by first | omega | exact fun h => h | exact fun h => h trivial)) (fun _ => ?_)
    refine wp_iconst (q := 17) dX11_odds_16 zq_iconst_m1 rfl ?_
    exact wp_ireturn dX11_odds_17 rfl ⟨rfl, ⟨rfl, rfl, h, zXf_r⟩⟩ rfl rfl
  · rw [if_neg c]
    refine wp_if_eqN (tgt := 16) (q := 8) dX11_odds_5 (by decide) rfl (by omega) (fun _ => ?_) (fun hn => absurd hn (by first | omega | exact fun h => h | exact fun h => h trivial))
    refine wp_iconst (q := 17) dX11_odds_16 zq_iconst_m1 rfl ?_
    exact wp_ireturn dX11_odds_17 rfl ⟨rfl, ⟨rfl, rfl, h, zXf_r⟩⟩ rfl rfl
def zmn (tb : zTb) (v : Nat → Nat) (n hh : Nat) : Nat := nS (fun s => zwy (zoR tb v s ((s + 1) % n)) (zoL tb v ((s + n - 1) % n) s) hh) n
set_option maxHeartbeats 4000000 in
set_option maxRecDepth 100000 in
theorem sp_mean {d t n hh : Nat} {M : zMI} {L : zML} {g : zGd} {v : Nat → Nat} {hs : List (Nat → Nat)} {m : zMs} (h : zCI M L t n g v hs m) (h2 : 2 ≤ n) (hh0 : hh < 3) : Sy yX11_mean YX11_mean (d + 6) [.ref 0, .int (nI hh)] M L (zRf t) (zAn M L t n g v hs m (.int (nI (zmn g.2.2.2.2.2 v n hh / 100000)))) := by
  refine Sp.of (by decide +kernel) rfl (fun h => by first | exact h | cases h) (Nat.le_of_ble_eq_true rfl) ?_
  intro w G
  have hv := zCI_hv h
  have hr := zCI_sr h
  have h8 := hv.1
  have ho : zSt 43 := Or.inl rfl
  obtain ⟨f, hf⟩ : ∃ f, (fun s => zwy (zoR g.2.2.2.2.2 v s ((s + 1) % n)) (zoL g.2.2.2.2.2 v ((s + n - 1) % n) s) hh) = f := ⟨_, rfl⟩
  have hfb : ∀ s, f s ≤ 200000000 := fun s => by
    rw [← hf]
    exact zwy_le (by have := zo_sum g.2.2.2.2.2 v s ((s + 1) % n); omega) (by have := zo_sum g.2.2.2.2.2 v ((s + n - 1) % n) s; omega)
  have loop : ∀ (M2 : zMI), zCI M2 L t n g v hs m → zAll M2 n g.2.2.2.2.2 v → zXf M M2 L L → ∀ k i, i + k = n → WP w YX11_mean (d + 6, SS, 0, 0) G (some (zXp (zAn M L t n g v hs m (.int (nI (zmn g.2.2.2.2.2 v n hh / 100000)))))) 36 [(4, .int (nI i)), (2, .long (lN (nS f i))), (0, .ref 0), (1, .int (nI hh))] [] SS M2 L (zRf t) := by
    intro M2 h' ha hxf k
    induction k with
    | zero =>
      intro i hi
      have hin : i = n := by omega
      subst hin
      refine wp_iload (q := 38) dX11_mean_36 0 rfl rfl ?_
      refine wp_aload_n (q := 39) dX11_mean_38 2 rfl rfl ?_
      refine wp_getR (q := 42) dX11_mean_39 zf_RX11_55 rfl zsh_0 (zr_0_7 _) rfl ?_
      refine wp_getI (q := 45) dX11_mean_42 zf_RX11_165 rfl zsh_43 rfl ?_
      rw [(zCI_sr h').1]
      refine wp_icmp_geN (tgt := 71) (q := 48) dX11_mean_45 (by decide) rfl (by omega) (by omega) (fun _ => ?_) (fun hn => absurd hn (by first | omega | exact fun h => h | exact fun h => h trivial))
      refine wp_aload_n (q := 72) dX11_mean_71 2 rfl rfl ?_
      refine wp_lload_n (q := 73) dX11_mean_72 1 rfl rfl ?_
      have hb := nS_le (f := f) (b := 200000000) (n := i) (fun j _ => hfb j)
      refine wp_cvx (q := 76) (sp_thousandths (d := 0) (p := nS f i) (by omega)) zm_X11_thousandths zl_RX11_259 dX11_mean_73 rfl (by omega) (Nat.le_of_ble_eq_true rfl) zsh_0 rfl rfl ?_
      exact wp_ireturn dX11_mean_76 rfl ⟨rfl, ⟨by unfold zmn; rw [hf], rfl, h', hxf⟩⟩ rfl rfl
    | succ k ih =>
      intro i hi
      refine wp_iload (q := 38) dX11_mean_36 0 rfl rfl ?_
      refine wp_aload_n (q := 39) dX11_mean_38 2 rfl rfl ?_
      refine wp_getR (q := 42) dX11_mean_39 zf_RX11_55 rfl zsh_0 (zr_0_7 _) rfl ?_
      refine wp_getI (q := 45) dX11_mean_42 zf_RX11_165 rfl zsh_43 rfl ?_
      rw [(zCI_sr h').1]
      refine wp_icmp_geN (tgt := 71) (q := 48) dX11_mean_45 (by decide) rfl (by omega) (by omega) (fun hn => absurd hn (by first | omega | exact fun h => h | exact fun h => h trivial)) (fun _ => ?_)
      refine wp_lload_n (q := 49) dX11_mean_48 1 rfl rfl ?_
      refine wp_aload_n (q := 50) dX11_mean_49 2 rfl rfl ?_
      refine wp_getR (q := 53) dX11_mean_50 zf_RX11_71 rfl zsh_0 (zr_0_9 _) rfl ?_
      refine wp_aload_n (q := 54) dX11_mean_53 2 rfl rfl ?_
      refine wp_getR (q := 57) dX11_mean_54 zf_RX11_55 rfl zsh_0 (zr_0_7 _) rfl ?_
      refine wp_iload (q := 59) dX11_mean_57 0 rfl rfl ?_
      refine wp_iload_n (q := 60) dX11_mean_59 3 rfl rfl ?_
      refine wp_cvx (q := 63) (sp_ways (d := 0) ho (zCI_sr h').1 h8 ha (by omega : i < n) (by omega : hh ≤ 2)) zm_X4_ways zl_RX11_253 dX11_mean_60 rfl (by omega) (Nat.le_of_ble_eq_true rfl) zsh_150 rfl rfl ?_
      rw [show zwy (zoR g.2.2.2.2.2 v i ((i + 1) % n)) (zoL g.2.2.2.2.2 v ((i + n - 1) % n) i) hh = f i from by rw [← hf]]
      refine wp_laddN (q := 64) dX11_mean_63 rfl ?_
      refine wp_lstore_n (q := 65) (loc' := [(2, _), (4, _), (0, _), (1, _)]) dX11_mean_64 rfl (by decide) rfl rfl ?_
      refine wp_iincN (q := 68) (loc' := [(4, _), (2, _), (0, _), (1, _)]) (n := 1) dX11_mean_65 rfl 1 rfl (by decide) rfl rfl ?_
      refine wp_goto (tgt := 36) dX11_mean_68 (by decide) ?_
      refine WP.sub (loc' := [(4, _), (2, _), (0, _), (1, _)]) [0, 1, 2, 3] rfl ?_
      exact ih (i + 1) (by omega)
  refine wp_aload_n (q := 1) dX11_mean_0 0 rfl rfl ?_
  refine wp_getR (q := 4) dX11_mean_1 zf_RX11_55 rfl zsh_0 (zr_0_7 _) rfl ?_
  refine wp_cvx (q := 7) (sp_crackers (d := 0) ho hr.1 h8) zm_X7_crackers zl_RX11_168 dX11_mean_4 rfl (by omega) (Nat.le_of_ble_eq_true rfl) zsh_43 rfl rfl ?_
  rw [if_neg (by omega)]
  refine wp_if_eqN (tgt := 18) (q := 10) dX11_mean_7 (by decide) rfl (by omega) (fun hn => absurd hn (by first | omega | exact fun h => h | exact fun h => h trivial)) (fun _ => ?_)
  refine wp_aload_n (q := 11) dX11_mean_10 0 rfl rfl ?_
  refine wp_iload_n (q := 12) dX11_mean_11 1 rfl rfl ?_
  refine wp_cvx (q := 15) (sp_isDinnersHats (d := 0)) zm_X11_isDinnersHats zl_RX11_246 dX11_mean_12 rfl (by omega) (Nat.le_of_ble_eq_true rfl) zsh_0 rfl rfl ?_
  rw [if_pos (zin_i hh0 (by decide))]
  refine wp_if_neN (tgt := 20) (q := 18) dX11_mean_15 (by decide) rfl (by omega) (fun _ => ?_) (fun hn => absurd hn (by first | omega | exact fun h => h | exact fun h => h trivial))
  refine wp_aload_n (q := 21) dX11_mean_20 0 rfl rfl ?_
  refine wp_getR (q := 24) dX11_mean_21 zf_RX11_71 rfl zsh_0 (zr_0_9 _) rfl ?_
  refine wp_aload_n (q := 25) dX11_mean_24 0 rfl rfl ?_
  refine wp_getR (q := 28) dX11_mean_25 zf_RX11_55 rfl zsh_0 (zr_0_7 _) rfl ?_
  refine wp_cvy (q := 31) (sp_workAll (d := 0) h.1 ho (zCI_tm h) hv hr (zCI_pm h)) zm_X4_workAll zl_RX11_249 dX11_mean_28 rfl (by omega) (Nat.le_of_ble_eq_true rfl) zsh_150 rfl rfl ?_
  rintro _ M2 _ _ ⟨rfl, rfl, rfl, ha, hp, hx⟩
  refine wp_lconst (q := 32) dX11_mean_31 zq_lconst_0 rfl ?_
  refine wp_lstore_n (q := 33) (loc' := [(2, _), (0, _), (1, _)]) dX11_mean_32 rfl (by decide) rfl rfl ?_
  refine wp_iconst (q := 34) dX11_mean_33 zq_iconst_0 rfl ?_
  refine wp_istore (q := 36) (loc' := [(4, _), (2, _), (0, _), (1, _)]) dX11_mean_34 (by decide) rfl rfl ?_
  refine WP.sub (loc' := [(4, _), (2, _), (0, _), (1, _)]) [0, 1, 2, 3] rfl ?_
  exact loop M2 (zCI_py h hp hx) (ha h2) (zXf_py h.1 hx) n 0 (Nat.zero_add _)
set_option maxHeartbeats 4000000 in
set_option maxRecDepth 100000 in
theorem sp_meanN {d t n : Nat} {x : Int32} {M : zMI} {L : zML} {g : zGd} {v : Nat → Nat} {hs : List (Nat → Nat)} {m : zMs} (h : zCI M L t n g v hs m) (hN : ¬ (2 ≤ n ∧ zin x 3)) : Sy yX11_mean YX11_mean (d + 6) [.ref 0, .int x] M L (zRf t) (zAn M L t n g v hs m (.int (-1))) := by
  refine Sp.of (by decide +kernel) rfl (fun h => by first | exact h | cases h) (Nat.le_of_ble_eq_true rfl) ?_
  intro w G
  have hv := zCI_hv h
  have hr := zCI_sr h
  have h8 := hv.1
  have ho : zSt 43 := Or.inl rfl
  refine wp_aload_n (q := 1) dX11_mean_0 0 rfl rfl ?_
  refine wp_getR (q := 4) dX11_mean_1 zf_RX11_55 rfl zsh_0 (zr_0_7 _) rfl ?_
  refine wp_cvx (q := 7) (sp_crackers (d := 0) ho hr.1 h8) zm_X7_crackers zl_RX11_168 dX11_mean_4 rfl (by omega) (Nat.le_of_ble_eq_true rfl) zsh_43 rfl rfl ?_
  by_cases c : n < 2
  · rw [if_pos c]
    refine wp_if_eqN (tgt := 18) (q := 10) dX11_mean_7 (by decide) rfl (by omega) (fun _ => ?_) (fun hn => absurd hn (by first | omega | exact fun h => h | exact fun h => h trivial))
    refine wp_iconst (q := 19) dX11_mean_18 zq_iconst_m1 rfl ?_
    exact wp_ireturn dX11_mean_19 rfl ⟨rfl, ⟨rfl, rfl, h, zXf_r⟩⟩ rfl rfl
  · rw [if_neg c]
    refine wp_if_eqN (tgt := 18) (q := 10) dX11_mean_7 (by decide) rfl (by omega) (fun hn => absurd hn (by first | omega | exact fun h => h | exact fun h => h trivial)) (fun _ => ?_)
    refine wp_aload_n (q := 11) dX11_mean_10 0 rfl rfl ?_
    refine wp_iload_n (q := 12) dX11_mean_11 1 rfl rfl ?_
    refine wp_cvx (q := 15) (sp_isDinnersHats (d := 0)) zm_X11_isDinnersHats zl_RX11_246 dX11_mean_12 rfl (by omega) (Nat.le_of_ble_eq_true rfl) zsh_0 rfl rfl ?_
    rw [if_neg (fun e => hN ⟨by omega, e⟩)]
    refine wp_if_neN (tgt := 20) (q := 18) dX11_mean_15 (by decide) rfl (by omega) (fun hn => absurd hn (by first | omega | exact fun h => h | exact fun h => h trivial)) (fun _ => ?_)
    refine wp_iconst (q := 19) dX11_mean_18 zq_iconst_m1 rfl ?_
    exact wp_ireturn dX11_mean_19 rfl ⟨rfl, ⟨rfl, rfl, h, zXf_r⟩⟩ rfl rfl

