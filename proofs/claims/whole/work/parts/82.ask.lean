def zAsP (M : zMI) (L : zML) (t n : Nat) (g : zGd) (v : Nat → Nat) (hs : List (Nat → Nat)) (m : zMs) : Option Value → zMI → zML → zMR → Prop := fun v0 M' L' R' => ∃ T c A, zTok m.2.1 m.1 T c ∧ zqa T c (0, nI 0, 0, -1) = A ∧ zXf M M' L L' ∧ R' = zRf t ∧ zCI M' L' t n g v hs (zMf m (nI A.1.2.2.1) A.1.2.2.2) ∧ A.1.2.2.1 ≤ 5 ∧
  ((A.1.2.2.1 ≠ 0 ∧ v0 = some (.long (-1000000000000000))) ∨ (A.1.2.2.1 = 0 ∧ v0 = some (.long (lI (zqan (zpWo T c (0, nI 0, 0, -1) 24 29).2 (zqz g.2.2.2.2.2 v n A.2) n)))))
theorem zqa_typed {T : zDD} {c : Nat} {p : zP} {A : zPF} (hE : zTE T c) (hc : c ≤ 1601) (hQ : zok T c 8 p) (hA : zqa T c p = A) (h0 : A.1.2.2.1 = 0) : ∃ b ops', zrb A.2 ops' ∧ ztr ops' [] = some [b] ∧ A.2.length ≤ 1600 := by
  have hk := zkp_Wo (f := 24) (l := 29) hE hQ.2.1
  have hQ1 := zkp_ok hk hQ
  have fin : ∀ (K : Nat) (b : Bool) (r : zPF), K ≤ 60 → zgd K b c (zpWo T c p 24 29).1 [] r → zqa2 T c r = A → ∃ b ops', zrb A.2 ops' ∧ ztr ops' [] = some [b] ∧ A.2.length ≤ 1600 := by
    intro K b r hK hg hr
    unfold zqa2 at hr
    by_cases c1 : T r.1.1 0 = 0
    · rw [if_pos c1] at hr
      subst hr
      obtain ⟨d1, d2, ops, ops', d3, d4, d5, d6⟩ := hg h0
      have := d5 [] [] (by show 0 + K ≤ 60; omega)
      rw [List.append_nil] at this
      refine ⟨b, ops', ?_, this, ?_⟩
      · rw [d3]; exact d4.1
      · rw [d3, List.nil_append]; omega
    · rw [if_neg c1] at hr
      subst hr
      exact absurd h0 (zpf_b (by decide))
  unfold zqa at hA
  by_cases cw : (zpWo T c p 24 29).2 ≤ 2
  · rw [if_pos cw] at hA
    exact fin 46 true _ (by decide) (zg_test hE _ _ hQ1) hA
  · rw [if_neg cw] at hA
    exact fin 27 false _ (by decide) (zg_sum hE _ _ hQ1) hA
theorem zFR_b {M : zMI} {f : Nat} {a a' : zFl} (h : zFR M f a) (hr : zrb a a') : zFR M f a' := by
  obtain ⟨h1, h2, h3⟩ := h
  obtain ⟨-, r2, r3⟩ := hr
  have hl : a.length = a'.length := by
    have := congrArg List.length r2
    rw [List.length_map, List.length_map] at this
    exact this
  refine ⟨by rw [← hl]; exact h1, by omega, fun i op arg hi => ?_⟩
  have hb := r3 (op, arg) (List.mem_of_getElem? hi)
  refine ⟨?_, hb.1, hb.2⟩
  have hlt : i < a'.length := (List.getElem?_eq_some_iff.mp hi).1
  obtain ⟨q, hq⟩ : ∃ q, a[i]? = some q := ⟨a[i]'(by omega), List.getElem?_eq_getElem (by omega)⟩
  have e1 : (a.map (fun q => zenc q.1 q.2))[i]? = some (zenc q.1 q.2) := by rw [List.getElem?_map, hq]; rfl
  have e2 : (a'.map (fun q => zenc q.1 q.2))[i]? = some (zenc op arg) := by rw [List.getElem?_map, hi]; rfl
  rw [r2, e2] at e1
  have e3 := h3 i q.1 q.2 hq
  rw [e3.1]
  exact congrArg nI (Option.some.inj e1).symm
set_option maxHeartbeats 4000000 in
set_option maxRecDepth 100000 in
theorem sp_ask {d t n : Nat} {M : zMI} {L : zML} {g : zGd} {v : Nat → Nat} {hs : List (Nat → Nat)} {m : zMs} (h : zCI M L t n g v hs m) : Sy yX11_ask YX11_ask (d + 76) [.ref 0] M L (zRf t) (zAsP M L t n g v hs m) := by
  refine Sp.of (by decide +kernel) rfl (fun h => by first | exact h | cases h) (Nat.le_of_ble_eq_true rfl) ?_
  intro w G
  have hT := h.1
  have ht2 : t = 10 ∨ t = 24 := hT
  have ho : zSt 43 := Or.inl rfl
  refine wp_aload_n (q := 1) dX11_ask_0 0 rfl rfl ?_
  refine wp_cvy (q := 4) (sp_readTape (d := d) h) zm_X11_readTape zl_RX11_128 dX11_ask_1 rfl (by omega) (Nat.le_of_ble_eq_true rfl) zsh_0 rfl rfl ?_
  rintro _ M1 _ _ ⟨rfl, rfl, rfl, ⟨T, c, hTT, hTk⟩, e1, e0, hx1⟩
  have hE := zTok_TE hTk
  have hQ := zok_0 (T := T) hE.1
  have hcc : c ≤ 1601 := hTT.2.1
  obtain ⟨A, hA⟩ : ∃ A, zqa T c (0, nI 0, 0, -1) = A := ⟨_, rfl⟩
  have hw5 := zpWo_le T c (0, nI 0, 0, -1)
  refine wp_aload_n (q := 5) dX11_ask_4 0 rfl rfl ?_
  refine wp_getR (q := 8) dX11_ask_5 zf_RX11_48 rfl zsh_0 (by first | rfl | assumption) rfl ?_
  refine wp_cvy (q := 11) (sp_qread (d := d) hE hTT hQ hA) zm_X5_readAll zl_RX11_367 dX11_ask_8 rfl (by omega) (Nat.le_of_ble_eq_true rfl) zsh_38 rfl rfl ?_
  rintro _ M2 _ _ ⟨rfl, rfl, rfl, hS, hwd, hx2⟩
  obtain ⟨-, -, -, z5, -, -, -, z10, z11, -⟩ := hS.1
  refine wp_aload_n (q := 12) dX11_ask_11 0 rfl rfl ?_
  refine wp_cvx (q := 15) (sp_keepFault (d := 0)) zm_X11_keepFault zl_RX11_134 dX11_ask_12 rfl (by omega) (Nat.le_of_ble_eq_true rfl) zsh_0 rfl rfl ?_
  rw [z10, z11]
  have x02 : M2 0 = M1 0 := hx2 0 (by decide) (by decide) (by decide) (by decide) (by decide)
  obtain ⟨M3, hM3⟩ : ∃ M3, zu (zu M2 0 16 (nI A.1.2.2.1)) 0 17 A.1.2.2.2 = M3 := ⟨_, rfl⟩
  rw [hM3]
  have g16 : M3 0 16 = nI A.1.2.2.1 := by rw [← hM3, zu_k (by decide), zu_s]
  have g17 : M3 0 17 = A.1.2.2.2 := by rw [← hM3, zu_s]
  have g0 : ∀ j, j ≠ 16 → j ≠ 17 → M3 0 j = M1 0 j := fun j j1 j2 => by rw [← hM3, zu_k j2, zu_k j1, x02]
  have gx : ∀ x, x ≠ 0 → M3 x = M2 x := fun x hx => by rw [← hM3, zu_ne hx, zu_ne hx]
  have gf : ∀ x, ¬ zScr x → x ≠ 0 → M3 x = M x := fun x y1 y2 => by
    unfold zScr at y1
    rw [gx x y2, hx2 x (by omega) (by omega) (by omega) (by omega) (by omega), hx1 x (by omega)]
  have hdx : zDx M3 (34 - t) := by
    rcases ht2 with rfl | rfl
    · exact zDx_fr h.2.2.2.2.2.2.2.2.2.1 (fun x x1 x2 x3 => gf x (by unfold zScr; omega) (by omega))
    · exact zDx_fr h.2.2.2.2.2.2.2.2.1 (fun x x1 x2 x3 => gf x (by unfold zScr; omega) (by omega))
  have hcm : zCI M3 L t n g v hs (zMf m (nI A.1.2.2.1) A.1.2.2.2) := zCI_told h (by rw [g0 1 (by decide) (by decide)]; exact e1) g16 g17 (fun j j1 j2 j3 => by rw [g0 j j2 j3, e0 j j1]) (fun x _ y1 y2 _ => gf x y1 y2) hdx (by rw [gx 151 (by decide), hx2 151 (by decide) (by decide) (by decide) (by decide) (by decide), hx1 151 (by decide)])
  have hxf : zXf M M3 L L := fun x hx => ⟨gf x (by unfold zScr; omega) (by omega), rfl⟩
  refine wp_aload_n (q := 16) dX11_ask_15 0 rfl rfl ?_
  refine wp_getI (q := 19) dX11_ask_16 zf_RX11_107 rfl zsh_0 rfl ?_
  rw [g16]
  refine wp_if_eqN (tgt := 26) (q := 22) dX11_ask_19 (by decide) rfl (by omega) (fun hz => ?_) (fun hz => ?_)
  · skip
    have hv := zCI_hv hcm
    refine wp_aload_n (q := 27) dX11_ask_26 0 rfl rfl ?_
    refine wp_getR (q := 30) dX11_ask_27 zf_RX11_71 rfl zsh_0 (by first | rfl | assumption) rfl ?_
    refine wp_aload_n (q := 31) dX11_ask_30 0 rfl rfl ?_
    refine wp_getR (q := 34) dX11_ask_31 zf_RX11_55 rfl zsh_0 (by first | rfl | assumption) rfl ?_
    refine wp_cvy (q := 37) (sp_workAll (d := 0) hT ho (zCI_tm hcm) hv (zCI_sr hcm) (zCI_pm hcm)) zm_X4_workAll zl_RX11_249 dX11_ask_34 rfl (by omega) (Nat.le_of_ble_eq_true rfl) zsh_150 rfl rfl ?_
    rintro _ M4 _ _ ⟨rfl, rfl, rfl, ha, hp, hx4⟩
    have h4 := zCI_py hcm hp hx4
    have nPy : ∀ x, 38 ≤ x → x ≤ 42 → M4 x = M3 x := fun x x1 x2 => hx4 x (fun c => by rcases c with (c | c | c | c) | c | c | c <;> omega)
    obtain ⟨b, ops', r1, r2, r3⟩ := zqa_typed hE hcc hQ hA hz
    have hFR : zFR M4 39 ops' := by
      refine zFR_b (zFT_r ?_ r3) r1
      exact zFT_fr hS.2.1 (by rw [nPy 39 (by decide) (by decide), gx 39 (by decide)]) (by rw [nPy 40 (by decide) (by decide), gx 40 (by decide)])
    have hev : ∀ s, zqz g.2.2.2.2.2 v n ops' s = zqz g.2.2.2.2.2 v n A.2 s := fun s => by unfold zqz; rw [r1.1]
    refine wp_aload_n (q := 38) dX11_ask_37 0 rfl rfl ?_
    refine wp_getR (q := 41) dX11_ask_38 zf_RX11_48 rfl zsh_0 (by first | rfl | assumption) rfl ?_
    refine wp_aload_n (q := 42) dX11_ask_41 0 rfl rfl ?_
    refine wp_getR (q := 45) dX11_ask_42 zf_RX11_55 rfl zsh_0 (by first | rfl | assumption) rfl ?_
    refine wp_aload_n (q := 46) dX11_ask_45 0 rfl rfl ?_
    refine wp_getR (q := 49) dX11_ask_46 zf_RX11_71 rfl zsh_0 (by first | rfl | assumption) rfl ?_
    refine wp_cvy (q := 52) (sp_qanswer (d := 0) hT (zCI_tm h4) hv (zCI_sr h4) ha hFR r2 (by rw [nPy 38 (by decide) (by decide), gx 38 (by decide)]; exact hwd) hw5) zm_X5_answer zl_RX11_371 dX11_ask_49 rfl (by omega) (Nat.le_of_ble_eq_true rfl) zsh_38 rfl rfl ?_
    rintro _ M5 _ _ ⟨rfl, rfl, rfl, hx5⟩
    rw [show zqz g.2.2.2.2.2 v n ops' = zqz g.2.2.2.2.2 v n A.2 from funext hev]
    have h5 : zCI M5 L t n g v hs (zMf m (nI A.1.2.2.1) A.1.2.2.2) := zCI_scr h4 (zPM_fr (zCI_pm h4) (hx5 151 (by decide) (by decide))) (fun x x1 x2 x3 => hx5 x (by unfold zScr at x2; omega) (by unfold zScr at x2; omega)) (by rw [hx5 156 (by decide) (by decide)]) (by rw [hx5 156 (by decide) (by decide)]) rfl
    exact wp_lreturn dX11_ask_52 rfl ⟨rfl, ⟨T, c, A, hTk, hA, fun x hx => ⟨by rw [hx5 x (by omega) (by omega), (zXf_py (L := L) hT hx4 x hx).1]; exact (hxf x hx).1, rfl⟩, rfl, h5, z5, Or.inr ⟨hz, rfl⟩⟩⟩ rfl rfl
  · skip
    refine wp_ldc2_w (q := 25) dX11_ask_22 zk_RX11_369 rfl ?_
    exact wp_lreturn dX11_ask_25 rfl ⟨rfl, ⟨T, c, A, hTk, hA, hxf, rfl, hcm, z5, Or.inl ⟨hz, rfl⟩⟩⟩ rfl rfl

