set_option maxHeartbeats 4000000 in
set_option maxRecDepth 100000 in
theorem sp_readTape {d t n : Nat} {M : zMI} {L : zML} {g : zGd} {v : Nat → Nat} {hs : List (Nat → Nat)} {m : zMs} (h : zCI M L t n g v hs m) : Sy yX11_readTape YX11_readTape (d + 3) [.ref 0] M L (zRf t) (fun v0 M' L' R' => v0 = none ∧ L = L' ∧ R' = zRf t ∧ (∃ T c, zTT M' T c (0, nI 0, 0, -1) ∧ zTok m.2.1 m.1 T c) ∧ M' 0 1 = nI 0 ∧ (∀ j, j ≠ 1 → M' 0 j = M 0 j) ∧ ∀ x, (x = 1 ∨ 7 < x) → M' x = M x) := by
  refine Sp.of (by decide +kernel) rfl (fun h => by first | exact h | cases h) (Nat.le_of_ble_eq_true rfl) ?_
  intro w G
  obtain ⟨c1, c2, c3, -⟩ := zCI_cm h
  refine wp_aload_n (q := 1) dX11_readTape_0 0 rfl rfl ?_
  refine wp_getR (q := 4) dX11_readTape_1 zf_RX11_20 rfl zsh_0 (by first | rfl | assumption) rfl ?_
  refine wp_aload_n (q := 5) dX11_readTape_4 0 rfl rfl ?_
  refine wp_getR (q := 8) dX11_readTape_5 zf_RX11_9 rfl zsh_0 (by first | rfl | assumption) rfl ?_
  refine wp_aload_n (q := 9) dX11_readTape_8 0 rfl rfl ?_
  refine wp_getI (q := 12) dX11_readTape_9 zf_RX11_13 rfl zsh_0 rfl ?_
  rw [c1]
  refine wp_cvy (q := 15) (sp_tread (d := 0) c2 c3 h.2.2.2.2.2.2.2.2.2.2) zm_X10_read zl_RX11_150 dX11_readTape_12 rfl (by omega) (Nat.le_of_ble_eq_true rfl) zsh_2 rfl rfl ?_
  rintro _ M2 _ _ ⟨rfl, rfl, rfl, ⟨T, c, ht, hk⟩, hx⟩
  refine wp_aload_n (q := 16) dX11_readTape_15 0 rfl rfl ?_
  refine wp_iconst (q := 17) dX11_readTape_16 zq_iconst_0 rfl ?_
  refine wp_putI (q := 20) dX11_readTape_17 zf_RX11_13 rfl zsh_0 rfl ?_
  refine wp_return dX11_readTape_20 rfl ⟨rfl, ⟨rfl, rfl, rfl, ⟨T, c, ?_, hk⟩, zu_s, fun j hj => by rw [zu_k hj, hx 0 (by decide)], fun x hx' => by rw [zu_ne (by omega), hx x (by omega)]⟩⟩ rfl rfl
  obtain ⟨a, b1, c1, d1, e1, e2, e3, e4, e5, g⟩ := ht
  exact ⟨a, b1, c1, d1, by rw [zu_ne (by decide)]; exact e1, by rw [zu_ne (by decide)]; exact e2, by rw [zu_ne (by decide)]; exact e3, by rw [zu_ne (by decide)]; exact e4, by rw [zu_ne (by decide)]; exact e5, fun i hi => by rw [zu_ne (by decide), zu_ne (by decide), zu_ne (by decide), zu_ne (by decide), zu_ne (by decide)]; exact g i hi⟩
set_option maxHeartbeats 4000000 in
set_option maxRecDepth 100000 in
theorem sp_keepFault {d t : Nat} {M : zMI} {L : zML} : Sx yX11_keepFault YX11_keepFault (d) [.ref 0] M L (zRf t) (none) (zu (zu M 0 16 (M 2 10)) 0 17 (M 2 11)) L (zRf t) := by
  refine Sp.of (by decide +kernel) rfl (fun h => by first | exact h | cases h) (Nat.le_of_ble_eq_true rfl) ?_
  intro w G
  refine wp_aload_n (q := 1) dX11_keepFault_0 0 rfl rfl ?_
  refine wp_aload_n (q := 2) dX11_keepFault_1 0 rfl rfl ?_
  refine wp_getR (q := 5) dX11_keepFault_2 zf_RX11_20 rfl zsh_0 (by first | rfl | assumption) rfl ?_
  refine wp_getI (q := 8) dX11_keepFault_5 zf_RX11_154 rfl zsh_2 rfl ?_
  refine wp_putI (q := 11) dX11_keepFault_8 zf_RX11_107 rfl zsh_0 rfl ?_
  refine wp_aload_n (q := 12) dX11_keepFault_11 0 rfl rfl ?_
  refine wp_aload_n (q := 13) dX11_keepFault_12 0 rfl rfl ?_
  refine wp_getR (q := 16) dX11_keepFault_13 zf_RX11_20 rfl zsh_0 (by first | rfl | assumption) rfl ?_
  refine wp_getI (q := 19) dX11_keepFault_16 zf_RX11_157 rfl zsh_2 rfl ?_
  rw [zu_ne (by decide)]
  refine wp_putI (q := 22) dX11_keepFault_19 zf_RX11_110 rfl zsh_0 rfl ?_
  exact wp_return dX11_keepFault_22 rfl ⟨rfl, rfl, rfl, rfl, rfl⟩ rfl rfl
def zMf (m : zMs) (a b : Int32) : zMs := (0, m.2.1, m.2.2.1, m.2.2.2.1, a, b, m.2.2.2.2.2.2)
-- what stands behind the reading of a tape, of a fault
theorem zCI_told {M M' : zMI} {L : zML} {t n : Nat} {g : zGd} {v : Nat → Nat} {hs : List (Nat → Nat)} {m : zMs} {a b : Int32} (h : zCI M L t n g v hs m) (e1 : M' 0 1 = nI 0) (e2 : M' 0 16 = a) (e3 : M' 0 17 = b) (e0 : ∀ j, j ≠ 1 → j ≠ 16 → j ≠ 17 → M' 0 j = M 0 j) (e : ∀ x, x < 177 → ¬ zScr x → x ≠ 0 → (x < 34 - t ∨ 34 - t + 13 < x) → M' x = M x) (hd : zDx M' (34 - t)) (hp : M' 151 = M 151) : zCI M' L t n g v hs (zMf m a b) := by
  obtain ⟨a1, a2, a3, a4, ⟨nx, a5⟩, a6, a7, a8, a9, a10, a11⟩ := h
  have ht2 : t = 10 ∨ t = 24 := a1
  obtain ⟨c1, c2, c3, c4, c5, c6, c7, c8, c9, c10, c11⟩ := a8
  refine ⟨a1, a2, zCt_fr a3 (fun x x1 x2 x3 => e x (by omega) (by unfold zScr; omega) (by omega) (by omega)), zSR_fr a4 (fun x x1 x2 => e x (by omega) (by unfold zScr; omega) (by omega) (by omega)), ⟨nx, zHi_fr a5 (fun x x1 x2 => e x (by omega) (by unfold zScr; omega) (by omega) (by omega))⟩, zPM_fr a6 hp, zCk_fr a7 (by rw [e 156 (by omega) (by unfold zScr; omega) (by omega) (by omega)]) (by rw [e 156 (by omega) (by unfold zScr; omega) (by omega) (by omega)]) (fun x x1 x2 => e x (by omega) (by unfold zScr; omega) (by omega) (by omega)) (e 171 (by omega) (by unfold zScr; omega) (by omega) (by omega)) rfl, ?_, ?_, ?_, fun w hw => by rw [e 8 (by omega) (by unfold zScr; omega) (by omega) (by omega)]; exact a11 w hw⟩
  · exact ⟨e1, Nat.zero_le _, fun i hi => absurd hi (Nat.not_lt_zero _), fun i hi => by rw [e 176 (by omega) (by unfold zScr; omega) (by omega) (by omega)]; exact c4 i hi, by rw [e0 15 (by decide) (by decide) (by decide)]; exact c5, c6, e2, e3, by rw [e0 14 (by decide) (by decide) (by decide)]; exact c9, c10, fun i hi => by rw [e 175 (by omega) (by unfold zScr; omega) (by omega) (by omega)]; exact c11 i hi⟩
  · rcases ht2 with rfl | rfl
    · exact zDx_fr a9 (fun x x1 x2 x3 => e x (by omega) (by unfold zScr; omega) (by omega) (by omega))
    · exact hd
  · rcases ht2 with rfl | rfl
    · exact hd
    · exact zDx_fr a10 (fun x x1 x2 x3 => e x (by omega) (by unfold zScr; omega) (by omega) (by omega))
theorem zRf_sw {t : Nat} (hT : zTab t) : zu (zu (zu (zRf t) 0 4 (some (34 - t))) 0 5 (some t)) 150 0 (some (34 - t)) = zRf (34 - t) := by
  have ht2 : t = 10 ∨ t = 24 := hT
  funext o k
  simp only [zu_at]
  unfold zRf
  by_cases c1 : o = 150 ∧ k = 0
  · rw [if_pos c1, if_neg (by omega), if_neg (by omega), if_pos c1]
  · rw [if_neg c1]
    by_cases c2 : o = 0 ∧ k = 5
    · rw [if_pos c2, if_neg (by omega), if_pos c2, show 34 - (34 - t) = t by omega]
    · rw [if_neg c2]
      by_cases c3 : o = 0 ∧ k = 4
      · rw [if_pos c3, if_pos c3]
      · rw [if_neg c3, if_neg c3, if_neg c3, if_neg c2, if_neg c2, if_neg c1, if_neg c1]
theorem zok_0 {T : zDD} {c : Nat} (h1 : 1 ≤ c) : zok T c 8 (0, nI 0, 0, -1) := ⟨by decide, h1, Or.inr ⟨0, rfl, by decide, by decide⟩⟩
theorem zFT_r {M : zMI} {f : Nat} {F : zFl} (h : zFT M f F) (hl : F.length ≤ 1600) : zFR M f F := by
  unfold zFT at h
  rw [List.take_of_length_le hl] at h
  exact h
theorem zCt_told {M : zMI} {u : Nat} {T : zDD} {c : Nat} {r : zTS} (h : zTA M T c u r) (hc : zDc r.2.1) (hi : zSI r) (h0 : r.1.2.2.1 = 0) : zCt M u (r.2.1 0 1) (zTg r.2.1 r.2.2.1 r.2.2.2) := by
  obtain ⟨-, hD, hm, hs⟩ := h
  obtain ⟨⟨b1, b2, b3, b4⟩, b5, b6⟩ := hc
  obtain ⟨⟨i1, i2, i3, i4⟩, i5⟩ := hi
  obtain ⟨f1, f2⟩ := i5 h0
  have hn := fun o k h1 => hD o k h1
  refine ⟨hD 0 1 (by decide) (by simp [zDk]), fun i hi => ⟨hD 1 i (by decide) (Or.inl (by decide)), b3 i hi⟩, hD 0 7 (by decide) (by simp [zDk]), b2, fun i hi => ⟨hD 6 i (by decide) (Or.inl (by decide)), b4 i hi⟩, fun i hi => ⟨hD 7 i (by decide) (Or.inl (by decide)), i3 i hi⟩, hD 0 10 (by decide) (by simp [zDk]), i4, fun p hd hp hh => ⟨hD 2 _ (by decide) (Or.inl (by decide)), (i1 (2 * p + hd) (by omega)).1⟩, ?_, ?_⟩
  · have e := hD 0 11 (by decide) (by simp [zDk])
    unfold zTg
    show zpr M (u + 8) 11 u (if r.2.1 0 11 = 1 then some r.2.2.1 else none)
    by_cases c : r.2.1 0 11 = 1
    · rw [if_pos c]
      rw [c] at e
      exact ⟨e, zFT_r hm (f1 c).2, (f1 c).1⟩
    · rw [if_neg c]
      show M u 11 = nI 0
      rw [show nI 0 = nI (r.2.1 0 11) from congrArg nI (by omega)]
      exact e
  · have e := hD 0 12 (by decide) (by simp [zDk])
    unfold zTg
    show zpr M (u + 11) 12 u (if r.2.1 0 12 = 1 then some r.2.2.2 else none)
    by_cases c : r.2.1 0 12 = 1
    · rw [if_pos c]
      rw [c] at e
      exact ⟨e, zFT_r hs (f2 c).2, (f2 c).1⟩
    · rw [if_neg c]
      show M u 12 = nI 0
      rw [show nI 0 = nI (r.2.1 0 12) from congrArg nI (by omega)]
      exact e
-- what table() leaves: for the tokens of the tape, the table read
def zTbP (M : zMI) (L : zML) (t n : Nat) (g : zGd) (v : Nat → Nat) (hs : List (Nat → Nat)) (m : zMs) : Option Value → zMI → zML → zMR → Prop := fun v0 M' L' R' => ∃ T c D Fm Fs r, zTok m.2.1 m.1 T c ∧ zrl T c 60 ((0, nI 0, 0, -1), zDz D, Fm, Fs) = r ∧ zDc r.2.1 ∧ zSI r ∧ zkp T c (0, nI 0, 0, -1) r.1 ∧ zXf M M' L L' ∧
  ((r.1.2.2.1 ≠ 0 ∧ r.1.2.2.1 ≤ 5 ∧ v0 = some (.int (-1)) ∧ R' = zRf t ∧ zCI M' L' t n g v hs (zMup (zMf m (nI r.1.2.2.1) r.1.2.2.2) 1)) ∨
   (r.1.2.2.1 = 0 ∧ v0 = some (.int (nI (r.2.1 0 0))) ∧ R' = zRf (34 - t) ∧ zCI M' L' (34 - t) (r.2.1 0 1) (zTg r.2.1 r.2.2.1 r.2.2.2) (zv0 r.2.1) [] (zMf m (nI 0) r.1.2.2.2)))

