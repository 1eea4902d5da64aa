def zTv (T : zDD) (c : Nat) : Prop := ∀ i, i < c → T i 2 < 2147483648
theorem zTT_v {M : zMI} {T : zDD} {c : Nat} {p : zP} (h : zTT M T c p) : zTv T c := fun i hi => (h.2.2.2.2.2.2.2.2.2 i hi).2.2.2.2.2.1
theorem zpNa_v {T : zDD} {c : Nat} {p : zP} (h : zTv T c) (hp : p.1 < c) : (zpNa T c p).2 < 2147483648 := by
  have := h _ hp
  unfold zpNa
  split
  · split
    · exact this
    · exact Nat.zero_lt_succ _
  · exact Nat.zero_lt_succ _
theorem ztn_v {T : zDD} {c n bx : Nat} {p : zP} {nm bn : Nat → Nat} (h : zTv T c) (hp : p.1 < c) : (ztn T c p n nm bx bn).2 < 2147483648 := by
  unfold ztn
  split
  · exact zpNa_v h hp
  · exact zpNa_v h hp
theorem zkp_Na {T : zDD} {c : Nat} {p : zP} (hE : zTE T c) (hp : p.1 < c) : zkp T c p (zpNa T c p).1 := by
  unfold zpNa
  split
  · split
    · exact zkp_n hE hp
    · exact zkp_f hE zpf_1
  · exact zkp_f hE zpf_1
theorem zkp_tn {T : zDD} {c n bx : Nat} {p : zP} {nm bn : Nat → Nat} (hE : zTE T c) (hp : p.1 < c) : zkp T c p (ztn T c p n nm bx bn).1 := by
  unfold ztn
  split
  · exact zkp_f hE zpf_1
  · exact zkp_Na hE hp
theorem zkp_tp {T : zDD} {c n : Nat} {p : zP} {nm : Nat → Nat} (hE : zTE T c) (hp : p.1 < c) : zkp T c p (ztp T c p n nm).1 := by
  unfold ztp
  split
  · split
    · exact zkp_Na hE hp
    · exact zkp_f hE zpf_1
  · exact zkp_Na hE hp
theorem zkp_P {T : zDD} {c : Nat} {p : zP} {D : zDD} (hE : zTE T c) (hp : p.1 < c) : zkp T c p (zrP T c p D).1 := by
  unfold zrP
  split
  · have h1 := zkp_n hE hp
    have h2 := zkp_tr h1 (zkp_tn (n := D 0 1) (nm := D 1) (bx := D 0 7) (bn := D 6) hE h1.1)
    have h3 := zkp_tr h2 (zkp_Wo (f := 1) (l := 1) hE h2.1)
    have h4 := zkp_tr h3 (zkp_Nu (m := 99) hE h3.1)
    have h5 := zkp_tr h4 (zkp_Wo (f := 2) (l := 2) hE h4.1)
    exact zkp_tr h5 (zkp_Nu (m := 99) hE h5.1)
  · exact zkp_f hE zpf_1
theorem zkp_B {T : zDD} {c : Nat} {p : zP} {D : zDD} (hE : zTE T c) (hp : p.1 < c) : zkp T c p (zrB T c p D).1 := by
  unfold zrB
  split
  · have h1 := zkp_n hE hp
    have h2 := zkp_tr h1 (zkp_tn (n := D 0 1) (nm := D 1) (bx := D 0 7) (bn := D 6) hE h1.1)
    have h3 := zkp_tr h2 (zkp_Wo (f := 8) (l := 8) hE h2.1)
    exact zkp_tr h3 (zkp_Nu (m := 100) hE h3.1)
  · exact zkp_f hE zpf_1
theorem zkp_H {T : zDD} {c : Nat} {p : zP} {D : zDD} (hE : zTE T c) (hp : p.1 < c) : zkp T c p (zrH T c p D).1 := by
  have h1 := zkp_n hE hp
  have h2 := zkp_tr h1 (zkp_tp (n := D 0 1) (nm := D 1) hE h1.1)
  have h3 := zkp_tr h2 (zkp_Wo (f := 1) (l := 2) hE h2.1)
  have h4 := zkp_tr h3 (zkp_Wo (f := 4) (l := 6) hE h3.1)
  exact zkp_tr h4 (zkp_Nu (m := 9) hE h4.1)
theorem zkp_T {T : zDD} {c : Nat} {p : zP} {D : zDD} (hE : zTE T c) (hp : p.1 < c) : zkp T c p (zrT T c p D).1 := by
  have h1 := zkp_n hE hp
  have h2 := zkp_tr h1 (zkp_tp (n := D 0 1) (nm := D 1) hE h1.1)
  exact zkp_tr h2 (zkp_Nu (m := 9) hE h2.1)
theorem zkp_G {T : zDD} {c : Nat} {p : zP} {D : zDD} (hE : zTE T c) (hp : p.1 < c) : zkp T c p (zrG T c p D).1 := by
  have h1 := zkp_n hE hp
  exact zkp_tr h1 (zkp_Nu (m := 100) hE h1.1)
theorem zkp_S {T : zDD} {c a : Nat} {p : zP} {F : zFl} (hE : zTE T c) (hp : p.1 < c) : zkp T c p (zrS T c p a F).1 := by
  unfold zrS
  split
  · have h1 := zkp_n hE hp
    exact zkp_tr h1 (zkp_sum hE _ _ h1.1)
  · exact zkp_f hE zpf_1
abbrev zTS : Type := zP × zDD × zFl × zFl
def zDc (D : zDD) : Prop := zDb D ∧ D 0 11 ≤ 1 ∧ D 0 12 ≤ 1
theorem zDc_P {T : zDD} {c : Nat} {p : zP} {D : zDD} (hE : zTE T c) (hv : zTv T c) (hp : p.1 < c) (h : zDc D) : zDc (zrP T c p D).2 := by
  obtain ⟨⟨h1, h2, h3, h4⟩, h5, h6⟩ := h
  unfold zrP
  split
  · rename_i hlt
    have hx := ztn_v (n := D 0 1) (bx := D 0 7) (nm := D 1) (bn := D 6) hv (zkp_n hE hp).1
    generalize ztn T c (zpn c p) (D 0 1) (D 1) (D 0 7) (D 6) = q at hx
    show zDc (zrPD D q.2 _ _)
    generalize (zpNu T c (zpWo T c q.1 1 1).1 99).2 = a
    generalize (zpNu T c (zpWo T c _ 2 2).1 99).2 = b
    have e1 : zrPD D q.2 a b 0 1 = D 0 1 + 1 := by simp [zrPD, zu_at]
    have e7 : zrPD D q.2 a b 0 7 = D 0 7 := by simp [zrPD, zu_at]
    have e11 : zrPD D q.2 a b 0 11 = D 0 11 := by simp [zrPD, zu_at]
    have e12 : zrPD D q.2 a b 0 12 = D 0 12 := by simp [zrPD, zu_at]
    have en : ∀ i, zrPD D q.2 a b 1 i = if i = D 0 1 then q.2 else D 1 i := fun i => by simp [zrPD, zu_at]
    have eb : ∀ i, zrPD D q.2 a b 6 i = D 6 i := fun i => by simp [zrPD, zu_at]
    refine ⟨⟨by omega, by omega, fun i hi => ?_, fun i hi => ?_⟩, by omega, by omega⟩
    · rw [en]
      split
      · exact hx
      · exact h3 i (by omega)
    · rw [eb]
      exact h4 i (by omega)
  · exact ⟨⟨h1, h2, h3, h4⟩, h5, h6⟩
theorem zDc_B {T : zDD} {c : Nat} {p : zP} {D : zDD} (hE : zTE T c) (hv : zTv T c) (hp : p.1 < c) (h : zDc D) : zDc (zrB T c p D).2 := by
  obtain ⟨⟨h1, h2, h3, h4⟩, h5, h6⟩ := h
  unfold zrB
  split
  · rename_i hlt
    have hx := ztn_v (n := D 0 1) (bx := D 0 7) (nm := D 1) (bn := D 6) hv (zkp_n hE hp).1
    generalize ztn T c (zpn c p) (D 0 1) (D 1) (D 0 7) (D 6) = q at hx
    show zDc (zu (zu (zu D 6 (D 0 7) q.2) 7 (D 0 7) _) 0 7 (D 0 7 + 1))
    generalize (zpNu T c (zpWo T c q.1 8 8).1 100).2 = a
    have e1 : zu (zu (zu D 6 (D 0 7) q.2) 7 (D 0 7) a) 0 7 (D 0 7 + 1) 0 1 = D 0 1 := by simp [zu_at]
    have e7 : zu (zu (zu D 6 (D 0 7) q.2) 7 (D 0 7) a) 0 7 (D 0 7 + 1) 0 7 = D 0 7 + 1 := by simp [zu_at]
    have e11 : zu (zu (zu D 6 (D 0 7) q.2) 7 (D 0 7) a) 0 7 (D 0 7 + 1) 0 11 = D 0 11 := by simp [zu_at]
    have e12 : zu (zu (zu D 6 (D 0 7) q.2) 7 (D 0 7) a) 0 7 (D 0 7 + 1) 0 12 = D 0 12 := by simp [zu_at]
    have en : ∀ i, zu (zu (zu D 6 (D 0 7) q.2) 7 (D 0 7) a) 0 7 (D 0 7 + 1) 1 i = D 1 i := fun i => by simp [zu_at]
    have eb : ∀ i, zu (zu (zu D 6 (D 0 7) q.2) 7 (D 0 7) a) 0 7 (D 0 7 + 1) 6 i = if i = D 0 7 then q.2 else D 6 i := fun i => by simp [zu_at]
    refine ⟨⟨by omega, by omega, fun i hi => ?_, fun i hi => ?_⟩, by omega, by omega⟩
    · rw [en]
      exact h3 i (by omega)
    · rw [eb]
      split
      · exact hx
      · exact h4 i (by omega)
  · exact ⟨⟨h1, h2, h3, h4⟩, h5, h6⟩
theorem zDc_w {D : zDD} {o k x : Nat} (h : zDc D) (h1 : o ≠ 1) (h6 : o ≠ 6) (h0 : o = 0 → k ≠ 1 ∧ k ≠ 7 ∧ (k = 11 → x ≤ 1) ∧ (k = 12 → x ≤ 1)) : zDc (zu D o k x) := by
  obtain ⟨⟨a1, a2, a3, a4⟩, a5, a6⟩ := h
  have e1 : zu D o k x 0 1 = D 0 1 := by rw [zu_at, if_neg (fun e => (h0 e.1.symm).1 e.2.symm)]
  have e7 : zu D o k x 0 7 = D 0 7 := by rw [zu_at, if_neg (fun e => (h0 e.1.symm).2.1 e.2.symm)]
  have en : ∀ i, zu D o k x 1 i = D 1 i := fun i => by rw [zu_at, if_neg (fun e => h1 e.1.symm)]
  have eb : ∀ i, zu D o k x 6 i = D 6 i := fun i => by rw [zu_at, if_neg (fun e => h6 e.1.symm)]
  refine ⟨⟨by omega, by omega, fun i hi => ?_, fun i hi => ?_⟩, ?_, ?_⟩
  · rw [en]; exact a3 i (by omega)
  · rw [eb]; exact a4 i (by omega)
  · rw [zu_at]
    split
    · rename_i e
      exact (h0 e.1.symm).2.2.1 e.2.symm
    · exact a5
  · rw [zu_at]
    split
    · rename_i e
      exact (h0 e.1.symm).2.2.2 e.2.symm
    · exact a6
theorem zDc_H {T : zDD} {c : Nat} {p : zP} {D : zDD} (h : zDc D) : zDc (zrH T c p D).2 := by
  unfold zrH zrH1 zrH2 zrH3 zrH4
  show zDc (if _ then _ else D)
  split
  · exact zDc_w (zDc_w h (by decide) (by decide) (fun e => absurd e (by decide))) (by decide) (by decide) (fun e => absurd e (by decide))
  · exact h
theorem zDc_T {T : zDD} {c : Nat} {p : zP} {D : zDD} (h : zDc D) : zDc (zrT T c p D).2 := by
  unfold zrT zrT1 zrT2
  show zDc (if _ then _ else D)
  split
  · exact zDc_w h (by decide) (by decide) (fun e => absurd e (by decide))
  · exact h
theorem zDc_G {T : zDD} {c : Nat} {p : zP} {D : zDD} (h : zDc D) : zDc (zrG T c p D).2 := zDc_w h (by decide) (by decide) (fun _ => ⟨by decide, by decide, fun e => absurd e (by decide), fun e => absurd e (by decide)⟩)
def zro1 (T : zDD) (c : Nat) (s : zTS) : zTS :=
  if T s.1.1 4 = 0 then ((zrP T c s.1 s.2.1).1, (zrP T c s.1 s.2.1).2, s.2.2)
  else if T s.1.1 4 = 3 then ((zrH T c s.1 s.2.1).1, (zrH T c s.1 s.2.1).2, s.2.2)
  else if T s.1.1 4 = 7 then ((zrB T c s.1 s.2.1).1, (zrB T c s.1 s.2.1).2, s.2.2)
  else if T s.1.1 4 = 9 then ((zrT T c s.1 s.2.1).1, (zrT T c s.1 s.2.1).2, s.2.2)
  else if T s.1.1 4 = 10 then ((zrS T c s.1 (s.2.1 0 11) s.2.2.1).1, zu s.2.1 0 11 1, (zrS T c s.1 (s.2.1 0 11) s.2.2.1).2, s.2.2.2)
  else if T s.1.1 4 = 11 then ((zrS T c s.1 (s.2.1 0 12) s.2.2.2).1, zu s.2.1 0 12 1, s.2.2.1, (zrS T c s.1 (s.2.1 0 12) s.2.2.2).2)
  else if T s.1.1 4 = 12 then ((zrG T c s.1 s.2.1).1, (zrG T c s.1 s.2.1).2, s.2.2)
  else (zpfh T c s.1, s.2)
def zro2 (T : zDD) (c : Nat) (s : zTS) : zTS := (zpNS T c s.1 59, zu s.2.1 0 0 (s.2.1 0 0 + 1), s.2.2)
def zro (T : zDD) (c : Nat) (s : zTS) : zTS := zro2 T c (zro1 T c s)
theorem zkp_ro1 {T : zDD} {c : Nat} (hE : zTE T c) (s : zTS) (hp : s.1.1 < c) : zkp T c s.1 (zro1 T c s).1 := by
  unfold zro1
  split
  · exact zkp_P hE hp
  split
  · exact zkp_H hE hp
  split
  · exact zkp_B hE hp
  split
  · exact zkp_T hE hp
  split
  · exact zkp_S hE hp
  split
  · exact zkp_S hE hp
  split
  · exact zkp_G (D := s.2.1) hE hp
  · exact zkp_f hE zpf_1
theorem zkp_ro {T : zDD} {c : Nat} (hE : zTE T c) (s : zTS) (hp : s.1.1 < c) : zkp T c s.1 (zro T c s).1 := by
  have h1 := zkp_ro1 hE s hp
  exact zkp_tr h1 (zkp_NS hE h1.1)
theorem zDc_ro1 {T : zDD} {c : Nat} (hE : zTE T c) (hv : zTv T c) (s : zTS) (hp : s.1.1 < c) (h : zDc s.2.1) : zDc (zro1 T c s).2.1 := by
  unfold zro1
  split
  · exact zDc_P hE hv hp h
  split
  · exact zDc_H h
  split
  · exact zDc_B hE hv hp h
  split
  · exact zDc_T h
  split
  · exact zDc_w h (by decide) (by decide) (fun _ => ⟨by decide, by decide, fun _ => Nat.le_refl _, fun e => absurd e (by decide)⟩)
  split
  · exact zDc_w h (by decide) (by decide) (fun _ => ⟨by decide, by decide, fun e => absurd e (by decide), fun _ => Nat.le_refl _⟩)
  split
  · exact zDc_G h
  · exact h
theorem zDc_ro {T : zDD} {c : Nat} (hE : zTE T c) (hv : zTv T c) (s : zTS) (hp : s.1.1 < c) (h : zDc s.2.1) : zDc (zro T c s).2.1 := zDc_w (zDc_ro1 hE hv s hp h) (by decide) (by decide) (fun _ => ⟨by decide, by decide, fun e => absurd e (by decide), fun e => absurd e (by decide)⟩)
def zTA (M : zMI) (T : zDD) (c u : Nat) (s : zTS) : Prop := zTT M T c s.1 ∧ zDT M u s.2.1 ∧ zFT M (u + 8) s.2.2.1 ∧ zFT M (u + 11) s.2.2.2
theorem zTA_po {M M' : zMI} {L L' : zML} {R' : zMR} {v0 : Option Value} {T : zDD} {c u t : Nat} {s : zTS} {r : zP × zDD} (hu : zTab u) (h : zTA M T c u s) (h2 : zTPo M L T c u t r v0 M' L' R') : zTA M' T c u (r.1, r.2, s.2.2) := by
  have hu2 : u = 10 ∨ u = 24 := hu
  obtain ⟨-, -, -, h3, h4, h5⟩ := h2
  obtain ⟨-, -, a3, a4⟩ := h
  exact ⟨h3, h4, zFT_fr a3 (h5 _ (by omega) (by omega)) (h5 _ (by omega) (by omega)), zFT_fr a4 (h5 _ (by omega) (by omega)) (h5 _ (by omega) (by omega))⟩
set_option maxHeartbeats 4000000 in
set_option maxRecDepth 100000 in
theorem sp_readOne {d t u c : Nat} {M : zMI} {L : zML} {T : zDD} {s : zTS} (hu : zTab u) (hE : zTE T c) (hQ : zok T c 8 s.1) (h : zTA M T c u s) (hb : zDc s.2.1) {r : zTS} (hr : zro T c s = r) : Sy yX9_readOne YX9_readOne (d + 39) [.ref u, .ref 2, .ref 9] M L (zRf t) (fun v0 M' L' R' => v0 = none ∧ L = L' ∧ R' = zRf t ∧ zTA M' T c u r ∧ ∀ x, x ≠ 2 → x ≠ 9 → (x < u ∨ u + 13 < x) → M' x = M x) := by
  refine Sp.of (by decide +kernel) rfl (fun h => by first | exact h | cases h) (Nat.le_of_ble_eq_true rfl) ?_
  intro w G
  obtain ⟨s0, s1, s2, s3, s4, s5, s6, s7, s8, s11⟩ := zTab_s hu
  obtain ⟨r2, r3, r4, r5, r6, r8, r9, r13, r14⟩ := zTab_r (t := t) hu
  have hu2 : u = 10 ∨ u = 24 := hu
  have hfm : zFo (u + 8) := by rcases hu2 with rfl | rfl <;> simp [zFo]
  have hfs : zFo (u + 11) := by rcases hu2 with rfl | rfl <;> simp [zFo]
  have hh := h.1
  have fin : ∀ (M4 : zMI) (s4 : zTS), zro1 T c s = s4 → zTA M4 T c u s4 → (∀ x, x ≠ 2 → x ≠ 9 → (x < u ∨ u + 13 < x) → M4 x = M x) → WP w YX9_readOne (d + 39, SS, 0, 0) G (some (zXp (fun v0 M' L' R' => v0 = none ∧ L = L' ∧ R' = zRf t ∧ zTA M' T c u r ∧ ∀ x, x ≠ 2 → x ≠ 9 → (x < u ∨ u + 13 < x) → M' x = M x))) 160 [(0, .ref u), (1, .ref 2), (2, .ref 9)] [] SS M4 L (zRf t) := by
    intro M4 s4 e4 h4 hx4
    unfold zro at hr
    rw [e4] at hr
    unfold zro2 at hr
    refine wp_aload_n (q := 161) dX9_readOne_160 1 rfl rfl ?_
    refine wp_bipush (q := 163) dX9_readOne_161 zq_bipush_59 rfl ?_
    refine wp_cvy (q := 166) (sp_needSign (d := 0) (s := 59) h4.1 (by decide)) zm_X10_needSign zl_RX9_110 dX9_readOne_163 rfl (by omega) (Nat.le_of_ble_eq_true rfl) zsh_2 rfl rfl ?_
    rintro _ M5 _ _ ⟨rfl, rfl, rfl, h5, hx5⟩
    have hD5 := zDT_2 hu h4.2.1 hx5
    refine wp_aload_n (q := 167) dX9_readOne_166 0 rfl rfl ?_
    refine wp_dup (q := 168) dX9_readOne_167 rfl rfl ?_
    refine wp_getI (q := 171) dX9_readOne_168 zf_RX9_9 rfl (by first | assumption | rfl) rfl ?_
    rw [zDT_0 hD5 (k := 0) (by simp [zDk])]
    refine wp_iconst (q := 172) dX9_readOne_171 zq_iconst_1 rfl ?_
    refine wp_iaddN (q := 173) dX9_readOne_172 rfl ?_
    refine wp_putI (q := 176) dX9_readOne_173 zf_RX9_9 rfl (by first | assumption | rfl) rfl ?_
    refine wp_return dX9_readOne_176 rfl ⟨rfl, ⟨rfl, rfl, rfl, ?_, fun x x1 x2 x3 => by rw [zu_ne (by omega), hx5 x x1]; exact hx4 x x1 x2 x3⟩⟩ rfl rfl
    rw [← hr]
    refine ⟨zTT_u hu h5 (fun x hx => zu_ne (by omega)), zDT_w hD5 0 0 _, zFT_fr h4.2.2.1 ?_ ?_, zFT_fr h4.2.2.2 ?_ ?_⟩
    · rw [zu_ne (by omega), hx5 _ (by omega)]
    · rw [zu_ne (by omega), hx5 _ (by omega)]
    · rw [zu_ne (by omega), hx5 _ (by omega)]
    · rw [zu_ne (by omega), hx5 _ (by omega)]
  have bad : zro1 T c s = (zpfh T c s.1, s.2) → WP w YX9_readOne (d + 39, SS, 0, 0) G (some (zXp (fun v0 M' L' R' => v0 = none ∧ L = L' ∧ R' = zRf t ∧ zTA M' T c u r ∧ ∀ x, x ≠ 2 → x ≠ 9 → (x < u ∨ u + 13 < x) → M' x = M x))) 156 [(0, .ref u), (1, .ref 2), (2, .ref 9)] [] SS M L (zRf t) := by
    intro e4
    refine wp_aload_n (q := 157) dX9_readOne_156 1 rfl rfl ?_
    refine wp_cvy (q := 160) (sp_failHere (d := 0) hh) zm_X10_failHere zl_RX9_107 dX9_readOne_157 rfl (by omega) (Nat.le_of_ble_eq_true rfl) zsh_2 rfl rfl ?_
    rintro _ M5 _ _ ⟨rfl, rfl, rfl, h5, hx5⟩
    refine WP.sub (loc' := [(0, _), (1, _), (2, _)]) [0, 1, 2] rfl ?_
    exact fin M5 _ e4 ⟨h5, zDT_2 hu h.2.1 hx5, zFT_fr h.2.2.1 (hx5 _ (by omega)) (hx5 _ (by omega)), zFT_fr h.2.2.2 (hx5 _ (by omega)) (hx5 _ (by omega))⟩ (fun x x1 _ _ => hx5 x x1)
  refine wp_aload_n (q := 1) dX9_readOne_0 1 rfl rfl ?_
  refine wp_cvx (q := 4) (sp_word (d := 0) hh) zm_X10_word zl_RX9_84 dX9_readOne_1 rfl (by omega) (Nat.le_of_ble_eq_true rfl) zsh_2 rfl rfl ?_
  obtain ⟨w, hw⟩ : ∃ w, T s.1.1 4 = w := ⟨_, rfl⟩
  rw [hw]
  by_cases ho : 12 < w
  · skip
    refine wp_tsOut (tgt := 156) dX9_readOne_4 (by rw [zwd_t]; split <;> omega) (by decide) ?_
    refine WP.sub (loc' := [(0, _), (1, _), (2, _)]) [0, 1, 2] rfl ?_
    exact bad (by unfold zro1; rw [hw]; repeat rw [if_neg (by omega)])
  · have hc : w = 0 ∨ w = 1 ∨ w = 2 ∨ w = 3 ∨ w = 4 ∨ w = 5 ∨ w = 6 ∨ w = 7 ∨ w = 8 ∨ w = 9 ∨ w = 10 ∨ w = 11 ∨ w = 12 := by omega
    clear ho
    rcases hc with rfl | rfl | rfl | rfl | rfl | rfl | rfl | rfl | rfl | rfl | rfl | rfl | rfl
    · skip
      refine wp_tsIn (tgt := 72) (off := 68) dX9_readOne_4 (by decide) (by decide) (by rfl) (by decide) ?_
      refine wp_aload_n (q := 73) dX9_readOne_72 0 rfl rfl ?_
      refine wp_aload_n (q := 74) dX9_readOne_73 1 rfl rfl ?_
      refine wp_cvy (q := 77) (sp_readPerson (d := 34) hu hh h.2.1 hb.1 rfl) zm_X9_readPerson zl_RX9_87 dX9_readOne_74 rfl (by omega) (Nat.le_of_ble_eq_true rfl) (by first | assumption | rfl) rfl rfl ?_
      rintro _ M5 _ _ h5
      obtain ⟨rfl, rfl, rfl, -, -, hx5⟩ := id h5
      refine wp_goto (tgt := 160) dX9_readOne_77 (by decide) ?_
      refine WP.sub (loc' := [(0, _), (1, _), (2, _)]) [0, 1, 2] rfl ?_
      exact fin M5 _ (by unfold zro1; rw [hw]; rfl) (zTA_po hu h h5) (fun x x1 _ x3 => hx5 x x1 (by omega))
    · skip
      refine wp_tsIn (tgt := 156) (off := 152) dX9_readOne_4 (by decide) (by decide) (by rfl) (by decide) ?_
      refine WP.sub (loc' := [(0, _), (1, _), (2, _)]) [0, 1, 2] rfl ?_
      exact bad (by unfold zro1; rw [hw]; rfl)
    · skip
      refine wp_tsIn (tgt := 156) (off := 152) dX9_readOne_4 (by decide) (by decide) (by rfl) (by decide) ?_
      refine WP.sub (loc' := [(0, _), (1, _), (2, _)]) [0, 1, 2] rfl ?_
      exact bad (by unfold zro1; rw [hw]; rfl)
    · skip
      refine wp_tsIn (tgt := 80) (off := 76) dX9_readOne_4 (by decide) (by decide) (by rfl) (by decide) ?_
      refine wp_aload_n (q := 81) dX9_readOne_80 0 rfl rfl ?_
      refine wp_aload_n (q := 82) dX9_readOne_81 1 rfl rfl ?_
      refine wp_cvy (q := 85) (sp_readHolds (d := 34) hu hh h.2.1 hb.1 rfl) zm_X9_readHolds zl_RX9_91 dX9_readOne_82 rfl (by omega) (Nat.le_of_ble_eq_true rfl) (by first | assumption | rfl) rfl rfl ?_
      rintro _ M5 _ _ h5
      obtain ⟨rfl, rfl, rfl, -, -, hx5⟩ := id h5
      refine wp_goto (tgt := 160) dX9_readOne_85 (by decide) ?_
      refine WP.sub (loc' := [(0, _), (1, _), (2, _)]) [0, 1, 2] rfl ?_
      exact fin M5 _ (by unfold zro1; rw [hw]; rfl) (zTA_po hu h h5) (fun x x1 _ x3 => hx5 x x1 (by omega))
    · skip
      refine wp_tsIn (tgt := 156) (off := 152) dX9_readOne_4 (by decide) (by decide) (by rfl) (by decide) ?_
      refine WP.sub (loc' := [(0, _), (1, _), (2, _)]) [0, 1, 2] rfl ?_
      exact bad (by unfold zro1; rw [hw]; rfl)
    · skip
      refine wp_tsIn (tgt := 156) (off := 152) dX9_readOne_4 (by decide) (by decide) (by rfl) (by decide) ?_
      refine WP.sub (loc' := [(0, _), (1, _), (2, _)]) [0, 1, 2] rfl ?_
      exact bad (by unfold zro1; rw [hw]; rfl)
    · skip
      refine wp_tsIn (tgt := 156) (off := 152) dX9_readOne_4 (by decide) (by decide) (by rfl) (by decide) ?_
      refine WP.sub (loc' := [(0, _), (1, _), (2, _)]) [0, 1, 2] rfl ?_
      exact bad (by unfold zro1; rw [hw]; rfl)
    · skip
      refine wp_tsIn (tgt := 88) (off := 84) dX9_readOne_4 (by decide) (by decide) (by rfl) (by decide) ?_
      refine wp_aload_n (q := 89) dX9_readOne_88 0 rfl rfl ?_
      refine wp_aload_n (q := 90) dX9_readOne_89 1 rfl rfl ?_
      refine wp_cvy (q := 93) (sp_readBox (d := 34) hu hh h.2.1 hb.1 rfl) zm_X9_readBox zl_RX9_94 dX9_readOne_90 rfl (by omega) (Nat.le_of_ble_eq_true rfl) (by first | assumption | rfl) rfl rfl ?_
      rintro _ M5 _ _ h5
      obtain ⟨rfl, rfl, rfl, -, -, hx5⟩ := id h5
      refine wp_goto (tgt := 160) dX9_readOne_93 (by decide) ?_
      refine WP.sub (loc' := [(0, _), (1, _), (2, _)]) [0, 1, 2] rfl ?_
      exact fin M5 _ (by unfold zro1; rw [hw]; rfl) (zTA_po hu h h5) (fun x x1 _ x3 => hx5 x x1 (by omega))
    · skip
      refine wp_tsIn (tgt := 156) (off := 152) dX9_readOne_4 (by decide) (by decide) (by rfl) (by decide) ?_
      refine WP.sub (loc' := [(0, _), (1, _), (2, _)]) [0, 1, 2] rfl ?_
      exact bad (by unfold zro1; rw [hw]; rfl)
    · skip
      refine wp_tsIn (tgt := 96) (off := 92) dX9_readOne_4 (by decide) (by decide) (by rfl) (by decide) ?_
      refine wp_aload_n (q := 97) dX9_readOne_96 0 rfl rfl ?_
      refine wp_aload_n (q := 98) dX9_readOne_97 1 rfl rfl ?_
      refine wp_cvy (q := 101) (sp_readHats (d := 34) hu hh h.2.1 hb.1 rfl) zm_X9_readHats zl_RX9_97 dX9_readOne_98 rfl (by omega) (Nat.le_of_ble_eq_true rfl) (by first | assumption | rfl) rfl rfl ?_
      rintro _ M5 _ _ h5
      obtain ⟨rfl, rfl, rfl, -, -, hx5⟩ := id h5
      refine wp_goto (tgt := 160) dX9_readOne_101 (by decide) ?_
      refine WP.sub (loc' := [(0, _), (1, _), (2, _)]) [0, 1, 2] rfl ?_
      exact fin M5 _ (by unfold zro1; rw [hw]; rfl) (zTA_po hu h h5) (fun x x1 _ x3 => hx5 x x1 (by omega))
    · skip
      refine wp_tsIn (tgt := 112) (off := 108) dX9_readOne_4 (by decide) (by decide) (by rfl) (by decide) ?_
      refine wp_aload_n (q := 113) dX9_readOne_112 0 rfl rfl ?_
      refine wp_aload_n (q := 114) dX9_readOne_113 1 rfl rfl ?_
      refine wp_aload_n (q := 115) dX9_readOne_114 2 rfl rfl ?_
      refine wp_aload_n (q := 116) dX9_readOne_115 0 rfl rfl ?_
      refine wp_getR (q := 119) dX9_readOne_116 zf_RX9_56 rfl (by first | assumption | rfl) (by first | assumption | rfl) rfl ?_
      refine wp_aload_n (q := 120) dX9_readOne_119 0 rfl rfl ?_
      refine wp_getI (q := 123) dX9_readOne_120 zf_RX9_46 rfl (by first | assumption | rfl) rfl ?_
      rw [zDT_0 h.2.1 (k := 11) (by simp [zDk])]
      refine wp_cvy (q := 126) (sp_readSum (d := 0) hu hE hh hQ hfm h.2.2.1 hb.2.1 rfl) zm_X9_readSum zl_RX9_103 dX9_readOne_123 rfl (by omega) (Nat.le_of_ble_eq_true rfl) (by first | assumption | rfl) rfl rfl ?_
      rintro _ M5 _ _ ⟨rfl, rfl, rfl, h5, g5, hx5⟩
      refine wp_aload_n (q := 127) dX9_readOne_126 0 rfl rfl ?_
      refine wp_iconst (q := 128) dX9_readOne_127 zq_iconst_1 rfl ?_
      refine wp_putZ (q := 131) dX9_readOne_128 zf_RX9_46 rfl (Or.inr rfl) (by first | assumption | rfl) rfl ?_
      refine wp_goto (tgt := 160) dX9_readOne_131 (by decide) ?_
      refine WP.sub (loc' := [(0, _), (1, _), (2, _)]) [0, 1, 2] rfl ?_
      refine fin _ ((zrS T c s.1 (s.2.1 0 11) s.2.2.1).1, zu s.2.1 0 11 1, (zrS T c s.1 (s.2.1 0 11) s.2.2.1).2, s.2.2.2) (by unfold zro1; rw [hw]; rfl) ⟨zTT_u hu h5 (fun x hx => zu_ne (by omega)), zDT_w (zDT_fr hu h.2.1 (fun x x1 x2 => hx5 x (by omega) (by omega) (by omega) (by omega))) 0 11 1, zFT_fr g5 (zu_ne (by omega)) (zu_ne (by omega)), zFT_fr h.2.2.2 ?_ ?_⟩ (fun x x1 x2 x3 => by rw [zu_ne (by omega)]; exact hx5 x x1 x2 (by omega) (by omega))
      · rw [zu_ne (by omega)]; exact hx5 _ (by omega) (by omega) (by omega) (by omega)
      · rw [zu_ne (by omega)]; exact hx5 _ (by omega) (by omega) (by omega) (by omega)
    · skip
      refine wp_tsIn (tgt := 134) (off := 130) dX9_readOne_4 (by decide) (by decide) (by rfl) (by decide) ?_
      refine wp_aload_n (q := 135) dX9_readOne_134 0 rfl rfl ?_
      refine wp_aload_n (q := 136) dX9_readOne_135 1 rfl rfl ?_
      refine wp_aload_n (q := 137) dX9_readOne_136 2 rfl rfl ?_
      refine wp_aload_n (q := 138) dX9_readOne_137 0 rfl rfl ?_
      refine wp_getR (q := 141) dX9_readOne_138 zf_RX9_60 rfl (by first | assumption | rfl) (by first | assumption | rfl) rfl ?_
      refine wp_aload_n (q := 142) dX9_readOne_141 0 rfl rfl ?_
      refine wp_getI (q := 145) dX9_readOne_142 zf_RX9_50 rfl (by first | assumption | rfl) rfl ?_
      rw [zDT_0 h.2.1 (k := 12) (by simp [zDk])]
      refine wp_cvy (q := 148) (sp_readSum (d := 0) hu hE hh hQ hfs h.2.2.2 hb.2.2 rfl) zm_X9_readSum zl_RX9_103 dX9_readOne_145 rfl (by omega) (Nat.le_of_ble_eq_true rfl) (by first | assumption | rfl) rfl rfl ?_
      rintro _ M5 _ _ ⟨rfl, rfl, rfl, h5, g5, hx5⟩
      refine wp_aload_n (q := 149) dX9_readOne_148 0 rfl rfl ?_
      refine wp_iconst (q := 150) dX9_readOne_149 zq_iconst_1 rfl ?_
      refine wp_putZ (q := 153) dX9_readOne_150 zf_RX9_50 rfl (Or.inr rfl) (by first | assumption | rfl) rfl ?_
      refine wp_goto (tgt := 160) dX9_readOne_153 (by decide) ?_
      refine WP.sub (loc' := [(0, _), (1, _), (2, _)]) [0, 1, 2] rfl ?_
      refine fin _ ((zrS T c s.1 (s.2.1 0 12) s.2.2.2).1, zu s.2.1 0 12 1, s.2.2.1, (zrS T c s.1 (s.2.1 0 12) s.2.2.2).2) (by unfold zro1; rw [hw]; rfl) ⟨zTT_u hu h5 (fun x hx => zu_ne (by omega)), zDT_w (zDT_fr hu h.2.1 (fun x x1 x2 => hx5 x (by omega) (by omega) (by omega) (by omega))) 0 12 1, zFT_fr h.2.2.1 ?_ ?_, zFT_fr g5 (zu_ne (by omega)) (zu_ne (by omega))⟩ (fun x x1 x2 x3 => by rw [zu_ne (by omega)]; exact hx5 x x1 x2 (by omega) (by omega))
      · rw [zu_ne (by omega)]; exact hx5 _ (by omega) (by omega) (by omega) (by omega)
      · rw [zu_ne (by omega)]; exact hx5 _ (by omega) (by omega) (by omega) (by omega)
    · skip
      refine wp_tsIn (tgt := 104) (off := 100) dX9_readOne_4 (by decide) (by decide) (by rfl) (by decide) ?_
      refine wp_aload_n (q := 105) dX9_readOne_104 0 rfl rfl ?_
      refine wp_aload_n (q := 106) dX9_readOne_105 1 rfl rfl ?_
      refine wp_cvy (q := 109) (sp_readBang (d := 34) hu hh h.2.1 rfl) zm_X9_readBang zl_RX9_100 dX9_readOne_106 rfl (by omega) (Nat.le_of_ble_eq_true rfl) (by first | assumption | rfl) rfl rfl ?_
      rintro _ M5 _ _ h5
      obtain ⟨rfl, rfl, rfl, -, -, hx5⟩ := id h5
      refine wp_goto (tgt := 160) dX9_readOne_109 (by decide) ?_
      refine WP.sub (loc' := [(0, _), (1, _), (2, _)]) [0, 1, 2] rfl ?_
      exact fin M5 _ (by unfold zro1; rw [hw]; rfl) (zTA_po hu h h5) (fun x x1 _ x3 => hx5 x x1 (by omega))

