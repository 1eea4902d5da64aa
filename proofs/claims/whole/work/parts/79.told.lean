def zDi (D : zDD) : Prop := (∀ i, i < 2 * D 0 1 → D 2 i ≤ 99 ∧ D 3 i ≤ 2 ∧ D 4 i ≤ 9) ∧ (∀ i, i < D 0 1 → D 5 i ≤ 9) ∧ (∀ i, i < D 0 7 → D 7 i ≤ 100) ∧ D 0 10 ≤ 100
theorem zDi_P {T : zDD} {c : Nat} {p : zP} {D : zDD} (h : zDi D) : zDi (zrP T c p D).2 := by
  unfold zrP
  split
  · unfold zrP1 zrP2 zrP3
    show zDi (zrPD D _ _ _)
    have ha := zpNu_le T c (zpWo T c (ztn T c (zpn c p) (D 0 1) (D 1) (D 0 7) (D 6)).1 1 1).1 99
    have hb := zpNu_le T c (zpWo T c (zpNu T c (zpWo T c (ztn T c (zpn c p) (D 0 1) (D 1) (D 0 7) (D 6)).1 1 1).1 99).1 2 2).1 99
    revert ha hb
    generalize (zpNu T c _ 99).2 = a
    generalize (zpNu T c _ 99).2 = b
    intro ha hb
    generalize (ztn T c _ _ _ _ _).2 = nm
    obtain ⟨h1, h2, h3, h4⟩ := h
    have e1 : zrPD D nm a b 0 1 = D 0 1 + 1 := by simp [zrPD, zu_at]
    have e7 : zrPD D nm a b 0 7 = D 0 7 := by simp [zrPD, zu_at]
    have e10 : zrPD D nm a b 0 10 = D 0 10 := by simp [zrPD, zu_at]
    have f2 : ∀ i, zrPD D nm a b 2 i = if i = 2 * D 0 1 + 1 then b else if i = 2 * D 0 1 then a else D 2 i := fun i => by simp [zrPD, zu_at]
    have f3 : ∀ i, zrPD D nm a b 3 i = if i = 2 * D 0 1 + 1 then 0 else if i = 2 * D 0 1 then 0 else D 3 i := fun i => by simp [zrPD, zu_at]
    have f4 : ∀ i, zrPD D nm a b 4 i = if i = 2 * D 0 1 + 1 then 5 else if i = 2 * D 0 1 then 5 else D 4 i := fun i => by simp [zrPD, zu_at]
    have f5 : ∀ i, zrPD D nm a b 5 i = if i = D 0 1 then 0 else D 5 i := fun i => by simp [zrPD, zu_at]
    have f7 : ∀ i, zrPD D nm a b 7 i = D 7 i := fun i => by simp [zrPD, zu_at]
    refine ⟨fun i hi => ?_, fun i hi => ?_, fun i hi => by rw [f7]; exact h3 i (by omega), by omega⟩
    · rw [f2, f3, f4]
      by_cases c1 : i = 2 * D 0 1 + 1
      · rw [if_pos c1, if_pos c1, if_pos c1]; omega
      · rw [if_neg c1, if_neg c1, if_neg c1]
        by_cases c2 : i = 2 * D 0 1
        · rw [if_pos c2, if_pos c2, if_pos c2]; omega
        · rw [if_neg c2, if_neg c2, if_neg c2]
          exact h1 i (by omega)
    · rw [f5]
      split
      · omega
      · exact h2 i (by omega)
  · exact h
theorem zDi_B {T : zDD} {c : Nat} {p : zP} {D : zDD} (h : zDi D) : zDi (zrB T c p D).2 := by
  unfold zrB
  split
  · unfold zrB1 zrB3
    show zDi (zu (zu (zu D 6 (D 0 7) _) 7 (D 0 7) _) 0 7 (D 0 7 + 1))
    have ha := zpNu_le T c (zpWo T c (ztn T c (zpn c p) (D 0 1) (D 1) (D 0 7) (D 6)).1 8 8).1 100
    revert ha
    generalize (zpNu T c _ 100).2 = a
    intro ha
    generalize (ztn T c _ _ _ _ _).2 = nm
    obtain ⟨h1, h2, h3, h4⟩ := h
    have e1 : zu (zu (zu D 6 (D 0 7) nm) 7 (D 0 7) a) 0 7 (D 0 7 + 1) 0 1 = D 0 1 := by simp [zu_at]
    have e7 : zu (zu (zu D 6 (D 0 7) nm) 7 (D 0 7) a) 0 7 (D 0 7 + 1) 0 7 = D 0 7 + 1 := by simp [zu_at]
    have e10 : zu (zu (zu D 6 (D 0 7) nm) 7 (D 0 7) a) 0 7 (D 0 7 + 1) 0 10 = D 0 10 := by simp [zu_at]
    have f : ∀ o i, 2 ≤ o → o ≤ 5 → zu (zu (zu D 6 (D 0 7) nm) 7 (D 0 7) a) 0 7 (D 0 7 + 1) o i = D o i := fun o i o1 o2 => by rw [zu_ne (by omega), zu_ne (by omega), zu_ne (by omega)]
    have f7 : ∀ i, zu (zu (zu D 6 (D 0 7) nm) 7 (D 0 7) a) 0 7 (D 0 7 + 1) 7 i = if i = D 0 7 then a else D 7 i := fun i => by simp [zu_at]
    refine ⟨fun i hi => ?_, fun i hi => ?_, fun i hi => ?_, by omega⟩
    · rw [f 2 i (by decide) (by decide), f 3 i (by decide) (by decide), f 4 i (by decide) (by decide)]
      exact h1 i (by omega)
    · rw [f 5 i (by decide) (by decide)]
      exact h2 i (by omega)
    · rw [f7]
      split
      · exact ha
      · exact h3 i (by omega)
  · exact h
theorem zDi_w {D : zDD} {o k x : Nat} (h : zDi D) (h0 : o = 0 → k ≠ 1 ∧ k ≠ 7 ∧ (k = 10 → x ≤ 100)) (h2 : o = 2 → x ≤ 99) (h3 : o = 3 → x ≤ 2) (h4 : o = 4 → x ≤ 9) (h5 : o = 5 → x ≤ 9) (h7 : o = 7 → x ≤ 100) : zDi (zu D o k x) := by
  obtain ⟨a1, a2, a3, a4⟩ := h
  have e1 : zu D o k x 0 1 = D 0 1 := by rw [zu_at, if_neg (fun e => (h0 e.1.symm).1 e.2.symm)]
  have e7 : zu D o k x 0 7 = D 0 7 := by rw [zu_at, if_neg (fun e => (h0 e.1.symm).2.1 e.2.symm)]
  have key : ∀ o' i b, (o = o' → x ≤ b) → D o' i ≤ b → zu D o k x o' i ≤ b := by
    intro o' i b hb hd
    rw [zu_at]
    split
    · rename_i e
      exact hb e.1.symm
    · exact hd
  refine ⟨fun i hi => ?_, fun i hi => ?_, fun i hi => ?_, ?_⟩
  · rw [e1] at hi
    obtain ⟨b1, b2, b3⟩ := a1 i hi
    exact ⟨key 2 i 99 h2 b1, key 3 i 2 h3 b2, key 4 i 9 h4 b3⟩
  · rw [e1] at hi
    exact key 5 i 9 h5 (a2 i hi)
  · rw [e7] at hi
    exact key 7 i 100 h7 (a3 i hi)
  · rw [zu_at]
    split
    · rename_i e
      exact (h0 e.1.symm).2.2 e.2.symm
    · exact a4
theorem zDi_H {T : zDD} {c : Nat} {p : zP} {D : zDD} (h : zDi D) : zDi (zrH T c p D).2 := by
  unfold zrH zrH1 zrH2 zrH3 zrH4
  have hd := zpWo_d (T := T) (c := c) (f := 4) (l := 6) (p := (zpWo T c (ztp T c (zpn c p) (D 0 1) (D 1)).1 1 2).1)
  have hn := zpNu_le T c (zpWo T c (zpWo T c (ztp T c (zpn c p) (D 0 1) (D 1)).1 1 2).1 4 6).1 9
  show zDi (if _ then _ else D)
  split
  · exact zDi_w (zDi_w h (by omega) (by omega) (by omega) (by omega) (by omega) (by omega)) (by omega) (by omega) (by omega) (by omega) (by omega) (by omega)
  · exact h
theorem zDi_T {T : zDD} {c : Nat} {p : zP} {D : zDD} (h : zDi D) : zDi (zrT T c p D).2 := by
  unfold zrT zrT1 zrT2
  have hn := zpNu_le T c (ztp T c (zpn c p) (D 0 1) (D 1)).1 9
  show zDi (if _ then _ else D)
  split
  · exact zDi_w h (by omega) (by omega) (by omega) (by omega) (by omega) (by omega)
  · exact h
theorem zDi_G {T : zDD} {c : Nat} {p : zP} {D : zDD} (h : zDi D) : zDi (zrG T c p D).2 := by
  have hn := zpNu_le T c (zpn c p) 100
  exact zDi_w h (fun _ => ⟨by decide, by decide, fun _ => hn⟩) (by omega) (by omega) (by omega) (by omega) (by omega)
-- the flags of the sums stay but by their own statements
theorem zfl_P {T : zDD} {c k : Nat} {p : zP} {D : zDD} (hk : k = 11 ∨ k = 12) : (zrP T c p D).2 0 k = D 0 k := by
  unfold zrP
  split
  · show zrPD D _ _ _ 0 k = D 0 k
    rcases hk with rfl | rfl <;> simp [zrPD, zu_at]
  · rfl
theorem zfl_B {T : zDD} {c k : Nat} {p : zP} {D : zDD} (hk : k = 11 ∨ k = 12) : (zrB T c p D).2 0 k = D 0 k := by
  unfold zrB
  split
  · show zu (zu (zu D 6 (D 0 7) _) 7 (D 0 7) _) 0 7 (D 0 7 + 1) 0 k = D 0 k
    rcases hk with rfl | rfl <;> simp [zu_at]
  · rfl
theorem zfl_H {T : zDD} {c k : Nat} {p : zP} {D : zDD} : (zrH T c p D).2 0 k = D 0 k := by
  unfold zrH zrH1 zrH2 zrH3 zrH4
  show (if _ then _ else D) 0 k = D 0 k
  split
  · rw [zu_ne (by decide), zu_ne (by decide)]
  · rfl
theorem zfl_T {T : zDD} {c k : Nat} {p : zP} {D : zDD} : (zrT T c p D).2 0 k = D 0 k := by
  unfold zrT zrT1 zrT2
  show (if _ then _ else D) 0 k = D 0 k
  split
  · rw [zu_ne (by decide)]
  · rfl
theorem zfl_G {T : zDD} {c k : Nat} {p : zP} {D : zDD} (hk : k = 11 ∨ k = 12) : (zrG T c p D).2 0 k = D 0 k := by
  show zu D 0 10 (zpNu T c (zpn c p) 100).2 0 k = D 0 k
  rw [zu_k (by omega)]
def zFok (F : zFl) : Prop := ztr F [] = some [false] ∧ F.length ≤ 1600
def zSI (s : zTS) : Prop := zDi s.2.1 ∧ (s.1.2.2.1 = 0 → (s.2.1 0 11 = 1 → zFok s.2.2.1) ∧ (s.2.1 0 12 = 1 → zFok s.2.2.2))
theorem zFok_S {T : zDD} {c a : Nat} {p : zP} {F : zFl} (hE : zTE T c) (hc : c ≤ 1601) (hQ : zok T c 8 p) (h : (zrS T c p a F).1.2.2.1 = 0) : zFok (zrS T c p a F).2 := by
  unfold zrS at h ⊢
  by_cases ha : a = 0
  · rw [if_pos ha] at h ⊢
    obtain ⟨d1, d2, ops, ops', d3, d4, d5, d6⟩ := zg_sum hE (zpn c p) [] (zok_n hE hQ) h
    rw [d3, List.nil_append, d4.2 rfl]
    have := d5 [] [] (by decide)
    rw [List.append_nil] at this
    rw [d4.2 rfl] at d6
    exact ⟨this, by omega⟩
  · rw [if_neg ha] at h
    exact absurd h (zpf_b (by decide))
theorem zSI_ro1 {T : zDD} {c : Nat} (hE : zTE T c) (hc : c ≤ 1601) (s : zTS) (hQ : zok T c 8 s.1) (h : zSI s) : zSI (zro1 T c s) := by
  obtain ⟨h1, h2⟩ := h
  have hz : (zro1 T c s).1.2.2.1 = 0 → s.1.2.2.1 = 0 := zfq_0 (zfq_ro1 s)
  unfold zro1 at hz ⊢
  split
  · rename_i e
    rw [if_pos e] at hz
    exact ⟨zDi_P h1, fun e => by
      show ((zrP T c s.1 s.2.1).2 0 11 = 1 → _) ∧ ((zrP T c s.1 s.2.1).2 0 12 = 1 → _)
      rw [zfl_P (Or.inl rfl), zfl_P (Or.inr rfl)]; exact h2 (hz e)⟩
  rename_i e0
  rw [if_neg e0] at hz
  split
  · rename_i e
    rw [if_pos e] at hz
    exact ⟨zDi_H h1, fun e => by
      show ((zrH T c s.1 s.2.1).2 0 11 = 1 → _) ∧ ((zrH T c s.1 s.2.1).2 0 12 = 1 → _)
      rw [zfl_H, zfl_H]; exact h2 (hz e)⟩
  rename_i e0
  rw [if_neg e0] at hz
  split
  · rename_i e
    rw [if_pos e] at hz
    exact ⟨zDi_B h1, fun e => by
      show ((zrB T c s.1 s.2.1).2 0 11 = 1 → _) ∧ ((zrB T c s.1 s.2.1).2 0 12 = 1 → _)
      rw [zfl_B (Or.inl rfl), zfl_B (Or.inr rfl)]; exact h2 (hz e)⟩
  rename_i e0
  rw [if_neg e0] at hz
  split
  · rename_i e
    rw [if_pos e] at hz
    exact ⟨zDi_T h1, fun e => by
      show ((zrT T c s.1 s.2.1).2 0 11 = 1 → _) ∧ ((zrT T c s.1 s.2.1).2 0 12 = 1 → _)
      rw [zfl_T, zfl_T]; exact h2 (hz e)⟩
  rename_i e0
  rw [if_neg e0] at hz
  split
  · rename_i e
    rw [if_pos e] at hz
    exact ⟨zDi_w h1 (fun _ => ⟨by decide, by decide, fun c => absurd c (by decide)⟩) (by omega) (by omega) (by omega) (by omega) (by omega), fun e => ⟨fun _ => zFok_S hE hc hQ e, fun e5 => (h2 (hz e)).2 (by rw [← e5]; exact (zu_k (f := s.2.1) (o := 0) (k := 11) (k' := 12) (x := 1) (by decide)).symm)⟩⟩
  rename_i e0
  rw [if_neg e0] at hz
  split
  · rename_i e
    rw [if_pos e] at hz
    exact ⟨zDi_w h1 (fun _ => ⟨by decide, by decide, fun c => absurd c (by decide)⟩) (by omega) (by omega) (by omega) (by omega) (by omega), fun e => ⟨fun e5 => (h2 (hz e)).1 (by rw [← e5]; exact (zu_k (f := s.2.1) (o := 0) (k := 12) (k' := 11) (x := 1) (by decide)).symm), fun _ => zFok_S hE hc hQ e⟩⟩
  rename_i e0
  rw [if_neg e0] at hz
  split
  · rename_i e
    rw [if_pos e] at hz
    exact ⟨zDi_G h1, fun e => by
      show ((zrG T c s.1 s.2.1).2 0 11 = 1 → _) ∧ ((zrG T c s.1 s.2.1).2 0 12 = 1 → _)
      rw [zfl_G (Or.inl rfl), zfl_G (Or.inr rfl)]; exact h2 (hz e)⟩
  · exact ⟨h1, fun e => absurd e (zpf_b (by decide))⟩
theorem zSI_ro {T : zDD} {c : Nat} (hE : zTE T c) (hc : c ≤ 1601) (s : zTS) (hQ : zok T c 8 s.1) (h : zSI s) : zSI (zro T c s) := by
  obtain ⟨h1, h2⟩ := zSI_ro1 hE hc s hQ h
  refine ⟨zDi_w h1 (fun _ => ⟨by decide, by decide, fun c => absurd c (by decide)⟩) (by omega) (by omega) (by omega) (by omega) (by omega), fun e => ?_⟩
  have := h2 (zfq_0 (p := (zro1 T c s).1) zfq_NS e)
  exact ⟨fun e5 => this.1 (by rw [← e5]; exact (zu_k (f := (zro1 T c s).2.1) (o := 0) (k := 0) (k' := 11) (x := (zro1 T c s).2.1 0 0 + 1) (by decide)).symm), fun e5 => this.2 (by rw [← e5]; exact (zu_k (f := (zro1 T c s).2.1) (o := 0) (k := 0) (k' := 12) (x := (zro1 T c s).2.1 0 0 + 1) (by decide)).symm)⟩
theorem zSI_rl {T : zDD} {c : Nat} (hE : zTE T c) (hc : c ≤ 1601) : ∀ k s, zok T c 8 s.1 → zSI s → zSI (zrl T c k s) := by
  intro k
  induction k with
  | zero =>
    intro s hQ h
    rw [zrl]
    split
    · exact h
    · exact ⟨h.1, fun e => absurd e (zpf_b (by decide))⟩
  | succ k ih =>
    intro s hQ h
    rw [zrl]
    split
    · exact h
    · exact ih _ (zkp_ok (zkp_ro hE s hQ.2.1) hQ) (zSI_ro hE hc s hQ h)
theorem zSI_0 {p : zP} {D : zDD} {Fm Fs : zFl} : zSI (p, zDz D, Fm, Fs) := ⟨⟨fun i hi => by simp [zDz, zu_at] at hi, fun i hi => by simp [zDz, zu_at] at hi, fun i hi => by simp [zDz, zu_at] at hi, by simp [zDz, zu_at]⟩, fun _ => ⟨fun e => by simp [zDz, zu_at] at e, fun e => by simp [zDz, zu_at] at e⟩⟩
-- the table that was told
def zTg (D : zDD) (Fm Fs : zFl) : zGd := (D 1, D 0 7, D 6, D 7, D 0 10, (fun p h => D 2 (2 * p + h)), (if D 0 11 = 1 then some Fm else none), (if D 0 12 = 1 then some Fs else none))
def zv0 (D : zDD) : Nat → Nat := fun j => if j < 3 then 0 else if (j - 3) % 6 = 0 then (j - 3) / 6 else if (j - 3) % 6 = 1 then D 5 ((j - 3) / 6) else if (j - 3) % 6 = 2 then D 3 (2 * ((j - 3) / 6)) else if (j - 3) % 6 = 3 then D 4 (2 * ((j - 3) / 6)) else if (j - 3) % 6 = 4 then D 3 (2 * ((j - 3) / 6) + 1) else D 4 (2 * ((j - 3) / 6) + 1)
theorem zv0_w {D : zDD} (s : Nat) : wh (zv0 D) s = s := by
  show zv0 D (3 + 6 * s) = s
  unfold zv0
  rw [if_neg (by omega), if_pos (by omega)]
  omega
theorem zv0_h {D : zDD} (s : Nat) : ht (zv0 D) s = D 5 s := by
  show zv0 D (4 + 6 * s) = D 5 s
  unfold zv0
  rw [if_neg (by omega), if_neg (by omega), if_pos (by omega), show (4 + 6 * s - 3) / 6 = s by omega]
theorem zv0_g {D : zDD} (s : Nat) {h : Nat} (hh : h < 2) : gr (zv0 D) s h = D 3 (2 * s + h) := by
  show zv0 D (5 + 6 * s + 2 * h) = D 3 (2 * s + h)
  have : h = 0 ∨ h = 1 := by omega
  unfold zv0
  rcases this with rfl | rfl
  · rw [if_neg (by omega), if_neg (by omega), if_neg (by omega), if_pos (by omega), show (5 + 6 * s + 2 * 0 - 3) / 6 = s by omega]; rfl
  · rw [if_neg (by omega), if_neg (by omega), if_neg (by omega), if_neg (by omega), if_neg (by omega), if_pos (by omega), show (5 + 6 * s + 2 * 1 - 3) / 6 = s by omega]
theorem zv0_l {D : zDD} (s : Nat) {h : Nat} (hh : h < 2) : lw (zv0 D) s h = D 4 (2 * s + h) := by
  show zv0 D (6 + 6 * s + 2 * h) = D 4 (2 * s + h)
  have : h = 0 ∨ h = 1 := by omega
  unfold zv0
  rcases this with rfl | rfl
  · rw [if_neg (by omega), if_neg (by omega), if_neg (by omega), if_neg (by omega), if_pos (by omega), show (6 + 6 * s + 2 * 0 - 3) / 6 = s by omega]; rfl
  · rw [if_neg (by omega), if_neg (by omega), if_neg (by omega), if_neg (by omega), if_neg (by omega), if_neg (by omega), show (6 + 6 * s + 2 * 1 - 3) / 6 = s by omega]
theorem zV_0 {D : zDD} (h8 : D 0 1 ≤ 8) (h : zDi D) : zV (D 0 1) (zv0 D) := by
  refine ⟨h8, fun s hs => by rw [zv0_w]; exact hs, fun s s' _ _ e => by rw [zv0_w, zv0_w] at e; exact e, fun s hs => by rw [zv0_h]; have := h.2.1 s hs; omega, fun s hd hs hh => ?_, Nat.zero_le _, Nat.zero_le _, Nat.zero_le _⟩
  rw [zv0_g s hh, zv0_l s hh]
  have := h.1 (2 * s + hd) (by omega)
  exact ⟨this.2.1, this.2.2⟩

