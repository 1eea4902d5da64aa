-- the reference beside the class' place in the tokens
def zRp (M : zMI) (b : Nat → Nat) (len : Nat) (T : zDD) (c : Nat) (p : zP) : Prop := p.1 < c ∧ (p.2.2.1 = 0 → zAt M b len T c p.1 ∧ M 177 6 = p.2.2.2) ∧ (p.2.2.1 ≠ 0 → p.2.2.1 ≤ 5 ∧ M 177 5 = nI p.2.2.1 ∧ M 177 6 = p.2.2.2)
def zNs (M : zMI) (L : zML) (n : Nat) (nm : Nat → Nat) (bx : Nat) (bn : Nat → Nat) : Prop := M 204 0 = nI n ∧ n ≤ 8 ∧ M 204 1 = nI bx ∧ bx ≤ 4 ∧ (∀ i, i < n → ∃ y, L 205 i = lN y ∧ zNm (nm i) y) ∧ ∀ i, i < bx → ∃ y, L 205 (8 + i) = lN y ∧ zNm (bn i) y
theorem zNs_c {L : zML} {o n : Nat} {nm : Nat → Nat} (h : ∀ i, i < n → ∃ y, L 205 (o + i) = lN y ∧ zNm (nm i) y) : ∃ ny : Nat → Nat, ∀ i, i < n → L 205 (o + i) = lN (ny i) ∧ zNm (nm i) (ny i) := by
  have h2 : ∀ i, ∃ y, i < n → L 205 (o + i) = lN y ∧ zNm (nm i) y := fun i => by
    by_cases c : i < n
    · obtain ⟨y, hy⟩ := h i c
      exact ⟨y, fun _ => hy⟩
    · exact ⟨0, fun e => absurd e c⟩
  exact ⟨fun i => Classical.choose (h2 i), fun i hi => Classical.choose_spec (h2 i) hi⟩
theorem zNs_fr {M M' : zMI} {L L' : zML} {n bx : Nat} {nm bn : Nat → Nat} (h : zNs M L n nm bx bn) (e1 : M' 204 = M 204) (e2 : L' 205 = L 205) : zNs M' L' n nm bx bn := by
  unfold zNs at *
  rw [e1, e2]
  exact h
-- the name of class and reference: what zpNa says
theorem zNaP_c {M0 M : zMI} {b : Nat → Nat} {len c i : Nat} {o6 y6 : Int32} {T : zDD} (h : zNaP M0 M b len T c i) (hT : zTok b len T c) (hi : i < c) (h6 : M0 177 6 = y6) : zRp M b len T c (zpNa T c (i, o6, 0, y6)).1 ∧ ((zpNa T c (i, o6, 0, y6)).1.2.2.1 = 0 → zNm (zpNa T c (i, o6, 0, y6)).2 (znm T b i) ∧ M 177 34 = nI (T i 1)) := by
  obtain ⟨hp, h1, h2, h3⟩ := h
  have hc1 : 1 ≤ c := by omega
  unfold zpNa
  by_cases c1 : T i 0 = 1 ∧ ¬ T i 4 < 24
  · rw [if_pos (show T (i, o6, (0 : Nat), y6).1 0 = 1 ∧ ¬ T (i, o6, (0 : Nat), y6).1 4 < 24 from c1)]
    have hic : i + 1 < c := by
      refine Classical.byContradiction fun hh => ?_
      have := hT.2.2.2.1
      rw [show c - 1 = i by omega, c1.1] at this
      omega
    by_cases c2 : T i 3 ≤ 6
    · rw [if_pos (show T (i, o6, (0 : Nat), y6).1 3 ≤ 6 from c2)]
      obtain ⟨g1, g2, g3, g4⟩ := h1 c1.1 c1.2 c2
      have e : (zpn c (i, o6, 0, y6)).1 = i + 1 := by
        show (if i < c - 1 then i + 1 else i) = i + 1
        rw [if_pos (by omega)]
      refine ⟨⟨by show (zpn c (i, o6, 0, y6)).1 < c; rw [e]; exact hic, fun _ => ⟨by show zAt M b len T c (zpn c (i, o6, 0, y6)).1; rw [e]; exact g1, by rw [g2]; exact h6⟩, fun hh => absurd rfl hh⟩, fun _ => ⟨?_, g3⟩⟩
      show zNm (T i 2) (znm T b i)
      unfold znm
      rw [if_pos ⟨c1.1, c1.2, c2⟩]
      exact g4
    · rw [if_neg (show ¬ T (i, o6, (0 : Nat), y6).1 3 ≤ 6 from c2)]
      obtain ⟨g1, g2⟩ := h2 c1.1 c1.2 c2
      exact ⟨⟨by show c - 1 < c; omega, fun hh => absurd hh (show ¬ (1 : Nat) = 0 from by decide), fun _ => ⟨(by decide : 1 ≤ 5), g1, g2⟩⟩, fun hh => absurd hh (show ¬ (1 : Nat) = 0 from by decide)⟩
  · rw [if_neg (show ¬ (T (i, o6, (0 : Nat), y6).1 0 = 1 ∧ ¬ T (i, o6, (0 : Nat), y6).1 4 < 24) from c1)]
    obtain ⟨g1, g2⟩ := h3 c1
    exact ⟨⟨by show c - 1 < c; omega, fun hh => absurd hh (show ¬ (1 : Nat) = 0 from by decide), fun _ => ⟨(by decide : 1 ≤ 5), g1, g2⟩⟩, fun hh => absurd hh (show ¬ (1 : Nat) = 0 from by decide)⟩

