theorem zge_l {c : Nat} {p : zP} : zge c p (zpl p) := fun e => ⟨Nat.le_refl _, e⟩
theorem zge_e {T : zDD} {c : Nat} {p : zP} : zge c p (zpe T c p) := by
  unfold zpe
  split
  · exact fun e => (zge_n (p := (p.1, p.2.1 + nI 1, p.2.2.1, p.2.2.2)) : zge c _ _) e
  · exact zge_f
theorem zge_lp {T : zDD} {c s1 s2 o1 o2 : Nat} {pt : zP → zFl → zPF} (hpt : ∀ p F, zge c p (pt p F).1) : ∀ n p F, zge c p (zlp T c s1 s2 o1 o2 pt n p F).1 := by
  intro n
  induction n with
  | zero => intro p F; exact zge_r
  | succ n ih =>
    intro p F
    rw [zlp]
    split
    · exact zge_t (zge_t zge_n (hpt _ _)) (ih _ _)
    · exact zge_r
theorem zge_su {T : zDD} {c : Nat} {pt : zP → zFl → zPF} (hpt : ∀ p F, zge c p (pt p F).1) (p : zP) (F : zFl) : zge c p (zsu T c pt p F).1 := by
  have hpd : ∀ p F, zge c p (zpd T c pt p F).1 := fun p F => zge_t (hpt p F) (zge_lp hpt _ _ _)
  exact zge_t (hpd p F) (zge_lp hpd _ _ _)
theorem zge_pt {T : zDD} {c : Nat} {b : Bool} : ∀ k p F, zge c p (zpt T c b k p F).1 := by
  intro k
  induction k with
  | zero => intro p F; exact zge_r
  | succ k ih =>
    intro p F
    rw [zpt]
    generalize (if b = true then zfP (T p.1 4) else zfH (T p.1 4)) = z
    generalize (if T p.1 4 = 22 then 8 else 9) = op
    split
    · exact zge_Nu
    split
    · exact zge_n
    split
    · exact zge_t zge_e (zge_t (zge_su ih _ _) (zge_t zge_NS zge_l))
    split
    · unfold zo2
      split
      · exact zge_t zge_n (zge_t zge_e (zge_t (zge_su ih _ _) (zge_t zge_NS (zge_t (zge_su ih _ _) (zge_t zge_NS zge_l)))))
      · exact zge_t zge_n zge_f
    split
    · exact zge_t zge_e (zge_t (ih _ _) zge_l)
    · exact zge_f
theorem zge_sum {T : zDD} {c : Nat} {b : Bool} (p : zP) (F : zFl) : zge c p (zsum T c b p F).1 := zge_su (zge_pt 8) p F
-- without a fault as many are open as before
def zbl (p q : zP) : Prop := q.2.2.1 = 0 → p.2.2.1 = 0 ∧ q.2.1 = p.2.1
theorem zbl_r {p : zP} : zbl p p := fun e => ⟨e, rfl⟩
theorem zbl_t {p q r : zP} (h : zbl p q) (h' : zbl q r) : zbl p r := fun e => by
  obtain ⟨a, b⟩ := h' e
  obtain ⟨a', b'⟩ := h a
  exact ⟨a', b.trans b'⟩
theorem zbl_n {c : Nat} {p : zP} : zbl p (zpn c p) := fun e => ⟨e, rfl⟩
theorem zbl_f {c k : Nat} {p : zP} {y : Int32} (hk : k ≠ 0) : zbl p (zpf c p k y) := fun e => absurd e (zpf_b hk)
theorem zbl_NS {T : zDD} {c s : Nat} {p : zP} : zbl p (zpNS T c p s) := by
  unfold zpNS
  split
  · exact zbl_n
  · exact zbl_f (by decide)
theorem zbl_Nu {T : zDD} {c m : Nat} {p : zP} : zbl p (zpNu T c p m).1 := by
  unfold zpNu
  split
  · split
    · split
      · exact zbl_n
      · exact zbl_f (by decide)
    · exact zbl_f (by decide)
  · exact zbl_f (by decide)
theorem zbl_el {T : zDD} {c : Nat} {p q : zP} (h : zbl (zpe T c p) q) : zbl p (zpl q) := fun e => by
  have e' : q.2.2.1 = 0 := e
  obtain ⟨a, b⟩ := h e'
  unfold zpe at a b
  split at a
  · rename_i hh
    rw [if_pos hh] at b
    refine ⟨a, ?_⟩
    show q.2.1 - nI 1 = p.2.1
    rw [b]
    show p.2.1 + nI 1 - nI 1 = p.2.1
    exact Int32.add_sub_cancel _ _
  · exact absurd a (zpf_b (by decide))
theorem zbl_lp {T : zDD} {c s1 s2 o1 o2 : Nat} {pt : zP → zFl → zPF} (hpt : ∀ p F, zbl p (pt p F).1) : ∀ n p F, zbl p (zlp T c s1 s2 o1 o2 pt n p F).1 := by
  intro n
  induction n with
  | zero => intro p F; exact zbl_r
  | succ n ih =>
    intro p F
    rw [zlp]
    split
    · exact zbl_t (zbl_t zbl_n (hpt _ _)) (ih _ _)
    · exact zbl_r
theorem zbl_su {T : zDD} {c : Nat} {pt : zP → zFl → zPF} (hpt : ∀ p F, zbl p (pt p F).1) (p : zP) (F : zFl) : zbl p (zsu T c pt p F).1 := by
  have hpd : ∀ p F, zbl p (zpd T c pt p F).1 := fun p F => zbl_t (hpt p F) (zbl_lp hpt _ _ _)
  exact zbl_t (hpd p F) (zbl_lp hpd _ _ _)
theorem zbl_pt {T : zDD} {c : Nat} {b : Bool} : ∀ k p F, zbl p (zpt T c b k p F).1 := by
  intro k
  induction k with
  | zero => intro p F; exact zbl_r
  | succ k ih =>
    intro p F
    rw [zpt]
    generalize (if b = true then zfP (T p.1 4) else zfH (T p.1 4)) = z
    generalize (if T p.1 4 = 22 then 8 else 9) = op
    split
    · exact zbl_Nu
    split
    · exact zbl_n
    split
    · exact zbl_el (zbl_t (zbl_su ih _ _) zbl_NS)
    split
    · unfold zo2
      split
      · exact zbl_t (zbl_n (c := c)) (zbl_el (zbl_t (zbl_su ih _ _) (zbl_t zbl_NS (zbl_t (zbl_su ih _ _) zbl_NS))))
      · exact zbl_t (zbl_n (c := c)) (zbl_f (by decide))
    split
    · exact zbl_el (ih _ _)
    · exact zbl_f (by decide)
theorem zbl_sum {T : zDD} {c : Nat} {b : Bool} (p : zP) (F : zFl) : zbl p (zsum T c b p F).1 := zbl_su (zbl_pt 8) p F

