def zTn (M : zMI) (u : Nat) (n bx : Nat) (nm bn : Nat → Nat) : Prop := M u 1 = nI n ∧ n ≤ 8 ∧ (∀ i, i < n → M (u + 1) i = nI (nm i) ∧ nm i < 2147483648) ∧ M u 7 = nI bx ∧ bx ≤ 4 ∧ ∀ i, i < bx → M (u + 6) i = nI (bn i) ∧ bn i < 2147483648
def ztp (T : Nat → Nat → Nat) (c : Nat) (p : zP) (n : Nat) (nm : Nat → Nat) : zP × Nat := if (zpNa T c p).1.2.2.1 = 0 then (if zfi nm (zpNa T c p).2 n 0 < 30 then ((zpNa T c p).1, zfi nm (zpNa T c p).2 n 0) else (zpf c (zpNa T c p).1 3 (nI (T p.1 1)), 99)) else ((zpNa T c p).1, 99)
theorem zfi_v (nm : Nat → Nat) (x : Nat) : ∀ k i, i + k ≤ 30 → zfi nm x k i < 30 ∨ zfi nm x k i = 99 := by
  intro k
  induction k with
  | zero => intro i _; exact Or.inr rfl
  | succ k ih =>
    intro i h
    rw [zfi]
    split
    · exact Or.inl (by omega)
    · exact ih (i + 1) (by omega)
theorem zpNa_lt {M : zMI} {T : Nat → Nat → Nat} {c : Nat} {p : zP} (h : zTT M T c p) : (zpNa T c p).2 < 2147483648 := by
  have := (h.2.2.2.2.2.2.2.2.2 _ h.2.2.1).2.2.2.2.2.1
  unfold zpNa
  split
  · split
    · exact this
    · exact Nat.zero_lt_succ _
  · exact Nat.zero_lt_succ _
theorem zTn_fr {M M' : zMI} {u n bx : Nat} {nm bn : Nat → Nat} (hu : zTab u) (h : zTn M u n bx nm bn) (hx : ∀ x, x ≠ 2 → M' x = M x) : zTn M' u n bx nm bn := by
  have hu2 : u = 10 ∨ u = 24 := hu
  unfold zTn at *
  rw [hx u (by omega), hx (u + 1) (by omega), hx (u + 6) (by omega)]
  exact h

