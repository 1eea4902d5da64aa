def zeN (l : List Nat) : Nat := l.foldl (fun v x => 10 * v + (x - 48)) 0
def zby (b : Nat → Nat) (s n : Nat) : List Nat := (List.range n).map (fun k => b (s + k))
theorem zby_len {b : Nat → Nat} {s n : Nat} : (zby b s n).length = n := by simp [zby]
theorem zby_succ {b : Nat → Nat} {s n : Nat} : zby b s (n + 1) = zby b s n ++ [b (s + n)] := by simp [zby, List.range_succ]
theorem zeL_app : ∀ (l : List Nat) (x : Nat), zeL (l ++ [x]) = zeL l + (x - 96) * 27 ^ l.length := by
  intro l
  induction l with
  | nil => intro x; simp [zeL]
  | cons a l ih =>
    intro x
    rw [List.cons_append, zeL, zeL, ih, List.length_cons, Nat.pow_succ, Nat.mul_add]
    have : (x - 96) * (27 ^ l.length * 27) = 27 * ((x - 96) * 27 ^ l.length) := by
      rw [← Nat.mul_assoc, Nat.mul_comm]
    omega
theorem zeN_app (l : List Nat) (x : Nat) : zeN (l ++ [x]) = 10 * zeN l + (x - 48) := by simp [zeN, List.foldl_append]
theorem zeL_lt : ∀ (l : List Nat), (∀ x, x ∈ l → x ≤ 122) → zeL l < 27 ^ l.length := by
  intro l
  induction l with
  | nil => intro _; exact Nat.one_pos
  | cons a l ih =>
    intro h
    have h1 := ih (fun x hx => h x (List.mem_cons_of_mem _ hx))
    have h2 := h a List.mem_cons_self
    rw [zeL, List.length_cons, Nat.pow_succ]
    omega
theorem zeN_lt : ∀ (n : Nat) (b : Nat → Nat) (s : Nat), (∀ k, k < n → b (s + k) ≤ 57) → zeN (zby b s n) < 10 ^ n := by
  intro n
  induction n with
  | zero => intro b s _; exact Nat.one_pos
  | succ n ih =>
    intro b s h
    rw [zby_succ, zeN_app, Nat.pow_succ]
    have h1 := ih b s (fun k hk => h k (by omega))
    have h2 := h n (by omega)
    omega
def zEd (T : zDD) (j : Nat) : Nat := T j 1 + (if T j 0 = 3 then 1 else T j 3)
def zal (b : Nat → Nat) (s : Nat) : Prop := 0 < s ∧ (zcl (b (s - 1)) = 1 ∨ zcl (b (s - 1)) = 2)
def zTk (b : Nat → Nat) (i : Nat) (T : zDD) (j : Nat) : Prop :=
  T j 1 < zEd T j ∧ zEd T j ≤ i ∧ zcl (b (T j 1)) ≠ 0 ∧ (∀ k, T j 1 ≤ k → k < zEd T j → zcl (b k) = zcl (b (T j 1))) ∧
  (zcl (b (T j 1)) = 3 → T j 0 = 3 ∧ T j 2 = b (T j 1) ∧ T j 3 = 0) ∧
  (zcl (b (T j 1)) ≠ 3 → (zal b (T j 1) → T j 0 = 4) ∧ (¬ zal b (T j 1) → T j 0 = zcl (b (T j 1))) ∧ (0 < T j 1 → zcl (b (T j 1 - 1)) ≠ zcl (b (T j 1))) ∧ (zEd T j < i → zcl (b (zEd T j)) ≠ zcl (b (T j 1)))) ∧
  (zcl (b (T j 1)) = 1 → T j 2 = zeL (zby b (T j 1) (min (T j 3) 6))) ∧ (zcl (b (T j 1)) = 2 → T j 2 = zeN (zby b (T j 1) (min (T j 3) 4)))
def zgE (T : zDD) (j : Nat) : Nat := if j = 0 then 0 else zEd T (j - 1)
def zgS (T : zDD) (cnt i j : Nat) : Nat := if j = cnt then i else T j 1
def zGp (b : Nat → Nat) (T : zDD) (cnt i : Nat) : Prop := ∀ j, j ≤ cnt → zgE T j ≤ zgS T cnt i j ∧ ∀ k, zgE T j ≤ k → k < zgS T cnt i j → zcl (b k) = 0
def zrn (b : Nat → Nat) (i : Nat) : Nat := if i = 0 then 3 else if zcl (b (i - 1)) = 0 then 3 else zcl (b (i - 1))
def zSc (b : Nat → Nat) (i : Nat) (s : zTK) : Prop := s.2.1 ≤ i ∧ s.2.2 = zrn b i ∧ (∀ j, j < s.2.1 → zTk b i s.1 j) ∧ zGp b s.1 s.2.1 i
theorem zrn_le (b : Nat → Nat) (i : Nat) : zrn b i ≤ 3 ∧ 1 ≤ zrn b i := by
  unfold zrn
  have := zcl_le (b (i - 1))
  split
  · omega
  · split <;> omega
theorem zTk_k {b : Nat → Nat} {i j : Nat} {T : zDD} (h : zTk b i T j) : 1 ≤ T j 0 ∧ T j 0 ≤ 4 ∧ (T j 0 = 3 ↔ zcl (b (T j 1)) = 3) := by
  obtain ⟨a1, a2, a3, a4, a5, a6, a7, a8⟩ := h
  have h3 := zcl_le (b (T j 1))
  by_cases e : zcl (b (T j 1)) = 3
  · have := (a5 e).1
    exact ⟨by omega, by omega, by omega⟩
  · obtain ⟨c1, c2, -, -⟩ := a6 e
    by_cases z : zal b (T j 1)
    · have := c1 z
      exact ⟨by omega, by omega, by omega⟩
    · have := c2 z
      exact ⟨by omega, by omega, by omega⟩
-- the last token when the byte ahead is no blank
theorem zSc_last {b : Nat → Nat} {i : Nat} {s : zTK} (h : zSc b i s) (hi : 0 < i) (hb : zcl (b (i - 1)) ≠ 0) : 1 ≤ s.2.1 ∧ zEd s.1 (s.2.1 - 1) = i ∧ zcl (b (s.1 (s.2.1 - 1) 1)) = zcl (b (i - 1)) := by
  obtain ⟨h1, h2, h3, h4⟩ := h
  obtain ⟨g1, g2⟩ := h4 s.2.1 (Nat.le_refl _)
  have es : zgS s.1 s.2.1 i s.2.1 = i := if_pos rfl
  rw [es] at g1 g2
  have e1 : zgE s.1 s.2.1 = i := by
    by_cases c : zgE s.1 s.2.1 = i
    · exact c
    · exact absurd (g2 (i - 1) (by omega) (by omega)) hb
  have e2 : s.2.1 ≠ 0 := fun e => by
    rw [e] at e1
    have : zgE s.1 0 = 0 := if_pos rfl
    omega
  have e3 : zgE s.1 s.2.1 = zEd s.1 (s.2.1 - 1) := if_neg e2
  obtain ⟨a1, a2, a3, a4, -⟩ := h3 (s.2.1 - 1) (by omega)
  refine ⟨by omega, by omega, ?_⟩
  exact (a4 (i - 1) (by omega) (by omega)).symm
theorem zTk_up {b : Nat → Nat} {i j : Nat} {T T' : zDD} (h : zTk b i T j) (e : T' j = T j) (hl : zEd T j = i → zcl (b (T j 1)) ≠ 3 → zcl (b i) ≠ zcl (b (T j 1))) : zTk b (i + 1) T' j := by
  have ee : zEd T' j = zEd T j := by unfold zEd; rw [e]
  unfold zTk at h ⊢
  rw [e, ee]
  obtain ⟨a1, a2, a3, a4, a5, a6, a7, a8⟩ := h
  refine ⟨a1, by omega, a3, a4, a5, fun c => ?_, a7, a8⟩
  obtain ⟨c1, c2, c3, c4⟩ := a6 c
  refine ⟨c1, c2, c3, fun h5 => ?_⟩
  by_cases h6 : zEd T j = i
  · rw [h6]; exact hl h6 c
  · exact c4 (by omega)
theorem zEd_c {T T' : zDD} {j : Nat} (e : T' j = T j) : zEd T' j = zEd T j := by unfold zEd; rw [e]
theorem zSc_bl {b : Nat → Nat} {i : Nat} {s : zTK} (h : zSc b i s) (hc : zcl (b i) = 0) : zSc b (i + 1) (s.1, s.2.1, 3) := by
  obtain ⟨h1, h2, h3, h4⟩ := h
  refine ⟨Nat.le_succ_of_le h1, ?_, fun j hj => zTk_up (h3 j hj) rfl (fun _ _ e => (h3 j hj).2.2.1 (by omega)), fun j hj => ?_⟩
  · show 3 = zrn b (i + 1)
    unfold zrn
    rw [if_neg (by omega), show i + 1 - 1 = i by omega, if_pos hc]
  · obtain ⟨g1, g2⟩ := h4 j hj
    by_cases e : j = s.2.1
    · have e1 : zgS s.1 s.2.1 i j = i := if_pos e
      have e2 : zgS s.1 s.2.1 (i + 1) j = i + 1 := if_pos e
      show zgE s.1 j ≤ zgS s.1 s.2.1 (i + 1) j ∧ ∀ k, zgE s.1 j ≤ k → k < zgS s.1 s.2.1 (i + 1) j → zcl (b k) = 0
      rw [e2]
      rw [e1] at g1 g2
      refine ⟨by omega, fun k k1 k2 => ?_⟩
      by_cases e3 : k = i
      · rw [e3]; exact hc
      · exact g2 k k1 (by omega)
    · have e1 : zgS s.1 s.2.1 i j = s.1 j 1 := if_neg e
      have e2 : zgS s.1 s.2.1 (i + 1) j = s.1 j 1 := if_neg e
      show zgE s.1 j ≤ zgS s.1 s.2.1 (i + 1) j ∧ ∀ k, zgE s.1 j ≤ k → k < zgS s.1 s.2.1 (i + 1) j → zcl (b k) = 0
      rw [e2]
      rw [e1] at g1 g2
      exact ⟨g1, g2⟩
theorem zSc_ext {b : Nat → Nat} {i k : Nat} {s : zTK} {T' : zDD} (h : zSc b i s) (hc : zcl (b i) = k) (hk : k = 1 ∨ k = 2) (hr : s.2.2 = k) (o : ∀ j, j ≠ s.2.1 - 1 → T' j = s.1 j) (t0 : T' (s.2.1 - 1) 0 = s.1 (s.2.1 - 1) 0) (t1 : T' (s.2.1 - 1) 1 = s.1 (s.2.1 - 1) 1) (t3 : T' (s.2.1 - 1) 3 = s.1 (s.2.1 - 1) 3 + 1)
    (tl : k = 1 → T' (s.2.1 - 1) 2 = zeL (zby b (s.1 (s.2.1 - 1) 1) (min (s.1 (s.2.1 - 1) 3 + 1) 6))) (td : k = 2 → T' (s.2.1 - 1) 2 = zeN (zby b (s.1 (s.2.1 - 1) 1) (min (s.1 (s.2.1 - 1) 3 + 1) 4))) : zSc b (i + 1) (T', s.2.1, k) := by
  obtain ⟨h1, h2, h3, h4⟩ := id h
  have hi : 0 < i ∧ zcl (b (i - 1)) = k := by
    rw [hr] at h2
    unfold zrn at h2
    split at h2
    · omega
    · split at h2
      · omega
      · exact ⟨by omega, h2.symm⟩
  obtain ⟨l1, l2, l3⟩ := zSc_last h hi.1 (by omega)
  obtain ⟨a1, a2, a3, a4, a5, a6, a7, a8⟩ := h3 (s.2.1 - 1) (by omega)
  rw [hi.2] at l3
  have hn3 : s.1 (s.2.1 - 1) 0 ≠ 3 := fun e => by have := (zTk_k (h3 (s.2.1 - 1) (by omega))).2.2.mp e; omega
  have eo : zEd s.1 (s.2.1 - 1) = s.1 (s.2.1 - 1) 1 + s.1 (s.2.1 - 1) 3 := by unfold zEd; rw [if_neg hn3]
  have en : zEd T' (s.2.1 - 1) = i + 1 := by
    unfold zEd
    rw [t0, if_neg hn3, t1, t3]
    omega
  refine ⟨by show s.2.1 ≤ i + 1; omega, ?_, fun j hj => ?_, fun j hj => ?_⟩
  · show k = zrn b (i + 1)
    unfold zrn
    rw [if_neg (by omega), show i + 1 - 1 = i by omega, if_neg (by omega), hc]
  · by_cases e : j = s.2.1 - 1
    · subst e
      show zTk b (i + 1) T' (s.2.1 - 1)
      unfold zTk
      rw [en, t0, t1, t3]
      refine ⟨by omega, Nat.le_refl _, a3, fun k' k1 k2 => ?_, fun c => absurd c (by omega), fun c => ?_, fun c => tl (by omega), fun c => td (by omega)⟩
      · by_cases e3 : k' = i
        · rw [e3, hc, l3]
        · exact a4 k' k1 (by omega)
      · obtain ⟨c1, c2, c3, c4⟩ := a6 c
        exact ⟨c1, c2, c3, fun h5 => absurd h5 (Nat.lt_irrefl _)⟩
    · refine zTk_up (h3 j hj) (o j e) (fun h5 _ => ?_)
      have hj' : j < s.2.1 := hj
      obtain ⟨g1, g2⟩ := h4 (j + 1) (by omega)
      have e1 : zgE s.1 (j + 1) = zEd s.1 j := by unfold zgE; rw [if_neg (by omega), show j + 1 - 1 = j by omega]
      have e2 : zgS s.1 s.2.1 i (j + 1) = s.1 (j + 1) 1 := if_neg (by omega)
      rw [e1, e2] at g1
      have := (h3 (j + 1) (by omega)).1
      have := (h3 (j + 1) (by omega)).2.1
      omega
  · have hj' : j ≤ s.2.1 := hj
    obtain ⟨g1, g2⟩ := h4 j hj
    have e0 : zgE T' j = if j = s.2.1 then i + 1 else zgE s.1 j := by
      unfold zgE
      by_cases c : j = 0
      · rw [if_pos c, if_pos c, if_neg (by omega)]
      · rw [if_neg c, if_neg c]
        by_cases c2 : j = s.2.1
        · rw [if_pos c2, c2, en]
        · rw [if_neg c2, zEd_c (o (j - 1) (by omega))]
    show zgE T' j ≤ zgS T' s.2.1 (i + 1) j ∧ ∀ k, zgE T' j ≤ k → k < zgS T' s.2.1 (i + 1) j → zcl (b k) = 0
    rw [e0]
    by_cases c2 : j = s.2.1
    · rw [if_pos c2, show zgS T' s.2.1 (i + 1) j = i + 1 from if_pos c2]
      exact ⟨Nat.le_refl _, fun k k1 k2 => absurd k1 (by omega)⟩
    · have e2 : zgS s.1 s.2.1 i j = s.1 j 1 := if_neg c2
      have e3 : zgS T' s.2.1 (i + 1) j = s.1 j 1 := by
        unfold zgS
        rw [if_neg c2]
        by_cases c3 : j = s.2.1 - 1
        · rw [c3]; exact t1
        · rw [o j c3]
      rw [if_neg c2, e3]
      rw [e2] at g1 g2
      exact ⟨g1, g2⟩
theorem zSc_new {b : Nat → Nat} {i k : Nat} {s : zTK} {T' : zDD} (h : zSc b i s) (hc : zcl (b i) = k) (h0 : k ≠ 0) (hr : k = 3 ∨ s.2.2 ≠ k) (o : ∀ j, j ≠ s.2.1 → T' j = s.1 j) (t0 : T' s.2.1 0 = ztg k s.2.2) (t1 : T' s.2.1 1 = i) (t3 : T' s.2.1 3 = if k = 3 then 0 else 1)
    (tl : k = 1 → T' s.2.1 2 = b i - 96) (td : k = 2 → T' s.2.1 2 = b i - 48) (ts : k = 3 → T' s.2.1 2 = b i) : zSc b (i + 1) (T', s.2.1 + 1, k) := by
  obtain ⟨h1, h2, h3, h4⟩ := id h
  have k3 := zcl_le (b i)
  have hz : zal b i ↔ (s.2.2 = 1 ∨ s.2.2 = 2) := by
    rw [h2]
    unfold zal zrn
    by_cases c : i = 0
    · subst c
      simp
    · rw [if_neg c]
      by_cases c2 : zcl (b (i - 1)) = 0
      · rw [if_pos c2, c2]
        simp
      · rw [if_neg c2]
        exact ⟨fun e => e.2, fun e => ⟨by omega, e⟩⟩
  have hrun : ∀ c, c ≠ 0 → c ≠ 3 → 0 < i → zcl (b (i - 1)) = c → s.2.2 = c := by
    intro c c0 c3 hi e
    rw [h2]
    unfold zrn
    rw [if_neg (by omega), if_neg (by omega)]
    exact e
  have g3 : T' s.2.1 0 = 3 ↔ k = 3 := by
    rw [t0]
    unfold ztg
    by_cases c1 : k = 1
    · rw [if_pos c1]; split <;> omega
    · rw [if_neg c1]
      by_cases c2 : k = 2
      · rw [if_pos c2]; split <;> omega
      · rw [if_neg c2]
  have en : zEd T' s.2.1 = i + 1 := by
    unfold zEd
    rw [t1, t3]
    by_cases c : k = 3
    · rw [if_pos (g3.mpr c)]
    · rw [if_neg (fun e => c (g3.mp e)), if_neg c]
  refine ⟨by show s.2.1 + 1 ≤ i + 1; omega, ?_, fun j hj => ?_, fun j hj => ?_⟩
  · show k = zrn b (i + 1)
    unfold zrn
    rw [if_neg (by omega), show i + 1 - 1 = i by omega, if_neg (by omega), hc]
  · by_cases e : j = s.2.1
    · subst e
      show zTk b (i + 1) T' s.2.1
      unfold zTk
      rw [en, t1, hc]
      refine ⟨Nat.lt_succ_self _, Nat.le_refl _, h0, fun k' k1 k2 => by rw [show k' = i by omega]; exact hc, fun c => ⟨g3.mpr c, ts c, by rw [t3, if_pos c]⟩, fun c => ⟨fun z => ?_, fun z => ?_, fun hi e => ?_, fun z => absurd z (Nat.lt_irrefl _)⟩, fun c => ?_, fun c => ?_⟩
      · have := hz.mp z
        rw [t0]
        unfold ztg
        rcases hr with hr | hr
        · exact absurd hr c
        · by_cases c1 : k = 1
          · rw [if_pos c1, if_pos (by omega)]
          · rw [if_neg c1, if_pos (by omega), if_pos (by omega)]
      · have : ¬ (s.2.2 = 1 ∨ s.2.2 = 2) := fun c => z (hz.mpr c)
        rw [t0]
        unfold ztg
        by_cases c1 : k = 1
        · rw [if_pos c1, if_neg (by omega)]
        · rw [if_neg c1, if_pos (by omega), if_neg (by omega)]
      · rcases hr with hr | hr
        · exact c hr
        · exact hr (hrun k h0 c hi e)
      · rw [tl c, t3, if_neg (by omega)]
        show b i - 96 = zeL (zby b i 1)
        simp [zby, zeL]
      · rw [td c, t3, if_neg (by omega)]
        show b i - 48 = zeN (zby b i 1)
        simp [zby, zeN]
    · have hj' : j < s.2.1 + 1 := hj
      refine zTk_up (h3 j (by omega)) (o j e) (fun h5 h6 => ?_)
      obtain ⟨a1, a2, a3, a4, -⟩ := h3 j (by omega)
      have hcl := a4 (i - 1) (by omega) (by omega)
      rw [hc]
      intro ek
      rcases hr with hr | hr
      · exact h6 (by omega)
      · exact hr (by rw [hrun _ a3 h6 (by omega) hcl]; exact ek.symm)
  · have hj' : j ≤ s.2.1 + 1 := hj
    show zgE T' j ≤ zgS T' (s.2.1 + 1) (i + 1) j ∧ ∀ k, zgE T' j ≤ k → k < zgS T' (s.2.1 + 1) (i + 1) j → zcl (b k) = 0
    by_cases c : j = s.2.1 + 1
    · have e1 : zgE T' j = i + 1 := by unfold zgE; rw [if_neg (by omega), c, show s.2.1 + 1 - 1 = s.2.1 by omega]; exact en
      rw [e1, show zgS T' (s.2.1 + 1) (i + 1) j = i + 1 from if_pos c]
      exact ⟨Nat.le_refl _, fun k k1 k2 => absurd k1 (by omega)⟩
    · obtain ⟨g1, g2⟩ := h4 j (by omega)
      have e1 : zgE T' j = zgE s.1 j := by
        unfold zgE
        by_cases c2 : j = 0
        · rw [if_pos c2, if_pos c2]
        · rw [if_neg c2, if_neg c2]
          exact zEd_c (o (j - 1) (by omega))
      have e2 : zgS T' (s.2.1 + 1) (i + 1) j = zgS s.1 s.2.1 i j := by
        unfold zgS
        rw [if_neg c]
        by_cases c2 : j = s.2.1
        · rw [if_pos c2, c2]; exact t1
        · rw [if_neg c2, o j c2]
      rw [e1, e2]
      exact ⟨g1, g2⟩
theorem zSc_0 (b : Nat → Nat) (T : zDD) : zSc b 0 (T, 0, 3) := ⟨Nat.le_refl _, rfl, fun j hj => absurd hj (Nat.not_lt_zero _), fun j hj => by
  have hj' : j ≤ 0 := hj
  rw [show j = 0 by omega]
  exact ⟨Nat.le_refl _, fun k k1 k2 => absurd k2 (by show ¬ k < zgS T 0 0 0; rw [show zgS T 0 0 0 = 0 from if_pos rfl]; omega)⟩⟩
theorem zmin6 {a m : Nat} (h : a < m) : min (a + 1) m = a + 1 := Nat.min_eq_left (by omega)
theorem zSc_k {b : Nat → Nat} {i : Nat} {s : zTK} (h : zSc b i s) : zSc b (i + 1) (ztk (b i) i s) := by
  have hz3 := zcl_le (b i)
  unfold ztk
  by_cases c1 : zcl (b i) = 1
  · have hb : 97 ≤ b i ∧ b i ≤ 122 := by
      unfold zcl at c1
      split at c1
      · assumption
      · split at c1
        · omega
        · split at c1 <;> omega
    rw [if_pos c1]
    unfold zte
    by_cases hr : s.2.2 = 1
    · rw [if_pos hr]
      obtain ⟨h1, h2, h3, h4⟩ := id h
      have hi : 0 < i ∧ zcl (b (i - 1)) = 1 := by
        rw [hr] at h2
        unfold zrn at h2
        split at h2
        · omega
        · split at h2
          · omega
          · exact ⟨by omega, h2.symm⟩
      obtain ⟨l1, l2, l3⟩ := zSc_last h hi.1 (by omega)
      have hk := h3 (s.2.1 - 1) (by omega)
      have hn3 : s.1 (s.2.1 - 1) 0 ≠ 3 := fun e => by have := (zTk_k hk).2.2.mp e; omega
      have eo : zEd s.1 (s.2.1 - 1) = s.1 (s.2.1 - 1) 1 + s.1 (s.2.1 - 1) 3 := by unfold zEd; rw [if_neg hn3]
      have e2 : (ztal (b i - 97 + 1) s) = ((ztal (b i - 97 + 1) s).1, s.2.1, 1) := by rw [← hr]; rfl
      rw [e2]
      have hval := hk.2.2.2.2.2.2.1 (by omega)
      refine zSc_ext h c1 (Or.inl rfl) hr (fun j hj => ?_) ?_ ?_ ?_ (fun _ => ?_) (fun c => absurd c (by decide))
      · show zu (if _ then _ else _) _ 3 _ j = _
        rw [zu_ne hj]
        split
        · rw [zu_ne hj]
        · rfl
      · show zu (if _ then _ else _) _ 3 _ _ 0 = _
        rw [zu_k (by decide)]
        split
        · rw [zu_k (by decide)]
        · rfl
      · show zu (if _ then _ else _) _ 3 _ _ 1 = _
        rw [zu_k (by decide)]
        split
        · rw [zu_k (by decide)]
        · rfl
      · exact zu_s
      · show zu (if _ then _ else _) _ 3 _ _ 2 = _
        rw [zu_k (by decide)]
        by_cases c6 : s.1 (s.2.1 - 1) 3 < 6
        · rw [if_pos c6, zu_s, zmin6 c6, zby_succ, zeL_app, zby_len, hval, Nat.min_eq_left (by omega), show s.1 (s.2.1 - 1) 1 + s.1 (s.2.1 - 1) 3 = i by omega, show b i - 97 + 1 = b i - 96 by omega]
        · rw [if_neg c6, hval, Nat.min_eq_right (by omega), Nat.min_eq_right (by omega)]
    · rw [if_neg hr]
      have e2 : ztal (b i - 97 + 1) (ztst 1 i s) = ((ztal (b i - 97 + 1) (ztst 1 i s)).1, s.2.1 + 1, 1) := rfl
      rw [e2]
      have e3 : (ztal (b i - 97 + 1) (ztst 1 i s)).1 = zu (zu (ztst 1 i s).1 s.2.1 2 (b i - 97 + 1)) s.2.1 3 1 := by
        show zu (if (ztst 1 i s).1 (s.2.1 + 1 - 1) 3 < 6 then zu (ztst 1 i s).1 (s.2.1 + 1 - 1) 2 ((ztst 1 i s).1 (s.2.1 + 1 - 1) 2 + (b i - 97 + 1) * 27 ^ (ztst 1 i s).1 (s.2.1 + 1 - 1) 3) else (ztst 1 i s).1) (s.2.1 + 1 - 1) 3 ((ztst 1 i s).1 (s.2.1 + 1 - 1) 3 + 1) = _
        rw [show s.2.1 + 1 - 1 = s.2.1 by omega, show (ztst 1 i s).1 s.2.1 3 = 0 from zu_s, show (ztst 1 i s).1 s.2.1 2 = 0 by simp [ztst, zu_at], if_pos (by decide), Nat.zero_add, Nat.zero_add, Nat.pow_zero, Nat.mul_one]
      rw [e3]
      refine zSc_new h c1 (by decide) (Or.inr hr) (fun j hj => ?_) ?_ ?_ ?_ (fun _ => ?_) (fun c => absurd c (by decide)) (fun c => absurd c (by decide))
      · rw [zu_ne hj, zu_ne hj]
        show zu (zu (zu (zu s.1 s.2.1 0 _) s.2.1 1 i) s.2.1 2 0) s.2.1 3 0 j = _
        rw [zu_ne hj, zu_ne hj, zu_ne hj, zu_ne hj]
      · simp [ztst, zu_at]
      · simp [ztst, zu_at]
      · simp [zu_at]
      · simp [zu_at]
        omega
  rw [if_neg c1]
  by_cases c2 : zcl (b i) = 2
  · have hb : 48 ≤ b i ∧ b i ≤ 57 := by
      unfold zcl at c2
      split at c2
      · omega
      · split at c2
        · assumption
        · split at c2 <;> omega
    rw [if_pos c2]
    unfold zte
    by_cases hr : s.2.2 = 2
    · rw [if_pos hr]
      obtain ⟨h1, h2, h3, h4⟩ := id h
      have hi : 0 < i ∧ zcl (b (i - 1)) = 2 := by
        rw [hr] at h2
        unfold zrn at h2
        split at h2
        · omega
        · split at h2
          · omega
          · exact ⟨by omega, h2.symm⟩
      obtain ⟨l1, l2, l3⟩ := zSc_last h hi.1 (by omega)
      have hk := h3 (s.2.1 - 1) (by omega)
      have hn3 : s.1 (s.2.1 - 1) 0 ≠ 3 := fun e => by have := (zTk_k hk).2.2.mp e; omega
      have eo : zEd s.1 (s.2.1 - 1) = s.1 (s.2.1 - 1) 1 + s.1 (s.2.1 - 1) 3 := by unfold zEd; rw [if_neg hn3]
      have e2 : (ztad (b i - 48) s) = ((ztad (b i - 48) s).1, s.2.1, 2) := by rw [← hr]; rfl
      rw [e2]
      have hval := hk.2.2.2.2.2.2.2 (by omega)
      refine zSc_ext h c2 (Or.inr rfl) hr (fun j hj => ?_) ?_ ?_ ?_ (fun c => absurd c (by decide)) (fun _ => ?_)
      · show zu (if _ then _ else _) _ 3 _ j = _
        rw [zu_ne hj]
        split
        · rw [zu_ne hj]
        · rfl
      · show zu (if _ then _ else _) _ 3 _ _ 0 = _
        rw [zu_k (by decide)]
        split
        · rw [zu_k (by decide)]
        · rfl
      · show zu (if _ then _ else _) _ 3 _ _ 1 = _
        rw [zu_k (by decide)]
        split
        · rw [zu_k (by decide)]
        · rfl
      · exact zu_s
      · show zu (if _ then _ else _) _ 3 _ _ 2 = _
        rw [zu_k (by decide)]
        by_cases c6 : s.1 (s.2.1 - 1) 3 < 4
        · rw [if_pos c6, zu_s, zmin6 c6, zby_succ, zeN_app, hval, Nat.min_eq_left (by omega), show s.1 (s.2.1 - 1) 1 + s.1 (s.2.1 - 1) 3 = i by omega]
        · rw [if_neg c6, hval, Nat.min_eq_right (by omega), Nat.min_eq_right (by omega)]
    · rw [if_neg hr]
      have e2 : ztad (b i - 48) (ztst 2 i s) = ((ztad (b i - 48) (ztst 2 i s)).1, s.2.1 + 1, 2) := rfl
      rw [e2]
      have e3 : (ztad (b i - 48) (ztst 2 i s)).1 = zu (zu (ztst 2 i s).1 s.2.1 2 (b i - 48)) s.2.1 3 1 := by
        show zu (if (ztst 2 i s).1 (s.2.1 + 1 - 1) 3 < 4 then zu (ztst 2 i s).1 (s.2.1 + 1 - 1) 2 (10 * (ztst 2 i s).1 (s.2.1 + 1 - 1) 2 + (b i - 48)) else (ztst 2 i s).1) (s.2.1 + 1 - 1) 3 ((ztst 2 i s).1 (s.2.1 + 1 - 1) 3 + 1) = _
        rw [show s.2.1 + 1 - 1 = s.2.1 by omega, show (ztst 2 i s).1 s.2.1 3 = 0 from zu_s, show (ztst 2 i s).1 s.2.1 2 = 0 by simp [ztst, zu_at], if_pos (by decide), Nat.zero_add, Nat.zero_add]
      rw [e3]
      refine zSc_new h c2 (by decide) (Or.inr hr) (fun j hj => ?_) ?_ ?_ ?_ (fun c => absurd c (by decide)) (fun _ => ?_) (fun c => absurd c (by decide))
      · rw [zu_ne hj, zu_ne hj]
        show zu (zu (zu (zu s.1 s.2.1 0 _) s.2.1 1 i) s.2.1 2 0) s.2.1 3 0 j = _
        rw [zu_ne hj, zu_ne hj, zu_ne hj, zu_ne hj]
      · simp [ztst, zu_at]
      · simp [ztst, zu_at]
      · simp [zu_at]
      · simp [zu_at]
  rw [if_neg c2]
  by_cases c0 : zcl (b i) = 0
  · rw [if_pos c0]
    exact zSc_bl h c0
  · rw [if_neg c0]
    have c3 : zcl (b i) = 3 := by omega
    show zSc b (i + 1) (zu (ztst 3 i s).1 s.2.1 2 (b i), s.2.1 + 1, 3)
    refine zSc_new h c3 (by decide) (Or.inl rfl) (fun j hj => ?_) ?_ ?_ ?_ (fun c => absurd c (by decide)) (fun c => absurd c (by decide)) (fun _ => zu_s)
    · rw [zu_ne hj]
      show zu (zu (zu (zu s.1 s.2.1 0 _) s.2.1 1 i) s.2.1 2 0) s.2.1 3 0 j = _
      rw [zu_ne hj, zu_ne hj, zu_ne hj, zu_ne hj]
    · simp [ztst, zu_at]
    · simp [ztst, zu_at]
    · simp [ztst, zu_at]

