theorem cqQ_or {g : zMR} : ∀ (l : List (Nat × Nat × Nat)) (f : zMR), (∀ e, e ∈ l → g e.1 e.2.1 = some e.2.2) → ∀ o k, l.foldl (fun f e => zu f e.1 e.2.1 (some e.2.2)) f o k = g o k ∨ (l.foldl (fun f e => zu f e.1 e.2.1 (some e.2.2)) f o k = f o k ∧ ∀ e, e ∈ l → ¬ (e.1 = o ∧ e.2.1 = k)) := by
  intro l
  induction l with
  | nil => intro f _ o k; exact Or.inr ⟨rfl, fun e h => absurd h List.not_mem_nil⟩
  | cons e l ih =>
    intro f hg o k
    rw [List.foldl_cons]
    rcases ih (zu f e.1 e.2.1 (some e.2.2)) (fun e' h => hg e' (List.mem_cons_of_mem _ h)) o k with h | ⟨h1, h2⟩
    · exact Or.inl h
    · rw [zu_at] at h1
      by_cases c : o = e.1 ∧ k = e.2.1
      · rw [if_pos c] at h1
        left
        rw [h1, c.1, c.2]
        exact (hg e List.mem_cons_self).symm
      · rw [if_neg c] at h1
        refine Or.inr ⟨h1, fun e' h => ?_⟩
        rcases List.mem_cons.mp h with rfl | h
        · exact fun hh => c ⟨hh.1.symm, hh.2.symm⟩
        · exact h2 e' h
theorem cqR_1 : ∀ e, e ∈ cqR → zRf 10 e.1 e.2.1 = some e.2.2 := by decide +kernel
theorem cqR_2 : (zRl.all fun e => (List.range e.2.length).all fun k => ((e.2[k]?).join).isNone || cqR.any fun q => decide (q.1 = e.1) && decide (q.2.1 = k)) = true := by decide +kernel
theorem cqR_3 {o k x : Nat} (h : zRf 10 o k = some x) : ∃ e, e ∈ cqR ∧ e.1 = o ∧ e.2.1 = k := by
  unfold zRf at h
  by_cases c1 : o = 0 ∧ k = 4
  · exact ⟨(0, 4, 10), by decide +kernel, c1.1.symm, c1.2.symm⟩
  rw [if_neg c1] at h
  by_cases c2 : o = 0 ∧ k = 5
  · exact ⟨(0, 5, 24), by decide +kernel, c2.1.symm, c2.2.symm⟩
  rw [if_neg c2] at h
  by_cases c3 : o = 150 ∧ k = 0
  · exact ⟨(150, 0, 10), by decide +kernel, c3.1.symm, c3.2.symm⟩
  rw [if_neg c3] at h
  unfold zRc at h
  cases hl : zRl.lookup o with
  | none => rw [hl] at h; cases h
  | some l =>
    rw [hl] at h
    change (l[k]?).join = some x at h
    have hm : (o, l) ∈ zRl := by
      obtain ⟨l1, l2, e, -⟩ := List.lookup_eq_some_iff.mp hl
      rw [e]
      exact List.mem_append_right _ List.mem_cons_self
    have h2 := List.all_eq_true.mp cqR_2 _ hm
    have hk : k < l.length := by
      refine Nat.not_le.mp fun q => ?_
      rw [List.getElem?_eq_none q] at h
      cases h
    have h3 := List.all_eq_true.mp h2 k (List.mem_range.mpr hk)
    simp only at h h3
    rw [h] at h3
    simp only [Option.isNone_some, Bool.false_or] at h3
    obtain ⟨e, he, h4⟩ := List.any_eq_true.mp h3
    rw [Bool.and_eq_true, decide_eq_true_iff, decide_eq_true_iff] at h4
    exact ⟨e, he, h4⟩
theorem cqQ_all : cqQ 253 = zRf 10 := by
  funext o k
  have e : cqR.take 253 = cqR := by decide +kernel
  unfold cqQ
  rw [e]
  rcases cqQ_or (g := zRf 10) cqR (fun _ _ => none) cqR_1 o k with h | ⟨h1, h2⟩
  · exact h
  · rw [h1]
    cases h : zRf 10 o k with
    | none => rfl
    | some x =>
      obtain ⟨e, he, h3⟩ := cqR_3 h
      exact absurd h3 (h2 e he)
theorem nI_bv (x : Int32) : x = nI x.toBitVec.toNat := by
  apply Int32.toBitVec_inj.mp
  show x.toBitVec = BitVec.ofNat 32 x.toBitVec.toNat
  exact BitVec.eq_of_toNat_eq (by rw [BitVec.toNat_ofNat]; exact (Nat.mod_eq_of_lt x.toBitVec.isLt).symm)
theorem zDx_0 {M : zMI} {u : Nat} (h1 : M (u + 8) 2 = nI 0) (h2 : M (u + 11) 2 = nI 0) : zDx M u :=
  ⟨fun o k => (M (u + o) k).toBitVec.toNat, [], [], fun o k _ _ => nI_bv _, ⟨h1, Nat.zero_le _, fun i op arg h => by simp at h⟩, ⟨h2, Nat.zero_le _, fun i op arg h => by simp at h⟩⟩
def g00 : zGd := (fun _ => 0, 0, fun _ => 0, fun _ => 0, 100, (fun _ _ => 0, none, none))
def m00 : zMs := (0, fun _ => 0, fun _ => 0, 1, 0, -1, 0, fun _ => 0)
theorem zV00 : zV 0 (fun _ => 0) := ⟨by decide, fun s h => absurd h (Nat.not_lt_zero _), fun s s' h => absurd h (Nat.not_lt_zero _), fun s h => absurd h (Nat.not_lt_zero _), fun s hh h => absurd h (Nat.not_lt_zero _), by decide, by decide, by decide⟩
theorem zCI_0 : zCI (cqM 429) (cqL 1) 10 0 g00 (fun _ => 0) [] m00 := by
  refine ⟨Or.inl rfl, zV00, ?_, ?_, ⟨0, ?_⟩, ?_, ?_, ?_, ?_, ?_, ?_⟩
  · exact ⟨by decide +kernel, fun i h => absurd h (Nat.not_lt_zero _), by decide +kernel, by decide, fun i h => absurd h (Nat.not_lt_zero _), fun i h => absurd h (Nat.not_lt_zero _), by decide +kernel, by decide, ⟨fun p h hp => absurd hp (Nat.not_lt_zero _), by show cqM 429 10 11 = nI 0; decide +kernel, by show cqM 429 10 12 = nI 0; decide +kernel⟩⟩
  · exact ⟨by decide +kernel, by decide +kernel, by decide +kernel, by decide +kernel, fun s h => absurd h (Nat.not_lt_zero _)⟩
  · exact ⟨by decide, by decide, by decide +kernel, by decide +kernel, fun i v h => by simp at h⟩
  · intro k h1 h2
    rcases (by omega : k = 6 ∨ k = 7 ∨ k = 8) with rfl | rfl | rfl <;> decide +kernel
  · exact ⟨Or.inl (by decide +kernel), Or.inl (by decide +kernel)⟩
  · exact ⟨by decide +kernel, by decide, fun i h => absurd h (Nat.not_lt_zero _), by decide +kernel, by decide +kernel, by decide, by decide +kernel, by decide +kernel, by decide +kernel, by decide, fun i h => absurd h (Nat.not_lt_zero _)⟩
  · exact zDx_0 (by decide +kernel) (by decide +kernel)
  · exact zDx_0 (by decide +kernel) (by decide +kernel)
  · unfold zkn
    decide +kernel
theorem zWd_0 : (∀ k, k < 24 → ∀ i, i < (zWL.getD k []).length → cqM 429 (180 + k) i = nI ((zWL.getD k []).getD i 0)) ∧ ∀ j, j < 18 → ∀ i, i < (zWL.getD (zqW j) []).length → cqM 429 (227 + j) i = nI ((zWL.getD (zqW j) []).getD i 0) := by decide +kernel
theorem zWd_1 {M : zMI} {o : Nat} {l : List Nat} (h : ∀ i, i < l.length → M o i = nI (l.getD i 0)) : ∀ i x, l[i]? = some x → M o i = nI x := by
  intro i x hx
  have hi : i < l.length := (List.getElem?_eq_some_iff.mp hx).1
  rw [h i hi, List.getD_eq_getElem?_getD, hx]
  rfl
theorem zMo_0 : zMo (cqM 429) (cqL 1) 0 g00 (fun _ => 0) [] m00 := by
  refine ⟨?_, ?_, ?_, ?_, ?_⟩
  · exact ⟨by decide +kernel, ⟨zV00, by decide +kernel⟩, fun p h hp => absurd hp (Nat.not_lt_zero _), by show cqM 429 209 2 = -1; decide +kernel, by show cqM 429 209 3 = -1; decide +kernel⟩
  · exact ⟨by decide +kernel, by decide, fun i h => absurd h (Nat.not_lt_zero _), fun i h => absurd h (Nat.not_lt_zero _), fun i h => absurd h (Nat.not_lt_zero _), by decide +kernel, by decide⟩
  · exact ⟨0, by decide, by decide, by decide +kernel, by decide +kernel, fun i u h => by simp at h⟩
  · exact ⟨by decide +kernel, by decide, fun i h => absurd h (Nat.not_lt_zero _), by decide +kernel, by decide +kernel, by decide, by decide +kernel, by decide +kernel, by decide +kernel, by decide, fun i h => absurd h (Nat.not_lt_zero _)⟩
  · exact ⟨fun k hk => zWd_1 (zWd_0.1 k hk), fun j hj => zWd_1 (zWd_0.2 j hj)⟩
theorem zTie_0 : zTie (cqM 429) (cqL 1) (cqQ 253) := ⟨10, 0, g00, fun _ => 0, [], m00, cqQ_all, zCI_0, zMo_0⟩

