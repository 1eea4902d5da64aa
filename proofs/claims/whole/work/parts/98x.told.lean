theorem zWc_k {M : zMI} {wa : Nat} (w : Nat) (h : zWds M) (hw : w < 24) (e : 180 + w = wa) (hs : SS[wa]? = some (.inl ((zWL.getD w []).length, .char))) : zWc M wa w := ⟨by omega, by omega, hs, by rw [← e]; exact h.1 w hw⟩
-- the table told, as the reference keeps it
def zMD (M : zMI) (L : zML) (D : zDD) : Prop := zNs M L (D 0 1) (D 1) (D 0 7) (D 6) ∧ (∀ i, i < D 0 1 → (∀ h, h < 2 → M 206 (7 * i + h) = nI (D 2 (2 * i + h)) ∧ M 206 (7 * i + 3 + 2 * h) = nI (D 3 (2 * i + h)) ∧ M 206 (7 * i + 4 + 2 * h) = nI (D 4 (2 * i + h))) ∧ M 206 (7 * i + 2) = nI (D 5 i)) ∧ (∀ i, i < D 0 7 → M 207 i = nI (D 7 i)) ∧ M 208 0 = nI (D 0 10)
theorem zMD_fr {M M' : zMI} {L : zML} {D : zDD} (h : zMD M L D) (e4 : M' 204 = M 204) (e6 : M' 206 = M 206) (e7 : M' 207 = M 207) (e8 : M' 208 = M 208) : zMD M' L D := by
  obtain ⟨h1, h2, h3, h4⟩ := h
  unfold zMD
  rw [e6, e7, e8]
  exact ⟨zNs_fr h1 e4 rfl, h2, h3, h4⟩
theorem zMD_p {M M' : zMI} {L : zML} {D : zDD} (h : zMD M L D) (hp : zPf M M') : zMD M' L D := zMD_fr h (hp.1 _ (by decide)) (hp.1 _ (by decide)) (hp.1 _ (by decide)) (hp.1 _ (by decide))
theorem zMD_o {M : zMI} {L : zML} {D : zDD} {k x : Nat} (h : zMD M L D) (h1 : k ≠ 1) (h7 : k ≠ 7) (h10 : k ≠ 10) : zMD M L (zu D 0 k x) := by
  obtain ⟨g1, g2, g3, g4⟩ := h
  have f : ∀ o, o ≠ 0 → zu D 0 k x o = D o := fun o ho => zu_ne ho
  have e : ∀ j, j ≠ k → zu D 0 k x 0 j = D 0 j := fun j hj => zu_k hj
  unfold zMD
  rw [e 1 (by omega), e 7 (by omega), e 10 (by omega), f 1 (by decide), f 2 (by decide), f 3 (by decide), f 4 (by decide), f 5 (by decide), f 6 (by decide), f 7 (by decide)]
  exact ⟨g1, g2, g3, g4⟩
theorem zMD_P {M : zMI} {L : zML} {D : zDD} {nm y a e : Nat} (h : zMD M L D) (h8 : D 0 1 < 8) (hy : zNm nm y) : zMD (zu (zu (zu (zu (zu (zu (zu (zu M 206 (7 * D 0 1) (nI a)) 206 (7 * D 0 1 + 1) (nI e)) 206 (7 * D 0 1 + 2) (nI 0)) 206 (7 * D 0 1 + 3) (nI 0)) 206 (7 * D 0 1 + 4) (nI 5)) 206 (7 * D 0 1 + 5) (nI 0)) 206 (7 * D 0 1 + 6) (nI 5)) 204 0 (nI (D 0 1 + 1))) (zu L 205 (D 0 1) (lN y)) (zrPD D nm a e) := by
  obtain ⟨⟨n1, n2, n3, n4, n5, n6⟩, h2, h3, h4⟩ := h
  have e1 : zrPD D nm a e 0 1 = D 0 1 + 1 := by simp [zrPD, zu_at]
  have e7 : zrPD D nm a e 0 7 = D 0 7 := by simp [zrPD, zu_at]
  have e10 : zrPD D nm a e 0 10 = D 0 10 := by simp [zrPD, zu_at]
  have f1 : ∀ i, zrPD D nm a e 1 i = if i = D 0 1 then nm else D 1 i := fun i => by simp [zrPD, zu_at]
  have f2 : ∀ i, zrPD D nm a e 2 i = if i = 2 * D 0 1 + 1 then e else if i = 2 * D 0 1 then a else D 2 i := fun i => by simp [zrPD, zu_at]
  have f3 : ∀ i, zrPD D nm a e 3 i = if i = 2 * D 0 1 + 1 then 0 else if i = 2 * D 0 1 then 0 else D 3 i := fun i => by simp [zrPD, zu_at]
  have f4 : ∀ i, zrPD D nm a e 4 i = if i = 2 * D 0 1 + 1 then 5 else if i = 2 * D 0 1 then 5 else D 4 i := fun i => by simp [zrPD, zu_at]
  have f5 : ∀ i, zrPD D nm a e 5 i = if i = D 0 1 then 0 else D 5 i := fun i => by simp [zrPD, zu_at]
  have f6 : ∀ i, zrPD D nm a e 6 i = D 6 i := fun i => by simp [zrPD, zu_at]
  have f7 : ∀ i, zrPD D nm a e 7 i = D 7 i := fun i => by simp [zrPD, zu_at]
  generalize D 0 1 = n at *
  generalize zrPD D nm a e = D' at *
  obtain ⟨M', hM⟩ : ∃ M', zu (zu (zu (zu (zu (zu (zu (zu M 206 (7 * n) (nI a)) 206 (7 * n + 1) (nI e)) 206 (7 * n + 2) (nI 0)) 206 (7 * n + 3) (nI 0)) 206 (7 * n + 4) (nI 5)) 206 (7 * n + 5) (nI 0)) 206 (7 * n + 6) (nI 5)) 204 0 (nI (n + 1)) = M' := ⟨_, rfl⟩
  have k4 : M' 204 0 = nI (n + 1) := by rw [← hM, zu_s]
  have k41 : M' 204 1 = M 204 1 := by rw [← hM, zu_k (by decide), zu_ne (by decide), zu_ne (by decide), zu_ne (by decide), zu_ne (by decide), zu_ne (by decide), zu_ne (by decide), zu_ne (by decide)]
  have k6 : ∀ k, k < 7 * n → M' 206 k = M 206 k := fun k hk => by rw [← hM, zu_ne (by decide), zu_k (by omega), zu_k (by omega), zu_k (by omega), zu_k (by omega), zu_k (by omega), zu_k (by omega), zu_k (by omega)]
  have q0 : M' 206 (7 * n) = nI a := by rw [← hM, zu_ne (by decide), zu_k (by omega), zu_k (by omega), zu_k (by omega), zu_k (by omega), zu_k (by omega), zu_k (by omega), zu_s]
  have q1 : M' 206 (7 * n + 1) = nI e := by rw [← hM, zu_ne (by decide), zu_k (by omega), zu_k (by omega), zu_k (by omega), zu_k (by omega), zu_k (by omega), zu_s]
  have q2 : M' 206 (7 * n + 2) = nI 0 := by rw [← hM, zu_ne (by decide), zu_k (by omega), zu_k (by omega), zu_k (by omega), zu_k (by omega), zu_s]
  have q3 : M' 206 (7 * n + 3) = nI 0 := by rw [← hM, zu_ne (by decide), zu_k (by omega), zu_k (by omega), zu_k (by omega), zu_s]
  have q4 : M' 206 (7 * n + 4) = nI 5 := by rw [← hM, zu_ne (by decide), zu_k (by omega), zu_k (by omega), zu_s]
  have q5 : M' 206 (7 * n + 5) = nI 0 := by rw [← hM, zu_ne (by decide), zu_k (by omega), zu_s]
  have q6 : M' 206 (7 * n + 6) = nI 5 := by rw [← hM, zu_ne (by decide), zu_s]
  have k7 : M' 207 = M 207 := by rw [← hM, zu_ne (by decide), zu_ne (by decide), zu_ne (by decide), zu_ne (by decide), zu_ne (by decide), zu_ne (by decide), zu_ne (by decide), zu_ne (by decide)]
  have k8 : M' 208 = M 208 := by rw [← hM, zu_ne (by decide), zu_ne (by decide), zu_ne (by decide), zu_ne (by decide), zu_ne (by decide), zu_ne (by decide), zu_ne (by decide), zu_ne (by decide)]
  rw [hM]
  clear hM
  unfold zMD zNs
  rw [e1, e7, e10, k4, k41, k7, k8]
  refine ⟨⟨rfl, by omega, n3, n4, fun i hi => ?_, fun i hi => ?_⟩, fun i hi => ?_, fun i hi => by rw [f7]; exact h3 i hi, h4⟩
  · rw [f1]
    by_cases c : i = n
    · subst c
      rw [if_pos rfl, zu_s]
      exact ⟨y, rfl, hy⟩
    · rw [if_neg c, zu_k c]
      exact n5 i (by omega)
  · rw [f6, zu_k (by omega)]
    exact n6 i hi
  · by_cases c : i = n
    · subst c
      refine ⟨fun h hh => ?_, by rw [f5, if_pos rfl]; exact q2⟩
      rw [f2, f3, f4]
      have hc : h = 0 ∨ h = 1 := by omega
      rcases hc with rfl | rfl
      · rw [if_neg (by omega), if_pos (by omega), if_neg (by omega), if_pos (by omega), if_neg (by omega), if_pos (by omega)]
        exact ⟨q0, q3, q4⟩
      · rw [if_pos rfl, if_pos rfl, if_pos rfl]
        exact ⟨q1, q5, q6⟩
    · obtain ⟨g1, g2⟩ := h2 i (by omega)
      refine ⟨fun h hh => ?_, by rw [f5, if_neg c, k6 _ (by omega)]; exact g2⟩
      rw [f2, f3, f4, if_neg (by omega), if_neg (by omega), if_neg (by omega), if_neg (by omega), if_neg (by omega), if_neg (by omega), k6 _ (by omega), k6 _ (by omega), k6 _ (by omega)]
      exact g1 h hh
theorem zMD_B {M : zMI} {L : zML} {D : zDD} {nm y a : Nat} (h : zMD M L D) (h4 : D 0 7 < 4) (hy : zNm nm y) : zMD (zu (zu M 207 (D 0 7) (nI a)) 204 1 (nI (D 0 7 + 1))) (zu L 205 (8 + D 0 7) (lN y)) (zu (zu (zu D 6 (D 0 7) nm) 7 (D 0 7) a) 0 7 (D 0 7 + 1)) := by
  obtain ⟨⟨n1, n2, n3, n4, n5, n6⟩, h2, h3, h5⟩ := h
  obtain ⟨D', hD'⟩ : ∃ D', zu (zu (zu D 6 (D 0 7) nm) 7 (D 0 7) a) 0 7 (D 0 7 + 1) = D' := ⟨_, rfl⟩
  rw [hD']
  have e1 : D' 0 1 = D 0 1 := by rw [← hD', zu_k (by decide), zu_ne (by decide), zu_ne (by decide)]
  have e7 : D' 0 7 = D 0 7 + 1 := by rw [← hD', zu_s]
  have e10 : D' 0 10 = D 0 10 := by rw [← hD', zu_k (by decide), zu_ne (by decide), zu_ne (by decide)]
  have f : ∀ o, 1 ≤ o → o ≤ 5 → D' o = D o := fun o o1 o2 => by rw [← hD', zu_ne (by omega), zu_ne (by omega), zu_ne (by omega)]
  have f6 : ∀ i, D' 6 i = if i = D 0 7 then nm else D 6 i := fun i => by
    rw [← hD', zu_ne (by decide), zu_ne (by decide), zu_at]
    by_cases c : i = D 0 7
    · rw [if_pos ⟨rfl, c⟩, if_pos c]
    · rw [if_neg (fun e => c e.2), if_neg c]
  have f7 : ∀ i, D' 7 i = if i = D 0 7 then a else D 7 i := fun i => by
    rw [← hD', zu_ne (by decide), zu_at]
    by_cases c : i = D 0 7
    · rw [if_pos ⟨rfl, c⟩, if_pos c]
    · rw [if_neg (fun e => c e.2), if_neg c, zu_ne (by decide)]
  clear hD'
  unfold zMD zNs
  rw [e1, e7, e10, f 1 (by decide) (by decide), f 2 (by decide) (by decide), f 3 (by decide) (by decide), f 4 (by decide) (by decide), f 5 (by decide) (by decide)]
  refine ⟨⟨by rw [zu_k (by decide), zu_ne (by decide)]; exact n1, n2, zu_s, by omega, fun i hi => by rw [zu_k (by omega)]; exact n5 i hi, fun i hi => ?_⟩, fun i hi => by rw [zu_ne (by decide), zu_ne (by decide)]; exact h2 i hi, fun i hi => ?_, by rw [zu_ne (by decide), zu_ne (by decide)]; exact h5⟩
  · rw [f6]
    by_cases c : i = D 0 7
    · rw [if_pos c, c, zu_s]
      exact ⟨y, rfl, hy⟩
    · rw [if_neg c, zu_k (by omega)]
      exact n6 i (by omega)
  · rw [f7, zu_ne (by decide)]
    by_cases c : i = D 0 7
    · rw [if_pos c, c, zu_s]
    · rw [if_neg c, zu_k c]
      exact h3 i (by omega)
theorem zMD_H {M : zMI} {L : zML} {D : zDD} {p h e r : Nat} (g : zMD M L D) (hp : p < D 0 1) (hh : h < 2) : zMD (zu (zu M 206 (7 * p + 3 + 2 * h) (nI e)) 206 (7 * p + 4 + 2 * h) (nI r)) L (zu (zu D 3 (2 * p + h) e) 4 (2 * p + h) r) := by
  obtain ⟨h1, h2, h3, h5⟩ := g
  unfold zMD
  have f : ∀ o, o ≠ 3 → o ≠ 4 → zu (zu D 3 (2 * p + h) e) 4 (2 * p + h) r o = D o := fun o o1 o2 => by rw [zu_ne o2, zu_ne o1]
  rw [f 0 (by decide) (by decide), f 1 (by decide) (by decide), f 2 (by decide) (by decide), f 5 (by decide) (by decide), f 6 (by decide) (by decide), f 7 (by decide) (by decide)]
  refine ⟨zNs_fr h1 (by rw [zu_ne (by decide), zu_ne (by decide)]) rfl, fun i hi => ?_, fun i hi => by rw [zu_ne (by decide), zu_ne (by decide)]; exact h3 i hi, by rw [zu_ne (by decide), zu_ne (by decide)]; exact h5⟩
  obtain ⟨g1, g2⟩ := h2 i hi
  refine ⟨fun k hk => ?_, by rw [zu_k (by omega), zu_k (by omega)]; exact g2⟩
  obtain ⟨g3, g4, g5⟩ := g1 k hk
  have hk2 : k = 0 ∨ k = 1 := by omega
  have hh2 : h = 0 ∨ h = 1 := by omega
  have m1 : 7 * i + k ≠ 7 * p + 4 + 2 * h := by rcases hk2 with rfl | rfl <;> rcases hh2 with rfl | rfl <;> omega
  have m2 : 7 * i + k ≠ 7 * p + 3 + 2 * h := by rcases hk2 with rfl | rfl <;> rcases hh2 with rfl | rfl <;> omega
  refine ⟨by rw [zu_k m1, zu_k m2]; exact g3, ?_, ?_⟩
  · rw [zu_k (by omega), zu_ne (o' := 3) (by decide), zu_at, zu_at]
    by_cases c : i = p ∧ k = h
    · rw [if_pos ⟨rfl, by omega⟩, if_pos ⟨rfl, by omega⟩]
    · rw [if_neg (fun q => c (by omega)), if_neg (fun q => c (by omega))]
      exact g4
  · rw [zu_at, zu_at (o := 4)]
    by_cases c : i = p ∧ k = h
    · rw [if_pos ⟨rfl, by omega⟩, if_pos ⟨rfl, by omega⟩]
    · rw [if_neg (fun q => c (by omega)), if_neg (fun q => c (by omega)), zu_k (by omega), zu_ne (by decide)]
      exact g5
theorem zMD_T {M : zMI} {L : zML} {D : zDD} {p r : Nat} (g : zMD M L D) : zMD (zu M 206 (7 * p + 2) (nI r)) L (zu D 5 p r) := by
  obtain ⟨h1, h2, h3, h5⟩ := g
  unfold zMD
  have f : ∀ o, o ≠ 5 → zu D 5 p r o = D o := fun o o1 => zu_ne o1
  rw [f 0 (by decide), f 1 (by decide), f 2 (by decide), f 3 (by decide), f 4 (by decide), f 6 (by decide), f 7 (by decide)]
  refine ⟨zNs_fr h1 (by rw [zu_ne (by decide)]) rfl, fun i hi => ?_, fun i hi => by rw [zu_ne (by decide)]; exact h3 i hi, by rw [zu_ne (by decide)]; exact h5⟩
  obtain ⟨g1, g2⟩ := h2 i hi
  refine ⟨fun k hk => ?_, ?_⟩
  · obtain ⟨g3, g4, g5⟩ := g1 k hk
    exact ⟨by rw [zu_k (by omega)]; exact g3, by rw [zu_k (by omega)]; exact g4, by rw [zu_k (by omega)]; exact g5⟩
  · by_cases c : i = p
    · subst c
      rw [zu_s, zu_s]
    · rw [zu_k (by omega), zu_k c]
      exact g2
theorem zMD_G {M : zMI} {L : zML} {D : zDD} {r : Nat} (g : zMD M L D) : zMD (zu M 208 0 (nI r)) L (zu D 0 10 r) := by
  obtain ⟨h1, h2, h3, h5⟩ := g
  have f : ∀ o, o ≠ 0 → zu D 0 10 r o = D o := fun o o1 => zu_ne o1
  unfold zMD
  rw [zu_k (by decide), zu_k (by decide), zu_s, zu_s, f 1 (by decide), f 2 (by decide), f 3 (by decide), f 4 (by decide), f 5 (by decide), f 6 (by decide), f 7 (by decide), zu_ne (by decide), zu_ne (by decide)]
  exact ⟨zNs_fr h1 (by rw [zu_ne (by decide)]) rfl, h2, h3, rfl⟩

