-- an argument that is one of so many
abbrev zin (x : Int32) (m : Nat) : Prop := 0 ≤ x ∧ x < nI m
theorem zin_n {x : Int32} {m : Nat} (hm : m < 2147483648) (h : zin x m) : ∃ s, s < m ∧ x = nI s := by
  obtain ⟨h1, h2⟩ := h
  rw [Int32.le_iff_toInt_le] at h1
  rw [Int32.lt_iff_toInt_lt, nI_toInt hm] at h2
  have h0 : (0 : Int32).toInt = 0 := rfl
  rw [h0] at h1
  refine ⟨x.toInt.toNat, by omega, ?_⟩
  apply Int32.toInt_inj.mp
  rw [nI_toInt (by omega)]
  omega
theorem zin_i {s m : Nat} (hs : s < m) (hm : m < 2147483648) : zin (nI s) m := ⟨nI_pos' (by omega), (nI_ltI (by omega) hm).mpr hs⟩
theorem zin_t {x : Int32} {m : Nat} (hm : m < 2147483648) (h : ¬ zin x m) : x.toInt < 0 ∨ (m : Int) ≤ x.toInt := by
  by_cases c : x.toInt < 0
  · exact Or.inl c
  · refine Or.inr ?_
    refine Classical.byContradiction fun hh => h ⟨?_, ?_⟩
    · rw [Int32.le_iff_toInt_le]
      have h0 : (0 : Int32).toInt = 0 := rfl
      omega
    · rw [Int32.lt_iff_toInt_lt, nI_toInt hm]
      omega
-- the class' own state: names, boxes, their names, duds, bang, arms and sums; tape, refusals, seed, fault, its place, picture
abbrev zGd : Type := (Nat → Nat) × Nat × (Nat → Nat) × (Nat → Nat) × Nat × zTb
abbrev zMs : Type := Nat × (Nat → Nat) × (Nat → Int32) × Nat × Int32 × Int32 × Nat × (Nat → Nat)
def zCt (M : zMI) (t n : Nat) (g : zGd) : Prop := M t 1 = nI n ∧ (∀ i, i < n → M (t + 1) i = nI (g.1 i) ∧ g.1 i < 2147483648) ∧ M t 7 = nI g.2.1 ∧ g.2.1 ≤ 4 ∧ (∀ i, i < g.2.1 → M (t + 6) i = nI (g.2.2.1 i) ∧ g.2.2.1 i < 2147483648) ∧ (∀ i, i < g.2.1 → M (t + 7) i = nI (g.2.2.2.1 i) ∧ g.2.2.2.1 i ≤ 100) ∧ M t 10 = nI g.2.2.2.2.1 ∧ g.2.2.2.2.1 ≤ 100 ∧ zTM M t n g.2.2.2.2.2
def zCm (M : zMI) (m : zMs) : Prop := M 0 1 = nI m.1 ∧ m.1 ≤ 1600 ∧ (∀ i, i < m.1 → M 1 i = nI (m.2.1 i) ∧ m.2.1 i < 256) ∧ (∀ i, i < 6 → M 176 i = m.2.2.1 i) ∧ M 0 15 = nI m.2.2.2.1 ∧ m.2.2.2.1 < 2147483648 ∧ M 0 16 = m.2.2.2.2.1 ∧ M 0 17 = m.2.2.2.2.2.1 ∧ M 0 14 = nI m.2.2.2.2.2.2.1 ∧ m.2.2.2.2.2.2.1 ≤ 55 ∧ ∀ i, i < m.2.2.2.2.2.2.1 → M 175 i = nI (m.2.2.2.2.2.2.2 i)
def zbR (tb : zTb) (n : Nat) (v : Nat → Nat) : Nat × List Nat := (zxt n (n - 1) [0]).foldl (zbt (zW tb v) n) (1000000000000, [])
def zCk (M : zMI) (L : zML) (n : Nat) (tb : zTb) (v : Nat → Nat) : Prop := (M 156 3 = nI 0 ∨ (M 156 3 = nI 1 ∧ M 156 4 = nI (zse tb n 12 1 v).1 ∧ zSR M 162 n (zse tb n 12 1 v).2)) ∧ (M 167 7 = nI 0 ∨ (M 167 7 = nI 1 ∧ 2 ≤ n ∧ zRb M L n (zbR tb n v)))
def zDx (M : zMI) (u : Nat) : Prop := ∃ D Fm Fs, zDT M u D ∧ zFT M (u + 8) Fm ∧ zFT M (u + 11) Fs
def zCI (M : zMI) (L : zML) (t n : Nat) (g : zGd) (v : Nat → Nat) (hs : List (Nat → Nat)) (m : zMs) : Prop := zTab t ∧ zV n v ∧ zCt M t n g ∧ zSR M 43 n v ∧ (∃ nx, zHi M n nx hs) ∧ zPM M ∧ zCk M L n g.2.2.2.2.2 v ∧ zCm M m ∧ zDx M 10 ∧ zDx M 24 ∧ zkn M
theorem zCt_fr {M M' : zMI} {t n : Nat} {g : zGd} (h : zCt M t n g) (e : ∀ x, t ≤ x → x ≤ t + 12 → x ≠ t + 10 → M' x = M x) : zCt M' t n g := by
  obtain ⟨a1, a2, a3, a4, a5, a6, a7, a8, a9⟩ := h
  have e0 := e t (by omega) (by omega) (by omega)
  refine ⟨by rw [e0]; exact a1, fun i hi => by rw [e (t + 1) (by omega) (by omega) (by omega)]; exact a2 i hi, by rw [e0]; exact a3, a4, fun i hi => by rw [e (t + 6) (by omega) (by omega) (by omega)]; exact a5 i hi, fun i hi => by rw [e (t + 7) (by omega) (by omega) (by omega)]; exact a6 i hi, by rw [e0]; exact a7, a8, zTM_fr a9 e⟩
theorem zHi_fr {M M' : zMI} {n nx : Nat} {hs : List (Nat → Nat)} (h : zHi M n nx hs) (e : ∀ x, 48 ≤ x → x < 150 → M' x = M x) : zHi M' n nx hs := by
  obtain ⟨a1, a2, a3, a4, a5⟩ := h
  refine ⟨a1, a2, by rw [e 48 (by omega) (by omega)]; exact a3, by rw [e 48 (by omega) (by omega)]; exact a4, fun i v hi => ⟨(a5 i v hi).1, zSR_fr (a5 i v hi).2 (fun x x1 x2 => e x (by omega) (by omega))⟩⟩
theorem zCm_fr {M M' : zMI} {m : zMs} (h : zCm M m) (e0 : M' 0 = M 0) (e1 : M' 1 = M 1) (e2 : M' 175 = M 175) (e3 : M' 176 = M 176) : zCm M' m := by
  unfold zCm at *
  rw [e0, e1, e2, e3]
  exact h
theorem zRb_fr {M M' : zMI} {L L' : zML} {n : Nat} {a : Nat × List Nat} (h : zRb M L n a) (e : M' 171 = M 171) (e2 : L' 167 6 = L 167 6) : zRb M' L' n a := by
  unfold zRb at *
  rw [e, e2]
  exact h
theorem zCk_fr {M M' : zMI} {L L' : zML} {n : Nat} {tb : zTb} {v : Nat → Nat} (h : zCk M L n tb v) (e1 : M' 156 3 = M 156 3) (e1' : M' 156 4 = M 156 4) (e2 : ∀ x, 162 ≤ x → x ≤ 167 → M' x = M x) (e3 : M' 171 = M 171) (e4 : L' 167 6 = L 167 6) : zCk M' L' n tb v := by
  obtain ⟨a, b⟩ := h
  refine ⟨?_, ?_⟩
  · rcases a with a | ⟨a1, a2, a3⟩
    · exact Or.inl (by rw [e1]; exact a)
    · exact Or.inr ⟨by rw [e1]; exact a1, by rw [e1']; exact a2, zSR_fr a3 (fun x x1 x2 => e2 x (by omega) (by omega))⟩
  · rcases b with b | ⟨b1, b2, b3⟩
    · exact Or.inl (by rw [e2 167 (by omega) (by omega)]; exact b)
    · exact Or.inr ⟨by rw [e2 167 (by omega) (by omega)]; exact b1, b2, zRb_fr b3 e3 e4⟩
theorem zDx_fr {M M' : zMI} {u : Nat} (h : zDx M u) (e : ∀ x, u ≤ x → x ≤ u + 12 → x ≠ u + 10 → M' x = M x) : zDx M' u := by
  obtain ⟨D, Fm, Fs, a, b, c⟩ := h
  refine ⟨D, Fm, Fs, fun o k ho hk => ?_, zFT_fr b (e _ (by omega) (by omega) (by omega)) (e _ (by omega) (by omega) (by omega)), zFT_fr c (e _ (by omega) (by omega) (by omega)) (e _ (by omega) (by omega) (by omega))⟩
  rw [e (u + o) (by omega) (by omega) (by omega)]
  exact a o k ho hk
theorem zPM_fr {M M' : zMI} (h : zPM M) (e : M' 151 = M 151) : zPM M' := by
  unfold zPM at *
  rw [e]
  exact h
-- cells that may hold anything between two calls
def zScr (x : Nat) : Prop := (2 ≤ x ∧ x ≤ 7) ∨ x = 9 ∨ x = 20 ∨ x = 23 ∨ x = 34 ∨ x = 37 ∨ (38 ≤ x ∧ x ≤ 42) ∨ (151 ≤ x ∧ x ≤ 155) ∨ (157 ≤ x ∧ x ≤ 161) ∨ (168 ≤ x ∧ x ≤ 170) ∨ x = 173 ∨ x = 174
theorem zCI_scr {M M' : zMI} {L L' : zML} {t n : Nat} {g : zGd} {v : Nat → Nat} {hs : List (Nat → Nat)} {m : zMs} (h : zCI M L t n g v hs m) (hp : zPM M') (e : ∀ x, x < 177 → ¬ zScr x → x ≠ 156 → M' x = M x) (e1 : M' 156 3 = M 156 3) (e1' : M' 156 4 = M 156 4) (e4 : L' 167 6 = L 167 6) : zCI M' L' t n g v hs m := by
  obtain ⟨a1, a2, a3, a4, ⟨nx, a5⟩, a6, a7, a8, a9, a10, a11⟩ := h
  have ht2 : t = 10 ∨ t = 24 := a1
  refine ⟨a1, a2, zCt_fr a3 (fun x x1 x2 x3 => e x (by omega) (by unfold zScr; omega) (by omega)), zSR_fr a4 (fun x x1 x2 => e x (by omega) (by unfold zScr; omega) (by omega)), ⟨nx, zHi_fr a5 (fun x x1 x2 => e x (by omega) (by unfold zScr; omega) (by omega))⟩, hp, zCk_fr a7 e1 e1' (fun x x1 x2 => e x (by omega) (by unfold zScr; omega) (by omega)) (e 171 (by omega) (by unfold zScr; omega) (by omega)) e4, zCm_fr a8 (e 0 (by omega) (by unfold zScr; omega) (by omega)) (e 1 (by omega) (by unfold zScr; omega) (by omega)) (e 175 (by omega) (by unfold zScr; omega) (by omega)) (e 176 (by omega) (by unfold zScr; omega) (by omega)), zDx_fr a9 (fun x x1 x2 x3 => e x (by omega) (by unfold zScr; omega) (by omega)), zDx_fr a10 (fun x x1 x2 x3 => e x (by omega) (by unfold zScr; omega) (by omega)), fun w hw => by rw [e 8 (by omega) (by unfold zScr; omega) (by omega)]; exact a11 w hw⟩
def zMup (m : zMs) (k : Nat) : zMs := (m.1, m.2.1, (fun i => if i = k then m.2.2.1 i + 1 else m.2.2.1 i), m.2.2.2)
-- the frame of a call on the class: the model's cells stay
def zXf (M M' : zMI) (L L' : zML) : Prop := ∀ x, 177 ≤ x → M' x = M x ∧ L' x = L x

