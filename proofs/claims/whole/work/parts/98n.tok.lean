theorem zeL_inj : ∀ (l l' : List Nat), (∀ x, x ∈ l → 97 ≤ x ∧ x ≤ 122) → (∀ x, x ∈ l' → 97 ≤ x ∧ x ≤ 122) → zeL l = zeL l' → l = l'
  | [], [], _, _, _ => rfl
  | [], y :: r', _, h', e => by
    have h1 := h' y (List.mem_cons_self ..)
    have e1 : 0 = (y - 96) + 27 * zeL r' := e
    omega
  | x :: r, [], h, _, e => by
    have h1 := h x (List.mem_cons_self ..)
    have e1 : (x - 96) + 27 * zeL r = 0 := e
    omega
  | x :: r, y :: r', h, h', e => by
    have h1 := h x (List.mem_cons_self ..)
    have h2 := h' y (List.mem_cons_self ..)
    have e1 : (x - 96) + 27 * zeL r = (y - 96) + 27 * zeL r' := e
    rw [zeL_inj r r' (fun z hz => h z (List.mem_cons_of_mem _ hz)) (fun z hz => h' z (List.mem_cons_of_mem _ hz)) (by omega), show x = y by omega]
theorem zkw_inj : ∀ a, a < 30 → ∀ b, b < 30 → zkw a = zkw b → a = b := by decide +kernel
theorem zWL_l : ∀ w, w < 30 → (zWL.getD w []).length ≤ 6 ∧ 1 ≤ (zWL.getD w []).length ∧ ∀ x, x ∈ zWL.getD w [] → 97 ≤ x ∧ x ≤ 122 := by decide +kernel
theorem zfk_c {x : Nat} : ∀ k i, zfk x k i = 99 ∧ (∀ j, i ≤ j → j < i + k → zkw j ≠ x) ∨ (i ≤ zfk x k i ∧ zfk x k i < i + k ∧ zkw (zfk x k i) = x) := by
  intro k
  induction k with
  | zero => intro i; exact Or.inl ⟨rfl, fun j h1 h2 => by omega⟩
  | succ k ih =>
    intro i
    rw [zfk]
    by_cases c : zkw i = x
    · rw [if_pos c]
      exact Or.inr ⟨Nat.le_refl _, by omega, c⟩
    · rw [if_neg c]
      rcases ih (i + 1) with ⟨h1, h2⟩ | ⟨h1, h2, h3⟩
      · refine Or.inl ⟨h1, fun j hj1 hj2 => ?_⟩
        by_cases e : j = i
        · rw [e]; exact c
        · exact h2 j (by omega) (by omega)
      · exact Or.inr ⟨by omega, by omega, h3⟩
theorem zfk_w {x w : Nat} (hw : w < 30) : zfk x 30 0 = w ↔ zkw w = x := by
  rcases zfk_c (x := x) 30 0 with ⟨h1, h2⟩ | ⟨h1, h2, h3⟩
  · constructor
    · intro e; omega
    · intro e; exact absurd e (h2 w (by omega) (by omega))
  · constructor
    · intro e; rw [← e]; exact h3
    · intro e; exact zkw_inj _ (by omega) _ hw (h3.trans e.symm)
theorem zby_get {b : Nat → Nat} {s n j : Nat} (hj : j < n) : (zby b s n)[j]? = some (b (s + j)) := by
  unfold zby
  rw [List.getElem?_map, List.getElem?_range hj]
  rfl
theorem zby_eq {b : Nat → Nat} {s : Nat} {W : List Nat} : zby b s W.length = W ↔ ∀ j, j < W.length → b (s + j) = W.getD j 0 := by
  constructor
  · intro e j hj
    have h1 := zby_get (b := b) (s := s) hj
    rw [e] at h1
    rw [List.getD_eq_getElem?_getD, h1]
    rfl
  · intro h
    apply List.ext_getElem?
    intro j
    by_cases hj : j < W.length
    · rw [zby_get hj, h j hj, List.getD_eq_getElem?_getD, List.getElem?_eq_getElem hj]
      rfl
    · rw [List.getElem?_eq_none (by rw [zby_len]; omega), List.getElem?_eq_none (by omega)]
theorem zTk_01 {b : Nat → Nat} {i j : Nat} {T : zDD} (h : zTk b i T j) : (T j 0 = 1 ↔ zcl (b (T j 1)) = 1 ∧ T j 0 ≠ 4) ∧ (T j 0 = 2 ↔ zcl (b (T j 1)) = 2 ∧ T j 0 ≠ 4) ∧ (zcl (b (T j 1)) ≠ 3 → zEd T j = T j 1 + T j 3) := by
  have hk := zTk_k h
  obtain ⟨a1, a2, a3, a4, a5, a6, a7, a8⟩ := h
  refine ⟨⟨fun e => ⟨?_, by omega⟩, fun e => ?_⟩, ⟨fun e => ⟨?_, by omega⟩, fun e => ?_⟩, fun e => by unfold zEd; rw [if_neg (fun c => e (hk.2.2.mp c))]⟩
  · by_cases c3 : zcl (b (T j 1)) = 3
    · have := (a5 c3).1; omega
    · have := (a6 c3).2.1 (fun z => by have := (a6 c3).1 z; omega)
      omega
  · have := (a6 (by omega)).2.1 (fun z => e.2 ((a6 (by omega)).1 z))
    omega
  · by_cases c3 : zcl (b (T j 1)) = 3
    · have := (a5 c3).1; omega
    · have := (a6 c3).2.1 (fun z => by have := (a6 c3).1 z; omega)
      omega
  · have := (a6 (by omega)).2.1 (fun z => e.2 ((a6 (by omega)).1 z))
    omega
theorem zwd_i {b : Nat → Nat} {len c i w : Nat} {T : zDD} (h : zTok b len T c) (hi : i + 1 < c) (hw : w < 30) : (zcl (b (T i 1)) = 1 ∧ T i 0 ≠ 4 ∧ T i 3 = (zWL.getD w []).length ∧ ∀ j, j < (zWL.getD w []).length → b (T i 1 + j) = (zWL.getD w []).getD j 0) ↔ T i 4 = w := by
  obtain ⟨-, -, ht, -, -, -, -, -, h4⟩ := h
  have hk := ht i hi
  obtain ⟨q1, -, q3⟩ := zTk_01 hk
  obtain ⟨a1, a2, a3, a4, a5, a6, a7, a8⟩ := hk
  obtain ⟨w6, w1, wl⟩ := zWL_l w hw
  rw [h4 i (by omega)]
  unfold zwv
  constructor
  · rintro ⟨k1, k2, k3, k4⟩
    rw [if_pos ⟨q1.mpr ⟨k1, k2⟩, by omega⟩, zfk_w hw, a7 k1, k3, Nat.min_eq_left w6, zby_eq.mpr k4]
    rfl
  · intro e
    by_cases c : T i 0 = 1 ∧ T i 3 ≤ 6
    · rw [if_pos c, zfk_w hw] at e
      obtain ⟨k1, k2⟩ := q1.mp c.1
      have e2 := a7 k1
      rw [Nat.min_eq_left c.2] at e2
      have e3 : zeL (zWL.getD w []) = zeL (zby b (T i 1) (T i 3)) := e.trans e2
      have e4 := zeL_inj _ _ wl (fun x hx => by
        obtain ⟨k, hk1, rfl⟩ := List.mem_map.mp hx
        have hk2 := List.mem_range.mp hk1
        have hz := q3 (by omega)
        exact zcl_1 ((a4 (T i 1 + k) (by omega) (by omega)).trans k1)) e3
      have e5 : (zWL.getD w []).length = T i 3 := by rw [e4, zby_len]
      refine ⟨k1, k2, e5.symm, zby_eq.mp ?_⟩
      rw [e5]
      exact e4.symm
    · rw [if_neg c] at e
      omega
-- where the last word or number ended, as the reference keeps it
def zEn (T : zDD) (i : Nat) (e : Int32) : Prop := if i = 0 then e = -1 else if T (i - 1) 0 = 3 then (e = -1 ∨ ∃ k, e = nI k ∧ k ≤ T (i - 1) 1) else e = nI (zEd T (i - 1))
theorem zTok_S {b : Nat → Nat} {len c i a : Nat} {T : zDD} (h : zTok b len T c) (hi : i < c) (ha : zgE T i ≤ a) (hs : a ≤ T i 1) : zSs b len a (T i 1) (T i 3) := by
  obtain ⟨h1, h2, ht, e0, e1, e2, e3, hg, h4⟩ := h
  have hgi := hg i (by omega)
  have hgs : zgS T (c - 1) len i = T i 1 := by
    unfold zgS
    split
    · rename_i e; rw [e, e1]
    · rfl
  rw [hgs] at hgi
  by_cases ec : i + 1 < c
  · have hk := ht i ec
    obtain ⟨-, -, q3⟩ := zTk_01 hk
    obtain ⟨a1, a2, a3, a4, a5, a6, a7, a8⟩ := hk
    refine ⟨hs, by omega, fun k k1 k2 => hgi.2 k (by omega) k2, fun _ => a3, fun _ c3 => ?_⟩
    have hz := q3 c3
    rw [hz] at a1 a2 a4 a6
    exact ⟨a2, a4, fun c4 => (a6 c3).2.2.2 c4, by omega⟩
  · have ei : i = c - 1 := by omega
    have es : T i 1 = len := by rw [ei]; exact e1
    exact ⟨hs, by omega, fun k k1 k2 => hgi.2 k (by omega) k2, fun c3 => by omega, fun c3 => by omega⟩
theorem zEn_4 {b : Nat → Nat} {len c i : Nat} {T : zDD} {e : Int32} (h : zTok b len T c) (hl : len ≤ 1600) (hi : i + 1 < c) (he : zEn T i e) (hc : zcl (b (T i 1)) ≠ 3) : e = nI (T i 1) ↔ T i 0 = 4 := by
  obtain ⟨h1, h2, ht, e0, e1, e2, e3, hg, h4⟩ := h
  have hgi := hg i (by omega)
  have hgs : zgS T (c - 1) len i = T i 1 := by
    unfold zgS
    rw [if_neg (by omega)]
  rw [hgs] at hgi
  have hk := ht i hi
  obtain ⟨a1, a2, a3, a4, a5, a6, a7, a8⟩ := hk
  have hz4 : T i 0 = 4 ↔ zal b (T i 1) := ⟨fun x => Classical.byContradiction fun hh => by have := (a6 hc).2.1 hh; have := zcl_le (b (T i 1)); omega, (a6 hc).1⟩
  have hs16 : T i 1 < 1600 := by omega
  rw [hz4]
  have hm1 : ∀ k, k < 2000 → (-1 : Int32) ≠ nI k := fun k hk x => by
    have := congrArg Int32.toInt x
    rw [nI_toInt (by omega)] at this
    have h1 : (-1 : Int32).toInt = -1 := rfl
    omega
  have hin : ∀ j k, j < 2000 → k < 2000 → nI j = nI k → j = k := fun j k hj hk x => by
    have := congrArg Int32.toInt x
    rw [nI_toInt (by omega), nI_toInt (by omega)] at this
    omega
  unfold zEn at he
  unfold zgE at hgi
  by_cases ei : i = 0
  · rw [if_pos ei] at he hgi
    constructor
    · intro x
      rw [he] at x
      exact absurd x (hm1 _ (by omega))
    · rintro ⟨z1, z2⟩
      have := hgi.2 (T i 1 - 1) (by omega) (by omega)
      omega
  · rw [if_neg ei] at he hgi
    have hp := ht (i - 1) (by omega)
    have hpk := zTk_k hp
    obtain ⟨b1, b2, b3, b4, b5, b6, b7, b8⟩ := hp
    by_cases e3' : T (i - 1) 0 = 3
    · rw [if_pos e3'] at he
      constructor
      · intro x
        rcases he with he | ⟨k, he, hk2⟩
        · rw [he] at x
          exact absurd x (hm1 _ (by omega))
        · rw [he] at x
          have := hin _ _ (by omega) (by omega) x
          omega
      · rintro ⟨z1, z2⟩
        have hne : ¬ zEd T (i - 1) ≤ T i 1 - 1 := fun hh => by
          have := hgi.2 (T i 1 - 1) hh (by omega)
          omega
        have hz := b4 (T i 1 - 1) (by omega) (by omega)
        have := hpk.2.2.mp e3'
        omega
    · rw [if_neg e3'] at he
      have h3 : zcl (b (T (i - 1) 1)) ≠ 3 := fun x => e3' (hpk.2.2.mpr x)
      have hle3 := zcl_le (b (T (i - 1) 1))
      constructor
      · intro x
        rw [he] at x
        have hx := hin _ _ (by omega) (by omega) x
        have hz := b4 (T i 1 - 1) (by omega) (by omega)
        exact ⟨by omega, by omega⟩
      · rintro ⟨z1, z2⟩
        have hne : ¬ zEd T (i - 1) ≤ T i 1 - 1 := fun hh => by
          have := hgi.2 (T i 1 - 1) hh (by omega)
          omega
        rw [he]
        congr 1
        omega
-- a word stands at a token
theorem zHe {b : Nat → Nat} {len c i w : Nat} {T : zDD} {e : Int32} (h : zTok b len T c) (hl : len ≤ 1600) (hi : i < c) (he : zEn T i e) (hw : w < 30) : (T i 1 < len ∧ zcl (b (T i 1)) = 1 ∧ e ≠ nI (T i 1) ∧ T i 3 = (zWL.getD w []).length ∧ ∀ j, j < (zWL.getD w []).length → b (T i 1 + j) = (zWL.getD w []).getD j 0) ↔ T i 4 = w := by
  by_cases ec : i + 1 < c
  · rw [← zwd_i h ec hw]
    have hk := h.2.2.1 i ec
    have hlt : T i 1 < len := by have := hk.1; have := hk.2.1; omega
    constructor
    · rintro ⟨-, k1, k2, k3, k4⟩
      exact ⟨k1, fun x => k2 ((zEn_4 h hl ec he (by omega)).mpr x), k3, k4⟩
    · rintro ⟨k1, k2, k3, k4⟩
      exact ⟨hlt, k1, fun x => k2 ((zEn_4 h hl ec he (by omega)).mp x), k3, k4⟩
  · have ei : i = c - 1 := by omega
    obtain ⟨h1, h2, ht, e0, e1, e2, e3, hg, h4⟩ := h
    constructor
    · rintro ⟨x, -⟩
      rw [ei, e1] at x
      omega
    · intro x
      rw [h4 i hi] at x
      unfold zwv at x
      rw [if_neg (by rw [ei, e0]; omega)] at x
      omega
-- the reference stands at a token, without a fault
def zAt (M : zMI) (b : Nat → Nat) (len : Nat) (T : zDD) (c i : Nat) : Prop := zTa M b len ∧ M 177 5 = nI 0 ∧ i < c ∧ (∃ a, M 177 2 = nI a ∧ zgE T i ≤ a ∧ a ≤ T i 1) ∧ zEn T i (M 177 4)
-- what reading changes of the reference
def zPf (M M' : zMI) : Prop := (∀ x, x ≠ 177 → M' x = M x) ∧ ∀ k, k ≠ 2 → k ≠ 4 → k ≠ 5 → k ≠ 6 → k ≠ 34 → M' 177 k = M 177 k
theorem zPf_r {M : zMI} : zPf M M := ⟨fun _ _ => rfl, fun _ _ _ _ _ _ => rfl⟩
theorem zPf_t {M M' M'' : zMI} (h : zPf M M') (h' : zPf M' M'') : zPf M M'' := ⟨fun x a => by rw [h'.1 x a, h.1 x a], fun k a b c d e => by rw [h'.2 k a b c d e, h.2 k a b c d e]⟩
theorem zAt_l {M M' : zMI} {b : Nat → Nat} {len c i : Nat} {T : zDD} (h : zAt M b len T c i) (hT : zTok b len T c) (g1 : M' 177 2 = nI (T i 1)) (g2 : ∀ k, k ≠ 2 → M' 177 k = M 177 k) (g3 : ∀ x, x ≠ 177 → M' x = M x) : zAt M' b len T c i := by
  obtain ⟨a1, a2, a3, ⟨a, a4, a5, a6⟩, a7⟩ := h
  exact ⟨zTa_fr a1 (g2 3 (by decide)) (g3 178 (by decide)), by rw [g2 5 (by decide)]; exact a2, a3, ⟨T i 1, g1, by omega, Nat.le_refl _⟩, by rw [g2 4 (by decide)]; exact a7⟩
theorem zTok_len {b : Nat → Nat} {len c i : Nat} {T : zDD} (h : zTok b len T c) (hi : i < c) : T i 1 ≤ len ∧ (T i 1 < len ↔ i + 1 < c) := by
  by_cases ec : i + 1 < c
  · have hk := h.2.2.1 i ec
    have h1 := hk.1
    have h2 := hk.2.1
    exact ⟨by omega, ⟨fun _ => ec, fun _ => by omega⟩⟩
  · have e : T i 1 = len := by rw [show i = c - 1 by omega]; exact h.2.2.2.2.1
    exact ⟨by omega, ⟨fun x => by omega, fun x => absurd x ec⟩⟩
-- the words' cells
def zWc (M : zMI) (wa w : Nat) : Prop := w < 30 ∧ 180 ≤ wa ∧ SS[wa]? = some (.inl ((zWL.getD w []).length, .char)) ∧ zWd M wa w
theorem zWc_w {M : zMI} {wa w : Nat} (h : zWc M wa w) : ∀ i, i < (zWL.getD w []).length → M wa i = nI ((zWL.getD w []).getD i 0) ∧ (zWL.getD w []).getD i 0 < 65536 := by
  obtain ⟨h1, -, -, h2⟩ := h
  intro i hi
  have hl := (zWL_l w h1).2.2
  have e : (zWL.getD w [])[i]? = some ((zWL.getD w []).getD i 0) := by
    rw [List.getD_eq_getElem?_getD (l := zWL.getD w []), List.getElem?_eq_getElem hi]
    rfl
  refine ⟨h2 i _ e, ?_⟩
  have := hl _ (List.mem_of_getElem? e)
  omega
-- a weaker post
theorem Sy_mo {y : MethodName} {Y : zY} {d : Nat} {as : List Value} {M : zMI} {L : zML} {R : zMR} {P P' : Option Value → zMI → zML → zMR → Prop} (h : Sy y Y d as M L R P) (hp : ∀ v M' L' R', P v M' L' R' → P' v M' L' R') : Sy y Y d as M L R P' := by
  intro l w p e h1 h2 h3 s m args below h4 h5 h6 h7
  obtain ⟨n, o, a, b, c, ⟨⟨v, S', M', L', R', e1, ⟨e2, e3⟩, e4⟩, e5⟩, f⟩ := h l w p e h1 h2 h3 s m args below h4 h5 h6 h7
  exact ⟨n, o, a, b, c, ⟨⟨v, S', M', L', R', e1, ⟨e2, hp v M' L' R' e3⟩, e4⟩, e5⟩, f⟩
theorem sp_mHere {d t len c i wa w0 : Nat} {M : zMI} {L : zML} {b : Nat → Nat} {T : zDD} (h : zAt M b len T c i) (hT : zTok b len T c) (hw : zWc M wa w0) : Sy yX12_isHere YX12_isHere (d + 1) [.ref 177, .ref wa] M L (zRf t) (fun v0 M' L' R' => v0 = some (.int (nI (zb01 (decide (T i 4 = w0))))) ∧ L = L' ∧ R' = zRf t ∧ zAt M' b len T c i ∧ M' 177 2 = nI (T i 1) ∧ (∀ k, k ≠ 2 → M' 177 k = M 177 k) ∧ ∀ x, x ≠ 177 → M' x = M x) := by
  have hA := h
  obtain ⟨a1, a2, a3, ⟨a, a4, a5, a6⟩, a7⟩ := h
  have hl6 := (zWL_l w0 hw.1).1
  refine Sy_mo (sp_misHere (d := d) (L := L) (o := decide (T i 4 = w0)) a1 a2 a4 rfl (zTok_S hT a3 a5 a6) hw.2.2.1 (by have := hw.2.1; omega) (by omega) (zWc_w hw) (by rw [decide_eq_true_eq]; exact zHe hT a1.2.1 a3 a7 hw.1)) ?_
  rintro v M' L' R' ⟨e1, e2, e3, e4, e5, e6⟩
  exact ⟨e1, e2, e3, zAt_l hA hT e4 e5 e6, e4, e5, e6⟩

