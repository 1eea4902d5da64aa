theorem zMsu_v {M M' : zMI} {w : Nat} {pp : Option zFl} (h : zMsu M w pp) (e1 : M' 209 (2 + w) = M 209 (2 + w)) (e2 : M' 210 (2 + w) = M 210 (2 + w)) (e3 : ∀ k, 1600 ≤ k → M' 211 k = M 211 k) : zMsu M' w pp := by
  unfold zMsu at *
  cases pp with
  | none => show M' 209 (2 + w) = -1; rw [e1]; exact h
  | some F =>
    obtain ⟨f, h1, h2, h3, h4, h5⟩ := h
    exact ⟨f, by rw [e1]; exact h1, by rw [e2]; exact h2, h3, fun i op a hi => by rw [e3 _ (Nat.le_add_right _ _)]; exact h4 i op a hi, h5⟩
def zVx (o k : Nat) : Prop := zUx o k ∨ (o = 177 ∧ (k = 1 ∨ k = 3 ∨ k = 7 ∨ k = 8))
theorem zVx_n {o k : Nat} (h1 : o ≠ 177) (h2 : o ≠ 204 ∨ 2 ≤ k) (h3 : o ≠ 206 ∨ 56 ≤ k) (h4 : o ≠ 207 ∨ 4 ≤ k) (h5 : o ≠ 208 ∨ 1 ≤ k) (h6 : o ≠ 209 ∨ 2 ≤ k) (h7 : o ≠ 210 ∨ 2 ≤ k) (h8 : o ≠ 211 ∨ 1600 ≤ k) (h9 : o ≠ 212) : ¬ zVx o k := by
  rintro ((⟨a, b⟩ | ⟨a, b⟩ | ⟨a, b⟩ | ⟨a, b⟩ | ⟨a, b⟩) | ⟨a, b⟩ | ⟨a | a, b⟩ | ⟨a, b⟩ | a) <;> omega
theorem zVx_7 {k : Nat} (h : k = 42 ∨ k = 66 ∨ k = 67 ∨ k = 98 ∨ 6 < k) (h7 : k ≠ 7) (h8 : k ≠ 8) (h34 : k ≠ 34) (h42 : k ≠ 42) (h44 : k ≠ 44) (h46 : k ≠ 46) (h47 : k ≠ 47) (h48 : k ≠ 48) : ¬ zVx 177 k := by
  unfold zVx zUx zTx
  omega
theorem zMo_v {M M' : zMI} {L L' : zML} {n : Nat} {g : zGd} {v : Nat → Nat} {hs : List (Nat → Nat)} {m m' : zMs} (h : zMo M L n g v hs m) (e : ∀ o k, ¬ zVx o k → M' o k = M o k) (l : ∀ o k, ¬ (o = 205 ∧ k < 12) → L' o k = L o k) (hm : zMm M' L' m') : zMo M' L' n g v hs m' := by
  obtain ⟨⟨a1, a2, a3, a4, a5⟩, ⟨b1, b2, b3, b4, b5, b6, b7⟩, hk, hmm, hw⟩ := h
  have ex : ∀ o k, o ≠ 177 → o ≠ 204 → o ≠ 206 → o ≠ 207 → o ≠ 208 → o ≠ 209 → o ≠ 210 → o ≠ 211 → o ≠ 212 → M' o k = M o k := fun o k _ _ _ _ _ _ _ _ _ => e o k (zVx_n (by assumption) (Or.inl (by assumption)) (Or.inl (by assumption)) (Or.inl (by assumption)) (Or.inl (by assumption)) (Or.inl (by assumption)) (Or.inl (by assumption)) (Or.inl (by assumption)) (by assumption))
  have e204 : ∀ k, 2 ≤ k → M' 204 k = M 204 k := fun k hk => e _ _ (zVx_n (by decide) (Or.inr hk) (Or.inl (by decide)) (Or.inl (by decide)) (Or.inl (by decide)) (Or.inl (by decide)) (Or.inl (by decide)) (Or.inl (by decide)) (by decide))
  have e206 : ∀ k, 56 ≤ k → M' 206 k = M 206 k := fun k hk => e _ _ (zVx_n (by decide) (Or.inl (by decide)) (Or.inr hk) (Or.inl (by decide)) (Or.inl (by decide)) (Or.inl (by decide)) (Or.inl (by decide)) (Or.inl (by decide)) (by decide))
  have e207 : ∀ k, 4 ≤ k → M' 207 k = M 207 k := fun k hk => e _ _ (zVx_n (by decide) (Or.inl (by decide)) (Or.inl (by decide)) (Or.inr hk) (Or.inl (by decide)) (Or.inl (by decide)) (Or.inl (by decide)) (Or.inl (by decide)) (by decide))
  have e208 : ∀ k, 1 ≤ k → M' 208 k = M 208 k := fun k hk => e _ _ (zVx_n (by decide) (Or.inl (by decide)) (Or.inl (by decide)) (Or.inl (by decide)) (Or.inr hk) (Or.inl (by decide)) (Or.inl (by decide)) (Or.inl (by decide)) (by decide))
  have e209 : ∀ k, 2 ≤ k → M' 209 k = M 209 k := fun k hk => e _ _ (zVx_n (by decide) (Or.inl (by decide)) (Or.inl (by decide)) (Or.inl (by decide)) (Or.inl (by decide)) (Or.inr hk) (Or.inl (by decide)) (Or.inl (by decide)) (by decide))
  have e210 : ∀ k, 2 ≤ k → M' 210 k = M 210 k := fun k hk => e _ _ (zVx_n (by decide) (Or.inl (by decide)) (Or.inl (by decide)) (Or.inl (by decide)) (Or.inl (by decide)) (Or.inl (by decide)) (Or.inr hk) (Or.inl (by decide)) (by decide))
  have e211 : ∀ k, 1600 ≤ k → M' 211 k = M 211 k := fun k hk => e _ _ (zVx_n (by decide) (Or.inl (by decide)) (Or.inl (by decide)) (Or.inl (by decide)) (Or.inl (by decide)) (Or.inl (by decide)) (Or.inl (by decide)) (Or.inr hk) (by decide))
  have l5 : ∀ k, 12 ≤ k → L' 205 k = L 205 k := fun k hk => l _ _ (by omega)
  refine ⟨⟨by rw [e204 2 (by decide)]; exact a1, ⟨a2.1, fun j hj => by rw [ex 215 j (by decide) (by decide) (by decide) (by decide) (by decide) (by decide) (by decide) (by decide) (by decide)]; exact a2.2 j hj⟩, fun p hh hp hh2 => by rw [e206 _ (by omega)]; exact a3 p hh hp hh2, zMsu_v a4 (e209 _ (by omega)) (e210 _ (by omega)) e211, zMsu_v a5 (e209 _ (by omega)) (e210 _ (by omega)) e211⟩, ⟨by rw [e204 3 (by decide)]; exact b1, b2, fun i hi => by rw [l5 _ (by omega)]; exact b3 i hi, fun i hi => by rw [l5 _ (by omega)]; exact b4 i hi, fun j hj => by rw [e207 _ (by omega)]; exact b5 j hj, by rw [e208 1 (by decide)]; exact b6, b7⟩, zMk_fr hk (e _ _ (zVx_7 (by decide) (by decide) (by decide) (by decide) (by decide) (by decide) (by decide) (by decide) (by decide))) (e _ _ (zVx_7 (by decide) (by decide) (by decide) (by decide) (by decide) (by decide) (by decide) (by decide) (by decide))) (funext fun k => ex 226 k (by decide) (by decide) (by decide) (by decide) (by decide) (by decide) (by decide) (by decide) (by decide)), hm, zWds_fr hw (fun x hx => funext fun k => ex x k (by omega) (by omega) (by omega) (by omega) (by omega) (by omega) (by omega) (by omega) (by omega))⟩
theorem zMm_v {M M' : zMI} {L L' : zML} {m : zMs} {a b : Int32} (h : zMm M L m) (e : ∀ o k, ¬ zVx o k → M' o k = M o k) (l : ∀ o k, ¬ (o = 205 ∧ k < 12) → L' o k = L o k) (e1 : M' 177 1 = nI 0) (e7 : M' 177 7 = a) (e8 : M' 177 8 = b) : zMm M' L' (zMf m a b) := by
  obtain ⟨c1, c2, c3, c4, c5, c6, c7, c8, c9, c10, c11⟩ := h
  have ex : ∀ o k, (o = 179 ∨ o = 248) → M' o k = M o k := fun o k ho => e o k (zVx_n (by omega) (Or.inl (by omega)) (Or.inl (by omega)) (Or.inl (by omega)) (Or.inl (by omega)) (Or.inl (by omega)) (Or.inl (by omega)) (Or.inl (by omega)) (by omega))
  exact ⟨e1, Nat.zero_le _, fun i hi => absurd hi (Nat.not_lt_zero _), fun i hi => by rw [ex _ _ (Or.inl rfl)]; exact c4 i hi, by rw [l 177 68 (by omega)]; exact c5, c6, e7, e8, by rw [e 177 98 (zVx_7 (by decide) (by decide) (by decide) (by decide) (by decide) (by decide) (by decide) (by decide) (by decide))]; exact c9, c10, fun i hi => by rw [ex _ _ (Or.inr rfl)]; exact c11 i hi⟩
theorem zMsu_std {M M' : zMI} {w a cod : Nat} {F : zFl} (hw : w ≤ 1) (h : zMsw M w a F cod) (ha : a ≤ 1) (hF : a = 1 → zFok F) (e9 : M' 209 (2 + w) = M 209 w) (e10 : M' 210 (2 + w) = M 210 w) (e11 : ∀ k, k < cod → M' 211 (1600 + k) = M 211 k) : zMsu M' w (if a = 1 then some F else none) := by
  unfold zMsu
  by_cases c : a = 1
  · rw [if_pos c]
    obtain ⟨h0, f, h1, h2, h3, h4, h5⟩ := h.2 (by omega)
    refine ⟨f, by rw [e9]; exact h1, by rw [e10]; exact h2, by omega, fun i op x hi => ?_, (hF c).1⟩
    have hl : i < F.length := by
      refine Classical.byContradiction fun hh => ?_
      rw [List.getElem?_eq_none (by omega)] at hi
      cases hi
    rw [e11 _ (by omega)]
    have hm := h0 (op, x) (List.mem_of_getElem? hi)
    exact ⟨h5 i op x hi, hm⟩
  · rw [if_neg c]
    show M' 209 (2 + w) = -1
    rw [e9]
    exact h.1 (by omega)
theorem zMo_std {M M' : zMI} {L L' : zML} {D : zDD} {Fm Fs : zFl} {cod : Nat} {m : zMs} (hD : zMD M L D) (hs0 : zMsw M 0 (D 0 11) Fm cod) (hs1 : zMsw M 1 (D 0 12) Fs cod) (hS : zStd M M' L L' (D 0 1) cod) (hi : zDi D) (hc : zDc D) (h0 : D 0 11 = 1 → zFok Fm) (h1 : D 0 12 = 1 → zFok Fs) (hm : zMm M' L' m) (hw : zWds M') (hn : ∃ nw, nw < 20 ∧ M' 177 67 = nI nw) : zMo M' L' (D 0 1) (zTg D Fm Fs) (zv0 D) [] m := by
  obtain ⟨s1, s2, s3, s4, s5, s6, ⟨s7, s7'⟩, s8, s9, s10⟩ := hS
  obtain ⟨⟨n1, n2, n3, n4, n5, n6⟩, g2, g3, g4⟩ := hD
  obtain ⟨i1, i2, i3, i4⟩ := hi
  obtain ⟨nw, k1, k2⟩ := hn
  refine ⟨⟨by rw [show (2 : Nat) = 2 + 0 from rfl, (s1 0 (by decide)).1]; exact n1, ⟨zV_0 n2 ⟨i1, i2, i3, i4⟩, fun j hj => ?_⟩, fun p h hp hh => ?_, zMsu_std (by decide) hs0 hc.2.1 h0 (s1 0 (by decide)).2.1 (s1 0 (by decide)).2.2 s6, zMsu_std (by decide) hs1 hc.2.2 h1 (s1 1 (by decide)).2.1 (s1 1 (by decide)).2.2 s6⟩, ⟨?_, n4, fun i hi => ?_, fun i hi => ?_, fun j hj => ?_, ?_, i4⟩, ⟨nw, k1, Nat.zero_le _, k2, s8, fun i u hi => by simp at hi⟩, hm, hw⟩
  · by_cases c : j < 3
    · rw [s7 j c]
      unfold zv0
      rw [if_pos c]
    · obtain ⟨p, q, hq, hjj⟩ : ∃ p q, q < 6 ∧ j = 3 + 6 * p + q := ⟨(j - 3) / 6, (j - 3) % 6, Nat.mod_lt _ (by decide), by omega⟩
      have hp : p < D 0 1 := by omega
      obtain ⟨t1, t2⟩ := s7' p hp
      obtain ⟨u1, u2⟩ := g2 p hp
      have e1 : (j - 3) % 6 = q := by omega
      have e2 : (j - 3) / 6 = p := by omega
      unfold zv0
      rw [if_neg c, e1, e2]
      have hq6 : q = 0 ∨ q = 1 ∨ q = 2 ∨ q = 3 ∨ q = 4 ∨ q = 5 := by omega
      rcases hq6 with rfl | rfl | rfl | rfl | rfl | rfl
      · rw [if_pos rfl, show j = 3 + 6 * p by omega]; exact t1
      · rw [if_neg (by decide), if_pos rfl, show j = 3 + 6 * p + 1 + 0 by omega, t2 0 (by decide), show 7 * p + 2 + 0 = 7 * p + 2 by omega]; exact u2
      · rw [if_neg (by decide), if_neg (by decide), if_pos rfl, show j = 3 + 6 * p + 1 + 1 by omega, t2 1 (by decide), show 7 * p + 2 + 1 = 7 * p + 3 + 2 * 0 by omega]; exact (u1 0 (by decide)).2.1
      · rw [if_neg (by decide), if_neg (by decide), if_neg (by decide), if_pos rfl, show j = 3 + 6 * p + 1 + 2 by omega, t2 2 (by decide), show 7 * p + 2 + 2 = 7 * p + 4 + 2 * 0 by omega]; exact (u1 0 (by decide)).2.2
      · rw [if_neg (by decide), if_neg (by decide), if_neg (by decide), if_neg (by decide), if_pos rfl, show j = 3 + 6 * p + 1 + 3 by omega, t2 3 (by decide), show 7 * p + 2 + 3 = 7 * p + 3 + 2 * 1 by omega]; exact (u1 1 (by decide)).2.1
      · rw [if_neg (by decide), if_neg (by decide), if_neg (by decide), if_neg (by decide), if_neg (by decide), show j = 3 + 6 * p + 1 + 4 by omega, t2 4 (by decide), show 7 * p + 2 + 4 = 7 * p + 4 + 2 * 1 by omega]; exact (u1 1 (by decide)).2.2
  · refine ⟨?_, (i1 (2 * p + h) (by omega)).1⟩
    rw [show 56 + 7 * p + h = 56 + (7 * p + h) by omega, s3 _ (by omega)]
    exact ((g2 p hp).1 h hh).1
  · rw [show (3 : Nat) = 2 + 1 from rfl, (s1 1 (by decide)).1]; exact n3
  · rw [s2 _ (by omega)]; exact n5 i hi
  · have hi4 : i < D 0 7 := hi
    rw [show 20 + i = 12 + (8 + i) by omega, s2 _ (by omega)]; exact n6 i hi
  · have hj4 : j < D 0 7 := hj
    rw [s4 _ (by omega)]; exact ⟨g3 j hj, i3 j hj⟩
  · rw [s5]; exact g4
theorem zro1_0 {T : zDD} {c : Nat} {s : zTS} : (zro1 T c s).2.1 0 0 = s.2.1 0 0 := by
  unfold zro1
  split
  · exact zDsm_P.1
  split
  · exact zDsm_H.1
  split
  · exact zDsm_B.1
  split
  · exact zDsm_T.1
  split
  · show zu s.2.1 0 11 1 0 0 = _
    exact zu_k (by decide)
  split
  · show zu s.2.1 0 12 1 0 0 = _
    exact zu_k (by decide)
  split
  · exact (zDsm_G (T := T) (c := c) (p := s.1) (D := s.2.1)).1
  · rfl
theorem zro_0 {T : zDD} {c : Nat} {s : zTS} : (zro T c s).2.1 0 0 = s.2.1 0 0 + 1 := by
  show zu (zro1 T c s).2.1 0 0 ((zro1 T c s).2.1 0 0 + 1) 0 0 = _
  rw [zu_s, zro1_0]
-- the end of the tokens, as the reference sees it
theorem zlk_e {b : Nat → Nat} {len c i : Nat} {T : zDD} (h : zTok b len T c) (hb : ∀ i, i < len → b i < 256) (hi : i < c) : zlkv b len (T i 1) = -1 ↔ T i 0 = 0 := by
  have hl := zTok_len h hi
  unfold zlkv
  by_cases ec : i + 1 < c
  · have hlt := hl.2.mpr ec
    have hbs := hb _ hlt
    rw [if_pos hlt]
    exact ⟨fun e => absurd e (znn (by omega)), fun e => by have := (zTok_TE h).2.2.2 i hi e; omega⟩
  · rw [if_neg (fun e => ec (hl.2.mp e))]
    exact ⟨fun _ => by rw [show i = c - 1 by omega]; exact h.2.2.2.1, fun _ => rfl⟩
theorem zTL_p {M M' : zMI} {L : zML} {b : Nat → Nat} {len c : Nat} {T : zDD} {s : zTS} (h : zTL M L b len T c s) (hp : zPf M M') (hR : zRp M' b len T c s.1) (hc : c ≤ 1601) : zTL M' L b len T c s := by
  obtain ⟨h1, h2⟩ := h
  have hs := hR.1
  refine ⟨hR, fun e => ?_⟩
  obtain ⟨a1, a2, cod, a3, a4, a5, a6⟩ := h2 e
  have ex : ∀ x k, x ≠ 177 → M' x k = M x k := fun x k hx => by rw [hp.1 x hx]
  exact ⟨zMD_p a1 hp, by rw [hp.2 42 (by decide) (by decide) (by decide) (by decide) (by decide)]; exact a2, cod, by rw [hp.2 44 (by decide) (by decide) (by decide) (by decide) (by decide)]; exact a3, a4, zMsw_fr a5 (ex _ _ (by decide)) (ex _ _ (by decide)) (fun j _ => ex _ _ (by decide)) (Nat.le_refl _) (by omega), zMsw_fr a6 (ex _ _ (by decide)) (ex _ _ (by decide)) (fun j _ => ex _ _ (by decide)) (Nat.le_refl _) (by omega)⟩
theorem zkp_rl {T : zDD} {c : Nat} (hE : zTE T c) : ∀ k (s : zTS), s.1.1 < c → (zrl T c k s).1.1 < c := by
  intro k
  induction k with
  | zero =>
    intro s hs
    rw [zrl]
    split
    · exact hs
    · show (zpf c s.1 5 _).1 < c
      rw [zpf_1]
      omega
  | succ k ih =>
    intro s hs
    rw [zrl]
    split
    · exact hs
    · exact ih _ (zkp_ro hE s hs).1
set_option maxHeartbeats 4000000 in
set_option maxRecDepth 100000 in
theorem sp_mtable {d t n c : Nat} {M : zMI} {L : zML} {g : zGd} {v : Nat → Nat} {hs : List (Nat → Nat)} {m : zMs} {T D : zDD} {Fm Fs : zFl} {r : zTS} (h : zMo M L n g v hs m) (hT : zTok m.2.1 m.1 T c) (hr : zrl T c 60 ((0, nI 0, 0, -1), zDz D, Fm, Fs) = r) (hc : zDc r.2.1) (hI : zSI r) : Sy yX12_table YX12_table (d + 8) [.ref 177] M L (zRf t) (fun v0 M' L' R' => R' = zRf t ∧ zYf M M' L L' ∧ ((r.1.2.2.1 ≠ 0 ∧ v0 = some (.int (-1)) ∧ zMo M' L' n g v hs (zMup (zMf m (nI r.1.2.2.1) r.1.2.2.2) 1)) ∨ (r.1.2.2.1 = 0 ∧ v0 = some (.int (nI (r.2.1 0 0))) ∧ zMo M' L' (r.2.1 0 1) (zTg r.2.1 r.2.2.1 r.2.2.2) (zv0 r.2.1) [] (zMf m (nI 0) r.1.2.2.2)))) := by
  refine Sp.of (by decide +kernel) rfl (fun h => by first | exact h | cases h) (Nat.le_of_ble_eq_true rfl) ?_
  intro w G
  have hE := zTok_TE hT
  have hmm := h.2.2.2.1
  have hW0 := h.2.2.2.2
  obtain ⟨c1, c2, c3, -⟩ := id hmm
  obtain ⟨N, hN⟩ : ∃ N, zu (zu (zu (zu (zu (zu (zu (zu (zu (zu (zu (zu (zu M 177 3 (nI m.1)) 177 1 (nI 0)) 177 2 (nI 0)) 177 4 (-1)) 177 5 (nI 0)) 177 6 (-1)) 177 42 (nI 0)) 177 44 (nI 0)) 204 0 (nI 0)) 204 1 (nI 0)) 208 0 (nI 100)) 209 0 (-1)) 209 1 (-1) = N := ⟨_, rfl⟩
  have z5 : ∀ k, N 177 k = zu (zu (zu (zu (zu (zu (zu (zu M 177 3 (nI m.1)) 177 1 (nI 0)) 177 2 (nI 0)) 177 4 (-1)) 177 5 (nI 0)) 177 6 (-1)) 177 42 (nI 0)) 177 44 (nI 0) 177 k := fun k => by rw [← hN, zu_ne (by decide), zu_ne (by decide), zu_ne (by decide), zu_ne (by decide), zu_ne (by decide)]
  have e44 : N 177 44 = nI 0 := by rw [z5, zu_s]
  have e42 : N 177 42 = nI 0 := by rw [z5, zu_k (by decide), zu_s]
  have e6 : N 177 6 = -1 := by rw [z5, zu_k (by decide), zu_k (by decide), zu_s]
  have e5 : N 177 5 = nI 0 := by rw [z5, zu_k (by decide), zu_k (by decide), zu_k (by decide), zu_s]
  have e4 : N 177 4 = -1 := by rw [z5, zu_k (by decide), zu_k (by decide), zu_k (by decide), zu_k (by decide), zu_s]
  have e2 : N 177 2 = nI 0 := by rw [z5, zu_k (by decide), zu_k (by decide), zu_k (by decide), zu_k (by decide), zu_k (by decide), zu_s]
  have e1 : N 177 1 = nI 0 := by rw [z5, zu_k (by decide), zu_k (by decide), zu_k (by decide), zu_k (by decide), zu_k (by decide), zu_k (by decide), zu_s]
  have e3 : N 177 3 = nI m.1 := by rw [z5, zu_k (by decide), zu_k (by decide), zu_k (by decide), zu_k (by decide), zu_k (by decide), zu_k (by decide), zu_k (by decide), zu_s]
  have eo : ∀ k, k ≠ 1 → k ≠ 2 → k ≠ 3 → k ≠ 4 → k ≠ 5 → k ≠ 6 → k ≠ 42 → k ≠ 44 → N 177 k = M 177 k := fun k y1 y2 y3 y4 y5 y6 y7 y8 => by rw [z5, zu_k y8, zu_k y7, zu_k y6, zu_k y5, zu_k y4, zu_k y2, zu_k y1, zu_k y3]
  have ex : ∀ x, x ≠ 177 → x ≠ 204 → x ≠ 208 → x ≠ 209 → N x = M x := fun x y1 y2 y3 y4 => by rw [← hN, zu_ne y4, zu_ne y4, zu_ne y3, zu_ne y2, zu_ne y2, zu_ne y1, zu_ne y1, zu_ne y1, zu_ne y1, zu_ne y1, zu_ne y1, zu_ne y1, zu_ne y1]
  have f40 : N 204 0 = nI 0 := by rw [← hN, zu_ne (by decide), zu_ne (by decide), zu_ne (by decide), zu_k (by decide), zu_s]
  have f41 : N 204 1 = nI 0 := by rw [← hN, zu_ne (by decide), zu_ne (by decide), zu_ne (by decide), zu_s]
  have f4 : ∀ k, 2 ≤ k → N 204 k = M 204 k := fun k hk => by rw [← hN, zu_ne (by decide), zu_ne (by decide), zu_ne (by decide), zu_k (by omega), zu_k (by omega), zu_ne (by decide), zu_ne (by decide), zu_ne (by decide), zu_ne (by decide), zu_ne (by decide), zu_ne (by decide), zu_ne (by decide), zu_ne (by decide)]
  have f80 : N 208 0 = nI 100 := by rw [← hN, zu_ne (by decide), zu_ne (by decide), zu_s]
  have f8 : ∀ k, 1 ≤ k → N 208 k = M 208 k := fun k hk => by rw [← hN, zu_ne (by decide), zu_ne (by decide), zu_k (by omega), zu_ne (by decide), zu_ne (by decide), zu_ne (by decide), zu_ne (by decide), zu_ne (by decide), zu_ne (by decide), zu_ne (by decide), zu_ne (by decide), zu_ne (by decide), zu_ne (by decide)]
  have f90 : N 209 0 = -1 := by rw [← hN, zu_k (by decide), zu_s]
  have f91 : N 209 1 = -1 := by rw [← hN, zu_s]
  have f9 : ∀ k, 2 ≤ k → N 209 k = M 209 k := fun k hk => by rw [← hN, zu_k (by omega), zu_k (by omega), zu_ne (by decide), zu_ne (by decide), zu_ne (by decide), zu_ne (by decide), zu_ne (by decide), zu_ne (by decide), zu_ne (by decide), zu_ne (by decide), zu_ne (by decide), zu_ne (by decide), zu_ne (by decide)]
  have frN : ∀ o k, ¬ zVx o k → N o k = M o k := fun o k cc => by
    by_cases o1 : o = 177
    · subst o1
      unfold zVx zUx zTx at cc
      exact eo k (by omega) (by omega) (by omega) (by omega) (by omega) (by omega) (by omega) (by omega)
    · by_cases o2 : o = 204
      · subst o2
        exact f4 k (by
          refine Classical.byContradiction fun hh => cc (Or.inl (Or.inl (Or.inr (Or.inl ⟨rfl, by omega⟩)))))
      · by_cases o3 : o = 208
        · subst o3
          exact f8 k (by
            refine Classical.byContradiction fun hh => cc (Or.inl (Or.inl (Or.inr (Or.inr (Or.inr (Or.inr ⟨rfl, by omega⟩)))))))
        · by_cases o4 : o = 209
          · subst o4
            exact f9 k (by
              refine Classical.byContradiction fun hh => cc (Or.inl (Or.inr (Or.inr (Or.inl ⟨Or.inl rfl, by omega⟩)))))
          · rw [ex o o1 o2 o3 o4]
  have uN : ∀ {M2 : zMI} {L2 : zML}, zUf N M2 L L2 → ∀ o k, ¬ zVx o k → M2 o k = M o k := fun hu o k cc => by rw [hu.1 o k (fun e => cc (Or.inl e)), frN o k cc]
  have hrcx : ∀ {k : Nat} {s : zTS}, zrl T c k s = r → s.1.1 < c → r.1.1 < c := fun e hs => by rw [← e]; exact zkp_rl hE _ _ hs
  have hcc : c ≤ 1601 := by have := hT.2.1; omega
  have hWN : zWds N := zWds_fr hW0 (fun x hx => ex x (by omega) (by omega) (by omega) (by omega))
  have yf : ∀ {M2 : zMI} {L2 : zML}, (∀ o k, ¬ zVx o k → M2 o k = M o k) → (∀ o k, ¬ (o = 205 ∧ k < 12) → L2 o k = L o k) → zYf M M2 L L2 := fun g1 g2 x hx => ⟨funext fun k => g1 x k (zVx_n (by omega) (Or.inl (by omega)) (Or.inl (by omega)) (Or.inl (by omega)) (Or.inl (by omega)) (Or.inl (by omega)) (Or.inl (by omega)) (Or.inl (by omega)) (by omega)), funext fun k => g2 x k (by omega)⟩
  have F101 : ∀ (M2 : zMI) (L2 : zML), zUf N M2 L L2 → zRp M2 m.2.1 m.1 T c r.1 → (r.1.2.2.1 = 0 → zTL M2 L2 m.2.1 m.1 T c r) → WP w YX12_table (d + 8, SS, 0, 0) G (some (zXp (fun v0 M' L' R' => R' = zRf t ∧ zYf M M' L L' ∧ ((r.1.2.2.1 ≠ 0 ∧ v0 = some (.int (-1)) ∧ zMo M' L' n g v hs (zMup (zMf m (nI r.1.2.2.1) r.1.2.2.2) 1)) ∨ (r.1.2.2.1 = 0 ∧ v0 = some (.int (nI (r.2.1 0 0))) ∧ zMo M' L' (r.2.1 0 1) (zTg r.2.1 r.2.2.1 r.2.2.2) (zv0 r.2.1) [] (zMf m (nI 0) r.1.2.2.2)))))) 101 [(0, .ref 177)] [] SS M2 L2 (zRf t) := by
    intro M2 L2 hu hR hL
    obtain ⟨kk, hkk⟩ : ∃ kk, r.1.2.2.1 = kk := ⟨_, rfl⟩
    obtain ⟨hR1, hR2, hR3⟩ := hR
    have e5' : M2 177 5 = nI kk := by
      by_cases k0 : r.1.2.2.1 = 0
      · rw [(hR2 k0).1.2.1, ← hkk, k0]
      · rw [(hR3 k0).2.1, hkk]
    have e6' : M2 177 6 = r.1.2.2.2 := by
      by_cases k0 : r.1.2.2.1 = 0
      · exact (hR2 k0).2
      · exact (hR3 k0).2.2
    have k5 : kk ≤ 5 := by
      by_cases k0 : r.1.2.2.1 = 0
      · omega
      · have := (hR3 k0).1; omega
    have g1 : ∀ o k, ¬ zVx o k → zu (zu M2 177 7 (nI kk)) 177 8 r.1.2.2.2 o k = M o k := fun o k cc => by
      rw [zu_at, zu_at, if_neg (fun e => cc (by rw [e.1, e.2]; exact Or.inr ⟨rfl, by decide⟩)), if_neg (fun e => cc (by rw [e.1, e.2]; exact Or.inr ⟨rfl, by decide⟩))]
      exact uN hu o k cc
    have g3 : zMm (zu (zu M2 177 7 (nI kk)) 177 8 r.1.2.2.2) L2 (zMf m (nI kk) r.1.2.2.2) := zMm_v hmm g1 hu.2 (by rw [zu_k (by decide), zu_k (by decide), hu.1 177 1 (by unfold zUx zTx; omega)]; exact e1) (by rw [zu_k (by decide), zu_s]) zu_s
    refine wp_aload_n (q := 102) dX12_table_101 0 rfl rfl ?_
    refine wp_aload_n (q := 103) dX12_table_102 0 rfl rfl ?_
    refine wp_getI (q := 106) dX12_table_103 zf_RX12_236 rfl zsh_177 rfl ?_
    rw [e5']
    refine wp_putI (q := 109) dX12_table_106 zf_RX12_353 rfl zsh_177 rfl ?_
    refine wp_aload_n (q := 110) dX12_table_109 0 rfl rfl ?_
    refine wp_aload_n (q := 111) dX12_table_110 0 rfl rfl ?_
    refine wp_getI (q := 114) dX12_table_111 zf_RX12_239 rfl zsh_177 rfl ?_
    rw [zu_k (by decide), e6']
    refine wp_putI (q := 117) dX12_table_114 zf_RX12_13 rfl zsh_177 rfl ?_
    refine wp_aload_n (q := 118) dX12_table_117 0 rfl rfl ?_
    refine wp_getI (q := 121) dX12_table_118 zf_RX12_236 rfl zsh_177 rfl ?_
    rw [zu_k (by decide), zu_k (by decide), e5']
    by_cases k0 : kk = 0
    · subst k0
      obtain ⟨-, hL2⟩ := hL hkk
      obtain ⟨y1, y2, cod, y3, y4, y5, y6⟩ := hL2 hkk
      have hp5 : zMD (zu (zu M2 177 7 (nI 0)) 177 8 r.1.2.2.2) L2 r.2.1 := zMD_fr y1 (by rw [zu_ne (by decide), zu_ne (by decide)]) (by rw [zu_ne (by decide), zu_ne (by decide)]) (by rw [zu_ne (by decide), zu_ne (by decide)]) (by rw [zu_ne (by decide), zu_ne (by decide)])
      refine wp_if_eqN (tgt := 136) (q := 124) dX12_table_121 (by decide) rfl (by omega) (fun _ => ?_) (fun hn => absurd hn (by first | omega | exact fun h => h | exact fun h => h trivial))
      refine wp_aload_n (q := 137) dX12_table_136 0 rfl rfl ?_
      refine wp_cvy (q := 140) (sp_mstands (d := d) (n := r.2.1 0 1) (cod := cod) hp5.1.1 hp5.1.2.1 (by rw [zu_k (by decide), zu_k (by decide)]; exact y3) (by omega)) zm_X12_stands zl_RX12_356 dX12_table_137 rfl (by omega) (Nat.le_of_ble_eq_true rfl) zsh_177 rfl rfl ?_
      rintro _ M4 L4 _ ⟨rfl, rfl, hS⟩
      have hS' := hS
      obtain ⟨-, -, -, -, -, -, -, -, s9, s10⟩ := hS'
      have s177 : ∀ k, k ≠ 66 → M4 177 k = (zu (zu M2 177 7 (nI 0)) 177 8 r.1.2.2.2) 177 k := fun k hk => s9 177 k (by unfold zCx; omega)
      have sx : ∀ x, x ≠ 177 → x ≠ 204 → x ≠ 206 → x ≠ 207 → x ≠ 208 → x ≠ 209 → x ≠ 210 → x ≠ 211 → x ≠ 215 → M4 x = M2 x := fun x _ _ _ _ _ _ _ _ _ => funext fun k => by rw [s9 x k (by unfold zCx; omega), zu_ne (by assumption), zu_ne (by assumption)]
      refine wp_aload_n (q := 141) dX12_table_140 0 rfl rfl ?_
      refine wp_getI (q := 144) dX12_table_141 zf_RX12_328 rfl zsh_177 rfl ?_
      rw [s177 42 (by decide), zu_k (by decide), zu_k (by decide), y2]
      have hnw : ∃ nw, nw < 20 ∧ M4 177 67 = nI nw := by
        obtain ⟨nw, w1, -, w2, -⟩ := h.2.2.1
        exact ⟨nw, w1, by rw [s177 67 (by decide), zu_k (by decide), zu_k (by decide), hu.1 177 67 (by unfold zUx zTx; omega), eo 67 (by decide) (by decide) (by decide) (by decide) (by decide) (by decide) (by decide) (by decide)]; exact w2⟩
      have hmo : zMo M4 L4 (r.2.1 0 1) (zTg r.2.1 r.2.2.1 r.2.2.2) (zv0 r.2.1) [] (zMf m (nI 0) r.1.2.2.2) := zMo_std hp5 (zMsw_fr y5 (by rw [zu_ne (by decide), zu_ne (by decide)]) (by rw [zu_ne (by decide), zu_ne (by decide)]) (fun j _ => by rw [zu_ne (by decide), zu_ne (by decide)]) (Nat.le_refl _) (by omega)) (zMsw_fr y6 (by rw [zu_ne (by decide), zu_ne (by decide)]) (by rw [zu_ne (by decide), zu_ne (by decide)]) (fun j _ => by rw [zu_ne (by decide), zu_ne (by decide)]) (Nat.le_refl _) (by omega)) hS hI.1 hc (hI.2 hkk).1 (hI.2 hkk).2 (zMm_fr g3 (fun k hk => s177 k (by omega)) (sx 178 (by decide) (by decide) (by decide) (by decide) (by decide) (by decide) (by decide) (by decide) (by decide) |>.trans (by rw [zu_ne (by decide), zu_ne (by decide)])) (sx 179 (by decide) (by decide) (by decide) (by decide) (by decide) (by decide) (by decide) (by decide) (by decide) |>.trans (by rw [zu_ne (by decide), zu_ne (by decide)])) (sx 248 (by decide) (by decide) (by decide) (by decide) (by decide) (by decide) (by decide) (by decide) (by decide) |>.trans (by rw [zu_ne (by decide), zu_ne (by decide)])) (s10 177 68 (by omega))) (zWds_fr (zWds_u hWN hu) (fun x hx => sx x (by omega) (by omega) (by omega) (by omega) (by omega) (by omega) (by omega) (by omega) (by omega))) hnw
      refine wp_ireturn dX12_table_144 rfl ⟨rfl, ⟨rfl, fun x hx => ⟨?_, ?_⟩, Or.inr ⟨hkk, rfl, hmo⟩⟩⟩ rfl rfl
      · rw [sx x (by omega) (by omega) (by omega) (by omega) (by omega) (by omega) (by omega) (by omega) (by omega)]
        exact (yf (uN hu) hu.2 x hx).1
      · rw [funext (fun k => s10 x k (by omega))]
        exact (yf (uN hu) hu.2 x hx).2
    · have hf0 : r.1.2.2.1 ≠ 0 := by rw [hkk]; exact k0
      refine wp_if_eqN (tgt := 136) (q := 124) dX12_table_121 (by decide) rfl (by omega) (fun hn => absurd hn (by first | omega | exact fun h => h | exact fun h => h trivial)) (fun _ => ?_)
      refine wp_aload_n (q := 125) dX12_table_124 0 rfl rfl ?_
      refine wp_getR (q := 128) dX12_table_125 zf_RX12_17 rfl zsh_177 (zr_177_9 _) rfl ?_
      refine wp_iconst (q := 129) dX12_table_128 zq_iconst_1 rfl ?_
      first | refine wp_dup2 (q := 130) dX12_table_129 rfl rfl rfl ?_ | refine wp_dup2L (q := 130) dX12_table_129 rfl rfl ?_
      refine wp_iald (q := 131) _ dX12_table_130 zsh_179 rfl (by omega) (by decide) rfl ?_
      refine wp_iconst (q := 132) dX12_table_131 zq_iconst_1 rfl ?_
      refine wp_iadd (q := 133) dX12_table_132 rfl ?_
      refine wp_iast (q := 134) _ dX12_table_133 zsh_179 rfl (by omega) (by decide) rfl ?_
      refine wp_iconst (q := 135) dX12_table_134 zq_iconst_m1 rfl ?_
      refine wp_ireturn dX12_table_135 rfl ⟨rfl, ⟨rfl, fun x hx => ⟨?_, (yf g1 hu.2 x hx).2⟩, Or.inl ⟨hf0, rfl, ?_⟩⟩⟩ rfl rfl
      · rw [zu_ne (by omega)]
        exact (yf g1 hu.2 x hx).1
      · rw [hkk]
        exact zMo_rf (zMo_v h g1 hu.2 g3) (by decide)
  have X79 : ∀ (M2 : zMI) (L2 : zML), zUf N M2 L L2 → r.1.2.2.1 ≠ 0 → zRp M2 m.2.1 m.1 T c r.1 → WP w YX12_table (d + 8, SS, 0, 0) G (some (zXp (fun v0 M' L' R' => R' = zRf t ∧ zYf M M' L L' ∧ ((r.1.2.2.1 ≠ 0 ∧ v0 = some (.int (-1)) ∧ zMo M' L' n g v hs (zMup (zMf m (nI r.1.2.2.1) r.1.2.2.2) 1)) ∨ (r.1.2.2.1 = 0 ∧ v0 = some (.int (nI (r.2.1 0 0))) ∧ zMo M' L' (r.2.1 0 1) (zTg r.2.1 r.2.2.1 r.2.2.2) (zv0 r.2.1) [] (zMf m (nI 0) r.1.2.2.2)))))) 79 [(0, .ref 177)] [] SS M2 L2 (zRf t) := by
    intro M2 L2 hu k0 hR
    have hR' := hR
    obtain ⟨x5, x6, x7⟩ := hR.2.2 k0
    obtain ⟨kk, hkk⟩ : ∃ kk, r.1.2.2.1 = kk := ⟨_, rfl⟩
    rw [hkk] at x5 x6
    have k0' : kk ≠ 0 := by rw [← hkk]; exact k0
    refine wp_aload_n (q := 80) dX12_table_79 0 rfl rfl ?_
    refine wp_getI (q := 83) dX12_table_80 zf_RX12_236 rfl zsh_177 rfl ?_
    rw [x6]
    refine wp_if_neN (tgt := 101) (q := 86) dX12_table_83 (by decide) rfl (by omega) (fun _ => ?_) (fun hn => absurd hn (by first | omega | exact fun h => h | exact fun h => h trivial))
    refine WP.sub (loc' := [(0, _)]) [0] rfl ?_
    exact F101 M2 L2 hu hR' (fun e => absurd e k0)
  have loop : ∀ (k j : Nat) (M2 : zMI) (L2 : zML) (s : zTS), j + k = 60 → s.2.1 0 0 = j → zTL M2 L2 m.2.1 m.1 T c s → (T s.1.1 0 ≠ 0 → s.1.2.1 = nI 0) → zUf N M2 L L2 → zrl T c k s = r → WP w YX12_table (d + 8, SS, 0, 0) G (some (zXp (fun v0 M' L' R' => R' = zRf t ∧ zYf M M' L L' ∧ ((r.1.2.2.1 ≠ 0 ∧ v0 = some (.int (-1)) ∧ zMo M' L' n g v hs (zMup (zMf m (nI r.1.2.2.1) r.1.2.2.2) 1)) ∨ (r.1.2.2.1 = 0 ∧ v0 = some (.int (nI (r.2.1 0 0))) ∧ zMo M' L' (r.2.1 0 1) (zTg r.2.1 r.2.2.1 r.2.2.2) (zv0 r.2.1) [] (zMf m (nI 0) r.1.2.2.2)))))) 79 [(0, .ref 177)] [] SS M2 L2 (zRf t) := by
    intro k
    induction k with
    | zero =>
      intro j M2 L2 s hj hs hL hz hu hr2
      have hj60 : j = 60 := by omega
      have hL' := hL
      obtain ⟨hR, hL2⟩ := hL
      have hpc := hR.1
      by_cases k0 : s.1.2.2.1 = 0
      · obtain ⟨ha, ha6⟩ := hR.2.1 k0
        have he := zlk_e hT (fun i hi => (ha.1.2.2 i hi).2) hpc
        rw [zrl] at hr2
        refine wp_aload_n (q := 80) dX12_table_79 0 rfl rfl ?_
        refine wp_getI (q := 83) dX12_table_80 zf_RX12_236 rfl zsh_177 rfl ?_
        rw [ha.2.1]
        refine wp_if_neN (tgt := 101) (q := 86) dX12_table_83 (by decide) rfl (by omega) (fun hn => absurd hn (by first | omega | exact fun h => h | exact fun h => h trivial)) (fun _ => ?_)
        refine wp_aload_n (q := 87) dX12_table_86 0 rfl rfl ?_
        refine wp_cvy (q := 90) (sp_mLook (d := d + 6) ha hT) zm_X12_look zl_RX12_248 dX12_table_87 rfl (by omega) (Nat.le_of_ble_eq_true rfl) zsh_177 rfl rfl ?_
        rintro _ M3 _ _ ⟨rfl, rfl, rfl, q1, q2, q3, q4⟩
        have hp3 : zPf M2 M3 := ⟨q4, fun k k1 _ _ _ _ => q3 k k1⟩
        have hu3 := zUf_t hu (zUf_p (L := L2) hp3)
        have hL3 : zTL M3 L2 m.2.1 m.1 T c s := zTL_p hL' hp3 ⟨hpc, fun _ => ⟨q1, by rw [q3 6 (by decide)]; exact ha6⟩, fun e => absurd k0 e⟩ hcc
        refine wp_iconst (q := 91) dX12_table_90 zq_iconst_m1 rfl ?_
        refine wp_icmp_eq (tgt := 101) (q := 94) dX12_table_91 (by decide) rfl (fun z0 => ?_) (fun z0 => ?_)
        · skip
          rw [if_pos (he.mp z0)] at hr2
          refine WP.sub (loc' := [(0, _)]) [0] rfl ?_
          exact F101 M3 L2 hu3 (by rw [← hr2]; exact hL3.1) (fun _ => by rw [← hr2]; exact hL3)
        · skip
          rw [if_neg (fun e => z0 (he.mpr e))] at hr2
          refine wp_aload_n (q := 95) dX12_table_94 0 rfl rfl ?_
          refine wp_cvx (q := 98) (sp_mstatementN (d := d) hL3 k0 q2 (by rw [hs]; exact hj60)) zm_X12_statementTold zl_RX12_350 dX12_table_95 rfl (by omega) (Nat.le_of_ble_eq_true rfl) zsh_177 rfl rfl ?_
          refine wp_goto (tgt := 79) dX12_table_98 (by decide) ?_
          refine WP.sub (loc' := [(0, _)]) [0] rfl ?_
          have hr1 : r.1 = zpf c s.1 5 (nI (T s.1.1 1)) := by rw [← hr2]
          refine X79 _ L2 (zUf_w (zUf_w hu3 ?_) ?_) (by rw [hr1]; exact zpf_b (by decide)) (by rw [hr1]; exact zRp_5 k0 hpc (by decide) (by decide))
          · exact Or.inl (Or.inl ⟨rfl, by decide⟩)
          · exact Or.inl (Or.inl ⟨rfl, by decide⟩)
      · have hq : zfq s.1 r.1 := by rw [← hr2]; exact zfq_rl 0 s
        have hq2 := hq k0
        exact X79 M2 L2 hu (by rw [hq2]; exact k0) (zRp_q hR k0 (hrcx hr2 hpc) hq)
    | succ k ih =>
      intro j M2 L2 s hj hs hL hz hu hr2
      have hL' := hL
      obtain ⟨hR, hL2⟩ := hL
      have hpc := hR.1
      by_cases k0 : s.1.2.2.1 = 0
      · obtain ⟨ha, ha6⟩ := hR.2.1 k0
        have he := zlk_e hT (fun i hi => (ha.1.2.2 i hi).2) hpc
        rw [zrl] at hr2
        refine wp_aload_n (q := 80) dX12_table_79 0 rfl rfl ?_
        refine wp_getI (q := 83) dX12_table_80 zf_RX12_236 rfl zsh_177 rfl ?_
        rw [ha.2.1]
        refine wp_if_neN (tgt := 101) (q := 86) dX12_table_83 (by decide) rfl (by omega) (fun hn => absurd hn (by first | omega | exact fun h => h | exact fun h => h trivial)) (fun _ => ?_)
        refine wp_aload_n (q := 87) dX12_table_86 0 rfl rfl ?_
        refine wp_cvy (q := 90) (sp_mLook (d := d + 6) ha hT) zm_X12_look zl_RX12_248 dX12_table_87 rfl (by omega) (Nat.le_of_ble_eq_true rfl) zsh_177 rfl rfl ?_
        rintro _ M3 _ _ ⟨rfl, rfl, rfl, q1, q2, q3, q4⟩
        have hp3 : zPf M2 M3 := ⟨q4, fun k k1 _ _ _ _ => q3 k k1⟩
        have hu3 := zUf_t hu (zUf_p (L := L2) hp3)
        have hL3 : zTL M3 L2 m.2.1 m.1 T c s := zTL_p hL' hp3 ⟨hpc, fun _ => ⟨q1, by rw [q3 6 (by decide)]; exact ha6⟩, fun e => absurd k0 e⟩ hcc
        refine wp_iconst (q := 91) dX12_table_90 zq_iconst_m1 rfl ?_
        refine wp_icmp_eq (tgt := 101) (q := 94) dX12_table_91 (by decide) rfl (fun z0 => ?_) (fun z0 => ?_)
        · skip
          rw [if_pos (he.mp z0)] at hr2
          refine WP.sub (loc' := [(0, _)]) [0] rfl ?_
          exact F101 M3 L2 hu3 (by rw [← hr2]; exact hL3.1) (fun _ => by rw [← hr2]; exact hL3)
        · skip
          have nz : T s.1.1 0 ≠ 0 := fun e => z0 (he.mpr e)
          rw [if_neg nz] at hr2
          refine wp_aload_n (q := 95) dX12_table_94 0 rfl rfl ?_
          refine wp_cvy (q := 98) (sp_mstatementTold (d := d) hT (zWds_u hWN hu3) hL3 k0 q2 nz (hz nz) (by omega) rfl) zm_X12_statementTold zl_RX12_350 dX12_table_95 rfl (by omega) (Nat.le_of_ble_eq_true rfl) zsh_177 rfl rfl ?_
          rintro _ M4 L4 _ ⟨rfl, rfl, hu4, hL4⟩
          refine wp_goto (tgt := 79) dX12_table_98 (by decide) ?_
          refine WP.sub (loc' := [(0, _)]) [0] rfl ?_
          have hk := zkp_ro hE s hpc
          refine ih (j + 1) M4 L4 (zro T c s) (by omega) (by rw [zro_0, hs]) hL4 (fun e => ?_) (zUf_t hu3 hu4) hr2
          rcases hk.2 with e0 | e0
          · exact absurd e0 e
          · rw [e0.2]; exact hz nz
      · have hq : zfq s.1 r.1 := by rw [← hr2]; exact zfq_rl (k + 1) s
        have hq2 := hq k0
        exact X79 M2 L2 hu (by rw [hq2]; exact k0) (zRp_q hR k0 (hrcx hr2 hpc) hq)
  refine wp_aload_n (q := 1) dX12_table_0 0 rfl rfl ?_
  refine wp_aload_n (q := 2) dX12_table_1 0 rfl rfl ?_
  refine wp_getI (q := 5) dX12_table_2 zf_RX12_233 rfl zsh_177 rfl ?_
  rw [c1]
  refine wp_putI (q := 8) dX12_table_5 zf_RX12_245 rfl zsh_177 rfl ?_
  refine wp_aload_n (q := 9) dX12_table_8 0 rfl rfl ?_
  refine wp_iconst (q := 10) dX12_table_9 zq_iconst_0 rfl ?_
  refine wp_putI (q := 13) dX12_table_10 zf_RX12_233 rfl zsh_177 rfl ?_
  refine wp_aload_n (q := 14) dX12_table_13 0 rfl rfl ?_
  refine wp_iconst (q := 15) dX12_table_14 zq_iconst_0 rfl ?_
  refine wp_putI (q := 18) dX12_table_15 zf_RX12_242 rfl zsh_177 rfl ?_
  refine wp_aload_n (q := 19) dX12_table_18 0 rfl rfl ?_
  refine wp_iconst (q := 20) dX12_table_19 zq_iconst_m1 rfl ?_
  refine wp_putI (q := 23) dX12_table_20 zf_RX12_256 rfl zsh_177 rfl ?_
  refine wp_aload_n (q := 24) dX12_table_23 0 rfl rfl ?_
  refine wp_iconst (q := 25) dX12_table_24 zq_iconst_0 rfl ?_
  refine wp_putI (q := 28) dX12_table_25 zf_RX12_236 rfl zsh_177 rfl ?_
  refine wp_aload_n (q := 29) dX12_table_28 0 rfl rfl ?_
  refine wp_iconst (q := 30) dX12_table_29 zq_iconst_m1 rfl ?_
  refine wp_putI (q := 33) dX12_table_30 zf_RX12_239 rfl zsh_177 rfl ?_
  refine wp_aload_n (q := 34) dX12_table_33 0 rfl rfl ?_
  refine wp_iconst (q := 35) dX12_table_34 zq_iconst_0 rfl ?_
  refine wp_putI (q := 38) dX12_table_35 zf_RX12_328 rfl zsh_177 rfl ?_
  refine wp_aload_n (q := 39) dX12_table_38 0 rfl rfl ?_
  refine wp_iconst (q := 40) dX12_table_39 zq_iconst_0 rfl ?_
  refine wp_putI (q := 43) dX12_table_40 zf_RX12_313 rfl zsh_177 rfl ?_
  refine wp_aload_n (q := 44) dX12_table_43 0 rfl rfl ?_
  refine wp_getR (q := 47) dX12_table_44 zf_RX12_93 rfl zsh_177 (zr_177_35 _) rfl ?_
  refine wp_iconst (q := 48) dX12_table_47 zq_iconst_0 rfl ?_
  refine wp_iconst (q := 49) dX12_table_48 zq_iconst_0 rfl ?_
  refine wp_iast (q := 50) _ dX12_table_49 zsh_204 rfl (by omega) (by decide) rfl ?_
  refine wp_aload_n (q := 51) dX12_table_50 0 rfl rfl ?_
  refine wp_getR (q := 54) dX12_table_51 zf_RX12_93 rfl zsh_177 (zr_177_35 _) rfl ?_
  refine wp_iconst (q := 55) dX12_table_54 zq_iconst_1 rfl ?_
  refine wp_iconst (q := 56) dX12_table_55 zq_iconst_0 rfl ?_
  refine wp_iast (q := 57) _ dX12_table_56 zsh_204 rfl (by omega) (by decide) rfl ?_
  refine wp_aload_n (q := 58) dX12_table_57 0 rfl rfl ?_
  refine wp_getR (q := 61) dX12_table_58 zf_RX12_106 rfl zsh_177 (zr_177_39 _) rfl ?_
  refine wp_iconst (q := 62) dX12_table_61 zq_iconst_0 rfl ?_
  refine wp_bipush (q := 64) dX12_table_62 zq_bipush_100 rfl ?_
  refine wp_iast (q := 65) _ dX12_table_64 zsh_208 rfl (by omega) (by decide) rfl ?_
  refine wp_aload_n (q := 66) dX12_table_65 0 rfl rfl ?_
  refine wp_getR (q := 69) dX12_table_66 zf_RX12_109 rfl zsh_177 (zr_177_40 _) rfl ?_
  refine wp_iconst (q := 70) dX12_table_69 zq_iconst_0 rfl ?_
  refine wp_iconst (q := 71) dX12_table_70 zq_iconst_m1 rfl ?_
  refine wp_iast (q := 72) _ dX12_table_71 zsh_209 rfl (by omega) (by decide) rfl ?_
  refine wp_aload_n (q := 73) dX12_table_72 0 rfl rfl ?_
  refine wp_getR (q := 76) dX12_table_73 zf_RX12_109 rfl zsh_177 (zr_177_40 _) rfl ?_
  refine wp_iconst (q := 77) dX12_table_76 zq_iconst_1 rfl ?_
  refine wp_iconst (q := 78) dX12_table_77 zq_iconst_m1 rfl ?_
  refine wp_iast (q := 79) _ dX12_table_78 zsh_209 rfl (by omega) (by decide) rfl ?_
  rw [hN]
  refine WP.sub (loc' := [(0, _)]) [0] rfl ?_
  have ta : zTa N m.2.1 m.1 := ⟨e3, c2, fun i hi => by rw [ex 178 (by decide) (by decide) (by decide) (by decide)]; exact c3 i hi⟩
  have hc0 : 0 < c := hT.1
  have hg0 : zgE T 0 = 0 := if_pos rfl
  have dz : (zDz D) 0 0 = 0 ∧ (zDz D) 0 1 = 0 ∧ (zDz D) 0 7 = 0 ∧ (zDz D) 0 10 = 100 ∧ (zDz D) 0 11 = 0 ∧ (zDz D) 0 12 = 0 := by refine ⟨?_, ?_, ?_, ?_, ?_, ?_⟩ <;> simp [zDz, zu_at]
  refine loop 60 0 N L ((0, nI 0, 0, -1), zDz D, Fm, Fs) rfl dz.1 ⟨⟨hc0, fun _ => ⟨⟨ta, e5, hc0, ⟨0, e2, Nat.le_of_eq hg0, Nat.zero_le _⟩, ?_⟩, e6⟩, fun e => absurd rfl e⟩, fun _ => ⟨⟨⟨?_, ?_, ?_, ?_, fun i hi => ?_, fun i hi => ?_⟩, fun i hi => ?_, fun i hi => ?_, ?_⟩, ?_, 0, e44, Nat.le_refl _, ⟨fun _ => f90, fun e => absurd dz.2.2.2.2.1 e⟩, ⟨fun _ => f91, fun e => absurd dz.2.2.2.2.2 e⟩⟩⟩ (fun _ => rfl) zUf_r hr
  · show zEn T 0 (N 177 4)
    unfold zEn
    rw [if_pos rfl]
    exact e4
  · show N 204 0 = nI ((zDz D) 0 1); rw [dz.2.1]; exact f40
  · show (zDz D) 0 1 ≤ 8; rw [dz.2.1]; decide
  · show N 204 1 = nI ((zDz D) 0 7); rw [dz.2.2.1]; exact f41
  · show (zDz D) 0 7 ≤ 4; rw [dz.2.2.1]; decide
  · have : i < (zDz D) 0 1 := hi
    rw [dz.2.1] at this
    omega
  · have : i < (zDz D) 0 7 := hi
    rw [dz.2.2.1] at this
    omega
  · have : i < (zDz D) 0 1 := hi
    rw [dz.2.1] at this
    omega
  · have : i < (zDz D) 0 7 := hi
    rw [dz.2.2.1] at this
    omega
  · show N 208 0 = nI ((zDz D) 0 10); rw [dz.2.2.2.1]; exact f80
  · show N 177 42 = nI ((zDz D) 0 0); rw [dz.1]; exact e42

