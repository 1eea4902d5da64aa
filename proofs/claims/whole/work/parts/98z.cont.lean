-- what waits behind a part of a sum: frames, the innermost first: depth, pending * or /, its loop's fuel, pending + or -, its loop's fuel, what holds it (0 the sum itself, 20 .. 24 a bracket, 60 a word in front)
abbrev zLv : Type := Nat × Nat × Nat × Nat × Nat × Nat
def zap (m : Nat) (F : zFl) : zFl := if m = 0 then F else F ++ [(m, 0)]
def zkm (T : zDD) (c : Nat) (b : Bool) (k w : Nat) (q : zPF) : zPF := if w = 0 then q else if w = 20 then (zpl (zpNS T c q.1 41), q.2) else if w = 23 then (zpl (zpNS T c q.1 41), q.2 ++ [(8, 0)]) else if w = 24 then (zpl (zpNS T c q.1 41), q.2 ++ [(9, 0)]) else (zpl (zpNS T c (zsu T c (zpt T c b k) (zpNS T c q.1 44) q.2).1 41), (zsu T c (zpt T c b k) (zpNS T c q.1 44) q.2).2 ++ [(w - 13, 0)])
def zkq (T : zDD) (c : Nat) (b : Bool) (f : zLv) (q : zPF) : zPF := zlp T c 42 47 6 7 (zpt T c b f.1) f.2.2.1 q.1 (zap f.2.1 q.2)
def zkr (T : zDD) (c : Nat) (b : Bool) (f : zLv) (q : zPF) : zPF := zlp T c 43 45 4 5 (zpd T c (zpt T c b f.1)) f.2.2.2.2.1 q.1 (zap f.2.2.2.1 q.2)
def zkf (T : zDD) (c : Nat) (b : Bool) (f : zLv) (q : zPF) : zPF := if f.2.2.2.2.2 = 60 then (zpl q.1, q.2 ++ [(3, 0)]) else zkm T c b f.1 f.2.2.2.2.2 (zkr T c b f (zkq T c b f q))
def zks (T : zDD) (c : Nat) (b : Bool) : List zLv → zPF → zPF
  | [], q => q
  | f :: r, q => zks T c b r (zkf T c b f q)
theorem zfq_ks {T : zDD} {c : Nat} {b : Bool} : ∀ (fr : List zLv) (q : zPF), zfq q.1 (zks T c b fr q).1 := by
  intro fr
  induction fr with
  | nil => intro q; exact zfq_r _
  | cons f r ih =>
    intro q
    refine zfq_t ?_ (ih _)
    unfold zkf
    split
    · exact zfq_l
    · have h1 : zfq q.1 (zkq T c b f q).1 := zfq_lp (zfq_pt f.1) _ _ _
      have h2 : zfq (zkq T c b f q).1 (zkr T c b f (zkq T c b f q)).1 := zfq_lp (zfq_pd (zfq_pt f.1)) _ _ _
      refine zfq_t (zfq_t h1 h2) ?_
      generalize zkr T c b f (zkq T c b f q) = s
      unfold zkm
      split
      · exact zfq_r _
      split
      · exact zfq_t zfq_NS zfq_l
      split
      · exact zfq_t zfq_NS zfq_l
      split
      · exact zfq_t zfq_NS zfq_l
      · exact zfq_t zfq_NS (zfq_t (zfq_su (zfq_pt f.1) _ _) (zfq_t zfq_NS zfq_l))
theorem zpS_i {T : zDD} {p : zP} {s : Nat} : zpS T p s = true ↔ T p.1 0 = 3 ∧ T p.1 2 = s := by unfold zpS; exact decide_eq_true_iff
theorem zpS_f {T : zDD} {p : zP} {s : Nat} : zpS T p s = false ↔ ¬ (T p.1 0 = 3 ∧ T p.1 2 = s) := by unfold zpS; exact decide_eq_false_iff_not
-- a sign is no word
theorem zf_n {b : Bool} {w : Nat} (h : 30 ≤ w) : ¬ (if b = true then zfP w else zfH w) < 30 := by
  have e1 : zfP w = 99 := by
    unfold zfP
    rw [if_neg (by omega), if_neg (by omega), if_neg (by omega), if_neg (by omega), if_neg (by omega)]
  have e2 : zfH w = 99 := by
    unfold zfH
    rw [if_neg (by omega), if_neg (by omega), if_neg (by omega), if_neg (by omega), if_neg (by omega), if_neg (by omega)]
  rw [e1, e2]
  cases b <;> decide
theorem zks_open {T : zDD} {c k : Nat} {b : Bool} {fr : List zLv} {p : zP} {F : zFl} (hs : zpS T p 40 = true) (h4 : 30 ≤ T p.1 4) : zks T c b fr (zpt T c b (k + 1) p F) = zks T c b ((k, 0, 1600, 0, 1600, 20) :: fr) (zpt T c b k (zpe T c p) F) := by
  have h3 := zpS_i.mp hs
  rw [zpt, if_neg (by omega), if_neg (zf_n h4), if_pos hs]
  rfl
theorem zf_mm {b : Bool} {w : Nat} (h : w = 22 ∨ w = 23) : ¬ (if b = true then zfP w else zfH w) < 30 := by
  rcases h with rfl | rfl <;> cases b <;> decide
theorem zks_mm {T : zDD} {c k : Nat} {b : Bool} {fr : List zLv} {p : zP} {F : zFl} (hw : T p.1 4 = 22 ∨ T p.1 4 = 23) (h0 : T p.1 0 = 1) (hs : zpS T (zpn c p) 40 = true) : zks T c b fr (zpt T c b (k + 1) p F) = zks T c b ((k, 0, 1600, 0, 1600, if T p.1 4 = 22 then 21 else 22) :: fr) (zpt T c b k (zpe T c (zpn c p)) F) := by
  have e4 : zpS T p 40 = false := zpS_f.mpr (by omega)
  rw [zpt, if_neg (by omega), if_neg (zf_mm hw), if_neg (by rw [e4]; decide), if_pos hw]
  unfold zo2
  rw [if_pos hs]
  rcases hw with hw | hw
  · rw [show (if T p.1 4 = 22 then 8 else 9) = 8 from if_pos hw, show (if T p.1 4 = 22 then 21 else 22) = 21 from if_pos hw]
    rfl
  · rw [show (if T p.1 4 = 22 then 8 else 9) = 9 from if_neg (by omega), show (if T p.1 4 = 22 then 21 else 22) = 22 from if_neg (by omega)]
    rfl
theorem zks_mmx {T : zDD} {c k : Nat} {b : Bool} {fr : List zLv} {p : zP} {F : zFl} (hw : T p.1 4 = 22 ∨ T p.1 4 = 23) (h0 : T p.1 0 = 1) (hs : zpS T (zpn c p) 40 = false) : zks T c b fr (zpt T c b (k + 1) p F) = zks T c b fr (zpfh T c (zpn c p), F) := by
  have e4 : zpS T p 40 = false := zpS_f.mpr (by omega)
  rw [zpt, if_neg (by omega), if_neg (zf_mm hw), if_neg (by rw [e4]; decide), if_pos hw]
  unfold zo2
  rw [if_neg (by rw [hs]; decide)]
theorem zks_of {T : zDD} {c k : Nat} {fr : List zLv} {p : zP} {F : zFl} (hw : T p.1 4 = 17) (h0 : T p.1 0 = 1) : zks T c true fr (zpt T c true (k + 1) p F) = zks T c true ((k, 0, 0, 0, 0, 60) :: fr) (zpt T c true k (zpe T c p) F) := by
  have e4 : zpS T p 40 = false := zpS_f.mpr (by omega)
  rw [zpt, if_neg (by omega), if_neg (by rw [hw]; decide), if_neg (by rw [e4]; decide), if_neg (by omega), if_pos ⟨rfl, hw⟩]
  rfl
theorem zks_num {T : zDD} {c k : Nat} {b : Bool} {p : zP} {F : zFl} (h0 : T p.1 0 = 2) : zpt T c b (k + 1) p F = ((zpNu T c p 9999).1, F ++ [(0, (zpNu T c p 9999).2)]) := by
  rw [zpt, if_pos h0]
theorem zks_fact {T : zDD} {c k : Nat} {b : Bool} {p : zP} {F : zFl} (h0 : T p.1 0 = 1) (hw : (if b = true then zfP (T p.1 4) else zfH (T p.1 4)) < 30) : zpt T c b (k + 1) p F = (zpn c p, F ++ [(1, if b = true then zfP (T p.1 4) else zfH (T p.1 4))]) := by
  rw [zpt, if_neg (by omega), if_pos hw]
theorem zks_bad {T : zDD} {c k : Nat} {b : Bool} {p : zP} {F : zFl} (h2 : T p.1 0 ≠ 2) (hw : ¬ (if b = true then zfP (T p.1 4) else zfH (T p.1 4)) < 30) (hs : zpS T p 40 = false) (hm : ¬ (T p.1 4 = 22 ∨ T p.1 4 = 23)) (h7 : ¬ (b = true ∧ T p.1 4 = 17)) : zpt T c b (k + 1) p F = (zpfh T c p, F) := by
  rw [zpt, if_neg h2, if_neg hw, if_neg (by rw [hs]; decide), if_neg hm, if_neg h7]
-- the loops at a token
theorem zlp_no {T : zDD} {c s1 s2 o1 o2 n : Nat} {pt : zP → zFl → zPF} {p : zP} {F : zFl} (h1 : zpS T p s1 = false) (h2 : zpS T p s2 = false) : zlp T c s1 s2 o1 o2 pt n p F = (p, F) := by
  cases n with
  | zero => rfl
  | succ n => rw [zlp, if_neg (by rw [h1, h2]; decide)]
theorem zlp_yes {T : zDD} {c s1 s2 o1 o2 n : Nat} {pt : zP → zFl → zPF} {p : zP} {F : zFl} (h : zpS T p s1 = true ∨ zpS T p s2 = true) : zlp T c s1 s2 o1 o2 pt (n + 1) p F = zlp T c s1 s2 o1 o2 pt n (pt (zpn c p) F).1 ((pt (zpn c p) F).2 ++ [(if zpS T p s1 then o1 else o2, 0)]) := by
  rw [zlp, if_pos (by rcases h with h | h <;> rw [h] <;> simp)]
theorem zap_0 {m : Nat} {F : zFl} (h : m ≠ 0) : zap m F = F ++ [(m, 0)] := if_neg h
theorem zks_times {T : zDD} {c k m n a l w : Nat} {b : Bool} {r : List zLv} {p : zP} {F : zFl} (hw : w ≠ 60) (hs : zpS T p 42 = true ∨ zpS T p 47 = true) : zks T c b ((k, m, n + 1, a, l, w) :: r) (p, F) = zks T c b ((k, (if zpS T p 42 then 6 else 7), n, a, l, w) :: r) (zpt T c b k (zpn c p) (zap m F)) := by
  rw [zks, zks]
  unfold zkf
  rw [if_neg hw, if_neg hw]
  have e : zkq T c b (k, m, n + 1, a, l, w) (p, F) = zkq T c b (k, (if zpS T p 42 then 6 else 7), n, a, l, w) (zpt T c b k (zpn c p) (zap m F)) := by
    unfold zkq
    show zlp T c 42 47 6 7 (zpt T c b k) (n + 1) p (zap m F) = _
    rw [zlp_yes hs]
    show _ = zlp T c 42 47 6 7 (zpt T c b k) n _ (zap (if zpS T p 42 then 6 else 7) _)
    rw [zap_0 (m := if zpS T p 42 then 6 else 7) (by split <;> decide)]
  rw [e]
  rfl
theorem zks_plus {T : zDD} {c k m n a l w : Nat} {b : Bool} {r : List zLv} {p : zP} {F : zFl} (hw : w ≠ 60) (h1 : zpS T p 42 = false) (h2 : zpS T p 47 = false) (hs : zpS T p 43 = true ∨ zpS T p 45 = true) : zks T c b ((k, m, n, a, l + 1, w) :: r) (p, F) = zks T c b ((k, 0, 1600, (if zpS T p 43 then 4 else 5), l, w) :: r) (zpt T c b k (zpn c p) (zap a (zap m F))) := by
  rw [zks, zks]
  unfold zkf
  rw [if_neg hw, if_neg hw]
  have e1 : zkq T c b (k, m, n, a, l + 1, w) (p, F) = (p, zap m F) := zlp_no h1 h2
  rw [e1]
  have e : zkr T c b (k, m, n, a, l + 1, w) (p, zap m F) = zkr T c b (k, 0, 1600, (if zpS T p 43 then 4 else 5), l, w) (zkq T c b (k, 0, 1600, (if zpS T p 43 then 4 else 5), l, w) (zpt T c b k (zpn c p) (zap a (zap m F)))) := by
    unfold zkr
    show zlp T c 43 45 4 5 (zpd T c (zpt T c b k)) (l + 1) p (zap a (zap m F)) = _
    rw [zlp_yes hs]
    show _ = zlp T c 43 45 4 5 (zpd T c (zpt T c b k)) l _ (zap (if zpS T p 43 then 4 else 5) _)
    rw [zap_0 (m := if zpS T p 43 then 4 else 5) (by split <;> decide)]
    rfl
  rw [e]
theorem zks_end {T : zDD} {c k m n a l w : Nat} {b : Bool} {r : List zLv} {p : zP} {F : zFl} (hw : w ≠ 60) (h1 : zpS T p 42 = false) (h2 : zpS T p 47 = false) (h3 : zpS T p 43 = false) (h4 : zpS T p 45 = false) : zks T c b ((k, m, n, a, l, w) :: r) (p, F) = zks T c b r (zkm T c b k w (p, zap a (zap m F))) := by
  rw [zks]
  unfold zkf
  rw [if_neg hw]
  have e1 : zkq T c b (k, m, n, a, l, w) (p, F) = (p, zap m F) := zlp_no h1 h2
  rw [e1]
  have e2 : zkr T c b (k, m, n, a, l, w) (p, zap m F) = (p, zap a (zap m F)) := zlp_no h3 h4
  rw [e2]
theorem zkm_next {T : zDD} {c k w : Nat} {b : Bool} {r : List zLv} {p : zP} {F : zFl} (hw : w = 21 ∨ w = 22) : zks T c b r (zkm T c b k w (p, F)) = zks T c b ((k, 0, 1600, 0, 1600, w + 2) :: r) (zpt T c b k (zpNS T c p 44) F) := by
  rcases hw with rfl | rfl <;> rfl
theorem zks_wins {T : zDD} {c k m n a l : Nat} {b : Bool} {r : List zLv} {q : zPF} : zks T c b ((k, m, n, a, l, 60) :: r) q = zks T c b r (zpl q.1, q.2 ++ [(3, 0)]) := rfl
-- dropping of waiting signs
def zdw (P : Nat → Bool) : List Nat → zFl → List Nat × zFl
  | [], F => ([], F)
  | x :: W, F => if P x then zdw P W (F ++ [(x + 3, 0)]) else (x :: W, F)
def zPm (x : Nat) : Bool := decide (¬ (20 ≤ x ∧ x ≤ 24))
def zP3 (x : Nat) : Bool := decide (x = 3 ∨ x = 4)
def zP1 (x : Nat) : Bool := decide (x = 3 ∨ x = 4 ∨ x = 1 ∨ x = 2)
def zLm : List Nat → Int32
  | [] => -1
  | x :: W => if zPm x then zLm W else nI x
-- the frames as the reference keeps them
def zWl (f : zLv) : List Nat := if f.2.2.2.2.2 = 60 then [60] else (if f.2.1 = 0 then [] else [f.2.1 - 3]) ++ ((if f.2.2.2.1 = 0 then [] else [f.2.2.2.1 - 3]) ++ (if f.2.2.2.2.2 = 0 then [] else [f.2.2.2.2.2]))
def zWf : List zLv → List Nat
  | [] => []
  | f :: r => zWl f ++ zWf r
def zLw (P : Nat) (f : zLv) : Prop := (f.2.1 = 0 ∨ f.2.1 = 6 ∨ f.2.1 = 7) ∧ (f.2.2.2.1 = 0 ∨ f.2.2.2.1 = 4 ∨ f.2.2.2.1 = 5) ∧ (f.2.2.2.2.2 = 60 ∨ (1600 ≤ f.2.2.1 + P ∧ 1600 ≤ f.2.2.2.2.1 + P))
def zKv (e : Bool) (P : Nat) : Nat → List zLv → Prop
  | _, [] => False
  | o, f :: r => zLw P f ∧ o ≤ 6 ∧ 8 ≤ f.1 + o ∧ ((r = [] ∧ f.2.2.2.2.2 = 0) ∨ ((20 ≤ f.2.2.2.2.2 ∧ f.2.2.2.2.2 ≤ 24 ∨ (e = true ∧ f.2.2.2.2.2 = 60)) ∧ 1 ≤ o ∧ zKv e P (o - 1) r))
theorem zKv_m {e : Bool} {P P' : Nat} (h : P ≤ P') : ∀ (fr : List zLv) (o : Nat), zKv e P o fr → zKv e P' o fr := by
  intro fr
  induction fr with
  | nil => intro o hh; exact hh
  | cons f r ih =>
    intro o hh
    rw [zKv] at hh ⊢
    obtain ⟨⟨a1, a2, a3⟩, b1, b2, b3⟩ := hh
    refine ⟨⟨a1, a2, by omega⟩, b1, b2, ?_⟩
    rcases b3 with e | ⟨e1, e2, e3⟩
    · exact Or.inl e
    · exact Or.inr ⟨e1, e2, ih _ e3⟩
-- the frame on top, its signs dropped
theorem zLm_f {P : Nat} {f : zLv} {V : List Nat} (h : zLw P f) (hw : f.2.2.2.2.2 = 0 ∨ (20 ≤ f.2.2.2.2.2 ∧ f.2.2.2.2.2 ≤ 24)) : zLm (zWl f ++ V) = if f.2.2.2.2.2 = 0 then zLm V else nI f.2.2.2.2.2 := by
  obtain ⟨k, m, n, a, l, w⟩ := f
  obtain ⟨h1, h2, -⟩ := h
  have h1' : m = 0 ∨ m = 6 ∨ m = 7 := h1
  have h2' : a = 0 ∨ a = 4 ∨ a = 5 := h2
  have hw' : w = 0 ∨ (20 ≤ w ∧ w ≤ 24) := hw
  have hc : w = 0 ∨ w = 20 ∨ w = 21 ∨ w = 22 ∨ w = 23 ∨ w = 24 := by omega
  rcases h1' with rfl | rfl | rfl <;> rcases h2' with rfl | rfl | rfl <;> rcases hc with rfl | rfl | rfl | rfl | rfl | rfl <;> rfl
theorem zdm_f {P : Nat} {f : zLv} {V : List Nat} {F : zFl} (h : zLw P f) (hw : 20 ≤ f.2.2.2.2.2 ∧ f.2.2.2.2.2 ≤ 24) : zdw zPm (zWl f ++ V) F = (f.2.2.2.2.2 :: V, zap f.2.2.2.1 (zap f.2.1 F)) := by
  obtain ⟨k, m, n, a, l, w⟩ := f
  obtain ⟨h1, h2, -⟩ := h
  have h1' : m = 0 ∨ m = 6 ∨ m = 7 := h1
  have h2' : a = 0 ∨ a = 4 ∨ a = 5 := h2
  have hw' : 20 ≤ w ∧ w ≤ 24 := hw
  have hc : w = 20 ∨ w = 21 ∨ w = 22 ∨ w = 23 ∨ w = 24 := by omega
  rcases h1' with rfl | rfl | rfl <;> rcases h2' with rfl | rfl | rfl <;> rcases hc with rfl | rfl | rfl | rfl | rfl <;> rfl
theorem zdm_x {P : Nat} {f : zLv} {x : Nat} (h : zLw P f) (hx : x ∈ zWl f) (hm : zPm x = true) (hw : f.2.2.2.2.2 = 0 ∨ (20 ≤ f.2.2.2.2.2 ∧ f.2.2.2.2.2 ≤ 24)) : 1 ≤ x ∧ x ≤ 4 := by
  obtain ⟨k, m, n, a, l, w⟩ := f
  obtain ⟨h1, h2, h3⟩ := h
  have h1' : m = 0 ∨ m = 6 ∨ m = 7 := h1
  have h2' : a = 0 ∨ a = 4 ∨ a = 5 := h2
  have hw' : w = 0 ∨ (20 ≤ w ∧ w ≤ 24) := hw
  have hm' := of_decide_eq_true hm
  unfold zWl at hx
  rw [if_neg (by show ¬ w = 60; omega)] at hx
  have hx' : x ∈ (if m = 0 then [] else [m - 3]) ++ ((if a = 0 then [] else [a - 3]) ++ (if w = 0 then [] else [w])) := hx
  rcases List.mem_append.mp hx' with e | e
  · split at e
    · exact absurd e List.not_mem_nil
    · have := List.mem_singleton.mp e; omega
  · rcases List.mem_append.mp e with e | e
    · split at e
      · exact absurd e List.not_mem_nil
      · have := List.mem_singleton.mp e; omega
    · split at e
      · exact absurd e List.not_mem_nil
      · have := List.mem_singleton.mp e
        omega
def zWt (a w : Nat) : List Nat := (if a = 0 then [] else [a - 3]) ++ (if w = 0 then [] else [w])
theorem zdr3_f {P : Nat} {f : zLv} {V : List Nat} {F : zFl} (h : zLw P f) (hw : f.2.2.2.2.2 = 0 ∨ (20 ≤ f.2.2.2.2.2 ∧ f.2.2.2.2.2 ≤ 24)) (hV : f.2.2.2.2.2 = 0 → ∀ F, zdw zP3 V F = (V, F)) : zdw zP3 (zWl f ++ V) F = (zWt f.2.2.2.1 f.2.2.2.2.2 ++ V, zap f.2.1 F) := by
  obtain ⟨k, m, n, a, l, w⟩ := f
  obtain ⟨h1, h2, -⟩ := h
  have h1' : m = 0 ∨ m = 6 ∨ m = 7 := h1
  have h2' : a = 0 ∨ a = 4 ∨ a = 5 := h2
  have hw' : w = 0 ∨ (20 ≤ w ∧ w ≤ 24) := hw
  have hc : w = 0 ∨ w = 20 ∨ w = 21 ∨ w = 22 ∨ w = 23 ∨ w = 24 := by omega
  rcases h1' with rfl | rfl | rfl <;> rcases h2' with rfl | rfl | rfl <;> rcases hc with rfl | rfl | rfl | rfl | rfl | rfl <;> first | rfl | exact hV rfl _
theorem zdr1_f {P : Nat} {f : zLv} {V : List Nat} {F : zFl} (h : zLw P f) (hw : f.2.2.2.2.2 = 0 ∨ (20 ≤ f.2.2.2.2.2 ∧ f.2.2.2.2.2 ≤ 24)) (hV : f.2.2.2.2.2 = 0 → ∀ F, zdw zP1 V F = (V, F)) : zdw zP1 (zWl f ++ V) F = ((if f.2.2.2.2.2 = 0 then [] else [f.2.2.2.2.2]) ++ V, zap f.2.2.2.1 (zap f.2.1 F)) := by
  obtain ⟨k, m, n, a, l, w⟩ := f
  obtain ⟨h1, h2, -⟩ := h
  have h1' : m = 0 ∨ m = 6 ∨ m = 7 := h1
  have h2' : a = 0 ∨ a = 4 ∨ a = 5 := h2
  have hw' : w = 0 ∨ (20 ≤ w ∧ w ≤ 24) := hw
  have hc : w = 0 ∨ w = 20 ∨ w = 21 ∨ w = 22 ∨ w = 23 ∨ w = 24 := by omega
  rcases h1' with rfl | rfl | rfl <;> rcases h2' with rfl | rfl | rfl <;> rcases hc with rfl | rfl | rfl | rfl | rfl | rfl <;> first | rfl | exact hV rfl _
theorem zap_n {m : Nat} {F : zFl} : (zap m F).length = F.length + if m = 0 then 0 else 1 := by
  unfold zap
  split
  · rfl
  · rw [List.length_append]; rfl
theorem zWl_n {f : zLv} (hw : f.2.2.2.2.2 ≠ 60) : (zWl f).length = (if f.2.1 = 0 then 0 else 1) + ((if f.2.2.2.1 = 0 then 0 else 1) + (if f.2.2.2.2.2 = 0 then 0 else 1)) := by
  unfold zWl
  rw [if_neg hw, List.length_append, List.length_append]
  congr 1
  · split <;> rfl
  · congr 1
    · split <;> rfl
    · split <;> rfl
theorem zWt_n {a w : Nat} : (zWt a w).length = (if a = 0 then 0 else 1) + (if w = 0 then 0 else 1) := by
  unfold zWt
  rw [List.length_append]
  congr 1
  · split <;> rfl
  · split <;> rfl
theorem zWl_t {k m n a l w : Nat} (hw : w ≠ 60) (hm : m ≠ 0) : zWl (k, m, n, a, l, w) = (m - 3) :: zWt a w := by
  unfold zWl
  rw [if_neg hw]
  show (if m = 0 then [] else [m - 3]) ++ _ = _
  rw [if_neg hm]
  rfl
theorem zWl_a {k n a l w : Nat} (hw : w ≠ 60) (ha : a ≠ 0) : zWl (k, 0, n, a, l, w) = (a - 3) :: (if w = 0 then [] else [w]) := by
  unfold zWl
  rw [if_neg hw]
  show [] ++ ((if a = 0 then [] else [a - 3]) ++ _) = _
  rw [if_neg ha]
  rfl
theorem zWl_w {k n l w : Nat} (hw : w ≠ 0) : zWl (k, 0, n, 0, l, w) = [w] := by
  unfold zWl
  by_cases h : w = 60
  · rw [if_pos h, h]
  · rw [if_neg h]
    show [] ++ ([] ++ if w = 0 then [] else [w]) = _
    rw [if_neg hw]
    rfl
theorem zdw_h {Q : Nat → Bool} {V : List Nat} (h : ∀ x, x ∈ V → Q x = false) (F : zFl) : zdw Q V F = (V, F) := by
  cases V with
  | nil => rfl
  | cons x V => rw [zdw, if_neg (by rw [h x (List.mem_cons_self ..)]; decide)]

