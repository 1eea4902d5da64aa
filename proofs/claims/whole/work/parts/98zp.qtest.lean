-- what waits behind a fact of a test: frames (depth, pending and, fuel, pending or, fuel, 0 the test itself, 25 a square bracket, 12 a not)
def zqkq (T : zDD) (c : Nat) (f : zLv) (q : zPF) : zPF := zlw T c 19 13 (zqf T c f.1) f.2.2.1 q.1 (zap f.2.1 q.2)
def zqkr (T : zDD) (c : Nat) (f : zLv) (q : zPF) : zPF := zlw T c 18 14 (zlx T c 19 13 (zqf T c f.1)) f.2.2.2.2.1 q.1 (zap f.2.2.2.1 q.2)
def zqkm (T : zDD) (c w : Nat) (q : zPF) : zPF := if w = 0 then q else (zpl (zpNS T c q.1 93), q.2)
def zqkf (T : zDD) (c : Nat) (f : zLv) (q : zPF) : zPF := if f.2.2.2.2.2 = 12 then (zpl q.1, q.2 ++ [(2, 0)]) else zqkm T c f.2.2.2.2.2 (zqkr T c f (zqkq T c f q))
def zqks (T : zDD) (c : Nat) : List zLv → zPF → zPF
  | [], q => q
  | f :: r, q => zqks T c r (zqkf T c f q)
theorem zfq_qks {T : zDD} {c : Nat} : ∀ (fr : List zLv) (q : zPF), zfq q.1 (zqks T c fr q).1 := by
  intro fr
  induction fr with
  | nil => intro q; exact zfq_r _
  | cons f r ih =>
    intro q
    refine zfq_t ?_ (ih _)
    unfold zqkf
    split
    · exact zfq_l
    · have h1 : zfq q.1 (zqkq T c f q).1 := zfq_lw (zfq_qf f.1) _ _ _
      have h2 : zfq (zqkq T c f q).1 (zqkr T c f (zqkq T c f q)).1 := zfq_lw (zfq_lx (zfq_qf f.1)) _ _ _
      refine zfq_t (zfq_t h1 h2) ?_
      unfold zqkm
      split
      · exact zfq_r _
      · exact zfq_t zfq_NS zfq_l
theorem zqks_open {T : zDD} {c k : Nat} {fr : List zLv} {p : zP} {F : zFl} (hs : zpS T p 91 = true) (h4 : 30 ≤ T p.1 4) : zqks T c fr (zqf T c (k + 1) p F) = zqks T c ((k, 0, 1600, 0, 1600, 25) :: fr) (zqf T c k (zpe T c p) F) := by
  rw [zqf, if_neg (by omega), if_pos hs]
  rfl
theorem zqks_not {T : zDD} {c k : Nat} {fr : List zLv} {p : zP} {F : zFl} (hw : T p.1 4 = 20) : zqks T c fr (zqf T c (k + 1) p F) = zqks T c ((k, 0, 0, 0, 0, 12) :: fr) (zqf T c k (zpe T c p) F) := by
  rw [zqf, if_pos hw]
  rfl
theorem zqks_all {T : zDD} {c k : Nat} {p : zP} {F : zFl} (hw : T p.1 4 = 21) (h0 : T p.1 0 = 1) : zqf T c (k + 1) p F = (zpn c p, F ++ [(0, 1)]) := by
  rw [zqf, if_neg (by omega), if_neg (by rw [zpS_f.mpr (by omega)]; decide), if_pos hw]
theorem zqks_cmp {T : zDD} {c k : Nat} {p : zP} {F : zFl} (h20 : T p.1 4 ≠ 20) (hs : zpS T p 91 = false) (h21 : T p.1 4 ≠ 21) : zqf T c (k + 1) p F = zcmp T c p F := by
  rw [zqf, if_neg h20, if_neg (by rw [hs]; decide), if_neg h21]
theorem zlw_no {T : zDD} {c wd op n : Nat} {pt : zP → zFl → zPF} {p : zP} {F : zFl} (h : T p.1 4 ≠ wd) : zlw T c wd op pt n p F = (p, F) := by
  cases n with
  | zero => rfl
  | succ n => rw [zlw, if_neg h]
theorem zlw_yes {T : zDD} {c wd op n : Nat} {pt : zP → zFl → zPF} {p : zP} {F : zFl} (h : T p.1 4 = wd) : zlw T c wd op pt (n + 1) p F = zlw T c wd op pt n (pt (zpn c p) F).1 ((pt (zpn c p) F).2 ++ [(op, 0)]) := by
  rw [zlw, if_pos h]
theorem zqks_and {T : zDD} {c k m n a l w : Nat} {r : List zLv} {p : zP} {F : zFl} (hw : w ≠ 12) (h : T p.1 4 = 19) : zqks T c ((k, m, n + 1, a, l, w) :: r) (p, F) = zqks T c ((k, 13, n, a, l, w) :: r) (zqf T c k (zpn c p) (zap m F)) := by
  rw [zqks, zqks]
  unfold zqkf
  rw [if_neg hw, if_neg hw]
  have e : zqkq T c (k, m, n + 1, a, l, w) (p, F) = zqkq T c (k, 13, n, a, l, w) (zqf T c k (zpn c p) (zap m F)) := by
    unfold zqkq
    show zlw T c 19 13 (zqf T c k) (n + 1) p (zap m F) = _
    rw [zlw_yes h]
    rfl
  rw [e]
  rfl
theorem zqks_or {T : zDD} {c k m n a l w : Nat} {r : List zLv} {p : zP} {F : zFl} (hw : w ≠ 12) (h : T p.1 4 = 18) : zqks T c ((k, m, n, a, l + 1, w) :: r) (p, F) = zqks T c ((k, 0, 1600, 14, l, w) :: r) (zqf T c k (zpn c p) (zap a (zap m F))) := by
  rw [zqks, zqks]
  unfold zqkf
  rw [if_neg hw, if_neg hw]
  have e1 : zqkq T c (k, m, n, a, l + 1, w) (p, F) = (p, zap m F) := zlw_no (show T p.1 4 ≠ 19 by omega)
  rw [e1]
  have e : zqkr T c (k, m, n, a, l + 1, w) (p, zap m F) = zqkr T c (k, 0, 1600, 14, l, w) (zqkq T c (k, 0, 1600, 14, l, w) (zqf T c k (zpn c p) (zap a (zap m F)))) := by
    unfold zqkr
    show zlw T c 18 14 (zlx T c 19 13 (zqf T c k)) (l + 1) p (zap a (zap m F)) = _
    rw [zlw_yes h]
    rfl
  rw [e]
theorem zqks_end {T : zDD} {c k m n a l w : Nat} {r : List zLv} {p : zP} {F : zFl} (hw : w ≠ 12) (h1 : T p.1 4 ≠ 19) (h2 : T p.1 4 ≠ 18) : zqks T c ((k, m, n, a, l, w) :: r) (p, F) = zqks T c r (zqkm T c w (p, zap a (zap m F))) := by
  rw [zqks]
  unfold zqkf
  rw [if_neg hw]
  have e1 : zqkq T c (k, m, n, a, l, w) (p, F) = (p, zap m F) := zlw_no h1
  rw [e1]
  have e2 : zqkr T c (k, m, n, a, l, w) (p, zap m F) = (p, zap a (zap m F)) := zlw_no h2
  rw [e2]
theorem zqks_nots {T : zDD} {c k m n a l : Nat} {r : List zLv} {q : zPF} : zqks T c ((k, m, n, a, l, 12) :: r) q = zqks T c r (zpl q.1, q.2 ++ [(2, 0)]) := rfl
def zLwt (P : Nat) (f : zLv) : Prop := (f.2.1 = 0 ∨ f.2.1 = 13) ∧ (f.2.2.2.1 = 0 ∨ f.2.2.2.1 = 14) ∧ (f.2.2.2.2.2 = 0 ∨ f.2.2.2.2.2 = 25 ∨ (f.2.2.2.2.2 = 12 ∧ f.2.1 = 0 ∧ f.2.2.2.1 = 0)) ∧ (f.2.2.2.2.2 = 12 ∨ (1600 ≤ f.2.2.1 + P ∧ 1600 ≤ f.2.2.2.2.1 + P))
def zKvt (P : Nat) : Nat → List zLv → Prop
  | _, [] => False
  | o, f :: r => zLwt P f ∧ o ≤ 6 ∧ 8 ≤ f.1 + o ∧ ((r = [] ∧ f.2.2.2.2.2 = 0) ∨ (f.2.2.2.2.2 ≠ 0 ∧ 1 ≤ o ∧ zKvt P (o - 1) r))
theorem zKvt_m {P P' : Nat} (h : P ≤ P') : ∀ (fr : List zLv) (o : Nat), zKvt P o fr → zKvt P' o fr := by
  intro fr
  induction fr with
  | nil => intro o hh; exact hh
  | cons f r ih =>
    intro o hh
    rw [zKvt] at hh ⊢
    obtain ⟨⟨a1, a2, a3, a4⟩, b1, b2, b3⟩ := hh
    refine ⟨⟨a1, a2, a3, by omega⟩, b1, b2, ?_⟩
    rcases b3 with e | ⟨e1, e2, e3⟩
    · exact Or.inl e
    · exact Or.inr ⟨e1, e2, ih _ e3⟩
def zPn (x : Nat) : Bool := decide (x = 10)
def zPoo (x : Nat) : Bool := decide (x = 10 ∨ x = 11)
def zPq (x : Nat) : Bool := decide (x ≠ 25)
theorem zdn_f {P : Nat} {f : zLv} {V : List Nat} {F : zFl} (h : zLwt P f) (hw : f.2.2.2.2.2 = 0 ∨ f.2.2.2.2.2 = 25) (hV : f.2.2.2.2.2 = 0 → V = []) : zdw zPn (zWl f ++ V) F = (zWt f.2.2.2.1 f.2.2.2.2.2 ++ V, zap f.2.1 F) := by
  obtain ⟨k, m, n, a, l, w⟩ := f
  obtain ⟨h1, h2, -⟩ := h
  have h1' : m = 0 ∨ m = 13 := h1
  have h2' : a = 0 ∨ a = 14 := h2
  have hw' : w = 0 ∨ w = 25 := hw
  rcases h1' with rfl | rfl <;> rcases h2' with rfl | rfl <;> rcases hw' with rfl | rfl <;> first | rfl | (rw [hV rfl]; rfl)
theorem zdo_f {P : Nat} {f : zLv} {V : List Nat} {F : zFl} (h : zLwt P f) (hw : f.2.2.2.2.2 = 0 ∨ f.2.2.2.2.2 = 25) (hV : f.2.2.2.2.2 = 0 → V = []) : zdw zPoo (zWl f ++ V) F = ((if f.2.2.2.2.2 = 0 then [] else [f.2.2.2.2.2]) ++ V, zap f.2.2.2.1 (zap f.2.1 F)) := by
  obtain ⟨k, m, n, a, l, w⟩ := f
  obtain ⟨h1, h2, -⟩ := h
  have h1' : m = 0 ∨ m = 13 := h1
  have h2' : a = 0 ∨ a = 14 := h2
  have hw' : w = 0 ∨ w = 25 := hw
  rcases h1' with rfl | rfl <;> rcases h2' with rfl | rfl <;> rcases hw' with rfl | rfl <;> first | rfl | (rw [hV rfl]; rfl)
theorem zdq_f {P : Nat} {f : zLv} {V : List Nat} {F : zFl} (h : zLwt P f) (hw : f.2.2.2.2.2 = 25) : zdw zPq (zWl f ++ V) F = (25 :: V, zap f.2.2.2.1 (zap f.2.1 F)) := by
  obtain ⟨k, m, n, a, l, w⟩ := f
  obtain ⟨h1, h2, -⟩ := h
  have h1' : m = 0 ∨ m = 13 := h1
  have h2' : a = 0 ∨ a = 14 := h2
  have hw' : w = 25 := hw
  subst hw'
  rcases h1' with rfl | rfl <;> rcases h2' with rfl | rfl <;> rfl
theorem zdz_f {P : Nat} {f : zLv} {F : zFl} (h : zLwt P f) (hw : f.2.2.2.2.2 = 0) : zdw (fun _ => true) (zWl f) F = ([], zap f.2.2.2.1 (zap f.2.1 F)) := by
  obtain ⟨k, m, n, a, l, w⟩ := f
  obtain ⟨h1, h2, -⟩ := h
  have h1' : m = 0 ∨ m = 13 := h1
  have h2' : a = 0 ∨ a = 14 := h2
  have hw' : w = 0 := hw
  subst hw'
  rcases h1' with rfl | rfl <;> rcases h2' with rfl | rfl <;> rfl
-- the ints of a test's frames
theorem zWl_x {P : Nat} {f : zLv} (h : zLwt P f) : ∀ x, x ∈ zWl f → x = 10 ∨ x = 11 ∨ x = 25 ∨ x = 12 := by
  obtain ⟨k, m, n, a, l, w⟩ := f
  obtain ⟨h1, h2, h3, -⟩ := h
  have h1' : m = 0 ∨ m = 13 := h1
  have h2' : a = 0 ∨ a = 14 := h2
  have h3' : w = 0 ∨ w = 25 ∨ w = 12 := by
    rcases h3 with e | e | e
    · exact Or.inl e
    · exact Or.inr (Or.inl e)
    · exact Or.inr (Or.inr e.1)
  intro x hx
  unfold zWl at hx
  rw [if_neg (by show ¬ w = 60; omega)] at hx
  have hx' : x ∈ (if m = 0 then [] else [m - 3]) ++ ((if a = 0 then [] else [a - 3]) ++ (if w = 0 then [] else [w])) := hx
  rcases List.mem_append.mp hx' with e | e
  · split at e
    · exact absurd e List.not_mem_nil
    · have := List.mem_singleton.mp e; omega
  · rcases List.mem_append.mp e with e | e
    · split at e
      · exact absurd e List.not_mem_nil
      · have := List.mem_singleton.mp e; omega
    · split at e
      · exact absurd e List.not_mem_nil
      · have := List.mem_singleton.mp e; omega
theorem zWf_t {P : Nat} : ∀ {fr : List zLv} {o : Nat}, zKvt P o fr → ∀ x, x ∈ zWf fr → x = 10 ∨ x = 11 ∨ x = 25 ∨ x = 12
  | [], _, h, _, _ => h.elim
  | f :: fr, o, h, x, hx => by
    rcases List.mem_append.mp (show x ∈ zWl f ++ zWf fr from hx) with e | e
    · exact zWl_x h.1 x e
    · rcases h.2.2.2 with ⟨h2, -⟩ | ⟨-, -, h2⟩
      · rw [h2] at e; exact absurd e List.not_mem_nil
      · exact zWf_t h2 x e

