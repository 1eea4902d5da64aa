-- a fault stays
def zfq (p p' : zP) : Prop := p.2.2.1 ≠ 0 → p'.2.2 = p.2.2
theorem zfq_r (p : zP) : zfq p p := fun _ => rfl
theorem zfq_t {p q r : zP} (h : zfq p q) (h' : zfq q r) : zfq p r := fun e => by
  have h1 := h e
  exact (h' (by rw [h1]; exact e)).trans h1
theorem zfq_0 {p q : zP} (h : zfq p q) (e : q.2.2.1 = 0) : p.2.2.1 = 0 := by
  refine Classical.byContradiction fun c => ?_
  have := h c
  rw [this] at e
  exact c e
theorem zfq_f {c k : Nat} {p : zP} {y : Int32} : zfq p (zpf c p k y) := fun e => by
  unfold zpf
  rw [if_neg e]
theorem zfq_n {c : Nat} {p : zP} : zfq p (zpn c p) := fun _ => rfl
theorem zfq_l {p : zP} : zfq p (zpl p) := fun _ => rfl
theorem zfq_e {T : zDD} {c : Nat} {p : zP} : zfq p (zpe T c p) := by
  unfold zpe
  split
  · exact fun _ => rfl
  · exact zfq_f
theorem zfq_NS {T : zDD} {c s : Nat} {p : zP} : zfq p (zpNS T c p s) := by
  unfold zpNS
  split
  · exact zfq_n
  · exact zfq_f
theorem zfq_Wo {T : zDD} {c f l : Nat} {p : zP} : zfq p (zpWo T c p f l).1 := by
  unfold zpWo
  split
  · exact zfq_n
  · exact zfq_f
theorem zfq_Nu {T : zDD} {c m : Nat} {p : zP} : zfq p (zpNu T c p m).1 := by
  unfold zpNu
  split
  · split
    · split
      · exact zfq_n
      · exact zfq_f
    · exact zfq_f
  · exact zfq_f
theorem zfq_Na {T : zDD} {c : Nat} {p : zP} : zfq p (zpNa T c p).1 := by
  unfold zpNa
  split
  · split
    · exact zfq_n
    · exact zfq_f
  · exact zfq_f
theorem zfq_tp {T : zDD} {c n : Nat} {p : zP} {nm : Nat → Nat} : zfq p (ztp T c p n nm).1 := by
  unfold ztp
  split
  · split
    · exact zfq_Na
    · exact zfq_t zfq_Na zfq_f
  · exact zfq_Na
theorem zfq_tn {T : zDD} {c n bx : Nat} {p : zP} {nm bn : Nat → Nat} : zfq p (ztn T c p n nm bx bn).1 := by
  unfold ztn
  split
  · exact zfq_t zfq_Na zfq_f
  · exact zfq_Na
theorem zfq_lp {T : zDD} {c s1 s2 o1 o2 : Nat} {pt : zP → zFl → zPF} (hpt : ∀ p F, zfq p (pt p F).1) : ∀ n p F, zfq p (zlp T c s1 s2 o1 o2 pt n p F).1 := by
  intro n
  induction n with
  | zero => intro p F; exact zfq_r p
  | succ n ih =>
    intro p F
    rw [zlp]
    split
    · exact zfq_t zfq_n (zfq_t (hpt _ _) (ih _ _))
    · exact zfq_r p
theorem zfq_pd {T : zDD} {c : Nat} {pt : zP → zFl → zPF} (hpt : ∀ p F, zfq p (pt p F).1) (p : zP) (F : zFl) : zfq p (zpd T c pt p F).1 := zfq_t (hpt p F) (zfq_lp hpt _ _ _)
theorem zfq_su {T : zDD} {c : Nat} {pt : zP → zFl → zPF} (hpt : ∀ p F, zfq p (pt p F).1) (p : zP) (F : zFl) : zfq p (zsu T c pt p F).1 := zfq_t (zfq_pd hpt p F) (zfq_lp (zfq_pd hpt) _ _ _)
theorem zfq_o2 {T : zDD} {c op : Nat} {su : zP → zFl → zPF} (hsu : ∀ p F, zfq p (su p F).1) (p : zP) (F : zFl) : zfq p (zo2 T c su op p F).1 := by
  unfold zo2
  split
  · exact zfq_t zfq_n (zfq_t zfq_e (zfq_t (hsu _ _) (zfq_t zfq_NS (zfq_t (hsu _ _) (zfq_t zfq_NS zfq_l)))))
  · exact zfq_t zfq_n zfq_f
theorem zfq_pt {T : zDD} {c : Nat} {b : Bool} : ∀ k p F, zfq p (zpt T c b k p F).1 := by
  intro k
  induction k with
  | zero => intro p F; exact zfq_r p
  | succ k ih =>
    intro p F
    rw [zpt]
    generalize (if b = true then zfP (T p.1 4) else zfH (T p.1 4)) = z
    generalize (if T p.1 4 = 22 then 8 else 9) = op
    split
    · exact zfq_Nu
    · split
      · exact zfq_n
      · split
        · exact zfq_t zfq_e (zfq_t (zfq_su ih _ _) (zfq_t zfq_NS zfq_l))
        · split
          · exact zfq_o2 (zfq_su ih) p F
          · split
            · exact zfq_t zfq_e (zfq_t (ih _ _) zfq_l)
            · exact zfq_f
theorem zfq_sum {T : zDD} {c : Nat} {b : Bool} (p : zP) (F : zFl) : zfq p (zsum T c b p F).1 := zfq_su (zfq_pt 8) p F
theorem zfq_lw {T : zDD} {c wd op : Nat} {pt : zP → zFl → zPF} (hpt : ∀ p F, zfq p (pt p F).1) : ∀ n p F, zfq p (zlw T c wd op pt n p F).1 := by
  intro n
  induction n with
  | zero => intro p F; exact zfq_r p
  | succ n ih =>
    intro p F
    rw [zlw]
    split
    · exact zfq_t zfq_n (zfq_t (hpt _ _) (ih _ _))
    · exact zfq_r p
theorem zfq_lx {T : zDD} {c wd op : Nat} {pt : zP → zFl → zPF} (hpt : ∀ p F, zfq p (pt p F).1) (p : zP) (F : zFl) : zfq p (zlx T c wd op pt p F).1 := zfq_t (hpt p F) (zfq_lw hpt _ _ _)
theorem zfq_cmp {T : zDD} {c : Nat} (p : zP) (F : zFl) : zfq p (zcmp T c p F).1 := by
  have h1 := zfq_sum (T := T) (c := c) (b := true) p F
  have h3 : ∀ op, zfq p (zcm2 T c op (zsum T c true p F)).1 := fun op => zfq_t h1 (zfq_t zfq_n (zfq_sum _ _))
  unfold zcmp zcm1
  split
  · exact h3 10
  · split
    · exact h3 11
    · split
      · exact h3 12
      · exact zfq_t h1 zfq_f
theorem zfq_qf {T : zDD} {c : Nat} : ∀ k p F, zfq p (zqf T c k p F).1 := by
  intro k
  induction k with
  | zero => intro p F; exact zfq_r p
  | succ k ih =>
    intro p F
    rw [zqf]
    split
    · exact zfq_t zfq_e (zfq_t (ih _ _) zfq_l)
    · split
      · exact zfq_t zfq_e (zfq_t (zfq_lx (zfq_lx ih) _ _) (zfq_t zfq_NS zfq_l))
      · split
        · exact zfq_n
        · exact zfq_cmp p F
theorem zfq_P {T : zDD} {c : Nat} {p : zP} {D : zDD} : zfq p (zrP T c p D).1 := by
  unfold zrP
  split
  · exact zfq_t zfq_n (zfq_t zfq_tn (zfq_t zfq_Wo (zfq_t zfq_Nu (zfq_t zfq_Wo zfq_Nu))))
  · exact zfq_f
theorem zfq_B {T : zDD} {c : Nat} {p : zP} {D : zDD} : zfq p (zrB T c p D).1 := by
  unfold zrB
  split
  · exact zfq_t zfq_n (zfq_t zfq_tn (zfq_t zfq_Wo zfq_Nu))
  · exact zfq_f
theorem zfq_H {T : zDD} {c : Nat} {p : zP} {D : zDD} : zfq p (zrH T c p D).1 := zfq_t zfq_n (zfq_t zfq_tp (zfq_t zfq_Wo (zfq_t zfq_Wo zfq_Nu)))
theorem zfq_T {T : zDD} {c : Nat} {p : zP} {D : zDD} : zfq p (zrT T c p D).1 := zfq_t zfq_n (zfq_t zfq_tp zfq_Nu)
theorem zfq_G {T : zDD} {c : Nat} {p : zP} {D : zDD} : zfq p (zrG T c p D).1 := zfq_t zfq_n zfq_Nu
theorem zfq_S {T : zDD} {c a : Nat} {p : zP} {F : zFl} : zfq p (zrS T c p a F).1 := by
  unfold zrS
  split
  · exact zfq_t zfq_n (zfq_sum _ _)
  · exact zfq_f
theorem zfq_ro1 {T : zDD} {c : Nat} (s : zTS) : zfq s.1 (zro1 T c s).1 := by
  unfold zro1
  split
  · exact zfq_P
  split
  · exact zfq_H
  split
  · exact zfq_B
  split
  · exact zfq_T
  split
  · exact zfq_S
  split
  · exact zfq_S
  split
  · exact zfq_G (D := s.2.1)
  · exact zfq_f
theorem zfq_ro {T : zDD} {c : Nat} (s : zTS) : zfq s.1 (zro T c s).1 := zfq_t (zfq_ro1 s) zfq_NS
theorem zfq_rl {T : zDD} {c : Nat} : ∀ k s, zfq s.1 (zrl T c k s).1 := by
  intro k
  induction k with
  | zero =>
    intro s
    rw [zrl]
    split
    · exact zfq_r _
    · exact zfq_f
  | succ k ih =>
    intro s
    rw [zrl]
    split
    · exact zfq_r _
    · exact zfq_t (zfq_ro s) (ih _)
-- the steps of a sum, a test: how deep, of which kind
def zyt (K : Nat) (b : Bool) (ops : zFl) : Prop := ∀ ts rest, ts.length + K ≤ 60 → ztr (ops ++ rest) ts = ztr rest (b :: ts)
def ztx (K : Nat) (b : Bool) (ops : zFl) : Prop := ∀ ts rest, ts.length + K ≤ 60 → ztr (ops ++ rest) (b :: ts) = ztr rest (b :: ts)
def zrb (ops ops' : zFl) : Prop := (∀ F st, zeva F ops st = zeva F ops' st) ∧ ops.map (fun q => zenc q.1 q.2) = ops'.map (fun q => zenc q.1 q.2) ∧ ∀ q, q ∈ ops' → q.1 ≤ 15 ∧ q.2 ≤ 9999
theorem zeva_app (F : Nat → Int) : ∀ (a b : zFl) (st : List Int), zeva F (a ++ b) st = zeva F b (zeva F a st) := by
  intro a
  induction a with
  | nil => intro b st; rfl
  | cons q a ih =>
    intro b st
    obtain ⟨op, arg⟩ := q
    exact ih b _
theorem zrb_app {a a' b b' : zFl} (h : zrb a a') (h' : zrb b b') : zrb (a ++ b) (a' ++ b') := by
  refine ⟨fun F st => by rw [zeva_app, zeva_app, h.1, h'.1], by rw [List.map_append, List.map_append, h.2.1, h'.2.1], fun q hq => ?_⟩
  rcases List.mem_append.mp hq with hq | hq
  · exact h.2.2 q hq
  · exact h'.2.2 q hq
theorem zrb_1 {op arg : Nat} (h1 : op ≤ 15) (h2 : arg ≤ 9999) : zrb [(op, arg)] [(op, arg)] := ⟨fun _ _ => rfl, rfl, fun q hq => by rw [List.mem_singleton.mp hq]; exact ⟨h1, h2⟩⟩
theorem zrb_0 : zrb [] [] := ⟨fun _ _ => rfl, rfl, fun q hq => absurd hq List.not_mem_nil⟩
theorem zyt_n {K arg : Nat} (h : arg ≤ 9999) : zyt K false [(0, arg)] := fun ts rest hl => by
  show ztr ((0, arg) :: rest) ts = _
  rw [ztr, if_pos ⟨by omega, by decide, fun _ => h, fun c => absurd c (by decide)⟩]
  rfl
theorem zyt_f {K arg : Nat} (h : arg < 9) : zyt K false [(1, arg)] := fun ts rest hl => by
  show ztr ((1, arg) :: rest) ts = _
  rw [ztr, if_pos ⟨by omega, by decide, fun c => absurd c (by decide), fun _ => h⟩]
  rfl
theorem zyt_a {K : Nat} : zyt K true [(15, 0)] := fun ts rest hl => by
  show ztr ((15, 0) :: rest) ts = _
  rw [ztr, if_pos ⟨by omega, by decide, fun c => absurd c (by decide), fun c => absurd c (by decide)⟩]
  rfl
theorem zyt_up {K K' : Nat} {b : Bool} {a : zFl} (h : zyt K b a) (hk : K ≤ K') : zyt K' b a := fun ts rest hl => h ts rest (by omega)
-- one step on one value, on two
theorem zyt_1 {K op : Nat} {x y : Bool} {a : zFl} (h : zyt K x a) (h1 : 1 ≤ K) (hop : (op = 2 ∧ x = true ∧ y = true) ∨ (op = 3 ∧ x = false ∧ y = false)) : zyt K y (a ++ [(op, 0)]) := fun ts rest hl => by
  rw [List.append_assoc, h ts _ hl]
  show ztr ((op, 0) :: rest) (x :: ts) = _
  have hlen : (x :: ts).length = ts.length + 1 := rfl
  rcases hop with ⟨rfl, rfl, rfl⟩ | ⟨rfl, rfl, rfl⟩
  · rw [ztr, if_pos ⟨by omega, by decide, fun c => absurd c (by decide), fun c => absurd c (by decide)⟩]; rfl
  · rw [ztr, if_pos ⟨by omega, by decide, fun c => absurd c (by decide), fun c => absurd c (by decide)⟩]; rfl
def zo2k (op : Nat) (x y : Bool) : Prop := (4 ≤ op ∧ op ≤ 9 ∧ x = false ∧ y = false) ∨ (10 ≤ op ∧ op ≤ 12 ∧ x = false ∧ y = true) ∨ (13 ≤ op ∧ op ≤ 14 ∧ x = true ∧ y = true)
theorem ztc_2 {op : Nat} {x y : Bool} {ts : List Bool} (h : zo2k op x y) : ztc op (x :: x :: ts) = some (y :: ts) := by
  rcases h with ⟨h1, h2, rfl, rfl⟩ | ⟨h1, h2, rfl, rfl⟩ | ⟨h1, h2, rfl, rfl⟩
  · unfold ztc
    rw [if_neg (by omega), if_neg (by omega)]
    show (if op = 2 then _ else if op = 3 then _ else _) = _
    rw [if_neg (by omega), if_neg (by omega)]
    show (if op ≤ 9 then _ else _) = _
    rw [if_pos (by omega)]
    rfl
  · unfold ztc
    rw [if_neg (by omega), if_neg (by omega)]
    show (if op = 2 then _ else if op = 3 then _ else _) = _
    rw [if_neg (by omega), if_neg (by omega)]
    show (if op ≤ 9 then _ else if op ≤ 12 then _ else _) = _
    rw [if_neg (by omega), if_pos (by omega)]
    rfl
  · unfold ztc
    rw [if_neg (by omega), if_neg (by omega)]
    show (if op = 2 then _ else if op = 3 then _ else _) = _
    rw [if_neg (by omega), if_neg (by omega)]
    show (if op ≤ 9 then _ else if op ≤ 12 then _ else _) = _
    rw [if_neg (by omega), if_neg (by omega)]
    rfl
theorem zyt_2 {K op : Nat} {x y : Bool} {a b : zFl} (ha : zyt K x a) (hb : zyt K x b) (h2 : 2 ≤ K + 1) (hop : zo2k op x y) : zyt (K + 1) y (a ++ b ++ [(op, 0)]) := fun ts rest hl => by
  have hop2 : op ≤ 15 ∧ op ≠ 0 ∧ op ≠ 1 := by rcases hop with h | h | h <;> omega
  rw [List.append_assoc, List.append_assoc, ha ts _ (by omega), hb (x :: ts) _ (by show ts.length + 1 + K ≤ 60; omega)]
  show ztr ((op, 0) :: rest) (x :: x :: ts) = _
  have hlen : (x :: x :: ts).length = ts.length + 2 := rfl
  rw [ztr, if_pos ⟨by omega, by omega, fun c => absurd c hop2.2.1, fun c => absurd c hop2.2.2⟩, ztc_2 hop]
  rfl
theorem ztx_0 {K : Nat} {b : Bool} : ztx K b [] := fun _ _ _ => rfl
theorem ztx_2 {K op : Nat} {x : Bool} {a b : zFl} (hb : zyt K x b) (ha : ztx (K + 1) x a) (h2 : 1 ≤ K) (hop : zo2k op x x) : ztx (K + 1) x (b ++ [(op, 0)] ++ a) := fun ts rest hl => by
  have hop2 : op ≤ 15 ∧ op ≠ 0 ∧ op ≠ 1 := by rcases hop with h | h | h <;> omega
  rw [List.append_assoc, List.append_assoc, hb (x :: ts) _ (by show ts.length + 1 + K ≤ 60; omega)]
  show ztr ((op, 0) :: (a ++ rest)) (x :: x :: ts) = _
  have hlen : (x :: x :: ts).length = ts.length + 2 := rfl
  rw [ztr, if_pos ⟨by omega, by omega, fun c => absurd c hop2.2.1, fun c => absurd c hop2.2.2⟩, ztc_2 hop]
  exact ha ts rest hl
theorem zyt_x {K : Nat} {x : Bool} {a b : zFl} (ha : zyt K x a) (hb : ztx K x b) : zyt K x (a ++ b) := fun ts rest hl => by
  rw [List.append_assoc, ha ts _ hl, hb ts rest hl]

