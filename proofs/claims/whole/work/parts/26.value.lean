def ztc (op : Nat) (ts : List Bool) : Option (List Bool) :=
  if op ≤ 1 then some (false :: ts) else if op = 15 then some (true :: ts) else match ts with
  | [] => none
  | x :: r => if op = 2 then (if x = true then some (true :: r) else none) else if op = 3 then (if x = false then some (false :: r) else none) else match r with
    | [] => none
    | y :: r' => if op ≤ 9 then (if x = false ∧ y = false then some (false :: r') else none) else if op ≤ 12 then (if x = false ∧ y = false then some (true :: r') else none) else (if x = true ∧ y = true then some (true :: r') else none)
def ztr : List (Nat × Nat) → List Bool → Option (List Bool)
  | [], ts => some ts
  | (op, arg) :: p, ts => if ts.length ≤ 60 ∧ op ≤ 15 ∧ (op = 0 → arg ≤ 9999) ∧ (op = 1 → arg < 9) then (ztc op ts).bind (ztr p) else none
def zwin (F : Nat → Int) (a : Int) : Int := if a = F 5 then F 7 else if a = F 6 then F 8 else 0
def zop (F : Nat → Int) (op arg : Nat) (st : List Int) : List Int :=
  if op = 0 then (arg : Int) :: st else if op = 1 then F arg :: st else if op = 15 then 1 :: st else match st with
  | [] => []
  | a :: r => if op = 2 then (1 - a) :: r else if op = 3 then zwin F a :: r else match r with
    | [] => [a]
    | b :: r' => zbin op b a :: r'
def zeva (F : Nat → Int) : List (Nat × Nat) → List Int → List Int
  | [], st => st
  | (op, arg) :: p, st => zeva F p (zop F op arg st)
def zvt : List Bool → List Int → Prop
  | [], [] => True
  | t :: ts, z :: zs => zb6 z ∧ (t = true → z01 z) ∧ zvt ts zs
  | _, _ => False
theorem zvt_len : ∀ {ts : List Bool} {st : List Int}, zvt ts st → st.length = ts.length := by
  intro ts
  induction ts with
  | nil => intro st h; cases st with
    | nil => rfl
    | cons => exact absurd h id
  | cons t ts ih => intro st h; cases st with
    | nil => exact absurd h id
    | cons z zs => rw [List.length_cons, List.length_cons, ih h.2.2]
def zFb (F : Nat → Int) : Prop := ∀ i, i < 9 → zb6 (F i)
theorem zwin_b {F : Nat → Int} {a : Int} (hF : zFb F) : zb6 (zwin F a) := by
  unfold zwin
  split
  · exact hF 7 (by decide)
  · split
    · exact hF 8 (by decide)
    · exact ⟨by decide, by decide⟩
theorem zbin_01 {op : Nat} {a b : Int} (h : 10 ≤ op) (h13 : op = 13 → z01 a ∧ z01 b) : z01 (zbin op a b) := by
  unfold zbin
  rw [if_neg (by omega), if_neg (by omega), if_neg (by omega), if_neg (by omega), if_neg (by omega), if_neg (by omega)]
  have i01 : ∀ c : Prop, [Decidable c] → z01 (if c then 1 else 0) := by
    intro c _
    split
    · exact Or.inr rfl
    · exact Or.inl rfl
  by_cases c10 : op = 10
  · rw [if_pos c10]; exact i01 _
  rw [if_neg c10]
  by_cases c11 : op = 11
  · rw [if_pos c11]; exact i01 _
  rw [if_neg c11]
  by_cases c12 : op = 12
  · rw [if_pos c12]; exact i01 _
  rw [if_neg c12]
  by_cases c13 : op = 13
  · rw [if_pos c13]
    obtain ⟨x, y⟩ := h13 c13
    rcases x with rfl | rfl <;> rcases y with rfl | rfl <;> first | exact Or.inl rfl | exact Or.inr rfl
  rw [if_neg c13]
  exact i01 _
theorem zvt_op {F : Nat → Int} (hF : zFb F) {op arg : Nat} {ts ts' : List Bool} {st : List Int} (hv : zvt ts st) (h0 : op = 0 → arg ≤ 9999) (h1 : op = 1 → arg < 9) (ht : ztc op ts = some ts') : zvt ts' (zop F op arg st) := by
  unfold ztc at ht
  unfold zop
  by_cases c0 : op = 0
  · subst c0
    rw [if_pos (by decide)] at ht
    cases ht
    rw [if_pos rfl]
    have := h0 rfl
    exact ⟨⟨by omega, by omega⟩, fun c => (by cases c), hv⟩
  rw [if_neg c0]
  by_cases c1 : op = 1
  · subst c1
    rw [if_pos (by decide)] at ht
    cases ht
    rw [if_pos rfl]
    exact ⟨hF _ (h1 rfl), fun c => (by cases c), hv⟩
  rw [if_neg (by omega)] at ht
  rw [if_neg c1]
  by_cases c15 : op = 15
  · rw [if_pos c15] at ht ⊢
    cases ht
    exact ⟨⟨by decide, by decide⟩, fun _ => Or.inr rfl, hv⟩
  rw [if_neg c15] at ht ⊢
  cases ts with
  | nil => cases ht
  | cons x r =>
    cases st with
    | nil => exact absurd hv id
    | cons a q =>
      obtain ⟨v1, v2, v3⟩ := hv
      simp only at ht ⊢
      by_cases c2 : op = 2
      · rw [if_pos c2] at ht ⊢
        by_cases cx : x = true
        · rw [if_pos cx] at ht
          cases ht
          have hz := v2 cx
          refine ⟨?_, fun _ => ?_, v3⟩ <;> rcases hz with rfl | rfl <;> first | exact Or.inl rfl | exact Or.inr rfl | exact ⟨by decide, by decide⟩
        · rw [if_neg cx] at ht; cases ht
      rw [if_neg c2] at ht ⊢
      by_cases c3 : op = 3
      · rw [if_pos c3] at ht ⊢
        by_cases cx : x = false
        · rw [if_pos cx] at ht
          cases ht
          exact ⟨zwin_b hF, fun c => (by cases c), v3⟩
        · rw [if_neg cx] at ht; cases ht
      rw [if_neg c3] at ht ⊢
      cases r with
      | nil => cases ht
      | cons y r' =>
        cases q with
        | nil => exact absurd v3 id
        | cons b q' =>
          obtain ⟨u1, u2, u3⟩ := v3
          simp only at ht ⊢
          by_cases c9 : op ≤ 9
          · rw [if_pos c9] at ht
            split at ht
            · cases ht
              exact ⟨zbin_b u1 v1 (fun e => by omega), fun c => (by cases c), u3⟩
            · cases ht
          rw [if_neg c9] at ht
          by_cases c12 : op ≤ 12
          · rw [if_pos c12] at ht
            split at ht
            · cases ht
              exact ⟨zbin_b u1 v1 (fun e => by omega), fun _ => zbin_01 (by omega) (fun e => by omega), u3⟩
            · cases ht
          rw [if_neg c12] at ht
          split at ht
          · rename_i hxy
            cases ht
            have w1 : z01 b ∧ z01 a := ⟨u2 hxy.2, v2 hxy.1⟩
            exact ⟨zbin_b u1 v1 (fun _ => w1), fun _ => zbin_01 (by omega) (fun _ => w1), u3⟩
          · cases ht
def zFo (f : Nat) : Prop := f = 18 ∨ f = 21 ∨ f = 32 ∨ f = 35 ∨ f = 39
theorem zFo_all {f : Nat} {P : Nat → Prop} (h : zFo f) (hp : ∀ x, x ∈ [18, 21, 32, 35, 39] → P x) : P f := by
  refine hp f ?_
  rcases h with rfl | rfl | rfl | rfl | rfl <;> simp
theorem zFo_s {f : Nat} (h : zFo f) : SS[f]? = some (.inr 0) ∧ SS[f + 1]? = some (.inl (1600, .int)) ∧ SS[f + 2]? = some (.inl (64, .int)) := zFo_all (P := fun f => SS[f]? = some (.inr 0) ∧ SS[f + 1]? = some (.inl (1600, .int)) ∧ SS[f + 2]? = some (.inl (64, .int))) h (by decide +kernel)
theorem zFo_r {f t : Nat} (h : zFo f) : zRf t f 0 = some (f + 1) ∧ zRf t f 1 = some (f + 2) := by
  have h1 : zRc f 0 = some (f + 1) ∧ zRc f 1 = some (f + 2) := zFo_all (P := fun f => zRc f 0 = some (f + 1) ∧ zRc f 1 = some (f + 2)) h (by decide +kernel)
  have h2 : f ≠ 0 ∧ f ≠ 150 := zFo_all (P := fun f => f ≠ 0 ∧ f ≠ 150) h (by decide)
  rw [zRf_c (fun c => h2.1 c.1) (fun c => h2.1 c.1) (fun c => h2.2 c.1), zRf_c (fun c => h2.1 c.1) (fun c => h2.1 c.1) (fun c => h2.2 c.1)]
  exact h1
def zenc (op arg : Nat) : Nat := if op = 15 then 1 else op * 16384 + arg
def zFR (M : zMI) (f : Nat) (p : List (Nat × Nat)) : Prop := M f 2 = nI p.length ∧ p.length ≤ 1600 ∧ ∀ i op arg, p[i]? = some (op, arg) → M (f + 1) i = nI (zenc op arg) ∧ op ≤ 15 ∧ arg ≤ 9999
set_option maxHeartbeats 4000000 in
set_option maxRecDepth 100000 in
theorem sp_fclear {d f : Nat} {M : zMI} {L : zML} {R : zMR} (hf : zFo f) : Sx yX0_clear YX0_clear (d) [.ref f] M L R (none) (zu M f 2 (nI 0)) L R := by
  refine Sp.of (by decide +kernel) rfl (fun h => by first | exact h | cases h) (Nat.le_of_ble_eq_true rfl) ?_
  intro w G
  obtain ⟨s1, s2, s3⟩ := zFo_s hf
  refine wp_aload_n (q := 1) dX0_clear_0 0 rfl rfl ?_
  refine wp_iconst (q := 2) dX0_clear_1 zq_iconst_0 rfl ?_
  refine wp_putI (q := 5) dX0_clear_2 zf_RX0_18 rfl (by first | assumption | rfl) rfl ?_
  exact wp_return dX0_clear_5 rfl ⟨rfl, rfl, rfl, rfl, rfl⟩ rfl rfl
set_option maxHeartbeats 4000000 in
set_option maxRecDepth 100000 in
theorem sp_fadd {d f t op arg : Nat} {M : zMI} {L : zML} {p : List (Nat × Nat)} (hf : zFo f) (hr : zFR M f p) (hp : p.length < 1600) (hop : op ≤ 14) (harg : arg ≤ 9999) : Sy yX0_add YX0_add (d) [.ref f, .int (nI op), .int (nI arg)] M L (zRf t) (fun v0 M' L' R' => v0 = none ∧ L = L' ∧ R' = zRf t ∧ zFR M' f (p ++ [(op, arg)]) ∧ ∀ x, x ≠ f → x ≠ f + 1 → M' x = M x) := by
  refine Sp.of (by decide +kernel) rfl (fun h => by first | exact h | cases h) (Nat.le_of_ble_eq_true rfl) ?_
  intro w G
  obtain ⟨s1, s2, s3⟩ := zFo_s hf
  obtain ⟨r1, r2⟩ := zFo_r (t := t) hf
  obtain ⟨h1, h2, h3⟩ := hr
  refine wp_aload_n (q := 1) dX0_add_0 0 rfl rfl ?_
  refine wp_getI (q := 4) dX0_add_1 zf_RX0_18 rfl (by first | assumption | rfl) rfl ?_
  rw [h1]
  refine wp_aload_n (q := 5) dX0_add_4 0 rfl rfl ?_
  refine wp_getR (q := 8) dX0_add_5 zf_RX0_9 rfl (by first | assumption | rfl) (by first | assumption | rfl) rfl ?_
  refine wp_alen (q := 9) dX0_add_8 (by first | assumption | rfl) (by simp [zTys]) rfl ?_
  refine wp_icmp_geN (tgt := 37) (q := 12) dX0_add_9 (by decide) rfl (by omega) (by omega) (fun hn => absurd hn (by omega)) (fun _ => ?_)
  refine wp_aload_n (q := 13) dX0_add_12 0 rfl rfl ?_
  refine wp_getR (q := 16) dX0_add_13 zf_RX0_9 rfl (by first | assumption | rfl) (by first | assumption | rfl) rfl ?_
  refine wp_aload_n (q := 17) dX0_add_16 0 rfl rfl ?_
  refine wp_getI (q := 20) dX0_add_17 zf_RX0_18 rfl (by first | assumption | rfl) rfl ?_
  rw [h1]
  refine wp_iload_n (q := 21) dX0_add_20 1 rfl rfl ?_
  refine wp_bipush (q := 23) dX0_add_21 zq_bipush_14 rfl ?_
  have hor : op * 2 ^ 14 ||| arg = op * 16384 + arg := by
    have := (Nat.two_pow_add_eq_or_of_lt (i := 14) (b := arg) (by omega) op).symm
    rw [Nat.mul_comm op, this]
  refine wp_ishlN (q := 24) dX0_add_23 (by omega) (by omega) rfl ?_
  refine wp_iload_n (q := 25) dX0_add_24 2 rfl rfl ?_
  refine wp_iorN (q := 26) dX0_add_25 rfl ?_
  rw [hor]
  refine wp_iast (q := 27) _ dX0_add_26 (by first | assumption | rfl) rfl (by omega) (by decide) rfl ?_
  refine wp_aload_n (q := 28) dX0_add_27 0 rfl rfl ?_
  refine wp_dup (q := 29) dX0_add_28 rfl rfl ?_
  refine wp_getI (q := 32) dX0_add_29 zf_RX0_18 rfl (by first | assumption | rfl) rfl ?_
  rw [zu_ne (by omega), h1]
  refine wp_iconst (q := 33) dX0_add_32 zq_iconst_1 rfl ?_
  refine wp_iaddN (q := 34) dX0_add_33 rfl ?_
  refine wp_putI (q := 37) dX0_add_34 zf_RX0_18 rfl (by first | assumption | rfl) rfl ?_
  refine wp_return dX0_add_37 rfl ⟨rfl, ⟨rfl, rfl, rfl, ⟨?_, ?_, fun i o a hi => ?_⟩, fun x x1 x2 => by rw [zu_ne x1, zu_ne x2]⟩⟩ rfl rfl
  · rw [zu_s, List.length_append]; rfl
  · rw [List.length_append]; exact hp
  · rw [zu_ne (by omega)]
    by_cases hl : i < p.length
    · rw [List.getElem?_append_left hl] at hi
      rw [zu_k (by omega)]
      exact h3 i o a hi
    · rw [List.getElem?_append_right (by omega)] at hi
      have hz : i - p.length < 1 := (List.getElem?_eq_some_iff.mp hi).1
      rw [show i - p.length = 0 by omega] at hi
      cases hi
      rw [show i = p.length by omega, zu_s]
      refine ⟨congrArg nI ?_, by omega, harg⟩
      unfold zenc
      rw [if_neg (by omega)]
def zsk (M : zMI) (f : Nat) (st : List Int) : Prop := ∀ j z, st[j]? = some z → M (f + 2) (st.length - 1 - j) = iI z
theorem zsk_push {M : zMI} {f : Nat} {st : List Int} {z : Int} (h : zsk M f st) : zsk (zu M (f + 2) st.length (iI z)) f (z :: st) := by
  intro j y hj
  cases j with
  | zero =>
    cases hj
    rw [List.length_cons, show st.length + 1 - 1 - 0 = st.length by omega, zu_s]
  | succ j =>
    rw [List.getElem?_cons_succ] at hj
    have := (List.getElem?_eq_some_iff.mp hj).1
    rw [List.length_cons, show st.length + 1 - 1 - (j + 1) = st.length - 1 - j by omega, zu_k (by omega)]
    exact h j y hj
theorem zsk_drop {M : zMI} {f : Nat} {st : List Int} {z : Int} (h : zsk M f (z :: st)) : zsk M f st := by
  intro j y hj
  have := h (j + 1) y (by rw [List.getElem?_cons_succ]; exact hj)
  rw [List.length_cons, show st.length + 1 - 1 - (j + 1) = st.length - 1 - j by omega] at this
  exact this
theorem zsk_top {M : zMI} {f : Nat} {st : List Int} {z : Int} (h : zsk M f (z :: st)) : M (f + 2) st.length = iI z := by
  have := h 0 z rfl
  rw [List.length_cons, show st.length + 1 - 1 - 0 = st.length by omega] at this
  exact this
set_option maxHeartbeats 4000000 in
set_option maxRecDepth 100000 in
theorem sp_value {d f fa t : Nat} {M : zMI} {L : zML} {F : Nat → Int} {p : List (Nat × Nat)} {b : Bool} (hf : zFo f) (hr : zFR M f p) (hfa : fa = 42 ∨ fa = 151) (hFM : ∀ i, i < 9 → M fa i = iI (F i)) (hF : zFb F) (ht : ztr p [] = some [b]) : Sy yX0_value YX0_value (d + 2) [.ref f, .ref fa] M L (zRf t) (fun v0 M' L' R' => (∃ z, zeva F p [] = [z] ∧ zb6 z ∧ (b = true → z01 z) ∧ v0 = some (.int (iI z))) ∧ L = L' ∧ R' = zRf t ∧ ∀ x, x ≠ f + 2 → M' x = M x) := by
  refine Sp.of (by decide +kernel) rfl (fun h => by first | exact h | cases h) (Nat.le_of_ble_eq_true rfl) ?_
  intro w G
  obtain ⟨s1, s2, s3⟩ := zFo_s hf
  obtain ⟨r1, r2⟩ := zFo_r (t := t) hf
  obtain ⟨h1, h2, h3⟩ := hr
  have sfa : SS[fa]? = some (.inl (9, .int)) := by rcases hfa with rfl | rfl <;> decide +kernel
  have nfa : fa ≠ f + 2 := by rcases hf with rfl | rfl | rfl | rfl | rfl <;> rcases hfa with rfl | rfl <;> decide
  have loop : ∀ (q : List (Nat × Nat)) (i : Nat) (st : List Int) (ts : List Bool) (M2 : zMI), i + q.length = p.length → (∀ j, p[i + j]? = q[j]?) → ztr q ts = some [b] → zvt ts st → zeva F q st = zeva F p [] → zsk M2 f st → (∀ x, x ≠ f + 2 → M2 x = M x) → WP w YX0_value (d + 2, SS, 0, 0) G (some (zXp (fun v0 M' L' R' => (∃ z, zeva F p [] = [z] ∧ zb6 z ∧ (b = true → z01 z) ∧ v0 = some (.int (iI z))) ∧ L = L' ∧ R' = zRf t ∧ ∀ x, x ≠ f + 2 → M' x = M x))) 4 [(0, .ref f), (1, .ref fa), (2, .int (nI st.length)), (3, .int (nI i))] [] SS M2 L (zRf t) := by
    intro q
    induction q with
    | nil =>
      intro i st ts M2 hi hq htr hv he hk hfr
      have hts : ts = [b] := Option.some.inj htr
      subst hts
      cases st with
      | nil => exact absurd hv id
      | cons z zs =>
        cases zs with
        | cons => exact absurd hv.2.2 id
        | nil =>
          refine wp_iload_n (q := 5) dX0_value_4 3 rfl rfl ?_
          refine wp_aload_n (q := 6) dX0_value_5 0 rfl rfl ?_
          refine wp_getI (q := 9) dX0_value_6 zf_RX0_18 rfl (by first | assumption | rfl) rfl ?_
          rw [hfr f (by omega), h1]
          rw [List.length_nil, Nat.add_zero] at hi
          refine wp_icmp_geN (tgt := 170) (q := 12) dX0_value_9 (by decide) rfl (by omega) (by omega) (fun _ => ?_) (fun hn => absurd hn (by omega))
          refine wp_iload_n (q := 171) dX0_value_170 2 rfl rfl ?_
          rw [show [z].length = 1 from rfl]
          refine wp_if_leN (tgt := 183) (q := 174) dX0_value_171 (by decide) rfl (by omega) (fun hn => absurd hn (by omega)) (fun _ => ?_)
          refine wp_aload_n (q := 175) dX0_value_174 0 rfl rfl ?_
          refine wp_getR (q := 178) dX0_value_175 zf_RX0_15 rfl (by first | assumption | rfl) (by first | assumption | rfl) rfl ?_
          refine wp_iconst (q := 179) dX0_value_178 zq_iconst_0 rfl ?_
          refine wp_iald (q := 180) _ dX0_value_179 (by first | assumption | rfl) rfl (by omega) (by decide) rfl ?_
          have e := zsk_top hk
          rw [List.length_nil] at e
          rw [e]
          refine wp_goto (tgt := 184) dX0_value_180 (by decide) ?_
          exact wp_ireturn dX0_value_184 rfl ⟨rfl, ⟨⟨z, he.symm, hv.1, hv.2.1, rfl⟩, rfl, rfl, hfr⟩⟩ rfl rfl
    | cons oa q ih =>
      obtain ⟨op, arg⟩ := oa
      intro i st ts M2 hi hq htr hv he hk hfr
      rw [List.length_cons] at hi
      have hcur : p[i]? = some (op, arg) := by have := hq 0; rw [Nat.add_zero] at this; exact this
      obtain ⟨c1, c2, c3⟩ := h3 i op arg hcur
      have hlen := zvt_len hv
      have hnext : ∀ j, p[i + 1 + j]? = q[j]? := fun j => by
        have := hq (j + 1)
        rw [show i + (j + 1) = i + 1 + j by omega, List.getElem?_cons_succ] at this
        exact this
      unfold ztr at htr
      split at htr
      · rename_i hcond
        obtain ⟨d1, d2, d3, d4⟩ := hcond
        cases htc : ztc op ts with
        | none => rw [htc] at htr; cases htr
        | some ts' =>
          rw [htc] at htr
          have htr2 : ztr q ts' = some [b] := htr
          have hv2 := zvt_op (arg := arg) hF hv d3 d4 htc
          have he2 : zeva F q (zop F op arg st) = zeva F p [] := he
          have hgo : ∀ M3 : zMI, zsk M3 f (zop F op arg st) → (∀ x, x ≠ f + 2 → M3 x = M x) → WP w YX0_value (d + 2, SS, 0, 0) G (some (zXp (fun v0 M' L' R' => (∃ z, zeva F p [] = [z] ∧ zb6 z ∧ (b = true → z01 z) ∧ v0 = some (.int (iI z))) ∧ L = L' ∧ R' = zRf t ∧ ∀ x, x ≠ f + 2 → M' x = M x))) 4 [(0, .ref f), (1, .ref fa), (2, .int (nI (zop F op arg st).length)), (3, .int (nI (i + 1)))] [] SS M3 L (zRf t) := fun M3 hk3 hfr3 => ih (i + 1) _ ts' M3 (by omega) hnext htr2 hv2 he2 hk3 hfr3
          have he14 : zenc op arg / 2 ^ 14 = if op = 15 then 0 else op := by
            unfold zenc
            split
            · rfl
            · omega
          have hear : zenc op arg &&& 16383 = if op = 15 then 1 else arg := by
            rw [show (16383 : Nat) = 2 ^ 14 - 1 from rfl, Nat.and_two_pow_sub_one_eq_mod]
            unfold zenc
            split
            · rfl
            · omega
          have hzl : zenc op arg < 2147483648 := by
            unfold zenc
            split <;> omega
          refine wp_iload_n (q := 5) dX0_value_4 3 rfl rfl ?_
          refine wp_aload_n (q := 6) dX0_value_5 0 rfl rfl ?_
          refine wp_getI (q := 9) dX0_value_6 zf_RX0_18 rfl (by first | assumption | rfl) rfl ?_
          rw [hfr f (by omega), h1]
          refine wp_icmp_geN (tgt := 170) (q := 12) dX0_value_9 (by decide) rfl (by omega) (by omega) (fun hn => absurd hn (by omega)) (fun _ => ?_)
          refine wp_aload_n (q := 13) dX0_value_12 0 rfl rfl ?_
          refine wp_getR (q := 16) dX0_value_13 zf_RX0_9 rfl (by first | assumption | rfl) (by first | assumption | rfl) rfl ?_
          refine wp_iload_n (q := 17) dX0_value_16 3 rfl rfl ?_
          refine wp_iald (q := 18) _ dX0_value_17 (by first | assumption | rfl) rfl (by omega) (by decide) rfl ?_
          rw [hfr (f + 1) (by omega), c1]
          refine wp_bipush (q := 20) dX0_value_18 zq_bipush_14 rfl ?_
          refine wp_ishrN (q := 21) dX0_value_20 (by omega) (by omega) rfl ?_
          refine wp_istore (q := 23) (loc' := [(4, _), (0, _), (1, _), (2, _), (3, _)]) dX0_value_21 (by decide) rfl rfl ?_
          refine wp_aload_n (q := 24) dX0_value_23 1 rfl rfl ?_
          refine wp_getR (q := 27) dX0_value_24 zf_RX0_9 rfl (by first | assumption | rfl) (by first | assumption | rfl) rfl ?_
          refine wp_iload_n (q := 28) dX0_value_27 4 rfl rfl ?_
          refine wp_iald (q := 29) _ dX0_value_28 (by first | assumption | rfl) rfl (by omega) (by decide) rfl ?_
          rw [hfr (f + 1) (by omega), c1]
          refine wp_sipush (q := 32) dX0_value_29 zq_sipush_16383 rfl ?_
          refine wp_iandN (q := 33) dX0_value_32 rfl ?_
          rw [he14, hear]
          have pushA : ∀ av : Nat, zop F op arg st = (av : Int) :: st → WP w YX0_value (d + 2, SS, 0, 0) G (some (zXp (fun v0 M' L' R' => (∃ z, zeva F p [] = [z] ∧ zb6 z ∧ (b = true → z01 z) ∧ v0 = some (.int (iI z))) ∧ L = L' ∧ R' = zRf t ∧ ∀ x, x ≠ f + 2 → M' x = M x))) 33 [(4, .int (nI 0)), (0, .ref f), (1, .ref fa), (2, .int (nI st.length)), (3, .int (nI i))] [.int (nI av)] SS M2 L (zRf t) := by
            intro av ez
            rw [ez] at hgo
            refine wp_istore (q := 35) (loc' := [(5, _), (4, _), (0, _), (1, _), (2, _), (3, _)]) dX0_value_33 (by decide) rfl rfl ?_
            refine wp_iload (q := 37) dX0_value_35 1 rfl rfl ?_
            refine wp_iconst (q := 38) dX0_value_37 zq_iconst_1 rfl ?_
            refine wp_icmp_gtN (tgt := 89) (q := 41) dX0_value_38 (by decide) rfl (by omega) (by omega) (fun hn => absurd hn (by omega)) (fun _ => ?_)
            refine wp_iload_n (q := 42) dX0_value_41 4 rfl rfl ?_
            refine wp_bipush (q := 44) dX0_value_42 zq_bipush_64 rfl ?_
            refine wp_icmp_geN (tgt := 60) (q := 47) dX0_value_44 (by decide) rfl (by omega) (by omega) (fun hn => absurd hn (by omega)) (fun _ => ?_)
            refine wp_iload (q := 49) dX0_value_47 1 rfl rfl ?_
            refine wp_iconst (q := 50) dX0_value_49 zq_iconst_1 rfl ?_
            refine wp_icmp_neN (tgt := 62) (q := 53) dX0_value_50 (by decide) rfl (by omega) (by omega) (fun _ => ?_) (fun hn => absurd hn (by omega))
            refine wp_aload_n (q := 63) dX0_value_62 2 rfl rfl ?_
            refine wp_getR (q := 66) dX0_value_63 zf_RX0_15 rfl (by first | assumption | rfl) (by first | assumption | rfl) rfl ?_
            refine wp_iload_n (q := 67) dX0_value_66 4 rfl rfl ?_
            refine wp_iload (q := 69) dX0_value_67 1 rfl rfl ?_
            refine wp_iconst (q := 70) dX0_value_69 zq_iconst_1 rfl ?_
            refine wp_icmp_neN (tgt := 80) (q := 73) dX0_value_70 (by decide) rfl (by omega) (by omega) (fun _ => ?_) (fun hn => absurd hn (by omega))
            refine wp_iload (q := 82) dX0_value_80 0 rfl rfl ?_
            refine wp_iast (q := 83) _ dX0_value_82 (by first | assumption | rfl) rfl (by omega) (by decide) rfl ?_
            refine wp_iincN (q := 86) (loc' := [(2, _), (5, _), (4, _), (0, _), (1, _), (3, _)]) (n := 1) dX0_value_83 rfl 4 rfl (by decide) rfl rfl ?_
            refine wp_goto (tgt := 164) dX0_value_86 (by decide) ?_
            refine wp_iincN (q := 167) (loc' := [(3, _), (2, _), (5, _), (4, _), (0, _), (1, _)]) (n := 1) dX0_value_164 rfl 5 rfl (by decide) rfl rfl ?_
            refine wp_goto (tgt := 4) dX0_value_167 (by decide) ?_
            refine WP.sub (loc' := [(0, _), (1, _), (2, _), (3, _)]) [4, 5, 1, 0] rfl ?_
            refine hgo _ ?_ (fun x hx => by rw [zu_ne hx, hfr x hx])
            rw [nI_I]
            exact zsk_push hk
          by_cases c15 : op = 15
          · rw [if_pos c15, if_pos c15]
            exact pushA 1 (by unfold zop; rw [if_neg (by omega), if_neg (by omega), if_pos c15]; rfl)
          rw [if_neg c15, if_neg c15]
          by_cases c0 : op = 0
          · rw [c0]
            exact pushA arg (by unfold zop; rw [if_pos c0])
          by_cases cc1 : op = 1
          · have ez : zop F op arg st = F arg :: st := by unfold zop; rw [if_neg c0, if_pos cc1]
            rw [ez] at hgo
            have harg := d4 cc1
            rw [cc1]
            refine wp_istore (q := 35) (loc' := [(5, _), (4, _), (0, _), (1, _), (2, _), (3, _)]) dX0_value_33 (by decide) rfl rfl ?_
            refine wp_iload (q := 37) dX0_value_35 1 rfl rfl ?_
            refine wp_iconst (q := 38) dX0_value_37 zq_iconst_1 rfl ?_
            refine wp_icmp_gtN (tgt := 89) (q := 41) dX0_value_38 (by decide) rfl (by omega) (by omega) (fun hn => absurd hn (by omega)) (fun _ => ?_)
            refine wp_iload_n (q := 42) dX0_value_41 4 rfl rfl ?_
            refine wp_bipush (q := 44) dX0_value_42 zq_bipush_64 rfl ?_
            refine wp_icmp_geN (tgt := 60) (q := 47) dX0_value_44 (by decide) rfl (by omega) (by omega) (fun hn => absurd hn (by omega)) (fun _ => ?_)
            refine wp_iload (q := 49) dX0_value_47 1 rfl rfl ?_
            refine wp_iconst (q := 50) dX0_value_49 zq_iconst_1 rfl ?_
            refine wp_icmp_neN (tgt := 62) (q := 53) dX0_value_50 (by decide) rfl (by omega) (by omega) (fun hn => absurd hn (by omega)) (fun _ => ?_)
            refine wp_iload (q := 55) dX0_value_53 0 rfl rfl ?_
            refine wp_aload_n (q := 56) dX0_value_55 3 rfl rfl ?_
            refine wp_alen (q := 57) dX0_value_56 (by first | assumption | rfl) (by simp [zTys]) rfl ?_
            refine wp_icmp_ltN (tgt := 62) (q := 60) dX0_value_57 (by decide) rfl (by omega) (by omega) (fun _ => ?_) (fun hn => absurd hn (by omega))
            refine wp_aload_n (q := 63) dX0_value_62 2 rfl rfl ?_
            refine wp_getR (q := 66) dX0_value_63 zf_RX0_15 rfl (by first | assumption | rfl) (by first | assumption | rfl) rfl ?_
            refine wp_iload_n (q := 67) dX0_value_66 4 rfl rfl ?_
            refine wp_iload (q := 69) dX0_value_67 1 rfl rfl ?_
            refine wp_iconst (q := 70) dX0_value_69 zq_iconst_1 rfl ?_
            refine wp_icmp_neN (tgt := 80) (q := 73) dX0_value_70 (by decide) rfl (by omega) (by omega) (fun hn => absurd hn (by omega)) (fun _ => ?_)
            refine wp_aload_n (q := 74) dX0_value_73 3 rfl rfl ?_
            refine wp_iload (q := 76) dX0_value_74 0 rfl rfl ?_
            refine wp_iald (q := 77) _ dX0_value_76 (by first | assumption | rfl) rfl (by omega) (by decide) rfl ?_
            rw [hfr fa nfa, hFM arg harg]
            refine wp_goto (tgt := 82) dX0_value_77 (by decide) ?_
            refine wp_iast (q := 83) _ dX0_value_82 (by first | assumption | rfl) rfl (by omega) (by decide) rfl ?_
            refine wp_iincN (q := 86) (loc' := [(2, _), (5, _), (4, _), (0, _), (1, _), (3, _)]) (n := 1) dX0_value_83 rfl 4 rfl (by decide) rfl rfl ?_
            refine wp_goto (tgt := 164) dX0_value_86 (by decide) ?_
            refine wp_iincN (q := 167) (loc' := [(3, _), (2, _), (5, _), (4, _), (0, _), (1, _)]) (n := 1) dX0_value_164 rfl 5 rfl (by decide) rfl rfl ?_
            refine wp_goto (tgt := 4) dX0_value_167 (by decide) ?_
            refine WP.sub (loc' := [(0, _), (1, _), (2, _), (3, _)]) [4, 5, 1, 0] rfl ?_
            exact hgo _ (zsk_push hk) (fun x hx => by rw [zu_ne hx, hfr x hx])
          have hF2 : ∀ i, i < 9 → M2 fa i = iI (F i) := fun i hi => by rw [hfr fa nfa]; exact hFM i hi
          unfold ztc at htc
          rw [if_neg (by omega), if_neg c15] at htc
          cases ts with
          | nil => cases htc
          | cons x r =>
            cases st with
            | nil => exact absurd hv id
            | cons a s' =>
              obtain ⟨v1, v2, v3⟩ := hv
              have hlen' : s'.length = r.length := zvt_len v3
              have hrl : r.length ≤ 60 := by have := d1; rw [List.length_cons] at this; omega
              have etop := zsk_top hk
              rw [show (a :: s').length = s'.length + 1 from rfl] at *
              by_cases c23 : op = 2 ∨ op = 3
              · have ez : zop F op arg (a :: s') = (if op = 2 then 1 - a else if a = F 5 then F 7 else if a = F 6 then F 8 else 0) :: s' := by
                  unfold zop
                  rw [if_neg c0, if_neg cc1, if_neg c15]
                  show (if op = 2 then (1 - a) :: s' else if op = 3 then zwin F a :: s' else _) = _
                  rcases c23 with e | e
                  · rw [if_pos e, if_pos e]
                  · rw [if_neg (by omega), if_pos e, if_neg (by omega)]; rfl
                rw [ez] at hgo
                refine wp_istore (q := 35) (loc' := [(5, _), (4, _), (0, _), (1, _), (2, _), (3, _)]) dX0_value_33 (by decide) rfl rfl ?_
                refine wp_iload (q := 37) dX0_value_35 1 rfl rfl ?_
                refine wp_iconst (q := 38) dX0_value_37 zq_iconst_1 rfl ?_
                refine wp_icmp_gtN (tgt := 89) (q := 41) dX0_value_38 (by decide) rfl (by omega) (by omega) (fun _ => ?_) (fun hn => absurd hn (by rcases c23 with e | e <;> omega))
                refine wp_iload (q := 91) dX0_value_89 1 rfl rfl ?_
                refine wp_iconst (q := 92) dX0_value_91 zq_iconst_3 rfl ?_
                refine wp_icmp_gtN (tgt := 127) (q := 95) dX0_value_92 (by decide) rfl (by omega) (by omega) (fun hn => absurd hn (by rcases c23 with e | e <;> omega)) (fun _ => ?_)
                refine wp_iload_n (q := 96) dX0_value_95 4 rfl rfl ?_
                refine wp_iconst (q := 97) dX0_value_96 zq_iconst_1 rfl ?_
                refine wp_icmp_geN (tgt := 102) (q := 100) dX0_value_97 (by decide) rfl (by omega) (by omega) (fun _ => ?_) (fun hn => absurd hn (by omega))
                refine wp_aload_n (q := 103) dX0_value_102 2 rfl rfl ?_
                refine wp_getR (q := 106) dX0_value_103 zf_RX0_15 rfl (by first | assumption | rfl) (by first | assumption | rfl) rfl ?_
                refine wp_iload_n (q := 107) dX0_value_106 4 rfl rfl ?_
                refine wp_iconst (q := 108) dX0_value_107 zq_iconst_1 rfl ?_
                refine wp_isubN (q := 109) dX0_value_108 (by omega) rfl ?_
                refine wp_iload (q := 111) dX0_value_109 1 rfl rfl ?_
                refine wp_aload_n (q := 112) dX0_value_111 2 rfl rfl ?_
                refine wp_getR (q := 115) dX0_value_112 zf_RX0_15 rfl (by first | assumption | rfl) (by first | assumption | rfl) rfl ?_
                refine wp_iload_n (q := 116) dX0_value_115 4 rfl rfl ?_
                refine wp_iconst (q := 117) dX0_value_116 zq_iconst_1 rfl ?_
                refine wp_isubN (q := 118) dX0_value_117 (by omega) rfl ?_
                refine wp_iald (q := 119) _ dX0_value_118 (by first | assumption | rfl) rfl (by omega) (by decide) rfl ?_
                rw [show s'.length + 1 - 1 = s'.length from rfl, etop]
                refine wp_aload_n (q := 120) dX0_value_119 3 rfl rfl ?_
                refine wp_csx (q := 123) (sp_ofOne (d := d + 1) sfa hF2 v1 (hF 5 (by decide)) (hF 6 (by decide)) c23) zm_X0_ofOne zl_RX0_22 dX0_value_120 rfl (by omega) (Nat.le_of_ble_eq_true rfl) rfl ?_
                refine wp_iast (q := 124) _ dX0_value_123 (by first | assumption | rfl) rfl (by omega) (by decide) rfl ?_
                refine wp_goto (tgt := 164) dX0_value_124 (by decide) ?_
                refine wp_iincN (q := 167) (loc' := [(3, _), (5, _), (4, _), (0, _), (1, _), (2, _)]) (n := 1) dX0_value_164 rfl 5 rfl (by decide) rfl rfl ?_
                refine wp_goto (tgt := 4) dX0_value_167 (by decide) ?_
                refine WP.sub (loc' := [(0, _), (1, _), (2, _), (3, _)]) [3, 4, 5, 0] rfl ?_
                refine hgo _ ?_ (fun x hx => by rw [zu_ne hx, hfr x hx])
                exact zsk_push (zsk_drop hk)
              · have c2 : ¬ op = 2 := fun e => c23 (Or.inl e)
                have c3' : ¬ op = 3 := fun e => c23 (Or.inr e)
                simp only at htc
                rw [if_neg c2, if_neg c3'] at htc
                cases r with
                | nil => cases htc
                | cons y r' =>
                  cases s' with
                  | nil => exact absurd v3 id
                  | cons z' q' =>
                    obtain ⟨u1, u2, u3⟩ := v3
                    have ez : zop F op arg (a :: z' :: q') = zbin op z' a :: q' := by
                      unfold zop
                      rw [if_neg c0, if_neg cc1, if_neg c15]
                      show (if op = 2 then _ else if op = 3 then _ else zbin op z' a :: q') = _
                      rw [if_neg c2, if_neg c3']
                    rw [ez] at hgo
                    have etop2 := zsk_top (zsk_drop hk)
                    have h13 : 13 ≤ op → z01 z' ∧ z01 a := by
                      intro h13
                      simp only at htc
                      rw [if_neg (by omega), if_neg (by omega)] at htc
                      split at htc
                      · rename_i hxy
                        exact ⟨u2 hxy.2, v2 hxy.1⟩
                      · cases htc
                    have hql : q'.length ≤ 60 := by
                      have : q'.length = r'.length := zvt_len u3
                      rw [List.length_cons] at hrl
                      omega
                    rw [show (z' :: q').length = q'.length + 1 from rfl] at *
                    refine wp_istore (q := 35) (loc' := [(5, _), (4, _), (0, _), (1, _), (2, _), (3, _)]) dX0_value_33 (by decide) rfl rfl ?_
                    refine wp_iload (q := 37) dX0_value_35 1 rfl rfl ?_
                    refine wp_iconst (q := 38) dX0_value_37 zq_iconst_1 rfl ?_
                    refine wp_icmp_gtN (tgt := 89) (q := 41) dX0_value_38 (by decide) rfl (by omega) (by omega) (fun _ => ?_) (fun hn => absurd hn (by omega))
                    refine wp_iload (q := 91) dX0_value_89 1 rfl rfl ?_
                    refine wp_iconst (q := 92) dX0_value_91 zq_iconst_3 rfl ?_
                    refine wp_icmp_gtN (tgt := 127) (q := 95) dX0_value_92 (by decide) rfl (by omega) (by omega) (fun _ => ?_) (fun hn => absurd hn (by omega))
                    refine wp_iload_n (q := 128) dX0_value_127 4 rfl rfl ?_
                    refine wp_iconst (q := 129) dX0_value_128 zq_iconst_2 rfl ?_
                    refine wp_icmp_geN (tgt := 134) (q := 132) dX0_value_129 (by decide) rfl (by omega) (by omega) (fun _ => ?_) (fun hn => absurd hn (by omega))
                    refine wp_iincM (q := 137) (loc' := [(2, _), (5, _), (4, _), (0, _), (1, _), (3, _)]) dX0_value_134 4 rfl (by decide) rfl rfl ?_
                    refine wp_aload_n (q := 138) dX0_value_137 3 rfl rfl ?_
                    refine wp_getR (q := 141) dX0_value_138 zf_RX0_15 rfl (by first | assumption | rfl) (by first | assumption | rfl) rfl ?_
                    refine wp_iload_n (q := 142) dX0_value_141 0 rfl rfl ?_
                    refine wp_iconst (q := 143) dX0_value_142 zq_iconst_1 rfl ?_
                    refine wp_isubN (q := 144) dX0_value_143 (by omega) rfl ?_
                    refine wp_iload (q := 146) dX0_value_144 2 rfl rfl ?_
                    refine wp_aload_n (q := 147) dX0_value_146 3 rfl rfl ?_
                    refine wp_getR (q := 150) dX0_value_147 zf_RX0_15 rfl (by first | assumption | rfl) (by first | assumption | rfl) rfl ?_
                    refine wp_iload_n (q := 151) dX0_value_150 0 rfl rfl ?_
                    refine wp_iconst (q := 152) dX0_value_151 zq_iconst_1 rfl ?_
                    refine wp_isubN (q := 153) dX0_value_152 (by omega) rfl ?_
                    refine wp_iald (q := 154) _ dX0_value_153 (by first | assumption | rfl) rfl (by omega) (by decide) rfl ?_
                    rw [show q'.length + 1 - 1 = q'.length from rfl, etop2]
                    refine wp_aload_n (q := 155) dX0_value_154 3 rfl rfl ?_
                    refine wp_getR (q := 158) dX0_value_155 zf_RX0_15 rfl (by first | assumption | rfl) (by first | assumption | rfl) rfl ?_
                    refine wp_iload_n (q := 159) dX0_value_158 0 rfl rfl ?_
                    refine wp_iald (q := 160) _ dX0_value_159 (by first | assumption | rfl) rfl (by omega) (by decide) rfl ?_
                    rw [etop]
                    refine wp_csx (q := 163) (sp_ofTwo (d := d) u1 v1 (by omega) (by omega) h13) zm_X0_ofTwo zl_RX0_26 dX0_value_160 rfl (by omega) (Nat.le_of_ble_eq_true rfl) rfl ?_
                    refine wp_iast (q := 164) _ dX0_value_163 (by first | assumption | rfl) rfl (by omega) (by decide) rfl ?_
                    refine wp_iincN (q := 167) (loc' := [(3, _), (2, _), (5, _), (4, _), (0, _), (1, _)]) (n := 1) dX0_value_164 rfl 5 rfl (by decide) rfl rfl ?_
                    refine wp_goto (tgt := 4) dX0_value_167 (by decide) ?_
                    refine WP.sub (loc' := [(0, _), (1, _), (2, _), (3, _)]) [4, 5, 1, 0] rfl ?_
                    refine hgo _ ?_ (fun x hx => by rw [zu_ne hx, hfr x hx])
                    exact zsk_push (zsk_drop (zsk_drop hk))
      · cases htr
  refine wp_iconst (q := 1) dX0_value_0 zq_iconst_0 rfl ?_
  refine wp_istore_n (q := 2) (loc' := [(2, _), (0, _), (1, _)]) dX0_value_1 rfl (by decide) rfl rfl ?_
  refine wp_iconst (q := 3) dX0_value_2 zq_iconst_0 rfl ?_
  refine wp_istore_n (q := 4) (loc' := [(3, _), (2, _), (0, _), (1, _)]) dX0_value_3 rfl (by decide) rfl rfl ?_
  refine WP.sub (loc' := [(0, _), (1, _), (2, _), (3, _)]) [2, 3, 1, 0] rfl ?_
  exact loop p 0 [] [] M (by omega) (fun j => by rw [Nat.zero_add]) ht trivial rfl (fun j z h => by simp at h) (fun _ _ => rfl)

