def zXp (P : Option Value → zMI → zML → zMR → Prop) : zQ := fun v0 S0 M0 L0 R0 => S0 = SS ∧ P v0 M0 L0 R0
def Sy (y : MethodName) (Y : zY) (d : Nat) (as : List Value) (M : zMI) (L : zML) (R : zMR) (P : Option Value → zMI → zML → zMR → Prop) : Prop := Sp y Y d as SS M L R 0 0 (zXp P)
section
variable {w : zWo} {Y : zY} {d : Nat} {G : zG} {E : Option zQ} {pc q : Nat} {loc loc' : List (Nat × Value)} {st : List Value} {S : List zSh} {B : zR} {M : zMI} {L : zML} {R : zMR}
theorem wp_cvy {idx n dd : Nat} {y : MethodName} {Y2 : zY} {as : List Value} {o ci : Nat} {P : Option Value → zMI → zML → zMR → Prop} (hsp : Sy y Y2 dd (.ref o :: as) M L R P) (hm : zMV y Y2 n) (hlink : Cond.methodLink Y.1 idx y ∈ lw_g) (hd : decode Y.2.1 pc = .ok (.invokevirtual idx, 3)) (hn : as.length = n) (hdep : dd + 1 ≤ d) (hcat : (st.map fun v => v.category).sum ≤ 8)
    (hobj : SS[o]? = some (.inr ci)) (hci : Option.map (fun z : vw_C => z.1) vwCl[ci]? = some y.cls) (hq : pc + 3 = q) (kk : ∀ (v : Option Value) (M' : zMI) (L' : zML) (R' : zMR), P v M' L' R' → WP w Y (d, SS, 0, 0) G E q loc (v.toList ++ st) SS M' L' R') : WP w Y (d, SS, 0, 0) G E pc loc (as.reverse ++ .ref o :: st) SS M L R := by
  refine wp_callV (mc := 0) (ms := 0) hsp hm hlink hd hn hdep hcat hobj hci (Nat.le_refl _) (Nat.le_refl _) hq ?_
  rintro v _ M' L' R' ⟨rfl, hP⟩ - -
  exact kk v M' L' R' hP
theorem wp_cvny {idx n dd : Nat} {y : MethodName} {Y2 : zY} {as : List Value} {o ci : Nat} {host : String} {P : Option Value → zMI → zML → zMR → Prop} (hsp : Sy y Y2 dd (.ref o :: as) M L R P) (hm : zMV y Y2 n) (hlink : ∀ (U : State) (H : Heap), zST w U H → va_Nw (.methodLinkNest Y.1 idx y host) U) (hd : decode Y.2.1 pc = .ok (.invokevirtual idx, 3)) (hn : as.length = n) (hdep : dd + 1 ≤ d) (hcat : (st.map fun v => v.category).sum ≤ 8)
    (hobj : SS[o]? = some (.inr ci)) (hci : Option.map (fun z : vw_C => z.1) vwCl[ci]? = some y.cls) (hq : pc + 3 = q) (kk : ∀ (v : Option Value) (M' : zMI) (L' : zML) (R' : zMR), P v M' L' R' → WP w Y (d, SS, 0, 0) G E q loc (v.toList ++ st) SS M' L' R') : WP w Y (d, SS, 0, 0) G E pc loc (as.reverse ++ .ref o :: st) SS M L R := by
  refine wp_callVN (mc := 0) (ms := 0) hsp hm hlink hd hn hdep hcat hobj hci (Nat.le_refl _) (Nat.le_refl _) hq ?_
  rintro v _ M' L' R' ⟨rfl, hP⟩ - -
  exact kk v M' L' R' hP
theorem wp_csy {idx n dd : Nat} {y : MethodName} {Y2 : zY} {as : List Value} {P : Option Value → zMI → zML → zMR → Prop} (hsp : Sy y Y2 dd (as) M L R P) (hm : zMS y Y2 n) (hlink : Cond.methodLink Y.1 idx y ∈ lw_g) (hd : decode Y.2.1 pc = .ok (.invokestatic idx, 3)) (hn : as.length = n) (hdep : dd + 1 ≤ d) (hcat : (st.map fun v => v.category).sum ≤ 8)
    (hq : pc + 3 = q) (kk : ∀ (v : Option Value) (M' : zMI) (L' : zML) (R' : zMR), P v M' L' R' → WP w Y (d, SS, 0, 0) G E q loc (v.toList ++ st) SS M' L' R') : WP w Y (d, SS, 0, 0) G E pc loc (as.reverse ++ st) SS M L R := by
  refine wp_callSX (mc := 0) (ms := 0) hsp hm hlink hd hn hdep hcat (Nat.le_refl _) (Nat.le_refl _) hq ?_
  rintro v _ M' L' R' ⟨rfl, hP⟩ - -
  exact kk v M' L' R' hP
theorem zsm : ∀ s, s < 32 → ((nI s &&& 31).toBitVec.smod 32).toNat = s := by decide +kernel
theorem z_and (a b : Nat) : nI a &&& nI b = nI (a &&& b) := by
  apply Int32.toBitVec_inj.mp
  show BitVec.ofNat 32 a &&& BitVec.ofNat 32 b = BitVec.ofNat 32 (a &&& b)
  exact BitVec.ofNat_and.symm
theorem z_or (a b : Nat) : nI a ||| nI b = nI (a ||| b) := by
  apply Int32.toBitVec_inj.mp
  show BitVec.ofNat 32 a ||| BitVec.ofNat 32 b = BitVec.ofNat 32 (a ||| b)
  exact BitVec.ofNat_or.symm
theorem wp_iandN {a b : Nat} (hd : decode Y.2.1 pc = .ok (.iand, 1)) (hq : pc + 1 = q) (k : WP w Y B G E q loc (.int (nI (a &&& b)) :: st) S M L R) : WP w Y B G E pc loc (.int (nI b) :: .int (nI a) :: st) S M L R := wp_iand hd hq (by rw [z_and]; exact k)
theorem wp_iorN {a b : Nat} (hd : decode Y.2.1 pc = .ok (.ior, 1)) (hq : pc + 1 = q) (k : WP w Y B G E q loc (.int (nI (a ||| b)) :: st) S M L R) : WP w Y B G E pc loc (.int (nI b) :: .int (nI a) :: st) S M L R := wp_ior hd hq (by rw [z_or]; exact k)
theorem wp_ishlN {a b : Nat} (hd : decode Y.2.1 pc = .ok (.ishl, 1)) (hb : b < 32) (ha : a * 2 ^ b < 4294967296) (hq : pc + 1 = q) (k : WP w Y B G E q loc (.int (nI (a * 2 ^ b)) :: st) S M L R) : WP w Y B G E pc loc (.int (nI b) :: .int (nI a) :: st) S M L R := wp_ishl hd hq (by rw [pk_shlN _ b (zsm b hb) ha]; exact k)
theorem wp_ishrN {a b : Nat} (hd : decode Y.2.1 pc = .ok (.ishr, 1)) (hb : b < 32) (ha : a < 2147483648) (hq : pc + 1 = q) (k : WP w Y B G E q loc (.int (nI (a / 2 ^ b)) :: st) S M L R) : WP w Y B G E pc loc (.int (nI b) :: .int (nI a) :: st) S M L R := wp_ishr hd hq (by rw [pk_shrN ha _ b (zsm b hb)]; exact k)
end
def nS (f : Nat → Nat) : Nat → Nat
  | 0 => 0
  | n + 1 => nS f n + f n
def nC (f : Nat → Bool) : Nat → Nat
  | 0 => 0
  | n + 1 => nC f n + (if f n then 1 else 0)
theorem nS_le {f : Nat → Nat} {b n : Nat} (h : ∀ i, i < n → f i ≤ b) : nS f n ≤ b * n := by
  induction n with
  | zero => exact Nat.le_refl _
  | succ n ih =>
    have h1 := ih (fun i hi => h i (by omega))
    have h2 := h n (by omega)
    rw [nS, Nat.mul_succ]
    omega
theorem nC_le {f : Nat → Bool} {n : Nat} : nC f n ≤ n := by
  induction n with
  | zero => exact Nat.le_refl _
  | succ n ih =>
    rw [nC]
    split <;> omega
theorem nS_congr {f g : Nat → Nat} {n : Nat} (h : ∀ i, i < n → f i = g i) : nS f n = nS g n := by
  induction n with
  | zero => rfl
  | succ n ih => rw [nS, nS, ih (fun i hi => h i (by omega)), h n (by omega)]
theorem nC_congr {f g : Nat → Bool} {n : Nat} (h : ∀ i, i < n → f i = g i) : nC f n = nC g n := by
  induction n with
  | zero => rfl
  | succ n ih => rw [nC, nC, ih (fun i hi => h i (by omega)), h n (by omega)]
theorem nC_S (f : Nat → Bool) (n : Nat) : nC f n = nS (fun i => if f i then 1 else 0) n := by
  induction n with
  | zero => rfl
  | succ n ih => rw [nC, nS, ih]
-- taking out one place of a sum
theorem nS_out {f : Nat → Nat} {n p : Nat} (hp : p < n) : nS f n = nS (fun i => if i = p then 0 else f i) n + f p := by
  induction n with
  | zero => omega
  | succ n ih =>
    rw [nS, nS]
    by_cases h : p = n
    · subst h
      rw [if_pos rfl, nS_congr (g := fun i => if i = p then 0 else f i) (fun i hi => by rw [if_neg (by omega)])]
      omega
    · rw [ih (by omega), if_neg (fun e => h e.symm)]
      omega
theorem nS_zero {f : Nat → Nat} {n : Nat} (h : ∀ i, i < n → f i = 0) : nS f n = 0 := by
  induction n with
  | zero => rfl
  | succ n ih => rw [nS, ih (fun i hi => h i (by omega)), h n (by omega)]
-- an injection of n places into n places: the sum over its values is the sum over all
theorem nS_inj {w : Nat → Nat} : ∀ (k n : Nat) (g : Nat → Nat), k ≤ n → (∀ i, i < k → w i < n) → (∀ i j, i < k → j < k → w i = w j → i = j) → nS (fun i => g (w i)) k ≤ nS g n := by
  intro k
  induction k with
  | zero => intro n g _ _ _; exact Nat.zero_le _
  | succ k ih =>
    intro n g hk hw hi
    rw [nS, nS_out (f := g) (hw k (by omega))]
    have := ih n (fun i => if i = w k then 0 else g i) (by omega) (fun i h => hw i (by omega)) (fun i j h1 h2 h => hi i j (by omega) (by omega) h)
    rw [nS_congr (g := fun i => g (w i)) (fun i h => by rw [if_neg (fun e => absurd (hi i k (by omega) (by omega) e) (by omega))])] at this
    omega
theorem nS_one {n : Nat} : nS (fun _ => 1) n = n := by
  induction n with
  | zero => rfl
  | succ n ih => rw [nS, ih]
-- each place is hit
theorem zsurj {w : Nat → Nat} {n : Nat} (hw : ∀ i, i < n → w i < n) (hi : ∀ i j, i < n → j < n → w i = w j → i = j) {p : Nat} (hp : p < n) : ∃ i, i < n ∧ w i = p := by
  refine Classical.byContradiction fun hno => ?_
  have h1 := nS_inj n n (fun i => if i = p then 0 else 1) (Nat.le_refl _) hw hi
  rw [nS_congr (g := fun _ => 1) (fun i h => if_neg (fun e => hno ⟨i, h, e⟩)), nS_one] at h1
  have h2 := nS_out (f := fun _ => 1) hp
  rw [nS_one] at h2
  omega
theorem nS_perm {w : Nat → Nat} {n : Nat} (g : Nat → Nat) (hw : ∀ i, i < n → w i < n) (hi : ∀ i j, i < n → j < n → w i = w j → i = j) : nS (fun i => g (w i)) n = nS g n := by
  have key : ∀ (k : Nat) (g : Nat → Nat), k ≤ n → (∀ p, p < n → (∀ i, i < k → w i ≠ p) → g p = 0) → nS (fun i => g (w i)) k = nS g n := by
    intro k
    induction k with
    | zero =>
      intro g _ hg
      exact (nS_zero (fun p hp => hg p hp (fun i h => absurd h (Nat.not_lt_zero _)))).symm
    | succ k ih =>
      intro g hk hg
      rw [nS, nS_out (f := g) (hw k (by omega)), ← ih (fun i => if i = w k then 0 else g i) (by omega) ?_]
      · rw [nS_congr (f := fun i => if w i = w k then 0 else g (w i)) (g := fun i => g (w i)) (fun i h => if_neg (fun e => absurd (hi i k (by omega) (by omega) e) (by omega)))]
      · intro p hp hno
        by_cases hpk : p = w k
        · exact if_pos hpk
        · show (if p = w k then 0 else g p) = 0
          rw [if_neg hpk]
          refine hg p hp (fun i h => ?_)
          by_cases hik : i = k
          · subst hik; exact fun e => hpk e.symm
          · exact hno i (by omega)
  refine key n g (Nat.le_refl _) (fun p hp hno => ?_)
  obtain ⟨i, h1, h2⟩ := zsurj hw hi hp
  exact absurd h2 (hno i h1)
theorem nC_perm {w : Nat → Nat} {n : Nat} (g : Nat → Bool) (hw : ∀ i, i < n → w i < n) (hi : ∀ i j, i < n → j < n → w i = w j → i = j) : nC (fun i => g (w i)) n = nC g n := by
  rw [nC_S, nC_S]
  exact nS_perm (fun i => if g i then 1 else 0) hw hi
