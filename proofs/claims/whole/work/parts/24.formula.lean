theorem Sp.ofF {y : MethodName} {Y : zY} {d : Nat} {as : List Value} {S : List zSh} {M : zMI} {L : zML} {R : zMR} {mc ms : Nat} {Q : zQ}
    (hy : plainFor y = true) (hY : Y.1 = y.cls) (hi : Y.2.2.2.2 = true → y.name = "<init>") (hn : (lg_sl as).length ≤ Y.2.2.1)
    (k : ∀ (w : zWo) (G : zG), WP w Y (d, S, mc, ms) G (some Q) 0 (lv_args 0 as) [] S M L R) : Sp y Y d as S M L R mc ms Q := by
  intro l w
  refine MetFree.of_bodySF (code := Y.2.1) (maxLocals := Y.2.2.1) (ret := Y.2.2.2.1) hy ?_ ?_
  · intro args s m h hn
    obtain ⟨meth, c, h1, h2, h3, h4, h5, h6, -, -⟩ := Cond.code_spec hn (atoms_spec (ws := Cond.code y Y.2.1 Y.2.2.1 Y.2.2.2.1 :: lw_g) h _ List.mem_cons_self)
    exact ⟨meth, c, h1, h2, h3, h4, h5, h6⟩
  · intro p e s m args below meth c s₁ Bd hml hv _
    have hh0 : s₁.heap = s.heap := by rw [Bd.state]; rfl
    obtain ⟨rfl, hsz, hP, hK, hST⟩ := hv
    have hts := atoms_spec (ws := Cond.code y Y.2.1 Y.2.2.1 Y.2.2.2.1 :: lw_g) Bd.pre
    have hown : s.vm.findClass Y.1 = some m.cls := by rw [hY]; exact findClass_of_methodNamed Bd.named
    have hl := lv_entry (as.map (zv w)) (n := Y.2.2.1) (by rw [zlg_len]; exact hn)
    rw [zlv_args] at hl
    have := k w (p, l, e, (headSpec (Cond.code y Y.2.1 Y.2.2.1 Y.2.2.2.1 :: lw_g) { frames := d, cells := mc, slots := ms, locals := 64 * d }).room, s, m, (as.map (zv w)).toArray, below, meth, c)
      ⟨Bd.exec, Bd.bytes, hml, hown, fun q hq => hts q (List.mem_cons_of_mem _ hq), Bd.notSynchronized, Bd.returns, hK, hST, hsz, Nat.le_refl _, Nat.le_refl _, Nat.le_refl _, Nat.le_refl _, fun h => (name_of_methodNamed Bd.named Bd.method).1.trans (hi h)⟩ (Nat.le_refl _) (Nat.le_refl _) s.heap _ [] hP va_S.rf hl
    simp only [Nat.sub_self, List.map_nil] at this
    rw [lg_entry_eq]
    obtain ⟨t, a1, o, b1, b2, b3⟩ := this s₁ hh0 (Stand.of_body Bd)
    exact ⟨t, o, a1, b1, b2, ⟨b3.1, b3.2⟩⟩
def iI (z : Int) : Int32 := Int32.ofInt z
def lI (z : Int) : Int64 := Int64.ofInt z
theorem nI_I (n : Nat) : nI n = iI n := Int32.ofInt_eq_ofNat.symm
theorem iI_t {z : Int} (h1 : -2147483648 ≤ z) (h2 : z < 2147483648) : (iI z).toInt = z := Int32.toInt_ofInt_of_le h1 h2
theorem lI_t {z : Int} (h1 : -9223372036854775808 ≤ z) (h2 : z < 9223372036854775808) : (lI z).toInt = z := Int64.toInt_ofInt_of_le h1 h2
def zb6 (z : Int) : Prop := -1000000 ≤ z ∧ z ≤ 1000000
def zbL (z : Int) : Prop := -4000000000000000000 ≤ z ∧ z ≤ 4000000000000000000
theorem iI_le {a b : Int} (ha : zb6 a) (hb : zb6 b) : iI a ≤ iI b ↔ a ≤ b := by
  obtain ⟨a1, a2⟩ := ha
  obtain ⟨b1, b2⟩ := hb
  rw [Int32.le_iff_toInt_le, iI_t (by omega) (by omega), iI_t (by omega) (by omega)]
theorem iI_lt {a b : Int} (ha : zb6 a) (hb : zb6 b) : iI a < iI b ↔ a < b := by
  obtain ⟨a1, a2⟩ := ha
  obtain ⟨b1, b2⟩ := hb
  rw [Int32.lt_iff_toInt_lt, iI_t (by omega) (by omega), iI_t (by omega) (by omega)]
theorem iI_eq {a b : Int} (ha : zb6 a) (hb : zb6 b) : iI a = iI b ↔ a = b := by
  obtain ⟨a1, a2⟩ := ha
  obtain ⟨b1, b2⟩ := hb
  rw [← Int32.toInt_inj, iI_t (by omega) (by omega), iI_t (by omega) (by omega)]
theorem lI_le {a b : Int} (ha : zbL a) (hb : zbL b) : lI a ≤ lI b ↔ a ≤ b := by
  obtain ⟨a1, a2⟩ := ha
  obtain ⟨b1, b2⟩ := hb
  rw [Int64.le_iff_toInt_le, lI_t (by omega) (by omega), lI_t (by omega) (by omega)]
theorem lI_lt {a b : Int} (ha : zbL a) (hb : zbL b) : lI a < lI b ↔ a < b := by
  obtain ⟨a1, a2⟩ := ha
  obtain ⟨b1, b2⟩ := hb
  rw [Int64.lt_iff_toInt_lt, lI_t (by omega) (by omega), lI_t (by omega) (by omega)]
theorem lI_eq {a b : Int} (ha : zbL a) (hb : zbL b) : lI a = lI b ↔ a = b := by
  obtain ⟨a1, a2⟩ := ha
  obtain ⟨b1, b2⟩ := hb
  rw [← Int64.toInt_inj, lI_t (by omega) (by omega), lI_t (by omega) (by omega)]
theorem iI_L {a : Int} (ha : zb6 a) : (iI a).toInt64 = lI a := by
  obtain ⟨a1, a2⟩ := ha
  apply Int64.toInt_inj.mp
  rw [Int32.toInt_toInt64, iI_t (by omega) (by omega), lI_t (by omega) (by omega)]
theorem lI_I (a : Int) : (lI a).toInt32 = iI a := Int64.toInt32_ofInt
theorem iI_add (a b : Int) : iI a + iI b = iI (a + b) := (Int32.ofInt_add a b).symm
theorem iI_sub (a b : Int) : iI a - iI b = iI (a - b) := (Int32.ofInt_sub a b).symm
theorem iI_mul (a b : Int) : iI a * iI b = iI (a * b) := (Int32.ofInt_mul a b).symm
theorem lI_add (a b : Int) : lI a + lI b = lI (a + b) := (Int64.ofInt_add a b).symm
theorem lI_sub (a b : Int) : lI a - lI b = lI (a - b) := (Int64.ofInt_sub a b).symm
theorem lI_mul (a b : Int) : lI a * lI b = lI (a * b) := (Int64.ofInt_mul a b).symm
theorem iI_0 : (0 : Int32) = iI 0 := rfl
theorem lI_0 : (0 : Int64) = lI 0 := rfl
theorem lN_I (n : Nat) : lN n = lI n := Int64.ofInt_eq_ofNat.symm
theorem iI_div {a b : Int} (ha : zb6 a) (hb : zb6 b) : iI a / iI b = iI (a.tdiv b) := by
  obtain ⟨a1, a2⟩ := ha
  obtain ⟨b1, b2⟩ := hb
  apply Int32.toInt_inj.mp
  have hab : (a.tdiv b).natAbs ≤ a.natAbs := by
    rw [Int.natAbs_tdiv]
    exact Nat.div_le_self _ _
  have hm : iI a ≠ Int32.minValue := by
    intro e
    have := congrArg Int32.toInt e
    rw [iI_t (by omega) (by omega)] at this
    have h2 : Int32.minValue.toInt = -2147483648 := by decide
    omega
  rw [Int32.toInt_div_of_ne_left _ _ hm, iI_t (by omega) (by omega), iI_t (by omega) (by omega), iI_t (by omega) (by omega)]
theorem zfdiv {a b : Int} (hb : b ≠ 0) : Int.fdiv a b = if a.tdiv b * b ≠ a ∧ ((a < 0 ∧ ¬ b < 0) ∨ (¬ a < 0 ∧ b < 0)) then a.tdiv b - 1 else a.tdiv b := by
  have hd : b ∣ a ↔ a.tdiv b * b = a := ⟨fun h => Int.tdiv_mul_cancel h, fun h => ⟨a.tdiv b, by rw [Int.mul_comm]; exact h.symm⟩⟩
  rw [Int.fdiv_eq_tdiv]
  have hs : b.sign = 1 ∧ 0 < b ∨ b.sign = -1 ∧ b < 0 := by
    rcases Int.lt_trichotomy b 0 with h | h | h
    · exact Or.inr ⟨Int.sign_eq_neg_one_of_neg h, h⟩
    · exact absurd h hb
    · exact Or.inl ⟨Int.sign_eq_one_of_pos h, h⟩
  by_cases h1 : a.tdiv b * b = a
  · rw [if_pos (hd.mpr h1), if_neg (fun c => c.1 h1)]
    omega
  · rw [if_neg (fun c => h1 (hd.mp c))]
    by_cases h2 : 0 ≤ a <;> by_cases h3 : 0 ≤ b
    · rw [if_pos h2, if_pos h3, if_neg (by omega)]; omega
    · rw [if_pos h2, if_neg h3, if_pos ⟨h1, by omega⟩]
    · rw [if_neg h2, if_pos h3, if_pos ⟨h1, by omega⟩]; omega
    · rw [if_neg h2, if_neg h3, if_neg (by omega)]; omega
theorem zxor {a b : Int} (ha : zb6 a) (hb : zb6 b) : 0 ≤ (iI a ^^^ iI b) ↔ ¬ ((a < 0 ∧ ¬ b < 0) ∨ (¬ a < 0 ∧ b < 0)) := by
  obtain ⟨a1, a2⟩ := ha
  obtain ⟨b1, b2⟩ := hb
  have h : (iI a ^^^ iI b).toBitVec.msb = ((iI a).toBitVec.msb ^^ (iI b).toBitVec.msb) := BitVec.msb_xor
  rw [BitVec.msb_eq_toInt, BitVec.msb_eq_toInt, BitVec.msb_eq_toInt] at h
  have e1 : (iI a).toBitVec.toInt = a := iI_t (by omega) (by omega)
  have e2 : (iI b).toBitVec.toInt = b := iI_t (by omega) (by omega)
  rw [e1, e2] at h
  rw [Int32.le_iff_toInt_le]
  show (0 : Int) ≤ (iI a ^^^ iI b).toBitVec.toInt ↔ _
  by_cases c1 : a < 0 <;> by_cases c2 : b < 0 <;> simp [c1, c2] at h ⊢ <;> omega
theorem zb6_tdiv {a b : Int} (ha : zb6 a) : zb6 (a.tdiv b) := by
  obtain ⟨a1, a2⟩ := ha
  have hab : (a.tdiv b).natAbs ≤ a.natAbs := by
    rw [Int.natAbs_tdiv]
    exact Nat.div_le_self _ _
  exact ⟨by omega, by omega⟩
theorem zb6_fdiv {a b : Int} (ha : zb6 a) (hb : b ≠ 0) : zb6 (Int.fdiv a b) := by
  have h := zb6_tdiv (b := b) ha
  obtain ⟨a1, a2⟩ := ha
  obtain ⟨h1, h2⟩ := h
  rw [zfdiv hb]
  split
  · rename_i hc
    refine ⟨?_, by omega⟩
    refine Classical.byContradiction fun hh => ?_
    have e : a.tdiv b = -1000000 := by omega
    have hab : (a.tdiv b).natAbs ≤ a.natAbs / b.natAbs := by rw [Int.natAbs_tdiv]; exact Nat.le_refl _
    have h5 : 1 ≤ b.natAbs := by omega
    by_cases h6 : b.natAbs = 1
    · have : b = 1 ∨ b = -1 := by omega
      rcases this with rfl | rfl
      · exact hc.1 (by rw [Int.tdiv_one, Int.mul_one])
      · exact hc.1 (by rw [show (-1 : Int) = -(1 : Int) from rfl, Int.tdiv_neg, Int.tdiv_one]; omega)
    · have h7 : a.natAbs / b.natAbs ≤ a.natAbs / 2 := Nat.div_le_div_left (by omega) (by decide)
      omega
  · exact ⟨h1, h2⟩
set_option maxHeartbeats 4000000 in
set_option maxRecDepth 100000 in
theorem sp_floorDiv {d : Nat} {M : zMI} {L : zML} {R : zMR} {a b : Int} (ha : zb6 a) (hb : zb6 b) (h0 : b ≠ 0) : Sx yJ9_floorDiv_7cf53 YJ9_floorDiv_7cf53 (d) [.int (iI a), .int (iI b)] M L R (some (.int (iI (Int.fdiv a b)))) M L R := by
  refine Sp.ofF (by decide +kernel) rfl (fun h => by first | exact h | cases h) (Nat.le_of_ble_eq_true rfl) ?_
  intro w G
  have hne : ¬ iI b = 0 := fun e => h0 ((iI_eq hb ⟨by decide, by decide⟩).mp e)
  refine wp_iload_n (q := 1) dJ9_floorDiv_7cf53_0 0 rfl rfl ?_
  refine wp_iload_n (q := 2) dJ9_floorDiv_7cf53_1 1 rfl rfl ?_
  refine wp_idiv (q := 3) dJ9_floorDiv_7cf53_2 (by assumption) rfl ?_
  rw [iI_div ha hb]
  refine wp_istore_n (q := 4) (loc' := [(2, _), (0, _), (1, _)]) dJ9_floorDiv_7cf53_3 rfl (by decide) rfl rfl ?_
  refine wp_iload_n (q := 5) dJ9_floorDiv_7cf53_4 1 rfl rfl ?_
  refine wp_iload_n (q := 6) dJ9_floorDiv_7cf53_5 2 rfl rfl ?_
  refine wp_ixor (q := 7) dJ9_floorDiv_7cf53_6 rfl ?_
  refine wp_if_ge (tgt := 21) (q := 10) dJ9_floorDiv_7cf53_7 (by decide) rfl (fun h => ?_) (fun h => ?_)
  · skip
    rw [zfdiv h0, if_neg (fun c => (zxor ha hb).mp h c.2)]
    refine wp_iload_n (q := 22) dJ9_floorDiv_7cf53_21 0 rfl rfl ?_
    exact wp_ireturn dJ9_floorDiv_7cf53_22 rfl ⟨rfl, rfl, rfl, rfl, rfl⟩ rfl rfl
  · skip
    have hx := fun c => h ((zxor ha hb).mpr c)
    have ht := zb6_tdiv (b := b) ha
    refine wp_iload_n (q := 11) dJ9_floorDiv_7cf53_10 0 rfl rfl ?_
    refine wp_iload_n (q := 12) dJ9_floorDiv_7cf53_11 2 rfl rfl ?_
    refine wp_imul (q := 13) dJ9_floorDiv_7cf53_12 rfl ?_
    rw [iI_mul]
    refine wp_iload_n (q := 14) dJ9_floorDiv_7cf53_13 1 rfl rfl ?_
    by_cases hm : a.tdiv b * b = a
    · rw [zfdiv h0, if_neg (fun c => c.1 hm)]
      refine wp_icmp_eq (tgt := 21) (q := 17) dJ9_floorDiv_7cf53_14 (by decide) rfl (fun _ => ?_) (fun hn => absurd hn (by rw [hm]; exact fun c => c rfl))
      refine wp_iload_n (q := 22) dJ9_floorDiv_7cf53_21 0 rfl rfl ?_
      exact wp_ireturn dJ9_floorDiv_7cf53_22 rfl ⟨rfl, rfl, rfl, rfl, rfl⟩ rfl rfl
    · rw [zfdiv h0, if_pos ⟨hm, Classical.byContradiction fun c => hx c⟩]
      refine wp_icmp_eq (tgt := 21) (q := 17) dJ9_floorDiv_7cf53_14 (by decide) rfl (fun hn => absurd hn (by refine fun e => hm ?_; have e2 := congrArg Int32.toInt e; have hq : zb6 (a.tdiv b) := ht; have hqb : (a.tdiv b * b).natAbs ≤ a.natAbs := by { rw [Int.natAbs_mul, Int.natAbs_tdiv]; exact Nat.div_mul_le_self _ _ }; obtain ⟨a1, a2⟩ := ha; rw [iI_t (by omega) (by omega), iI_t (by omega) (by omega)] at e2; exact e2)) (fun _ => ?_)
      refine wp_iload_n (q := 18) dJ9_floorDiv_7cf53_17 0 rfl rfl ?_
      refine wp_iconst (q := 19) dJ9_floorDiv_7cf53_18 zq_iconst_1 rfl ?_
      rw [show nI 1 = iI 1 from rfl]
      refine wp_isub (q := 20) dJ9_floorDiv_7cf53_19 rfl ?_
      rw [iI_sub]
      exact wp_ireturn dJ9_floorDiv_7cf53_20 rfl ⟨rfl, rfl, rfl, rfl, rfl⟩ rfl rfl

