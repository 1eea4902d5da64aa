abbrev zTb : Type := (Nat → Nat → Nat) × Option (List (Nat × Nat)) × Option (List (Nat × Nat))
def zhd (st : List Int) : Int := match st with
  | [] => 0
  | z :: _ => z
def zclN (m : Nat) (z : Int) : Nat := if z < 0 then 0 else if (m : Int) < z then m else z.toNat
def zfa (a l o g : Nat) : Nat → Int := fun i => if i = 0 then (a : Int) else if i = 1 then (l : Int) else if i = 2 then (o : Int) else if i = 3 then (if g = 0 then 1 else 0) else if i = 4 then (if g = 1 then 1 else 0) else if i = 5 then (if g = 2 then 1 else 0) else 0
def zmz (pp : Option (List (Nat × Nat))) (e : Int) (F : Nat → Int) : Int := match pp with
  | none => e
  | some p => zhd (zeva F p [])
-- might, slip of a hand: arm, how low, how low the other one, grip
def zmg (tb : zTb) (a l o g : Nat) : Nat := zclN 999 (zmz tb.2.1 a (zfa a l o g))
def zsg (tb : zTb) (a l o g : Nat) : Nat := zclN 100 (zmz tb.2.2 0 (zfa a l o g))
def zpr (M : zMI) (f fl : Nat) (T : Nat) (pp : Option (List (Nat × Nat))) : Prop := match pp with
  | none => M T fl = nI 0
  | some p => M T fl = nI 1 ∧ zFR M f p ∧ ztr p [] = some [false]
def zTM (M : zMI) (T n : Nat) (tb : zTb) : Prop := (∀ p h, p < n → h < 2 → M (T + 2) (2 * p + h) = nI (tb.1 p h) ∧ tb.1 p h ≤ 99) ∧ zpr M (T + 8) 11 T tb.2.1 ∧ zpr M (T + 11) 12 T tb.2.2
def zTab (T : Nat) : Prop := T = 10 ∨ T = 24
theorem zTab_s {T : Nat} (h : zTab T) : SS[T]? = some (.inr 9) ∧ SS[T + 1]? = some (.inl (8, .int)) ∧ SS[T + 2]? = some (.inl (16, .int)) ∧ SS[T + 3]? = some (.inl (16, .int)) ∧ SS[T + 4]? = some (.inl (16, .int)) ∧ SS[T + 5]? = some (.inl (8, .int)) ∧ SS[T + 6]? = some (.inl (4, .int)) ∧ SS[T + 7]? = some (.inl (4, .int)) ∧ SS[T + 8]? = some (.inr 0) ∧ SS[T + 11]? = some (.inr 0) := by
  rcases h with rfl | rfl
  · exact ⟨zsh_10, zsh_11, zsh_12, zsh_13, zsh_14, zsh_15, zsh_16, zsh_17, zsh_18, zsh_21⟩
  · exact ⟨zsh_24, zsh_25, zsh_26, zsh_27, zsh_28, zsh_29, zsh_30, zsh_31, zsh_32, zsh_35⟩
theorem zTab_r {T t : Nat} (h : zTab T) : zRf t T 2 = some (T + 1) ∧ zRf t T 3 = some (T + 2) ∧ zRf t T 4 = some (T + 3) ∧ zRf t T 5 = some (T + 4) ∧ zRf t T 6 = some (T + 5) ∧ zRf t T 8 = some (T + 6) ∧ zRf t T 9 = some (T + 7) ∧ zRf t T 13 = some (T + 8) ∧ zRf t T 14 = some (T + 11) := by
  rcases h with rfl | rfl
  · exact ⟨zr_10_2 t, zr_10_3 t, zr_10_4 t, zr_10_5 t, zr_10_6 t, zr_10_8 t, zr_10_9 t, zr_10_13 t, zr_10_14 t⟩
  · exact ⟨zr_24_2 t, zr_24_3 t, zr_24_4 t, zr_24_5 t, zr_24_6 t, zr_24_8 t, zr_24_9 t, zr_24_13 t, zr_24_14 t⟩
theorem zpr_fr {M M' : zMI} {f fl T : Nat} {pp : Option (List (Nat × Nat))} (h : zpr M f fl T pp) (h0 : M' T fl = M T fl) (h1 : M' f 2 = M f 2) (h2 : M' (f + 1) = M (f + 1)) : zpr M' f fl T pp := by
  cases pp with
  | none => exact h0.trans h
  | some p =>
    obtain ⟨a, ⟨b1, b2, b3⟩, c⟩ := h
    exact ⟨h0.trans a, ⟨h1.trans b1, b2, fun i o x hi => by rw [h2]; exact b3 i o x hi⟩, c⟩
theorem zfa_b {a l o g : Nat} (ha : a ≤ 99) (hl : l ≤ 9) (ho : o ≤ 9) : zFb (zfa a l o g) := by
  intro i _
  unfold zfa zb6
  by_cases c0 : i = 0
  · rw [if_pos c0]; omega
  rw [if_neg c0]
  by_cases c1 : i = 1
  · rw [if_pos c1]; omega
  rw [if_neg c1]
  by_cases c2 : i = 2
  · rw [if_pos c2]; omega
  rw [if_neg c2]
  by_cases c3 : i = 3
  · rw [if_pos c3]; split <;> omega
  rw [if_neg c3]
  by_cases c4 : i = 4
  · rw [if_pos c4]; split <;> omega
  rw [if_neg c4]
  by_cases c5 : i = 5
  · rw [if_pos c5]; split <;> omega
  rw [if_neg c5]
  omega
theorem zmm {m : Nat} {z : Int} (hz : zb6 z) (hm : m ≤ 999) : (if nI 0 < (if iI z < nI m then iI z else nI m) then (if iI z < nI m then iI z else nI m) else nI 0) = nI (zclN m z) := by
  have bm : zb6 (m : Int) := ⟨by omega, by omega⟩
  have b0 : zb6 ((0 : Nat) : Int) := ⟨by decide, by decide⟩
  obtain ⟨z1, z2⟩ := id hz
  rw [nI_I m, nI_I 0]
  unfold zclN
  by_cases h1 : z < (m : Int)
  · rw [if_pos ((iI_lt hz bm).mpr h1), if_neg (show ¬ (m : Int) < z by omega)]
    by_cases h2 : (0 : Int) < z
    · rw [if_pos ((iI_lt b0 hz).mpr h2), if_neg (by omega), nI_I, Int.toNat_of_nonneg (by omega)]
    · rw [if_neg (fun c => h2 ((iI_lt b0 hz).mp c))]
      by_cases h3 : z < 0
      · rw [if_pos h3, nI_I]
      · rw [if_neg h3, show z = 0 by omega, nI_I]; rfl
  · rw [if_neg (fun c => h1 ((iI_lt hz bm).mp c)), if_neg (show ¬ z < 0 by omega)]
    by_cases h2 : (0 : Int) < (m : Int)
    · rw [if_pos ((iI_lt b0 bm).mpr h2)]
      by_cases h3 : (m : Int) < z
      · rw [if_pos h3, nI_I]
      · rw [if_neg h3, show z = (m : Int) by omega, nI_I]; rfl
    · rw [if_neg (fun c => h2 ((iI_lt b0 bm).mp c))]
      have : m = 0 := by omega
      subst this
      by_cases h3 : ((0 : Nat) : Int) < z
      · rw [if_pos h3, nI_I]
      · rw [if_neg h3, show z = 0 by omega, nI_I]; rfl
set_option maxHeartbeats 4000000 in
set_option maxRecDepth 100000 in
theorem sp_measure {d t o hx ox h a l lo g n : Nat} {M : zMI} {L : zML} {tb : zTb} (hT : zTab t) (ho : zSt o) (hTM : zTM M t n tb) (hh : h < 2) (hhx : hx < 16) (hox : ox < 16) (ha : M (t + 2) hx = nI a) (ha9 : a ≤ 99) (hg : M (o + 3) hx = nI g) (hg2 : g ≤ 2) (hl : M (o + 4) hx = nI l) (hl9 : l ≤ 9) (hlo : M (o + 4) ox = nI lo) (hlo9 : lo ≤ 9) (h6 : ∀ k, 6 ≤ k → k < 9 → M 151 k = nI 0) : Sy yX4_measure YX4_measure (d + 3) [.ref 150, .ref o, .int (nI hx), .int (nI ox), .int (nI h)] M L (zRf t) (fun v0 M' L' R' => v0 = none ∧ L = L' ∧ R' = zRf t ∧ M' 152 h = nI (zmg tb a l lo g) ∧ M' 152 (2 + h) = nI (zsg tb a l lo g) ∧ (∀ k, k ≠ h → k ≠ 2 + h → M' 152 k = M 152 k) ∧ (∀ k, 6 ≤ k → M' 151 k = M 151 k) ∧ ∀ x, x ≠ 151 → x ≠ 152 → x ≠ t + 10 → x ≠ t + 13 → M' x = M x) := by
  refine Sp.of (by decide +kernel) rfl (fun h => by first | exact h | cases h) (Nat.le_of_ble_eq_true rfl) ?_
  intro w G
  obtain ⟨s0, s1, s2, s3, s4, s5, s6, s7, s8, s11⟩ := zTab_s hT
  obtain ⟨r2, r3, r4, r5, r6, r8, r9, r13, r14⟩ := zTab_r (t := t) hT
  have hss := zSt_s ho
  obtain ⟨ha1, ha2, ha3, ha4⟩ := zSt_a ho
  obtain ⟨hr1, hr2, hr3, hr4⟩ := zSt_r (t := t) ho
  have hot : o + 3 ≠ 151 ∧ o + 4 ≠ 151 := by rcases ho with rfl | rfl | rfl | ⟨i, hi, rfl⟩ <;> omega
  have ht2 : t < 100 := by rcases hT with rfl | rfl <;> decide
  have fo8 : zFo (t + 8) := by rcases hT with rfl | rfl <;> simp [zFo]
  have fo11 : zFo (t + 11) := by rcases hT with rfl | rfl <;> simp [zFo]
  obtain ⟨hA, hp1, hp2⟩ := hTM
  have hFb := zfa_b (g := g) ha9 hl9 hlo9
  -- behind both formulas
  have tail : ∀ (z1 z2 : Int) (M2 : zMI), zb6 z1 → zb6 z2 → z1 = zmz tb.2.1 a (zfa a l lo g) → z2 = zmz tb.2.2 0 (zfa a l lo g) → (∀ k, 6 ≤ k → M2 151 k = M 151 k) → (∀ x, x ≠ 151 → x ≠ t + 10 → x ≠ t + 13 → M2 x = M x) → WP w YX4_measure (d + 3, SS, 0, 0) G (some (zXp (fun v0 M' L' R' => v0 = none ∧ L = L' ∧ R' = zRf t ∧ M' 152 h = nI (zmg tb a l lo g) ∧ M' 152 (2 + h) = nI (zsg tb a l lo g) ∧ (∀ k, k ≠ h → k ≠ 2 + h → M' 152 k = M 152 k) ∧ (∀ k, 6 ≤ k → M' 151 k = M 151 k) ∧ ∀ x, x ≠ 151 → x ≠ 152 → x ≠ t + 10 → x ≠ t + 13 → M' x = M x))) 160 [(7, .int (iI z1)), (5, .int (nI a)), (6, .int (nI g)), (0, .ref 150), (1, .ref o), (2, .int (nI hx)), (3, .int (nI ox)), (4, .int (nI h))] [.int (iI z2)] SS M2 L (zRf t) := by
    intro z1 z2 M2 b1 b2 e1 e2 hk hf
    refine wp_istore (q := 162) (loc' := [(8, _), (7, _), (5, _), (6, _), (0, _), (1, _), (2, _), (3, _), (4, _)]) dX4_measure_160 (by decide) rfl rfl ?_
    refine wp_aload_n (q := 163) dX4_measure_162 4 rfl rfl ?_
    refine wp_getR (q := 166) dX4_measure_163 zf_RX4_15 rfl zsh_150 (zr_150_2 _) rfl ?_
    refine wp_iconst (q := 167) dX4_measure_166 zq_iconst_0 rfl ?_
    refine wp_iload (q := 169) dX4_measure_167 8 rfl rfl ?_
    refine wp_iaddN (q := 170) dX4_measure_169 rfl ?_
    refine wp_iconst (q := 171) dX4_measure_170 zq_iconst_0 rfl ?_
    refine wp_sipush (q := 174) dX4_measure_171 zq_sipush_999 rfl ?_
    refine wp_iload (q := 176) dX4_measure_174 1 rfl rfl ?_
    refine wp_mmin (q := 179) dX4_measure_176 zl_RX4_72 (by omega) (Nat.le_of_ble_eq_true rfl) (Nat.le_refl _) (Nat.le_refl _) rfl ?_
    refine wp_mmax (q := 182) dX4_measure_179 zl_RX4_77 (by omega) (Nat.le_of_ble_eq_true rfl) (Nat.le_refl _) (Nat.le_refl _) rfl ?_
    rw [zmm b1 (by decide)]
    refine wp_iast (q := 183) _ dX4_measure_182 zsh_152 rfl (by omega) (by decide) rfl ?_
    refine wp_aload_n (q := 184) dX4_measure_183 4 rfl rfl ?_
    refine wp_getR (q := 187) dX4_measure_184 zf_RX4_15 rfl zsh_150 (zr_150_2 _) rfl ?_
    refine wp_iconst (q := 188) dX4_measure_187 zq_iconst_2 rfl ?_
    refine wp_iload (q := 190) dX4_measure_188 8 rfl rfl ?_
    refine wp_iaddN (q := 191) dX4_measure_190 rfl ?_
    refine wp_iconst (q := 192) dX4_measure_191 zq_iconst_0 rfl ?_
    refine wp_bipush (q := 194) dX4_measure_192 zq_bipush_100 rfl ?_
    refine wp_iload (q := 196) dX4_measure_194 0 rfl rfl ?_
    refine wp_mmin (q := 199) dX4_measure_196 zl_RX4_72 (by omega) (Nat.le_of_ble_eq_true rfl) (Nat.le_refl _) (Nat.le_refl _) rfl ?_
    refine wp_mmax (q := 202) dX4_measure_199 zl_RX4_77 (by omega) (Nat.le_of_ble_eq_true rfl) (Nat.le_refl _) (Nat.le_refl _) rfl ?_
    rw [zmm b2 (by decide)]
    refine wp_iast (q := 203) _ dX4_measure_202 zsh_152 rfl (by omega) (by decide) rfl ?_
    refine wp_return dX4_measure_203 rfl ⟨rfl, ⟨rfl, rfl, rfl, ?_, ?_, fun k k1 k2 => ?_, fun k hk6 => ?_, fun x x1 x2 x3 x4 => ?_⟩⟩ rfl rfl
    · rw [Nat.zero_add, zu_k (by omega), zu_s, e1]; rfl
    · rw [zu_s, e2]; rfl
    · rw [zu_k k2, zu_k (by omega), hf 152 (by decide) (by omega) (by omega)]
    · rw [zu_ne (by decide), zu_ne (by decide), hk k hk6]
    · rw [zu_ne x2, zu_ne x2, hf x x1 x3 x4]
  have mid : ∀ (z1 : Int) (M2 : zMI), zb6 z1 → z1 = zmz tb.2.1 a (zfa a l lo g) → (∀ i, i < 9 → M2 151 i = iI (zfa a l lo g i)) → (∀ k, 6 ≤ k → M2 151 k = M 151 k) → (∀ x, x ≠ 151 → x ≠ t + 10 → M2 x = M x) → WP w YX4_measure (d + 3, SS, 0, 0) G (some (zXp (fun v0 M' L' R' => v0 = none ∧ L = L' ∧ R' = zRf t ∧ M' 152 h = nI (zmg tb a l lo g) ∧ M' 152 (2 + h) = nI (zsg tb a l lo g) ∧ (∀ k, k ≠ h → k ≠ 2 + h → M' 152 k = M 152 k) ∧ (∀ k, 6 ≤ k → M' 151 k = M 151 k) ∧ ∀ x, x ≠ 151 → x ≠ 152 → x ≠ t + 10 → x ≠ t + 13 → M' x = M x))) 130 [(5, .int (nI a)), (6, .int (nI g)), (0, .ref 150), (1, .ref o), (2, .int (nI hx)), (3, .int (nI ox)), (4, .int (nI h))] [.int (iI z1)] SS M2 L (zRf t) := by
    intro z1 M2 b1 e1 hF hk hf
    have hp2' := zpr_fr (M' := M2) hp2 (by rw [hf t (by omega) (by omega)]) (by rw [hf (t + 11) (by omega) (by omega)]) (hf (t + 11 + 1) (by omega) (by omega))
    refine wp_istore (q := 132) (loc' := [(7, _), (5, _), (6, _), (0, _), (1, _), (2, _), (3, _), (4, _)]) dX4_measure_130 (by decide) rfl rfl ?_
    refine wp_aload_n (q := 133) dX4_measure_132 3 rfl rfl ?_
    refine wp_getR (q := 136) dX4_measure_133 zf_RX4_27 rfl zsh_150 (zr_150_0 _) rfl ?_
    refine wp_getI (q := 139) dX4_measure_136 zf_RX4_66 rfl (by first | assumption | rfl) rfl ?_
    cases hsp : tb.2.2 with
    | none =>
      rw [hsp] at hp2'
      rw [show M2 t 12 = nI 0 from hp2']
      refine wp_if_eqN (tgt := 159) (q := 142) dX4_measure_139 (by decide) rfl (by omega) (fun _ => ?_) (fun hn => absurd hn (by omega))
      refine wp_iconst (q := 160) dX4_measure_159 zq_iconst_0 rfl ?_
      rw [nI_I 0]
      exact tail z1 0 M2 b1 ⟨by decide, by decide⟩ e1 (by rw [hsp]; rfl) hk (fun x x1 x2 _ => hf x x1 x2)
    | some p =>
      rw [hsp] at hp2'
      obtain ⟨q1, q2, q3⟩ := hp2'
      rw [q1]
      refine wp_if_eqN (tgt := 159) (q := 142) dX4_measure_139 (by decide) rfl (by omega) (fun hn => absurd hn (by omega)) (fun _ => ?_)
      refine wp_aload_n (q := 143) dX4_measure_142 3 rfl rfl ?_
      refine wp_getR (q := 146) dX4_measure_143 zf_RX4_27 rfl zsh_150 (zr_150_0 _) rfl ?_
      refine wp_getR (q := 149) dX4_measure_146 zf_RX4_69 rfl (by first | assumption | rfl) (by first | assumption | rfl) rfl ?_
      refine wp_aload_n (q := 150) dX4_measure_149 3 rfl rfl ?_
      refine wp_getR (q := 153) dX4_measure_150 zf_RX4_9 rfl zsh_150 (zr_150_1 _) rfl ?_
      refine wp_cvy (q := 156) (sp_value (d := d) fo11 q2 (Or.inr rfl) hF hFb q3) zm_X0_value zl_RX4_60 dX4_measure_153 rfl (by omega) (Nat.le_of_ble_eq_true rfl) (by first | assumption | rfl) rfl rfl ?_
      rintro _ M3 _ _ ⟨⟨z, y1, y2, y3, rfl⟩, rfl, rfl, hf3⟩
      refine wp_goto (tgt := 160) dX4_measure_156 (by decide) ?_
      exact tail z1 z M3 b1 y2 e1 (by rw [hsp]; show z = zhd _; rw [y1]; rfl) (fun k hk6 => by rw [hf3 151 (by omega)]; exact hk k hk6) (fun x x1 x2 x3 => by rw [hf3 x (by omega)]; exact hf x x1 x2)
  have start : ∀ M2 : zMI, (∀ i, i < 9 → M2 151 i = iI (zfa a l lo g i)) → (∀ k, 6 ≤ k → M2 151 k = M 151 k) → (∀ x, x ≠ 151 → M2 x = M x) → WP w YX4_measure (d + 3, SS, 0, 0) G (some (zXp (fun v0 M' L' R' => v0 = none ∧ L = L' ∧ R' = zRf t ∧ M' 152 h = nI (zmg tb a l lo g) ∧ M' 152 (2 + h) = nI (zsg tb a l lo g) ∧ (∀ k, k ≠ h → k ≠ 2 + h → M' 152 k = M 152 k) ∧ (∀ k, 6 ≤ k → M' 151 k = M 151 k) ∧ ∀ x, x ≠ 151 → x ≠ 152 → x ≠ t + 10 → x ≠ t + 13 → M' x = M x))) 101 [(5, .int (nI a)), (6, .int (nI g)), (0, .ref 150), (1, .ref o), (2, .int (nI hx)), (3, .int (nI ox)), (4, .int (nI h))] [] SS M2 L (zRf t) := by
    intro M2 hF hk hf
    have hp1' := zpr_fr (M' := M2) hp1 (by rw [hf t (by omega)]) (by rw [hf (t + 8) (by omega)]) (hf (t + 8 + 1) (by omega))
    refine wp_aload_n (q := 102) dX4_measure_101 2 rfl rfl ?_
    refine wp_getR (q := 105) dX4_measure_102 zf_RX4_27 rfl zsh_150 (zr_150_0 _) rfl ?_
    refine wp_getI (q := 108) dX4_measure_105 zf_RX4_52 rfl (by first | assumption | rfl) rfl ?_
    cases hmp : tb.2.1 with
    | none =>
      rw [hmp] at hp1'
      rw [show M2 t 11 = nI 0 from hp1']
      refine wp_if_eqN (tgt := 128) (q := 111) dX4_measure_108 (by decide) rfl (by omega) (fun _ => ?_) (fun hn => absurd hn (by omega))
      refine wp_iload (q := 130) dX4_measure_128 0 rfl rfl ?_
      rw [nI_I a]
      have := mid a M2 ⟨by omega, by omega⟩ (by rw [hmp]; rfl) hF hk (fun x x1 _ => hf x x1)
      rw [nI_I a] at this
      exact this
    | some p =>
      rw [hmp] at hp1'
      obtain ⟨q1, q2, q3⟩ := hp1'
      rw [q1]
      refine wp_if_eqN (tgt := 128) (q := 111) dX4_measure_108 (by decide) rfl (by omega) (fun hn => absurd hn (by omega)) (fun _ => ?_)
      refine wp_aload_n (q := 112) dX4_measure_111 2 rfl rfl ?_
      refine wp_getR (q := 115) dX4_measure_112 zf_RX4_27 rfl zsh_150 (zr_150_0 _) rfl ?_
      refine wp_getR (q := 118) dX4_measure_115 zf_RX4_56 rfl (by first | assumption | rfl) (by first | assumption | rfl) rfl ?_
      refine wp_aload_n (q := 119) dX4_measure_118 2 rfl rfl ?_
      refine wp_getR (q := 122) dX4_measure_119 zf_RX4_9 rfl zsh_150 (zr_150_1 _) rfl ?_
      refine wp_cvy (q := 125) (sp_value (d := d) fo8 q2 (Or.inr rfl) hF hFb q3) zm_X0_value zl_RX4_60 dX4_measure_122 rfl (by omega) (Nat.le_of_ble_eq_true rfl) (by first | assumption | rfl) rfl rfl ?_
      rintro _ M3 _ _ ⟨⟨z, y1, y2, y3, rfl⟩, rfl, rfl, hf3⟩
      refine wp_goto (tgt := 130) dX4_measure_125 (by decide) ?_
      exact mid z M3 y2 (by rw [hmp]; show z = zhd _; rw [y1]; rfl) (fun i hi => by rw [hf3 151 (by omega)]; exact hF i hi) (fun k hk6 => by rw [hf3 151 (by omega)]; exact hk k hk6) (fun x x1 x2 => by rw [hf3 x (by omega)]; exact hf x x1)
  have facts : ∀ f3 f4 f5 : Nat, (f3 = if g = 0 then 1 else 0) → (f4 = if g = 1 then 1 else 0) → (f5 = if g = 2 then 1 else 0) → WP w YX4_measure (d + 3, SS, 0, 0) G (some (zXp (fun v0 M' L' R' => v0 = none ∧ L = L' ∧ R' = zRf t ∧ M' 152 h = nI (zmg tb a l lo g) ∧ M' 152 (2 + h) = nI (zsg tb a l lo g) ∧ (∀ k, k ≠ h → k ≠ 2 + h → M' 152 k = M 152 k) ∧ (∀ k, 6 ≤ k → M' 151 k = M 151 k) ∧ ∀ x, x ≠ 151 → x ≠ 152 → x ≠ t + 10 → x ≠ t + 13 → M' x = M x))) 101 [(5, .int (nI a)), (6, .int (nI g)), (0, .ref 150), (1, .ref o), (2, .int (nI hx)), (3, .int (nI ox)), (4, .int (nI h))] [] SS (zu (zu (zu (zu (zu (zu M 151 0 (nI a)) 151 1 (nI l)) 151 2 (nI lo)) 151 3 (nI f3)) 151 4 (nI f4)) 151 5 (nI f5)) L (zRf t) := by
    intro f3 f4 f5 e3 e4 e5
    refine start _ (fun i hi => ?_) (fun k hk => ?_) (fun x hx => ?_)
    · have hc : i = 0 ∨ i = 1 ∨ i = 2 ∨ i = 3 ∨ i = 4 ∨ i = 5 ∨ 6 ≤ i := by omega
      rcases hc with rfl | rfl | rfl | rfl | rfl | rfl | h7
      · rw [zu_k (by decide), zu_k (by decide), zu_k (by decide), zu_k (by decide), zu_k (by decide), zu_s, nI_I]; rfl
      · rw [zu_k (by decide), zu_k (by decide), zu_k (by decide), zu_k (by decide), zu_s, nI_I]; rfl
      · rw [zu_k (by decide), zu_k (by decide), zu_k (by decide), zu_s, nI_I]; rfl
      · rw [zu_k (by decide), zu_k (by decide), zu_s, nI_I, e3]
        show _ = iI (if g = 0 then 1 else 0)
        split <;> rfl
      · rw [zu_k (by decide), zu_s, nI_I, e4]
        show _ = iI (if g = 1 then 1 else 0)
        split <;> rfl
      · rw [zu_s, nI_I, e5]
        show _ = iI (if g = 2 then 1 else 0)
        split <;> rfl
      · rw [zu_k (by omega), zu_k (by omega), zu_k (by omega), zu_k (by omega), zu_k (by omega), zu_k (by omega), h6 i h7 hi, nI_I]
        have : zfa a l lo g i = 0 := by
          unfold zfa
          rw [if_neg (by omega), if_neg (by omega), if_neg (by omega), if_neg (by omega), if_neg (by omega), if_neg (by omega)]
        rw [this]; rfl
    · rw [zu_k (by omega), zu_k (by omega), zu_k (by omega), zu_k (by omega), zu_k (by omega), zu_k (by omega)]
    · rw [zu_ne hx, zu_ne hx, zu_ne hx, zu_ne hx, zu_ne hx, zu_ne hx]
  refine wp_aload_n (q := 1) dX4_measure_0 0 rfl rfl ?_
  refine wp_getR (q := 4) dX4_measure_1 zf_RX4_27 rfl zsh_150 (zr_150_0 _) rfl ?_
  refine wp_getR (q := 7) dX4_measure_4 zf_RX4_41 rfl (by first | assumption | rfl) (by first | assumption | rfl) rfl ?_
  refine wp_iload_n (q := 8) dX4_measure_7 2 rfl rfl ?_
  refine wp_iald (q := 9) _ dX4_measure_8 (by first | assumption | rfl) rfl (by omega) (by decide) rfl ?_
  rw [ha]
  refine wp_istore (q := 11) (loc' := [(5, _), (0, _), (1, _), (2, _), (3, _), (4, _)]) dX4_measure_9 (by decide) rfl rfl ?_
  refine wp_aload_n (q := 12) dX4_measure_11 2 rfl rfl ?_
  refine wp_getR (q := 15) dX4_measure_12 zf_RX4_46 rfl (by first | assumption | rfl) (by first | assumption | rfl) rfl ?_
  refine wp_iload_n (q := 16) dX4_measure_15 3 rfl rfl ?_
  refine wp_iald (q := 17) _ dX4_measure_16 (by first | assumption | rfl) rfl (by omega) (by decide) rfl ?_
  rw [hg]
  refine wp_istore (q := 19) (loc' := [(6, _), (5, _), (0, _), (1, _), (2, _), (3, _), (4, _)]) dX4_measure_17 (by decide) rfl rfl ?_
  refine wp_aload_n (q := 20) dX4_measure_19 2 rfl rfl ?_
  refine wp_getR (q := 23) dX4_measure_20 zf_RX4_9 rfl zsh_150 (zr_150_1 _) rfl ?_
  refine wp_iconst (q := 24) dX4_measure_23 zq_iconst_0 rfl ?_
  refine wp_iload (q := 26) dX4_measure_24 1 rfl rfl ?_
  refine wp_iast (q := 27) _ dX4_measure_26 zsh_151 rfl (by omega) (by decide) rfl ?_
  refine wp_aload_n (q := 28) dX4_measure_27 2 rfl rfl ?_
  refine wp_getR (q := 31) dX4_measure_28 zf_RX4_9 rfl zsh_150 (zr_150_1 _) rfl ?_
  refine wp_iconst (q := 32) dX4_measure_31 zq_iconst_1 rfl ?_
  refine wp_aload_n (q := 33) dX4_measure_32 3 rfl rfl ?_
  refine wp_getR (q := 36) dX4_measure_33 zf_RX4_49 rfl (by first | assumption | rfl) (by first | assumption | rfl) rfl ?_
  refine wp_iload_n (q := 37) dX4_measure_36 4 rfl rfl ?_
  refine wp_iald (q := 38) _ dX4_measure_37 (by first | assumption | rfl) rfl (by omega) (by decide) rfl ?_
  rw [zu_ne hot.2, hl]
  refine wp_iast (q := 39) _ dX4_measure_38 zsh_151 rfl (by omega) (by decide) rfl ?_
  refine wp_aload_n (q := 40) dX4_measure_39 2 rfl rfl ?_
  refine wp_getR (q := 43) dX4_measure_40 zf_RX4_9 rfl zsh_150 (zr_150_1 _) rfl ?_
  refine wp_iconst (q := 44) dX4_measure_43 zq_iconst_2 rfl ?_
  refine wp_aload_n (q := 45) dX4_measure_44 3 rfl rfl ?_
  refine wp_getR (q := 48) dX4_measure_45 zf_RX4_49 rfl (by first | assumption | rfl) (by first | assumption | rfl) rfl ?_
  refine wp_iload_n (q := 49) dX4_measure_48 5 rfl rfl ?_
  refine wp_iald (q := 50) _ dX4_measure_49 (by first | assumption | rfl) rfl (by omega) (by decide) rfl ?_
  rw [zu_ne hot.2, zu_ne hot.2, hlo]
  refine wp_iast (q := 51) _ dX4_measure_50 zsh_151 rfl (by omega) (by decide) rfl ?_
  refine wp_aload_n (q := 52) dX4_measure_51 2 rfl rfl ?_
  refine wp_getR (q := 55) dX4_measure_52 zf_RX4_9 rfl zsh_150 (zr_150_1 _) rfl ?_
  refine wp_iconst (q := 56) dX4_measure_55 zq_iconst_3 rfl ?_
  refine wp_iload (q := 58) dX4_measure_56 0 rfl rfl ?_
  have hg3 : g = 0 ∨ g = 1 ∨ g = 2 := by omega
  rcases hg3 with rfl | rfl | rfl
  · skip
    refine wp_if_neN (tgt := 65) (q := 61) dX4_measure_58 (by decide) rfl (by omega) (fun hn => absurd hn (by omega)) (fun _ => ?_)
    refine wp_iconst (q := 62) dX4_measure_61 zq_iconst_1 rfl ?_
    refine wp_goto (tgt := 66) dX4_measure_62 (by decide) ?_
    refine wp_iast (q := 67) _ dX4_measure_66 (by first | assumption | rfl) rfl (by omega) (by decide) rfl ?_
    refine wp_aload_n (q := 68) dX4_measure_67 2 rfl rfl ?_
    refine wp_getR (q := 71) dX4_measure_68 zf_RX4_9 rfl zsh_150 (zr_150_1 _) rfl ?_
    refine wp_iconst (q := 72) dX4_measure_71 zq_iconst_4 rfl ?_
    refine wp_iload (q := 74) dX4_measure_72 0 rfl rfl ?_
    refine wp_iconst (q := 75) dX4_measure_74 zq_iconst_1 rfl ?_
    refine wp_icmp_neN (tgt := 82) (q := 78) dX4_measure_75 (by decide) rfl (by omega) (by omega) (fun _ => ?_) (fun hn => absurd hn (by omega))
    refine wp_iconst (q := 83) dX4_measure_82 zq_iconst_0 rfl ?_
    refine wp_iast (q := 84) _ dX4_measure_83 zsh_151 rfl (by omega) (by decide) rfl ?_
    refine wp_aload_n (q := 85) dX4_measure_84 2 rfl rfl ?_
    refine wp_getR (q := 88) dX4_measure_85 zf_RX4_9 rfl zsh_150 (zr_150_1 _) rfl ?_
    refine wp_iconst (q := 89) dX4_measure_88 zq_iconst_5 rfl ?_
    refine wp_iload (q := 91) dX4_measure_89 0 rfl rfl ?_
    refine wp_iconst (q := 92) dX4_measure_91 zq_iconst_2 rfl ?_
    refine wp_icmp_neN (tgt := 99) (q := 95) dX4_measure_92 (by decide) rfl (by omega) (by omega) (fun _ => ?_) (fun hn => absurd hn (by omega))
    refine wp_iconst (q := 100) dX4_measure_99 zq_iconst_0 rfl ?_
    refine wp_iast (q := 101) _ dX4_measure_100 zsh_151 rfl (by omega) (by decide) rfl ?_
    refine WP.sub (loc' := [(5, _), (6, _), (0, _), (1, _), (2, _), (3, _), (4, _)]) [1, 0, 2, 3, 4, 5, 6] rfl ?_
    exact facts 1 0 0 rfl rfl rfl
  · skip
    refine wp_if_neN (tgt := 65) (q := 61) dX4_measure_58 (by decide) rfl (by omega) (fun _ => ?_) (fun hn => absurd hn (by omega))
    refine wp_iconst (q := 66) dX4_measure_65 zq_iconst_0 rfl ?_
    refine wp_iast (q := 67) _ dX4_measure_66 (by first | assumption | rfl) rfl (by omega) (by decide) rfl ?_
    refine wp_aload_n (q := 68) dX4_measure_67 2 rfl rfl ?_
    refine wp_getR (q := 71) dX4_measure_68 zf_RX4_9 rfl zsh_150 (zr_150_1 _) rfl ?_
    refine wp_iconst (q := 72) dX4_measure_71 zq_iconst_4 rfl ?_
    refine wp_iload (q := 74) dX4_measure_72 0 rfl rfl ?_
    refine wp_iconst (q := 75) dX4_measure_74 zq_iconst_1 rfl ?_
    refine wp_icmp_neN (tgt := 82) (q := 78) dX4_measure_75 (by decide) rfl (by omega) (by omega) (fun hn => absurd hn (by omega)) (fun _ => ?_)
    refine wp_iconst (q := 79) dX4_measure_78 zq_iconst_1 rfl ?_
    refine wp_goto (tgt := 83) dX4_measure_79 (by decide) ?_
    refine wp_iast (q := 84) _ dX4_measure_83 zsh_151 rfl (by omega) (by decide) rfl ?_
    refine wp_aload_n (q := 85) dX4_measure_84 2 rfl rfl ?_
    refine wp_getR (q := 88) dX4_measure_85 zf_RX4_9 rfl zsh_150 (zr_150_1 _) rfl ?_
    refine wp_iconst (q := 89) dX4_measure_88 zq_iconst_5 rfl ?_
    refine wp_iload (q := 91) dX4_measure_89 0 rfl rfl ?_
    refine wp_iconst (q := 92) dX4_measure_91 zq_iconst_2 rfl ?_
    refine wp_icmp_neN (tgt := 99) (q := 95) dX4_measure_92 (by decide) rfl (by omega) (by omega) (fun _ => ?_) (fun hn => absurd hn (by omega))
    refine wp_iconst (q := 100) dX4_measure_99 zq_iconst_0 rfl ?_
    refine wp_iast (q := 101) _ dX4_measure_100 zsh_151 rfl (by omega) (by decide) rfl ?_
    refine WP.sub (loc' := [(5, _), (6, _), (0, _), (1, _), (2, _), (3, _), (4, _)]) [1, 0, 2, 3, 4, 5, 6] rfl ?_
    exact facts 0 1 0 rfl rfl rfl
  · skip
    refine wp_if_neN (tgt := 65) (q := 61) dX4_measure_58 (by decide) rfl (by omega) (fun _ => ?_) (fun hn => absurd hn (by omega))
    refine wp_iconst (q := 66) dX4_measure_65 zq_iconst_0 rfl ?_
    refine wp_iast (q := 67) _ dX4_measure_66 (by first | assumption | rfl) rfl (by omega) (by decide) rfl ?_
    refine wp_aload_n (q := 68) dX4_measure_67 2 rfl rfl ?_
    refine wp_getR (q := 71) dX4_measure_68 zf_RX4_9 rfl zsh_150 (zr_150_1 _) rfl ?_
    refine wp_iconst (q := 72) dX4_measure_71 zq_iconst_4 rfl ?_
    refine wp_iload (q := 74) dX4_measure_72 0 rfl rfl ?_
    refine wp_iconst (q := 75) dX4_measure_74 zq_iconst_1 rfl ?_
    refine wp_icmp_neN (tgt := 82) (q := 78) dX4_measure_75 (by decide) rfl (by omega) (by omega) (fun _ => ?_) (fun hn => absurd hn (by omega))
    refine wp_iconst (q := 83) dX4_measure_82 zq_iconst_0 rfl ?_
    refine wp_iast (q := 84) _ dX4_measure_83 zsh_151 rfl (by omega) (by decide) rfl ?_
    refine wp_aload_n (q := 85) dX4_measure_84 2 rfl rfl ?_
    refine wp_getR (q := 88) dX4_measure_85 zf_RX4_9 rfl zsh_150 (zr_150_1 _) rfl ?_
    refine wp_iconst (q := 89) dX4_measure_88 zq_iconst_5 rfl ?_
    refine wp_iload (q := 91) dX4_measure_89 0 rfl rfl ?_
    refine wp_iconst (q := 92) dX4_measure_91 zq_iconst_2 rfl ?_
    refine wp_icmp_neN (tgt := 99) (q := 95) dX4_measure_92 (by decide) rfl (by omega) (by omega) (fun hn => absurd hn (by omega)) (fun _ => ?_)
    refine wp_iconst (q := 96) dX4_measure_95 zq_iconst_1 rfl ?_
    refine wp_goto (tgt := 100) dX4_measure_96 (by decide) ?_
    refine wp_iast (q := 101) _ dX4_measure_100 zsh_151 rfl (by omega) (by decide) rfl ?_
    refine WP.sub (loc' := [(5, _), (6, _), (0, _), (1, _), (2, _), (3, _), (4, _)]) [1, 0, 2, 3, 4, 5, 6] rfl ?_
    exact facts 0 0 1 rfl rfl rfl

