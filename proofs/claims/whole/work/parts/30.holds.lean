def zhold (v : Nat → Nat) (s h w : Nat) : Nat → Nat := vup (vup v (5 + 6 * s + 2 * h) (w / 10)) (6 + 6 * s + 2 * h) (w % 10)
theorem zhold_ne {v : Nat → Nat} {s h w j : Nat} (h1 : j ≠ 5 + 6 * s + 2 * h) (h2 : j ≠ 6 + 6 * s + 2 * h) : zhold v s h w j = v j := by
  unfold zhold
  rw [vup_ne h2, vup_ne h1]
theorem zhold_g {v : Nat → Nat} {s h w : Nat} : gr (zhold v s h w) s h = w / 10 := by
  show zhold v s h w (5 + 6 * s + 2 * h) = _
  unfold zhold
  rw [vup_ne (by omega), vup_eq]
theorem zhold_l {v : Nat → Nat} {s h w : Nat} : lw (zhold v s h w) s h = w % 10 := by
  show zhold v s h w (6 + 6 * s + 2 * h) = _
  unfold zhold
  rw [vup_eq]
theorem zhold_wh {v : Nat → Nat} {s h w s' : Nat} (hh : h < 2) : wh (zhold v s h w) s' = wh v s' := zhold_ne (by omega) (by omega)
theorem zhold_ht {v : Nat → Nat} {s h w s' : Nat} (hh : h < 2) : ht (zhold v s h w) s' = ht v s' := zhold_ne (by omega) (by omega)
theorem zV_hold {n s h w : Nat} {v : Nat → Nat} (hv : zV n v) (hh : h < 2) (hw : w < 30) : zV n (zhold v s h w) := by
  obtain ⟨h8, h1, h2, h3, h4, h5, h6, h7⟩ := hv
  refine ⟨h8, fun s' hs => by rw [zhold_wh hh]; exact h1 s' hs, fun a b ha hb e => by rw [zhold_wh hh, zhold_wh hh] at e; exact h2 a b ha hb e, fun s' hs => by rw [zhold_ht hh]; exact h3 s' hs, fun s' h' hs hh' => ?_, by rw [zhold_ne (by omega) (by omega)]; exact h5, by rw [zhold_ne (by omega) (by omega)]; exact h6, by rw [zhold_ne (by omega) (by omega)]; exact h7⟩
  by_cases e : s' = s ∧ h' = h
  · obtain ⟨e1, e2⟩ := e
    subst e1 e2
    rw [zhold_g, zhold_l]
    omega
  · rw [show gr (zhold v s h w) s' h' = gr v s' h' from zhold_ne (by omega) (by omega), show lw (zhold v s h w) s' h' = lw v s' h' from zhold_ne (by omega) (by omega)]
    exact h4 s' h' hs hh'
theorem zSR_hold {M M' : zMI} {o n s h w : Nat} {v : Nat → Nat} (hv : zV n v) (hr : zSR M o n v) (hs : s < n) (hh : h < 2) (h3 : ∀ p, M' (o + 3) p = if p = 2 * wh v s + h then nI (w / 10) else M (o + 3) p) (h4 : ∀ p, M' (o + 4) p = if p = 2 * wh v s + h then nI (w % 10) else M (o + 4) p) (ho : ∀ a, o ≤ a → a ≤ o + 2 → M' a = M a) : zSR M' o n (zhold v s h w) := by
  obtain ⟨r0, r1, r2, r3, r4⟩ := hr
  have e0 : M' o = M o := ho o (by omega) (by omega)
  refine ⟨by rw [e0, r0], by rw [e0, r1, zhold_ne (by omega) (by omega)], by rw [e0, r2, zhold_ne (by omega) (by omega)], by rw [e0, r3, zhold_ne (by omega) (by omega)], fun s' hs' => ?_⟩
  rw [zhold_wh hh, zhold_ht hh, ho (o + 1) (by omega) (by omega), ho (o + 2) (by omega) (by omega)]
  obtain ⟨a1, a2, a3⟩ := r4 s' hs'
  refine ⟨a1, a2, fun h' hh' => ?_⟩
  rw [h3, h4]
  by_cases e : s' = s ∧ h' = h
  · obtain ⟨e1, e2⟩ := e
    subst e1 e2
    rw [if_pos rfl, if_pos rfl, zhold_g, zhold_l]
    exact ⟨rfl, rfl⟩
  · have hne : ¬ 2 * wh v s' + h' = 2 * wh v s + h := by
      intro c
      have c1 : wh v s' = wh v s := by omega
      have c2 := hv.2.2.1 s' s hs' hs c1
      exact e ⟨c2, by omega⟩
    rw [if_neg hne, if_neg hne, show gr (zhold v s h w) s' h' = gr v s' h' from zhold_ne (by omega) (by omega), show lw (zhold v s h w) s' h' = lw v s' h' from zhold_ne (by omega) (by omega)]
    exact a3 h' hh'
theorem zhold_self {n s h : Nat} {v : Nat → Nat} {w : Nat} (hv : zV n v) (hs : s < n) (hh : h < 2) : zhold (zhold v s h w) s h (10 * gr v s h + lw v s h) = v := by
  have hg := hv.2.2.2.2.1 s h hs hh
  have e1 : (10 * gr v s h + lw v s h) / 10 = gr v s h := by omega
  have e2 : (10 * gr v s h + lw v s h) % 10 = lw v s h := by omega
  funext j
  by_cases c2 : j = 6 + 6 * s + 2 * h
  · subst c2
    show lw (zhold _ s h _) s h = lw v s h
    rw [zhold_l, e2]
  · by_cases c1 : j = 5 + 6 * s + 2 * h
    · subst c1
      show gr (zhold _ s h _) s h = gr v s h
      rw [zhold_g, e1]
    · rw [zhold_ne c1 c2, zhold_ne c1 c2]
theorem zhold_hold {s h w w' : Nat} {v : Nat → Nat} : zhold (zhold v s h w) s h w' = zhold v s h w' := by
  funext j
  by_cases c2 : j = 6 + 6 * s + 2 * h
  · subst c2
    show lw (zhold _ s h _) s h = lw (zhold _ s h _) s h
    rw [zhold_l, zhold_l]
  · by_cases c1 : j = 5 + 6 * s + 2 * h
    · subst c1
      show gr (zhold _ s h _) s h = gr (zhold _ s h _) s h
      rw [zhold_g, zhold_g]
    · rw [zhold_ne c1 c2, zhold_ne c1 c2, zhold_ne c1 c2]
-- by which odds a hand has its cracker; the first best of so many ways
def zown (tb : zTb) (v : Nat → Nat) (n s h : Nat) : Nat := if h = 0 then zoR tb v s ((s + 1) % n) else zoL tb v ((s + n - 1) % n) s
theorem zown_le (tb : zTb) (v : Nat → Nat) (n s h : Nat) : zown tb v n s h ≤ 10000 := by
  unfold zown
  split
  · have := zo_sum tb v s ((s + 1) % n); omega
  · have := zo_sum tb v ((s + n - 1) % n) s; omega
def zbi (f : Nat → Nat) : Nat → Nat
  | 0 => 0
  | i + 1 => if f (zbi f i) < f i then i else zbi f i
theorem zbi_lt (f : Nat → Nat) : ∀ i, 0 < i → zbi f i < i := by
  intro i
  induction i with
  | zero => intro h; omega
  | succ i ih =>
    intro _
    rw [zbi]
    split
    · omega
    · by_cases h : i = 0
      · subst h; exact Nat.one_pos
      · have := ih (by omega); omega
theorem zbi_max (f : Nat → Nat) : ∀ i j, j < i → f j ≤ f (zbi f i) := by
  intro i
  induction i with
  | zero => intro j h; omega
  | succ i ih =>
    intro j h
    rw [zbi]
    by_cases e : j = i
    · subst e
      split
      · exact Nat.le_refl _
      · omega
    · have := ih j (by omega)
      split <;> omega
def zfw (tb : zTb) (v : Nat → Nat) (n s h : Nat) : Nat → Nat := fun w => zown tb (zhold v s h w) n s h
theorem zhold_cur {n s h : Nat} {v : Nat → Nat} (hv : zV n v) (hs : s < n) (hh : h < 2) : zhold v s h (10 * gr v s h + lw v s h) = v := by
  have := zhold_self (w := 0) hv hs hh
  rw [zhold_hold] at this
  exact this
def zfI (t o n s h : Nat) (tb : zTb) (v : Nat → Nat) (M0 M : zMI) (before i : Nat) : Prop := (∃ u, zSR M o n u ∧ zV n u ∧ ∀ w, zhold u s h w = zhold v s h w) ∧ zPM M ∧ (M 156 6 = if i = 0 then (-1) else nI (zfw tb v n s h (zbi (zfw tb v n s h) i))) ∧ (0 < i → M 156 5 = nI (zbi (zfw tb v n s h) i)) ∧ (before < i → M 156 7 = nI (zfw tb v n s h before)) ∧ (∀ k, k ≠ 5 → k ≠ 6 → k ≠ 7 → M 156 k = M0 156 k) ∧ ∀ x, ¬ zPx t x → x ≠ 156 → (x < o ∨ o + 4 < x) → M x = M0 x
set_option maxHeartbeats 4000000 in
set_option maxRecDepth 100000 in
theorem sp_findBest {d t o n s h : Nat} {M : zMI} {L : zML} {tb : zTb} {v : Nat → Nat} (hT : zTab t) (ho : zSt o) (hTM : zTM M t n tb) (hv : zV n v) (hr : zSR M o n v) (h6 : zPM M) (hs : s < n) (hh : h < 2) : Sy yX3_findBest YX3_findBest (d + 5) [.ref 156, .ref o, .int (nI s), .int (nI h)] M L (zRf t) (fun v0 M' L' R' => v0 = none ∧ L = L' ∧ R' = zRf t ∧ zSR M' o n v ∧ zPM M' ∧ M' 156 5 = nI (zbi (zfw tb v n s h) 30) ∧ M' 156 6 = nI (zfw tb v n s h (zbi (zfw tb v n s h) 30)) ∧ M' 156 7 = nI (zown tb v n s h) ∧ (∀ k, k ≠ 5 → k ≠ 6 → k ≠ 7 → M' 156 k = M 156 k) ∧ ∀ x, ¬ zPx t x → x ≠ 156 → (x < o ∨ o + 4 < x) → M' x = M x) := by
  refine Sp.of (by decide +kernel) rfl (fun h => by first | exact h | cases h) (Nat.le_of_ble_eq_true rfl) ?_
  intro w G
  have hss := zSt_s ho
  obtain ⟨ha1, ha2, ha3, ha4⟩ := zSt_a ho
  obtain ⟨hr1, hr2, hr3, hr4⟩ := zSt_r (t := t) ho
  have h8 := hv.1
  have ht2 : t = 10 ∨ t = 24 := hT
  have hot : 43 ≤ o ∧ (o + 4 < 150 ∨ 157 ≤ o) := by rcases ho with rfl | rfl | rfl | ⟨i, hi, rfl⟩ <;> omega
  have hws := hv.2.1 s hs
  have hg := hv.2.2.2.2.1 s h hs hh
  obtain ⟨-, -, hma⟩ := hr.2.2.2.2 s hs
  have hma := hma h hh
  have hml : (s + n - 1) % n < n := Nat.mod_lt _ (by omega)
  have nx : ∀ x, (t ≤ x ∧ x ≤ t + 12 ∧ x ≠ t + 10) ∨ (43 ≤ x ∧ x ≠ 151 ∧ x ≠ 152) → ¬ zPx t x := by
    intro x hx c
    rcases c with c | c | c | c <;> omega
  obtain ⟨bf, hbf⟩ : ∃ bf, 10 * gr v s h + lw v s h = bf := ⟨_, rfl⟩
  have bf30 : bf < 30 := by omega
  obtain ⟨rs, hrs⟩ : ∃ rs, (if h = 0 then s else (s + n - 1) % n) = rs := ⟨_, rfl⟩
  have hrsl : rs < n := by rw [← hrs]; split <;> assumption
  have hlsl : (rs + 1) % n < n := Nat.mod_lt _ (by omega)
  have loop : ∀ k i (M2 : zMI), i + k = 30 → zfI t o n s h tb v M M2 bf i → WP w YX3_findBest (d + 5, SS, 0, 0) G (some (zXp (fun v0 M' L' R' => v0 = none ∧ L = L' ∧ R' = zRf t ∧ zSR M' o n v ∧ zPM M' ∧ M' 156 5 = nI (zbi (zfw tb v n s h) 30) ∧ M' 156 6 = nI (zfw tb v n s h (zbi (zfw tb v n s h) 30)) ∧ M' 156 7 = nI (zown tb v n s h) ∧ (∀ k, k ≠ 5 → k ≠ 6 → k ≠ 7 → M' 156 k = M 156 k) ∧ ∀ x, ¬ zPx t x → x ≠ 156 → (x < o ∨ o + 4 < x) → M' x = M x))) 47 [(8, .int (nI i)), (7, .int (nI ((rs + 1) % n))), (6, .int (nI rs)), (5, .int (nI bf)), (4, .int (nI (2 * wh v s + h))), (0, .ref 156), (1, .ref o), (2, .int (nI s)), (3, .int (nI h))] [] SS M2 L (zRf t) := by
    intro k
    induction k with
    | zero =>
      intro i M2 hi hI
      obtain ⟨⟨u, u1, u2, u3⟩, hp, i6, i5, i7, ik, hf⟩ := hI
      have ei : i = 30 := by omega
      subst ei
      rw [if_neg (by decide)] at i6
      refine wp_iload (q := 49) dX3_findBest_47 0 rfl rfl ?_
      refine wp_bipush (q := 51) dX3_findBest_49 zq_bipush_30 rfl ?_
      refine wp_icmp_geN (tgt := 143) (q := 54) dX3_findBest_51 (by decide) rfl (by omega) (by omega) (fun _ => ?_) (fun hn => absurd hn (by omega))
      refine wp_aload_n (q := 144) dX3_findBest_143 6 rfl rfl ?_
      refine wp_getR (q := 147) dX3_findBest_144 zf_RX3_56 rfl (by first | assumption | rfl) (by first | assumption | rfl) rfl ?_
      refine wp_iload (q := 149) dX3_findBest_147 4 rfl rfl ?_
      refine wp_iload (q := 151) dX3_findBest_149 3 rfl rfl ?_
      refine wp_bipush (q := 153) dX3_findBest_151 zq_bipush_10 rfl ?_
      refine wp_idivN (q := 154) dX3_findBest_153 (by omega) (by omega) (by omega) rfl ?_
      refine wp_iast (q := 155) _ dX3_findBest_154 (by first | assumption | rfl) rfl (by omega) (by decide) rfl ?_
      refine wp_aload_n (q := 156) dX3_findBest_155 6 rfl rfl ?_
      refine wp_getR (q := 159) dX3_findBest_156 zf_RX3_60 rfl (by first | assumption | rfl) (by first | assumption | rfl) rfl ?_
      refine wp_iload (q := 161) dX3_findBest_159 4 rfl rfl ?_
      refine wp_iload (q := 163) dX3_findBest_161 3 rfl rfl ?_
      refine wp_bipush (q := 165) dX3_findBest_163 zq_bipush_10 rfl ?_
      refine wp_iremN (q := 166) dX3_findBest_165 (by omega) (by omega) (by omega) rfl ?_
      refine wp_iast (q := 167) _ dX3_findBest_166 (by first | assumption | rfl) rfl (by omega) (by decide) rfl ?_
      have ew : wh u s = wh v s := by
        have e1 : wh (zhold u s h 0) s = wh (zhold v s h 0) s := by rw [u3]
        rw [zhold_wh hh, zhold_wh hh] at e1
        exact e1
      refine wp_return dX3_findBest_167 rfl ⟨rfl, ⟨rfl, rfl, rfl, ?_, fun k h1 h2 => ?_, ?_, ?_, ?_, fun k k1 k2 k3 => ?_, fun x x1 x2 x3 => ?_⟩⟩ rfl rfl
      · have := zSR_hold (M' := zu (zu M2 (o + 3) (2 * wh v s + h) (nI (bf / 10))) (o + 4) (2 * wh v s + h) (nI (bf % 10))) (w := bf) u2 u1 hs hh (fun p => by rw [zu_ne (by omega), zu_o, ew]) (fun p => by rw [zu_o, ew, zu_ne (by omega)]) (fun a a1 a2 => by rw [zu_ne (by omega), zu_ne (by omega)])
        rw [u3, ← hbf, zhold_cur hv hs hh] at this
        rw [← hbf]
        exact this
      · rw [zu_ne (by omega), zu_ne (by omega)]; exact hp k h1 h2
      · rw [zu_ne (by omega), zu_ne (by omega)]; exact i5 (by decide)
      · rw [zu_ne (by omega), zu_ne (by omega)]; exact i6
      · rw [zu_ne (by omega), zu_ne (by omega), i7 bf30]
        unfold zfw
        rw [← hbf, zhold_cur hv hs hh]
      · rw [zu_ne (by omega), zu_ne (by omega)]; exact ik k k1 k2 k3
      · rw [zu_ne (by omega), zu_ne (by omega)]; exact hf x x1 x2 x3
    | succ k ih =>
      intro i M2 hi hI
      obtain ⟨⟨u, u1, u2, u3⟩, hp, i6, i5, i7, ik, hf⟩ := hI
      have ew : wh u s = wh v s := by
        have e1 : wh (zhold u s h 0) s = wh (zhold v s h 0) s := by rw [u3]
        rw [zhold_wh hh, zhold_wh hh] at e1
        exact e1
      have i30 : i < 30 := by omega
      have hSR := zSR_hold (M' := zu (zu M2 (o + 3) (2 * wh v s + h) (nI (i / 10))) (o + 4) (2 * wh v s + h) (nI (i % 10))) (w := i) u2 u1 hs hh (fun p => by rw [zu_ne (by omega), zu_o, ew]) (fun p => by rw [zu_o, ew, zu_ne (by omega)]) (fun a a1 a2 => by rw [zu_ne (by omega), zu_ne (by omega)])
      rw [u3] at hSR
      have hVi := zV_hold (s := s) hv hh i30
      have hTM2 := zTM_fr (M' := zu (zu M2 (o + 3) (2 * wh v s + h) (nI (i / 10))) (o + 4) (2 * wh v s + h) (nI (i % 10))) hTM (fun x a1 a2 a3 => by rw [zu_ne (by omega), zu_ne (by omega)]; exact hf x (nx x (Or.inl ⟨a1, a2, a3⟩)) (by omega) (by omega))
      have hp2 : zPM (zu (zu M2 (o + 3) (2 * wh v s + h) (nI (i / 10))) (o + 4) (2 * wh v s + h) (nI (i % 10))) := fun k h1 h2 => by rw [zu_ne (by omega), zu_ne (by omega)]; exact hp k h1 h2
      have hfi : zfw tb v n s h i ≤ 10000 := zown_le _ _ _ _ _
      have hfb : zfw tb v n s h (zbi (zfw tb v n s h) i) ≤ 10000 := zown_le _ _ _ _ _
      refine wp_iload (q := 49) dX3_findBest_47 0 rfl rfl ?_
      refine wp_bipush (q := 51) dX3_findBest_49 zq_bipush_30 rfl ?_
      refine wp_icmp_geN (tgt := 143) (q := 54) dX3_findBest_51 (by decide) rfl (by omega) (by omega) (fun hn => absurd hn (by omega)) (fun _ => ?_)
      refine wp_aload_n (q := 55) dX3_findBest_54 6 rfl rfl ?_
      refine wp_getR (q := 58) dX3_findBest_55 zf_RX3_56 rfl (by first | assumption | rfl) (by first | assumption | rfl) rfl ?_
      refine wp_iload (q := 60) dX3_findBest_58 4 rfl rfl ?_
      refine wp_iload (q := 62) dX3_findBest_60 0 rfl rfl ?_
      refine wp_bipush (q := 64) dX3_findBest_62 zq_bipush_10 rfl ?_
      refine wp_idivN (q := 65) dX3_findBest_64 (by omega) (by omega) (by omega) rfl ?_
      refine wp_iast (q := 66) _ dX3_findBest_65 (by first | assumption | rfl) rfl (by omega) (by decide) rfl ?_
      refine wp_aload_n (q := 67) dX3_findBest_66 6 rfl rfl ?_
      refine wp_getR (q := 70) dX3_findBest_67 zf_RX3_60 rfl (by first | assumption | rfl) (by first | assumption | rfl) rfl ?_
      refine wp_iload (q := 72) dX3_findBest_70 4 rfl rfl ?_
      refine wp_iload (q := 74) dX3_findBest_72 0 rfl rfl ?_
      refine wp_bipush (q := 76) dX3_findBest_74 zq_bipush_10 rfl ?_
      refine wp_iremN (q := 77) dX3_findBest_76 (by omega) (by omega) (by omega) rfl ?_
      refine wp_iast (q := 78) _ dX3_findBest_77 (by first | assumption | rfl) rfl (by omega) (by decide) rfl ?_
      refine wp_aload_n (q := 79) dX3_findBest_78 5 rfl rfl ?_
      refine wp_getR (q := 82) dX3_findBest_79 zf_RX3_38 rfl zsh_156 (zr_156_0 _) rfl ?_
      refine wp_aload_n (q := 83) dX3_findBest_82 6 rfl rfl ?_
      refine wp_iload (q := 85) dX3_findBest_83 2 rfl rfl ?_
      refine wp_iload (q := 87) dX3_findBest_85 1 rfl rfl ?_
      refine wp_cvy (q := 90) (sp_work (d := d) hT ho hTM2 hVi hSR hrsl hlsl hp2) zm_X4_work zl_RX3_63 dX3_findBest_87 rfl (by omega) (Nat.le_of_ble_eq_true rfl) zsh_150 rfl rfl ?_
      rintro _ M3 _ _ ⟨rfl, rfl, rfl, -, -, -, -, w4, w5, -, hp3, hf3⟩
      have wt : M3 152 (4 + h) = nI (zfw tb v n s h i) := by
        unfold zfw zown
        by_cases e : h = 0
        · subst e
          rw [if_pos rfl] at hrs ⊢
          subst hrs
          exact w4
        · have e1 : h = 1 := by omega
          subst e1
          rw [if_neg (by decide)] at hrs ⊢
          subst hrs
          rw [zmod2 hs] at w5
          exact w5
      have hf4 : ∀ x, ¬ zPx t x → x ≠ o + 3 → x ≠ o + 4 → M3 x = M2 x := fun x x1 x2 x3 => by rw [hf3 x x1, zu_ne x3, zu_ne x2]
      have e156 : M3 156 = M2 156 := hf4 156 (nx 156 (by omega)) (by omega) (by omega)
      have hI3 : ∀ M4 : zMI, (∀ x, x ≠ 156 → M4 x = M3 x) → M4 156 6 = nI (zfw tb v n s h (zbi (zfw tb v n s h) (i + 1))) → M4 156 5 = nI (zbi (zfw tb v n s h) (i + 1)) → (bf < i + 1 → M4 156 7 = nI (zfw tb v n s h bf)) → (∀ k, k ≠ 5 → k ≠ 6 → k ≠ 7 → M4 156 k = M3 156 k) → zfI t o n s h tb v M M4 bf (i + 1) := by
        intro M4 m1 m6 m5 m7 mk
        refine ⟨⟨zhold v s h i, zSR_fr hSR (fun x a1 a2 => by rw [m1 x (by omega), hf3 x (nx x (by omega))]), hVi, fun w => zhold_hold⟩, fun k h1 h2 => by rw [m1 151 (by decide)]; exact hp3 k h1 h2, by rw [if_neg (by omega)]; exact m6, fun _ => m5, m7, fun k k1 k2 k3 => by rw [mk k k1 k2 k3, e156]; exact ik k k1 k2 k3, fun x x1 x2 x3 => by rw [m1 x x2, hf4 x x1 (by omega) (by omega)]; exact hf x x1 x2 x3⟩
      have j124 : ∀ M4 : zMI, (∀ x, x ≠ 156 → M4 x = M3 x) → M4 156 6 = nI (zfw tb v n s h (zbi (zfw tb v n s h) (i + 1))) → M4 156 5 = nI (zbi (zfw tb v n s h) (i + 1)) → (∀ k, k ≠ 5 → k ≠ 6 → M4 156 k = M3 156 k) → WP w YX3_findBest (d + 5, SS, 0, 0) G (some (zXp (fun v0 M' L' R' => v0 = none ∧ L = L' ∧ R' = zRf t ∧ zSR M' o n v ∧ zPM M' ∧ M' 156 5 = nI (zbi (zfw tb v n s h) 30) ∧ M' 156 6 = nI (zfw tb v n s h (zbi (zfw tb v n s h) 30)) ∧ M' 156 7 = nI (zown tb v n s h) ∧ (∀ k, k ≠ 5 → k ≠ 6 → k ≠ 7 → M' 156 k = M 156 k) ∧ ∀ x, ¬ zPx t x → x ≠ 156 → (x < o ∨ o + 4 < x) → M' x = M x))) 124 [(9, .int (nI (zfw tb v n s h i))), (8, .int (nI i)), (7, .int (nI ((rs + 1) % n))), (6, .int (nI rs)), (5, .int (nI bf)), (4, .int (nI (2 * wh v s + h))), (0, .ref 156), (1, .ref o), (2, .int (nI s)), (3, .int (nI h))] [] SS M4 L (zRf t) := by
        intro M4 m1 m6 m5 mk
        refine wp_iload (q := 126) dX3_findBest_124 1 rfl rfl ?_
        refine wp_iload (q := 128) dX3_findBest_126 4 rfl rfl ?_
        refine wp_icmp_neN (tgt := 137) (q := 131) dX3_findBest_128 (by decide) rfl (by omega) (by omega) (fun e => ?_) (fun e => ?_)
        · skip
          refine wp_iincN (q := 140) (loc' := [(8, _), (9, _), (7, _), (6, _), (5, _), (4, _), (0, _), (1, _), (2, _), (3, _)]) (n := 1) dX3_findBest_137 rfl 1 rfl (by decide) rfl rfl ?_
          refine wp_goto (tgt := 47) dX3_findBest_140 (by decide) ?_
          refine WP.sub (loc' := [(8, _), (7, _), (6, _), (5, _), (4, _), (0, _), (1, _), (2, _), (3, _)]) [0, 2, 3, 4, 5, 6, 7, 8, 9] rfl ?_
          exact ih (i + 1) M4 (by omega) (hI3 M4 m1 m6 m5 (fun hb => by rw [mk 7 (by decide) (by decide), e156]; exact i7 (by omega)) (fun k k1 k2 _ => mk k k1 k2))
        · skip
          refine wp_aload_n (q := 132) dX3_findBest_131 6 rfl rfl ?_
          refine wp_iload (q := 134) dX3_findBest_132 0 rfl rfl ?_
          refine wp_putI (q := 137) dX3_findBest_134 zf_RX3_35 rfl zsh_156 rfl ?_
          refine wp_iincN (q := 140) (loc' := [(8, _), (9, _), (7, _), (6, _), (5, _), (4, _), (0, _), (1, _), (2, _), (3, _)]) (n := 1) dX3_findBest_137 rfl 1 rfl (by decide) rfl rfl ?_
          refine wp_goto (tgt := 47) dX3_findBest_140 (by decide) ?_
          refine WP.sub (loc' := [(8, _), (7, _), (6, _), (5, _), (4, _), (0, _), (1, _), (2, _), (3, _)]) [0, 2, 3, 4, 5, 6, 7, 8, 9] rfl ?_
          exact ih (i + 1) _ (by omega) (hI3 _ (fun x hx => by rw [zu_ne hx]; exact m1 x hx) (by rw [zu_k (by decide)]; exact m6) (by rw [zu_k (by decide)]; exact m5) (fun _ => by rw [zu_s, e]) (fun k k1 k2 k3 => by rw [zu_k k3]; exact mk k k1 k2))
      refine wp_aload_n (q := 91) dX3_findBest_90 5 rfl rfl ?_
      refine wp_getR (q := 94) dX3_findBest_91 zf_RX3_38 rfl zsh_156 (zr_156_0 _) rfl ?_
      refine wp_getR (q := 97) dX3_findBest_94 zf_RX3_69 rfl zsh_150 (zr_150_2 _) rfl ?_
      refine wp_iconst (q := 98) dX3_findBest_97 zq_iconst_4 rfl ?_
      refine wp_iload_n (q := 99) dX3_findBest_98 8 rfl rfl ?_
      refine wp_iaddN (q := 100) dX3_findBest_99 rfl ?_
      refine wp_iald (q := 101) _ dX3_findBest_100 zsh_152 rfl (by omega) (by decide) rfl ?_
      rw [wt]
      refine wp_istore (q := 103) (loc' := [(9, _), (8, _), (7, _), (6, _), (5, _), (4, _), (0, _), (1, _), (2, _), (3, _)]) dX3_findBest_101 (by decide) rfl rfl ?_
      refine wp_iload (q := 105) dX3_findBest_103 0 rfl rfl ?_
      refine wp_aload_n (q := 106) dX3_findBest_105 6 rfl rfl ?_
      refine wp_getI (q := 109) dX3_findBest_106 zf_RX3_32 rfl zsh_156 rfl ?_
      rw [e156, i6]
      by_cases e0 : i = 0
      · subst e0
        rw [if_pos rfl]
        refine wp_icmp_le (tgt := 124) (q := 112) dX3_findBest_109 (by decide) rfl (fun hn => absurd hn (by exact fun c => absurd (Int32.le_trans (nI_pos' (by omega)) c) (by decide))) (fun _ => ?_)
        refine wp_aload_n (q := 113) dX3_findBest_112 6 rfl rfl ?_
        refine wp_iload (q := 115) dX3_findBest_113 0 rfl rfl ?_
        refine wp_putI (q := 118) dX3_findBest_115 zf_RX3_32 rfl zsh_156 rfl ?_
        refine wp_aload_n (q := 119) dX3_findBest_118 6 rfl rfl ?_
        refine wp_iload (q := 121) dX3_findBest_119 1 rfl rfl ?_
        refine wp_putI (q := 124) dX3_findBest_121 zf_RX3_29 rfl zsh_156 rfl ?_
        have eb : zbi (zfw tb v n s h) (0 + 1) = 0 := by { rw [zbi]; split <;> rfl }
        exact j124 _ (fun x hx => by rw [zu_ne hx, zu_ne hx]) (by rw [eb, zu_k (by decide), zu_s]) (by rw [eb, zu_s]) (fun k k1 k2 => by rw [zu_k k1, zu_k k2])
      · rw [if_neg e0]
        refine wp_icmp_leN (tgt := 124) (q := 112) dX3_findBest_109 (by decide) rfl (by omega) (by omega) (fun e => ?_) (fun e => ?_)
        · skip
          have eb : zbi (zfw tb v n s h) (i + 1) = zbi (zfw tb v n s h) i := by rw [zbi, if_neg (by omega)]
          exact j124 M3 (fun _ _ => rfl) (by rw [eb, e156, i6, if_neg e0]) (by rw [eb, e156]; exact i5 (by omega)) (fun _ _ _ => rfl)
        · skip
          refine wp_aload_n (q := 113) dX3_findBest_112 6 rfl rfl ?_
          refine wp_iload (q := 115) dX3_findBest_113 0 rfl rfl ?_
          refine wp_putI (q := 118) dX3_findBest_115 zf_RX3_32 rfl zsh_156 rfl ?_
          refine wp_aload_n (q := 119) dX3_findBest_118 6 rfl rfl ?_
          refine wp_iload (q := 121) dX3_findBest_119 1 rfl rfl ?_
          refine wp_putI (q := 124) dX3_findBest_121 zf_RX3_29 rfl zsh_156 rfl ?_
          have eb : zbi (zfw tb v n s h) (i + 1) = i := by rw [zbi, if_pos e]
          exact j124 _ (fun x hx => by rw [zu_ne hx, zu_ne hx]) (by rw [eb, zu_k (by decide), zu_s]) (by rw [eb, zu_s]) (fun k k1 k2 => by rw [zu_k k1, zu_k k2])
  have tail : WP w YX3_findBest (d + 5, SS, 0, 0) G (some (zXp (fun v0 M' L' R' => v0 = none ∧ L = L' ∧ R' = zRf t ∧ zSR M' o n v ∧ zPM M' ∧ M' 156 5 = nI (zbi (zfw tb v n s h) 30) ∧ M' 156 6 = nI (zfw tb v n s h (zbi (zfw tb v n s h) 30)) ∧ M' 156 7 = nI (zown tb v n s h) ∧ (∀ k, k ≠ 5 → k ≠ 6 → k ≠ 7 → M' 156 k = M 156 k) ∧ ∀ x, ¬ zPx t x → x ≠ 156 → (x < o ∨ o + 4 < x) → M' x = M x))) 29 [(5, .int (nI bf)), (4, .int (nI (2 * wh v s + h))), (0, .ref 156), (1, .ref o), (2, .int (nI s)), (3, .int (nI h))] [.int (nI rs)] SS M L (zRf t) := by
    refine wp_istore (q := 31) (loc' := [(6, _), (5, _), (4, _), (0, _), (1, _), (2, _), (3, _)]) dX3_findBest_29 (by decide) rfl rfl ?_
    refine wp_aload_n (q := 32) dX3_findBest_31 4 rfl rfl ?_
    refine wp_iload (q := 34) dX3_findBest_32 0 rfl rfl ?_
    refine wp_cvx (q := 37) (sp_behind (d := d + 4) ho hr.1 h8 hrsl) zm_X7_behind zl_RX3_53 dX3_findBest_34 rfl (by omega) (Nat.le_of_ble_eq_true rfl) (by first | assumption | rfl) rfl rfl ?_
    refine wp_istore (q := 39) (loc' := [(7, _), (6, _), (5, _), (4, _), (0, _), (1, _), (2, _), (3, _)]) dX3_findBest_37 (by decide) rfl rfl ?_
    refine wp_aload_n (q := 40) dX3_findBest_39 4 rfl rfl ?_
    refine wp_iconst (q := 41) dX3_findBest_40 zq_iconst_m1 rfl ?_
    refine wp_putI (q := 44) dX3_findBest_41 zf_RX3_32 rfl zsh_156 rfl ?_
    refine wp_iconst (q := 45) dX3_findBest_44 zq_iconst_0 rfl ?_
    refine wp_istore (q := 47) (loc' := [(8, _), (7, _), (6, _), (5, _), (4, _), (0, _), (1, _), (2, _), (3, _)]) dX3_findBest_45 (by decide) rfl rfl ?_
    refine WP.sub (loc' := [(8, _), (7, _), (6, _), (5, _), (4, _), (0, _), (1, _), (2, _), (3, _)]) [0, 1, 2, 3, 4, 5, 6, 7, 8] rfl ?_
    refine loop 30 0 _ (by omega) ⟨⟨v, zSR_fr hr (fun x a1 a2 => zu_ne (by omega)), hv, fun w => rfl⟩, fun k h1 h2 => by rw [zu_ne (by decide)]; exact h6 k h1 h2, by rw [zu_s, if_pos rfl], fun c => absurd c (by decide), fun c => absurd c (Nat.not_lt_zero _), fun k k1 k2 k3 => zu_k k2, fun x x1 x2 x3 => zu_ne x2⟩
  refine wp_aload_n (q := 1) dX3_findBest_0 1 rfl rfl ?_
  refine wp_iload_n (q := 2) dX3_findBest_1 2 rfl rfl ?_
  refine wp_iload_n (q := 3) dX3_findBest_2 3 rfl rfl ?_
  refine wp_cvx (q := 6) (sp_handOf (d := d + 4) ho hv hr hs hh) zm_X7_handOf zl_RX3_42 dX3_findBest_3 rfl (by omega) (Nat.le_of_ble_eq_true rfl) (by first | assumption | rfl) rfl rfl ?_
  refine wp_istore (q := 8) (loc' := [(4, _), (0, _), (1, _), (2, _), (3, _)]) dX3_findBest_6 (by decide) rfl rfl ?_
  refine wp_aload_n (q := 9) dX3_findBest_8 2 rfl rfl ?_
  refine wp_iload (q := 11) dX3_findBest_9 0 rfl rfl ?_
  refine wp_cvx (q := 14) (sp_holdOf (d := d + 4) (n := n) ho hma.1 hma.2 (by omega)) zm_X7_holdOf zl_RX3_46 dX3_findBest_11 rfl (by omega) (Nat.le_of_ble_eq_true rfl) (by first | assumption | rfl) rfl rfl ?_
  rw [hbf]
  refine wp_istore (q := 16) (loc' := [(5, _), (4, _), (0, _), (1, _), (2, _), (3, _)]) dX3_findBest_14 (by decide) rfl rfl ?_
  refine wp_iload_n (q := 17) dX3_findBest_16 5 rfl rfl ?_
  refine wp_if_neN (tgt := 24) (q := 20) dX3_findBest_17 (by decide) rfl (by omega) (fun e => ?_) (fun e => ?_)
  · skip
    rw [if_neg e] at hrs
    refine wp_aload_n (q := 25) dX3_findBest_24 3 rfl rfl ?_
    refine wp_iload_n (q := 26) dX3_findBest_25 4 rfl rfl ?_
    refine wp_cvx (q := 29) (sp_ahead (d := d + 4) ho hr.1 h8 hs) zm_X7_ahead zl_RX3_50 dX3_findBest_26 rfl (by omega) (Nat.le_of_ble_eq_true rfl) (by first | assumption | rfl) rfl rfl ?_
    rw [hrs]
    refine WP.sub (loc' := [(5, _), (4, _), (0, _), (1, _), (2, _), (3, _)]) [0, 1, 2, 3, 4, 5] rfl ?_
    exact tail
  · skip
    rw [if_pos e] at hrs
    subst hrs
    refine wp_iload_n (q := 21) dX3_findBest_20 4 rfl rfl ?_
    refine wp_goto (tgt := 29) dX3_findBest_21 (by decide) ?_
    refine WP.sub (loc' := [(5, _), (4, _), (0, _), (1, _), (2, _), (3, _)]) [0, 1, 2, 3, 4, 5] rfl ?_
    exact tail
set_option maxHeartbeats 4000000 in
set_option maxRecDepth 100000 in
theorem sp_oddsWith {d t o n s h g : Nat} {M : zMI} {L : zML} {tb : zTb} {v : Nat → Nat} (hT : zTab t) (ho : zSt o) (hTM : zTM M t n tb) (hv : zV n v) (hr : zSR M o n v) (h6 : zPM M) (hs : s < n) (hh : h < 2) (hg : g ≤ 2) : Sy yX3_oddsWith YX3_oddsWith (d + 5) [.ref 156, .ref o, .int (nI s), .int (nI h), .int (nI g)] M L (zRf t) (fun v0 M' L' R' => v0 = some (.int (nI (zown tb (zhold v s h (10 * g + lw v s h)) n s h))) ∧ L = L' ∧ R' = zRf t ∧ zSR M' o n (zhold v s h (10 * g + lw v s h)) ∧ zPM M' ∧ ∀ x, ¬ zPx t x → x ≠ o + 3 → M' x = M x) := by
  refine Sp.of (by decide +kernel) rfl (fun h => by first | exact h | cases h) (Nat.le_of_ble_eq_true rfl) ?_
  intro w G
  have hss := zSt_s ho
  obtain ⟨ha1, ha2, ha3, ha4⟩ := zSt_a ho
  obtain ⟨hr1, hr2, hr3, hr4⟩ := zSt_r (t := t) ho
  have h8 := hv.1
  have ht2 : t = 10 ∨ t = 24 := hT
  have hot : 43 ≤ o ∧ (o + 4 < 150 ∨ 157 ≤ o) := by rcases ho with rfl | rfl | rfl | ⟨i, hi, rfl⟩ <;> omega
  have hws := hv.2.1 s hs
  have hgl := hv.2.2.2.2.1 s h hs hh
  obtain ⟨-, -, hma⟩ := hr.2.2.2.2 s hs
  have hma := hma h hh
  have hml : (s + n - 1) % n < n := Nat.mod_lt _ (by omega)
  have nx : ∀ x, (t ≤ x ∧ x ≤ t + 12 ∧ x ≠ t + 10) ∨ (43 ≤ x ∧ x ≠ 151 ∧ x ≠ 152) → ¬ zPx t x := by
    intro x hx c
    rcases c with c | c | c | c <;> omega
  obtain ⟨w0, hw0⟩ : ∃ w0, 10 * g + lw v s h = w0 := ⟨_, rfl⟩
  have w30 : w0 < 30 := by omega
  have q1 : w0 / 10 = g := by omega
  have q2 : w0 % 10 = lw v s h := by omega
  obtain ⟨rs, hrs⟩ : ∃ rs, (if h = 0 then s else (s + n - 1) % n) = rs := ⟨_, rfl⟩
  have hrsl : rs < n := by rw [← hrs]; split <;> assumption
  have hlsl : (rs + 1) % n < n := Nat.mod_lt _ (by omega)
  have hSR := zSR_hold (M' := zu M (o + 3) (2 * wh v s + h) (nI g)) (w := w0) hv hr hs hh (fun p => by rw [zu_o, q1]) (fun p => by
    rw [zu_ne (by omega), q2]
    split
    · rename_i e; rw [e]; exact hma.2
    · rfl) (fun a a1 a2 => by rw [zu_ne (by omega)])
  have hVi := zV_hold (s := s) hv hh w30
  have hTM2 := zTM_fr (M' := zu M (o + 3) (2 * wh v s + h) (nI g)) hTM (fun x a1 a2 a3 => by rw [zu_ne (by omega)])
  have hp2 : zPM (zu M (o + 3) (2 * wh v s + h) (nI g)) := fun k h1 h2 => by rw [zu_ne (by omega)]; exact h6 k h1 h2
  have tail : WP w YX3_oddsWith (d + 5, SS, 0, 0) G (some (zXp (fun v0 M' L' R' => v0 = some (.int (nI (zown tb (zhold v s h (10 * g + lw v s h)) n s h))) ∧ L = L' ∧ R' = zRf t ∧ zSR M' o n (zhold v s h (10 * g + lw v s h)) ∧ zPM M' ∧ ∀ x, ¬ zPx t x → x ≠ o + 3 → M' x = M x))) 13 [(0, .ref 156), (1, .ref o), (2, .int (nI s)), (3, .int (nI h)), (4, .int (nI g))] [.int (nI rs)] SS M L (zRf t) := by
    refine wp_istore (q := 15) (loc' := [(5, _), (0, _), (1, _), (2, _), (3, _), (4, _)]) dX3_oddsWith_13 (by decide) rfl rfl ?_
    refine wp_aload_n (q := 16) dX3_oddsWith_15 2 rfl rfl ?_
    refine wp_getR (q := 19) dX3_oddsWith_16 zf_RX3_56 rfl (by first | assumption | rfl) (by first | assumption | rfl) rfl ?_
    refine wp_aload_n (q := 20) dX3_oddsWith_19 2 rfl rfl ?_
    refine wp_iload_n (q := 21) dX3_oddsWith_20 3 rfl rfl ?_
    refine wp_iload_n (q := 22) dX3_oddsWith_21 4 rfl rfl ?_
    refine wp_cvx (q := 25) (sp_handOf (d := d + 4) ho hv hr hs hh) zm_X7_handOf zl_RX3_42 dX3_oddsWith_22 rfl (by omega) (Nat.le_of_ble_eq_true rfl) (by first | assumption | rfl) rfl rfl ?_
    refine wp_iload (q := 27) dX3_oddsWith_25 5 rfl rfl ?_
    refine wp_iast (q := 28) _ dX3_oddsWith_27 (by first | assumption | rfl) rfl (by omega) (by decide) rfl ?_
    refine wp_aload_n (q := 29) dX3_oddsWith_28 1 rfl rfl ?_
    refine wp_getR (q := 32) dX3_oddsWith_29 zf_RX3_38 rfl zsh_156 (zr_156_0 _) rfl ?_
    refine wp_aload_n (q := 33) dX3_oddsWith_32 2 rfl rfl ?_
    refine wp_iload (q := 35) dX3_oddsWith_33 0 rfl rfl ?_
    refine wp_aload_n (q := 36) dX3_oddsWith_35 2 rfl rfl ?_
    refine wp_iload (q := 38) dX3_oddsWith_36 0 rfl rfl ?_
    refine wp_cvx (q := 41) (sp_behind (d := d + 4) ho hSR.1 h8 hrsl) zm_X7_behind zl_RX3_53 dX3_oddsWith_38 rfl (by omega) (Nat.le_of_ble_eq_true rfl) (by first | assumption | rfl) rfl rfl ?_
    refine wp_cvy (q := 44) (sp_work (d := d) hT ho hTM2 hVi hSR hrsl hlsl hp2) zm_X4_work zl_RX3_63 dX3_oddsWith_41 rfl (by omega) (Nat.le_of_ble_eq_true rfl) zsh_150 rfl rfl ?_
    rintro _ M3 _ _ ⟨rfl, rfl, rfl, -, -, -, -, w4, w5, -, hp3, hf3⟩
    have wt : M3 152 (4 + h) = nI (zown tb (zhold v s h w0) n s h) := by
      unfold zown
      by_cases e : h = 0
      · subst e
        rw [if_pos rfl] at hrs ⊢
        subst hrs
        exact w4
      · have e1 : h = 1 := by omega
        subst e1
        rw [if_neg (by decide)] at hrs ⊢
        subst hrs
        rw [zmod2 hs] at w5
        exact w5
    refine wp_aload_n (q := 45) dX3_oddsWith_44 1 rfl rfl ?_
    refine wp_getR (q := 48) dX3_oddsWith_45 zf_RX3_38 rfl zsh_156 (zr_156_0 _) rfl ?_
    refine wp_getR (q := 51) dX3_oddsWith_48 zf_RX3_69 rfl zsh_150 (zr_150_2 _) rfl ?_
    refine wp_iconst (q := 52) dX3_oddsWith_51 zq_iconst_4 rfl ?_
    refine wp_iload_n (q := 53) dX3_oddsWith_52 4 rfl rfl ?_
    refine wp_iaddN (q := 54) dX3_oddsWith_53 rfl ?_
    refine wp_iald (q := 55) _ dX3_oddsWith_54 zsh_152 rfl (by omega) (by decide) rfl ?_
    rw [wt]
    subst hw0
    exact wp_ireturn dX3_oddsWith_55 rfl ⟨rfl, ⟨rfl, rfl, rfl, zSR_fr hSR (fun x a1 a2 => hf3 x (nx x (by omega))), hp3, fun x x1 x2 => by rw [hf3 x x1, zu_ne x2]⟩⟩ rfl rfl
  refine wp_iload_n (q := 1) dX3_oddsWith_0 3 rfl rfl ?_
  refine wp_if_neN (tgt := 8) (q := 4) dX3_oddsWith_1 (by decide) rfl (by omega) (fun e => ?_) (fun e => ?_)
  · skip
    rw [if_neg e] at hrs
    refine wp_aload_n (q := 9) dX3_oddsWith_8 1 rfl rfl ?_
    refine wp_iload_n (q := 10) dX3_oddsWith_9 2 rfl rfl ?_
    refine wp_cvx (q := 13) (sp_ahead (d := d + 4) ho hr.1 h8 hs) zm_X7_ahead zl_RX3_50 dX3_oddsWith_10 rfl (by omega) (Nat.le_of_ble_eq_true rfl) (by first | assumption | rfl) rfl rfl ?_
    rw [hrs]
    exact tail
  · skip
    rw [if_pos e] at hrs
    subst hrs
    refine wp_iload_n (q := 5) dX3_oddsWith_4 2 rfl rfl ?_
    refine wp_goto (tgt := 13) dX3_oddsWith_5 (by decide) ?_
    exact tail

