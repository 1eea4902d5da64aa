abbrev zDs : Type := (Nat → Nat) × Nat × Nat
def zdic (tb : zTb) (v : Nat → Nat) (n bg : Nat) (s : zDs) (c : Nat) : zDs := (zp1 (zoR tb v c ((c + 1) % n)) (zoL tb v c ((c + 1) % n)) n c s.1 s.2.1, zdr (zdr s.2.1), s.2.2 + (if zdr (zdr s.2.1) / 64 % 100 < bg then 1 else 0))
def zdin (tb : zTb) (v : Nat → Nat) (n bg : Nat) : Nat → zDs → zDs
  | 0, s => s
  | i + 1, s => zdic tb v n bg (zdin tb v n bg i s) i
def zdis (tb : zTb) (v : Nat → Nat) (n bg : Nat) : Nat → zDs → zDs
  | 0, s => s
  | k + 1, s => zdin tb v n bg n (zdis tb v n bg k s)
theorem zp1_0 {R Lf n c x j : Nat} {u : Nat → Nat} (hj : j < 2) : zp1 R Lf n c u x j = u j := by
  unfold zp1
  split
  · exact vup_ne (by omega)
  · split
    · exact vup_ne (by omega)
    · exact vup_ne (by omega)
-- what a dinner keeps
def zdk (n : Nat) (v : Nat → Nat) (b : Nat) (s : zDs) : Prop := zV n s.1 ∧ s.2.1 < 2147483648 ∧ s.1 0 = v 0 ∧ s.1 1 = v 1 ∧ s.2.2 ≤ b
theorem zdk_c {tb : zTb} {v w : Nat → Nat} {n bg b c : Nat} {s : zDs} (h : zdk n w b s) (hc : c < n) : zdk n w (b + 1) (zdic tb v n bg s c) := by
  obtain ⟨h1, h2, h3, h4, h5⟩ := h
  refine ⟨zV_p1 h1 hc, zdr_lt _, (zp1_0 (by decide)).trans h3, (zp1_0 (by decide)).trans h4, ?_⟩
  show s.2.2 + (if zdr (zdr s.2.1) / 64 % 100 < bg then 1 else 0) ≤ b + 1
  split <;> omega
theorem zdk_i {tb : zTb} {v w : Nat → Nat} {n bg b : Nat} {s : zDs} (h : zdk n w b s) : ∀ i, i ≤ n → zdk n w (b + i) (zdin tb v n bg i s) := by
  intro i
  induction i with
  | zero => intro _; exact h
  | succ i ih => intro hi; exact zdk_c (ih (by omega)) (by omega)
theorem zdk_s {tb : zTb} {v w : Nat → Nat} {n bg : Nat} {s : zDs} (h : zdk n w 0 s) : ∀ k, zdk n w (n * k) (zdis tb v n bg k s) := by
  intro k
  induction k with
  | zero => exact h
  | succ k ih =>
    have := zdk_i (tb := tb) (v := v) (bg := bg) ih n (Nat.le_refl _)
    rw [Nat.mul_succ]
    exact this
def zdv (k : Nat) (s : zDs) : Nat → Nat := vup (vup s.1 0 (s.1 0 + k)) 1 (min 9999 (s.1 1 + s.2.2))
set_option maxHeartbeats 4000000 in
set_option maxRecDepth 100000 in
theorem sp_dine {d t n k : Nat} {M : zMI} {L : zML} {g : zGd} {v : Nat → Nat} {hs : List (Nat → Nat)} {m : zMs} (h : zCI M L t n g v hs m) (h2 : 2 ≤ n) (hk1 : 1 ≤ k) (hk50 : k ≤ 50) (hk0 : v 0 + k ≤ 9999) {r : zDs} (hrr : zdis g.2.2.2.2.2 v n g.2.2.2.2.1 k (v, m.2.2.2.1, 0) = r) : Sy yX11_dine YX11_dine (d + 6) [.ref 0, .int (nI k)] M L (zRf t) (zAn M L t n g (zdv k r) ((v :: hs).take 20) (zMdr m r.2.1) (.int (nI r.2.2))) := by
  refine Sp.of (by decide +kernel) rfl (fun h => by first | exact h | cases h) (Nat.le_of_ble_eq_true rfl) ?_
  intro w G
  have hv := zCI_hv h
  have hr := zCI_sr h
  have h8 := hv.1
  have ho : zSt 43 := Or.inl rfl
  have ht2 : t = 10 ∨ t = 24 := h.1
  obtain ⟨s0, s1, s2, s3, s4, s5, s6, s7, s8, s11⟩ := zTab_s h.1
  obtain ⟨r2, r3, r4, r5, r6, r8, r9, r13, r14⟩ := zTab_r (t := t) h.1
  have hk00 : zdk n v 0 (v, m.2.2.2.1, 0) := ⟨hv, (zCI_cm h).2.2.2.2.2.1, rfl, rfl, Nat.le_refl _⟩
  refine wp_iload_n (q := 1) dX11_dine_0 1 rfl rfl ?_
  refine wp_iconst (q := 2) dX11_dine_1 zq_iconst_1 rfl ?_
  refine wp_icmp_ltN (tgt := 36) (q := 5) dX11_dine_2 (by decide) rfl (by omega) (by omega) (fun hn => absurd hn (by first | omega | exact fun h => h | exact fun h => h trivial)) (fun _ => ?_)
  refine wp_iload_n (q := 6) dX11_dine_5 1 rfl rfl ?_
  refine wp_bipush (q := 8) dX11_dine_6 zq_bipush_50 rfl ?_
  refine wp_icmp_gtN (tgt := 36) (q := 11) dX11_dine_8 (by decide) rfl (by omega) (by omega) (fun hn => absurd hn (by first | omega | exact fun h => h | exact fun h => h trivial)) (fun _ => ?_)
  refine wp_aload_n (q := 12) dX11_dine_11 0 rfl rfl ?_
  refine wp_getR (q := 15) dX11_dine_12 zf_RX11_55 rfl zsh_0 (by first | rfl | assumption) rfl ?_
  refine wp_cvx (q := 18) (sp_crackers (d := 0) ho hr.1 h8) zm_X7_crackers zl_RX11_168 dX11_dine_15 rfl (by omega) (Nat.le_of_ble_eq_true rfl) zsh_43 rfl rfl ?_
  rw [if_neg (by omega)]
  refine wp_if_eqN (tgt := 36) (q := 21) dX11_dine_18 (by decide) rfl (by omega) (fun hn => absurd hn (by first | omega | exact fun h => h | exact fun h => h trivial)) (fun _ => ?_)
  refine wp_aload_n (q := 22) dX11_dine_21 0 rfl rfl ?_
  refine wp_getR (q := 25) dX11_dine_22 zf_RX11_55 rfl zsh_0 (by first | rfl | assumption) rfl ?_
  refine wp_getI (q := 28) dX11_dine_25 zf_RX11_178 rfl zsh_43 rfl ?_
  rw [hr.2.1]
  refine wp_iload_n (q := 29) dX11_dine_28 1 rfl rfl ?_
  refine wp_iaddN (q := 30) dX11_dine_29 rfl ?_
  refine wp_sipush (q := 33) dX11_dine_30 zq_sipush_9999 rfl ?_
  refine wp_icmp_leN (tgt := 42) (q := 36) dX11_dine_33 (by decide) rfl (by omega) (by omega) (fun _ => ?_) (fun hn => absurd hn (by first | omega | exact fun h => h | exact fun h => h trivial))
  refine wp_aload_n (q := 43) dX11_dine_42 0 rfl rfl ?_
  refine wp_cvy (q := 46) (sp_act (d := 0) h) zm_X11_act zl_RX11_345 dX11_dine_43 rfl (by omega) (Nat.le_of_ble_eq_true rfl) zsh_0 rfl rfl ?_
  rintro _ M1 _ _ ⟨rfl, rfl, rfl, h1, k1, k2, hf1⟩
  refine wp_aload_n (q := 47) dX11_dine_46 0 rfl rfl ?_
  refine wp_getR (q := 50) dX11_dine_47 zf_RX11_71 rfl zsh_0 (by first | rfl | assumption) rfl ?_
  refine wp_aload_n (q := 51) dX11_dine_50 0 rfl rfl ?_
  refine wp_getR (q := 54) dX11_dine_51 zf_RX11_55 rfl zsh_0 (by first | rfl | assumption) rfl ?_
  refine wp_cvy (q := 57) (sp_workAll (d := 0) h.1 ho (zCI_tm h1) hv (zCI_sr h1) (zCI_pm h1)) zm_X4_workAll zl_RX11_249 dX11_dine_54 rfl (by omega) (Nat.le_of_ble_eq_true rfl) zsh_150 rfl rfl ?_
  rintro _ M2 _ _ ⟨rfl, rfl, rfl, ha, hp, hx⟩
  have h' := zCI_py h1 hp hx
  have ha2 := ha h2
  have nPy : ∀ x, (x ≤ 9 ∨ 156 ≤ x) → M2 x = M1 x := fun x x1 => hx x (fun c => by rcases c with (c | c | c | c) | c | c | c <;> omega)
  have k1' : M2 156 3 = nI 0 := by rw [nPy 156 (by decide)]; exact k1
  have k2' : M2 167 7 = nI 0 := by rw [nPy 167 (by decide)]; exact k2
  have hbg := (zCI_ct h').2.2.2.2.2.2.1
  have hbg1 := (zCI_ct h').2.2.2.2.2.2.2.1
  have inner : ∀ i (s : zDs), i < k → zdis g.2.2.2.2.2 v n g.2.2.2.2.1 i (v, m.2.2.2.1, 0) = s → (∀ (M5 : zMI) (s5 : zDs), zdin g.2.2.2.2.2 v n g.2.2.2.2.1 n s = s5 → zSR M5 43 n s5.1 → M5 0 15 = nI s5.2.1 → (∀ j, j ≠ 15 → M5 0 j = M2 0 j) → (∀ y, y ≠ 0 → (y < 43 ∨ 47 < y) → M5 y = M2 y) → WP w YX11_dine (d + 6, SS, 0, 0) G (some (zXp (zAn M L t n g (zdv k r) ((v :: hs).take 20) (zMdr m r.2.1) (.int (nI r.2.2))))) 112 [(4, .int (nI n)), (3, .int (nI i)), (2, .int (nI s5.2.2)), (0, .ref 0), (1, .int (nI k))] [] SS M5 L (zRf t)) → ∀ q c (M3 : zMI) (s3 : zDs), c + q = n → zdin g.2.2.2.2.2 v n g.2.2.2.2.1 c s = s3 → zSR M3 43 n s3.1 → M3 0 15 = nI s3.2.1 → (∀ j, j ≠ 15 → M3 0 j = M2 0 j) → (∀ y, y ≠ 0 → (y < 43 ∨ 47 < y) → M3 y = M2 y) → WP w YX11_dine (d + 6, SS, 0, 0) G (some (zXp (zAn M L t n g (zdv k r) ((v :: hs).take 20) (zMdr m r.2.1) (.int (nI r.2.2))))) 69 [(4, .int (nI c)), (3, .int (nI i)), (2, .int (nI s3.2.2)), (0, .ref 0), (1, .int (nI k))] [] SS M3 L (zRf t) := by
    intro i s hi hs0 kout q
    have hks := zdk_s (tb := g.2.2.2.2.2) (v := v) (bg := g.2.2.2.2.1) hk00 i
    rw [hs0] at hks
    have hni : n * i ≤ 8 * 50 := Nat.mul_le_mul h8 (by omega)
    induction q with
    | zero =>
      intro c M3 s3 hc hz hr3 hx3 hf hf2
      have hcn : c = n := by omega
      subst hcn
      refine wp_iload (q := 71) dX11_dine_69 0 rfl rfl ?_
      refine wp_aload_n (q := 72) dX11_dine_71 3 rfl rfl ?_
      refine wp_getR (q := 75) dX11_dine_72 zf_RX11_55 rfl zsh_0 (by first | rfl | assumption) rfl ?_
      refine wp_getI (q := 78) dX11_dine_75 zf_RX11_165 rfl zsh_43 rfl ?_
      rw [hr3.1]
      refine wp_icmp_geN (tgt := 112) (q := 81) dX11_dine_78 (by decide) rfl (by omega) (by omega) (fun _ => ?_) (fun hn => absurd hn (by first | omega | exact fun h => h | exact fun h => h trivial))
      refine WP.sub (loc' := [(4, _), (3, _), (2, _), (0, _), (1, _)]) [0, 1, 2, 3, 4] rfl ?_
      exact kout M3 s3 hz hr3 hx3 hf hf2
    | succ q ih =>
      intro c M3 s3 hc hz hr3 hx3 hf hf2
      have hk3 := zdk_i (tb := g.2.2.2.2.2) (v := v) (bg := g.2.2.2.2.1) hks c (by omega)
      rw [hz] at hk3
      obtain ⟨o1, o2, -⟩ := ha2 c (by omega)
      have hsum := zo_sum g.2.2.2.2.2 v c ((c + 1) % n)
      have hb5 := hk3.2.2.2.2
      refine wp_iload (q := 71) dX11_dine_69 0 rfl rfl ?_
      refine wp_aload_n (q := 72) dX11_dine_71 3 rfl rfl ?_
      refine wp_getR (q := 75) dX11_dine_72 zf_RX11_55 rfl zsh_0 (by first | rfl | assumption) rfl ?_
      refine wp_getI (q := 78) dX11_dine_75 zf_RX11_165 rfl zsh_43 rfl ?_
      rw [hr3.1]
      refine wp_icmp_geN (tgt := 112) (q := 81) dX11_dine_78 (by decide) rfl (by omega) (by omega) (fun hn => absurd hn (by first | omega | exact fun h => h | exact fun h => h trivial)) (fun _ => ?_)
      refine wp_aload_n (q := 82) dX11_dine_81 3 rfl rfl ?_
      refine wp_iload (q := 84) dX11_dine_82 0 rfl rfl ?_
      refine wp_cvy (q := 87) (sp_pullOne (d := 0) hk3.1 hr3 (by omega) hx3 (by rw [hf2 153 (by decide) (by decide)]; exact o1) (by rw [hf2 154 (by decide) (by decide)]; exact o2) (by omega)) zm_X11_pullOne zl_RX11_348 dX11_dine_84 rfl (by omega) (Nat.le_of_ble_eq_true rfl) zsh_0 rfl rfl ?_
      rintro _ M4 _ _ ⟨rfl, rfl, rfl, hr4, hx4, hf4, hg4⟩
      refine wp_aload_n (q := 88) dX11_dine_87 3 rfl rfl ?_
      refine wp_bipush (q := 90) dX11_dine_88 zq_bipush_100 rfl ?_
      refine wp_cvx (q := 93) (sp_draw (d := 0) (x := zdr s3.2.1) hx4 (by decide) (by decide)) zm_X11_draw zl_RX11_351 dX11_dine_90 rfl (by omega) (Nat.le_of_ble_eq_true rfl) zsh_0 rfl rfl ?_
      have et : zu M4 0 15 (nI (zdr (zdr s3.2.1))) t = M2 t := by rw [zu_ne (by omega), hg4 t (by omega) (by omega), hf2 t (by omega) (by omega)]
      refine wp_aload_n (q := 94) dX11_dine_93 3 rfl rfl ?_
      refine wp_getR (q := 97) dX11_dine_94 zf_RX11_36 rfl zsh_0 (by first | rfl | assumption) rfl ?_
      refine wp_getI (q := 100) dX11_dine_97 zf_RX11_175 rfl (by first | assumption | rfl) rfl ?_
      rw [et, hbg]
      have hz5 : zdin g.2.2.2.2.2 v n g.2.2.2.2.1 (c + 1) s = zdic g.2.2.2.2.2 v n g.2.2.2.2.1 s3 c := by rw [zdin, hz]
      have hm100 : zdr (zdr s3.2.1) / 64 % 100 < 100 := Nat.mod_lt _ (by decide)
      have hr5 : zSR (zu M4 0 15 (nI (zdr (zdr s3.2.1)))) 43 n (zdic g.2.2.2.2.2 v n g.2.2.2.2.1 s3 c).1 := zSR_fr hr4 (fun y y1 y2 => zu_ne (by omega))
      have next := ih (c + 1) (zu M4 0 15 (nI (zdr (zdr s3.2.1)))) (zdic g.2.2.2.2.2 v n g.2.2.2.2.1 s3 c) (by omega) hz5 hr5 zu_s (fun j hj => by rw [zu_k hj, hf4 j hj, hf j hj]) (fun y y0 y1 => by rw [zu_ne y0, hg4 y y0 y1, hf2 y y0 y1])
      refine wp_icmp_geN (tgt := 106) (q := 103) dX11_dine_100 (by decide) rfl (by omega) (by omega) (fun c0 => ?_) (fun c0 => ?_)
      · skip
        rw [show (zdic g.2.2.2.2.2 v n g.2.2.2.2.1 s3 c).2.2 = s3.2.2 from by unfold zdic; rw [if_neg (by omega)]; rfl] at next
        refine wp_iincN (q := 109) (loc' := [(4, _), (3, _), (2, _), (0, _), (1, _)]) (n := 1) dX11_dine_106 rfl 0 rfl (by decide) rfl rfl ?_
        refine wp_goto (tgt := 69) dX11_dine_109 (by decide) ?_
        refine WP.sub (loc' := [(4, _), (3, _), (2, _), (0, _), (1, _)]) [0, 1, 2, 3, 4] rfl ?_
        exact next
      · skip
        rw [show (zdic g.2.2.2.2.2 v n g.2.2.2.2.1 s3 c).2.2 = s3.2.2 + 1 from by unfold zdic; rw [if_pos c0]] at next
        refine wp_iincN (q := 106) (loc' := [(2, _), (4, _), (3, _), (0, _), (1, _)]) (n := 1) dX11_dine_103 rfl 2 rfl (by decide) rfl rfl ?_
        refine wp_iincN (q := 109) (loc' := [(4, _), (2, _), (3, _), (0, _), (1, _)]) (n := 1) dX11_dine_106 rfl 1 rfl (by decide) rfl rfl ?_
        refine wp_goto (tgt := 69) dX11_dine_109 (by decide) ?_
        refine WP.sub (loc' := [(4, _), (3, _), (2, _), (0, _), (1, _)]) [0, 2, 1, 3, 4] rfl ?_
        exact next
  have outer : ∀ q i (M3 : zMI) (s3 : zDs), i + q = k → zdis g.2.2.2.2.2 v n g.2.2.2.2.1 i (v, m.2.2.2.1, 0) = s3 → zSR M3 43 n s3.1 → M3 0 15 = nI s3.2.1 → (∀ j, j ≠ 15 → M3 0 j = M2 0 j) → (∀ y, y ≠ 0 → (y < 43 ∨ 47 < y) → M3 y = M2 y) → WP w YX11_dine (d + 6, SS, 0, 0) G (some (zXp (zAn M L t n g (zdv k r) ((v :: hs).take 20) (zMdr m r.2.1) (.int (nI r.2.2))))) 61 [(3, .int (nI i)), (2, .int (nI s3.2.2)), (0, .ref 0), (1, .int (nI k))] [] SS M3 L (zRf t) := by
    intro q
    induction q with
    | zero =>
      intro i M3 s3 hi hz hr3 hx3 hf hf2
      have hik : i = k := by omega
      rw [hik, hrr] at hz
      subst hz
      have hks := zdk_s (tb := g.2.2.2.2.2) (v := v) (bg := g.2.2.2.2.1) hk00 k
      rw [hrr] at hks
      obtain ⟨z1, z2, z3, z4, z5⟩ := hks
      have hni : n * k ≤ 8 * 50 := Nat.mul_le_mul h8 (by omega)
      have hu1 := z1.2.2.2.2.2.2.1
      have hv1 : zV n (vup r.1 0 (r.1 0 + k)) := zV_c z1 (by decide) (by omega)
      have hr4 := zSR_c (x := r.1 0 + k) hr3 (show 0 < 3 by decide)
      refine wp_iload_n (q := 62) dX11_dine_61 0 rfl rfl ?_
      refine wp_iload_n (q := 63) dX11_dine_62 3 rfl rfl ?_
      refine wp_icmp_geN (tgt := 118) (q := 66) dX11_dine_63 (by decide) rfl (by omega) (by omega) (fun _ => ?_) (fun hn => absurd hn (by first | omega | exact fun h => h | exact fun h => h trivial))
      refine wp_aload_n (q := 119) dX11_dine_118 2 rfl rfl ?_
      refine wp_getR (q := 122) dX11_dine_119 zf_RX11_55 rfl zsh_0 (by first | rfl | assumption) rfl ?_
      refine wp_dup (q := 123) dX11_dine_122 rfl rfl ?_
      refine wp_getI (q := 126) dX11_dine_123 zf_RX11_178 rfl zsh_43 rfl ?_
      rw [hr3.2.1]
      refine wp_iload_n (q := 127) dX11_dine_126 3 rfl rfl ?_
      refine wp_iaddN (q := 128) dX11_dine_127 rfl ?_
      refine wp_putI (q := 131) dX11_dine_128 zf_RX11_178 rfl zsh_43 rfl ?_
      refine wp_aload_n (q := 132) dX11_dine_131 2 rfl rfl ?_
      refine wp_getR (q := 135) dX11_dine_132 zf_RX11_55 rfl zsh_0 (by first | rfl | assumption) rfl ?_
      refine wp_sipush (q := 138) dX11_dine_135 zq_sipush_9999 rfl ?_
      refine wp_aload_n (q := 139) dX11_dine_138 2 rfl rfl ?_
      refine wp_getR (q := 142) dX11_dine_139 zf_RX11_55 rfl zsh_0 (by first | rfl | assumption) rfl ?_
      refine wp_getI (q := 145) dX11_dine_142 zf_RX11_181 rfl zsh_43 rfl ?_
      rw [hr4.2.2.1, show vup r.1 0 (r.1 0 + k) 1 = r.1 1 from rfl]
      refine wp_iload_n (q := 146) dX11_dine_145 1 rfl rfl ?_
      refine wp_iaddN (q := 147) dX11_dine_146 rfl ?_
      refine wp_mmin (q := 150) dX11_dine_147 zl_RX11_354 (by omega) (Nat.le_of_ble_eq_true rfl) (Nat.le_refl _) (Nat.le_refl _) rfl ?_
      have e : (if nI (r.1 1 + r.2.2) < nI 9999 then nI (r.1 1 + r.2.2) else nI 9999) = nI (min 9999 (r.1 1 + r.2.2)) := by
        by_cases h : r.1 1 + r.2.2 < 9999
        · rw [if_pos ((nI_ltI (by omega) (by decide)).mpr h), Nat.min_eq_right (by omega)]
        · rw [if_neg (fun c => h ((nI_ltI (by omega) (by decide)).mp c)), Nat.min_eq_left (by omega)]
      rw [e]
      have hr5 := zSR_c (x := min 9999 (r.1 1 + r.2.2)) hr4 (show 1 < 3 by decide)
      have hv2 : zV n (zdv k r) := zV_c hv1 (by decide) (by omega)
      refine wp_putI (q := 153) dX11_dine_150 zf_RX11_181 rfl zsh_43 rfl ?_
      refine wp_iload_n (q := 154) dX11_dine_153 1 rfl rfl ?_
      refine wp_ireturn dX11_dine_154 rfl ⟨rfl, ⟨rfl, rfl, ?_, fun x hx' => ⟨by rw [zu_ne (by omega), zu_ne (by omega), hf2 x (by omega) (by omega), nPy x (by omega), hf1 x hx'], rfl⟩⟩⟩ rfl rfl
      have hz0 : zCI (zu M2 0 15 (nI r.2.1)) L t n g v ((v :: hs).take 20) (zMdr m r.2.1) := zCI_m h' (fun x x1 x2 x3 x4 x5 => zu_ne x2) (zCm_dr (zCI_cm h') z2)
      refine zCI_v hz0 (by rw [zu_ne (by decide)]; exact k1') (by rw [zu_ne (by decide)]; exact k2') (fun x x1 x2 => ?_) hv2 hr5
      rw [zu_ne (by omega), zu_ne (by omega)]
      by_cases c : x = 0
      · subst c
        funext j
        by_cases c2 : j = 15
        · rw [c2, zu_s, hx3]
        · rw [zu_k c2, hf j c2]
      · rw [zu_ne c, hf2 x c x2]
    | succ q ih =>
      intro i M3 s3 hi hz hr3 hx3 hf hf2
      have hks := zdk_s (tb := g.2.2.2.2.2) (v := v) (bg := g.2.2.2.2.1) hk00 i
      rw [hz] at hks
      refine wp_iload_n (q := 62) dX11_dine_61 0 rfl rfl ?_
      refine wp_iload_n (q := 63) dX11_dine_62 3 rfl rfl ?_
      refine wp_icmp_geN (tgt := 118) (q := 66) dX11_dine_63 (by decide) rfl (by omega) (by omega) (fun hn => absurd hn (by first | omega | exact fun h => h | exact fun h => h trivial)) (fun _ => ?_)
      refine wp_iconst (q := 67) dX11_dine_66 zq_iconst_0 rfl ?_
      refine wp_istore (q := 69) (loc' := [(4, _), (3, _), (2, _), (0, _), (1, _)]) dX11_dine_67 (by decide) rfl rfl ?_
      refine WP.sub (loc' := [(4, _), (3, _), (2, _), (0, _), (1, _)]) [0, 1, 2, 3, 4] rfl ?_
      refine inner i s3 (by omega) hz (fun M5 s5 hz5 hr5 hx5 hf5 hg5 => ?_) n 0 M3 s3 (Nat.zero_add _) rfl hr3 hx3 hf hf2
      refine wp_iincN (q := 115) (loc' := [(3, _), (4, _), (2, _), (0, _), (1, _)]) (n := 1) dX11_dine_112 rfl 1 rfl (by decide) rfl rfl ?_
      refine wp_goto (tgt := 61) dX11_dine_115 (by decide) ?_
      refine WP.sub (loc' := [(3, _), (2, _), (0, _), (1, _)]) [0, 2, 3, 4] rfl ?_
      exact ih (i + 1) M5 s5 (by omega) (by rw [zdis, hz]; exact hz5) hr5 hx5 hf5 hg5
  refine wp_iconst (q := 58) dX11_dine_57 zq_iconst_0 rfl ?_
  refine wp_istore_n (q := 59) (loc' := [(2, _), (0, _), (1, _)]) dX11_dine_58 rfl (by decide) rfl rfl ?_
  refine wp_iconst (q := 60) dX11_dine_59 zq_iconst_0 rfl ?_
  refine wp_istore_n (q := 61) (loc' := [(3, _), (2, _), (0, _), (1, _)]) dX11_dine_60 rfl (by decide) rfl rfl ?_
  refine WP.sub (loc' := [(3, _), (2, _), (0, _), (1, _)]) [0, 1, 2, 3] rfl ?_
  exact outer k 0 M2 (v, m.2.2.2.1, 0) (Nat.zero_add _) rfl (zCI_sr h') (zCI_cm h').2.2.2.2.1 (fun j _ => rfl) (fun y _ _ => rfl)
set_option maxHeartbeats 4000000 in
set_option maxRecDepth 100000 in
theorem sp_dineN {d t n : Nat} {x : Int32} {M : zMI} {L : zML} {g : zGd} {v : Nat → Nat} {hs : List (Nat → Nat)} {m : zMs} (h : zCI M L t n g v hs m) (hN : ¬ (2 ≤ n ∧ ¬ x < nI 1 ∧ ¬ nI 50 < x ∧ nI (v 0) + x ≤ nI 9999)) : Sy yX11_dine YX11_dine (d + 6) [.ref 0, .int x] M L (zRf t) (zAn M L t n g v hs (zMup m 2) (.int (-1))) := by
  refine Sp.of (by decide +kernel) rfl (fun h => by first | exact h | cases h) (Nat.le_of_ble_eq_true rfl) ?_
  intro w G
  have hv := zCI_hv h
  have hr := zCI_sr h
  have h8 := hv.1
  have ho : zSt 43 := Or.inl rfl
  have fin : WP w YX11_dine (d + 6, SS, 0, 0) G (some (zXp (zAn M L t n g v hs (zMup m 2) (.int (-1))))) 36 [(0, .ref 0), (1, .int x)] [] SS M L (zRf t) := by
    refine wp_aload_n (q := 37) dX11_dine_36 0 rfl rfl ?_
    refine wp_iconst (q := 38) dX11_dine_37 zq_iconst_2 rfl ?_
    refine wp_cvx (q := 41) (sp_refuse (d := 0) (k := 2) (by decide)) zm_X11_refuse zl_RX11_116 dX11_dine_38 rfl (by omega) (Nat.le_of_ble_eq_true rfl) zsh_0 rfl rfl ?_
    exact wp_ireturn dX11_dine_41 rfl ⟨rfl, ⟨rfl, rfl, zCI_rf h (by decide), zXf_rf⟩⟩ rfl rfl
  refine wp_iload_n (q := 1) dX11_dine_0 1 rfl rfl ?_
  refine wp_iconst (q := 2) dX11_dine_1 zq_iconst_1 rfl ?_
  refine wp_icmp_lt (tgt := 36) (q := 5) dX11_dine_2 (by decide) rfl (fun e1 => ?_) (fun e1 => ?_)
  · skip
    refine WP.sub (loc' := [(0, _), (1, _)]) [0, 1] rfl ?_
    exact fin
  · skip
    refine wp_iload_n (q := 6) dX11_dine_5 1 rfl rfl ?_
    refine wp_bipush (q := 8) dX11_dine_6 zq_bipush_50 rfl ?_
    refine wp_icmp_gt (tgt := 36) (q := 11) dX11_dine_8 (by decide) rfl (fun e2 => ?_) (fun e2 => ?_)
    · skip
      refine WP.sub (loc' := [(0, _), (1, _)]) [0, 1] rfl ?_
      exact fin
    · skip
      refine wp_aload_n (q := 12) dX11_dine_11 0 rfl rfl ?_
      refine wp_getR (q := 15) dX11_dine_12 zf_RX11_55 rfl zsh_0 (by first | rfl | assumption) rfl ?_
      refine wp_cvx (q := 18) (sp_crackers (d := 0) ho hr.1 h8) zm_X7_crackers zl_RX11_168 dX11_dine_15 rfl (by omega) (Nat.le_of_ble_eq_true rfl) zsh_43 rfl rfl ?_
      by_cases c : n < 2
      · rw [if_pos c]
        refine wp_if_eqN (tgt := 36) (q := 21) dX11_dine_18 (by decide) rfl (by omega) (fun _ => ?_) (fun hn => absurd hn (by first | omega | exact fun h => h | exact fun h => h trivial))
        refine WP.sub (loc' := [(0, _), (1, _)]) [0, 1] rfl ?_
        exact fin
      · rw [if_neg c]
        refine wp_if_eqN (tgt := 36) (q := 21) dX11_dine_18 (by decide) rfl (by omega) (fun hn => absurd hn (by first | omega | exact fun h => h | exact fun h => h trivial)) (fun _ => ?_)
        refine wp_aload_n (q := 22) dX11_dine_21 0 rfl rfl ?_
        refine wp_getR (q := 25) dX11_dine_22 zf_RX11_55 rfl zsh_0 (by first | rfl | assumption) rfl ?_
        refine wp_getI (q := 28) dX11_dine_25 zf_RX11_178 rfl zsh_43 rfl ?_
        rw [hr.2.1]
        refine wp_iload_n (q := 29) dX11_dine_28 1 rfl rfl ?_
        refine wp_iadd (q := 30) dX11_dine_29 rfl ?_
        refine wp_sipush (q := 33) dX11_dine_30 zq_sipush_9999 rfl ?_
        refine wp_icmp_le (tgt := 42) (q := 36) dX11_dine_33 (by decide) rfl (fun hn => absurd hn (by exact fun e => hN ⟨by omega, e1, e2, e⟩)) (fun _ => ?_)
        refine WP.sub (loc' := [(0, _), (1, _)]) [0, 1] rfl ?_
        exact fin

