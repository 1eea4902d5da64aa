def zbs (tb : zTb) (v : Nat → Nat) (n s h : Nat) : Nat := zbi (zfw tb v n s h) 30
def zdid (tb : zTb) (v : Nat → Nat) (n s h : Nat) : Bool := decide (zown tb v n s h < zfw tb v n s h (zbs tb v n s h))
def zturn (tb : zTb) (v : Nat → Nat) (n s h : Nat) : Nat → Nat := if zdid tb v n s h then zhold v s h (zbs tb v n s h) else v
def zrnd (tb : zTb) (n : Nat) (v : Nat → Nat) : Nat → Nat → Nat
  | 0 => v
  | i + 1 => zturn tb (zrnd tb n v i) n (i / 2) (i % 2)
def zcnt (tb : zTb) (n : Nat) (v : Nat → Nat) : Nat → Nat
  | 0 => 0
  | i + 1 => zcnt tb n v i + (if zdid tb (zrnd tb n v i) n (i / 2) (i % 2) then 1 else 0)
def zse (tb : zTb) (n : Nat) : Nat → Nat → (Nat → Nat) → Nat × (Nat → Nat)
  | 0, _, v => (13, v)
  | j + 1, i, v => if zcnt tb n v (2 * n) = 0 then (i, zrnd tb n v (2 * n)) else zse tb n j (i + 1) (zrnd tb n v (2 * n))
theorem zV_rnd {tb : zTb} {n : Nat} {v : Nat → Nat} (hv : zV n v) : ∀ i, i ≤ 2 * n → zV n (zrnd tb n v i) := by
  intro i
  induction i with
  | zero => intro _; exact hv
  | succ i ih =>
    intro hi
    rw [zrnd]
    unfold zturn
    split
    · exact zV_hold (ih (by omega)) (Nat.mod_lt _ (by decide)) (zbi_lt _ 30 (by decide))
    · exact ih (by omega)
theorem zcnt_le {tb : zTb} {n : Nat} {v : Nat → Nat} : ∀ i, zcnt tb n v i ≤ i := by
  intro i
  induction i with
  | zero => exact Nat.le_refl _
  | succ i ih =>
    rw [zcnt]
    split <;> omega
set_option maxHeartbeats 4000000 in
set_option maxRecDepth 100000 in
theorem sp_settleK {d : Nat} {M : zMI} {L : zML} {R : zMR} (hk : M 156 3 = nI 1) : Sx yX3_settle YX3_settle (d) [.ref 156, .ref 43] M L R (none) M L R := by
  refine Sp.of (by decide +kernel) rfl (fun h => by first | exact h | cases h) (Nat.le_of_ble_eq_true rfl) ?_
  intro w G
  refine wp_aload_n (q := 1) dX3_settle_0 0 rfl rfl ?_
  refine wp_getI (q := 4) dX3_settle_1 zf_RX3_21 rfl zsh_156 rfl ?_
  rw [hk]
  refine wp_if_eqN (tgt := 8) (q := 7) dX3_settle_4 (by decide) rfl (by omega) (fun hn => absurd hn (by omega)) (fun _ => ?_)
  exact wp_return dX3_settle_7 rfl ⟨rfl, rfl, rfl, rfl, rfl⟩ rfl rfl
set_option maxHeartbeats 4000000 in
set_option maxRecDepth 100000 in
theorem sp_settle {d t n : Nat} {M : zMI} {L : zML} {tb : zTb} {v : Nat → Nat} (hT : zTab t) (hTM : zTM M t n tb) (hv : zV n v) (hr : zSR M 43 n v) (h6 : zPM M) (hk : M 156 3 = nI 0) : Sy yX3_settle YX3_settle (d + 6) [.ref 156, .ref 43] M L (zRf t) (fun v0 M' L' R' => v0 = none ∧ L = L' ∧ R' = zRf t ∧ zPM M' ∧ M' 156 3 = nI 1 ∧ M' 156 4 = nI (zse tb n 12 1 v).1 ∧ zSR M' 162 n (zse tb n 12 1 v).2 ∧ ∀ x, ¬ zPx t x → x ≠ 156 → (x < 162 ∨ 166 < x) → M' x = M x) := by
  refine Sp.of (by decide +kernel) rfl (fun h => by first | exact h | cases h) (Nat.le_of_ble_eq_true rfl) ?_
  intro w G
  have h8 := hv.1
  have ht2 : t = 10 ∨ t = 24 := hT
  have hot : zSt 162 := Or.inr (Or.inr (Or.inl rfl))
  obtain ⟨ha1, ha2, ha3, ha4⟩ := zSt_a hot
  have nx : ∀ x, (t ≤ x ∧ x ≤ t + 12 ∧ x ≠ t + 10) ∨ (43 ≤ x ∧ x ≠ 151 ∧ x ≠ 152) → ¬ zPx t x := by
    intro x hx c
    rcases c with c | c | c | c <;> omega
  -- the rounds: r the round found (13: none yet), i the next one
  have loop : ∀ j i r (u : Nat → Nat) (M2 : zMI), i + j = 13 → 1 ≤ i → zV n u → zSR M2 162 n u → zPM M2 → M2 156 3 = nI 1 → M2 156 4 = nI r → (r = 13 ∧ zse tb n j i u = zse tb n 12 1 v ∨ r ≤ 12 ∧ (r, u) = zse tb n 12 1 v) → (∀ x, ¬ zPx t x → x ≠ 156 → (x < 162 ∨ 166 < x) → M2 x = M x) → WP w YX3_settle (d + 6, SS, 0, 0) G (some (zXp (fun v0 M' L' R' => v0 = none ∧ L = L' ∧ R' = zRf t ∧ zPM M' ∧ M' 156 3 = nI 1 ∧ M' 156 4 = nI (zse tb n 12 1 v).1 ∧ zSR M' 162 n (zse tb n 12 1 v).2 ∧ ∀ x, ¬ zPx t x → x ≠ 156 → (x < 162 ∨ 166 < x) → M' x = M x))) 29 [(2, .int (nI i)), (0, .ref 156), (1, .ref 43)] [] SS M2 L (zRf t) := by
    intro j
    induction j with
    | zero =>
      intro i r u M2 hij hi1 hu hsr hp k3 k4 hor hf
      refine wp_iload_n (q := 30) dX3_settle_29 0 rfl rfl ?_
      refine wp_bipush (q := 32) dX3_settle_30 zq_bipush_12 rfl ?_
      refine wp_icmp_gtN (tgt := 165) (q := 35) dX3_settle_32 (by decide) rfl (by omega) (by omega) (fun _ => ?_) (fun hn => absurd hn (by omega))
      have hres : (r, u) = zse tb n 12 1 v := by
        rcases hor with ⟨a, b⟩ | ⟨a, b⟩
        · rw [a, ← b]; rfl
        · exact b
      exact wp_return dX3_settle_165 rfl ⟨rfl, ⟨rfl, rfl, rfl, hp, k3, by rw [k4, ← hres], by rw [← hres]; exact hsr, hf⟩⟩ rfl rfl
    | succ j ih =>
      intro i r u M2 hij hi1 hu hsr hp k3 k4 hor hf
      have hr13 : r ≤ 13 := by omega
      refine wp_iload_n (q := 30) dX3_settle_29 0 rfl rfl ?_
      refine wp_bipush (q := 32) dX3_settle_30 zq_bipush_12 rfl ?_
      refine wp_icmp_gtN (tgt := 165) (q := 35) dX3_settle_32 (by decide) rfl (by omega) (by omega) (fun hn => absurd hn (by omega)) (fun _ => ?_)
      refine wp_aload_n (q := 36) dX3_settle_35 1 rfl rfl ?_
      refine wp_getI (q := 39) dX3_settle_36 zf_RX3_25 rfl zsh_156 rfl ?_
      rw [k4]
      refine wp_bipush (q := 41) dX3_settle_39 zq_bipush_12 rfl ?_
      refine wp_icmp_leN (tgt := 165) (q := 44) dX3_settle_41 (by decide) rfl (by omega) (by omega) (fun hr12 => ?_) (fun hr12 => ?_)
      · skip
        have hres : (r, u) = zse tb n 12 1 v := by
          rcases hor with ⟨a, b⟩ | ⟨a, b⟩
          · omega
          · exact b
        exact wp_return dX3_settle_165 rfl ⟨rfl, ⟨rfl, rfl, rfl, hp, k3, by rw [k4, ← hres], by rw [← hres]; exact hsr, hf⟩⟩ rfl rfl
      · skip
        have hor' : zse tb n (j + 1) i u = zse tb n 12 1 v := by
          rcases hor with ⟨a, b⟩ | ⟨a, b⟩
          · exact b
          · omega
        have er : r = 13 := by omega
        subst er
        -- the hands of a round
        have inner : ∀ k q (M3 : zMI), q + k = 2 * n → zSR M3 162 n (zrnd tb n u q) → zPM M3 → M3 156 3 = nI 1 → M3 156 4 = nI 13 → (∀ x, ¬ zPx t x → x ≠ 156 → (x < 162 ∨ 166 < x) → M3 x = M x) → WP w YX3_settle (d + 6, SS, 0, 0) G (some (zXp (fun v0 M' L' R' => v0 = none ∧ L = L' ∧ R' = zRf t ∧ zPM M' ∧ M' 156 3 = nI 1 ∧ M' 156 4 = nI (zse tb n 12 1 v).1 ∧ zSR M' 162 n (zse tb n 12 1 v).2 ∧ ∀ x, ¬ zPx t x → x ≠ 156 → (x < 162 ∨ 166 < x) → M' x = M x))) 49 [(4, .int (nI q)), (3, .int (nI (zcnt tb n u q))), (2, .int (nI i)), (0, .ref 156), (1, .ref 43)] [] SS M3 L (zRf t) := by
          intro k
          induction k with
          | zero =>
            intro q M3 hq hs3 hp3 q3 q4 hf3
            have hcl := zcnt_le (tb := tb) (n := n) (v := u) q
            refine wp_iload (q := 51) dX3_settle_49 0 rfl rfl ?_
            refine wp_iconst (q := 52) dX3_settle_51 zq_iconst_2 rfl ?_
            refine wp_aload_n (q := 53) dX3_settle_52 3 rfl rfl ?_
            refine wp_getR (q := 56) dX3_settle_53 zf_RX3_18 rfl zsh_156 (zr_156_2 _) rfl ?_
            refine wp_getI (q := 59) dX3_settle_56 zf_RX3_76 rfl zsh_162 rfl ?_
            rw [hs3.1]
            refine wp_imulN (q := 60) dX3_settle_59 rfl ?_
            refine wp_icmp_geN (tgt := 150) (q := 63) dX3_settle_60 (by decide) rfl (by omega) (by omega) (fun _ => ?_) (fun hn => absurd hn (by omega))
            refine wp_iload_n (q := 151) dX3_settle_150 1 rfl rfl ?_
            have eq2 : q = 2 * n := by omega
            subst eq2
            have hu2 := zV_rnd (tb := tb) hu _ (Nat.le_refl _)
            refine wp_if_neN (tgt := 159) (q := 154) dX3_settle_151 (by decide) rfl (by omega) (fun hc => ?_) (fun hc => ?_)
            · skip
              refine wp_iincN (q := 162) (loc' := [(2, _), (4, _), (3, _), (0, _), (1, _)]) (n := 1) dX3_settle_159 rfl 2 rfl (by decide) rfl rfl ?_
              refine wp_goto (tgt := 29) dX3_settle_162 (by decide) ?_
              refine WP.sub (loc' := [(2, _), (0, _), (1, _)]) [0, 3, 4] rfl ?_
              refine ih (i + 1) 13 _ M3 (by omega) (by omega) hu2 hs3 hp3 q3 q4 (Or.inl ⟨rfl, ?_⟩) hf3
              rw [← hor', zse, if_neg hc]
            · skip
              refine wp_aload_n (q := 155) dX3_settle_154 3 rfl rfl ?_
              refine wp_iload_n (q := 156) dX3_settle_155 2 rfl rfl ?_
              refine wp_putI (q := 159) dX3_settle_156 zf_RX3_25 rfl zsh_156 rfl ?_
              refine wp_iincN (q := 162) (loc' := [(2, _), (4, _), (3, _), (0, _), (1, _)]) (n := 1) dX3_settle_159 rfl 2 rfl (by decide) rfl rfl ?_
              refine wp_goto (tgt := 29) dX3_settle_162 (by decide) ?_
              refine WP.sub (loc' := [(2, _), (0, _), (1, _)]) [0, 3, 4] rfl ?_
              refine ih (i + 1) i _ _ (by omega) (by omega) hu2 (zSR_fr hs3 (fun x a1 a2 => zu_ne (by omega))) (fun k h1 h2 => by rw [zu_ne (by decide)]; exact hp3 k h1 h2) (by rw [zu_k (by decide)]; exact q3) (by rw [zu_s]) (Or.inr ⟨by omega, ?_⟩) (fun x x1 x2 x3 => by rw [zu_ne x2]; exact hf3 x x1 x2 x3)
              rw [← hor', zse, if_pos hc]
          | succ k ihk =>
            intro q M3 hq hs3 hp3 q3 q4 hf3
            have hcl := zcnt_le (tb := tb) (n := n) (v := u) q
            have hu3 := zV_rnd (tb := tb) hu q (by omega)
            have hTM3 := zTM_fr (M' := M3) hTM (fun x a1 a2 a3 => hf3 x (nx x (Or.inl ⟨a1, a2, a3⟩)) (by omega) (by omega))
            have hsl : q / 2 < n := by omega
            have hhl : q % 2 < 2 := Nat.mod_lt _ (by decide)
            refine wp_iload (q := 51) dX3_settle_49 0 rfl rfl ?_
            refine wp_iconst (q := 52) dX3_settle_51 zq_iconst_2 rfl ?_
            refine wp_aload_n (q := 53) dX3_settle_52 3 rfl rfl ?_
            refine wp_getR (q := 56) dX3_settle_53 zf_RX3_18 rfl zsh_156 (zr_156_2 _) rfl ?_
            refine wp_getI (q := 59) dX3_settle_56 zf_RX3_76 rfl zsh_162 rfl ?_
            rw [hs3.1]
            refine wp_imulN (q := 60) dX3_settle_59 rfl ?_
            refine wp_icmp_geN (tgt := 150) (q := 63) dX3_settle_60 (by decide) rfl (by omega) (by omega) (fun hn => absurd hn (by omega)) (fun _ => ?_)
            refine wp_aload_n (q := 64) dX3_settle_63 3 rfl rfl ?_
            refine wp_aload_n (q := 65) dX3_settle_64 3 rfl rfl ?_
            refine wp_getR (q := 68) dX3_settle_65 zf_RX3_18 rfl zsh_156 (zr_156_2 _) rfl ?_
            refine wp_iload (q := 70) dX3_settle_68 0 rfl rfl ?_
            refine wp_iconst (q := 71) dX3_settle_70 zq_iconst_2 rfl ?_
            refine wp_idivN (q := 72) dX3_settle_71 (by omega) (by omega) (by omega) rfl ?_
            refine wp_iload (q := 74) dX3_settle_72 0 rfl rfl ?_
            refine wp_iconst (q := 75) dX3_settle_74 zq_iconst_2 rfl ?_
            refine wp_iremN (q := 76) dX3_settle_75 (by omega) (by omega) (by omega) rfl ?_
            refine wp_cvy (q := 79) (sp_findBest (d := d) hT hot hTM3 hu3 hs3 hp3 hsl hhl) zm_X3_findBest zl_RX3_79 dX3_settle_76 rfl (by omega) (Nat.le_of_ble_eq_true rfl) zsh_156 rfl rfl ?_
            rintro _ M4 _ _ ⟨rfl, rfl, rfl, s4, p4, b5, b6, b7, bk, hf4⟩
            have hb30 : zbi (zfw tb (zrnd tb n u q) n (q / 2) (q % 2)) 30 < 30 := zbi_lt _ 30 (by decide)
            have o1 := zown_le tb (zrnd tb n u q) n (q / 2) (q % 2)
            have o2 : zfw tb (zrnd tb n u q) n (q / 2) (q % 2) (zbi (zfw tb (zrnd tb n u q) n (q / 2) (q % 2)) 30) ≤ 10000 := zown_le _ _ _ _ _
            have g3 : M4 156 3 = nI 1 := (bk 3 (by decide) (by decide) (by decide)).trans q3
            have g4 : M4 156 4 = nI 13 := (bk 4 (by decide) (by decide) (by decide)).trans q4
            have gf : ∀ x, ¬ zPx t x → x ≠ 156 → (x < 162 ∨ 166 < x) → M4 x = M x := fun x x1 x2 x3 => (hf4 x x1 x2 (by omega)).trans (hf3 x x1 x2 x3)
            refine wp_aload_n (q := 80) dX3_settle_79 3 rfl rfl ?_
            refine wp_getI (q := 83) dX3_settle_80 zf_RX3_32 rfl zsh_156 rfl ?_
            rw [b6]
            refine wp_aload_n (q := 84) dX3_settle_83 3 rfl rfl ?_
            refine wp_getI (q := 87) dX3_settle_84 zf_RX3_35 rfl zsh_156 rfl ?_
            rw [b7]
            refine wp_icmp_leN (tgt := 144) (q := 90) dX3_settle_87 (by decide) rfl (by omega) (by omega) (fun hd => ?_) (fun hd => ?_)
            · skip
              have hdid : zdid tb (zrnd tb n u q) n (q / 2) (q % 2) = false := decide_eq_false (show ¬ (zown tb (zrnd tb n u q) n (q / 2) (q % 2) < zfw tb (zrnd tb n u q) n (q / 2) (q % 2) (zbs tb (zrnd tb n u q) n (q / 2) (q % 2))) from Nat.not_lt.mpr hd)
              refine wp_iincN (q := 147) (loc' := [(4, _), (3, _), (2, _), (0, _), (1, _)]) (n := 1) dX3_settle_144 rfl 0 rfl (by decide) rfl rfl ?_
              refine wp_goto (tgt := 49) dX3_settle_147 (by decide) ?_
              refine WP.sub (loc' := [(4, _), (3, _), (2, _), (0, _), (1, _)]) [0, 1, 2, 3, 4] rfl ?_
              have := ihk (q + 1) M4 (by omega) (by rw [zrnd]; unfold zturn; rw [hdid]; exact s4) p4 g3 g4 gf
              rw [zcnt, hdid] at this
              exact this
            · skip
              have hdid : zdid tb (zrnd tb n u q) n (q / 2) (q % 2) = true := decide_eq_true (show zown tb (zrnd tb n u q) n (q / 2) (q % 2) < zfw tb (zrnd tb n u q) n (q / 2) (q % 2) (zbs tb (zrnd tb n u q) n (q / 2) (q % 2)) from hd)
              have hwl := hu3.2.1 _ hsl
              refine wp_aload_n (q := 91) dX3_settle_90 3 rfl rfl ?_
              refine wp_getR (q := 94) dX3_settle_91 zf_RX3_18 rfl zsh_156 (zr_156_2 _) rfl ?_
              refine wp_iload (q := 96) dX3_settle_94 0 rfl rfl ?_
              refine wp_iconst (q := 97) dX3_settle_96 zq_iconst_2 rfl ?_
              refine wp_idivN (q := 98) dX3_settle_97 (by omega) (by omega) (by omega) rfl ?_
              refine wp_iload (q := 100) dX3_settle_98 0 rfl rfl ?_
              refine wp_iconst (q := 101) dX3_settle_100 zq_iconst_2 rfl ?_
              refine wp_iremN (q := 102) dX3_settle_101 (by omega) (by omega) (by omega) rfl ?_
              refine wp_cvx (q := 105) (sp_handOf (d := d + 5) hot hu3 s4 hsl hhl) zm_X7_handOf zl_RX3_42 dX3_settle_102 rfl (by omega) (Nat.le_of_ble_eq_true rfl) zsh_162 rfl rfl ?_
              refine wp_istore (q := 107) (loc' := [(5, _), (4, _), (3, _), (2, _), (0, _), (1, _)]) dX3_settle_105 (by decide) rfl rfl ?_
              refine wp_aload_n (q := 108) dX3_settle_107 4 rfl rfl ?_
              refine wp_getR (q := 111) dX3_settle_108 zf_RX3_18 rfl zsh_156 (zr_156_2 _) rfl ?_
              refine wp_getR (q := 114) dX3_settle_111 zf_RX3_56 rfl zsh_162 (zr_162_6 _) rfl ?_
              refine wp_iload (q := 116) dX3_settle_114 0 rfl rfl ?_
              refine wp_aload_n (q := 117) dX3_settle_116 4 rfl rfl ?_
              refine wp_getI (q := 120) dX3_settle_117 zf_RX3_29 rfl zsh_156 rfl ?_
              rw [b5]
              refine wp_bipush (q := 122) dX3_settle_120 zq_bipush_10 rfl ?_
              refine wp_idivN (q := 123) dX3_settle_122 (by omega) (by omega) (by omega) rfl ?_
              refine wp_iast (q := 124) _ dX3_settle_123 zsh_165 rfl (by omega) (by decide) rfl ?_
              refine wp_aload_n (q := 125) dX3_settle_124 4 rfl rfl ?_
              refine wp_getR (q := 128) dX3_settle_125 zf_RX3_18 rfl zsh_156 (zr_156_2 _) rfl ?_
              refine wp_getR (q := 131) dX3_settle_128 zf_RX3_60 rfl zsh_162 (zr_162_7 _) rfl ?_
              refine wp_iload (q := 133) dX3_settle_131 0 rfl rfl ?_
              refine wp_aload_n (q := 134) dX3_settle_133 4 rfl rfl ?_
              refine wp_getI (q := 137) dX3_settle_134 zf_RX3_29 rfl zsh_156 rfl ?_
              rw [zu_ne (by decide), b5]
              refine wp_bipush (q := 139) dX3_settle_137 zq_bipush_10 rfl ?_
              refine wp_iremN (q := 140) dX3_settle_139 (by omega) (by omega) (by omega) rfl ?_
              refine wp_iast (q := 141) _ dX3_settle_140 zsh_166 rfl (by omega) (by decide) rfl ?_
              refine wp_iincN (q := 144) (loc' := [(3, _), (5, _), (4, _), (2, _), (0, _), (1, _)]) (n := 1) dX3_settle_141 rfl 2 rfl (by decide) rfl rfl ?_
              refine wp_iincN (q := 147) (loc' := [(4, _), (3, _), (5, _), (2, _), (0, _), (1, _)]) (n := 1) dX3_settle_144 rfl 2 rfl (by decide) rfl rfl ?_
              refine wp_goto (tgt := 49) dX3_settle_147 (by decide) ?_
              refine WP.sub (loc' := [(4, _), (3, _), (2, _), (0, _), (1, _)]) [0, 1, 3, 4, 5] rfl ?_
              have := ihk (q + 1) (zu (zu M4 165 (2 * wh (zrnd tb n u q) (q / 2) + q % 2) (nI (zbi (zfw tb (zrnd tb n u q) n (q / 2) (q % 2)) 30 / 10))) 166 (2 * wh (zrnd tb n u q) (q / 2) + q % 2) (nI (zbi (zfw tb (zrnd tb n u q) n (q / 2) (q % 2)) 30 % 10))) (by omega) ?_ (fun k h1 h2 => by rw [zu_ne (by decide), zu_ne (by decide)]; exact p4 k h1 h2) (by rw [zu_ne (by decide), zu_ne (by decide)]; exact g3) (by rw [zu_ne (by decide), zu_ne (by decide)]; exact g4) (fun x x1 x2 x3 => by rw [zu_ne (by omega), zu_ne (by omega)]; exact gf x x1 x2 x3)
              · rw [zcnt, hdid] at this
                exact this
              · rw [zrnd]
                unfold zturn
                rw [hdid]
                exact zSR_hold hu3 s4 hsl hhl (fun p => by rw [zu_ne (by decide), zu_o]; rfl) (fun p => by rw [zu_o, zu_ne (by decide)]; rfl) (fun a a1 a2 => by rw [zu_ne (by omega), zu_ne (by omega)])
        refine wp_iconst (q := 45) dX3_settle_44 zq_iconst_0 rfl ?_
        refine wp_istore_n (q := 46) (loc' := [(3, _), (2, _), (0, _), (1, _)]) dX3_settle_45 rfl (by decide) rfl rfl ?_
        refine wp_iconst (q := 47) dX3_settle_46 zq_iconst_0 rfl ?_
        refine wp_istore (q := 49) (loc' := [(4, _), (3, _), (2, _), (0, _), (1, _)]) dX3_settle_47 (by decide) rfl rfl ?_
        refine WP.sub (loc' := [(4, _), (3, _), (2, _), (0, _), (1, _)]) [0, 1, 2, 3, 4] rfl ?_
        exact inner (2 * n) 0 M2 (by omega) hsr hp k3 k4 hf
  refine wp_aload_n (q := 1) dX3_settle_0 0 rfl rfl ?_
  refine wp_getI (q := 4) dX3_settle_1 zf_RX3_21 rfl zsh_156 rfl ?_
  rw [hk]
  refine wp_if_eqN (tgt := 8) (q := 7) dX3_settle_4 (by decide) rfl (by omega) (fun _ => ?_) (fun hn => absurd hn (by omega))
  refine wp_aload_n (q := 9) dX3_settle_8 0 rfl rfl ?_
  refine wp_iconst (q := 10) dX3_settle_9 zq_iconst_1 rfl ?_
  refine wp_putZ (q := 13) dX3_settle_10 zf_RX3_21 rfl (Or.inr rfl) zsh_156 rfl ?_
  refine wp_aload_n (q := 14) dX3_settle_13 0 rfl rfl ?_
  refine wp_getR (q := 17) dX3_settle_14 zf_RX3_18 rfl zsh_156 (zr_156_2 _) rfl ?_
  refine wp_aload_n (q := 18) dX3_settle_17 1 rfl rfl ?_
  refine wp_cvy (q := 21) (sp_copyFrom (d := d) hot (Or.inl rfl) (by decide)) zm_X7_copyFrom zl_RX3_72 dX3_settle_18 rfl (by omega) (Nat.le_of_ble_eq_true rfl) zsh_162 rfl rfl ?_
  rintro _ M2 _ _ ⟨rfl, rfl, rfl, hc, hf⟩
  refine wp_aload_n (q := 22) dX3_settle_21 0 rfl rfl ?_
  refine wp_bipush (q := 24) dX3_settle_22 zq_bipush_13 rfl ?_
  refine wp_putI (q := 27) dX3_settle_24 zf_RX3_25 rfl zsh_156 rfl ?_
  refine wp_iconst (q := 28) dX3_settle_27 zq_iconst_1 rfl ?_
  refine wp_istore_n (q := 29) (loc' := [(2, _), (0, _), (1, _)]) dX3_settle_28 rfl (by decide) rfl rfl ?_
  refine WP.sub (loc' := [(2, _), (0, _), (1, _)]) [0, 1, 2] rfl ?_
  refine loop 12 1 13 v _ (by decide) (by decide) hv ?_ (fun k h1 h2 => ?_) ?_ ?_ (Or.inl ⟨rfl, rfl⟩) (fun x x1 x2 x3 => ?_)
  · exact zSR_fr (hc n v hv (zSR_fr hr (fun x a1 a2 => zu_ne (by omega)))) (fun x a1 a2 => zu_ne (by omega))
  · rw [zu_ne (by decide), hf 151 (by omega), zu_ne (by decide)]; exact h6 k h1 h2
  · rw [zu_k (by decide), hf 156 (by omega), zu_s]
  · rw [zu_s]
  · rw [zu_ne x2, hf x (by omega), zu_ne x2]

