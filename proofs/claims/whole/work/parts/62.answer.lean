def zqz (tb : zTb) (v : Nat → Nat) (n : Nat) (F : zFl) (s : Nat) : Int := zhd (zeva (fun i => (zqF tb v n s i : Int)) F [])
def zq0 (f : Nat → Int) : Nat → Int
  | 0 => -1
  | i + 1 => if f i ≠ 0 ∧ zq0 f i = -1 then (i : Int) else zq0 f i
def zq1 (f : Nat → Int) : Nat → Int
  | 0 => -1
  | i + 1 => if f i ≠ 0 then (i : Int) else zq1 f i
def zq2 (f : Nat → Int) : Nat → Nat
  | 0 => 0
  | i + 1 => if f i ≠ 0 then zq2 f i + 1 else zq2 f i
def zq3 (f : Nat → Int) : Nat → Int
  | 0 => 0
  | i + 1 => zq3 f i + f i
def zq4 (f : Nat → Int) : Nat → Int
  | 0 => 0
  | i + 1 => if i = 0 then f i else if zq4 f i < f i then f i else zq4 f i
def zq5 (f : Nat → Int) : Nat → Int
  | 0 => 0
  | i + 1 => if i = 0 then f i else if f i < zq5 f i then f i else zq5 f i
def zqan (wd : Nat) (f : Nat → Int) (n : Nat) : Int := if wd = 0 then zq0 f n else if wd = 1 then zq1 f n else if wd = 2 then (zq2 f n : Int) else if wd = 3 then zq3 f n else if wd = 4 then zq4 f n else zq5 f n
theorem zq0_b (f : Nat → Int) : ∀ i, i ≤ 8 → zb6 (zq0 f i) := by
  intro i
  induction i with
  | zero => intro _; exact ⟨by show (-1000000 : Int) ≤ -1; decide, by show (-1 : Int) ≤ 1000000; decide⟩
  | succ i ih =>
    intro h
    rw [zq0]
    split
    · exact ⟨by omega, by omega⟩
    · exact ih (by omega)
theorem zq1_b (f : Nat → Int) : ∀ i, i ≤ 8 → zb6 (zq1 f i) := by
  intro i
  induction i with
  | zero => intro _; exact ⟨by show (-1000000 : Int) ≤ -1; decide, by show (-1 : Int) ≤ 1000000; decide⟩
  | succ i ih =>
    intro h
    rw [zq1]
    split
    · exact ⟨by omega, by omega⟩
    · exact ih (by omega)
theorem zq2_b (f : Nat → Int) : ∀ i, zq2 f i ≤ i := by
  intro i
  induction i with
  | zero => exact Nat.le_refl _
  | succ i ih =>
    rw [zq2]
    split <;> omega
theorem zq4_b {f : Nat → Int} : ∀ i, (∀ j, j < i → zb6 (f j)) → zb6 (zq4 f i) := by
  intro i
  induction i with
  | zero => intro _; exact ⟨by show (-1000000 : Int) ≤ 0; decide, by show (0 : Int) ≤ 1000000; decide⟩
  | succ i ih =>
    intro h
    rw [zq4]
    split
    · exact h i (by omega)
    · split
      · exact h i (by omega)
      · exact ih (fun j hj => h j (by omega))
theorem zq5_b {f : Nat → Int} : ∀ i, (∀ j, j < i → zb6 (f j)) → zb6 (zq5 f i) := by
  intro i
  induction i with
  | zero => intro _; exact ⟨by show (-1000000 : Int) ≤ 0; decide, by show (0 : Int) ≤ 1000000; decide⟩
  | succ i ih =>
    intro h
    rw [zq5]
    split
    · exact h i (by omega)
    · split
      · exact h i (by omega)
      · exact ih (fun j hj => h j (by omega))
theorem zqF_b {M : zMI} {t n s : Nat} {tb : zTb} {v : Nat → Nat} (hTM : zTM M t n tb) (hv : zV n v) (hs : s < n) (i : Nat) : zqF tb v n s i ≤ 10000 := by
  have h8 := hv.1
  have hw := hv.2.1 s hs
  have h99 := hv.2.2.2.1 s hs
  have b0 := (hTM.1 (wh v s) 0 hw (by decide)).2
  have b1 := (hTM.1 (wh v s) 1 hw (by decide)).2
  have o1 := zo_sum tb v s ((s + 1) % n)
  have o2 := zo_sum tb v ((s + n - 1) % n) s
  have hm : (s + n - 1) % n < n := Nat.mod_lt _ (by omega)
  unfold zqF
  repeat' split
  all_goals omega
set_option maxHeartbeats 4000000 in
set_option maxRecDepth 100000 in
theorem sp_qanswer {d t n wd : Nat} {M : zMI} {L : zML} {tb : zTb} {v : Nat → Nat} {F : zFl} {b : Bool} (hT : zTab t) (hTM : zTM M t n tb) (hv : zV n v) (hr : zSR M 43 n v) (ha : 2 ≤ n → zAll M n tb v) (hF : zFR M 39 F) (ht : ztr F [] = some [b]) (hw : M 38 4 = nI (24 + wd)) (hwd : wd ≤ 5) : Sy yX5_answer YX5_answer (d + 3) [.ref 38, .ref 43, .ref 150] M L (zRf t) (fun v0 M' L' R' => v0 = some (.long (lI (zqan wd (zqz tb v n F) n))) ∧ L = L' ∧ R' = zRf t ∧ ∀ x, x ≠ 41 → x ≠ 42 → M' x = M x) := by
  refine Sp.of (by decide +kernel) rfl (fun h => by first | exact h | cases h) (Nat.le_of_ble_eq_true rfl) ?_
  intro w G
  have hT2 : t = 10 ∨ t = 24 := hT
  have h8 := hv.1
  have hf : zFo 39 := Or.inr (Or.inr (Or.inr (Or.inr rfl)))
  have hFb : ∀ s, s < n → zFb (fun i => (zqF tb v n s i : Int)) := fun s hs i _ => ⟨by show (-1000000 : Int) ≤ (zqF tb v n s i : Int); omega, by have := zqF_b hTM hv hs i; show (zqF tb v n s i : Int) ≤ 1000000; omega⟩
  obtain ⟨f, hf0⟩ : ∃ f, zqz tb v n F = f := ⟨_, rfl⟩
  have loop : ∀ k i (M2 : zMI), i + k = n → (∀ j, j < i → zb6 (f j)) → (∀ x, x ≠ 41 → x ≠ 42 → M2 x = M x) → WP w YX5_answer (d + 3, SS, 0, 0) G (some (zXp (fun v0 M' L' R' => v0 = some (.long (lI (zqan wd (zqz tb v n F) n))) ∧ L = L' ∧ R' = zRf t ∧ ∀ x, x ≠ 41 → x ≠ 42 → M' x = M x))) 20 [(3, .int (iI (zq0 f i))), (4, .int (iI (zq1 f i))), (5, .int (nI (zq2 f i))), (6, .long (lI (zq3 f i))), (8, .int (iI (zq4 f i))), (9, .int (iI (zq5 f i))), (10, .int (nI i)), (0, .ref 38), (1, .ref 43), (2, .ref 150)] [] SS M2 L (zRf t) := by
    intro k
    induction k with
    | zero =>
      intro i M2 hi hb hx
      have c0 := zq0_b f i (by omega)
      have c1 := zq1_b f i (by omega)
      have c2 := zq2_b f i
      have c4 := zq4_b (f := f) i hb
      have c5 := zq5_b (f := f) i hb
      have hin : i = n := by omega
      subst hin
      have fin : ∀ z, zqan wd f i = z → lI (zqan wd f i) = lI z := fun z hz => by rw [hz]
      refine wp_iload (q := 22) dX5_answer_20 6 rfl rfl ?_
      refine wp_aload_n (q := 23) dX5_answer_22 8 rfl rfl ?_
      refine wp_getI (q := 26) dX5_answer_23 zf_RX5_99 rfl zsh_43 rfl ?_
      rw [hx 43 (by decide) (by decide), hr.1]
      refine wp_icmp_geN (tgt := 126) (q := 29) dX5_answer_26 (by decide) rfl (by omega) (by omega) (fun _ => ?_) (fun hn => absurd hn (by omega))
      refine wp_aload_n (q := 127) dX5_answer_126 7 rfl rfl ?_
      refine wp_getI (q := 130) dX5_answer_127 zf_RX5_22 rfl zsh_38 rfl ?_
      rw [hx 38 (by decide) (by decide), hw]
      have hcs : wd = 0 ∨ wd = 1 ∨ wd = 2 ∨ wd = 3 ∨ wd = 4 ∨ wd = 5 := by omega
      rcases hcs with rfl | rfl | rfl | rfl | rfl | rfl
      · skip
        refine wp_tsIn (tgt := 164) (off := 34) dX5_answer_130 (by decide) (by decide) (by rfl) (by decide) ?_
        refine wp_iload_n (q := 165) dX5_answer_164 0 rfl rfl ?_
        refine wp_i2l (q := 166) dX5_answer_165 rfl ?_
        rw [iI_L c0]
        exact wp_lreturn dX5_answer_166 rfl ⟨rfl, ⟨by rw [hf0]; rfl, rfl, rfl, hx⟩⟩ rfl rfl
      · skip
        refine wp_tsIn (tgt := 167) (off := 37) dX5_answer_130 (by decide) (by decide) (by rfl) (by decide) ?_
        refine wp_iload (q := 169) dX5_answer_167 1 rfl rfl ?_
        refine wp_i2l (q := 170) dX5_answer_169 rfl ?_
        rw [iI_L c1]
        exact wp_lreturn dX5_answer_170 rfl ⟨rfl, ⟨by rw [hf0]; rfl, rfl, rfl, hx⟩⟩ rfl rfl
      · skip
        refine wp_tsIn (tgt := 171) (off := 41) dX5_answer_130 (by decide) (by decide) (by rfl) (by decide) ?_
        refine wp_iload (q := 173) dX5_answer_171 2 rfl rfl ?_
        refine wp_i2lN (q := 174) dX5_answer_173 (by omega) rfl ?_
        rw [lN_I]
        exact wp_lreturn dX5_answer_174 rfl ⟨rfl, ⟨by rw [hf0]; rfl, rfl, rfl, hx⟩⟩ rfl rfl
      · skip
        refine wp_tsIn (tgt := 175) (off := 45) dX5_answer_130 (by decide) (by decide) (by rfl) (by decide) ?_
        refine wp_lload (q := 177) dX5_answer_175 3 rfl rfl ?_
        exact wp_lreturn dX5_answer_177 rfl ⟨rfl, ⟨by rw [hf0]; rfl, rfl, rfl, hx⟩⟩ rfl rfl
      · skip
        refine wp_tsIn (tgt := 178) (off := 48) dX5_answer_130 (by decide) (by decide) (by rfl) (by decide) ?_
        refine wp_iload (q := 180) dX5_answer_178 4 rfl rfl ?_
        refine wp_i2l (q := 181) dX5_answer_180 rfl ?_
        rw [iI_L c4]
        exact wp_lreturn dX5_answer_181 rfl ⟨rfl, ⟨by rw [hf0]; rfl, rfl, rfl, hx⟩⟩ rfl rfl
      · skip
        refine wp_tsOut (tgt := 182) dX5_answer_130 (by exact Or.inr (by decide)) (by decide) ?_
        refine wp_iload (q := 184) dX5_answer_182 5 rfl rfl ?_
        refine wp_i2l (q := 185) dX5_answer_184 rfl ?_
        rw [iI_L c5]
        exact wp_lreturn dX5_answer_185 rfl ⟨rfl, ⟨by rw [hf0]; rfl, rfl, rfl, hx⟩⟩ rfl rfl
    | succ k ih =>
      intro i M2 hi hb hx
      have hin : i < n := by omega
      have c0 := zq0_b f i (by omega)
      have c4 := zq4_b (f := f) i hb
      have c5 := zq5_b (f := f) i hb
      have hr2 : zSR M2 43 n v := by
        obtain ⟨q0, q1, q2, q3, q4⟩ := hr
        refine ⟨by rw [hx 43 (by decide) (by decide)]; exact q0, by rw [hx 43 (by decide) (by decide)]; exact q1, by rw [hx 43 (by decide) (by decide)]; exact q2, by rw [hx 43 (by decide) (by decide)]; exact q3, fun s hs => ?_⟩
        rw [hx 44 (by decide) (by decide), hx 45 (by decide) (by decide), hx 46 (by decide) (by decide), hx 47 (by decide) (by decide)]
        exact q4 s hs
      have ha2 : 2 ≤ n → zAll M2 n tb v := fun h2 c hc => by
        rw [hx 153 (by decide) (by decide), hx 154 (by decide) (by decide), hx 155 (by decide) (by decide)]
        exact ha h2 c hc
      refine wp_iload (q := 22) dX5_answer_20 6 rfl rfl ?_
      refine wp_aload_n (q := 23) dX5_answer_22 8 rfl rfl ?_
      refine wp_getI (q := 26) dX5_answer_23 zf_RX5_99 rfl zsh_43 rfl ?_
      rw [hr2.1]
      refine wp_icmp_geN (tgt := 126) (q := 29) dX5_answer_26 (by decide) rfl (by omega) (by omega) (fun hn => absurd hn (by omega)) (fun _ => ?_)
      refine wp_aload_n (q := 30) dX5_answer_29 7 rfl rfl ?_
      refine wp_aload_n (q := 31) dX5_answer_30 8 rfl rfl ?_
      refine wp_aload_n (q := 32) dX5_answer_31 9 rfl rfl ?_
      refine wp_iload (q := 34) dX5_answer_32 6 rfl rfl ?_
      refine wp_cvy (q := 37) (sp_qlook (d := 0) hT (zTM_fr hTM (fun x _ _ _ => hx x (by omega) (by omega))) hv hr2 ha2 hin) zm_X5_look zl_RX5_104 dX5_answer_34 rfl (by omega) (Nat.le_of_ble_eq_true rfl) zsh_38 rfl rfl ?_
      rintro _ M3 _ _ ⟨rfl, rfl, rfl, f3⟩
      have hx3 : ∀ x, x ≠ 41 → x ≠ 42 → M3 x = M x := fun x x1 x2 => by rw [f3.2 x x2]; exact hx x x1 x2
      refine wp_aload_n (q := 38) dX5_answer_37 7 rfl rfl ?_
      refine wp_getR (q := 41) dX5_answer_38 zf_RX5_12 rfl zsh_38 (by first | rfl | assumption) rfl ?_
      refine wp_aload_n (q := 42) dX5_answer_41 7 rfl rfl ?_
      refine wp_getR (q := 45) dX5_answer_42 zf_RX5_18 rfl zsh_38 (by first | rfl | assumption) rfl ?_
      refine wp_cvy (q := 48) (sp_value (d := 0) (f := 39) (fa := 42) (F := fun j => (zqF tb v n i j : Int)) hf (p := F) (b := b) ⟨by rw [hx3 39 (by decide) (by decide)]; exact hF.1, hF.2.1, fun j op a hj => by rw [hx3 40 (by decide) (by decide)]; exact hF.2.2 j op a hj⟩ (Or.inl rfl) (fun j hj => by rw [f3.1 j hj, nI_I]) (hFb i hin) ht) zm_X0_value zl_RX5_108 dX5_answer_45 rfl (by omega) (Nat.le_of_ble_eq_true rfl) zsh_39 rfl rfl ?_
      rintro _ M4 _ _ ⟨⟨z, hz1, hz2, -, rfl⟩, rfl, rfl, hx4⟩
      have hfz : f i = z := by rw [← hf0]; show zhd (zeva _ F []) = z; rw [hz1]; rfl
      have hx5 : ∀ x, x ≠ 41 → x ≠ 42 → M4 x = M x := fun x x1 x2 => by rw [hx4 x x1]; exact hx3 x x1 x2
      have hb' : ∀ j, j < i + 1 → zb6 (f j) := fun j hj => by
        by_cases e : j = i
        · rw [e, hfz]; exact hz2
        · exact hb j (by omega)
      have c5' := zq5_b (f := f) (i + 1) hb'
      have go118 : ∀ x5 : Int32, x5 = iI (zq5 f (i + 1)) → WP w YX5_answer (d + 3, SS, 0, 0) G (some (zXp (fun v0 M' L' R' => v0 = some (.long (lI (zqan wd (zqz tb v n F) n))) ∧ L = L' ∧ R' = zRf t ∧ ∀ x, x ≠ 41 → x ≠ 42 → M' x = M x))) 118 [(11, .int (iI z)), (3, .int (iI (zq0 f (i + 1)))), (4, .int (iI (zq1 f (i + 1)))), (5, .int (nI (zq2 f (i + 1)))), (6, .long (lI (zq3 f (i + 1)))), (8, .int (iI (zq4 f (i + 1)))), (9, .int (iI (zq5 f i))), (10, .int (nI i)), (0, .ref 38), (1, .ref 43), (2, .ref 150)] [.int x5] SS M4 L (zRf t) := by
        intro x5 e5
        subst e5
        refine wp_istore (q := 120) (loc' := [(9, _), (11, _), (3, _), (4, _), (5, _), (6, _), (8, _), (10, _), (0, _), (1, _), (2, _)]) dX5_answer_118 (by decide) rfl rfl ?_
        refine wp_iincN (q := 123) (loc' := [(10, _), (9, _), (11, _), (3, _), (4, _), (5, _), (6, _), (8, _), (0, _), (1, _), (2, _)]) (n := 1) dX5_answer_120 rfl 7 rfl (by decide) rfl rfl ?_
        refine wp_goto (tgt := 20) dX5_answer_123 (by decide) ?_
        refine WP.sub (loc' := [(3, _), (4, _), (5, _), (6, _), (8, _), (9, _), (10, _), (0, _), (1, _), (2, _)]) [3, 4, 5, 6, 7, 1, 0, 8, 9, 10] rfl ?_
        exact ih (i + 1) M4 (by omega) hb' hx5
      have go99 : ∀ x4 : Int32, x4 = iI (zq4 f (i + 1)) → WP w YX5_answer (d + 3, SS, 0, 0) G (some (zXp (fun v0 M' L' R' => v0 = some (.long (lI (zqan wd (zqz tb v n F) n))) ∧ L = L' ∧ R' = zRf t ∧ ∀ x, x ≠ 41 → x ≠ 42 → M' x = M x))) 99 [(11, .int (iI z)), (3, .int (iI (zq0 f (i + 1)))), (4, .int (iI (zq1 f (i + 1)))), (5, .int (nI (zq2 f (i + 1)))), (6, .long (lI (zq3 f (i + 1)))), (8, .int (iI (zq4 f i))), (9, .int (iI (zq5 f i))), (10, .int (nI i)), (0, .ref 38), (1, .ref 43), (2, .ref 150)] [.int x4] SS M4 L (zRf t) := by
        intro x4 e4
        subst e4
        refine wp_istore (q := 101) (loc' := [(8, _), (11, _), (3, _), (4, _), (5, _), (6, _), (9, _), (10, _), (0, _), (1, _), (2, _)]) dX5_answer_99 (by decide) rfl rfl ?_
        refine wp_iload (q := 103) dX5_answer_101 7 rfl rfl ?_
        refine wp_if_neN (tgt := 111) (q := 106) dX5_answer_103 (by decide) rfl (by omega) (fun d0 => ?_) (fun d0 => ?_)
        · skip
          refine wp_iload (q := 113) dX5_answer_111 6 rfl rfl ?_
          refine wp_iload (q := 115) dX5_answer_113 1 rfl rfl ?_
          refine wp_mmin (q := 118) dX5_answer_115 zl_RX5_117 (by omega) (Nat.le_of_ble_eq_true rfl) (Nat.le_refl _) (Nat.le_refl _) rfl ?_
          refine WP.sub (loc' := [(11, _), (3, _), (4, _), (5, _), (6, _), (8, _), (9, _), (10, _), (0, _), (1, _), (2, _)]) [1, 2, 3, 4, 5, 0, 6, 7, 8, 9, 10] rfl ?_
          refine go118 _ ?_
          rw [zq5, if_neg d0, hfz]
          by_cases e : z < zq5 f i
          · rw [if_pos e, if_pos ((iI_lt hz2 c5).mpr e)]
          · rw [if_neg e, if_neg (fun c => e ((iI_lt hz2 c5).mp c))]
        · skip
          refine wp_iload (q := 108) dX5_answer_106 1 rfl rfl ?_
          refine wp_goto (tgt := 118) dX5_answer_108 (by decide) ?_
          refine WP.sub (loc' := [(11, _), (3, _), (4, _), (5, _), (6, _), (8, _), (9, _), (10, _), (0, _), (1, _), (2, _)]) [1, 2, 3, 4, 5, 0, 6, 7, 8, 9, 10] rfl ?_
          exact go118 _ (by rw [zq5, if_pos d0, hfz])
      have go74 : ∀ (x0 x1 : Int32) (x2 : Nat), x0 = iI (zq0 f (i + 1)) → x1 = iI (zq1 f (i + 1)) → x2 = zq2 f (i + 1) → WP w YX5_answer (d + 3, SS, 0, 0) G (some (zXp (fun v0 M' L' R' => v0 = some (.long (lI (zqan wd (zqz tb v n F) n))) ∧ L = L' ∧ R' = zRf t ∧ ∀ x, x ≠ 41 → x ≠ 42 → M' x = M x))) 74 [(11, .int (iI z)), (3, .int x0), (4, .int x1), (5, .int (nI x2)), (6, .long (lI (zq3 f i))), (8, .int (iI (zq4 f i))), (9, .int (iI (zq5 f i))), (10, .int (nI i)), (0, .ref 38), (1, .ref 43), (2, .ref 150)] [] SS M4 L (zRf t) := by
        intro x0 x1 x2 e0 e1 e2
        subst e0 e1 e2
        refine wp_lload (q := 76) dX5_answer_74 4 rfl rfl ?_
        refine wp_iload (q := 78) dX5_answer_76 0 rfl rfl ?_
        refine wp_i2l (q := 79) dX5_answer_78 rfl ?_
        refine wp_ladd (q := 80) dX5_answer_79 rfl ?_
        rw [iI_L hz2, lI_add, show zq3 f i + z = zq3 f (i + 1) from by rw [zq3, hfz]]
        refine wp_lstore (q := 82) (loc' := [(6, _), (11, _), (3, _), (4, _), (5, _), (8, _), (9, _), (10, _), (0, _), (1, _), (2, _)]) dX5_answer_80 (by decide) rfl rfl ?_
        refine wp_iload (q := 84) dX5_answer_82 7 rfl rfl ?_
        refine wp_if_neN (tgt := 92) (q := 87) dX5_answer_84 (by decide) rfl (by omega) (fun d0 => ?_) (fun d0 => ?_)
        · skip
          refine wp_iload (q := 94) dX5_answer_92 5 rfl rfl ?_
          refine wp_iload (q := 96) dX5_answer_94 1 rfl rfl ?_
          refine wp_mmax (q := 99) dX5_answer_96 zl_RX5_112 (by omega) (Nat.le_of_ble_eq_true rfl) (Nat.le_refl _) (Nat.le_refl _) rfl ?_
          refine WP.sub (loc' := [(11, _), (3, _), (4, _), (5, _), (6, _), (8, _), (9, _), (10, _), (0, _), (1, _), (2, _)]) [1, 2, 3, 4, 0, 5, 6, 7, 8, 9, 10] rfl ?_
          refine go99 _ ?_
          rw [zq4, if_neg d0, hfz]
          by_cases e : zq4 f i < z
          · rw [if_pos e, if_pos ((iI_lt c4 hz2).mpr e)]
          · rw [if_neg e, if_neg (fun c => e ((iI_lt c4 hz2).mp c))]
        · skip
          refine wp_iload (q := 89) dX5_answer_87 1 rfl rfl ?_
          refine wp_goto (tgt := 99) dX5_answer_89 (by decide) ?_
          refine WP.sub (loc' := [(11, _), (3, _), (4, _), (5, _), (6, _), (8, _), (9, _), (10, _), (0, _), (1, _), (2, _)]) [1, 2, 3, 4, 0, 5, 6, 7, 8, 9, 10] rfl ?_
          exact go99 _ (by rw [zq4, if_pos d0, hfz])
      have go66 : f i ≠ 0 → ∀ x0 : Int32, x0 = iI (zq0 f (i + 1)) → WP w YX5_answer (d + 3, SS, 0, 0) G (some (zXp (fun v0 M' L' R' => v0 = some (.long (lI (zqan wd (zqz tb v n F) n))) ∧ L = L' ∧ R' = zRf t ∧ ∀ x, x ≠ 41 → x ≠ 42 → M' x = M x))) 66 [(11, .int (iI z)), (3, .int (iI (zq0 f i))), (4, .int (iI (zq1 f i))), (5, .int (nI (zq2 f i))), (6, .long (lI (zq3 f i))), (8, .int (iI (zq4 f i))), (9, .int (iI (zq5 f i))), (10, .int (nI i)), (0, .ref 38), (1, .ref 43), (2, .ref 150)] [.int x0] SS M4 L (zRf t) := by
        intro hne x0 e0
        refine wp_istore_n (q := 67) (loc' := [(3, _), (11, _), (4, _), (5, _), (6, _), (8, _), (9, _), (10, _), (0, _), (1, _), (2, _)]) dX5_answer_66 rfl (by decide) rfl rfl ?_
        refine wp_iload (q := 69) dX5_answer_67 7 rfl rfl ?_
        refine wp_istore (q := 71) (loc' := [(4, _), (3, _), (11, _), (5, _), (6, _), (8, _), (9, _), (10, _), (0, _), (1, _), (2, _)]) dX5_answer_69 (by decide) rfl rfl ?_
        refine wp_iincN (q := 74) (loc' := [(5, _), (4, _), (3, _), (11, _), (6, _), (8, _), (9, _), (10, _), (0, _), (1, _), (2, _)]) (n := 1) dX5_answer_71 rfl 3 rfl (by decide) rfl rfl ?_
        refine WP.sub (loc' := [(11, _), (3, _), (4, _), (5, _), (6, _), (8, _), (9, _), (10, _), (0, _), (1, _), (2, _)]) [3, 2, 1, 0, 4, 5, 6, 7, 8, 9, 10] rfl ?_
        exact go74 _ _ _ e0 (by rw [zq1, if_pos hne, nI_I]) (by rw [zq2, if_pos hne])
      refine wp_istore (q := 50) (loc' := [(11, _), (3, _), (4, _), (5, _), (6, _), (8, _), (9, _), (10, _), (0, _), (1, _), (2, _)]) dX5_answer_48 (by decide) rfl rfl ?_
      refine wp_iload (q := 52) dX5_answer_50 0 rfl rfl ?_
      refine wp_if_eq (tgt := 74) (q := 55) dX5_answer_52 (by decide) rfl (fun d0 => ?_) (fun d0 => ?_)
      · skip
        have hz0 : z = 0 := (iI_eq hz2 ⟨by decide, by decide⟩).mp d0
        refine WP.sub (loc' := [(11, _), (3, _), (4, _), (5, _), (6, _), (8, _), (9, _), (10, _), (0, _), (1, _), (2, _)]) [0, 1, 2, 3, 4, 5, 6, 7, 8, 9, 10] rfl ?_
        exact go74 _ _ _ (by rw [zq0, if_neg (fun c => c.1 (by rw [hfz]; exact hz0))]) (by rw [zq1, if_neg (fun c => c (by rw [hfz]; exact hz0))]) (by rw [zq2, if_neg (fun c => c (by rw [hfz]; exact hz0))])
      · skip
        have hz0 : f i ≠ 0 := fun c => d0 (by rw [← hfz, c]; rfl)
        refine wp_iload_n (q := 56) dX5_answer_55 1 rfl rfl ?_
        refine wp_iconst (q := 57) dX5_answer_56 zq_iconst_m1 rfl ?_
        refine wp_icmp_ne (tgt := 65) (q := 60) dX5_answer_57 (by decide) rfl (fun d1 => ?_) (fun d1 => ?_)
        · skip
          refine wp_iload_n (q := 66) dX5_answer_65 1 rfl rfl ?_
          refine WP.sub (loc' := [(11, _), (3, _), (4, _), (5, _), (6, _), (8, _), (9, _), (10, _), (0, _), (1, _), (2, _)]) [0, 1, 2, 3, 4, 5, 6, 7, 8, 9, 10] rfl ?_
          exact go66 hz0 _ (by rw [zq0, if_neg (fun c => d1 (by rw [c.2]; rfl))])
        · skip
          refine wp_iload (q := 62) dX5_answer_60 7 rfl rfl ?_
          refine wp_goto (tgt := 66) dX5_answer_62 (by decide) ?_
          refine WP.sub (loc' := [(11, _), (3, _), (4, _), (5, _), (6, _), (8, _), (9, _), (10, _), (0, _), (1, _), (2, _)]) [0, 1, 2, 3, 4, 5, 6, 7, 8, 9, 10] rfl ?_
          refine go66 hz0 _ ?_
          have e1 : zq0 f i = -1 := (iI_eq c0 ⟨by decide, by decide⟩).mp d1
          rw [zq0, if_pos ⟨hz0, e1⟩, nI_I]
  refine wp_iconst (q := 1) dX5_answer_0 zq_iconst_m1 rfl ?_
  refine wp_istore_n (q := 2) (loc' := [(3, _), (0, _), (1, _), (2, _)]) dX5_answer_1 rfl (by decide) rfl rfl ?_
  refine wp_iconst (q := 3) dX5_answer_2 zq_iconst_m1 rfl ?_
  refine wp_istore (q := 5) (loc' := [(4, _), (3, _), (0, _), (1, _), (2, _)]) dX5_answer_3 (by decide) rfl rfl ?_
  refine wp_iconst (q := 6) dX5_answer_5 zq_iconst_0 rfl ?_
  refine wp_istore (q := 8) (loc' := [(5, _), (4, _), (3, _), (0, _), (1, _), (2, _)]) dX5_answer_6 (by decide) rfl rfl ?_
  refine wp_lconst (q := 9) dX5_answer_8 zq_lconst_0 rfl ?_
  refine wp_lstore (q := 11) (loc' := [(6, _), (5, _), (4, _), (3, _), (0, _), (1, _), (2, _)]) dX5_answer_9 (by decide) rfl rfl ?_
  refine wp_iconst (q := 12) dX5_answer_11 zq_iconst_0 rfl ?_
  refine wp_istore (q := 14) (loc' := [(8, _), (6, _), (5, _), (4, _), (3, _), (0, _), (1, _), (2, _)]) dX5_answer_12 (by decide) rfl rfl ?_
  refine wp_iconst (q := 15) dX5_answer_14 zq_iconst_0 rfl ?_
  refine wp_istore (q := 17) (loc' := [(9, _), (8, _), (6, _), (5, _), (4, _), (3, _), (0, _), (1, _), (2, _)]) dX5_answer_15 (by decide) rfl rfl ?_
  refine wp_iconst (q := 18) dX5_answer_17 zq_iconst_0 rfl ?_
  refine wp_istore (q := 20) (loc' := [(10, _), (9, _), (8, _), (6, _), (5, _), (4, _), (3, _), (0, _), (1, _), (2, _)]) dX5_answer_18 (by decide) rfl rfl ?_
  refine WP.sub (loc' := [(3, _), (4, _), (5, _), (6, _), (8, _), (9, _), (10, _), (0, _), (1, _), (2, _)]) [6, 5, 4, 3, 2, 1, 0, 7, 8, 9] rfl ?_
  exact loop n 0 M (Nat.zero_add _) (fun j hj => absurd hj (Nat.not_lt_zero _)) (fun x _ _ => rfl)

