-- a question read: from a text that stands at its start
def zqa2 (T : Nat → Nat → Nat) (c : Nat) (r : zPF) : zPF := if T r.1.1 0 = 0 then r else (zpfh T c r.1, r.2)
def zqa (T : Nat → Nat → Nat) (c : Nat) (p : zP) : zPF := if (zpWo T c p 24 29).2 ≤ 2 then zqa2 T c (zqt T c (zpWo T c p 24 29).1 []) else zqa2 T c (zsum T c true (zpWo T c p 24 29).1 [])
theorem zpWo_le (T : Nat → Nat → Nat) (c : Nat) (p : zP) : (zpWo T c p 24 29).2 ≤ 5 := by
  unfold zpWo
  split
  · show T p.1 4 - 24 ≤ 5
    omega
  · exact Nat.zero_le _
theorem zkp_Wo {T : Nat → Nat → Nat} {c f l : Nat} {p : zP} (hE : zTE T c) (hp : p.1 < c) : zkp T c p (zpWo T c p f l).1 := by
  unfold zpWo
  split
  · exact zkp_n hE hp
  · exact zkp_f hE zpf_1
theorem zTT_fr {M M' : zMI} {T : Nat → Nat → Nat} {c : Nat} {p : zP} (h : zTT M T c p) (e : ∀ x, x < 9 → M' x = M x) : zTT M' T c p := by
  obtain ⟨a, b1, c1, d1, e1, e2, e3, e4, e5, g⟩ := h
  refine ⟨a, b1, c1, d1, by rw [e 2 (by decide)]; exact e1, by rw [e 2 (by decide)]; exact e2, by rw [e 2 (by decide)]; exact e3, by rw [e 2 (by decide)]; exact e4, by rw [e 2 (by decide)]; exact e5, fun i hi => ?_⟩
  rw [e 3 (by decide), e 4 (by decide), e 5 (by decide), e 6 (by decide), e 7 (by decide)]
  exact g i hi
set_option maxHeartbeats 4000000 in
set_option maxRecDepth 100000 in
theorem sp_qread {d t c : Nat} {M : zMI} {L : zML} {T : Nat → Nat → Nat} {p : zP} (hE : zTE T c) (h : zTT M T c p) (hQ : zok T c 8 p) {A : zPF} (hA : zqa T c p = A) : Sy yX5_readAll YX5_readAll (d + 75) [.ref 38] M L (zRf t) (fun v0 M' L' R' => v0 = none ∧ L = L' ∧ R' = zRf t ∧ zSM M' T c true 39 A ∧ M' 38 4 = nI (24 + (zpWo T c p 24 29).2) ∧ ∀ x, x ≠ 2 → x ≠ 9 → x ≠ 38 → x ≠ 39 → x ≠ 40 → M' x = M x) := by
  refine Sp.of (by decide +kernel) rfl (fun h => by first | exact h | cases h) (Nat.le_of_ble_eq_true rfl) ?_
  intro w G
  have hf : zFo 39 := Or.inr (Or.inr (Or.inr (Or.inr rfl)))
  have hw5 := zpWo_le T c p
  have hk := zkp_Wo (f := 24) (l := 29) hE hQ.2.1
  have hQ1 := zkp_ok hk hQ
  unfold zqa at hA
  refine wp_aload_n (q := 1) dX5_readAll_0 0 rfl rfl ?_
  refine wp_getR (q := 4) dX5_readAll_1 zf_RX5_12 rfl zsh_38 (zr_38_2 _) rfl ?_
  refine wp_cvx (q := 7) (sp_fclear (d := 0) hf) zm_X0_clear zl_RX5_34 dX5_readAll_4 rfl (by omega) (Nat.le_of_ble_eq_true rfl) zsh_39 rfl rfl ?_
  refine wp_aload_n (q := 8) dX5_readAll_7 0 rfl rfl ?_
  refine wp_getR (q := 11) dX5_readAll_8 zf_RX5_30 rfl zsh_38 (zr_38_1 _) rfl ?_
  refine wp_iconst (q := 12) dX5_readAll_11 zq_iconst_1 rfl ?_
  refine wp_putZ (q := 15) dX5_readAll_12 zf_RX5_37 rfl (Or.inr rfl) zsh_9 rfl ?_
  refine wp_aload_n (q := 16) dX5_readAll_15 0 rfl rfl ?_
  refine wp_bipush (q := 18) dX5_readAll_16 zq_bipush_24 rfl ?_
  refine wp_aload_n (q := 19) dX5_readAll_18 0 rfl rfl ?_
  refine wp_getR (q := 22) dX5_readAll_19 zf_RX5_26 rfl zsh_38 (zr_38_0 _) rfl ?_
  refine wp_bipush (q := 24) dX5_readAll_22 zq_bipush_24 rfl ?_
  refine wp_bipush (q := 26) dX5_readAll_24 zq_bipush_29 rfl ?_
  have h1 : zTT (zu (zu M 39 2 (nI 0)) 9 1 (nI 1)) T c p := zTT_fr h (fun x hx => by rw [zu_ne (by omega), zu_ne (by omega)])
  refine wp_cvy (q := 29) (sp_needWordOf (d := 0) (f := 24) (l := 29) h1 (by decide) (by decide)) zm_X10_needWordOf zl_RX5_43 dX5_readAll_26 rfl (by omega) (Nat.le_of_ble_eq_true rfl) zsh_2 rfl rfl ?_
  rintro _ M2 _ _ ⟨rfl, rfl, rfl, h2, hx2⟩
  have h3 : zSM (zu M2 38 4 (nI (24 + (zpWo T c p 24 29).2))) T c true 39 ((zpWo T c p 24 29).1, []) := by
    refine ⟨zTT_fr h2 (fun x hx => zu_ne (by omega)), ⟨?_, Nat.zero_le _, fun i op a hi => by simp at hi⟩, ?_⟩
    · rw [zu_ne (by decide), hx2 39 (by decide), zu_ne (by decide), zu_s]; rfl
    · rw [zu_ne (by decide), hx2 9 (by decide), zu_s]; rfl
  have hx3 : ∀ x, x ≠ 2 → x ≠ 9 → x ≠ 38 → x ≠ 39 → zu M2 38 4 (nI (24 + (zpWo T c p 24 29).2)) x = M x := fun x x1 x2 x3 x4 => by rw [zu_ne x3, hx2 x x1, zu_ne x2, zu_ne x4]
  refine wp_iaddN (q := 30) dX5_readAll_29 rfl ?_
  refine wp_putI (q := 33) dX5_readAll_30 zf_RX5_22 rfl zsh_38 rfl ?_
  refine wp_aload_n (q := 34) dX5_readAll_33 0 rfl rfl ?_
  have fin : ∀ (M4 : zMI) (r : zPF), zSM M4 T c true 39 r → (∀ x, x ≠ 2 → x ≠ 39 → x ≠ 39 + 1 → M4 x = zu M2 38 4 (nI (24 + (zpWo T c p 24 29).2)) x) → zqa2 T c r = A → WP w YX5_readAll (d + 75, SS, 0, 0) G (some (zXp (fun v0 M' L' R' => v0 = none ∧ L = L' ∧ R' = zRf t ∧ zSM M' T c true 39 A ∧ M' 38 4 = nI (24 + (zpWo T c p 24 29).2) ∧ ∀ x, x ≠ 2 → x ≠ 9 → x ≠ 38 → x ≠ 39 → x ≠ 40 → M' x = M x))) 60 [(0, .ref 38)] [] SS M4 L (zRf t) := by
    intro M4 r h4 hx4 hr
    have w4 : M4 38 4 = nI (24 + (zpWo T c p 24 29).2) := by rw [hx4 38 (by decide) (by decide) (by decide), zu_s]
    unfold zqa2 at hr
    refine wp_aload_n (q := 61) dX5_readAll_60 0 rfl rfl ?_
    refine wp_getR (q := 64) dX5_readAll_61 zf_RX5_26 rfl zsh_38 (zr_38_0 _) rfl ?_
    refine wp_cvx (q := 67) (sp_atEnd (d := 0) h4.1) zm_X10_atEnd zl_RX5_56 dX5_readAll_64 rfl (by omega) (Nat.le_of_ble_eq_true rfl) zsh_2 rfl rfl ?_
    by_cases c1 : T r.1.1 0 = 0
    · rw [if_pos c1] at hr
      rw [if_pos c1]
      refine wp_if_neN (tgt := 77) (q := 70) dX5_readAll_67 (by decide) rfl (by omega) (fun _ => ?_) (fun hn => absurd hn (by omega))
      exact wp_return dX5_readAll_77 rfl ⟨rfl, ⟨rfl, rfl, rfl, by rw [← hr]; exact h4, w4, fun x x1 x2 x3 x4 x5 => by rw [hx4 x x1 x4 x5]; exact hx3 x x1 x2 x3 x4⟩⟩ rfl rfl
    · rw [if_neg c1] at hr
      rw [if_neg c1]
      refine wp_if_neN (tgt := 77) (q := 70) dX5_readAll_67 (by decide) rfl (by omega) (fun hn => absurd hn (by omega)) (fun _ => ?_)
      refine wp_aload_n (q := 71) dX5_readAll_70 0 rfl rfl ?_
      refine wp_getR (q := 74) dX5_readAll_71 zf_RX5_26 rfl zsh_38 (zr_38_0 _) rfl ?_
      refine wp_cvy (q := 77) (sp_failHere (d := 0) h4.1) zm_X10_failHere zl_RX5_60 dX5_readAll_74 rfl (by omega) (Nat.le_of_ble_eq_true rfl) zsh_2 rfl rfl ?_
      rintro _ M5 _ _ ⟨rfl, rfl, rfl, h5, hx5⟩
      exact wp_return dX5_readAll_77 rfl ⟨rfl, ⟨rfl, rfl, rfl, by rw [← hr]; exact zSM_t hf (p := r.1) (F := r.2) h4 h5 hx5, by rw [hx5 38 (by decide)]; exact w4, fun x x1 x2 x3 x4 x5 => by rw [hx5 x x1, hx4 x x1 x4 x5]; exact hx3 x x1 x2 x3 x4⟩⟩ rfl rfl
  refine wp_getI (q := 37) dX5_readAll_34 zf_RX5_22 rfl zsh_38 rfl ?_
  rw [zu_s]
  refine wp_bipush (q := 39) dX5_readAll_37 zq_bipush_26 rfl ?_
  refine wp_icmp_gtN (tgt := 49) (q := 42) dX5_readAll_39 (by decide) rfl (by omega) (by omega) (fun hgt => ?_) (fun hgt => ?_)
  · skip
    rw [if_neg (by omega)] at hA
    refine wp_aload_n (q := 50) dX5_readAll_49 0 rfl rfl ?_
    refine wp_getR (q := 53) dX5_readAll_50 zf_RX5_30 rfl zsh_38 (zr_38_1 _) rfl ?_
    refine wp_aload_n (q := 54) dX5_readAll_53 0 rfl rfl ?_
    refine wp_getR (q := 57) dX5_readAll_54 zf_RX5_12 rfl zsh_38 (zr_38_2 _) rfl ?_
    refine wp_cvny (q := 60) (sp_sum (d := d) hE hf h3 hQ1) zm_X8_sum (fun U H h => h.2.2.2.2.2.2.2.1) dX5_readAll_57 rfl (by omega) (Nat.le_of_ble_eq_true rfl) zsh_9 rfl rfl ?_
    rintro _ M4 _ _ ⟨rfl, rfl, rfl, h4, hx4⟩
    refine WP.sub (loc' := [(0, _)]) [0] rfl ?_
    exact fin M4 _ h4 hx4 hA
  · skip
    rw [if_pos (by omega)] at hA
    refine wp_aload_n (q := 43) dX5_readAll_42 0 rfl rfl ?_
    refine wp_cvy (q := 46) (sp_testA (d := d) hE h3 hQ1) zm_X5_test zl_RX5_49 dX5_readAll_43 rfl (by omega) (Nat.le_of_ble_eq_true rfl) zsh_38 rfl rfl ?_
    rintro _ M4 _ _ ⟨rfl, rfl, rfl, h4, hx4⟩
    refine wp_goto (tgt := 60) dX5_readAll_46 (by decide) ?_
    refine WP.sub (loc' := [(0, _)]) [0] rfl ?_
    exact fin M4 _ h4 hx4 hA

