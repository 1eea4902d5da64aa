def zvR (b : Nat → Nat) : Nat → Nat := fun j => if j < 3 then 256 * b (2 * j) + b (2 * j + 1) else b (j + 3)
theorem zvR_w (b : Nat → Nat) (s : Nat) : wh (zvR b) s = b (6 + 6 * s) := by
  show zvR b (3 + 6 * s) = _
  unfold zvR
  rw [if_neg (by omega)]
  congr 1
  omega
theorem zvR_h (b : Nat → Nat) (s : Nat) : ht (zvR b) s = b (6 + 6 * s + 1) := by
  show zvR b (4 + 6 * s) = _
  unfold zvR
  rw [if_neg (by omega)]
  congr 1
  omega
theorem zvR_g (b : Nat → Nat) (s h : Nat) : gr (zvR b) s h = b (6 + 6 * s + 2 + 2 * h) := by
  show zvR b (5 + 6 * s + 2 * h) = _
  unfold zvR
  rw [if_neg (by omega)]
  congr 1
  omega
theorem zvR_l (b : Nat → Nat) (s h : Nat) : lw (zvR b) s h = b (6 + 6 * s + 3 + 2 * h) := by
  show zvR b (6 + 6 * s + 2 * h) = _
  unfold zvR
  rw [if_neg (by omega)]
  congr 1
  omega
theorem zV_R {n k : Nat} {b : Nat → Nat} (h8 : n ≤ 8) (h : zIok n k b) : zV n (zvR b) := by
  obtain ⟨h1, h2, h3, h4⟩ := h
  refine ⟨h8, fun s hs => by rw [zvR_w]; exact (h4 s hs).1.1, fun s s' hs hs' e => ?_, fun s hs => by rw [zvR_h]; exact (h4 s hs).1.2.1, fun s hd hs hh => ?_, h3 0 (by decide), h3 1 (by decide), h3 2 (by decide)⟩
  · rw [zvR_w, zvR_w] at e
    by_cases c : s < s'
    · exact absurd e ((h4 s' hs').2 s c)
    · by_cases c2 : s' < s
      · exact absurd e.symm ((h4 s hs).2 s' c2)
      · omega
  · rw [zvR_g, zvR_l]
    obtain ⟨q0, q1, q2, q3, q4, q5⟩ := (h4 s hs).1
    have : hd = 0 ∨ hd = 1 := by omega
    rcases this with rfl | rfl
    · exact ⟨q2, q3⟩
    · exact ⟨q4, q5⟩
set_option maxHeartbeats 4000000 in
set_option maxRecDepth 100000 in
theorem sp_handOfR {d t o s h w1 : Nat} {M : zMI} {L : zML} (ho : zSt o) (hw : M (o + 1) s = nI w1) (hs : s < 8) : Sx yX7_handOf YX7_handOf (d) [.ref o, .int (nI s), .int (nI h)] M L (zRf t) (some (.int (nI (2 * w1 + h)))) M L (zRf t) := by
  refine Sp.of (by decide +kernel) rfl (fun h => by first | exact h | cases h) (Nat.le_of_ble_eq_true rfl) ?_
  intro w G
  have hss := zSt_s ho
  obtain ⟨ha1, ha2, ha3, ha4⟩ := zSt_a ho
  obtain ⟨hr1, hr2, hr3, hr4⟩ := zSt_r (t := t) ho
  refine wp_iconst (q := 1) dX7_handOf_0 zq_iconst_2 rfl ?_
  refine wp_aload_n (q := 2) dX7_handOf_1 0 rfl rfl ?_
  refine wp_getR (q := 5) dX7_handOf_2 zf_RX7_24 rfl (by first | assumption | rfl) (by first | assumption | rfl) rfl ?_
  refine wp_iload_n (q := 6) dX7_handOf_5 1 rfl rfl ?_
  refine wp_iald (q := 7) _ dX7_handOf_6 (by first | assumption | rfl) rfl (by omega) (by decide) rfl ?_
  rw [hw]
  refine wp_imulN (q := 8) dX7_handOf_7 rfl ?_
  refine wp_iload_n (q := 9) dX7_handOf_8 2 rfl rfl ?_
  refine wp_iaddN (q := 10) dX7_handOf_9 rfl ?_
  exact wp_ireturn dX7_handOf_10 rfl ⟨rfl, rfl, rfl, rfl, rfl⟩ rfl rfl
def zRs (M0 M : zMI) (b : Nat → Nat) (i : Nat) : Prop := (∀ s, s < i → M 44 s = nI (b (6 + 6 * s)) ∧ M 45 (b (6 + 6 * s)) = nI (b (6 + 6 * s + 1)) ∧ ∀ h, h < 2 → M 46 (2 * b (6 + 6 * s) + h) = nI (b (6 + 6 * s + 2 + 2 * h)) ∧ M 47 (2 * b (6 + 6 * s) + h) = nI (b (6 + 6 * s + 3 + 2 * h))) ∧ ∀ x, (x < 44 ∨ 47 < x) → M x = M0 x
set_option maxHeartbeats 4000000 in
set_option maxRecDepth 100000 in
theorem sp_restore {d t n : Nat} {M : zMI} {L : zML} {g : zGd} {v : Nat → Nat} {hs : List (Nat → Nat)} {m : zMs} (h : zCI M L t n g v hs m) (hok : zIok n m.1 m.2.1) : Sy yX11_restore YX11_restore (d + 2) [.ref 0] M L (zRf t) (zAn M L t n g (zvR m.2.1) [] (zMt m 0 m.2.1) (.int (nI 1))) := by
  refine Sp.of (by decide +kernel) rfl (fun h => by first | exact h | cases h) (Nat.le_of_ble_eq_true rfl) ?_
  intro w G
  have hv := zCI_hv h
  have hr := zCI_sr h
  have h8 := hv.1
  have ho : zSt 43 := Or.inl rfl
  obtain ⟨c1, c2, c3, c4, c5, c6, c7, c8, c9, c10, c11⟩ := zCI_cm h
  obtain ⟨b, hb0⟩ : ∃ b, m.2.1 = b := ⟨_, rfl⟩
  rw [hb0] at hok c3
  have hk7 := hok.1
  have hm1 : zCm (zu M 0 1 (nI 0)) (zMt m 0 m.2.1) := zCm_t (zCI_cm h) (Nat.zero_le _) (fun i hi => absurd hi (Nat.not_lt_zero _)) zu_s (fun j hj => zu_k hj) (fun x hx => zu_ne hx)
  have h1 : zCI (zu M 0 1 (nI 0)) L t n g v hs (zMt m 0 m.2.1) := zCI_m h (fun x x1 x2 x3 x4 x5 => zu_ne x2) hm1
  have fin : ∀ M6, zRs (zu (zu (zu (zu M 0 1 (nI 0)) 43 1 (nI (256 * b 0 + b 1))) 43 2 (nI (256 * b 2 + b 3))) 43 3 (nI (256 * b 4 + b 5))) M6 b n → WP w YX11_restore (d + 2, SS, 0, 0) G (some (zXp (zAn M L t n g (zvR m.2.1) [] (zMt m 0 m.2.1) (.int (nI 1))))) 197 [(2, .int (nI n)), (1, .int (nI m.1)), (0, .ref 0)] [] SS M6 L (zRf t) := by
    intro M6 h6
    obtain ⟨h6, hx6⟩ := h6
    refine wp_aload_n (q := 198) dX11_restore_197 2 rfl rfl ?_
    refine wp_getR (q := 201) dX11_restore_198 zf_RX11_62 rfl zsh_0 (by first | rfl | assumption) rfl ?_
    refine wp_cvx (q := 204) (sp_forget (d := 0)) zm_X2_forget zl_RX11_141 dX11_restore_201 rfl (by omega) (Nat.le_of_ble_eq_true rfl) zsh_48 rfl rfl ?_
    refine wp_aload_n (q := 205) dX11_restore_204 2 rfl rfl ?_
    refine wp_cvx (q := 208) (sp_forgetA (d := 0)) zm_X11_forgetAnswers zl_RX11_144 dX11_restore_205 rfl (by omega) (Nat.le_of_ble_eq_true rfl) zsh_0 rfl rfl ?_
    refine wp_iconst (q := 209) dX11_restore_208 zq_iconst_1 rfl ?_
    obtain ⟨a1, a2, a3, a4, ⟨nx, a5⟩, a6, a7, a8, a9, a10, a11⟩ := h1
    have ht2 : t = 10 ∨ t = 24 := a1
    have hx7 : ∀ x, (x < 43 ∨ 48 < x) → x ≠ 156 → x ≠ 167 → zu (zu (zu M6 48 2 (nI 0)) 156 3 (nI 0)) 167 7 (nI 0) x = zu M 0 1 (nI 0) x := fun x x1 x2 x3 => by rw [zu_ne x3, zu_ne x2, zu_ne (by omega), hx6 x (by omega), zu_ne (by omega), zu_ne (by omega), zu_ne (by omega)]
    have hx8 : ∀ x, x < 48 → zu (zu (zu M6 48 2 (nI 0)) 156 3 (nI 0)) 167 7 (nI 0) x = M6 x := fun x x1 => by rw [zu_ne (by omega), zu_ne (by omega), zu_ne (by omega)]
    have e43 := hx6 43 (by decide)
    have k1 : zu (zu (zu M6 48 2 (nI 0)) 156 3 (nI 0)) 167 7 (nI 0) 156 3 = nI 0 := by rw [zu_ne (by decide), zu_s]
    have k4 : zu (zu (zu M6 48 2 (nI 0)) 156 3 (nI 0)) 167 7 (nI 0) 48 1 = M 48 1 := by rw [zu_ne (by decide), zu_ne (by decide), zu_k (by decide), hx6 48 (by decide), zu_ne (by decide), zu_ne (by decide), zu_ne (by decide), zu_ne (by decide)]
    have k3 : zu (zu (zu M6 48 2 (nI 0)) 156 3 (nI 0)) 167 7 (nI 0) 48 2 = nI 0 := by rw [zu_ne (by decide), zu_ne (by decide), zu_s]
    refine wp_zreturn dX11_restore_209 rfl (by first | with_reducible exact znar_0 | with_reducible exact znar_1 | assumption) ⟨rfl, ⟨rfl, rfl, ?_, fun x hx => ⟨by rw [hx7 x (by omega) (by omega) (by omega), zu_ne (by omega)], rfl⟩⟩⟩ rfl rfl
    rw [hb0] at a8 ⊢
    refine ⟨a1, zV_R h8 hok, zCt_fr a3 (fun x x1 x2 x3 => hx7 x (by omega) (by omega) (by omega)), ?_, ⟨nx, a5.1, Nat.zero_le _, by rw [k4]; have := a5.2.2.1; rw [zu_ne (by decide)] at this; exact this, k3, fun i u hi => by simp at hi⟩, zPM_fr a6 (hx7 151 (by decide) (by decide) (by decide)), ⟨Or.inl k1, Or.inl zu_s⟩, zCm_fr a8 (hx7 0 (by decide) (by decide) (by decide)) (hx7 1 (by decide) (by decide) (by decide)) (hx7 175 (by decide) (by decide) (by decide)) (hx7 176 (by decide) (by decide) (by decide)), zDx_fr a9 (fun x x1 x2 x3 => hx7 x (by omega) (by omega) (by omega)), zDx_fr a10 (fun x x1 x2 x3 => hx7 x (by omega) (by omega) (by omega)), fun w hw => by rw [hx7 8 (by decide) (by decide) (by decide)]; exact a11 w hw⟩
    have er : M 43 0 = nI n := hr.1
    refine ⟨?_, ?_, ?_, ?_, fun s hs => ?_⟩
    · rw [hx8 43 (by decide), e43, zu_k (by decide), zu_k (by decide), zu_k (by decide), zu_ne (by decide)]; exact er
    · rw [hx8 43 (by decide), e43, zu_k (by decide), zu_k (by decide), zu_s]; rfl
    · rw [hx8 43 (by decide), e43, zu_k (by decide), zu_s]; rfl
    · rw [hx8 43 (by decide), e43, zu_s]; rfl
    · rw [hx8 44 (by decide), hx8 45 (by decide), hx8 46 (by decide), hx8 47 (by decide), zvR_w, zvR_h]
      obtain ⟨q1, q2, q3⟩ := h6 s hs
      refine ⟨q1, q2, fun hd hh => ?_⟩
      rw [zvR_g, zvR_l]
      exact q3 hd hh
  have loop : ∀ (M5 : zMI), (∀ x, x < 43 → M5 x = zu M 0 1 (nI 0) x) → M5 43 0 = nI n → (∀ M6, zRs M5 M6 b n → WP w YX11_restore (d + 2, SS, 0, 0) G (some (zXp (zAn M L t n g (zvR m.2.1) [] (zMt m 0 m.2.1) (.int (nI 1))))) 197 [(2, .int (nI n)), (1, .int (nI m.1)), (0, .ref 0)] [] SS M6 L (zRf t)) → ∀ q s (M6 : zMI), s + q = n → zRs M5 M6 b s → WP w YX11_restore (d + 2, SS, 0, 0) G (some (zXp (zAn M L t n g (zvR m.2.1) [] (zMt m 0 m.2.1) (.int (nI 1))))) 62 [(2, .int (nI s)), (1, .int (nI m.1)), (0, .ref 0)] [] SS M6 L (zRf t) := by
    intro M5 hm5 hn5 kout q
    induction q with
    | zero =>
      intro s M6 hsq h6
      have hsn : s = n := by omega
      subst hsn
      refine wp_iload_n (q := 63) dX11_restore_62 0 rfl rfl ?_
      refine wp_aload_n (q := 64) dX11_restore_63 2 rfl rfl ?_
      refine wp_getR (q := 67) dX11_restore_64 zf_RX11_55 rfl zsh_0 (by first | rfl | assumption) rfl ?_
      refine wp_getI (q := 70) dX11_restore_67 zf_RX11_165 rfl zsh_43 rfl ?_
      rw [h6.2 43 (by decide), hn5]
      refine wp_icmp_geN (tgt := 197) (q := 73) dX11_restore_70 (by decide) rfl (by omega) (by omega) (fun _ => ?_) (fun hn => absurd hn (by first | omega | exact fun h => h | exact fun h => h trivial))
      refine WP.sub (loc' := [(2, _), (1, _), (0, _)]) [0, 1, 2] rfl ?_
      exact kout M6 h6
    | succ q ih =>
      intro s M6 hsq h6
      have hsn : s < n := by omega
      have tp : ∀ (M' : zMI), (∀ x, x < 43 → M' x = M5 x) → ∀ j, j < 6 → M' 1 (6 + 6 * s + j) = nI (b (6 + 6 * s + j)) := fun M' hM' j hj => by
        rw [hM' 1 (by decide), hm5 1 (by decide), zu_ne (by decide)]
        exact (c3 _ (by omega)).1
      obtain ⟨⟨q0, q1, q2, q3, q4, q5⟩, qd⟩ := hok.2.2.2 s hsn
      have f6 : ∀ x, x < 43 → M6 x = M5 x := fun x hx => h6.2 x (by omega)
      refine wp_iload_n (q := 63) dX11_restore_62 0 rfl rfl ?_
      refine wp_aload_n (q := 64) dX11_restore_63 2 rfl rfl ?_
      refine wp_getR (q := 67) dX11_restore_64 zf_RX11_55 rfl zsh_0 (by first | rfl | assumption) rfl ?_
      refine wp_getI (q := 70) dX11_restore_67 zf_RX11_165 rfl zsh_43 rfl ?_
      rw [h6.2 43 (by decide), hn5]
      refine wp_icmp_geN (tgt := 197) (q := 73) dX11_restore_70 (by decide) rfl (by omega) (by omega) (fun hn => absurd hn (by first | omega | exact fun h => h | exact fun h => h trivial)) (fun _ => ?_)
      refine wp_bipush (q := 75) dX11_restore_73 zq_bipush_6 rfl ?_
      refine wp_bipush (q := 77) dX11_restore_75 zq_bipush_6 rfl ?_
      refine wp_iload_n (q := 78) dX11_restore_77 0 rfl rfl ?_
      refine wp_imulN (q := 79) dX11_restore_78 rfl ?_
      refine wp_iaddN (q := 80) dX11_restore_79 rfl ?_
      refine wp_istore_n (q := 81) (loc' := [(3, _), (2, _), (1, _), (0, _)]) dX11_restore_80 rfl (by decide) rfl rfl ?_
      refine wp_aload_n (q := 82) dX11_restore_81 3 rfl rfl ?_
      refine wp_getR (q := 85) dX11_restore_82 zf_RX11_55 rfl zsh_0 (by first | rfl | assumption) rfl ?_
      refine wp_getR (q := 88) dX11_restore_85 zf_RX11_202 rfl zsh_43 (by first | rfl | assumption) rfl ?_
      refine wp_iload_n (q := 89) dX11_restore_88 1 rfl rfl ?_
      refine wp_aload_n (q := 90) dX11_restore_89 3 rfl rfl ?_
      refine wp_getR (q := 93) dX11_restore_90 zf_RX11_9 rfl zsh_0 (by first | rfl | assumption) rfl ?_
      refine wp_iload_n (q := 94) dX11_restore_93 0 rfl rfl ?_
      refine wp_iald (q := 95) _ dX11_restore_94 zsh_1 rfl (by omega) (by decide) rfl ?_
      rw [show M6 1 (6 + 6 * s) = nI (b (6 + 6 * s)) from tp M6 f6 0 (by decide)]
      refine wp_iast (q := 96) _ dX11_restore_95 zsh_44 rfl (by omega) (by decide) rfl ?_
      obtain ⟨M7, hM7⟩ : ∃ M7, zu M6 44 s (nI (b (6 + 6 * s))) = M7 := ⟨_, rfl⟩
      have f7 : ∀ x, x < 43 → M7 x = M5 x := fun x hx => by rw [← hM7, zu_ne (by omega)]; exact f6 x hx
      rw [hM7]
      refine wp_aload_n (q := 97) dX11_restore_96 3 rfl rfl ?_
      refine wp_getR (q := 100) dX11_restore_97 zf_RX11_55 rfl zsh_0 (by first | rfl | assumption) rfl ?_
      refine wp_getR (q := 103) dX11_restore_100 zf_RX11_218 rfl zsh_43 (by first | rfl | assumption) rfl ?_
      refine wp_aload_n (q := 104) dX11_restore_103 3 rfl rfl ?_
      refine wp_getR (q := 107) dX11_restore_104 zf_RX11_9 rfl zsh_0 (by first | rfl | assumption) rfl ?_
      refine wp_iload_n (q := 108) dX11_restore_107 0 rfl rfl ?_
      refine wp_iald (q := 109) _ dX11_restore_108 zsh_1 rfl (by omega) (by decide) rfl ?_
      rw [show M7 1 (6 + 6 * s) = nI (b (6 + 6 * s)) from tp M7 f7 0 (by decide)]
      refine wp_aload_n (q := 110) dX11_restore_109 3 rfl rfl ?_
      refine wp_getR (q := 113) dX11_restore_110 zf_RX11_9 rfl zsh_0 (by first | rfl | assumption) rfl ?_
      refine wp_iload_n (q := 114) dX11_restore_113 0 rfl rfl ?_
      refine wp_iconst (q := 115) dX11_restore_114 zq_iconst_1 rfl ?_
      refine wp_iaddN (q := 116) dX11_restore_115 rfl ?_
      refine wp_iald (q := 117) _ dX11_restore_116 zsh_1 rfl (by omega) (by decide) rfl ?_
      rw [tp M7 f7 1 (by decide)]
      refine wp_iast (q := 118) _ dX11_restore_117 zsh_45 rfl (by omega) (by decide) rfl ?_
      obtain ⟨M8, hM8⟩ : ∃ M8, zu M7 45 (b (6 + 6 * s)) (nI (b (6 + 6 * s + 1))) = M8 := ⟨_, rfl⟩
      have f8 : ∀ x, x < 43 → M8 x = M5 x := fun x hx => by rw [← hM8, zu_ne (by omega)]; exact f7 x hx
      have w8 : M8 44 s = nI (b (6 + 6 * s)) := by rw [← hM8, zu_ne (by decide), ← hM7, zu_s]
      rw [hM8]
      have hand : ∀ hd (M9 : zMI), hd < 2 → (∀ x, x < 43 → M9 x = M5 x) → M9 44 s = nI (b (6 + 6 * s)) → (∀ (M10 : zMI), M10 = zu (zu M9 46 (2 * b (6 + 6 * s) + hd) (nI (b (6 + 6 * s + 2 + 2 * hd)))) 47 (2 * b (6 + 6 * s) + hd) (nI (b (6 + 6 * s + 3 + 2 * hd))) → WP w YX11_restore (d + 2, SS, 0, 0) G (some (zXp (zAn M L t n g (zvR m.2.1) [] (zMt m 0 m.2.1) (.int (nI 1))))) 185 [(5, .int (nI (2 * b (6 + 6 * s) + hd))), (4, .int (nI hd)), (3, .int (nI (6 + 6 * s))), (2, .int (nI s)), (1, .int (nI m.1)), (0, .ref 0)] [] SS M10 L (zRf t)) → WP w YX11_restore (d + 2, SS, 0, 0) G (some (zXp (zAn M L t n g (zvR m.2.1) [] (zMt m 0 m.2.1) (.int (nI 1))))) 127 [(4, .int (nI hd)), (3, .int (nI (6 + 6 * s))), (2, .int (nI s)), (1, .int (nI m.1)), (0, .ref 0)] [] SS M9 L (zRf t) := by
        intro hd M9 hh f9 w9 kk
        refine wp_aload_n (q := 128) dX11_restore_127 4 rfl rfl ?_
        refine wp_getR (q := 131) dX11_restore_128 zf_RX11_55 rfl zsh_0 (by first | rfl | assumption) rfl ?_
        refine wp_iload_n (q := 132) dX11_restore_131 2 rfl rfl ?_
        refine wp_iload (q := 134) dX11_restore_132 0 rfl rfl ?_
        refine wp_cvx (q := 137) (sp_handOfR (d := 0) ho w9 (by omega)) zm_X7_handOf zl_RX11_215 dX11_restore_134 rfl (by omega) (Nat.le_of_ble_eq_true rfl) zsh_43 rfl rfl ?_
        refine wp_istore (q := 139) (loc' := [(5, _), (4, _), (3, _), (2, _), (1, _), (0, _)]) dX11_restore_137 (by decide) rfl rfl ?_
        refine wp_aload_n (q := 140) dX11_restore_139 5 rfl rfl ?_
        refine wp_getR (q := 143) dX11_restore_140 zf_RX11_55 rfl zsh_0 (by first | rfl | assumption) rfl ?_
        refine wp_getR (q := 146) dX11_restore_143 zf_RX11_224 rfl zsh_43 (by first | rfl | assumption) rfl ?_
        refine wp_iload (q := 148) dX11_restore_146 0 rfl rfl ?_
        refine wp_aload_n (q := 149) dX11_restore_148 5 rfl rfl ?_
        refine wp_getR (q := 152) dX11_restore_149 zf_RX11_9 rfl zsh_0 (by first | rfl | assumption) rfl ?_
        refine wp_iload_n (q := 153) dX11_restore_152 2 rfl rfl ?_
        refine wp_iconst (q := 154) dX11_restore_153 zq_iconst_2 rfl ?_
        refine wp_iaddN (q := 155) dX11_restore_154 rfl ?_
        refine wp_iconst (q := 156) dX11_restore_155 zq_iconst_2 rfl ?_
        refine wp_iload (q := 158) dX11_restore_156 1 rfl rfl ?_
        refine wp_imulN (q := 159) dX11_restore_158 rfl ?_
        refine wp_iaddN (q := 160) dX11_restore_159 rfl ?_
        refine wp_iald (q := 161) _ dX11_restore_160 zsh_1 rfl (by omega) (by decide) rfl ?_
        rw [show M9 1 (6 + 6 * s + 2 + 2 * hd) = nI (b (6 + 6 * s + 2 + 2 * hd)) from by have := tp M9 f9 (2 + 2 * hd) (by omega); rw [show 6 + 6 * s + 2 + 2 * hd = 6 + 6 * s + (2 + 2 * hd) by omega]; exact this]
        refine wp_iast (q := 162) _ dX11_restore_161 zsh_46 rfl (by omega) (by decide) rfl ?_
        refine wp_aload_n (q := 163) dX11_restore_162 5 rfl rfl ?_
        refine wp_getR (q := 166) dX11_restore_163 zf_RX11_55 rfl zsh_0 (by first | rfl | assumption) rfl ?_
        refine wp_getR (q := 169) dX11_restore_166 zf_RX11_227 rfl zsh_43 (by first | rfl | assumption) rfl ?_
        refine wp_iload (q := 171) dX11_restore_169 0 rfl rfl ?_
        refine wp_aload_n (q := 172) dX11_restore_171 5 rfl rfl ?_
        refine wp_getR (q := 175) dX11_restore_172 zf_RX11_9 rfl zsh_0 (by first | rfl | assumption) rfl ?_
        refine wp_iload_n (q := 176) dX11_restore_175 2 rfl rfl ?_
        refine wp_iconst (q := 177) dX11_restore_176 zq_iconst_3 rfl ?_
        refine wp_iaddN (q := 178) dX11_restore_177 rfl ?_
        refine wp_iconst (q := 179) dX11_restore_178 zq_iconst_2 rfl ?_
        refine wp_iload (q := 181) dX11_restore_179 1 rfl rfl ?_
        refine wp_imulN (q := 182) dX11_restore_181 rfl ?_
        refine wp_iaddN (q := 183) dX11_restore_182 rfl ?_
        refine wp_iald (q := 184) _ dX11_restore_183 zsh_1 rfl (by omega) (by decide) rfl ?_
        rw [zu_ne (by decide), show M9 1 (6 + 6 * s + 3 + 2 * hd) = nI (b (6 + 6 * s + 3 + 2 * hd)) from by have := tp M9 f9 (3 + 2 * hd) (by omega); rw [show 6 + 6 * s + 3 + 2 * hd = 6 + 6 * s + (3 + 2 * hd) by omega]; exact this]
        refine wp_iast (q := 185) _ dX11_restore_184 zsh_47 rfl (by omega) (by decide) rfl ?_
        refine WP.sub (loc' := [(5, _), (4, _), (3, _), (2, _), (1, _), (0, _)]) [0, 1, 2, 3, 4, 5] rfl ?_
        exact kk _ rfl
      refine wp_iconst (q := 119) dX11_restore_118 zq_iconst_0 rfl ?_
      refine wp_istore (q := 121) (loc' := [(4, _), (3, _), (2, _), (1, _), (0, _)]) dX11_restore_119 (by decide) rfl rfl ?_
      refine wp_iload (q := 123) dX11_restore_121 0 rfl rfl ?_
      refine wp_iconst (q := 124) dX11_restore_123 zq_iconst_2 rfl ?_
      refine wp_icmp_geN (tgt := 191) (q := 127) dX11_restore_124 (by decide) rfl (by omega) (by omega) (fun hn => absurd hn (by first | omega | exact fun h => h | exact fun h => h trivial)) (fun _ => ?_)
      refine WP.sub (loc' := [(4, _), (3, _), (2, _), (1, _), (0, _)]) [0, 1, 2, 3, 4] rfl ?_
      refine hand 0 M8 (by decide) f8 w8 (fun M10 h10 => ?_)
      have f10 : ∀ x, x < 43 → M10 x = M5 x := fun x hx => by rw [h10, zu_ne (by omega), zu_ne (by omega)]; exact f8 x hx
      have w10 : M10 44 s = nI (b (6 + 6 * s)) := by rw [h10, zu_ne (by decide), zu_ne (by decide)]; exact w8
      refine wp_iincN (q := 188) (loc' := [(4, _), (5, _), (3, _), (2, _), (1, _), (0, _)]) (n := 1) dX11_restore_185 rfl 1 rfl (by decide) rfl rfl ?_
      refine wp_goto (tgt := 121) dX11_restore_188 (by decide) ?_
      refine wp_iload (q := 123) dX11_restore_121 0 rfl rfl ?_
      refine wp_iconst (q := 124) dX11_restore_123 zq_iconst_2 rfl ?_
      refine wp_icmp_geN (tgt := 191) (q := 127) dX11_restore_124 (by decide) rfl (by omega) (by omega) (fun hn => absurd hn (by first | omega | exact fun h => h | exact fun h => h trivial)) (fun _ => ?_)
      refine WP.sub (loc' := [(4, _), (3, _), (2, _), (1, _), (0, _)]) [0, 2, 3, 4, 5] rfl ?_
      refine hand 1 M10 (by decide) f10 w10 (fun M11 h11 => ?_)
      refine wp_iincN (q := 188) (loc' := [(4, _), (5, _), (3, _), (2, _), (1, _), (0, _)]) (n := 1) dX11_restore_185 rfl 1 rfl (by decide) rfl rfl ?_
      refine wp_goto (tgt := 121) dX11_restore_188 (by decide) ?_
      refine wp_iload (q := 123) dX11_restore_121 0 rfl rfl ?_
      refine wp_iconst (q := 124) dX11_restore_123 zq_iconst_2 rfl ?_
      refine wp_icmp_geN (tgt := 191) (q := 127) dX11_restore_124 (by decide) rfl (by omega) (by omega) (fun _ => ?_) (fun hn => absurd hn (by first | omega | exact fun h => h | exact fun h => h trivial))
      refine wp_iincN (q := 194) (loc' := [(2, _), (4, _), (5, _), (3, _), (1, _), (0, _)]) (n := 1) dX11_restore_191 rfl 3 rfl (by decide) rfl rfl ?_
      refine wp_goto (tgt := 62) dX11_restore_194 (by decide) ?_
      refine WP.sub (loc' := [(2, _), (1, _), (0, _)]) [0, 4, 5] rfl ?_
      refine ih (s + 1) M11 (by omega) ⟨fun s1 hs1 => ?_, fun x hx => by rw [h11, zu_ne (by omega), zu_ne (by omega), h10, zu_ne (by omega), zu_ne (by omega), ← hM8, zu_ne (by omega), ← hM7, zu_ne (by omega)]; exact h6.2 x hx⟩
      have e44 : M11 44 s1 = M7 44 s1 := by rw [h11, zu_ne (by decide), zu_ne (by decide), h10, zu_ne (by decide), zu_ne (by decide), ← hM8, zu_ne (by decide)]
      have e45 : ∀ p, M11 45 p = M8 45 p := fun p => by rw [h11, zu_ne (by decide), zu_ne (by decide), h10, zu_ne (by decide), zu_ne (by decide)]
      have e46 : ∀ p, M11 46 p = if p = 2 * b (6 + 6 * s) + 1 then nI (b (6 + 6 * s + 2 + 2 * 1)) else if p = 2 * b (6 + 6 * s) + 0 then nI (b (6 + 6 * s + 2 + 2 * 0)) else M6 46 p := fun p => by
        rw [h11, zu_ne (by decide), zu_at]
        by_cases c : p = 2 * b (6 + 6 * s) + 1
        · rw [if_pos ⟨rfl, c⟩, if_pos c]
        · rw [if_neg (fun e => c e.2), if_neg c, h10, zu_ne (by decide), zu_at]
          by_cases c2 : p = 2 * b (6 + 6 * s) + 0
          · rw [if_pos ⟨rfl, c2⟩, if_pos c2]
          · rw [if_neg (fun e => c2 e.2), if_neg c2, ← hM8, zu_ne (by decide), ← hM7, zu_ne (by decide)]
      have e47 : ∀ p, M11 47 p = if p = 2 * b (6 + 6 * s) + 1 then nI (b (6 + 6 * s + 3 + 2 * 1)) else if p = 2 * b (6 + 6 * s) + 0 then nI (b (6 + 6 * s + 3 + 2 * 0)) else M6 47 p := fun p => by
        rw [h11, zu_at]
        by_cases c : p = 2 * b (6 + 6 * s) + 1
        · rw [if_pos ⟨rfl, c⟩, if_pos c]
        · rw [if_neg (fun e => c e.2), if_neg c, zu_ne (by decide), h10, zu_at]
          by_cases c2 : p = 2 * b (6 + 6 * s) + 0
          · rw [if_pos ⟨rfl, c2⟩, if_pos c2]
          · rw [if_neg (fun e => c2 e.2), if_neg c2, zu_ne (by decide), ← hM8, zu_ne (by decide), ← hM7, zu_ne (by decide)]
      by_cases e : s1 = s
      · subst e
        refine ⟨by rw [e44, ← hM7, zu_s], by rw [e45, ← hM8, zu_s], fun hd hh => ?_⟩
        have : hd = 0 ∨ hd = 1 := by omega
        rw [e46, e47]
        rcases this with rfl | rfl
        · rw [if_neg (by omega), if_pos rfl, if_neg (by omega), if_pos rfl]
          exact ⟨rfl, rfl⟩
        · rw [if_pos rfl, if_pos rfl]
          exact ⟨rfl, rfl⟩
      · have hne := qd s1 (by omega)
        obtain ⟨p1, p2, p3⟩ := h6.1 s1 (by omega)
        refine ⟨by rw [e44, ← hM7, zu_k e]; exact p1, by rw [e45, ← hM8, zu_k hne, ← hM7, zu_ne (by decide)]; exact p2, fun hd hh => ?_⟩
        rw [e46, e47, if_neg (by omega), if_neg (by omega), if_neg (by omega), if_neg (by omega)]
        exact p3 hd hh
  refine wp_aload_n (q := 1) dX11_restore_0 0 rfl rfl ?_
  refine wp_getI (q := 4) dX11_restore_1 zf_RX11_13 rfl zsh_0 rfl ?_
  rw [c1]
  refine wp_istore_n (q := 5) (loc' := [(1, _), (0, _)]) dX11_restore_4 rfl (by decide) rfl rfl ?_
  refine wp_aload_n (q := 6) dX11_restore_5 1 rfl rfl ?_
  refine wp_iconst (q := 7) dX11_restore_6 zq_iconst_0 rfl ?_
  refine wp_putI (q := 10) dX11_restore_7 zf_RX11_13 rfl zsh_0 rfl ?_
  refine wp_aload_n (q := 11) dX11_restore_10 1 rfl rfl ?_
  refine wp_iload_n (q := 12) dX11_restore_11 0 rfl rfl ?_
  refine wp_cvy (q := 15) (sp_isImage (d := 0) (n := n) (b := b) (by rw [zu_ne (by decide)]; exact hr.1) h8 c2 (fun i hi => by rw [zu_ne (by decide)]; exact c3 i hi)) zm_X11_isImage zl_RX11_385 dX11_restore_12 rfl (by omega) (Nat.le_of_ble_eq_true rfl) zsh_0 rfl rfl ?_
  rintro _ M2 _ _ ⟨rfl, rfl, rfl, hh⟩
  rcases hh with ⟨rfl, -⟩ | ⟨-, hno⟩
  · skip
    refine wp_if_neN (tgt := 24) (q := 18) dX11_restore_15 (by decide) rfl (by omega) (fun _ => ?_) (fun hn => absurd hn (by first | omega | exact fun h => h | exact fun h => h trivial))
    refine wp_aload_n (q := 25) dX11_restore_24 1 rfl rfl ?_
    refine wp_getR (q := 28) dX11_restore_25 zf_RX11_55 rfl zsh_0 (by first | rfl | assumption) rfl ?_
    refine wp_aload_n (q := 29) dX11_restore_28 1 rfl rfl ?_
    refine wp_iconst (q := 30) dX11_restore_29 zq_iconst_0 rfl ?_
    refine wp_cvx (q := 33) (sp_two (d := 0) (x := b 0) (y := b 1) (by decide) (by rw [zu_ne (by decide)]; exact (c3 0 (by omega)).1) (by rw [zu_ne (by decide)]; exact (c3 1 (by omega)).1)) zm_X11_two zl_RX11_388 dX11_restore_30 rfl (by omega) (Nat.le_of_ble_eq_true rfl) zsh_0 rfl rfl ?_
    refine wp_putI (q := 36) dX11_restore_33 zf_RX11_178 rfl zsh_43 rfl ?_
    refine wp_aload_n (q := 37) dX11_restore_36 1 rfl rfl ?_
    refine wp_getR (q := 40) dX11_restore_37 zf_RX11_55 rfl zsh_0 (by first | rfl | assumption) rfl ?_
    refine wp_aload_n (q := 41) dX11_restore_40 1 rfl rfl ?_
    refine wp_iconst (q := 42) dX11_restore_41 zq_iconst_2 rfl ?_
    refine wp_cvx (q := 45) (sp_two (d := 0) (x := b 2) (y := b 3) (by decide) (by rw [zu_ne (by decide), zu_ne (by decide)]; exact (c3 2 (by omega)).1) (by rw [zu_ne (by decide), zu_ne (by decide)]; exact (c3 3 (by omega)).1)) zm_X11_two zl_RX11_388 dX11_restore_42 rfl (by omega) (Nat.le_of_ble_eq_true rfl) zsh_0 rfl rfl ?_
    refine wp_putI (q := 48) dX11_restore_45 zf_RX11_181 rfl zsh_43 rfl ?_
    refine wp_aload_n (q := 49) dX11_restore_48 1 rfl rfl ?_
    refine wp_getR (q := 52) dX11_restore_49 zf_RX11_55 rfl zsh_0 (by first | rfl | assumption) rfl ?_
    refine wp_aload_n (q := 53) dX11_restore_52 1 rfl rfl ?_
    refine wp_iconst (q := 54) dX11_restore_53 zq_iconst_4 rfl ?_
    refine wp_cvx (q := 57) (sp_two (d := 0) (x := b 4) (y := b 5) (by decide) (by rw [zu_ne (by decide), zu_ne (by decide), zu_ne (by decide)]; exact (c3 4 (by omega)).1) (by rw [zu_ne (by decide), zu_ne (by decide), zu_ne (by decide)]; exact (c3 5 (by omega)).1)) zm_X11_two zl_RX11_388 dX11_restore_54 rfl (by omega) (Nat.le_of_ble_eq_true rfl) zsh_0 rfl rfl ?_
    refine wp_putI (q := 60) dX11_restore_57 zf_RX11_184 rfl zsh_43 rfl ?_
    refine wp_iconst (q := 61) dX11_restore_60 zq_iconst_0 rfl ?_
    refine wp_istore_n (q := 62) (loc' := [(2, _), (1, _), (0, _)]) dX11_restore_61 rfl (by decide) rfl rfl ?_
    refine WP.sub (loc' := [(2, _), (1, _), (0, _)]) [0, 1, 2] rfl ?_
    exact loop _ (fun x hx => by rw [zu_ne (by omega), zu_ne (by omega), zu_ne (by omega)]) (by rw [zu_k (by decide), zu_k (by decide), zu_k (by decide), zu_ne (by decide)]; exact hr.1) fin n 0 _ (Nat.zero_add _) ⟨fun s hs => absurd hs (Nat.not_lt_zero _), fun x _ => rfl⟩
  · exact absurd hok hno
set_option maxHeartbeats 4000000 in
set_option maxRecDepth 100000 in
theorem sp_restoreN {d t n : Nat} {M : zMI} {L : zML} {g : zGd} {v : Nat → Nat} {hs : List (Nat → Nat)} {m : zMs} (h : zCI M L t n g v hs m) (hno : ¬ zIok n m.1 m.2.1) : Sy yX11_restore YX11_restore (d + 2) [.ref 0] M L (zRf t) (zAn M L t n g v hs (zMup (zMt m 0 m.2.1) 5) (.int (nI 0))) := by
  refine Sp.of (by decide +kernel) rfl (fun h => by first | exact h | cases h) (Nat.le_of_ble_eq_true rfl) ?_
  intro w G
  have hv := zCI_hv h
  have hr := zCI_sr h
  have h8 := hv.1
  obtain ⟨c1, c2, c3, c4, c5, c6, c7, c8, c9, c10, c11⟩ := zCI_cm h
  have hm1 : zCm (zu M 0 1 (nI 0)) (zMt m 0 m.2.1) := zCm_t (zCI_cm h) (Nat.zero_le _) (fun i hi => absurd hi (Nat.not_lt_zero _)) zu_s (fun j hj => zu_k hj) (fun x hx => zu_ne hx)
  have h1 : zCI (zu M 0 1 (nI 0)) L t n g v hs (zMt m 0 m.2.1) := zCI_m h (fun x x1 x2 x3 x4 x5 => zu_ne x2) hm1
  refine wp_aload_n (q := 1) dX11_restore_0 0 rfl rfl ?_
  refine wp_getI (q := 4) dX11_restore_1 zf_RX11_13 rfl zsh_0 rfl ?_
  rw [c1]
  refine wp_istore_n (q := 5) (loc' := [(1, _), (0, _)]) dX11_restore_4 rfl (by decide) rfl rfl ?_
  refine wp_aload_n (q := 6) dX11_restore_5 1 rfl rfl ?_
  refine wp_iconst (q := 7) dX11_restore_6 zq_iconst_0 rfl ?_
  refine wp_putI (q := 10) dX11_restore_7 zf_RX11_13 rfl zsh_0 rfl ?_
  refine wp_aload_n (q := 11) dX11_restore_10 1 rfl rfl ?_
  refine wp_iload_n (q := 12) dX11_restore_11 0 rfl rfl ?_
  refine wp_cvy (q := 15) (sp_isImage (d := 0) (n := n) (b := m.2.1) (by rw [zu_ne (by decide)]; exact hr.1) h8 c2 (fun i hi => by rw [zu_ne (by decide)]; exact c3 i hi)) zm_X11_isImage zl_RX11_385 dX11_restore_12 rfl (by omega) (Nat.le_of_ble_eq_true rfl) zsh_0 rfl rfl ?_
  rintro _ M2 _ _ ⟨rfl, rfl, rfl, hh⟩
  rcases hh with ⟨-, hyes⟩ | ⟨rfl, -⟩
  · exact absurd hyes hno
  · skip
    refine wp_if_neN (tgt := 24) (q := 18) dX11_restore_15 (by decide) rfl (by omega) (fun hn => absurd hn (by first | omega | exact fun h => h | exact fun h => h trivial)) (fun _ => ?_)
    refine wp_aload_n (q := 19) dX11_restore_18 1 rfl rfl ?_
    refine wp_iconst (q := 20) dX11_restore_19 zq_iconst_5 rfl ?_
    refine wp_cvx (q := 23) (sp_deny (d := 0) (k := 5) (by decide)) zm_X11_deny zl_RX11_124 dX11_restore_20 rfl (by omega) (Nat.le_of_ble_eq_true rfl) zsh_0 rfl rfl ?_
    exact wp_zreturn dX11_restore_23 rfl (by first | with_reducible exact znar_0 | with_reducible exact znar_1 | assumption) ⟨rfl, ⟨rfl, rfl, zCI_rf h1 (by decide), fun x hx => ⟨by rw [zu_ne (by omega), zu_ne (by omega)], rfl⟩⟩⟩ rfl rfl

