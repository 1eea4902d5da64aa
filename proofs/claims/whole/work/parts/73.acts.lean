theorem zCI_v {M M' : zMI} {L : zML} {t n : Nat} {g : zGd} {v v' : Nat → Nat} {hs : List (Nat → Nat)} {m : zMs} (h : zCI M L t n g v hs m) (k1 : M 156 3 = nI 0) (k2 : M 167 7 = nI 0) (e : ∀ x, x < 177 → (x < 43 ∨ 47 < x) → M' x = M x) (hv : zV n v') (hr : zSR M' 43 n v') : zCI M' L t n g v' hs m := by
  obtain ⟨a1, a2, a3, a4, ⟨nx, a5⟩, a6, a7, a8, a9, a10, a11⟩ := h
  have ht2 : t = 10 ∨ t = 24 := a1
  exact ⟨a1, hv, zCt_fr a3 (fun x x1 x2 x3 => e x (by omega) (by omega)), hr, ⟨nx, zHi_fr a5 (fun x x1 x2 => e x (by omega) (by omega))⟩, zPM_fr a6 (e 151 (by omega) (by omega)), ⟨Or.inl (by rw [e 156 (by omega) (by omega)]; exact k1), Or.inl (by rw [e 167 (by omega) (by omega)]; exact k2)⟩, zCm_fr a8 (e 0 (by omega) (by omega)) (e 1 (by omega) (by omega)) (e 175 (by omega) (by omega)) (e 176 (by omega) (by omega)), zDx_fr a9 (fun x x1 x2 x3 => e x (by omega) (by omega)), zDx_fr a10 (fun x x1 x2 x3 => e x (by omega) (by omega)), fun w hw => by rw [e 8 (by omega) (by omega)]; exact a11 w hw⟩
theorem zSR_c {M : zMI} {o n k x : Nat} {v : Nat → Nat} (hr : zSR M o n v) (hk : k < 3) : zSR (zu M o (k + 1) (nI x)) o n (vup v k x) := by
  obtain ⟨q0, q1, q2, q3, q4⟩ := hr
  have key : ∀ j, j < 3 → M o (j + 1) = nI (v j) → zu M o (k + 1) (nI x) o (j + 1) = nI (vup v k x j) := by
    intro j hj e
    by_cases c : j = k
    · rw [c, zu_s, vup_eq]
    · rw [zu_k (by omega), vup_ne c]; exact e
  refine ⟨by rw [zu_k (by omega)]; exact q0, key 0 (by decide) q1, key 1 (by decide) q2, key 2 (by decide) q3, fun s hs => ?_⟩
  rw [zu_ne (by omega), zu_ne (by omega), zu_ne (by omega), zu_ne (by omega)]
  obtain ⟨b1, b2, b3⟩ := q4 s hs
  have e1 : wh (vup v k x) s = wh v s := vup_ne (by omega)
  have e2 : ht (vup v k x) s = ht v s := vup_ne (by omega)
  rw [e1, e2]
  refine ⟨b1, b2, fun h hh => ?_⟩
  rw [show gr (vup v k x) s h = gr v s h from vup_ne (by omega), show lw (vup v k x) s h = lw v s h from vup_ne (by omega)]
  exact b3 h hh
theorem zV_c {n k x : Nat} {v : Nat → Nat} (hv : zV n v) (hk : k < 3) (hx : x ≤ 9999) : zV n (vup v k x) := by
  obtain ⟨h8, hw, hi, h99, hg, h0, h1, h2⟩ := hv
  have e1 : ∀ s', wh (vup v k x) s' = wh v s' := fun s' => vup_ne (by omega)
  have key : ∀ j, v j ≤ 9999 → vup v k x j ≤ 9999 := fun j hj => by unfold vup; split <;> omega
  refine ⟨h8, fun s' h => by rw [e1]; exact hw s' h, fun a b ha hb h => by rw [e1, e1] at h; exact hi a b ha hb h, fun s' h => by rw [show ht (vup v k x) s' = ht v s' from vup_ne (by omega)]; exact h99 s' h, fun s' h hs' hh => ?_, key 0 h0, key 1 h1, key 2 h2⟩
  rw [show gr (vup v k x) s' h = gr v s' h from vup_ne (by omega), show lw (vup v k x) s' h = lw v s' h from vup_ne (by omega)]
  exact hg s' h hs' hh
set_option maxHeartbeats 4000000 in
set_option maxRecDepth 100000 in
theorem sp_forgetA {d t : Nat} {M : zMI} {L : zML} : Sx yX11_forgetAnswers YX11_forgetAnswers (d) [.ref 0] M L (zRf t) (none) (zu (zu M 156 3 (nI 0)) 167 7 (nI 0)) L (zRf t) := by
  refine Sp.of (by decide +kernel) rfl (fun h => by first | exact h | cases h) (Nat.le_of_ble_eq_true rfl) ?_
  intro w G
  refine wp_aload_n (q := 1) dX11_forgetAnswers_0 0 rfl rfl ?_
  refine wp_getR (q := 4) dX11_forgetAnswers_1 zf_RX11_80 rfl zsh_0 (zr_0_10 _) rfl ?_
  refine wp_iconst (q := 5) dX11_forgetAnswers_4 zq_iconst_0 rfl ?_
  refine wp_putZ (q := 8) dX11_forgetAnswers_5 zf_RX11_160 rfl (Or.inl rfl) zsh_156 rfl ?_
  refine wp_aload_n (q := 9) dX11_forgetAnswers_8 0 rfl rfl ?_
  refine wp_getR (q := 12) dX11_forgetAnswers_9 zf_RX11_87 rfl zsh_0 (zr_0_11 _) rfl ?_
  refine wp_iconst (q := 13) dX11_forgetAnswers_12 zq_iconst_0 rfl ?_
  refine wp_putZ (q := 16) dX11_forgetAnswers_13 zf_RX11_164 rfl (Or.inl rfl) zsh_167 rfl ?_
  exact wp_return dX11_forgetAnswers_16 rfl ⟨rfl, rfl, rfl, rfl, rfl⟩ rfl rfl
set_option maxHeartbeats 4000000 in
set_option maxRecDepth 100000 in
theorem sp_act {d t n : Nat} {M : zMI} {L : zML} {g : zGd} {v : Nat → Nat} {hs : List (Nat → Nat)} {m : zMs} (h : zCI M L t n g v hs m) : Sy yX11_act YX11_act (d + 3) [.ref 0] M L (zRf t) (fun v0 M' L' R' => v0 = none ∧ L = L' ∧ R' = zRf t ∧ zCI M' L t n g v ((v :: hs).take 20) m ∧ M' 156 3 = nI 0 ∧ M' 167 7 = nI 0 ∧ ∀ x, 177 ≤ x → M' x = M x) := by
  refine Sp.of (by decide +kernel) rfl (fun h => by first | exact h | cases h) (Nat.le_of_ble_eq_true rfl) ?_
  intro w G
  have hv := zCI_hv h
  have hr := zCI_sr h
  obtain ⟨nx, hh⟩ := h.2.2.2.2.1
  refine wp_aload_n (q := 1) dX11_act_0 0 rfl rfl ?_
  refine wp_getR (q := 4) dX11_act_1 zf_RX11_62 rfl zsh_0 (by first | rfl | assumption) rfl ?_
  refine wp_aload_n (q := 5) dX11_act_4 0 rfl rfl ?_
  refine wp_getR (q := 8) dX11_act_5 zf_RX11_55 rfl zsh_0 (zr_0_7 _) rfl ?_
  refine wp_cvy (q := 11) (sp_keep (d := 0) hv hr hh) zm_X2_keep zl_RX11_342 dX11_act_8 rfl (by omega) (Nat.le_of_ble_eq_true rfl) zsh_48 rfl rfl ?_
  rintro _ M2 _ _ ⟨rfl, rfl, rfl, hh2, hx⟩
  refine wp_aload_n (q := 12) dX11_act_11 0 rfl rfl ?_
  refine wp_cvx (q := 15) (sp_forgetA (d := 0)) zm_X11_forgetAnswers zl_RX11_144 dX11_act_12 rfl (by omega) (Nat.le_of_ble_eq_true rfl) zsh_0 rfl rfl ?_
  have hx2 : ∀ x, (x < 48 ∨ 150 ≤ x) → x ≠ 156 → x ≠ 167 → zu (zu M2 156 3 (nI 0)) 167 7 (nI 0) x = M x := fun x x1 x2 x3 => by rw [zu_ne x3, zu_ne x2]; exact hx x x1
  have k1 : zu (zu M2 156 3 (nI 0)) 167 7 (nI 0) 156 3 = nI 0 := by rw [zu_ne (by decide), zu_s]
  refine wp_return dX11_act_15 rfl ⟨rfl, ⟨rfl, rfl, rfl, ?_, k1, zu_s, fun x x1 => hx2 x (by omega) (by omega) (by omega)⟩⟩ rfl rfl
  obtain ⟨a1, a2, a3, a4, -, a6, a7, a8, a9, a10, a11⟩ := h
  have ht2 : t = 10 ∨ t = 24 := a1
  exact ⟨a1, a2, zCt_fr a3 (fun x x1 x2 x3 => hx2 x (by omega) (by omega) (by omega)), zSR_fr a4 (fun x x1 x2 => hx2 x (by omega) (by omega) (by omega)), ⟨_, zHi_fr hh2 (fun x x1 x2 => by rw [zu_ne (by omega), zu_ne (by omega)])⟩, zPM_fr a6 (hx2 151 (by omega) (by omega) (by omega)), ⟨Or.inl k1, Or.inl zu_s⟩, zCm_fr a8 (hx2 0 (by omega) (by omega) (by omega)) (hx2 1 (by omega) (by omega) (by omega)) (hx2 175 (by omega) (by omega) (by omega)) (hx2 176 (by omega) (by omega) (by omega)), zDx_fr a9 (fun x x1 x2 x3 => hx2 x (by omega) (by omega) (by omega)), zDx_fr a10 (fun x x1 x2 x3 => hx2 x (by omega) (by omega) (by omega)), fun w hw => by rw [hx2 8 (by omega) (by omega) (by omega)]; exact a11 w hw⟩
def zdr (x : Nat) : Nat := (1103515245 * x + 12345) % 2147483648
theorem zdr_lt (x : Nat) : zdr x < 2147483648 := Nat.mod_lt _ (by decide)
theorem z31 (a : Nat) : a &&& 2147483647 = a % 2147483648 := by
  have := Nat.and_two_pow_sub_one_eq_mod a 31
  exact this
set_option maxHeartbeats 4000000 in
set_option maxRecDepth 100000 in
theorem sp_draw {d t x k : Nat} {M : zMI} {L : zML} (hx : M 0 15 = nI x) (h0 : 0 < k) (hk : k < 2147483648) : Sx yX11_draw YX11_draw (d) [.ref 0, .int (nI k)] M L (zRf t) (some (.int (nI (zdr x / 64 % k)))) (zu M 0 15 (nI (zdr x))) L (zRf t) := by
  refine Sp.of (by decide +kernel) rfl (fun h => by first | exact h | cases h) (Nat.le_of_ble_eq_true rfl) ?_
  intro w G
  have hlt := zdr_lt x
  refine wp_aload_n (q := 1) dX11_draw_0 0 rfl rfl ?_
  refine wp_ldc_w (q := 4) dX11_draw_1 zk_RX11_362 rfl ?_
  refine wp_aload_n (q := 5) dX11_draw_4 0 rfl rfl ?_
  refine wp_getI (q := 8) dX11_draw_5 zf_RX11_104 rfl zsh_0 rfl ?_
  rw [zlitI 1103515245, hx]
  refine wp_imulN (q := 9) dX11_draw_8 rfl ?_
  refine wp_sipush (q := 12) dX11_draw_9 zq_sipush_12345 rfl ?_
  refine wp_iaddN (q := 13) dX11_draw_12 rfl ?_
  refine wp_ldc_w (q := 16) dX11_draw_13 zk_RX11_363 rfl ?_
  rw [zlitI 2147483647]
  refine wp_iandN (q := 17) dX11_draw_16 rfl ?_
  rw [z31, show (1103515245 * x + 12345) % 2147483648 = zdr x from rfl]
  refine wp_putI (q := 20) dX11_draw_17 zf_RX11_104 rfl zsh_0 rfl ?_
  refine wp_iload_n (q := 21) dX11_draw_20 1 rfl rfl ?_
  refine wp_if_leN (tgt := 36) (q := 24) dX11_draw_21 (by decide) rfl (by omega) (fun hn => absurd hn (by first | omega | exact fun h => h | exact fun h => h trivial)) (fun _ => ?_)
  refine wp_aload_n (q := 25) dX11_draw_24 0 rfl rfl ?_
  refine wp_getI (q := 28) dX11_draw_25 zf_RX11_104 rfl zsh_0 rfl ?_
  rw [zu_s]
  refine wp_bipush (q := 30) dX11_draw_28 zq_bipush_64 rfl ?_
  refine wp_idivN (q := 31) dX11_draw_30 (by omega) (by omega) (by omega) rfl ?_
  refine wp_iload_n (q := 32) dX11_draw_31 1 rfl rfl ?_
  refine wp_iremN (q := 33) dX11_draw_32 (by omega) (by omega) (by omega) rfl ?_
  refine wp_goto (tgt := 37) dX11_draw_33 (by decide) ?_
  have h64 : zdr x / 64 ≤ zdr x := Nat.div_le_self _ _
  exact wp_ireturn dX11_draw_37 rfl ⟨rfl, rfl, rfl, rfl, rfl⟩ rfl rfl
-- who has a cracker by the draws: the state, the seed, the bangs
def zp1 (R Lf n c : Nat) (u : Nat → Nat) (x : Nat) : Nat → Nat := if zdr x / 64 % 10000 < R then vup u (4 + 6 * c) (min 99 (ht u c + 1)) else if zdr x / 64 % 10000 < R + Lf then vup u (4 + 6 * ((c + 1) % n)) (min 99 (ht u ((c + 1) % n) + 1)) else vup u 2 (min 9999 (u 2 + 1))
theorem zV_p1 {R Lf n c x : Nat} {u : Nat → Nat} (hv : zV n u) (hc : c < n) : zV n (zp1 R Lf n c u x) := by
  unfold zp1
  split
  · exact zV_ht hv hc (by omega)
  · split
    · exact zV_ht hv (Nat.mod_lt _ (by omega)) (by omega)
    · exact zV_c hv (by decide) (by omega)
set_option maxHeartbeats 4000000 in
set_option maxRecDepth 100000 in
theorem sp_pullOne {d t n c x R Lf : Nat} {M : zMI} {L : zML} {u : Nat → Nat} (hv : zV n u) (hr : zSR M 43 n u) (hc : c < n) (hx : M 0 15 = nI x) (hR : M 153 c = nI R) (hL : M 154 c = nI Lf) (hRL : R + Lf ≤ 10000) : Sy yX11_pullOne YX11_pullOne (d + 2) [.ref 0, .int (nI c)] M L (zRf t) (fun v0 M' L' R' => v0 = none ∧ L = L' ∧ R' = zRf t ∧ zSR M' 43 n (zp1 R Lf n c u x) ∧ M' 0 15 = nI (zdr x) ∧ (∀ k, k ≠ 15 → M' 0 k = M 0 k) ∧ ∀ y, y ≠ 0 → (y < 43 ∨ 47 < y) → M' y = M y) := by
  refine Sp.of (by decide +kernel) rfl (fun h => by first | exact h | cases h) (Nat.le_of_ble_eq_true rfl) ?_
  intro w G
  have h8 := hv.1
  have ho : zSt 43 := Or.inl rfl
  have hlt := zdr_lt x
  have h2 := hv.2.2.2.2.2.2.2
  have hmod : zdr x / 64 % 10000 < 10000 := Nat.mod_lt _ (by decide)
  have hr1 : zSR (zu M 0 15 (nI (zdr x))) 43 n u := zSR_fr hr (fun y y1 y2 => zu_ne (by omega))
  refine wp_aload_n (q := 1) dX11_pullOne_0 0 rfl rfl ?_
  refine wp_sipush (q := 4) dX11_pullOne_1 zq_sipush_10000 rfl ?_
  refine wp_cvx (q := 7) (sp_draw (d := 0) (x := x) hx (by decide) (by decide)) zm_X11_draw zl_RX11_351 dX11_pullOne_4 rfl (by omega) (Nat.le_of_ble_eq_true rfl) zsh_0 rfl rfl ?_
  refine wp_istore_n (q := 8) (loc' := [(2, _), (0, _), (1, _)]) dX11_pullOne_7 rfl (by decide) rfl rfl ?_
  refine wp_iload_n (q := 9) dX11_pullOne_8 0 rfl rfl ?_
  refine wp_aload_n (q := 10) dX11_pullOne_9 1 rfl rfl ?_
  refine wp_getR (q := 13) dX11_pullOne_10 zf_RX11_71 rfl zsh_0 (by first | rfl | assumption) rfl ?_
  refine wp_getR (q := 16) dX11_pullOne_13 zf_RX11_330 rfl zsh_150 (by first | rfl | assumption) rfl ?_
  refine wp_iload_n (q := 17) dX11_pullOne_16 2 rfl rfl ?_
  refine wp_iald (q := 18) _ dX11_pullOne_17 zsh_153 rfl (by omega) (by decide) rfl ?_
  rw [zu_ne (by decide), hR]
  refine wp_icmp_geN (tgt := 32) (q := 21) dX11_pullOne_18 (by decide) rfl (by omega) (by omega) (fun c1 => ?_) (fun c1 => ?_)
  · skip
    refine wp_iload_n (q := 33) dX11_pullOne_32 0 rfl rfl ?_
    refine wp_aload_n (q := 34) dX11_pullOne_33 1 rfl rfl ?_
    refine wp_getR (q := 37) dX11_pullOne_34 zf_RX11_71 rfl zsh_0 (by first | rfl | assumption) rfl ?_
    refine wp_getR (q := 40) dX11_pullOne_37 zf_RX11_330 rfl zsh_150 (by first | rfl | assumption) rfl ?_
    refine wp_iload_n (q := 41) dX11_pullOne_40 2 rfl rfl ?_
    refine wp_iald (q := 42) _ dX11_pullOne_41 zsh_153 rfl (by omega) (by decide) rfl ?_
    rw [zu_ne (by decide), hR]
    refine wp_aload_n (q := 43) dX11_pullOne_42 1 rfl rfl ?_
    refine wp_getR (q := 46) dX11_pullOne_43 zf_RX11_71 rfl zsh_0 (by first | rfl | assumption) rfl ?_
    refine wp_getR (q := 49) dX11_pullOne_46 zf_RX11_333 rfl zsh_150 (by first | rfl | assumption) rfl ?_
    refine wp_iload_n (q := 50) dX11_pullOne_49 2 rfl rfl ?_
    refine wp_iald (q := 51) _ dX11_pullOne_50 zsh_154 rfl (by omega) (by decide) rfl ?_
    rw [zu_ne (by decide), hL]
    refine wp_iaddN (q := 52) dX11_pullOne_51 rfl ?_
    refine wp_icmp_geN (tgt := 73) (q := 55) dX11_pullOne_52 (by decide) rfl (by omega) (by omega) (fun c2 => ?_) (fun c2 => ?_)
    · skip
      refine wp_aload_n (q := 74) dX11_pullOne_73 1 rfl rfl ?_
      refine wp_getR (q := 77) dX11_pullOne_74 zf_RX11_55 rfl zsh_0 (by first | rfl | assumption) rfl ?_
      refine wp_sipush (q := 80) dX11_pullOne_77 zq_sipush_9999 rfl ?_
      refine wp_aload_n (q := 81) dX11_pullOne_80 1 rfl rfl ?_
      refine wp_getR (q := 84) dX11_pullOne_81 zf_RX11_55 rfl zsh_0 (by first | rfl | assumption) rfl ?_
      refine wp_getI (q := 87) dX11_pullOne_84 zf_RX11_184 rfl zsh_43 rfl ?_
      rw [zu_ne (by decide), hr.2.2.2.1]
      refine wp_iconst (q := 88) dX11_pullOne_87 zq_iconst_1 rfl ?_
      refine wp_iaddN (q := 89) dX11_pullOne_88 rfl ?_
      refine wp_mmin (q := 92) dX11_pullOne_89 zl_RX11_354 (by omega) (Nat.le_of_ble_eq_true rfl) (Nat.le_refl _) (Nat.le_refl _) rfl ?_
      have e : (if nI (u 2 + 1) < nI 9999 then nI (u 2 + 1) else nI 9999) = nI (min 9999 (u 2 + 1)) := by
        by_cases h : u 2 + 1 < 9999
        · rw [if_pos ((nI_ltI (by omega) (by decide)).mpr h), Nat.min_eq_right (by omega)]
        · rw [if_neg (fun c => h ((nI_ltI (by omega) (by decide)).mp c)), Nat.min_eq_left (by omega)]
      rw [e]
      refine wp_putI (q := 95) dX11_pullOne_92 zf_RX11_184 rfl zsh_43 rfl ?_
      refine wp_return dX11_pullOne_95 rfl ⟨rfl, ⟨rfl, rfl, rfl, ?_, by rw [zu_ne (by decide), zu_s], fun k hk => by rw [zu_ne (by decide), zu_k hk], fun y y0 y1 => by rw [zu_ne (by omega), zu_ne y0]⟩⟩ rfl rfl
      unfold zp1
      rw [if_neg (by omega), if_neg (by omega)]
      exact zSR_c hr1 (by decide)
    · skip
      refine wp_aload_n (q := 56) dX11_pullOne_55 1 rfl rfl ?_
      refine wp_getR (q := 59) dX11_pullOne_56 zf_RX11_55 rfl zsh_0 (by first | rfl | assumption) rfl ?_
      refine wp_aload_n (q := 60) dX11_pullOne_59 1 rfl rfl ?_
      refine wp_getR (q := 63) dX11_pullOne_60 zf_RX11_55 rfl zsh_0 (by first | rfl | assumption) rfl ?_
      refine wp_iload_n (q := 64) dX11_pullOne_63 2 rfl rfl ?_
      refine wp_cvx (q := 67) (sp_behind (d := 0) ho hr1.1 h8 hc) zm_X7_behind zl_RX11_233 dX11_pullOne_64 rfl (by omega) (Nat.le_of_ble_eq_true rfl) zsh_43 rfl rfl ?_
      refine wp_cvy (q := 70) (sp_addHat (d := 0) ho hv hr1 (Nat.mod_lt _ (by omega) : (c + 1) % n < n)) zm_X7_addHat zl_RX11_359 dX11_pullOne_67 rfl (by omega) (Nat.le_of_ble_eq_true rfl) zsh_43 rfl rfl ?_
      rintro _ M3 _ _ ⟨rfl, rfl, rfl, hr3, hx3⟩
      refine wp_goto (tgt := 95) dX11_pullOne_70 (by decide) ?_
      refine wp_return dX11_pullOne_95 rfl ⟨rfl, ⟨rfl, rfl, rfl, ?_, by rw [hx3 0 (by decide), zu_s], fun k hk => by rw [hx3 0 (by decide), zu_k hk], fun y y0 y1 => by rw [hx3 y (by omega), zu_ne y0]⟩⟩ rfl rfl
      unfold zp1
      rw [if_neg (by omega), if_pos c2]
      exact hr3
  · skip
    refine wp_aload_n (q := 22) dX11_pullOne_21 1 rfl rfl ?_
    refine wp_getR (q := 25) dX11_pullOne_22 zf_RX11_55 rfl zsh_0 (by first | rfl | assumption) rfl ?_
    refine wp_iload_n (q := 26) dX11_pullOne_25 2 rfl rfl ?_
    refine wp_cvy (q := 29) (sp_addHat (d := 0) ho hv hr1 hc) zm_X7_addHat zl_RX11_359 dX11_pullOne_26 rfl (by omega) (Nat.le_of_ble_eq_true rfl) zsh_43 rfl rfl ?_
    rintro _ M3 _ _ ⟨rfl, rfl, rfl, hr3, hx3⟩
    refine wp_goto (tgt := 95) dX11_pullOne_29 (by decide) ?_
    refine wp_return dX11_pullOne_95 rfl ⟨rfl, ⟨rfl, rfl, rfl, ?_, by rw [hx3 0 (by decide), zu_s], fun k hk => by rw [hx3 0 (by decide), zu_k hk], fun y y0 y1 => by rw [hx3 y (by omega), zu_ne y0]⟩⟩ rfl rfl
    unfold zp1
    rw [if_pos c1]
    exact hr3

