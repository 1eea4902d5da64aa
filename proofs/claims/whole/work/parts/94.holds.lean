theorem zdn_l {a b : Nat} (ha : a < 2000000000) (hb : b < 2000000000) : zdn a ≤ zdn b ↔ a ≤ b := by
  have hz : ∀ k, k < 2000000000 → (zdn k).toInt = (k : Int) - 1 := by
    intro k hk
    unfold zdn
    split
    · rename_i e
      rw [e]
      rfl
    · rw [nI_toInt (by omega)]
      omega
  rw [Int32.le_iff_toInt_le, hz a ha, hz b hb]
  omega
theorem zdn_s (a : Nat) : nI a = zdn (a + 1) := by
  unfold zdn
  rw [if_neg (by omega), Nat.add_sub_cancel]
theorem zMc_n {M M' : zMI} {n : Nat} {tb : zTb} {v u : Nat → Nat} (h : zMc M n tb v) (e : ∀ x, x = 204 ∨ x = 206 ∨ x = 209 ∨ x = 210 ∨ x = 211 → M' x = M x) (hu : zNw M' n u) : zMc M' n tb u := by
  obtain ⟨a1, a2, a3, a4, a5⟩ := h
  exact ⟨by rw [e 204 (by decide)]; exact a1, hu, fun p h hp hh => by rw [e 206 (by decide)]; exact a3 p h hp hh, zMsu_fr a4 (e 209 (by decide)) (e 210 (by decide)) (e 211 (by decide)), zMsu_fr a5 (e 209 (by decide)) (e 210 (by decide)) (e 211 (by decide))⟩
-- the frame of what tries holds
def zNo (M M' : zMI) (L L' : zML) : Prop := (∀ x, x ≠ 214 → x ≠ 215 → x ≠ 177 → M' x = M x) ∧ (∀ k, k ≠ 50 → k ≠ 60 → k ≠ 61 → M' 177 k = M 177 k) ∧ ∀ x, x ≠ 213 → L' x = L x
theorem zNo_r {M : zMI} {L : zML} : zNo M M L L := ⟨fun _ _ _ _ => rfl, fun _ _ _ _ => rfl, fun _ _ => rfl⟩
theorem zNo_t {M M' M'' : zMI} {L L' L'' : zML} (h : zNo M M' L L') (h' : zNo M' M'' L' L'') : zNo M M'' L L'' := ⟨fun x a b c => by rw [h'.1 x a b c, h.1 x a b c], fun k a b c => by rw [h'.2.1 k a b c, h.2.1 k a b c], fun x a => by rw [h'.2.2 x a, h.2.2 x a]⟩
theorem zNo_o {M M' : zMI} {L L' : zML} (h : zTo M M' L L') : zNo M M' L L' := ⟨fun x a _ c => h.1 x a c, fun k a _ _ => h.2.1 k a, h.2.2⟩
theorem zNo_n {M M' : zMI} {L : zML} (h : ∀ x, x ≠ 215 → M' x = M x) : zNo M M' L L := ⟨fun x _ b _ => h x b, fun k _ _ _ => by rw [h 177 (by decide)], fun _ _ => rfl⟩
theorem zMc_no {M M' : zMI} {L L' : zML} {n : Nat} {tb : zTb} {v u : Nat → Nat} (h : zMc M n tb v) (e : zNo M M' L L') (hu : zNw M' n u) : zMc M' n tb u := zMc_n h (fun x hx => e.1 x (by omega) (by omega) (by omega)) hu
theorem zMo_n {M M' : zMI} {L L' : zML} {n : Nat} {g : zGd} {v u : Nat → Nat} {hs : List (Nat → Nat)} {m : zMs} (h : zMo M L n g v hs m) (e : ∀ x, zKp x → x ≠ 215 → M' x = M x) (ek : ∀ k, zKk k → M' 177 k = M 177 k) (l1 : L' 205 = L 205) (l2 : L' 177 68 = L 177 68) (hu : zNw M' n u) : zMo M' L' n g u hs m := by
  obtain ⟨a1, a2, a3, a4, a5⟩ := h
  refine ⟨zMc_n a1 (fun x hx => e x (by unfold zKp; omega) (by omega)) hu, zMd_fr a2 (e 204 (by unfold zKp; omega) (by decide)) l1 (e 207 (by unfold zKp; omega) (by decide)) (e 208 (by unfold zKp; omega) (by decide)), zMk_fr a3 (ek 66 (by unfold zKk; omega)) (ek 67 (by unfold zKk; omega)) (e 226 (by unfold zKp; omega) (by decide)), zMm_fr a4 (fun k hk => ek k (by unfold zKk; omega)) (e 178 (by unfold zKp; omega) (by decide)) (e 179 (by unfold zKp; omega) (by decide)) (e 248 (by unfold zKp; omega) (by decide)) l2, zWds_fr a5 (fun x hx => e x (by unfold zKp; omega) (by omega))⟩
theorem zMo_no {M M' : zMI} {L L' : zML} {n : Nat} {g : zGd} {v u : Nat → Nat} {hs : List (Nat → Nat)} {m : zMs} (h : zMo M L n g v hs m) (e : zNo M M' L L') (hu : zNw M' n u) : zMo M' L' n g u hs m :=
  zMo_n h (fun x hx h5 => e.1 x (by unfold zKp at hx; omega) h5 (by unfold zKp at hx; omega)) (fun k hk => e.2.1 k (by unfold zKk at hk; omega) (by unfold zKk at hk; omega) (by unfold zKk at hk; omega)) (e.2.2 205 (by decide)) (by rw [e.2.2 177 (by decide)]) hu
theorem zYf_no {M M' : zMI} {L L' : zML} (h : zNo M M' L L') : zYf M M' L L' := fun x hx => ⟨h.1 x (by omega) (by omega) (by omega), h.2.2 x (by omega)⟩
set_option maxHeartbeats 4000000 in
set_option maxRecDepth 100000 in
theorem sp_mholdsNow {d t n s hh gp lo : Nat} {M : zMI} {L : zML} {v : Nat → Nat} (h : zNw M n v) (hs0 : s < n) (hh0 : hh < 2) (hg0 : gp < 3) (hl0 : lo < 10) : Sy yX12_holdsNow YX12_holdsNow (d) [.ref 177, .int (nI s), .int (nI hh), .int (nI gp), .int (nI lo)] M L (zRf t) (fun v0 M' L' R' => v0 = none ∧ L = L' ∧ R' = zRf t ∧ zNw M' n (zhold v s hh (10 * gp + lo)) ∧ ∀ x, x ≠ 215 → M' x = M x) := by
  refine Sp.of (by decide +kernel) rfl (fun h => by first | exact h | cases h) (Nat.le_of_ble_eq_true rfl) ?_
  intro w G
  have h8 := h.1.1
  refine wp_aload_n (q := 1) dX12_holdsNow_0 0 rfl rfl ?_
  refine wp_getR (q := 4) dX12_holdsNow_1 zf_RX12_127 rfl zsh_177 (zr_177_52 _) rfl ?_
  refine wp_iconst (q := 5) dX12_holdsNow_4 zq_iconst_3 rfl ?_
  refine wp_bipush (q := 7) dX12_holdsNow_5 zq_bipush_6 rfl ?_
  refine wp_iload_n (q := 8) dX12_holdsNow_7 1 rfl rfl ?_
  refine wp_imulN (q := 9) dX12_holdsNow_8 rfl ?_
  refine wp_iaddN (q := 10) dX12_holdsNow_9 rfl ?_
  refine wp_iconst (q := 11) dX12_holdsNow_10 zq_iconst_2 rfl ?_
  refine wp_iaddN (q := 12) dX12_holdsNow_11 rfl ?_
  refine wp_iconst (q := 13) dX12_holdsNow_12 zq_iconst_2 rfl ?_
  refine wp_iload_n (q := 14) dX12_holdsNow_13 2 rfl rfl ?_
  refine wp_imulN (q := 15) dX12_holdsNow_14 rfl ?_
  refine wp_iaddN (q := 16) dX12_holdsNow_15 rfl ?_
  refine wp_iload_n (q := 17) dX12_holdsNow_16 3 rfl rfl ?_
  refine wp_iast (q := 18) _ dX12_holdsNow_17 zsh_215 rfl (by omega) (by decide) rfl ?_
  refine wp_aload_n (q := 19) dX12_holdsNow_18 0 rfl rfl ?_
  refine wp_getR (q := 22) dX12_holdsNow_19 zf_RX12_127 rfl zsh_177 (zr_177_52 _) rfl ?_
  refine wp_iconst (q := 23) dX12_holdsNow_22 zq_iconst_3 rfl ?_
  refine wp_bipush (q := 25) dX12_holdsNow_23 zq_bipush_6 rfl ?_
  refine wp_iload_n (q := 26) dX12_holdsNow_25 1 rfl rfl ?_
  refine wp_imulN (q := 27) dX12_holdsNow_26 rfl ?_
  refine wp_iaddN (q := 28) dX12_holdsNow_27 rfl ?_
  refine wp_iconst (q := 29) dX12_holdsNow_28 zq_iconst_3 rfl ?_
  refine wp_iaddN (q := 30) dX12_holdsNow_29 rfl ?_
  refine wp_iconst (q := 31) dX12_holdsNow_30 zq_iconst_2 rfl ?_
  refine wp_iload_n (q := 32) dX12_holdsNow_31 2 rfl rfl ?_
  refine wp_imulN (q := 33) dX12_holdsNow_32 rfl ?_
  refine wp_iaddN (q := 34) dX12_holdsNow_33 rfl ?_
  refine wp_iload (q := 36) dX12_holdsNow_34 4 rfl rfl ?_
  refine wp_iast (q := 37) _ dX12_holdsNow_36 zsh_215 rfl (by omega) (by decide) rfl ?_
  refine wp_return dX12_holdsNow_37 rfl ⟨rfl, ⟨rfl, rfl, rfl, ⟨zV_hold h.1 hh0 (by omega), fun j hj => ?_⟩, fun x hx => by rw [zu_ne hx, zu_ne hx]⟩⟩ rfl rfl
  by_cases e : j = 3 + 6 * s + 3 + 2 * hh
  · rw [e, zu_s, show 3 + 6 * s + 3 + 2 * hh = 6 + 6 * s + 2 * hh by omega]
    have := zhold_l (v := v) (s := s) (h := hh) (w := 10 * gp + lo)
    rw [show (10 * gp + lo) % 10 = lo by omega] at this
    exact congrArg nI this.symm
  · rw [zu_k e]
    by_cases e2 : j = 3 + 6 * s + 2 + 2 * hh
    · rw [e2, zu_s, show 3 + 6 * s + 2 + 2 * hh = 5 + 6 * s + 2 * hh by omega]
      have := zhold_g (v := v) (s := s) (h := hh) (w := 10 * gp + lo)
      rw [show (10 * gp + lo) / 10 = gp by omega] at this
      exact congrArg nI this.symm
    · rw [zu_k e2, zhold_ne (by omega) (by omega)]
      exact h.2 j hj
set_option maxHeartbeats 4000000 in
set_option maxRecDepth 100000 in
theorem sp_mownOdds {d t n s hh : Nat} {M : zMI} {L : zML} {tb : zTb} {v : Nat → Nat} (h : zMc M n tb v) (hs0 : s < n) (hh0 : hh < 2) {r : Nat} (hr : zown tb v n s hh = r) : Sy yX12_ownOdds YX12_ownOdds (d + 6) [.ref 177, .int (nI s), .int (nI hh)] M L (zRf t) (fun v0 M' L' R' => v0 = some (.int (nI r)) ∧ R' = zRf t ∧ zTo M M' L L') := by
  refine Sp.of (by decide +kernel) rfl (fun h => by first | exact h | cases h) (Nat.le_of_ble_eq_true rfl) ?_
  intro w G
  have h8 := h.2.1.1.1
  refine wp_iload_n (q := 1) dX12_ownOdds_0 2 rfl rfl ?_
  refine wp_if_neN (tgt := 13) (q := 4) dX12_ownOdds_1 (by decide) rfl (by omega) (fun c => ?_) (fun c => ?_)
  · skip
    refine wp_aload_n (q := 14) dX12_ownOdds_13 0 rfl rfl ?_
    refine wp_aload_n (q := 15) dX12_ownOdds_14 0 rfl rfl ?_
    refine wp_iload_n (q := 16) dX12_ownOdds_15 1 rfl rfl ?_
    refine wp_cvx (q := 19) (sp_mbehind (d := 0) h.1 h8 hs0) zm_X12_behind zl_RX12_453 dX12_ownOdds_16 rfl (by omega) (Nat.le_of_ble_eq_true rfl) zsh_177 rfl rfl ?_
    refine wp_iconst (q := 20) dX12_ownOdds_19 zq_iconst_1 rfl ?_
    refine wp_cvy (q := 23) (sp_moddsAt (d := 0) (hd := 1) (r := r) h (Nat.mod_lt _ (by omega)) (by decide) (by rw [← hr, zmod2 hs0]; unfold zown zof; rw [if_neg c, if_neg (by decide)])) zm_X12_oddsAt zl_RX12_448 dX12_ownOdds_20 rfl (by omega) (Nat.le_of_ble_eq_true rfl) zsh_177 rfl rfl ?_
    rintro _ M2 L2 _ ⟨rfl, rfl, t2⟩
    exact wp_ireturn dX12_ownOdds_23 rfl ⟨rfl, ⟨rfl, rfl, t2⟩⟩ rfl rfl
  · skip
    refine wp_aload_n (q := 5) dX12_ownOdds_4 0 rfl rfl ?_
    refine wp_iload_n (q := 6) dX12_ownOdds_5 1 rfl rfl ?_
    refine wp_iconst (q := 7) dX12_ownOdds_6 zq_iconst_0 rfl ?_
    refine wp_cvy (q := 10) (sp_moddsAt (d := 0) (hd := 0) (r := r) h hs0 (by decide) (by rw [← hr]; unfold zown zof; rw [if_pos c, if_pos rfl])) zm_X12_oddsAt zl_RX12_448 dX12_ownOdds_7 rfl (by omega) (Nat.le_of_ble_eq_true rfl) zsh_177 rfl rfl ?_
    rintro _ M2 L2 _ ⟨rfl, rfl, t2⟩
    refine wp_goto (tgt := 23) dX12_ownOdds_10 (by decide) ?_
    exact wp_ireturn dX12_ownOdds_23 rfl ⟨rfl, ⟨rfl, rfl, t2⟩⟩ rfl rfl
def zbq (f : Nat → Nat) (w : Nat) : Nat := if w = 0 then 0 else f (zbi f w) + 1
theorem zbq_y {f : Nat → Nat} {w : Nat} (h : zbq f w < f w + 1) : zbi f (w + 1) = w ∧ zbq f (w + 1) = f w + 1 := by
  have e : zbi f (w + 1) = w := by
    rw [zbi]
    split
    · rfl
    · rename_i c
      unfold zbq at h
      split at h
      · rename_i e
        rw [e]
        rfl
      · omega
  refine ⟨e, ?_⟩
  unfold zbq
  rw [if_neg (by omega), e]
theorem zbq_n {f : Nat → Nat} {w : Nat} (h : ¬ zbq f w < f w + 1) : 0 < w ∧ zbi f (w + 1) = zbi f w ∧ zbq f (w + 1) = zbq f w := by
  have h0 : w ≠ 0 := by
    intro e
    unfold zbq at h
    rw [if_pos e] at h
    omega
  have h1 : ¬ f (zbi f w) < f w := by
    unfold zbq at h
    rw [if_neg h0] at h
    omega
  have e : zbi f (w + 1) = zbi f w := by rw [zbi, if_neg h1]
  refine ⟨by omega, e, ?_⟩
  unfold zbq
  rw [if_neg (by omega), if_neg h0, e]
def zSk (M0 M : zMI) (L0 L : zML) (n : Nat) (tb : zTb) (v : Nat → Nat) (s h w : Nat) : Prop := (∃ u, zMc M n tb u ∧ ∀ x, zhold u s h x = zhold v s h x) ∧ M 177 61 = zdn (zbq (zfw tb v n s h) w) ∧ (0 < w → M 177 60 = nI (zbi (zfw tb v n s h) w)) ∧ zNo M0 M L0 L
set_option maxHeartbeats 4000000 in
set_option maxRecDepth 100000 in
theorem sp_mseeks {d t n s hh : Nat} {M : zMI} {L : zML} {tb : zTb} {v : Nat → Nat} (h : zMc M n tb v) (hs0 : s < n) (hh0 : hh < 2) : Sy yX12_seeksHold YX12_seeksHold (d + 7) [.ref 177, .int (nI s), .int (nI hh)] M L (zRf t) (fun v0 M' L' R' => v0 = none ∧ R' = zRf t ∧ zMc M' n tb v ∧ zNo M M' L L' ∧ M' 177 60 = nI (zbs tb v n s hh) ∧ M' 177 61 = nI (zfw tb v n s hh (zbs tb v n s hh))) := by
  refine Sp.of (by decide +kernel) rfl (fun h => by first | exact h | cases h) (Nat.le_of_ble_eq_true rfl) ?_
  intro w G
  have h8 := h.2.1.1.1
  have hg3 := (h.2.1.1.2.2.2.2.1 s hh hs0 hh0).1
  have hl9 := (h.2.1.1.2.2.2.2.1 s hh hs0 hh0).2
  obtain ⟨g0, hg0⟩ : ∃ g0, gr v s hh = g0 := ⟨_, rfl⟩
  obtain ⟨l0, hl0⟩ : ∃ l0, lw v s hh = l0 := ⟨_, rfl⟩
  have hcur := zhold_cur h.2.1.1 hs0 hh0
  rw [hg0, hl0] at hcur
  rw [hg0] at hg3
  rw [hl0] at hl9
  obtain ⟨f, hf⟩ : ∃ f, zfw tb v n s hh = f := ⟨_, rfl⟩
  have hf9 : ∀ w, f w ≤ 10000 := fun w => by rw [← hf]; exact zown_le _ _ _ _ _
  have hq9 : ∀ w, zbq f w ≤ 10001 := fun w => by
    unfold zbq
    split
    · omega
    · have := hf9 (zbi f w)
      omega
  have inner : ∀ q low gp (M2 : zMI) (L2 : zML), low + q = 10 → gp < 3 → zSk M M2 L L2 n tb v s hh (10 * gp + low) → (∀ (M3 : zMI) (L3 : zML), zSk M M3 L L3 n tb v s hh (10 * (gp + 1)) → WP w YX12_seeksHold (d + 7, SS, 0, 0) G (some (zXp (fun v0 M' L' R' => v0 = none ∧ R' = zRf t ∧ zMc M' n tb v ∧ zNo M M' L L' ∧ M' 177 60 = nI (zbs tb v n s hh) ∧ M' 177 61 = nI (zfw tb v n s hh (zbs tb v n s hh))))) 23 [(5, .int (nI (gp + 1))), (4, .int (nI l0)), (3, .int (nI g0)), (0, .ref 177), (1, .int (nI s)), (2, .int (nI hh))] [] SS M3 L3 (zRf t)) → WP w YX12_seeksHold (d + 7, SS, 0, 0) G (some (zXp (fun v0 M' L' R' => v0 = none ∧ R' = zRf t ∧ zMc M' n tb v ∧ zNo M M' L L' ∧ M' 177 60 = nI (zbs tb v n s hh) ∧ M' 177 61 = nI (zfw tb v n s hh (zbs tb v n s hh))))) 32 [(6, .int (nI low)), (5, .int (nI gp)), (4, .int (nI l0)), (3, .int (nI g0)), (0, .ref 177), (1, .int (nI s)), (2, .int (nI hh))] [] SS M2 L2 (zRf t) := by
    intro q
    induction q with
    | zero =>
      intro low gp M2 L2 hq hgp hk cont
      rw [show low = 10 by omega] at hk ⊢
      refine wp_iload (q := 34) dX12_seeksHold_32 0 rfl rfl ?_
      refine wp_bipush (q := 36) dX12_seeksHold_34 zq_bipush_9 rfl ?_
      refine wp_icmp_gtN (tgt := 93) (q := 39) dX12_seeksHold_36 (by decide) rfl (by omega) (by omega) (fun _ => ?_) (fun hn => absurd hn (by first | omega | exact fun h => h | exact fun h => h trivial))
      refine wp_iincN (q := 96) (loc' := [(5, _), (6, _), (4, _), (3, _), (0, _), (1, _), (2, _)]) (n := 1) dX12_seeksHold_93 rfl 1 rfl (by decide) rfl rfl ?_
      refine wp_goto (tgt := 23) dX12_seeksHold_96 (by decide) ?_
      refine WP.sub (loc' := [(5, _), (4, _), (3, _), (0, _), (1, _), (2, _)]) [0, 2, 3, 4, 5, 6] rfl ?_
      refine cont M2 L2 ?_
      rw [show 10 * (gp + 1) = 10 * gp + 10 by omega]
      exact hk
    | succ q ih =>
      intro low gp M2 L2 hq hgp hk cont
      obtain ⟨⟨u, u1, u2⟩, k1, k2, k3⟩ := hk
      rw [hf] at k1 k2
      have w9 := hq9 (10 * gp + low)
      have f9 := hf9 (10 * gp + low)
      refine wp_iload (q := 34) dX12_seeksHold_32 0 rfl rfl ?_
      refine wp_bipush (q := 36) dX12_seeksHold_34 zq_bipush_9 rfl ?_
      refine wp_icmp_gtN (tgt := 93) (q := 39) dX12_seeksHold_36 (by decide) rfl (by omega) (by omega) (fun hn => absurd hn (by first | omega | exact fun h => h | exact fun h => h trivial)) (fun _ => ?_)
      refine wp_aload_n (q := 40) dX12_seeksHold_39 4 rfl rfl ?_
      refine wp_iload_n (q := 41) dX12_seeksHold_40 5 rfl rfl ?_
      refine wp_iload_n (q := 42) dX12_seeksHold_41 6 rfl rfl ?_
      refine wp_iload (q := 44) dX12_seeksHold_42 1 rfl rfl ?_
      refine wp_iload (q := 46) dX12_seeksHold_44 0 rfl rfl ?_
      refine wp_cvy (q := 49) (sp_mholdsNow (d := 0) u1.2.1 hs0 hh0 hgp (by omega : low < 10)) zm_X12_holdsNow zl_RX12_511 dX12_seeksHold_46 rfl (by omega) (Nat.le_of_ble_eq_true rfl) zsh_177 rfl rfl ?_
      rintro _ M3 L3 _ ⟨rfl, rfl, rfl, n3, e3⟩
      rw [u2] at n3
      have c3 := zMc_no u1 (zNo_n (L := L2) e3) n3
      refine wp_aload_n (q := 50) dX12_seeksHold_49 4 rfl rfl ?_
      refine wp_iload_n (q := 51) dX12_seeksHold_50 5 rfl rfl ?_
      refine wp_iload_n (q := 52) dX12_seeksHold_51 6 rfl rfl ?_
      refine wp_cvy (q := 55) (sp_mownOdds (d := 0) (r := f (10 * gp + low)) c3 hs0 hh0 (by rw [← hf]; rfl)) zm_X12_ownOdds zl_RX12_515 dX12_seeksHold_52 rfl (by omega) (Nat.le_of_ble_eq_true rfl) zsh_177 rfl rfl ?_
      rintro _ M4 L4 _ ⟨rfl, rfl, t4⟩
      have k4 : M4 177 61 = zdn (zbq f (10 * gp + low)) := by rw [t4.2.1 61 (by decide), e3 177 (by decide)]; exact k1
      have k4' : 0 < 10 * gp + low → M4 177 60 = nI (zbi f (10 * gp + low)) := fun c => by rw [t4.2.1 60 (by decide), e3 177 (by decide)]; exact k2 c
      have n4 := zNo_t (zNo_t k3 (zNo_n e3)) (zNo_o t4)
      have c4 := zMc_o c3 t4
      rw [zdn_s]
      refine wp_istore (q := 57) (loc' := [(7, _), (6, _), (5, _), (4, _), (3, _), (0, _), (1, _), (2, _)]) dX12_seeksHold_55 (by decide) rfl rfl ?_
      refine wp_iload (q := 59) dX12_seeksHold_57 0 rfl rfl ?_
      refine wp_aload_n (q := 60) dX12_seeksHold_59 5 rfl rfl ?_
      refine wp_getI (q := 63) dX12_seeksHold_60 zf_RX12_508 rfl zsh_177 rfl ?_
      rw [k4]
      refine wp_icmp_gt (tgt := 69) (q := 66) dX12_seeksHold_63 (by decide) rfl (fun c => ?_) (fun c => ?_)
      · skip
        have c' : zbq f (10 * gp + low) < f (10 * gp + low) + 1 := Nat.not_le.mp (fun e => Int32.not_le.mpr c ((zdn_l (by omega) (by omega)).mpr e))
        obtain ⟨b1, b2⟩ := zbq_y c'
        refine wp_aload_n (q := 70) dX12_seeksHold_69 5 rfl rfl ?_
        refine wp_iload (q := 72) dX12_seeksHold_70 0 rfl rfl ?_
        refine wp_putI (q := 75) dX12_seeksHold_72 zf_RX12_508 rfl zsh_177 rfl ?_
        refine wp_aload_n (q := 76) dX12_seeksHold_75 5 rfl rfl ?_
        refine wp_bipush (q := 78) dX12_seeksHold_76 zq_bipush_10 rfl ?_
        refine wp_iload (q := 80) dX12_seeksHold_78 2 rfl rfl ?_
        refine wp_imulN (q := 81) dX12_seeksHold_80 rfl ?_
        refine wp_iload (q := 83) dX12_seeksHold_81 1 rfl rfl ?_
        refine wp_iaddN (q := 84) dX12_seeksHold_83 rfl ?_
        refine wp_putI (q := 87) dX12_seeksHold_84 zf_RX12_518 rfl zsh_177 rfl ?_
        refine wp_iincN (q := 90) (loc' := [(6, _), (7, _), (5, _), (4, _), (3, _), (0, _), (1, _), (2, _)]) (n := 1) dX12_seeksHold_87 rfl 1 rfl (by decide) rfl rfl ?_
        refine wp_goto (tgt := 32) dX12_seeksHold_90 (by decide) ?_
        refine WP.sub (loc' := [(6, _), (5, _), (4, _), (3, _), (0, _), (1, _), (2, _)]) [0, 2, 3, 4, 5, 6, 7] rfl ?_
        refine ih (low + 1) gp _ _ (by omega) hgp ?_ cont
        rw [show 10 * gp + (low + 1) = 10 * gp + low + 1 by omega]
        unfold zSk
        rw [hf, b1, b2]
        refine ⟨⟨_, zMc_fr c4 (fun x hx => by rw [zu_ne (by omega), zu_ne (by omega)]), fun x => zhold_hold⟩, by rw [zu_k (by decide), zu_s]; exact zdn_s _, fun _ => zu_s, zNo_t n4 ⟨fun x a b c => by rw [zu_ne c, zu_ne c], fun k a b c => by rw [zu_k b, zu_k c], fun _ _ => rfl⟩⟩
      · skip
        have c' : ¬ zbq f (10 * gp + low) < f (10 * gp + low) + 1 := fun e => c (Int32.not_le.mp (fun e2 => Nat.not_le.mpr e ((zdn_l (by omega) (by omega)).mp e2)))
        obtain ⟨b0, b1, b2⟩ := zbq_n c'
        refine wp_goto (tgt := 87) dX12_seeksHold_66 (by decide) ?_
        refine wp_iincN (q := 90) (loc' := [(6, _), (7, _), (5, _), (4, _), (3, _), (0, _), (1, _), (2, _)]) (n := 1) dX12_seeksHold_87 rfl 1 rfl (by decide) rfl rfl ?_
        refine wp_goto (tgt := 32) dX12_seeksHold_90 (by decide) ?_
        refine WP.sub (loc' := [(6, _), (5, _), (4, _), (3, _), (0, _), (1, _), (2, _)]) [0, 2, 3, 4, 5, 6, 7] rfl ?_
        refine ih (low + 1) gp _ _ (by omega) hgp ?_ cont
        rw [show 10 * gp + (low + 1) = 10 * gp + low + 1 by omega]
        unfold zSk
        rw [hf, b1, b2]
        exact ⟨⟨_, c4, fun x => zhold_hold⟩, k4, fun _ => k4' b0, n4⟩
  have outer : ∀ q gp (M2 : zMI) (L2 : zML), gp + q = 3 → zSk M M2 L L2 n tb v s hh (10 * gp) → WP w YX12_seeksHold (d + 7, SS, 0, 0) G (some (zXp (fun v0 M' L' R' => v0 = none ∧ R' = zRf t ∧ zMc M' n tb v ∧ zNo M M' L L' ∧ M' 177 60 = nI (zbs tb v n s hh) ∧ M' 177 61 = nI (zfw tb v n s hh (zbs tb v n s hh))))) 23 [(5, .int (nI gp)), (4, .int (nI l0)), (3, .int (nI g0)), (0, .ref 177), (1, .int (nI s)), (2, .int (nI hh))] [] SS M2 L2 (zRf t) := by
    intro q
    induction q with
    | zero =>
      intro gp M2 L2 hq hk
      rw [show gp = 3 by omega] at hk ⊢
      obtain ⟨⟨u, u1, u2⟩, k1, k2, k3⟩ := hk
      refine wp_iload (q := 25) dX12_seeksHold_23 0 rfl rfl ?_
      refine wp_iconst (q := 26) dX12_seeksHold_25 zq_iconst_3 rfl ?_
      refine wp_icmp_geN (tgt := 99) (q := 29) dX12_seeksHold_26 (by decide) rfl (by omega) (by omega) (fun _ => ?_) (fun hn => absurd hn (by first | omega | exact fun h => h | exact fun h => h trivial))
      refine wp_aload_n (q := 100) dX12_seeksHold_99 3 rfl rfl ?_
      refine wp_iload_n (q := 101) dX12_seeksHold_100 4 rfl rfl ?_
      refine wp_iload_n (q := 102) dX12_seeksHold_101 5 rfl rfl ?_
      refine wp_iload_n (q := 103) dX12_seeksHold_102 2 rfl rfl ?_
      refine wp_iload (q := 105) dX12_seeksHold_103 1 rfl rfl ?_
      refine wp_cvy (q := 108) (sp_mholdsNow (d := 0) u1.2.1 hs0 hh0 (by omega : g0 < 3) (by omega : l0 < 10)) zm_X12_holdsNow zl_RX12_511 dX12_seeksHold_105 rfl (by omega) (Nat.le_of_ble_eq_true rfl) zsh_177 rfl rfl ?_
      rintro _ M3 L3 _ ⟨rfl, rfl, rfl, n3, e3⟩
      rw [u2, hcur] at n3
      refine wp_return dX12_seeksHold_108 rfl ⟨rfl, ⟨rfl, rfl, zMc_no u1 (zNo_n (L := L2) e3) n3, zNo_t k3 (zNo_n e3), ?_, ?_⟩⟩ rfl rfl
      · rw [e3 177 (by decide)]
        exact k2 (by decide)
      · rw [e3 177 (by decide), k1, zdn_s]
        rfl
    | succ q ih =>
      intro gp M2 L2 hq hk
      refine wp_iload (q := 25) dX12_seeksHold_23 0 rfl rfl ?_
      refine wp_iconst (q := 26) dX12_seeksHold_25 zq_iconst_3 rfl ?_
      refine wp_icmp_geN (tgt := 99) (q := 29) dX12_seeksHold_26 (by decide) rfl (by omega) (by omega) (fun hn => absurd hn (by first | omega | exact fun h => h | exact fun h => h trivial)) (fun _ => ?_)
      refine wp_iconst (q := 30) dX12_seeksHold_29 zq_iconst_0 rfl ?_
      refine wp_istore (q := 32) (loc' := [(6, _), (5, _), (4, _), (3, _), (0, _), (1, _), (2, _)]) dX12_seeksHold_30 (by decide) rfl rfl ?_
      refine WP.sub (loc' := [(6, _), (5, _), (4, _), (3, _), (0, _), (1, _), (2, _)]) [0, 1, 2, 3, 4, 5, 6] rfl ?_
      exact inner 10 0 gp M2 L2 (by decide) (by omega) hk (fun M3 L3 hk3 => ih (gp + 1) M3 L3 (by omega) hk3)
  refine wp_aload_n (q := 1) dX12_seeksHold_0 0 rfl rfl ?_
  refine wp_iload_n (q := 2) dX12_seeksHold_1 1 rfl rfl ?_
  refine wp_iload_n (q := 3) dX12_seeksHold_2 2 rfl rfl ?_
  refine wp_cvx (q := 6) (sp_mgrip (d := 0) h.2.1 hs0 hh0) zm_X12_gripOf zl_RX12_421 dX12_seeksHold_3 rfl (by omega) (Nat.le_of_ble_eq_true rfl) zsh_177 rfl rfl ?_
  rw [hg0]
  refine wp_istore_n (q := 7) (loc' := [(3, _), (0, _), (1, _), (2, _)]) dX12_seeksHold_6 rfl (by decide) rfl rfl ?_
  refine wp_aload_n (q := 8) dX12_seeksHold_7 1 rfl rfl ?_
  refine wp_iload_n (q := 9) dX12_seeksHold_8 2 rfl rfl ?_
  refine wp_iload_n (q := 10) dX12_seeksHold_9 3 rfl rfl ?_
  refine wp_cvx (q := 13) (sp_mlow (d := 0) h.2.1 hs0 hh0) zm_X12_lowOf zl_RX12_418 dX12_seeksHold_10 rfl (by omega) (Nat.le_of_ble_eq_true rfl) zsh_177 rfl rfl ?_
  rw [hl0]
  refine wp_istore (q := 15) (loc' := [(4, _), (3, _), (0, _), (1, _), (2, _)]) dX12_seeksHold_13 (by decide) rfl rfl ?_
  refine wp_aload_n (q := 16) dX12_seeksHold_15 2 rfl rfl ?_
  refine wp_iconst (q := 17) dX12_seeksHold_16 zq_iconst_m1 rfl ?_
  refine wp_putI (q := 20) dX12_seeksHold_17 zf_RX12_508 rfl zsh_177 rfl ?_
  refine wp_iconst (q := 21) dX12_seeksHold_20 zq_iconst_0 rfl ?_
  refine wp_istore (q := 23) (loc' := [(5, _), (4, _), (3, _), (0, _), (1, _), (2, _)]) dX12_seeksHold_21 (by decide) rfl rfl ?_
  refine WP.sub (loc' := [(5, _), (4, _), (3, _), (0, _), (1, _), (2, _)]) [0, 1, 2, 3, 4, 5] rfl ?_
  refine outer 3 0 _ _ (by decide) ⟨⟨v, zMc_fr h (fun x hx => zu_ne (by omega)), fun x => rfl⟩, zu_s, fun c => absurd c (by decide), ⟨fun x a b c => zu_ne c, fun k a b c => zu_k c, fun _ _ => rfl⟩⟩

