def zsm2 (u v : Nat → Nat) : Prop := ∀ j, 3 ≤ j → (j - 3) % 6 ≠ 1 → u j = v j
theorem zof_sm {tb : zTb} {u v : Nat → Nat} (h : zsm2 u v) (a b : Nat) : zoR tb u a b = zoR tb v a b ∧ zoL tb u a b = zoL tb v a b := by
  have e1 : wh u a = wh v a := h _ (by omega) (by omega)
  have e2 : wh u b = wh v b := h _ (by omega) (by omega)
  have e3 : lw u a 0 = lw v a 0 := h _ (by omega) (by omega)
  have e4 : lw u b 1 = lw v b 1 := h _ (by omega) (by omega)
  have e5 : gr u a 0 = gr v a 0 := h _ (by omega) (by omega)
  have e6 : gr u b 1 = gr v b 1 := h _ (by omega) (by omega)
  unfold zoR zoL zrw zsR zsL zmR zmL
  rw [e1, e2, e3, e4, e5, e6]
  exact ⟨rfl, rfl⟩
theorem zdv_u {a k y x x' b : Nat} {w : Nat → Nat} (hk : 2 ≤ k) : zdv a (vup w k y, x', b) = vup (zdv a (w, x, b)) k y := by
  funext j
  unfold zdv
  show vup (vup (vup w k y) 0 (vup w k y 0 + a)) 1 (min 9999 (vup w k y 1 + b)) j = vup (vup (vup w 0 (w 0 + a)) 1 (min 9999 (w 1 + b))) k y j
  rw [vup_ne (show 0 ≠ k by omega), vup_ne (show 1 ≠ k by omega)]
  unfold vup
  by_cases c1 : j = 1
  · rw [if_pos c1, if_neg (by omega), if_pos c1]
  · rw [if_neg c1]
    by_cases c0 : j = 0
    · rw [if_pos c0, if_neg (by omega), if_neg c1, if_pos c0]
    · rw [if_neg c0]
      by_cases ck : j = k
      · rw [if_pos ck, if_pos ck]
      · rw [if_neg ck, if_neg ck, if_neg c1, if_neg c0]
theorem zdv_b {a x x' b : Nat} {w : Nat → Nat} : vup (zdv a (w, x, b)) 1 (min 9999 (zdv a (w, x, b) 1 + 1)) = zdv a (w, x', b + 1) := by
  have e : zdv a (w, x, b) 1 = min 9999 (w 1 + b) := vup_eq
  rw [e, show min 9999 (min 9999 (w 1 + b) + 1) = min 9999 (w 1 + (b + 1)) by omega]
  funext j
  unfold zdv vup
  by_cases c1 : j = 1
  · rw [if_pos c1, if_pos c1]
  · rw [if_neg c1, if_neg c1, if_neg c1]
theorem zdv_a {a x b : Nat} {w : Nat → Nat} (h : w 0 + a + 1 ≤ 9999) : vup (zdv a (w, x, b)) 0 (min 9999 (zdv a (w, x, b) 0 + 1)) = zdv (a + 1) (w, x, b) := by
  have e : zdv a (w, x, b) 0 = w 0 + a := by
    unfold zdv
    rw [vup_ne (by decide), vup_eq]
  rw [e, show min 9999 (w 0 + a + 1) = w 0 + (a + 1) by omega]
  funext j
  unfold zdv vup
  by_cases c1 : j = 1
  · rw [if_neg (by omega), if_pos c1, if_pos c1]
  · rw [if_neg c1, if_neg c1]
    by_cases c0 : j = 0
    · rw [if_pos c0, if_pos c0]
    · rw [if_neg c0, if_neg c0, if_neg c0]
theorem zdv_0 {x : Nat} {v : Nat → Nat} (h : v 1 ≤ 9999) : zdv 0 (v, x, 0) = v := by
  funext j
  unfold zdv vup
  by_cases c1 : j = 1
  · rw [if_pos c1, c1]
    show min 9999 (v 1 + 0) = v 1
    omega
  · rw [if_neg c1]
    by_cases c0 : j = 0
    · rw [if_pos c0, c0]
      rfl
    · rw [if_neg c0]
theorem zsm2_dv {a : Nat} {s : zDs} {v : Nat → Nat} (h : zsm2 s.1 v) : zsm2 (zdv a s) v := by
  intro j h3 h6
  unfold zdv
  rw [vup_ne (by omega), vup_ne (by omega)]
  exact h j h3 h6
theorem zsm2_p1 {R Lf n c x : Nat} {w v : Nat → Nat} (h : zsm2 w v) : zsm2 (zp1 R Lf n c w x) v := by
  intro j h3 h6
  unfold zp1
  split
  · rw [vup_ne (by omega)]
    exact h j h3 h6
  · split
    · rw [vup_ne (by omega)]
      exact h j h3 h6
    · rw [vup_ne (by omega)]
      exact h j h3 h6
def zDf (M M' : zMI) (L L' : zML) : Prop := (∀ y, y ≠ 214 → y ≠ 215 → y ≠ 177 → M' y = M y) ∧ (∀ k, k ≠ 50 → M' 177 k = M 177 k) ∧ ∀ y, y ≠ 213 → y ≠ 177 → L' y = L y
theorem zDf_r {M : zMI} {L : zML} : zDf M M L L := ⟨fun _ _ _ _ => rfl, fun _ _ => rfl, fun _ _ _ => rfl⟩
theorem zDf_t {M M' M'' : zMI} {L L' L'' : zML} (h : zDf M M' L L') (h' : zDf M' M'' L' L'') : zDf M M'' L L'' := ⟨fun x a b c => by rw [h'.1 x a b c, h.1 x a b c], fun k a => by rw [h'.2.1 k a, h.2.1 k a], fun x a b => by rw [h'.2.2 x a b, h.2.2 x a b]⟩
theorem zDf_o {M M' : zMI} {L L' : zML} (h : zTo M M' L L') : zDf M M' L L' := ⟨fun x a _ c => h.1 x a c, fun k a => h.2.1 k a, fun y a _ => h.2.2 y a⟩
theorem zDf_n {M M' : zMI} {L : zML} (h : ∀ x, x ≠ 215 → M' x = M x) : zDf M M' L L := ⟨fun x _ b _ => h x b, fun k _ => by rw [h 177 (by decide)], fun _ _ _ => rfl⟩
theorem zDf_l {M : zMI} {L : zML} {k : Nat} {x : Int64} : zDf M M L (zu L 177 k x) := ⟨fun _ _ _ _ => rfl, fun _ _ => rfl, fun y _ b => zu_ne b⟩
theorem zMc_d {M M' : zMI} {L L' : zML} {n : Nat} {tb : zTb} {v u : Nat → Nat} (h : zMc M n tb v) (e : zDf M M' L L') (hu : zNw M' n u) : zMc M' n tb u := zMc_n h (fun x hx => e.1 x (by omega) (by omega) (by omega)) hu
set_option maxHeartbeats 4000000 in
set_option maxRecDepth 100000 in
theorem sp_mdrawOf {d t x k : Nat} {M : zMI} {L : zML} (hx : L 177 68 = lN x) (hx2 : x < 2147483648) (h0 : 0 < k) (hk : k < 2147483648) : Sx yX12_drawOf YX12_drawOf (d) [.ref 177, .int (nI k)] M L (zRf t) (some (.int (nI (zdr x / 64 % k)))) M (zu L 177 68 (lN (zdr x))) (zRf t) := by
  refine Sp.of (by decide +kernel) rfl (fun h => by first | exact h | cases h) (Nat.le_of_ble_eq_true rfl) ?_
  intro w G
  have hlt := zdr_lt x
  have h64 : zdr x / 64 ≤ zdr x := Nat.div_le_self _ _
  have hmod : zdr x / 64 % k < k := Nat.mod_lt _ h0
  refine wp_aload_n (q := 1) dX12_drawOf_0 0 rfl rfl ?_
  refine wp_ldc2_w (q := 4) dX12_drawOf_1 zk_RX12_570 rfl ?_
  rw [zlitL 1103515245]
  refine wp_aload_n (q := 5) dX12_drawOf_4 0 rfl rfl ?_
  refine wp_getL (q := 8) dX12_drawOf_5 zf_RX12_163 rfl zsh_177 rfl ?_
  rw [hx]
  refine wp_lmulN (q := 9) dX12_drawOf_8 rfl ?_
  refine wp_ldc2_w (q := 12) dX12_drawOf_9 zk_RX12_572 rfl ?_
  rw [zlitL 12345]
  refine wp_laddN (q := 13) dX12_drawOf_12 rfl ?_
  refine wp_ldc2_w (q := 16) dX12_drawOf_13 zk_RX12_574 rfl ?_
  rw [zlitL 2147483648]
  refine wp_lremN (q := 17) dX12_drawOf_16 (by omega) (by omega) (by omega) rfl ?_
  rw [show (1103515245 * x + 12345) % 2147483648 = zdr x from rfl]
  refine wp_putL (q := 20) dX12_drawOf_17 zf_RX12_163 rfl zsh_177 rfl ?_
  refine wp_aload_n (q := 21) dX12_drawOf_20 0 rfl rfl ?_
  refine wp_getL (q := 24) dX12_drawOf_21 zf_RX12_163 rfl zsh_177 rfl ?_
  rw [zu_s]
  refine wp_ldc2_w (q := 27) dX12_drawOf_24 zk_RX12_576 rfl ?_
  rw [zlitL 64]
  refine wp_ldivN (q := 28) dX12_drawOf_27 (by omega) (by omega) (by omega) rfl ?_
  refine wp_iload_n (q := 29) dX12_drawOf_28 1 rfl rfl ?_
  refine wp_i2lN (q := 30) dX12_drawOf_29 (by omega) rfl ?_
  refine wp_lremN (q := 31) dX12_drawOf_30 (by omega) (by omega) (by omega) rfl ?_
  refine wp_l2iN (q := 32) dX12_drawOf_31 rfl ?_
  exact wp_ireturn dX12_drawOf_32 rfl ⟨rfl, rfl, rfl, rfl, rfl⟩ rfl rfl
set_option maxHeartbeats 4000000 in
set_option maxRecDepth 100000 in
theorem sp_mmore {d t n w0 : Nat} {M : zMI} {L : zML} {v : Nat → Nat} (h : zNw M n v) (hw0 : w0 < 3) : Sy yX12_more YX12_more (d) [.ref 177, .int (nI w0)] M L (zRf t) (fun v0 M' L' R' => v0 = none ∧ L = L' ∧ R' = zRf t ∧ zNw M' n (vup v w0 (min 9999 (v w0 + 1))) ∧ ∀ x, x ≠ 215 → M' x = M x) := by
  refine Sp.of (by decide +kernel) rfl (fun h => by first | exact h | cases h) (Nat.le_of_ble_eq_true rfl) ?_
  intro w G
  have h8 := h.1.1
  have h9 : v w0 ≤ 9999 := by
    have h2 := h.1.2.2.2.2.2
    have hc : w0 = 0 ∨ w0 = 1 ∨ w0 = 2 := by omega
    rcases hc with rfl | rfl | rfl
    · exact h2.1
    · exact h2.2.1
    · exact h2.2.2
  refine wp_aload_n (q := 1) dX12_more_0 0 rfl rfl ?_
  refine wp_getR (q := 4) dX12_more_1 zf_RX12_127 rfl zsh_177 (zr_177_52 _) rfl ?_
  refine wp_iload_n (q := 5) dX12_more_4 1 rfl rfl ?_
  refine wp_iald (q := 6) _ dX12_more_5 zsh_215 rfl (by omega) (by decide) rfl ?_
  rw [h.2 w0 (by omega)]
  refine wp_sipush (q := 9) dX12_more_6 zq_sipush_9999 rfl ?_
  refine wp_icmp_geN (tgt := 22) (q := 12) dX12_more_9 (by decide) rfl (by omega) (by omega) (fun c => ?_) (fun c => ?_)
  · skip
    refine wp_return dX12_more_22 rfl ⟨rfl, ⟨rfl, rfl, rfl, ?_, fun x _ => rfl⟩⟩ rfl rfl
    have e : vup v w0 (min 9999 (v w0 + 1)) = v := by
      funext j
      by_cases cj : j = w0
      · rw [cj, vup_eq]
        omega
      · rw [vup_ne cj]
    rw [e]
    exact h
  · skip
    refine wp_aload_n (q := 13) dX12_more_12 0 rfl rfl ?_
    refine wp_getR (q := 16) dX12_more_13 zf_RX12_127 rfl zsh_177 (zr_177_52 _) rfl ?_
    refine wp_iload_n (q := 17) dX12_more_16 1 rfl rfl ?_
    first | refine wp_dup2 (q := 18) dX12_more_17 rfl rfl rfl ?_ | refine wp_dup2L (q := 18) dX12_more_17 rfl rfl ?_
    refine wp_iald (q := 19) _ dX12_more_18 zsh_215 rfl (by omega) (by decide) rfl ?_
    rw [h.2 w0 (by omega)]
    refine wp_iconst (q := 20) dX12_more_19 zq_iconst_1 rfl ?_
    refine wp_iaddN (q := 21) dX12_more_20 rfl ?_
    refine wp_iast (q := 22) _ dX12_more_21 zsh_215 rfl (by omega) (by decide) rfl ?_
    exact wp_return dX12_more_22 rfl ⟨rfl, ⟨rfl, rfl, rfl, zNw_u h (zV_c h.1 hw0 (by omega)) (by rw [show min 9999 (v w0 + 1) = v w0 + 1 by omega]), fun x hx => zu_ne hx⟩⟩ rfl rfl
set_option maxHeartbeats 4000000 in
set_option maxRecDepth 100000 in
theorem sp_mdines {d t n bg a b0 : Nat} {M : zMI} {L : zML} {tb : zTb} {v : Nat → Nat} {s : zDs} (h : zMc M n tb (zdv a s)) (h2 : 2 ≤ n) (hx : L 177 68 = lN s.2.1) (hbg : M 208 1 = nI bg) (hbg9 : bg ≤ 100) (hsm : zsm2 s.1 v) (hk : zdk n v b0 s) (ha : v 0 + a + 1 ≤ 9999) (hb9 : b0 ≤ 1000) : Sy yX12_dines YX12_dines (d + 6) [.ref 177] M L (zRf t) (fun v0 M' L' R' => ∃ k, v0 = some (.int (nI k)) ∧ R' = zRf t ∧ (zdin tb v n bg n s).2.2 = s.2.2 + k ∧ zMc M' n tb (zdv (a + 1) (zdin tb v n bg n s)) ∧ L' 177 68 = lN (zdin tb v n bg n s).2.1 ∧ zsm2 (zdin tb v n bg n s).1 v ∧ zDf M M' L L') := by
  refine Sp.of (by decide +kernel) rfl (fun h => by first | exact h | cases h) (Nat.le_of_ble_eq_true rfl) ?_
  intro w G
  have h8 := h.2.1.1.1
  have loop : ∀ q c k (M2 : zMI) (L2 : zML), c + q = n → (zdin tb v n bg c s).2.2 = s.2.2 + k → zMc M2 n tb (zdv a (zdin tb v n bg c s)) → L2 177 68 = lN (zdin tb v n bg c s).2.1 → zsm2 (zdin tb v n bg c s).1 v → zDf M M2 L L2 → WP w YX12_dines (d + 6, SS, 0, 0) G (some (zXp (fun v0 M' L' R' => ∃ k, v0 = some (.int (nI k)) ∧ R' = zRf t ∧ (zdin tb v n bg n s).2.2 = s.2.2 + k ∧ zMc M' n tb (zdv (a + 1) (zdin tb v n bg n s)) ∧ L' 177 68 = lN (zdin tb v n bg n s).2.1 ∧ zsm2 (zdin tb v n bg n s).1 v ∧ zDf M M' L L'))) 4 [(2, .int (nI c)), (1, .int (nI k)), (0, .ref 177)] [] SS M2 L2 (zRf t) := by
    intro q
    induction q with
    | zero =>
      intro c k M2 L2 hq e1 e2 e3 e4 e5
      rw [show c = n by omega] at e1 e2 e3 e4 ⊢
      have hkn := zdk_i (tb := tb) (v := v) (bg := bg) hk n (Nat.le_refl _)
      have hw0 := hkn.2.2.1
      have hle := hkn.2.2.2.2
      obtain ⟨r, hr⟩ : ∃ r, zdin tb v n bg n s = r := ⟨_, rfl⟩
      rw [hr] at e1 e2 e3 e4 hw0 hle
      obtain ⟨ww, x, b⟩ := r
      have hza := zdv_a (a := a) (x := x) (b := b) (w := ww) (by have : ww 0 = v 0 := hw0; omega)
      refine wp_iload_n (q := 5) dX12_dines_4 0 rfl rfl ?_
      refine wp_aload_n (q := 6) dX12_dines_5 2 rfl rfl ?_
      refine wp_cvx (q := 9) (sp_mcm (d := 0) e2.1 h8) zm_X12_crackerMany zl_RX12_463 dX12_dines_6 rfl (by omega) (Nat.le_of_ble_eq_true rfl) zsh_177 rfl rfl ?_
      rw [if_neg (by omega)]
      refine wp_icmp_geN (tgt := 126) (q := 12) dX12_dines_9 (by decide) rfl (by omega) (by omega) (fun _ => ?_) (fun hn => absurd hn (by first | omega | exact fun h => h | exact fun h => h trivial))
      refine wp_aload_n (q := 127) dX12_dines_126 2 rfl rfl ?_
      refine wp_iconst (q := 128) dX12_dines_127 zq_iconst_0 rfl ?_
      refine wp_cvy (q := 131) (sp_mmore (d := 0) (w0 := 0) e2.2.1 (by decide)) zm_X12_more zl_RX12_581 dX12_dines_128 rfl (by omega) (Nat.le_of_ble_eq_true rfl) zsh_177 rfl rfl ?_
      rintro _ M3 L3 _ ⟨rfl, rfl, rfl, n3, f3⟩
      rw [hza] at n3
      refine wp_iload_n (q := 132) dX12_dines_131 1 rfl rfl ?_
      refine wp_ireturn dX12_dines_132 rfl ⟨rfl, ⟨k, rfl, rfl, by rw [hr]; exact e1, ?_, by rw [hr]; exact e3, by rw [hr]; exact e4, zDf_t e5 (zDf_n f3)⟩⟩ rfl rfl
      rw [hr]
      exact zMc_d e2 (zDf_n (L := L2) f3) n3
    | succ q ih =>
      intro c k M2 L2 hq e1 e2 e3 e4 e5
      have hc : c < n := by omega
      have hm : (c + 1) % n < n := Nat.mod_lt _ (by omega)
      have hkn := zdk_i (tb := tb) (v := v) (bg := bg) hk c (by omega)
      have ihn := fun k M3 L3 => ih (c + 1) k M3 L3 (by omega)
      have hzs : zdin tb v n bg (c + 1) s = zdic tb v n bg (zdin tb v n bg c s) c := rfl
      rw [hzs] at ihn
      obtain ⟨r, hr⟩ : ∃ r, zdin tb v n bg c s = r := ⟨_, rfl⟩
      rw [hr] at e1 e2 e3 e4 hkn ihn
      obtain ⟨ww, x, b⟩ := r
      have hx31 : x < 2147483648 := hkn.2.1
      have hbk : b = s.2.2 + k := e1
      have hble : b ≤ b0 + c := hkn.2.2.2.2
      have h99 := hkn.1.2.2.2.1
      have hc9 := h99 c hc
      have hm9 := h99 _ hm
      have d1 := zdr_lt x
      have d2 := zdr_lt (zdr x)
      have m1 : zdr x / 64 % 10000 < 10000 := Nat.mod_lt _ (by decide)
      have m2 : zdr (zdr x) / 64 % 100 < 100 := Nat.mod_lt _ (by decide)
      obtain ⟨o1, o2⟩ := zof_sm (tb := tb) (zsm2_dv (a := a) e4) c ((c + 1) % n)
      have hsum := zo_sum tb v c ((c + 1) % n)
      unfold zdic at ihn
      obtain ⟨Rr, hRr⟩ : ∃ Rr, zoR tb v c ((c + 1) % n) = Rr := ⟨_, rfl⟩
      obtain ⟨Ll, hLl⟩ : ∃ Ll, zoL tb v c ((c + 1) % n) = Ll := ⟨_, rfl⟩
      rw [hRr, hLl] at ihn
      rw [hRr] at o1 hsum
      rw [hLl] at o2 hsum
      have hsm1 := zsm2_p1 (R := Rr) (Lf := Ll) (n := n) (c := c) (x := x) (show zsm2 ww v from e4)
      -- the second draw and what follows
      have rest : ∀ (M3 : zMI) (L3 : zML), zMc M3 n tb (zdv a (zp1 Rr Ll n c ww x, x, b)) → L3 177 68 = lN (zdr x) → zDf M2 M3 L2 L3 → WP w YX12_dines (d + 6, SS, 0, 0) G (some (zXp (fun v0 M' L' R' => ∃ k, v0 = some (.int (nI k)) ∧ R' = zRf t ∧ (zdin tb v n bg n s).2.2 = s.2.2 + k ∧ zMc M' n tb (zdv (a + 1) (zdin tb v n bg n s)) ∧ L' 177 68 = lN (zdin tb v n bg n s).2.1 ∧ zsm2 (zdin tb v n bg n s).1 v ∧ zDf M M' L L'))) 94 [(2, .int (nI c)), (1, .int (nI k)), (0, .ref 177)] [] SS M3 L3 (zRf t) := by
        intro M3 L3 c3 s3 f3
        have hb3 : M3 208 1 = nI bg := by rw [f3.1 208 (by decide) (by decide) (by decide), e5.1 208 (by decide) (by decide) (by decide)]; exact hbg
        refine wp_aload_n (q := 95) dX12_dines_94 2 rfl rfl ?_
        refine wp_bipush (q := 97) dX12_dines_95 zq_bipush_100 rfl ?_
        refine wp_cvx (q := 100) (sp_mdrawOf (d := 0) s3 d1 (by decide) (by decide)) zm_X12_drawOf zl_RX12_578 dX12_dines_97 rfl (by omega) (Nat.le_of_ble_eq_true rfl) zsh_177 rfl rfl ?_
        refine wp_aload_n (q := 101) dX12_dines_100 2 rfl rfl ?_
        refine wp_getR (q := 104) dX12_dines_101 zf_RX12_106 rfl zsh_177 (zr_177_39 _) rfl ?_
        refine wp_iconst (q := 105) dX12_dines_104 zq_iconst_1 rfl ?_
        refine wp_iald (q := 106) _ dX12_dines_105 zsh_208 rfl (by omega) (by decide) rfl ?_
        rw [hb3]
        refine wp_icmp_ltN (tgt := 112) (q := 109) dX12_dines_106 (by decide) rfl (by omega) (by omega) (fun c2 => ?_) (fun c2 => ?_)
        · skip
          refine wp_iincN (q := 115) (loc' := [(1, _), (2, _), (0, _)]) (n := 1) dX12_dines_112 rfl 1 rfl (by decide) rfl rfl ?_
          refine wp_aload_n (q := 116) dX12_dines_115 2 rfl rfl ?_
          refine wp_iconst (q := 117) dX12_dines_116 zq_iconst_1 rfl ?_
          refine wp_cvy (q := 120) (sp_mmore (d := 0) (w0 := 1) c3.2.1 (by decide)) zm_X12_more zl_RX12_581 dX12_dines_117 rfl (by omega) (Nat.le_of_ble_eq_true rfl) zsh_177 rfl rfl ?_
          rintro _ M4 L4 _ ⟨rfl, rfl, rfl, n4, f4⟩
          rw [zdv_b (x' := zdr (zdr x))] at n4
          refine wp_iincN (q := 123) (loc' := [(2, _), (1, _), (0, _)]) (n := 1) dX12_dines_120 rfl 1 rfl (by decide) rfl rfl ?_
          refine wp_goto (tgt := 4) dX12_dines_123 (by decide) ?_
          refine WP.sub (loc' := [(2, _), (1, _), (0, _)]) [0, 1, 2] rfl ?_
          refine ihn (k + 1) M4 _ ?_ ?_ zu_s hsm1 (zDf_t e5 (zDf_t f3 (zDf_t zDf_l (zDf_n f4))))
          · show b + _ = _
            rw [if_pos c2]
            omega
          · show zMc M4 n tb (zdv a (_, _, b + _))
            rw [if_pos c2]
            exact zMc_d c3 (zDf_n (L := L) f4) n4
        · skip
          refine wp_goto (tgt := 120) dX12_dines_109 (by decide) ?_
          refine wp_iincN (q := 123) (loc' := [(2, _), (1, _), (0, _)]) (n := 1) dX12_dines_120 rfl 0 rfl (by decide) rfl rfl ?_
          refine wp_goto (tgt := 4) dX12_dines_123 (by decide) ?_
          refine WP.sub (loc' := [(2, _), (1, _), (0, _)]) [0, 1, 2] rfl ?_
          refine ihn k M3 _ ?_ ?_ zu_s hsm1 (zDf_t e5 (zDf_t f3 zDf_l))
          · show b + _ = _
            rw [if_neg (Nat.not_lt.mpr c2)]
            omega
          · show zMc M3 n tb (zdv a (_, _, b + _))
            rw [if_neg (Nat.not_lt.mpr c2)]
            exact c3
      have htc : ∀ i, ht (zdv a (ww, x, b)) i = ht ww i := fun i => by
        show zdv a (ww, x, b) (4 + 6 * i) = ww (4 + 6 * i)
        unfold zdv
        rw [vup_ne (by omega), vup_ne (by omega)]
      refine wp_iload_n (q := 5) dX12_dines_4 0 rfl rfl ?_
      refine wp_aload_n (q := 6) dX12_dines_5 2 rfl rfl ?_
      refine wp_cvx (q := 9) (sp_mcm (d := 0) e2.1 h8) zm_X12_crackerMany zl_RX12_463 dX12_dines_6 rfl (by omega) (Nat.le_of_ble_eq_true rfl) zsh_177 rfl rfl ?_
      rw [if_neg (by omega)]
      refine wp_icmp_geN (tgt := 126) (q := 12) dX12_dines_9 (by decide) rfl (by omega) (by omega) (fun hn => absurd hn (by first | omega | exact fun h => h | exact fun h => h trivial)) (fun _ => ?_)
      refine wp_aload_n (q := 13) dX12_dines_12 2 rfl rfl ?_
      refine wp_sipush (q := 16) dX12_dines_13 zq_sipush_10000 rfl ?_
      refine wp_cvx (q := 19) (sp_mdrawOf (d := 0) (x := x) e3 hx31 (by decide) (by decide)) zm_X12_drawOf zl_RX12_578 dX12_dines_16 rfl (by omega) (Nat.le_of_ble_eq_true rfl) zsh_177 rfl rfl ?_
      refine wp_istore_n (q := 20) (loc' := [(3, _), (2, _), (1, _), (0, _)]) dX12_dines_19 rfl (by decide) rfl rfl ?_
      refine wp_aload_n (q := 21) dX12_dines_20 3 rfl rfl ?_
      refine wp_iload_n (q := 22) dX12_dines_21 1 rfl rfl ?_
      refine wp_iconst (q := 23) dX12_dines_22 zq_iconst_0 rfl ?_
      refine wp_cvy (q := 26) (sp_moddsAt (d := 0) (hd := 0) e2 hc (by decide) (show zof tb (zdv a (ww, x, b)) c ((c + 1) % n) 0 = Rr from o1)) zm_X12_oddsAt zl_RX12_448 dX12_dines_23 rfl (by omega) (Nat.le_of_ble_eq_true rfl) zsh_177 rfl rfl ?_
      rintro _ M3 L3 _ ⟨rfl, rfl, t3⟩
      refine wp_istore (q := 28) (loc' := [(4, _), (3, _), (2, _), (1, _), (0, _)]) dX12_dines_26 (by decide) rfl rfl ?_
      refine wp_iload (q := 30) dX12_dines_28 0 rfl rfl ?_
      refine wp_aload_n (q := 31) dX12_dines_30 4 rfl rfl ?_
      refine wp_iload_n (q := 32) dX12_dines_31 2 rfl rfl ?_
      refine wp_iconst (q := 33) dX12_dines_32 zq_iconst_1 rfl ?_
      refine wp_cvy (q := 36) (sp_moddsAt (d := 0) (hd := 1) (zMc_o e2 t3) hc (by decide) (show zof tb (zdv a (ww, x, b)) c ((c + 1) % n) 1 = Ll from o2)) zm_X12_oddsAt zl_RX12_448 dX12_dines_33 rfl (by omega) (Nat.le_of_ble_eq_true rfl) zsh_177 rfl rfl ?_
      rintro _ M4 L4 _ ⟨rfl, rfl, t4⟩
      have c4 := zMc_o (zMc_o e2 t3) t4
      have f4 := zDf_t (zDf_l (M := M2) (L := L2) (k := 68) (x := lN (zdr x))) (zDf_t (zDf_o t3) (zDf_o t4))
      have s4 : L4 177 68 = lN (zdr x) := by rw [t4.2.2 177 (by decide), t3.2.2 177 (by decide)]; exact zu_s
      refine wp_iaddN (q := 37) dX12_dines_36 rfl ?_
      refine wp_istore (q := 39) (loc' := [(5, _), (4, _), (3, _), (2, _), (1, _), (0, _)]) dX12_dines_37 (by decide) rfl rfl ?_
      refine wp_iload_n (q := 40) dX12_dines_39 2 rfl rfl ?_
      refine wp_iload (q := 42) dX12_dines_40 1 rfl rfl ?_
      refine wp_icmp_geN (tgt := 60) (q := 45) dX12_dines_42 (by decide) rfl (by omega) (by omega) (fun k1 => ?_) (fun k1 => ?_)
      · skip
        refine wp_iload_n (q := 61) dX12_dines_60 2 rfl rfl ?_
        refine wp_iload (q := 63) dX12_dines_61 0 rfl rfl ?_
        refine wp_icmp_geN (tgt := 89) (q := 66) dX12_dines_63 (by decide) rfl (by omega) (by omega) (fun k2 => ?_) (fun k2 => ?_)
        · skip
          refine wp_aload_n (q := 90) dX12_dines_89 5 rfl rfl ?_
          refine wp_iconst (q := 91) dX12_dines_90 zq_iconst_2 rfl ?_
          refine wp_cvy (q := 94) (sp_mmore (d := 0) (w0 := 2) c4.2.1 (by decide)) zm_X12_more zl_RX12_581 dX12_dines_91 rfl (by omega) (Nat.le_of_ble_eq_true rfl) zsh_177 rfl rfl ?_
          rintro _ M5 L5 _ ⟨rfl, rfl, rfl, n5, f5⟩
          have e : zdv a (zp1 Rr Ll n c ww x, x, b) = vup (zdv a (ww, x, b)) 2 (min 9999 (zdv a (ww, x, b) 2 + 1)) := by
            rw [show zp1 Rr Ll n c ww x = vup ww 2 (min 9999 (ww 2 + 1)) from by unfold zp1; rw [if_neg (by omega), if_neg (by omega)], zdv_u (x := x) (by decide)]
            rfl
          refine WP.sub (loc' := [(2, _), (1, _), (0, _)]) [3, 4, 5] rfl ?_
          exact rest M5 _ (by rw [e]; exact zMc_d c4 (zDf_n (L := L) f5) n5) s4 (zDf_t f4 (zDf_n f5))
        · skip
          refine wp_aload_n (q := 67) dX12_dines_66 5 rfl rfl ?_
          refine wp_aload_n (q := 68) dX12_dines_67 5 rfl rfl ?_
          refine wp_iload_n (q := 69) dX12_dines_68 3 rfl rfl ?_
          refine wp_cvx (q := 72) (sp_mahead (d := 0) c4.1 h8 hc) zm_X12_ahead zl_RX12_442 dX12_dines_69 rfl (by omega) (Nat.le_of_ble_eq_true rfl) zsh_177 rfl rfl ?_
          refine wp_aload_n (q := 73) dX12_dines_72 5 rfl rfl ?_
          refine wp_aload_n (q := 74) dX12_dines_73 5 rfl rfl ?_
          refine wp_iload_n (q := 75) dX12_dines_74 3 rfl rfl ?_
          refine wp_cvx (q := 78) (sp_mahead (d := 0) c4.1 h8 hc) zm_X12_ahead zl_RX12_442 dX12_dines_75 rfl (by omega) (Nat.le_of_ble_eq_true rfl) zsh_177 rfl rfl ?_
          refine wp_cvx (q := 81) (sp_mhats (d := 0) c4.2.1 hm) zm_X12_hatsOf zl_RX12_460 dX12_dines_78 rfl (by omega) (Nat.le_of_ble_eq_true rfl) zsh_177 rfl rfl ?_
          rw [htc]
          refine wp_iconst (q := 82) dX12_dines_81 zq_iconst_1 rfl ?_
          refine wp_iaddN (q := 83) dX12_dines_82 rfl ?_
          refine wp_cvy (q := 86) (sp_mhasHats (d := 0) c4.2.1 hm (by have : ht ww ((c + 1) % n) ≤ 99 := hm9; omega : ht ww ((c + 1) % n) + 1 < 1000)) zm_X12_hasHats zl_RX12_561 dX12_dines_83 rfl (by omega) (Nat.le_of_ble_eq_true rfl) zsh_177 rfl rfl ?_
          rintro _ M5 L5 _ ⟨rfl, rfl, rfl, n5, f5⟩
          have e : zdv a (zp1 Rr Ll n c ww x, x, b) = vup (zdv a (ww, x, b)) (4 + 6 * ((c + 1) % n)) (min 99 (ht ww ((c + 1) % n) + 1)) := by
            rw [show zp1 Rr Ll n c ww x = vup ww (4 + 6 * ((c + 1) % n)) (min 99 (ht ww ((c + 1) % n) + 1)) from by unfold zp1; rw [if_neg (by omega), if_pos (by omega)], zdv_u (x := x) (by omega)]
          refine wp_goto (tgt := 94) dX12_dines_86 (by decide) ?_
          refine WP.sub (loc' := [(2, _), (1, _), (0, _)]) [3, 4, 5] rfl ?_
          exact rest M5 _ (by rw [e]; exact zMc_d c4 (zDf_n (L := L) f5) n5) s4 (zDf_t f4 (zDf_n f5))
      · skip
        refine wp_aload_n (q := 46) dX12_dines_45 5 rfl rfl ?_
        refine wp_iload_n (q := 47) dX12_dines_46 3 rfl rfl ?_
        refine wp_aload_n (q := 48) dX12_dines_47 5 rfl rfl ?_
        refine wp_iload_n (q := 49) dX12_dines_48 3 rfl rfl ?_
        refine wp_cvx (q := 52) (sp_mhats (d := 0) c4.2.1 hc) zm_X12_hatsOf zl_RX12_460 dX12_dines_49 rfl (by omega) (Nat.le_of_ble_eq_true rfl) zsh_177 rfl rfl ?_
        rw [htc]
        refine wp_iconst (q := 53) dX12_dines_52 zq_iconst_1 rfl ?_
        refine wp_iaddN (q := 54) dX12_dines_53 rfl ?_
        refine wp_cvy (q := 57) (sp_mhasHats (d := 0) c4.2.1 hc (by have : ht ww c ≤ 99 := hc9; omega : ht ww c + 1 < 1000)) zm_X12_hasHats zl_RX12_561 dX12_dines_54 rfl (by omega) (Nat.le_of_ble_eq_true rfl) zsh_177 rfl rfl ?_
        rintro _ M5 L5 _ ⟨rfl, rfl, rfl, n5, f5⟩
        have e : zdv a (zp1 Rr Ll n c ww x, x, b) = vup (zdv a (ww, x, b)) (4 + 6 * c) (min 99 (ht ww c + 1)) := by
          rw [show zp1 Rr Ll n c ww x = vup ww (4 + 6 * c) (min 99 (ht ww c + 1)) from by unfold zp1; rw [if_pos (by omega)], zdv_u (x := x) (by omega)]
        refine wp_goto (tgt := 94) dX12_dines_57 (by decide) ?_
        refine WP.sub (loc' := [(2, _), (1, _), (0, _)]) [3, 4, 5] rfl ?_
        exact rest M5 _ (by rw [e]; exact zMc_d c4 (zDf_n (L := L) f5) n5) s4 (zDf_t f4 (zDf_n f5))
  refine wp_iconst (q := 1) dX12_dines_0 zq_iconst_0 rfl ?_
  refine wp_istore_n (q := 2) (loc' := [(1, _), (0, _)]) dX12_dines_1 rfl (by decide) rfl rfl ?_
  refine wp_iconst (q := 3) dX12_dines_2 zq_iconst_0 rfl ?_
  refine wp_istore_n (q := 4) (loc' := [(2, _), (1, _), (0, _)]) dX12_dines_3 rfl (by decide) rfl rfl ?_
  refine WP.sub (loc' := [(2, _), (1, _), (0, _)]) [0, 1, 2] rfl ?_
  exact loop n 0 0 M L (Nat.zero_add _) rfl h hx hsm zDf_r
set_option maxHeartbeats 4000000 in
set_option maxRecDepth 100000 in
theorem sp_mdine {d t n k : Nat} {M : zMI} {L : zML} {g : zGd} {v : Nat → Nat} {hs : List (Nat → Nat)} {m : zMs} (h : zMo M L n g v hs m) (h2 : 2 ≤ n) (hk1 : 1 ≤ k) (hk50 : k ≤ 50) (hk0 : v 0 + k ≤ 9999) {r : zDs} (hrr : zdis g.2.2.2.2.2 v n g.2.2.2.2.1 k (v, m.2.2.2.1, 0) = r) : Sy yX12_dine YX12_dine (d + 7) [.ref 177, .int (nI k)] M L (zRf t) (zMn M L t n g (zdv k r) ((v :: hs).take 20) (zMdr m r.2.1) (.int (nI r.2.2))) := by
  refine Sp.of (by decide +kernel) rfl (fun h => by first | exact h | cases h) (Nat.le_of_ble_eq_true rfl) ?_
  intro w G
  have hnw := h.1.2.1
  have h8 := hnw.1.1
  have h9 := hnw.1.2.2.2.2.2
  obtain ⟨c1, c2, c3, c4, c5, c6, c7, c8, c9, c10, c11⟩ := h.2.2.2.1
  obtain ⟨tb, htb⟩ : ∃ tb, g.2.2.2.2.2 = tb := ⟨_, rfl⟩
  obtain ⟨bg, hbg⟩ : ∃ bg, g.2.2.2.2.1 = bg := ⟨_, rfl⟩
  obtain ⟨x0, hx0⟩ : ∃ x0, m.2.2.2.1 = x0 := ⟨_, rfl⟩
  have hc := h.1
  obtain ⟨b1, b2, b3, b4, b5, b6, b7⟩ := h.2.1
  rw [htb] at hc hrr
  rw [hbg] at b6 b7 hrr
  rw [hx0] at c5 c6 hrr
  have hkd : ∀ a, zdk n v (n * a) (zdis tb v n bg a (v, x0, 0)) := fun a => zdk_s ⟨hnw.1, c6, rfl, rfl, Nat.le_refl _⟩ a
  have loop : ∀ q a (M1 M2 : zMI) (L2 : zML), a + q = k → zMk M1 n ((v :: hs).take 20) → (∀ x, x ≠ 177 → x ≠ 226 → M1 x = M x) → (∀ k, k ≠ 66 → k ≠ 67 → M1 177 k = M 177 k) → zMc M2 n tb (zdv a (zdis tb v n bg a (v, x0, 0))) → L2 177 68 = lN (zdis tb v n bg a (v, x0, 0)).2.1 → zsm2 (zdis tb v n bg a (v, x0, 0)).1 v → zDf M1 M2 L L2 → WP w YX12_dine (d + 7, SS, 0, 0) G (some (zXp (zMn M L t n g (zdv k r) ((v :: hs).take 20) (zMdr m r.2.1) (.int (nI r.2.2))))) 53 [(3, .int (nI a)), (2, .int (nI (zdis tb v n bg a (v, x0, 0)).2.2)), (0, .ref 177), (1, .int (nI k))] [] SS M2 L2 (zRf t) := by
    intro q
    induction q with
    | zero =>
      intro a M1 M2 L2 hq k2 e2 f2 g1 g2 g3 g4
      rw [show a = k by omega] at g1 g2 g3 ⊢
      have hs31 := (hkd k).2.1
      rw [hrr] at g1 g2 g3 hs31 ⊢
      obtain ⟨a1, a2, a3, a4, a5⟩ := h
      have ee : ∀ x, x ≠ 177 → x ≠ 214 → x ≠ 215 → x ≠ 226 → M2 x = M x := fun x x1 x2 x3 x4 => by rw [g4.1 x x2 x3 x1, e2 x x1 x4]
      have ef : ∀ k, k ≠ 50 → k ≠ 66 → k ≠ 67 → M2 177 k = M 177 k := fun k k1 k2 k3 => by rw [g4.2.1 k k1, f2 k k2 k3]
      refine wp_iload_n (q := 54) dX12_dine_53 0 rfl rfl ?_
      refine wp_iload_n (q := 55) dX12_dine_54 3 rfl rfl ?_
      refine wp_icmp_geN (tgt := 71) (q := 58) dX12_dine_55 (by decide) rfl (by omega) (by omega) (fun _ => ?_) (fun hn => absurd hn (by first | omega | exact fun h => h | exact fun h => h trivial))
      refine wp_iload_n (q := 72) dX12_dine_71 1 rfl rfl ?_
      refine wp_ireturn dX12_dine_72 rfl ⟨rfl, ⟨rfl, rfl, ⟨by rw [htb]; exact g1, zMd_fr a2 (ee 204 (by decide) (by decide) (by decide) (by decide)) (g4.2.2 205 (by decide) (by decide)) (ee 207 (by decide) (by decide) (by decide) (by decide)) (ee 208 (by decide) (by decide) (by decide) (by decide)), zMk_fr k2 (g4.2.1 66 (by decide)) (g4.2.1 67 (by decide)) (g4.1 226 (by decide) (by decide) (by decide)), ?_, zWds_fr a5 (fun x hx => ee x (by omega) (by omega) (by omega) (by omega))⟩, fun x hx => ⟨ee x (by omega) (by omega) (by omega) (by omega), g4.2.2 x (by omega) (by omega)⟩⟩⟩ rfl rfl
      exact ⟨by rw [ef 1 (by decide) (by decide) (by decide)]; exact c1, c2, fun i hi => by rw [ee 178 (by decide) (by decide) (by decide) (by decide)]; exact c3 i hi, fun i hi => by rw [ee 179 (by decide) (by decide) (by decide) (by decide)]; exact c4 i hi, g2, hs31, by rw [ef 7 (by decide) (by decide) (by decide)]; exact c7, by rw [ef 8 (by decide) (by decide) (by decide)]; exact c8, by rw [ef 98 (by decide) (by decide) (by decide)]; exact c9, c10, fun i hi => by rw [ee 248 (by decide) (by decide) (by decide) (by decide)]; exact c11 i hi⟩
    | succ q ih =>
      intro a M1 M2 L2 hq k2 e2 f2 g1 g2 g3 g4
      have hka := hkd a
      have hna : n * a ≤ 8 * a := Nat.mul_le_mul h8 (Nat.le_refl _)
      have hle := hka.2.2.2.2
      have hle2 := (hkd (a + 1)).2.2.2.2
      have hna2 : n * (a + 1) ≤ 8 * (a + 1) := Nat.mul_le_mul h8 (Nat.le_refl _)
      have hzs : zdis tb v n bg (a + 1) (v, x0, 0) = zdin tb v n bg n (zdis tb v n bg a (v, x0, 0)) := rfl
      have ihn := fun M1 M2 L2 => ih (a + 1) M1 M2 L2 (by omega)
      rw [hzs] at ihn hle2
      refine wp_iload_n (q := 54) dX12_dine_53 0 rfl rfl ?_
      refine wp_iload_n (q := 55) dX12_dine_54 3 rfl rfl ?_
      refine wp_icmp_geN (tgt := 71) (q := 58) dX12_dine_55 (by decide) rfl (by omega) (by omega) (fun hn => absurd hn (by first | omega | exact fun h => h | exact fun h => h trivial)) (fun _ => ?_)
      refine wp_iload_n (q := 59) dX12_dine_58 1 rfl rfl ?_
      refine wp_aload_n (q := 60) dX12_dine_59 2 rfl rfl ?_
      refine wp_cvy (q := 63) (sp_mdines (d := 0) (bg := bg) (b0 := n * a) g1 h2 g2 (show M2 208 1 = nI bg by rw [g4.1 208 (by decide) (by decide) (by decide), e2 208 (by decide) (by decide)]; exact b6) b7 g3 hka (by omega) (by omega)) zm_X12_dines zl_RX12_589 dX12_dine_60 rfl (by omega) (Nat.le_of_ble_eq_true rfl) zsh_177 rfl rfl ?_
      rintro _ M3 L3 _ ⟨kk, rfl, rfl, p1, p2, p3, p4, p5⟩
      rw [p1] at ihn hle2
      refine wp_iaddN (q := 64) dX12_dine_63 rfl ?_
      refine wp_istore_n (q := 65) (loc' := [(2, _), (3, _), (0, _), (1, _)]) dX12_dine_64 rfl (by decide) rfl rfl ?_
      refine wp_iincN (q := 68) (loc' := [(3, _), (2, _), (0, _), (1, _)]) (n := 1) dX12_dine_65 rfl 1 rfl (by decide) rfl rfl ?_
      refine wp_goto (tgt := 53) dX12_dine_68 (by decide) ?_
      refine WP.sub (loc' := [(3, _), (2, _), (0, _), (1, _)]) [0, 1, 2, 3] rfl ?_
      exact ihn M1 M3 L3 k2 e2 f2 p2 p3 p4 (zDf_t g4 p5)
  refine wp_aload_n (q := 1) dX12_dine_0 0 rfl rfl ?_
  refine wp_cvx (q := 4) (sp_mcm (d := 0) h.1.1 h8) zm_X12_crackerMany zl_RX12_463 dX12_dine_1 rfl (by omega) (Nat.le_of_ble_eq_true rfl) zsh_177 rfl rfl ?_
  rw [if_neg (by omega)]
  refine wp_if_eqN (tgt := 33) (q := 7) dX12_dine_4 (by decide) rfl (by omega) (fun hn => absurd hn (by first | omega | exact fun h => h | exact fun h => h trivial)) (fun _ => ?_)
  refine wp_iload_n (q := 8) dX12_dine_7 1 rfl rfl ?_
  refine wp_i2lN (q := 9) dX12_dine_8 (by omega) rfl ?_
  refine wp_lconst (q := 10) dX12_dine_9 zq_lconst_1 rfl ?_
  refine wp_ldc2_w (q := 13) dX12_dine_10 zk_RX12_584 rfl ?_
  rw [zlitL 50]
  refine wp_csx (q := 16) (sp_isIn (d := 0)) zm_X12_isIn zl_RX12_276 dX12_dine_13 rfl (by omega) (Nat.le_of_ble_eq_true rfl) rfl ?_
  rw [if_pos ⟨(zlN_le (by omega) (by omega)).mpr hk1, (zlN_le (by omega) (by omega)).mpr hk50⟩]
  refine wp_if_eqN (tgt := 33) (q := 19) dX12_dine_16 (by decide) rfl (by omega) (fun hn => absurd hn (by first | omega | exact fun h => h | exact fun h => h trivial)) (fun _ => ?_)
  refine wp_aload_n (q := 20) dX12_dine_19 0 rfl rfl ?_
  refine wp_getR (q := 23) dX12_dine_20 zf_RX12_127 rfl zsh_177 (zr_177_52 _) rfl ?_
  refine wp_iconst (q := 24) dX12_dine_23 zq_iconst_0 rfl ?_
  refine wp_iald (q := 25) _ dX12_dine_24 zsh_215 rfl (by omega) (by decide) rfl ?_
  rw [hnw.2 0 (by omega)]
  refine wp_iload_n (q := 26) dX12_dine_25 1 rfl rfl ?_
  refine wp_iaddN (q := 27) dX12_dine_26 rfl ?_
  refine wp_sipush (q := 30) dX12_dine_27 zq_sipush_9999 rfl ?_
  refine wp_icmp_leN (tgt := 45) (q := 33) dX12_dine_30 (by decide) rfl (by omega) (by omega) (fun _ => ?_) (fun hn => absurd hn (by first | omega | exact fun h => h | exact fun h => h trivial))
  refine wp_aload_n (q := 46) dX12_dine_45 0 rfl rfl ?_
  refine wp_cvy (q := 49) (sp_mkeeps (d := 0) hnw h.2.2.1) zm_X12_keeps zl_RX12_586 dX12_dine_46 rfl (by omega) (Nat.le_of_ble_eq_true rfl) zsh_177 rfl rfl ?_
  rintro _ M2 L2 _ ⟨rfl, rfl, rfl, k2, e2, f2⟩
  have ez := zdv_0 (x := x0) (v := v) h9.2.1
  refine wp_iconst (q := 50) dX12_dine_49 zq_iconst_0 rfl ?_
  refine wp_istore_n (q := 51) (loc' := [(2, _), (0, _), (1, _)]) dX12_dine_50 rfl (by decide) rfl rfl ?_
  refine wp_iconst (q := 52) dX12_dine_51 zq_iconst_0 rfl ?_
  refine wp_istore_n (q := 53) (loc' := [(3, _), (2, _), (0, _), (1, _)]) dX12_dine_52 rfl (by decide) rfl rfl ?_
  refine WP.sub (loc' := [(3, _), (2, _), (0, _), (1, _)]) [0, 1, 2, 3] rfl ?_
  exact loop k 0 M2 M2 L (Nat.zero_add _) k2 e2 f2 (by show zMc M2 n tb (zdv 0 (v, x0, 0)); rw [ez]; exact zMc_n hc (fun x hx => e2 x (by omega) (by omega)) (zNw_fr hnw (e2 215 (by decide) (by decide)))) c5 (fun j _ _ => rfl) zDf_r
set_option maxHeartbeats 4000000 in
set_option maxRecDepth 100000 in
theorem sp_mdineN {d t n : Nat} {x : Int32} {M : zMI} {L : zML} {g : zGd} {v : Nat → Nat} {hs : List (Nat → Nat)} {m : zMs} (h : zMo M L n g v hs m) (hN : ¬ (2 ≤ n ∧ ¬ x < nI 1 ∧ ¬ nI 50 < x ∧ nI (v 0) + x ≤ nI 9999)) : Sy yX12_dine YX12_dine (d + 7) [.ref 177, .int x] M L (zRf t) (zMn M L t n g v hs (zMup m 2) (.int (-1))) := by
  refine Sp.of (by decide +kernel) rfl (fun h => by first | exact h | cases h) (Nat.le_of_ble_eq_true rfl) ?_
  intro w G
  have hnw := h.1.2.1
  have h8 := hnw.1.1
  have fin : WP w YX12_dine (d + 7, SS, 0, 0) G (some (zXp (zMn M L t n g v hs (zMup m 2) (.int (-1))))) 33 [(0, .ref 177), (1, .int x)] [] SS M L (zRf t) := by
    refine wp_aload_n (q := 34) dX12_dine_33 0 rfl rfl ?_
    refine wp_getR (q := 37) dX12_dine_34 zf_RX12_17 rfl zsh_177 (zr_177_9 _) rfl ?_
    refine wp_iconst (q := 38) dX12_dine_37 zq_iconst_2 rfl ?_
    first | refine wp_dup2 (q := 39) dX12_dine_38 rfl rfl rfl ?_ | refine wp_dup2L (q := 39) dX12_dine_38 rfl rfl ?_
    refine wp_iald (q := 40) _ dX12_dine_39 zsh_179 rfl (by omega) (by decide) rfl ?_
    refine wp_iconst (q := 41) dX12_dine_40 zq_iconst_1 rfl ?_
    refine wp_iadd (q := 42) dX12_dine_41 rfl ?_
    refine wp_iast (q := 43) _ dX12_dine_42 zsh_179 rfl (by omega) (by decide) rfl ?_
    refine wp_iconst (q := 44) dX12_dine_43 zq_iconst_m1 rfl ?_
    exact wp_ireturn dX12_dine_44 rfl ⟨rfl, ⟨rfl, rfl, zMo_rf h (by decide), zYf_rf (by decide)⟩⟩ rfl rfl
  refine wp_aload_n (q := 1) dX12_dine_0 0 rfl rfl ?_
  refine wp_cvx (q := 4) (sp_mcm (d := 0) h.1.1 h8) zm_X12_crackerMany zl_RX12_463 dX12_dine_1 rfl (by omega) (Nat.le_of_ble_eq_true rfl) zsh_177 rfl rfl ?_
  by_cases cc : 2 ≤ n
  · rw [if_neg (by omega)]
    refine wp_if_eqN (tgt := 33) (q := 7) dX12_dine_4 (by decide) rfl (by omega) (fun hn => absurd hn (by first | omega | exact fun h => h | exact fun h => h trivial)) (fun _ => ?_)
    refine wp_iload_n (q := 8) dX12_dine_7 1 rfl rfl ?_
    refine wp_i2l (q := 9) dX12_dine_8 rfl ?_
    refine wp_lconst (q := 10) dX12_dine_9 zq_lconst_1 rfl ?_
    refine wp_ldc2_w (q := 13) dX12_dine_10 zk_RX12_584 rfl ?_
    rw [zlitL 50, show lN 1 = (nI 1).toInt64 from rfl, show lN 50 = (nI 50).toInt64 from rfl]
    refine wp_csx (q := 16) (sp_isIn (d := 0)) zm_X12_isIn zl_RX12_276 dX12_dine_13 rfl (by omega) (Nat.le_of_ble_eq_true rfl) rfl ?_
    by_cases cx : nI 1 ≤ x ∧ x ≤ nI 50
    · rw [if_pos (zis.mpr cx)]
      refine wp_if_eqN (tgt := 33) (q := 19) dX12_dine_16 (by decide) rfl (by omega) (fun hn => absurd hn (by first | omega | exact fun h => h | exact fun h => h trivial)) (fun _ => ?_)
      refine wp_aload_n (q := 20) dX12_dine_19 0 rfl rfl ?_
      refine wp_getR (q := 23) dX12_dine_20 zf_RX12_127 rfl zsh_177 (zr_177_52 _) rfl ?_
      refine wp_iconst (q := 24) dX12_dine_23 zq_iconst_0 rfl ?_
      refine wp_iald (q := 25) _ dX12_dine_24 zsh_215 rfl (by omega) (by decide) rfl ?_
      rw [hnw.2 0 (by omega)]
      refine wp_iload_n (q := 26) dX12_dine_25 1 rfl rfl ?_
      refine wp_iadd (q := 27) dX12_dine_26 rfl ?_
      refine wp_sipush (q := 30) dX12_dine_27 zq_sipush_9999 rfl ?_
      refine wp_icmp_le (tgt := 45) (q := 33) dX12_dine_30 (by decide) rfl (fun hn => absurd hn (by exact fun c => hN ⟨cc, Int32.not_lt.mpr cx.1, Int32.not_lt.mpr cx.2, c⟩)) (fun _ => ?_)
      refine WP.sub (loc' := [(0, _), (1, _)]) [0, 1] rfl ?_
      exact fin
    · rw [if_neg (fun e => cx (zis.mp e))]
      refine wp_if_eqN (tgt := 33) (q := 19) dX12_dine_16 (by decide) rfl (by omega) (fun _ => ?_) (fun hn => absurd hn (by first | omega | exact fun h => h | exact fun h => h trivial))
      refine WP.sub (loc' := [(0, _), (1, _)]) [0, 1] rfl ?_
      exact fin
  · rw [if_pos (by omega)]
    refine wp_if_eqN (tgt := 33) (q := 7) dX12_dine_4 (by decide) rfl (by omega) (fun _ => ?_) (fun hn => absurd hn (by first | omega | exact fun h => h | exact fun h => h trivial))
    refine WP.sub (loc' := [(0, _), (1, _)]) [0, 1] rfl ?_
    exact fin

