def zBd (M : zMI) (k : Nat) (y : Int32) : Prop := M 177 5 = nI k ∧ M 177 6 = y
theorem zTok_g {b : Nat → Nat} {len c i : Nat} {T : zDD} (h : zTok b len T c) (hi : i + 1 < c) : zEd T i ≤ T (i + 1) 1 := by
  obtain ⟨h1, h2, ht, e0, e1, e2, e3, hg, h4⟩ := h
  have hgi := (hg (i + 1) (by omega)).1
  have hgs : zgS T (c - 1) len (i + 1) = T (i + 1) 1 := by
    unfold zgS
    split
    · rename_i e; rw [e, e1]
    · rfl
  rw [hgs] at hgi
  exact hgi
theorem zTok_4 {b : Nat → Nat} {len c i w : Nat} {T : zDD} (h : zTok b len T c) (hi : i < c) (hw : w < 30) (e : T i 4 = w) : i + 1 < c ∧ T i 0 = 1 ∧ T i 3 = (zWL.getD w []).length ∧ zEd T i = T i 1 + (zWL.getD w []).length := by
  have h4 := h.2.2.2.2.2.2.2.2 i hi
  have h0 : T i 0 = 1 := by
    rw [e] at h4
    unfold zwv at h4
    split at h4
    · rename_i c; exact c.1
    · omega
  have hi1 : i + 1 < c := by
    refine Classical.byContradiction fun hh => ?_
    have := h.2.2.2.1
    rw [show c - 1 = i by omega, h0] at this
    omega
  have h3 := ((zwd_i h hi1 hw).mpr e).2.2.1
  refine ⟨hi1, h0, h3, ?_⟩
  unfold zEd
  rw [if_neg (by omega), h3]
-- one token on
theorem zAt_s {M M' : zMI} {b : Nat → Nat} {len c i : Nat} {T : zDD} (h : zAt M b len T c i) (hT : zTok b len T c) (hi : i + 1 < c) (hp : zPf M M') (h5 : M' 177 5 = nI 0) (h2 : M' 177 2 = nI (zEd T i)) (hE : zEn T (i + 1) (M' 177 4)) : zAt M' b len T c (i + 1) := by
  obtain ⟨a1, a2, a3, ⟨a, a4, a5, a6⟩, a7⟩ := h
  have hg := zTok_g hT hi
  exact ⟨zTa_fr a1 (hp.2 3 (by decide) (by decide) (by decide) (by decide) (by decide)) (hp.1 178 (by decide)), h5, hi, ⟨zEd T i, h2, Nat.le_refl _, hg⟩, hE⟩
theorem zEn_w {T : zDD} {i : Nat} (h : T i 0 ≠ 3) : zEn T (i + 1) (nI (zEd T i)) := by
  unfold zEn
  rw [if_neg (by omega), Nat.add_sub_cancel, if_neg h]
theorem zEn_s {b : Nat → Nat} {len c i : Nat} {T : zDD} {e : Int32} (hT : zTok b len T c) (hi : i < c) (h : T i 0 = 3) (he : zEn T i e) : zEn T (i + 1) e := by
  unfold zEn at he ⊢
  rw [if_neg (by omega), if_pos (show T (i + 1 - 1) 0 = 3 from h)]
  show e = -1 ∨ ∃ k, e = nI k ∧ k ≤ T i 1
  by_cases e0 : i = 0
  · rw [if_pos e0] at he
    exact Or.inl he
  · rw [if_neg e0] at he
    have hg := zTok_g hT (i := i - 1) (by omega)
    rw [show i - 1 + 1 = i by omega] at hg
    have hk := hT.2.2.1 (i - 1) (by omega)
    have hk1 := hk.1
    split at he
    · rcases he with he | ⟨k, he, hk2⟩
      · exact Or.inl he
      · exact Or.inr ⟨k, he, by omega⟩
    · exact Or.inr ⟨_, he, hg⟩
set_option maxHeartbeats 4000000 in
set_option maxRecDepth 100000 in
theorem sp_mtakes {d t len c i wa w0 : Nat} {M : zMI} {L : zML} {b : Nat → Nat} {T : zDD} (h : zAt M b len T c i) (hT : zTok b len T c) (hw : zWc M wa w0) {o : Bool} (ho : decide (T i 4 = w0) = o) : Sy yX12_takes YX12_takes (d + 2) [.ref 177, .ref wa] M L (zRf t) (fun v0 M' L' R' => v0 = some (.int (nI (zb01 o))) ∧ L = L' ∧ R' = zRf t ∧ zPf M M' ∧ M' 177 6 = M 177 6 ∧ (o = true → zAt M' b len T c (i + 1)) ∧ (o = false → zAt M' b len T c i ∧ M' 177 2 = nI (T i 1))) := by
  refine Sp.of (by decide +kernel) rfl (fun h => by first | exact h | cases h) (Nat.le_of_ble_eq_true rfl) ?_
  intro w G
  have hs := hw.2.2.1
  have hl6 := (zWL_l w0 hw.1).1
  have hlen := zTok_len hT h.2.2.1
  have hl16 := h.1.2.1
  obtain ⟨wl, hwl⟩ : ∃ wl, (zWL.getD w0 []).length = wl := ⟨_, rfl⟩
  rw [hwl] at hs hl6
  refine wp_aload_n (q := 1) dX12_takes_0 0 rfl rfl ?_
  refine wp_aload_n (q := 2) dX12_takes_1 1 rfl rfl ?_
  refine wp_cvy (q := 5) (sp_mHere (d := 0) h hT hw) zm_X12_isHere zl_RX12_259 dX12_takes_2 rfl (by omega) (Nat.le_of_ble_eq_true rfl) zsh_177 rfl rfl ?_
  rintro _ M2 L2 _ ⟨rfl, rfl, rfl, q1, q2, q3, q4⟩
  rw [ho]
  have hp : zPf M M2 := ⟨q4, fun k k1 _ _ _ _ => q3 k k1⟩
  cases o with
  | false =>
    rw [zb01_f]
    refine wp_if_neN (tgt := 10) (q := 8) dX12_takes_5 (by decide) rfl (by omega) (fun hn => absurd hn (by first | omega | exact fun h => h | exact fun h => h trivial)) (fun _ => ?_)
    refine wp_iconst (q := 9) dX12_takes_8 zq_iconst_0 rfl ?_
    exact wp_zreturn dX12_takes_9 rfl (by first | with_reducible exact znar_0 | with_reducible exact znar_1 | assumption) ⟨rfl, ⟨rfl, rfl, rfl, hp, q3 6 (by decide), fun e => (by cases e), fun _ => ⟨q1, q2⟩⟩⟩ rfl rfl
  | true =>
    obtain ⟨z1, z2, z3, z4⟩ := zTok_4 hT h.2.2.1 hw.1 (of_decide_eq_true ho)
    rw [hwl] at z4
    rw [zb01_t]
    refine wp_if_neN (tgt := 10) (q := 8) dX12_takes_5 (by decide) rfl (by omega) (fun _ => ?_) (fun hn => absurd hn (by first | omega | exact fun h => h | exact fun h => h trivial))
    refine wp_aload_n (q := 11) dX12_takes_10 0 rfl rfl ?_
    refine wp_dup (q := 12) dX12_takes_11 rfl rfl ?_
    refine wp_getI (q := 15) dX12_takes_12 zf_RX12_242 rfl zsh_177 rfl ?_
    rw [q2]
    refine wp_aload_n (q := 16) dX12_takes_15 1 rfl rfl ?_
    refine wp_alen (q := 17) dX12_takes_16 (by first | assumption | rfl) (by simp [zTys]) rfl ?_
    refine wp_iaddN (q := 18) dX12_takes_17 rfl ?_
    refine wp_putI (q := 21) dX12_takes_18 zf_RX12_242 rfl zsh_177 rfl ?_
    refine wp_aload_n (q := 22) dX12_takes_21 0 rfl rfl ?_
    refine wp_aload_n (q := 23) dX12_takes_22 0 rfl rfl ?_
    refine wp_getI (q := 26) dX12_takes_23 zf_RX12_242 rfl zsh_177 rfl ?_
    rw [zu_s, ← z4]
    refine wp_putI (q := 29) dX12_takes_26 zf_RX12_256 rfl zsh_177 rfl ?_
    refine wp_iconst (q := 30) dX12_takes_29 zq_iconst_1 rfl ?_
    have hp3 : zPf M (zu (zu M2 177 2 (nI (zEd T i))) 177 4 (nI (zEd T i))) := ⟨fun x hx => by rw [zu_ne hx, zu_ne hx]; exact q4 x hx, fun k k1 k2 k3 k4 k5 => by rw [zu_k k2, zu_k k1]; exact q3 k k1⟩
    exact wp_zreturn dX12_takes_30 rfl (by first | with_reducible exact znar_0 | with_reducible exact znar_1 | assumption) ⟨rfl, ⟨rfl, rfl, rfl, hp3, by rw [zu_k (by decide), zu_k (by decide)]; exact q3 6 (by decide), fun _ => zAt_s h hT z1 hp3 (by rw [zu_k (by decide), zu_k (by decide), q3 5 (by decide)]; exact h.2.1) (by rw [zu_k (by decide), zu_s]) (by rw [zu_s]; exact zEn_w (by omega)), fun e => (by cases e)⟩⟩ rfl rfl
set_option maxHeartbeats 4000000 in
set_option maxRecDepth 100000 in
theorem sp_masks {d t len c i wa w0 : Nat} {M : zMI} {L : zML} {b : Nat → Nat} {T : zDD} (h : zAt M b len T c i) (hT : zTok b len T c) (hw : zWc M wa w0) : Sy yX12_asks YX12_asks (d + 3) [.ref 177, .ref wa] M L (zRf t) (fun v0 M' L' R' => v0 = none ∧ L = L' ∧ R' = zRf t ∧ zPf M M' ∧ (T i 4 = w0 → zAt M' b len T c (i + 1) ∧ M' 177 6 = M 177 6) ∧ (T i 4 ≠ w0 → zBd M' 1 (nI (T i 1)))) := by
  refine Sp.of (by decide +kernel) rfl (fun h => by first | exact h | cases h) (Nat.le_of_ble_eq_true rfl) ?_
  intro w G
  have h0 := h.2.1
  obtain ⟨o, ho⟩ : ∃ o, decide (T i 4 = w0) = o := ⟨_, rfl⟩
  refine wp_aload_n (q := 1) dX12_asks_0 0 rfl rfl ?_
  refine wp_getI (q := 4) dX12_asks_1 zf_RX12_236 rfl zsh_177 rfl ?_
  rw [h0]
  refine wp_if_neN (tgt := 24) (q := 7) dX12_asks_4 (by decide) rfl (by omega) (fun hn => absurd hn (by first | omega | exact fun h => h | exact fun h => h trivial)) (fun _ => ?_)
  refine wp_aload_n (q := 8) dX12_asks_7 0 rfl rfl ?_
  refine wp_aload_n (q := 9) dX12_asks_8 1 rfl rfl ?_
  refine wp_cvy (q := 12) (sp_mtakes (d := 0) h hT hw ho) zm_X12_takes zl_RX12_263 dX12_asks_9 rfl (by omega) (Nat.le_of_ble_eq_true rfl) zsh_177 rfl rfl ?_
  rintro _ M2 L2 _ ⟨rfl, rfl, rfl, q1, q2, q3, q4⟩
  cases o with
  | false =>
    obtain ⟨q5, q6⟩ := q4 rfl
    rw [zb01_f]
    refine wp_if_neN (tgt := 24) (q := 15) dX12_asks_12 (by decide) rfl (by omega) (fun hn => absurd hn (by first | omega | exact fun h => h | exact fun h => h trivial)) (fun _ => ?_)
    refine wp_aload_n (q := 16) dX12_asks_15 0 rfl rfl ?_
    refine wp_iconst (q := 17) dX12_asks_16 zq_iconst_1 rfl ?_
    refine wp_aload_n (q := 18) dX12_asks_17 0 rfl rfl ?_
    refine wp_getI (q := 21) dX12_asks_18 zf_RX12_242 rfl zsh_177 rfl ?_
    rw [q6]
    refine wp_cvx (q := 24) (sp_mfail (d := 0) q5.2.1) zm_X12_fail zl_RX12_266 dX12_asks_21 rfl (by omega) (Nat.le_of_ble_eq_true rfl) zsh_177 rfl rfl ?_
    exact wp_return dX12_asks_24 rfl ⟨rfl, ⟨rfl, rfl, rfl, ⟨fun x hx => by rw [zu_ne hx, zu_ne hx]; exact q1.1 x hx, fun k k1 k2 k3 k4 k5 => by rw [zu_k k4, zu_k k3]; exact q1.2 k k1 k2 k3 k4 k5⟩, fun e => absurd e (of_decide_eq_false ho), fun _ => ⟨by rw [zu_k (by decide), zu_s], zu_s⟩⟩⟩ rfl rfl
  | true =>
    rw [zb01_t]
    refine wp_if_neN (tgt := 24) (q := 15) dX12_asks_12 (by decide) rfl (by omega) (fun _ => ?_) (fun hn => absurd hn (by first | omega | exact fun h => h | exact fun h => h trivial))
    exact wp_return dX12_asks_24 rfl ⟨rfl, ⟨rfl, rfl, rfl, q1, fun _ => ⟨q3 rfl, q2⟩, fun e => absurd (of_decide_eq_true ho) e⟩⟩ rfl rfl
set_option maxHeartbeats 4000000 in
set_option maxRecDepth 100000 in
theorem sp_masksB {d t bd wa : Nat} {M : zMI} {L : zML} (h : M 177 5 = nI bd) (h0 : bd ≠ 0) (h9 : bd < 10) : Sx yX12_asks YX12_asks (d + 3) [.ref 177, .ref wa] M L (zRf t) (none) M L (zRf t) := by
  refine Sp.of (by decide +kernel) rfl (fun h => by first | exact h | cases h) (Nat.le_of_ble_eq_true rfl) ?_
  intro w G
  refine wp_aload_n (q := 1) dX12_asks_0 0 rfl rfl ?_
  refine wp_getI (q := 4) dX12_asks_1 zf_RX12_236 rfl zsh_177 rfl ?_
  rw [h]
  refine wp_if_neN (tgt := 24) (q := 7) dX12_asks_4 (by decide) rfl (by omega) (fun _ => ?_) (fun hn => absurd hn (by first | omega | exact fun h => h | exact fun h => h trivial))
  exact wp_return dX12_asks_24 rfl ⟨rfl, rfl, rfl, rfl, rfl⟩ rfl rfl
-- a sign stands at a token
theorem zSg {b : Nat → Nat} {len c i s : Nat} {T : zDD} (h : zTok b len T c) (hb : ∀ i, i < len → b i < 256) (hi : i < c) (hs : zcl s = 3) (hs9 : s < 256) : zlkv b len (T i 1) = nI s ↔ (T i 0 = 3 ∧ T i 2 = s) := by
  have hl := zTok_len h hi
  unfold zlkv
  by_cases ec : i + 1 < c
  · have hlt := hl.2.mpr ec
    have hk := h.2.2.1 i ec
    have hkk := zTk_k hk
    have hbs := hb _ hlt
    rw [if_pos hlt]
    constructor
    · intro e
      have e2 : b (T i 1) = s := by
        have := congrArg Int32.toInt e
        rw [nI_toInt (by omega), nI_toInt (by omega)] at this
        omega
      have h3 : zcl (b (T i 1)) = 3 := by rw [e2]; exact hs
      exact ⟨hkk.2.2.mpr h3, by rw [(hk.2.2.2.2.1 h3).2.1, e2]⟩
    · rintro ⟨e1, e2⟩
      have h3 := hkk.2.2.mp e1
      rw [← e2, (hk.2.2.2.2.1 h3).2.1]
  · rw [if_neg (fun x => ec (hl.2.mp x))]
    have e0 : T i 0 = 0 := by rw [show i = c - 1 by omega]; exact h.2.2.2.1
    constructor
    · intro e
      have := congrArg Int32.toInt e
      rw [nI_toInt (by omega)] at this
      have h1 : (-1 : Int32).toInt = -1 := rfl
      omega
    · rintro ⟨e1, -⟩
      omega
theorem zTok_3 {b : Nat → Nat} {len c i : Nat} {T : zDD} (h : zTok b len T c) (hi : i < c) (e : T i 0 = 3) : i + 1 < c ∧ zEd T i = T i 1 + 1 := by
  refine ⟨Classical.byContradiction fun hh => ?_, by unfold zEd; rw [if_pos e]⟩
  have := h.2.2.2.1
  rw [show c - 1 = i by omega, e] at this
  omega
theorem sp_mLook {d t len c i : Nat} {M : zMI} {L : zML} {b : Nat → Nat} {T : zDD} (h : zAt M b len T c i) (hT : zTok b len T c) : Sy yX12_look YX12_look d [.ref 177] M L (zRf t) (fun v0 M' L' R' => v0 = some (.int (zlkv b len (T i 1))) ∧ L = L' ∧ R' = zRf t ∧ zAt M' b len T c i ∧ M' 177 2 = nI (T i 1) ∧ (∀ k, k ≠ 2 → M' 177 k = M 177 k) ∧ ∀ x, x ≠ 177 → M' x = M x) := by
  have hA := h
  obtain ⟨a1, a2, a3, ⟨a, a4, a5, a6⟩, a7⟩ := h
  obtain ⟨s1, s2, s3, s4, s5⟩ := zTok_S hT a3 a5 a6
  refine Sy_mo (sp_mlook (d := d) (L := L) a1 a4 s1 s2 s3 s4) ?_
  rintro v M' L' R' ⟨e1, e2, e3, e4, e5, e6⟩
  exact ⟨e1, e2, e3, zAt_l hA hT e4 e5 e6, e4, e5, e6⟩
set_option maxHeartbeats 4000000 in
set_option maxRecDepth 100000 in
theorem sp_mtakesSign {d t len c i s : Nat} {M : zMI} {L : zML} {b : Nat → Nat} {T : zDD} (h : zAt M b len T c i) (hT : zTok b len T c) (hs : zcl s = 3) (hs9 : s < 256) {o : Bool} (ho : decide (T i 0 = 3 ∧ T i 2 = s) = o) : Sy yX12_takesSign YX12_takesSign (d + 1) [.ref 177, .int (nI s)] M L (zRf t) (fun v0 M' L' R' => v0 = some (.int (nI (zb01 o))) ∧ L = L' ∧ R' = zRf t ∧ zPf M M' ∧ M' 177 6 = M 177 6 ∧ (o = true → zAt M' b len T c (i + 1) ∧ M' 177 2 = nI (T i 1 + 1)) ∧ (o = false → zAt M' b len T c i ∧ M' 177 2 = nI (T i 1))) := by
  refine Sp.of (by decide +kernel) rfl (fun h => by first | exact h | cases h) (Nat.le_of_ble_eq_true rfl) ?_
  intro w G
  have h0 := h.2.1
  have hlen := zTok_len hT h.2.2.1
  have hl16 := h.1.2.1
  have hsg := zSg hT (fun i hi => (h.1.2.2 i hi).2) h.2.2.1 hs hs9
  refine wp_aload_n (q := 1) dX12_takesSign_0 0 rfl rfl ?_
  refine wp_getI (q := 4) dX12_takesSign_1 zf_RX12_236 rfl zsh_177 rfl ?_
  rw [h0]
  refine wp_if_neN (tgt := 15) (q := 7) dX12_takesSign_4 (by decide) rfl (by omega) (fun hn => absurd hn (by first | omega | exact fun h => h | exact fun h => h trivial)) (fun _ => ?_)
  refine wp_aload_n (q := 8) dX12_takesSign_7 0 rfl rfl ?_
  refine wp_cvy (q := 11) (sp_mLook (d := 0) h hT) zm_X12_look zl_RX12_248 dX12_takesSign_8 rfl (by omega) (Nat.le_of_ble_eq_true rfl) zsh_177 rfl rfl ?_
  rintro _ M2 L2 _ ⟨rfl, rfl, rfl, q1, q2, q3, q4⟩
  have hp : zPf M M2 := ⟨q4, fun k k1 _ _ _ _ => q3 k k1⟩
  refine wp_iload_n (q := 12) dX12_takesSign_11 1 rfl rfl ?_
  refine wp_icmp_eq (tgt := 17) (q := 15) dX12_takesSign_12 (by decide) rfl (fun k => ?_) (fun k => ?_)
  · skip
    have hc := hsg.mp k
    have ho1 : o = true := by rw [← ho]; exact decide_eq_true hc
    obtain ⟨z1, z2⟩ := zTok_3 hT h.2.2.1 hc.1
    refine wp_aload_n (q := 18) dX12_takesSign_17 0 rfl rfl ?_
    refine wp_dup (q := 19) dX12_takesSign_18 rfl rfl ?_
    refine wp_getI (q := 22) dX12_takesSign_19 zf_RX12_242 rfl zsh_177 rfl ?_
    rw [q2]
    refine wp_iconst (q := 23) dX12_takesSign_22 zq_iconst_1 rfl ?_
    refine wp_iaddN (q := 24) dX12_takesSign_23 rfl ?_
    refine wp_putI (q := 27) dX12_takesSign_24 zf_RX12_242 rfl zsh_177 rfl ?_
    refine wp_iconst (q := 28) dX12_takesSign_27 zq_iconst_1 rfl ?_
    have hp3 : zPf M (zu M2 177 2 (nI (T i 1 + 1))) := ⟨fun x hx => by rw [zu_ne hx]; exact q4 x hx, fun k k1 _ _ _ _ => by rw [zu_k k1]; exact q3 k k1⟩
    exact wp_zreturn dX12_takesSign_28 rfl (by first | with_reducible exact znar_0 | with_reducible exact znar_1 | assumption) ⟨rfl, ⟨by rw [ho1]; rfl, rfl, rfl, hp3, by rw [zu_k (by decide)]; exact q3 6 (by decide), fun _ => ⟨zAt_s h hT z1 hp3 (by rw [zu_k (by decide), q3 5 (by decide)]; exact h0) (by rw [zu_s, z2]) (by rw [zu_k (by decide), q3 4 (by decide)]; exact zEn_s hT h.2.2.1 hc.1 h.2.2.2.2), zu_s⟩, fun e => by rw [ho1] at e; cases e⟩⟩ rfl rfl
  · skip
    have hc : ¬ (T i 0 = 3 ∧ T i 2 = s) := fun e => k (hsg.mpr e)
    have ho1 : o = false := by rw [← ho]; exact decide_eq_false hc
    refine wp_iconst (q := 16) dX12_takesSign_15 zq_iconst_0 rfl ?_
    exact wp_zreturn dX12_takesSign_16 rfl (by first | with_reducible exact znar_0 | with_reducible exact znar_1 | assumption) ⟨rfl, ⟨by rw [ho1]; rfl, rfl, rfl, hp, q3 6 (by decide), fun e => (by rw [ho1] at e; cases e), fun _ => ⟨q1, q2⟩⟩⟩ rfl rfl
set_option maxHeartbeats 4000000 in
set_option maxRecDepth 100000 in
theorem sp_masksSign {d t len c i s : Nat} {M : zMI} {L : zML} {b : Nat → Nat} {T : zDD} (h : zAt M b len T c i) (hT : zTok b len T c) (hs : zcl s = 3) (hs9 : s < 256) : Sy yX12_asksSign YX12_asksSign (d + 2) [.ref 177, .int (nI s)] M L (zRf t) (fun v0 M' L' R' => v0 = none ∧ L = L' ∧ R' = zRf t ∧ zPf M M' ∧ (T i 0 = 3 ∧ T i 2 = s → zAt M' b len T c (i + 1) ∧ M' 177 6 = M 177 6) ∧ (¬ (T i 0 = 3 ∧ T i 2 = s) → zBd M' 1 (nI (T i 1)))) := by
  refine Sp.of (by decide +kernel) rfl (fun h => by first | exact h | cases h) (Nat.le_of_ble_eq_true rfl) ?_
  intro w G
  have h0 := h.2.1
  obtain ⟨o, ho⟩ : ∃ o, decide (T i 0 = 3 ∧ T i 2 = s) = o := ⟨_, rfl⟩
  refine wp_aload_n (q := 1) dX12_asksSign_0 0 rfl rfl ?_
  refine wp_getI (q := 4) dX12_asksSign_1 zf_RX12_236 rfl zsh_177 rfl ?_
  rw [h0]
  refine wp_if_neN (tgt := 24) (q := 7) dX12_asksSign_4 (by decide) rfl (by omega) (fun hn => absurd hn (by first | omega | exact fun h => h | exact fun h => h trivial)) (fun _ => ?_)
  refine wp_aload_n (q := 8) dX12_asksSign_7 0 rfl rfl ?_
  refine wp_iload_n (q := 9) dX12_asksSign_8 1 rfl rfl ?_
  refine wp_cvy (q := 12) (sp_mtakesSign (d := 0) h hT hs hs9 ho) zm_X12_takesSign zl_RX12_270 dX12_asksSign_9 rfl (by omega) (Nat.le_of_ble_eq_true rfl) zsh_177 rfl rfl ?_
  rintro _ M2 L2 _ ⟨rfl, rfl, rfl, q1, q2, q3, q4⟩
  cases o with
  | false =>
    obtain ⟨q5, q6⟩ := q4 rfl
    rw [zb01_f]
    refine wp_if_neN (tgt := 24) (q := 15) dX12_asksSign_12 (by decide) rfl (by omega) (fun hn => absurd hn (by first | omega | exact fun h => h | exact fun h => h trivial)) (fun _ => ?_)
    refine wp_aload_n (q := 16) dX12_asksSign_15 0 rfl rfl ?_
    refine wp_iconst (q := 17) dX12_asksSign_16 zq_iconst_1 rfl ?_
    refine wp_aload_n (q := 18) dX12_asksSign_17 0 rfl rfl ?_
    refine wp_getI (q := 21) dX12_asksSign_18 zf_RX12_242 rfl zsh_177 rfl ?_
    rw [q6]
    refine wp_cvx (q := 24) (sp_mfail (d := 0) q5.2.1) zm_X12_fail zl_RX12_266 dX12_asksSign_21 rfl (by omega) (Nat.le_of_ble_eq_true rfl) zsh_177 rfl rfl ?_
    exact wp_return dX12_asksSign_24 rfl ⟨rfl, ⟨rfl, rfl, rfl, ⟨fun x hx => by rw [zu_ne hx, zu_ne hx]; exact q1.1 x hx, fun k k1 k2 k3 k4 k5 => by rw [zu_k k4, zu_k k3]; exact q1.2 k k1 k2 k3 k4 k5⟩, fun e => absurd e (of_decide_eq_false ho), fun _ => ⟨by rw [zu_k (by decide), zu_s], zu_s⟩⟩⟩ rfl rfl
  | true =>
    rw [zb01_t]
    refine wp_if_neN (tgt := 24) (q := 15) dX12_asksSign_12 (by decide) rfl (by omega) (fun _ => ?_) (fun hn => absurd hn (by first | omega | exact fun h => h | exact fun h => h trivial))
    exact wp_return dX12_asksSign_24 rfl ⟨rfl, ⟨rfl, rfl, rfl, q1, fun _ => ⟨(q3 rfl).1, q2⟩, fun e => absurd (of_decide_eq_true ho) e⟩⟩ rfl rfl
set_option maxHeartbeats 4000000 in
set_option maxRecDepth 100000 in
theorem sp_masksSignB {d t bd s : Nat} {M : zMI} {L : zML} (h : M 177 5 = nI bd) (h0 : bd ≠ 0) (h9 : bd < 10) : Sx yX12_asksSign YX12_asksSign (d + 2) [.ref 177, .int (nI s)] M L (zRf t) (none) M L (zRf t) := by
  refine Sp.of (by decide +kernel) rfl (fun h => by first | exact h | cases h) (Nat.le_of_ble_eq_true rfl) ?_
  intro w G
  refine wp_aload_n (q := 1) dX12_asksSign_0 0 rfl rfl ?_
  refine wp_getI (q := 4) dX12_asksSign_1 zf_RX12_236 rfl zsh_177 rfl ?_
  rw [h]
  refine wp_if_neN (tgt := 24) (q := 7) dX12_asksSign_4 (by decide) rfl (by omega) (fun _ => ?_) (fun hn => absurd hn (by first | omega | exact fun h => h | exact fun h => h trivial))
  exact wp_return dX12_asksSign_24 rfl ⟨rfl, rfl, rfl, rfl, rfl⟩ rfl rfl

