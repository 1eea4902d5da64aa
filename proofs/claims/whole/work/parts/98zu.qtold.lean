theorem zqF_c {M : zMI} {n s : Nat} {tb : zTb} {v : Nat → Nat} (h : zMc M n tb v) (hs : s < n) (i : Nat) : zqF tb v n s i ≤ 10000 := by
  have hv := h.2.1.1
  have h8 := hv.1
  have hw := hv.2.1 s hs
  have h99 := hv.2.2.2.1 s hs
  have b0 := (h.2.2.1 (wh v s) 0 hw (by decide)).2
  have b1 := (h.2.2.1 (wh v s) 1 hw (by decide)).2
  have o1 := zo_sum tb v s ((s + 1) % n)
  have o2 := zo_sum tb v ((s + n - 1) % n) s
  have hm : (s + n - 1) % n < n := Nat.mod_lt _ (by omega)
  unfold zqF
  repeat' split
  all_goals omega
theorem zbh_ne {n s : Nat} (h2 : 2 ≤ n) (hs : s < n) : (s + n - 1) % n ≠ s := by
  by_cases h : s = 0
  · subst h
    rw [Nat.zero_add, Nat.mod_eq_of_lt (by omega)]
    omega
  · rw [show s + n - 1 = (s - 1) + n by omega, Nat.add_mod_right, Nat.mod_eq_of_lt (by omega)]
    omega
def zFz (tb : zTb) (v : Nat → Nat) (n s : Nat) : Nat → Int := fun i => (zqF tb v n s i : Int)
theorem zFz_b {M : zMI} {n s : Nat} {tb : zTb} {v : Nat → Nat} (h : zMc M n tb v) (hs : s < n) : zFb (zFz tb v n s) := fun i _ => ⟨by show -1000000 ≤ (zqF tb v n s i : Int); omega, by have := zqF_c h hs i; show (zqF tb v n s i : Int) ≤ 1000000; omega⟩
theorem znii {z : Int64} (h : lN 0 ≤ z) (h' : z ≤ (-1 : Int32).toInt64) : False := by
  have h1 := Int64.le_trans h h'
  exact absurd h1 (by decide)
set_option maxHeartbeats 4000000 in
set_option maxRecDepth 100000 in
theorem sp_mwins {d t n s : Nat} {z : Int} {M : zMI} {L : zML} {tb : zTb} {v : Nat → Nat} (h : zMc M n tb v) (hs : s < n) (hz : zb6 z) {y : Int} (hy : zwin (zFz tb v n s) z = y) : Sy yX12_winsOf YX12_winsOf (d + 6) [.ref 177, .int (nI s), .long (lI z)] M L (zRf t) (fun v0 M' L' R' => v0 = some (.long (lI y)) ∧ R' = zRf t ∧ zTo M M' L L') := by
  refine Sp.of (by decide +kernel) rfl (fun h => by first | exact h | cases h) (Nat.le_of_ble_eq_true rfl) ?_
  intro w G
  have h8 := h.2.1.1.1
  have zL := zb6_L hz
  have z0 : zbL 0 := ⟨by decide, by decide⟩
  have e5 : zFz tb v n s 5 = (s : Int) := rfl
  have e6 : zFz tb v n s 6 = (((s + n - 1) % n : Nat) : Int) := rfl
  refine wp_lload_n (q := 1) dX12_winsOf_0 2 rfl rfl ?_
  refine wp_lconst (q := 2) dX12_winsOf_1 zq_lconst_0 rfl ?_
  refine wp_aload_n (q := 3) dX12_winsOf_2 0 rfl rfl ?_
  refine wp_cvx (q := 6) (sp_mcm (d := 0) h.1 h8) zm_X12_crackerMany zl_RX12_463 dX12_winsOf_3 rfl (by omega) (Nat.le_of_ble_eq_true rfl) zsh_177 rfl rfl ?_
  by_cases n2 : n < 2
  · rw [if_pos n2]
    have e7 : zFz tb v n s 7 = 0 := by
      show ((if n < 2 then 0 else zoR tb v s ((s + 1) % n) : Nat) : Int) = 0
      rw [if_pos n2]; rfl
    have e8 : zFz tb v n s 8 = 0 := by
      show ((if n < 2 then 0 else zoL tb v ((s + n - 1) % n) s : Nat) : Int) = 0
      rw [if_pos n2]; rfl
    have hy0 : y = 0 := by
      rw [← hy]
      unfold zwin
      rw [e7, e8]
      split
      · rfl
      · split <;> rfl
    refine wp_iconst (q := 7) dX12_winsOf_6 zq_iconst_1 rfl ?_
    refine wp_isub (q := 8) dX12_winsOf_7 rfl ?_
    rw [show nI 0 - nI 1 = (-1 : Int32) from rfl]
    refine wp_i2l (q := 9) dX12_winsOf_8 rfl ?_
    refine wp_csx (q := 12) (sp_isIn (d := 0)) zm_X12_isIn zl_RX12_276 dX12_winsOf_9 rfl (by omega) (Nat.le_of_ble_eq_true rfl) rfl ?_
    rw [if_neg (fun e => znii e.1 e.2)]
    refine wp_if_neN (tgt := 17) (q := 15) dX12_winsOf_12 (by decide) rfl (by omega) (fun hn => absurd hn (by first | omega | exact fun h => h | exact fun h => h trivial)) (fun _ => ?_)
    refine wp_lconst (q := 16) dX12_winsOf_15 zq_lconst_0 rfl ?_
    exact wp_lreturn dX12_winsOf_16 rfl ⟨rfl, ⟨by rw [hy0]; rfl, rfl, zTo_r⟩⟩ rfl rfl
  · rw [if_neg n2]
    have hb : (s + n - 1) % n < n := Nat.mod_lt _ (by omega)
    have hne := zbh_ne (by omega) hs
    refine wp_iconst (q := 7) dX12_winsOf_6 zq_iconst_1 rfl ?_
    refine wp_isubN (q := 8) dX12_winsOf_7 (by omega) rfl ?_
    refine wp_i2lN (q := 9) dX12_winsOf_8 (by omega) rfl ?_
    refine wp_csx (q := 12) (sp_isIn (d := 0)) zm_X12_isIn zl_RX12_276 dX12_winsOf_9 rfl (by omega) (Nat.le_of_ble_eq_true rfl) rfl ?_
    have hin : (lN 0 ≤ lI z ∧ lI z ≤ lN (n - 1)) ↔ (0 ≤ z ∧ z ≤ ((n - 1 : Nat) : Int)) := by
      rw [lN_I 0, lN_I (n - 1)]
      exact ⟨fun e => ⟨(lI_le z0 zL).mp e.1, (lI_le zL ⟨by omega, by omega⟩).mp e.2⟩, fun e => ⟨(lI_le z0 zL).mpr e.1, (lI_le zL ⟨by omega, by omega⟩).mpr e.2⟩⟩
    by_cases ci : 0 ≤ z ∧ z ≤ ((n - 1 : Nat) : Int)
    · obtain ⟨k, hk⟩ : ∃ k : Nat, z = (k : Int) := ⟨z.toNat, by omega⟩
      have kn : k < n := by omega
      rw [if_pos (hin.mpr ci)]
      subst hk
      have ek : iI (k : Int) = nI k := (nI_I k).symm
      have ub : ∀ {M1 : zMI} {L1 : zML}, zTo M M1 L L1 → zMc M1 n tb v := fun e => zMc_fr h (fun x hx => e.1 x (by omega) (by omega))
      have os := zo_sum tb v k ((k + 1) % n)
      have b0 : zof tb v k ((k + 1) % n) 0 ≤ 10000 := by
        show (if 0 = 0 then zoR tb v k ((k + 1) % n) else zoL tb v k ((k + 1) % n)) ≤ 10000
        rw [if_pos rfl]
        omega
      have b1 : zof tb v k ((k + 1) % n) 1 ≤ 10000 := by
        show (if 1 = 0 then zoR tb v k ((k + 1) % n) else zoL tb v k ((k + 1) % n)) ≤ 10000
        rw [if_neg (by decide)]
        omega
      have X40 : ∀ (x : Nat) (M1 : zMI) (L1 : zML), zTo M M1 L L1 → (y = if k = (s + n - 1) % n then (x : Int) + (zFz tb v n s 8) else x) → (k = (s + n - 1) % n → x = 0) → WP w YX12_winsOf (d + 6, SS, 0, 0) G (some (zXp (fun v0 M' L' R' => v0 = some (.long (lI y)) ∧ R' = zRf t ∧ zTo M M' L L'))) 40 [(4, .long (lN x)), (0, .ref 177), (1, .int (nI s)), (2, .long (lI (k : Int)))] [] SS M1 L1 (zRf t) := by
        intro x M1 L1 hto hyx hx0
        refine wp_lload_n (q := 41) dX12_winsOf_40 3 rfl rfl ?_
        refine wp_aload_n (q := 42) dX12_winsOf_41 1 rfl rfl ?_
        refine wp_iload_n (q := 43) dX12_winsOf_42 2 rfl rfl ?_
        refine wp_cvx (q := 46) (sp_mbehind (d := 0) (ub hto).1 h8 hs) zm_X12_behind zl_RX12_453 dX12_winsOf_43 rfl (by omega) (Nat.le_of_ble_eq_true rfl) zsh_177 rfl rfl ?_
        refine wp_i2lN (q := 47) dX12_winsOf_46 (by omega) rfl ?_
        rw [lN_I ((s + n - 1) % n)]
        refine wp_lcmp_ne (tgt := 64) (q := 51) dX12_winsOf_47 rfl dX12_winsOf_48 (by decide) rfl (fun c => ?_) (fun c => ?_)
        · skip
          have c' : ¬ k = (s + n - 1) % n := fun e => c (by rw [e])
          rw [if_neg c'] at hyx
          refine wp_lload (q := 66) dX12_winsOf_64 0 rfl rfl ?_
          exact wp_lreturn dX12_winsOf_66 rfl ⟨rfl, ⟨by rw [hyx, lN_I], rfl, hto⟩⟩ rfl rfl
        · skip
          have c' : k = (s + n - 1) % n := by
            have := (lI_eq (zb6_L hz) (⟨by omega, by omega⟩ : zbL (((s + n - 1) % n : Nat) : Int))).mp c
            omega
          rw [if_pos c', hx0 c'] at hyx
          rw [hx0 c']
          have e8 : zFz tb v n s 8 = (zoL tb v ((s + n - 1) % n) s : Int) := by
            show ((if n < 2 then 0 else zoL tb v ((s + n - 1) % n) s : Nat) : Int) = _
            rw [if_neg n2]
          refine wp_lload (q := 53) dX12_winsOf_51 0 rfl rfl ?_
          refine wp_aload_n (q := 54) dX12_winsOf_53 1 rfl rfl ?_
          refine wp_lload_n (q := 55) dX12_winsOf_54 3 rfl rfl ?_
          refine wp_l2i (q := 56) dX12_winsOf_55 rfl ?_
          rw [lI_I, ek]
          refine wp_iconst (q := 57) dX12_winsOf_56 zq_iconst_1 rfl ?_
          refine wp_cvy (q := 60) (sp_moddsAt (d := 0) (ub hto) kn (by decide : 1 < 2) rfl) zm_X12_oddsAt zl_RX12_448 dX12_winsOf_57 rfl (by omega) (Nat.le_of_ble_eq_true rfl) zsh_177 rfl rfl ?_
          rintro _ M2 L2 _ ⟨rfl, rfl, hto2⟩
          refine wp_i2lN (q := 61) dX12_winsOf_60 (by omega) rfl ?_
          refine wp_laddN (q := 62) dX12_winsOf_61 rfl ?_
          refine wp_lstore (q := 64) (loc' := [(4, _), (0, _), (1, _), (2, _)]) dX12_winsOf_62 (by decide) rfl rfl ?_
          refine wp_lload (q := 66) dX12_winsOf_64 0 rfl rfl ?_
          refine wp_lreturn dX12_winsOf_66 rfl ⟨rfl, ⟨?_, rfl, zTo_t hto hto2⟩⟩ rfl rfl
          rw [hyx, e8, show zof tb v k ((k + 1) % n) 1 = zoL tb v ((s + n - 1) % n) s by
            show (if 1 = 0 then zoR tb v k ((k + 1) % n) else zoL tb v k ((k + 1) % n)) = _
            rw [if_neg (by decide), c', zmod2 hs], lN_I]
          exact congrArg (fun i => some (Value.long (lI i))) (by omega)
      refine wp_if_neN (tgt := 17) (q := 15) dX12_winsOf_12 (by decide) rfl (by omega) (fun _ => ?_) (fun hn => absurd hn (by first | omega | exact fun h => h | exact fun h => h trivial))
      refine wp_lconst (q := 18) dX12_winsOf_17 zq_lconst_0 rfl ?_
      refine wp_lstore (q := 20) (loc' := [(4, _), (0, _), (1, _), (2, _)]) dX12_winsOf_18 (by decide) rfl rfl ?_
      refine wp_lload_n (q := 21) dX12_winsOf_20 3 rfl rfl ?_
      refine wp_iload_n (q := 22) dX12_winsOf_21 2 rfl rfl ?_
      refine wp_i2lN (q := 23) dX12_winsOf_22 (by omega) rfl ?_
      rw [lN_I s]
      refine wp_lcmp_ne (tgt := 40) (q := 27) dX12_winsOf_23 rfl dX12_winsOf_24 (by decide) rfl (fun c => ?_) (fun c => ?_)
      · skip
        have c' : ¬ k = s := fun e => c (by rw [e])
        refine WP.sub (loc' := [(4, _), (0, _), (1, _), (2, _)]) [0, 1, 2, 3] rfl ?_
        refine X40 0 M L zTo_r ?_ (fun _ => rfl)
        rw [← hy]
        unfold zwin
        rw [e5, e6, if_neg (by omega)]
        by_cases cb : k = (s + n - 1) % n
        · rw [if_pos (by omega), if_pos cb]; omega
        · rw [if_neg (by omega), if_neg cb]; rfl
      · skip
        have c' : k = s := by
          have := (lI_eq (zb6_L hz) (⟨by omega, by omega⟩ : zbL ((s : Nat) : Int))).mp c
          omega
        refine wp_lload (q := 29) dX12_winsOf_27 0 rfl rfl ?_
        refine wp_aload_n (q := 30) dX12_winsOf_29 1 rfl rfl ?_
        refine wp_lload_n (q := 31) dX12_winsOf_30 3 rfl rfl ?_
        refine wp_l2i (q := 32) dX12_winsOf_31 rfl ?_
        rw [lI_I, ek]
        refine wp_iconst (q := 33) dX12_winsOf_32 zq_iconst_0 rfl ?_
        refine wp_cvy (q := 36) (sp_moddsAt (d := 0) h kn (by decide : 0 < 2) rfl) zm_X12_oddsAt zl_RX12_448 dX12_winsOf_33 rfl (by omega) (Nat.le_of_ble_eq_true rfl) zsh_177 rfl rfl ?_
        rintro _ M2 L2 _ ⟨rfl, rfl, hto2⟩
        refine wp_i2lN (q := 37) dX12_winsOf_36 (by omega) rfl ?_
        refine wp_laddN (q := 38) dX12_winsOf_37 rfl ?_
        refine wp_lstore (q := 40) (loc' := [(4, _), (0, _), (1, _), (2, _)]) dX12_winsOf_38 (by decide) rfl rfl ?_
        refine WP.sub (loc' := [(4, _), (0, _), (1, _), (2, _)]) [0, 1, 2, 3] rfl ?_
        refine X40 (0 + zof tb v k ((k + 1) % n) 0) M2 L2 hto2 ?_ (fun e => absurd (e.symm.trans c') hne)
        rw [if_neg (fun e => hne (e.symm.trans c')), ← hy]
        unfold zwin
        rw [e5, if_pos (by omega)]
        show ((if n < 2 then 0 else zoR tb v s ((s + 1) % n) : Nat) : Int) = _
        rw [if_neg n2, c', Nat.zero_add]
        rfl
    · rw [if_neg (fun e => ci (hin.mp e))]
      have hy0 : y = 0 := by
        rw [← hy]
        unfold zwin
        rw [e5, e6, if_neg (by omega), if_neg (by omega)]
      refine wp_if_neN (tgt := 17) (q := 15) dX12_winsOf_12 (by decide) rfl (by omega) (fun hn => absurd hn (by first | omega | exact fun h => h | exact fun h => h trivial)) (fun _ => ?_)
      refine wp_lconst (q := 16) dX12_winsOf_15 zq_lconst_0 rfl ?_
      exact wp_lreturn dX12_winsOf_16 rfl ⟨rfl, ⟨by rw [hy0]; rfl, rfl, zTo_r⟩⟩ rfl rfl
-- a question's code
def zcq (v op a : Nat) : Prop := v = zqc op a ∨ ((op = 0 ∧ a = 1 ∨ op = 15) ∧ (v = 13 ∨ v = 1001))
def zWof (M M' : zMI) (L L' : zML) : Prop := (∀ x, x ≠ 214 → x ≠ 177 → M' x = M x) ∧ (∀ k, k ≠ 50 → k ≠ 94 → M' 177 k = M 177 k) ∧ ∀ x, x ≠ 213 → x ≠ 247 → L' x = L x
theorem zWof_r {M : zMI} {L : zML} : zWof M M L L := ⟨fun _ _ _ => rfl, fun _ _ _ => rfl, fun _ _ _ => rfl⟩
theorem zWof_t {M M' M'' : zMI} {L L' L'' : zML} (h : zWof M M' L L') (h' : zWof M' M'' L' L'') : zWof M M'' L L'' := ⟨fun x a b => by rw [h'.1 x a b, h.1 x a b], fun k a b => by rw [h'.2.1 k a b, h.2.1 k a b], fun x a b => by rw [h'.2.2 x a b, h.2.2 x a b]⟩
theorem zWof_o {M M' : zMI} {L L' : zML} (h : zTo M M' L L') : zWof M M' L L' := ⟨fun x a b => h.1 x a b, fun k a _ => h.2.1 k a, fun x a _ => h.2.2 x a⟩
set_option maxHeartbeats 4000000 in
set_option maxRecDepth 100000 in
theorem sp_mqOf {d t n s : Nat} {z : Int} {M : zMI} {L : zML} {tb : zTb} {v : Nat → Nat} (h : zMc M n tb v) (hs : s < n) (hz : zb6 z) {y : Int} (hy : zwin (zFz tb v n s) z = y) : Sy yX12_qOf YX12_qOf (d + 7) [.ref 177, .int (nI 0), .long (lI z), .int (nI s)] M L (zRf t) (fun v0 M' L' R' => v0 = some (.long (lI y)) ∧ R' = zRf t ∧ zTo M M' L L') := by
  refine Sp.of (by decide +kernel) rfl (fun h => by first | exact h | cases h) (Nat.le_of_ble_eq_true rfl) ?_
  intro w G
  refine wp_iload_n (q := 1) dX12_qOf_0 1 rfl rfl ?_
  refine wp_ls (tgt := 12) (off := 11) dX12_qOf_1 (by decide) (by rfl) (by decide) ?_
  refine wp_aload_n (q := 13) dX12_qOf_12 0 rfl rfl ?_
  refine wp_iload (q := 15) dX12_qOf_13 3 rfl rfl ?_
  refine wp_lload_n (q := 16) dX12_qOf_15 2 rfl rfl ?_
  refine wp_cvy (q := 19) (sp_mwins (d := 0) h hs hz hy) zm_X12_winsOf zl_RX12_678 dX12_qOf_16 rfl (by omega) (Nat.le_of_ble_eq_true rfl) zsh_177 rfl rfl ?_
  rintro _ M2 L2 _ ⟨rfl, rfl, hto⟩
  exact wp_lreturn dX12_qOf_19 rfl ⟨rfl, ⟨rfl, rfl, hto⟩⟩ rfl rfl
set_option maxHeartbeats 4000000 in
set_option maxRecDepth 100000 in
theorem sp_mqPartOf {d t n s a : Nat} {M : zMI} {L : zML} {tb : zTb} {v : Nat → Nat} (h : zMc M n tb v) (hs : s < n) (ha : a ≤ 4) : Sx yX12_qPartOf YX12_qPartOf (d + 3) [.ref 177, .int (nI a), .int (nI s)] M L (zRf t) (some (.long (lI (zFz tb v n s a)))) M L (zRf t) := by
  refine Sp.of (by decide +kernel) rfl (fun h => by first | exact h | cases h) (Nat.le_of_ble_eq_true rfl) ?_
  intro w G
  have h8 := h.2.1.1.1
  have hw := h.2.1.1.2.1 s hs
  have h99 := h.2.1.1.2.2.2.1 s hs
  have b0 := (h.2.2.1 (wh v s) 0 hw (by decide)).2
  have b1 := (h.2.2.1 (wh v s) 1 hw (by decide)).2
  have hc : a = 0 ∨ a = 1 ∨ a = 2 ∨ a = 3 ∨ a = 4 := by omega
  rcases hc with rfl | rfl | rfl | rfl | rfl
  · rw [show zFz tb v n s 0 = (s : Int) from rfl, ← lN_I]
    refine wp_iload_n (q := 1) dX12_qPartOf_0 1 rfl rfl ?_
    refine wp_tsIn (tgt := 32) (off := 31) dX12_qPartOf_1 (by decide) (by decide) (by rfl) (by decide) ?_
    refine wp_iload_n (q := 33) dX12_qPartOf_32 2 rfl rfl ?_
    refine wp_i2lN (q := 34) dX12_qPartOf_33 (by omega) rfl ?_
    exact wp_lreturn dX12_qPartOf_34 rfl ⟨rfl, rfl, rfl, rfl, rfl⟩ rfl rfl
  · rw [show zFz tb v n s 1 = (tb.1 (wh v s) 0 : Int) from rfl, ← lN_I]
    refine wp_iload_n (q := 1) dX12_qPartOf_0 1 rfl rfl ?_
    refine wp_tsIn (tgt := 35) (off := 34) dX12_qPartOf_1 (by decide) (by decide) (by rfl) (by decide) ?_
    refine wp_aload_n (q := 36) dX12_qPartOf_35 0 rfl rfl ?_
    refine wp_iload_n (q := 37) dX12_qPartOf_36 2 rfl rfl ?_
    refine wp_iconst (q := 38) dX12_qPartOf_37 zq_iconst_0 rfl ?_
    refine wp_cvx (q := 41) (sp_marm (d := 0) h hs (by decide : 0 < 2)) zm_X12_armOf zl_RX12_415 dX12_qPartOf_38 rfl (by omega) (Nat.le_of_ble_eq_true rfl) zsh_177 rfl rfl ?_
    refine wp_i2lN (q := 42) dX12_qPartOf_41 (by omega) rfl ?_
    exact wp_lreturn dX12_qPartOf_42 rfl ⟨rfl, rfl, rfl, rfl, rfl⟩ rfl rfl
  · rw [show zFz tb v n s 2 = (tb.1 (wh v s) 1 : Int) from rfl, ← lN_I]
    refine wp_iload_n (q := 1) dX12_qPartOf_0 1 rfl rfl ?_
    refine wp_tsIn (tgt := 43) (off := 42) dX12_qPartOf_1 (by decide) (by decide) (by rfl) (by decide) ?_
    refine wp_aload_n (q := 44) dX12_qPartOf_43 0 rfl rfl ?_
    refine wp_iload_n (q := 45) dX12_qPartOf_44 2 rfl rfl ?_
    refine wp_iconst (q := 46) dX12_qPartOf_45 zq_iconst_1 rfl ?_
    refine wp_cvx (q := 49) (sp_marm (d := 0) h hs (by decide : 1 < 2)) zm_X12_armOf zl_RX12_415 dX12_qPartOf_46 rfl (by omega) (Nat.le_of_ble_eq_true rfl) zsh_177 rfl rfl ?_
    refine wp_i2lN (q := 50) dX12_qPartOf_49 (by omega) rfl ?_
    exact wp_lreturn dX12_qPartOf_50 rfl ⟨rfl, rfl, rfl, rfl, rfl⟩ rfl rfl
  · rw [show zFz tb v n s 3 = (ht v s : Int) from rfl, ← lN_I]
    refine wp_iload_n (q := 1) dX12_qPartOf_0 1 rfl rfl ?_
    refine wp_tsIn (tgt := 51) (off := 50) dX12_qPartOf_1 (by decide) (by decide) (by rfl) (by decide) ?_
    refine wp_aload_n (q := 52) dX12_qPartOf_51 0 rfl rfl ?_
    refine wp_iload_n (q := 53) dX12_qPartOf_52 2 rfl rfl ?_
    refine wp_cvx (q := 56) (sp_mhats (d := 0) h.2.1 hs) zm_X12_hatsOf zl_RX12_460 dX12_qPartOf_53 rfl (by omega) (Nat.le_of_ble_eq_true rfl) zsh_177 rfl rfl ?_
    refine wp_i2lN (q := 57) dX12_qPartOf_56 (by omega) rfl ?_
    exact wp_lreturn dX12_qPartOf_57 rfl ⟨rfl, rfl, rfl, rfl, rfl⟩ rfl rfl
  · rw [show zFz tb v n s 4 = (((if gr v s 0 = 2 then 1 else 0) + (if gr v s 1 = 2 then 1 else 0) : Nat) : Int) from rfl, ← lN_I]
    refine wp_iload_n (q := 1) dX12_qPartOf_0 1 rfl rfl ?_
    refine wp_tsOut (tgt := 58) dX12_qPartOf_1 (by decide) (by decide) ?_
    refine wp_aload_n (q := 59) dX12_qPartOf_58 0 rfl rfl ?_
    refine wp_iload_n (q := 60) dX12_qPartOf_59 2 rfl rfl ?_
    refine wp_cvx (q := 63) (sp_mthumbs (d := 0) h.2.1 hs) zm_X12_thumbsOf zl_RX12_675 dX12_qPartOf_60 rfl (by omega) (Nat.le_of_ble_eq_true rfl) zsh_177 rfl rfl ?_
    exact wp_lreturn dX12_qPartOf_63 rfl ⟨rfl, rfl, rfl, rfl, rfl⟩ rfl rfl
set_option maxHeartbeats 4000000 in
set_option maxRecDepth 100000 in
theorem sp_mqTold {d t n s : Nat} {bt : Bool} {M : zMI} {L : zML} {tb : zTb} {v : Nat → Nat} {F : zFl} (h : zMc M n tb v) (hs : s < n) (h88 : M 177 88 = nI F.length) (hlen : F.length ≤ 1600) (hcd : ∀ (i op a : Nat), F[i]? = some (op, a) → ∃ x, M 245 i = nI x ∧ zcq x op a) (hop4 : ∀ (i op a : Nat), F[i]? = some (op, a) → op = 1 → a ≤ 4) (htr : ztr F [] = some [bt]) : Sy yX12_qTold YX12_qTold (d + 8) [.ref 177, .int (nI s)] M L (zRf t) (fun v0 M' L' R' => v0 = some (.long (lI (zhd (zeva (zFz tb v n s) F [])))) ∧ R' = zRf t ∧ zWof M M' L L' ∧ zb6 (zhd (zeva (zFz tb v n s) F [])) ∧ (bt = true → z01 (zhd (zeva (zFz tb v n s) F [])))) := by
  refine Sp.of (by decide +kernel) rfl (fun h => by first | exact h | cases h) (Nat.le_of_ble_eq_true rfl) ?_
  intro w G
  have h8 := h.2.1.1.1
  have hFb := zFz_b h hs
  have up : ∀ {M1 : zMI} {L1 : zML}, zWof M M1 L L1 → zMc M1 n tb v := fun e => zMc_fr h (fun x hx => e.1 x (by omega) (by omega))
  have loop : ∀ (q : zFl) (i : Nat) (st : List Int) (ts : List Bool) (M2 : zMI) (L2 : zML), i + q.length = F.length → (∀ j, F[i + j]? = q[j]?) → ztr q ts = some [bt] → zvt ts st → zeva (zFz tb v n s) q st = zeva (zFz tb v n s) F [] → zpl0 L2 247 st → M2 177 94 = nI st.length → zWof M M2 L L2 → WP w YX12_qTold (d + 8, SS, 0, 0) G (some (zXp (fun v0 M' L' R' => v0 = some (.long (lI (zhd (zeva (zFz tb v n s) F [])))) ∧ R' = zRf t ∧ zWof M M' L L' ∧ zb6 (zhd (zeva (zFz tb v n s) F [])) ∧ (bt = true → z01 (zhd (zeva (zFz tb v n s) F [])))))) 7 [(2, .int (nI i)), (0, .ref 177), (1, .int (nI s))] [] SS M2 L2 (zRf t) := by
    intro q
    induction q with
    | nil =>
      intro i st ts M2 L2 hi hq htr hv he hk hpd hto
      have hts : ts = [bt] := Option.some.inj htr
      subst hts
      cases st with
      | nil => exact absurd hv id
      | cons z zs =>
        cases zs with
        | cons => exact absurd hv.2.2 id
        | nil =>
          rw [List.length_nil, Nat.add_zero] at hi
          have he' : [z] = zeva (zFz tb v n s) F [] := he
          refine wp_iload_n (q := 8) dX12_qTold_7 0 rfl rfl ?_
          refine wp_aload_n (q := 9) dX12_qTold_8 1 rfl rfl ?_
          refine wp_getI (q := 12) dX12_qTold_9 zf_RX12_597 rfl zsh_177 rfl ?_
          rw [hto.2.1 88 (by decide) (by decide), h88, hi]
          refine wp_icmp_geN (tgt := 168) (q := 15) dX12_qTold_12 (by decide) rfl (by omega) (by omega) (fun _ => ?_) (fun hn => absurd hn (by first | omega | exact fun h => h | exact fun h => h trivial))
          refine wp_aload_n (q := 169) dX12_qTold_168 1 rfl rfl ?_
          refine wp_getR (q := 172) dX12_qTold_169 zf_RX12_227 rfl zsh_177 (zr_177_93 _) rfl ?_
          refine wp_iconst (q := 173) dX12_qTold_172 zq_iconst_0 rfl ?_
          refine wp_lald (q := 174) _ dX12_qTold_173 zsh_247 rfl (by omega) (by decide) rfl ?_
          rw [show L2 247 0 = lI z from zpl0_hd hk]
          exact wp_lreturn dX12_qTold_174 rfl ⟨rfl, ⟨by rw [← he']; rfl, rfl, hto, by rw [← he']; exact hv.1, fun e => by rw [← he']; exact hv.2.1 e⟩⟩ rfl rfl
    | cons oa q ih =>
      obtain ⟨op, arg⟩ := oa
      intro i st ts M2 L2 hi hq htr hv he hk hpd hto
      rw [List.length_cons] at hi
      have hcur : F[i]? = some (op, arg) := by have := hq 0; rw [Nat.add_zero] at this; exact this
      obtain ⟨x, c1, c2⟩ := hcd i op arg hcur
      have c5 := hop4 i op arg hcur
      have hlen1 := zvt_len hv
      have hnext : ∀ j, F[i + 1 + j]? = q[j]? := fun j => by
        have := hq (j + 1)
        rw [show i + (j + 1) = i + 1 + j by omega, List.getElem?_cons_succ] at this
        exact this
      unfold ztr at htr
      split at htr
      · rename_i hcond
        obtain ⟨d1, d2, d3, d4⟩ := hcond
        cases htc : ztc op ts with
        | none => rw [htc] at htr; cases htr
        | some ts' =>
          rw [htc] at htr
          have htr2 : ztr q ts' = some [bt] := htr
          have hv2 := zvt_op (arg := arg) hFb hv d3 d4 htc
          have he2 : zeva (zFz tb v n s) q (zop (zFz tb v n s) op arg st) = zeva (zFz tb v n s) F [] := he
          have hgo : ∀ (st' : List Int) (M3 : zMI) (L3 : zML), st' = zop (zFz tb v n s) op arg st → zpl0 L3 247 st' → M3 177 94 = nI st'.length → zWof M2 M3 L2 L3 → WP w YX12_qTold (d + 8, SS, 0, 0) G (some (zXp (fun v0 M' L' R' => v0 = some (.long (lI (zhd (zeva (zFz tb v n s) F [])))) ∧ R' = zRf t ∧ zWof M M' L L' ∧ zb6 (zhd (zeva (zFz tb v n s) F [])) ∧ (bt = true → z01 (zhd (zeva (zFz tb v n s) F [])))))) 7 [(2, .int (nI (i + 1))), (0, .ref 177), (1, .int (nI s))] [] SS M3 L3 (zRf t) := fun st' M3 L3 e a1 a2 a3 => ih (i + 1) _ ts' M3 L3 (by omega) hnext htr2 hv2 he2 (by rw [← e]; exact a1) (by rw [← e]; exact a2) (zWof_t hto a3)
          have hpu : ∀ {M3 : zMI} {L3 : zML} {x : Int32}, M3 = zu M2 177 94 x → (∀ x, x ≠ 247 → L3 x = L2 x) → zWof M2 M3 L2 L3 := fun e1 e2 => by
            rw [e1]
            exact ⟨fun y a b => zu_ne b, fun k a b => zu_k b, fun y a b => e2 y b⟩
          have x20 : x < 20000 := by
            rcases c2 with e | ⟨-, e⟩
            · rw [e]
              unfold zqc
              repeat' split
              all_goals first | omega | (have := d3 (by assumption); omega)
            · omega
          refine wp_iload_n (q := 8) dX12_qTold_7 0 rfl rfl ?_
          refine wp_aload_n (q := 9) dX12_qTold_8 1 rfl rfl ?_
          refine wp_getI (q := 12) dX12_qTold_9 zf_RX12_597 rfl zsh_177 rfl ?_
          rw [hto.2.1 88 (by decide) (by decide), h88]
          refine wp_icmp_geN (tgt := 168) (q := 15) dX12_qTold_12 (by decide) rfl (by omega) (by omega) (fun hn => absurd hn (by first | omega | exact fun h => h | exact fun h => h trivial)) (fun _ => ?_)
          refine wp_aload_n (q := 16) dX12_qTold_15 1 rfl rfl ?_
          refine wp_getR (q := 19) dX12_qTold_16 zf_RX12_221 rfl zsh_177 (zr_177_87 _) rfl ?_
          refine wp_iload_n (q := 20) dX12_qTold_19 0 rfl rfl ?_
          refine wp_iald (q := 21) _ dX12_qTold_20 zsh_245 rfl (by omega) (by decide) rfl ?_
          rw [hto.1 245 (by decide) (by decide), c1]
          refine wp_istore_n (q := 22) (loc' := [(3, _), (2, _), (0, _), (1, _)]) dX12_qTold_21 rfl (by decide) rfl rfl ?_
          refine wp_iload_n (q := 23) dX12_qTold_22 0 rfl rfl ?_
          refine wp_sipush (q := 26) dX12_qTold_23 zq_sipush_1000 rfl ?_
          by_cases hN : 1000 ≤ x
          · have hz : zop (zFz tb v n s) op arg st = ((x - 1000 : Nat) : Int) :: st := by
              rcases c2 with e | ⟨e1, e2⟩
              · unfold zqc at e
                split at e
                · rename_i e0
                  rw [e0, e, Nat.add_sub_cancel_left]
                  rfl
                · exfalso
                  repeat' split at e
                  all_goals first | omega | (have := d4 (by assumption); omega)
              · have e3 : x = 1001 := by omega
                rw [e3]
                rcases e1 with ⟨e4, e5⟩ | e4
                · rw [e4, e5]; rfl
                · rw [e4]; rfl
            refine wp_icmp_ltN (tgt := 42) (q := 29) dX12_qTold_26 (by decide) rfl (by omega) (by omega) (fun hn => absurd hn (by first | omega | exact fun h => h | exact fun h => h trivial)) (fun _ => ?_)
            refine wp_aload_n (q := 30) dX12_qTold_29 2 rfl rfl ?_
            refine wp_iload_n (q := 31) dX12_qTold_30 0 rfl rfl ?_
            refine wp_sipush (q := 34) dX12_qTold_31 zq_sipush_1000 rfl ?_
            refine wp_isubN (q := 35) dX12_qTold_34 (by omega) rfl ?_
            refine wp_i2lN (q := 36) dX12_qTold_35 (by omega) rfl ?_
            rw [lN_I]
            refine wp_cvy (q := 39) (sp_mqPuts (d := 0) hk hpd (by omega)) zm_X12_qPuts zl_RX12_669 dX12_qTold_36 rfl (by omega) (Nat.le_of_ble_eq_true rfl) zsh_177 rfl rfl ?_
            rintro _ _ L3 _ ⟨rfl, rfl, g1, rfl, g2⟩
            refine wp_goto (tgt := 162) dX12_qTold_39 (by decide) ?_
            refine wp_iincN (q := 165) (loc' := [(2, _), (3, _), (0, _), (1, _)]) (n := 1) dX12_qTold_162 rfl 1 rfl (by decide) rfl rfl ?_
            refine wp_goto (tgt := 7) dX12_qTold_165 (by decide) ?_
            refine WP.sub (loc' := [(2, _), (0, _), (1, _)]) [0, 2, 3] rfl ?_
            exact hgo _ _ L3 hz.symm g1 zu_s (hpu rfl g2)
          · have x1000 : x < 1000 := by omega
            refine wp_icmp_ltN (tgt := 42) (q := 29) dX12_qTold_26 (by decide) rfl (by omega) (by omega) (fun _ => ?_) (fun hn => absurd hn (by first | omega | exact fun h => h | exact fun h => h trivial))
            refine wp_iload_n (q := 43) dX12_qTold_42 0 rfl rfl ?_
            refine wp_bipush (q := 45) dX12_qTold_43 zq_bipush_60 rfl ?_
            by_cases h60 : x = 60
            · have e3 : op = 3 := by
                rcases c2 with e | ⟨e1, e2⟩
                · unfold zqc at e
                  repeat' split at e
                  all_goals first | omega | (have := d4 (by assumption); omega)
                · omega
              subst e3
              rw [h60]
              cases st with
              | nil =>
                cases ts with
                | nil => cases htc
                | cons => exact absurd hv id
              | cons z zs =>
                have hzb : zb6 z := by
                  cases ts with
                  | nil => exact absurd hv id
                  | cons => exact hv.1
                have hyb := zwin_b (a := z) hFb
                have hls : (z :: zs).length = zs.length + 1 := rfl
                rw [hls] at hpd hlen1
                refine wp_icmp_ltN (tgt := 85) (q := 48) dX12_qTold_45 (by decide) rfl (by omega) (by omega) (fun hn => absurd hn (by first | omega | exact fun h => h | exact fun h => h trivial)) (fun _ => ?_)
                refine wp_aload_n (q := 49) dX12_qTold_48 2 rfl rfl ?_
                refine wp_getR (q := 52) dX12_qTold_49 zf_RX12_227 rfl zsh_177 (zr_177_93 _) rfl ?_
                refine wp_aload_n (q := 53) dX12_qTold_52 2 rfl rfl ?_
                refine wp_getI (q := 56) dX12_qTold_53 zf_RX12_663 rfl zsh_177 rfl ?_
                rw [hpd]
                refine wp_iconst (q := 57) dX12_qTold_56 zq_iconst_1 rfl ?_
                refine wp_isubN (q := 58) dX12_qTold_57 (by omega) rfl ?_
                rw [Nat.add_sub_cancel]
                refine wp_aload_n (q := 59) dX12_qTold_58 2 rfl rfl ?_
                refine wp_iload_n (q := 60) dX12_qTold_59 0 rfl rfl ?_
                refine wp_bipush (q := 62) dX12_qTold_60 zq_bipush_60 rfl ?_
                refine wp_isubN (q := 63) dX12_qTold_62 (by omega) rfl ?_
                refine wp_aload_n (q := 64) dX12_qTold_63 2 rfl rfl ?_
                refine wp_getR (q := 67) dX12_qTold_64 zf_RX12_227 rfl zsh_177 (zr_177_93 _) rfl ?_
                refine wp_aload_n (q := 68) dX12_qTold_67 2 rfl rfl ?_
                refine wp_getI (q := 71) dX12_qTold_68 zf_RX12_663 rfl zsh_177 rfl ?_
                rw [hpd]
                refine wp_iconst (q := 72) dX12_qTold_71 zq_iconst_1 rfl ?_
                refine wp_isubN (q := 73) dX12_qTold_72 (by omega) rfl ?_
                rw [Nat.add_sub_cancel]
                refine wp_lald (q := 74) _ dX12_qTold_73 zsh_247 rfl (by omega) (by decide) rfl ?_
                rw [zpl0_hd hk]
                refine wp_iload_n (q := 75) dX12_qTold_74 3 rfl rfl ?_
                rw [show 60 - 60 = 0 from rfl]
                refine wp_cvy (q := 78) (sp_mqOf (d := 0) (up hto) hs hzb rfl) zm_X12_qOf zl_RX12_682 dX12_qTold_75 rfl (by omega) (Nat.le_of_ble_eq_true rfl) zsh_177 rfl rfl ?_
                rintro _ M3 L3 _ ⟨rfl, rfl, hto3⟩
                refine wp_csx (q := 81) (sp_mqClip (d := d + 6) (zb6_L hyb)) zm_X12_qClip zl_RX12_666 dX12_qTold_78 rfl (by omega) (Nat.le_of_ble_eq_true rfl) rfl ?_
                rw [zclip_id hyb]
                refine wp_last (q := 82) _ dX12_qTold_81 zsh_247 rfl (by omega) (by decide) rfl ?_
                refine wp_goto (tgt := 162) dX12_qTold_82 (by decide) ?_
                refine wp_iincN (q := 165) (loc' := [(2, _), (3, _), (0, _), (1, _)]) (n := 1) dX12_qTold_162 rfl 1 rfl (by decide) rfl rfl ?_
                refine wp_goto (tgt := 7) dX12_qTold_165 (by decide) ?_
                have hk3 : zpl0 L3 247 zs := by
                  intro j y hj
                  rw [hto3.2.2 247 (by decide)]
                  exact zpl0_tl hk j y hj
                refine WP.sub (loc' := [(2, _), (0, _), (1, _)]) [0, 2, 3] rfl ?_
                refine hgo _ M3 _ rfl (zpl0_push hk3) ?_ ?_
                · rw [hto3.2.1 94 (by decide)]; exact hpd
                · exact ⟨fun y a b => hto3.1 y a b, fun k a b => hto3.2.1 k a, fun y a b => by rw [zu_ne b]; exact hto3.2.2 y a⟩
            · skip
              have x60 : x < 60 := by
                rcases c2 with e | ⟨e1, e2⟩
                · unfold zqc at e
                  repeat' split at e
                  all_goals first | omega | (have := c5 (by assumption); omega)
                · omega
              refine wp_icmp_ltN (tgt := 85) (q := 48) dX12_qTold_45 (by decide) rfl (by omega) (by omega) (fun _ => ?_) (fun hn => absurd hn (by first | omega | exact fun h => h | exact fun h => h trivial))
              refine wp_iload_n (q := 86) dX12_qTold_85 0 rfl rfl ?_
              refine wp_bipush (q := 88) dX12_qTold_86 zq_bipush_40 rfl ?_
              by_cases h40 : 40 ≤ x
              · have e1 : op = 1 ∧ x = 40 + arg := by
                  rcases c2 with e | ⟨e1, e2⟩
                  · unfold zqc at e
                    repeat' split at e
                    all_goals first | omega | exact ⟨by assumption, e⟩
                  · omega
                obtain ⟨e1, e2⟩ := e1
                subst e1
                have ha4 := c5 rfl
                have hfb := hFb arg (by omega)
                rw [e2]
                refine wp_icmp_ltN (tgt := 110) (q := 91) dX12_qTold_88 (by decide) rfl (by omega) (by omega) (fun hn => absurd hn (by first | omega | exact fun h => h | exact fun h => h trivial)) (fun _ => ?_)
                refine wp_aload_n (q := 92) dX12_qTold_91 2 rfl rfl ?_
                refine wp_aload_n (q := 93) dX12_qTold_92 2 rfl rfl ?_
                refine wp_iload_n (q := 94) dX12_qTold_93 0 rfl rfl ?_
                refine wp_bipush (q := 96) dX12_qTold_94 zq_bipush_40 rfl ?_
                refine wp_isubN (q := 97) dX12_qTold_96 (by omega) rfl ?_
                rw [show 40 + arg - 40 = arg by omega]
                refine wp_iload_n (q := 98) dX12_qTold_97 3 rfl rfl ?_
                refine wp_cvx (q := 101) (sp_mqPartOf (d := d + 4) (up hto) hs ha4) zm_X12_qPartOf zl_RX12_686 dX12_qTold_98 rfl (by omega) (Nat.le_of_ble_eq_true rfl) zsh_177 rfl rfl ?_
                refine wp_csx (q := 104) (sp_mqClip (d := d + 6) (zb6_L hfb)) zm_X12_qClip zl_RX12_666 dX12_qTold_101 rfl (by omega) (Nat.le_of_ble_eq_true rfl) rfl ?_
                rw [zclip_id hfb]
                refine wp_cvy (q := 107) (sp_mqPuts (d := 0) hk hpd (by omega)) zm_X12_qPuts zl_RX12_669 dX12_qTold_104 rfl (by omega) (Nat.le_of_ble_eq_true rfl) zsh_177 rfl rfl ?_
                rintro _ _ L3 _ ⟨rfl, rfl, g1, rfl, g2⟩
                refine wp_goto (tgt := 162) dX12_qTold_107 (by decide) ?_
                refine wp_iincN (q := 165) (loc' := [(2, _), (3, _), (0, _), (1, _)]) (n := 1) dX12_qTold_162 rfl 1 rfl (by decide) rfl rfl ?_
                refine wp_goto (tgt := 7) dX12_qTold_165 (by decide) ?_
                refine WP.sub (loc' := [(2, _), (0, _), (1, _)]) [0, 2, 3] rfl ?_
                exact hgo _ _ L3 rfl g1 zu_s (hpu rfl g2)
              · skip
                refine wp_icmp_ltN (tgt := 110) (q := 91) dX12_qTold_88 (by decide) rfl (by omega) (by omega) (fun _ => ?_) (fun hn => absurd hn (by first | omega | exact fun h => h | exact fun h => h trivial))
                refine wp_iload_n (q := 111) dX12_qTold_110 0 rfl rfl ?_
                refine wp_bipush (q := 113) dX12_qTold_111 zq_bipush_13 rfl ?_
                by_cases h13 : x = 13
                · have hz : zop (zFz tb v n s) op arg st = (1 : Int) :: st := by
                    rcases c2 with e | ⟨e1, e2⟩
                    · have e15 : op = 15 := by
                        unfold zqc at e
                        repeat' split at e
                        all_goals omega
                      rw [e15]; rfl
                    · rcases e1 with ⟨e4, e5⟩ | e4
                      · rw [e4, e5]; rfl
                      · rw [e4]; rfl
                  rw [h13]
                  refine wp_icmp_neN (tgt := 124) (q := 116) dX12_qTold_113 (by decide) rfl (by omega) (by omega) (fun hn => absurd hn (by first | omega | exact fun h => h | exact fun h => h trivial)) (fun _ => ?_)
                  refine wp_aload_n (q := 117) dX12_qTold_116 2 rfl rfl ?_
                  refine wp_lconst (q := 118) dX12_qTold_117 zq_lconst_1 rfl ?_
                  rw [show lN 1 = lI 1 from rfl]
                  refine wp_cvy (q := 121) (sp_mqPuts (d := 0) hk hpd (by omega)) zm_X12_qPuts zl_RX12_669 dX12_qTold_118 rfl (by omega) (Nat.le_of_ble_eq_true rfl) zsh_177 rfl rfl ?_
                  rintro _ _ L3 _ ⟨rfl, rfl, g1, rfl, g2⟩
                  refine wp_goto (tgt := 162) dX12_qTold_121 (by decide) ?_
                  refine wp_iincN (q := 165) (loc' := [(2, _), (3, _), (0, _), (1, _)]) (n := 1) dX12_qTold_162 rfl 1 rfl (by decide) rfl rfl ?_
                  refine wp_goto (tgt := 7) dX12_qTold_165 (by decide) ?_
                  refine WP.sub (loc' := [(2, _), (0, _), (1, _)]) [0, 2, 3] rfl ?_
                  exact hgo _ _ L3 hz.symm g1 zu_s (hpu rfl g2)
                · have hcx : x = zqc op arg := by
                    rcases c2 with e | ⟨-, e⟩
                    · exact e
                    · omega
                  refine wp_icmp_neN (tgt := 124) (q := 116) dX12_qTold_113 (by decide) rfl (by omega) (by omega) (fun _ => ?_) (fun hn => absurd hn (by first | omega | exact fun h => h | exact fun h => h trivial))
                  refine wp_iload_n (q := 125) dX12_qTold_124 0 rfl rfl ?_
                  refine wp_bipush (q := 127) dX12_qTold_125 zq_bipush_12 rfl ?_
                  by_cases h12 : x = 12
                  · have e2 : op = 2 := by
                      unfold zqc at hcx
                      repeat' split at hcx
                      all_goals omega
                    subst e2
                    rw [h12]
                    cases st with
                    | nil =>
                      cases ts with
                      | nil => cases htc
                      | cons => exact absurd hv id
                    | cons z zs =>
                      have hls : (z :: zs).length = zs.length + 1 := rfl
                      rw [hls] at hpd hlen1
                      refine wp_icmp_neN (tgt := 157) (q := 130) dX12_qTold_127 (by decide) rfl (by omega) (by omega) (fun hn => absurd hn (by first | omega | exact fun h => h | exact fun h => h trivial)) (fun _ => ?_)
                      refine wp_aload_n (q := 131) dX12_qTold_130 2 rfl rfl ?_
                      refine wp_getR (q := 134) dX12_qTold_131 zf_RX12_227 rfl zsh_177 (zr_177_93 _) rfl ?_
                      refine wp_aload_n (q := 135) dX12_qTold_134 2 rfl rfl ?_
                      refine wp_getI (q := 138) dX12_qTold_135 zf_RX12_663 rfl zsh_177 rfl ?_
                      rw [hpd]
                      refine wp_iconst (q := 139) dX12_qTold_138 zq_iconst_1 rfl ?_
                      refine wp_isubN (q := 140) dX12_qTold_139 (by omega) rfl ?_
                      rw [Nat.add_sub_cancel]
                      refine wp_lconst (q := 141) dX12_qTold_140 zq_lconst_1 rfl ?_
                      refine wp_aload_n (q := 142) dX12_qTold_141 2 rfl rfl ?_
                      refine wp_getR (q := 145) dX12_qTold_142 zf_RX12_227 rfl zsh_177 (zr_177_93 _) rfl ?_
                      refine wp_aload_n (q := 146) dX12_qTold_145 2 rfl rfl ?_
                      refine wp_getI (q := 149) dX12_qTold_146 zf_RX12_663 rfl zsh_177 rfl ?_
                      rw [hpd]
                      refine wp_iconst (q := 150) dX12_qTold_149 zq_iconst_1 rfl ?_
                      refine wp_isubN (q := 151) dX12_qTold_150 (by omega) rfl ?_
                      rw [Nat.add_sub_cancel]
                      refine wp_lald (q := 152) _ dX12_qTold_151 zsh_247 rfl (by omega) (by decide) rfl ?_
                      rw [zpl0_hd hk, show lN 1 = lI 1 from rfl]
                      refine wp_lsub (q := 153) dX12_qTold_152 rfl ?_
                      rw [lI_sub]
                      refine wp_last (q := 154) _ dX12_qTold_153 zsh_247 rfl (by omega) (by decide) rfl ?_
                      refine wp_goto (tgt := 162) dX12_qTold_154 (by decide) ?_
                      refine wp_iincN (q := 165) (loc' := [(2, _), (3, _), (0, _), (1, _)]) (n := 1) dX12_qTold_162 rfl 1 rfl (by decide) rfl rfl ?_
                      refine wp_goto (tgt := 7) dX12_qTold_165 (by decide) ?_
                      refine WP.sub (loc' := [(2, _), (0, _), (1, _)]) [0, 2, 3] rfl ?_
                      exact hgo _ M2 _ rfl (zpl0_push (zpl0_tl hk)) hpd ⟨fun _ _ _ => rfl, fun _ _ _ => rfl, fun y a b => zu_ne b⟩
                  · have h4 : 4 ≤ op ∧ op ≤ 14 ∧ x = op - 3 := by
                      unfold zqc at hcx
                      repeat' split at hcx
                      all_goals first | omega | (have := d4 (by assumption); omega)
                    obtain ⟨h4, h14, hx3⟩ := h4
                    rw [hx3] at *
                    refine wp_icmp_neN (tgt := 157) (q := 130) dX12_qTold_127 (by decide) rfl (by omega) (by omega) (fun _ => ?_) (fun hn => absurd hn (by first | omega | exact fun h => h | exact fun h => h trivial))
                    refine wp_aload_n (q := 158) dX12_qTold_157 2 rfl rfl ?_
                    refine wp_iload_n (q := 159) dX12_qTold_158 0 rfl rfl ?_
                    cases ts with
                    | nil =>
                      unfold ztc at htc
                      rw [if_neg (by omega), if_neg (by omega)] at htc
                      cases htc
                    | cons x1 ts1 =>
                      cases ts1 with
                      | nil =>
                        unfold ztc at htc
                        rw [if_neg (by omega), if_neg (by omega)] at htc
                        change (if op = 2 then _ else if op = 3 then _ else none) = _ at htc
                        rw [if_neg (by omega), if_neg (by omega)] at htc
                        cases htc
                      | cons x2 ts2 =>
                        cases st with
                        | nil => exact absurd hv id
                        | cons y1 st1 =>
                          cases st1 with
                          | nil => exact absurd hv.2.2 id
                          | cons y2 st2 =>
                            have hb01 : 13 ≤ op → z01 y2 ∧ z01 y1 := fun h13' => by
                              unfold ztc at htc
                              rw [if_neg (by omega), if_neg (by omega)] at htc
                              change (if op = 2 then _ else if op = 3 then _ else (if op ≤ 9 then _ else if op ≤ 12 then _ else (if x1 = true ∧ x2 = true then some (true :: ts2) else none))) = _ at htc
                              rw [if_neg (by omega), if_neg (by omega), if_neg (by omega), if_neg (by omega)] at htc
                              split at htc
                              · rename_i hx12
                                exact ⟨hv.2.2.2.1 hx12.2, hv.2.1 hx12.1⟩
                              · cases htc
                            have hzz : zop (zFz tb v n s) op arg (y1 :: y2 :: st2) = zbin op y2 y1 :: st2 := by
                              unfold zop
                              rw [if_neg (by omega), if_neg (by omega), if_neg (by omega)]
                              show (if op = 2 then _ else if op = 3 then _ else _) = _
                              rw [if_neg (by omega), if_neg (by omega)]
                            have hst : (y1 :: y2 :: st2).length = st2.length + 2 := rfl
                            refine wp_cvy (q := 162) (sp_mqJoins (d := d + 5) hk hpd (by omega) hv.2.2.1 hv.1 h4 h14 hb01) zm_X12_qJoins zl_RX12_689 dX12_qTold_159 rfl (by omega) (Nat.le_of_ble_eq_true rfl) zsh_177 rfl rfl ?_
                            rintro _ _ L3 _ ⟨rfl, rfl, g1, rfl, g2⟩
                            refine wp_iincN (q := 165) (loc' := [(2, _), (3, _), (0, _), (1, _)]) (n := 1) dX12_qTold_162 rfl 1 rfl (by decide) rfl rfl ?_
                            refine wp_goto (tgt := 7) dX12_qTold_165 (by decide) ?_
                            refine WP.sub (loc' := [(2, _), (0, _), (1, _)]) [0, 2, 3] rfl ?_
                            exact hgo _ _ L3 hzz.symm g1 zu_s ⟨fun y a b => by rw [zu_ne b, zu_ne b], fun k a b => by rw [zu_k b, zu_k b], fun y a b => g2 y b⟩
      · cases htr
  refine wp_aload_n (q := 1) dX12_qTold_0 0 rfl rfl ?_
  refine wp_iconst (q := 2) dX12_qTold_1 zq_iconst_0 rfl ?_
  refine wp_putI (q := 5) dX12_qTold_2 zf_RX12_663 rfl zsh_177 rfl ?_
  refine wp_iconst (q := 6) dX12_qTold_5 zq_iconst_0 rfl ?_
  refine wp_istore_n (q := 7) (loc' := [(2, _), (0, _), (1, _)]) dX12_qTold_6 rfl (by decide) rfl rfl ?_
  refine WP.sub (loc' := [(2, _), (0, _), (1, _)]) [0, 1, 2] rfl ?_
  exact loop F 0 [] [] _ L (Nat.zero_add _) (fun j => by rw [Nat.zero_add]) htr trivial rfl (fun j z hj => by simp at hj) zu_s ⟨fun y a b => zu_ne b, fun k a b => zu_k b, fun _ _ _ => rfl⟩

