def zfl0 (a b : Int) : Int := if b = 0 then 0 else Int.fdiv a b
theorem lI_div {a b : Int} (ha : zb6 a) (hb : zb6 b) : lI a / lI b = lI (a.tdiv b) := by
  obtain ⟨a1, a2⟩ := ha
  obtain ⟨b1, b2⟩ := hb
  apply Int64.toInt_inj.mp
  have hab : (a.tdiv b).natAbs ≤ a.natAbs := by
    rw [Int.natAbs_tdiv]
    exact Nat.div_le_self _ _
  have hm : lI a ≠ Int64.minValue := by
    intro e
    have := congrArg Int64.toInt e
    rw [lI_t (by omega) (by omega)] at this
    have h2 : Int64.minValue.toInt = -9223372036854775808 := by decide
    omega
  rw [Int64.toInt_div_of_ne_left _ _ hm, lI_t (by omega) (by omega), lI_t (by omega) (by omega), lI_t (by omega) (by omega)]
theorem lI_rem {a b : Int} (ha : zb6 a) (hb : zb6 b) : lI a % lI b = lI (a.tmod b) := by
  obtain ⟨a1, a2⟩ := ha
  obtain ⟨b1, b2⟩ := hb
  apply Int64.toInt_inj.mp
  have hab : (a.tmod b).natAbs ≤ a.natAbs := by
    rw [Int.natAbs_tmod]
    exact Nat.mod_le _ _
  rw [Int64.toInt_mod, lI_t (by omega) (by omega), lI_t (by omega) (by omega), lI_t (by omega) (by omega)]
theorem zb6_L {z : Int} (h : zb6 z) : zbL z := by
  obtain ⟨a, b⟩ := h
  exact ⟨by omega, by omega⟩
set_option maxHeartbeats 4000000 in
set_option maxRecDepth 100000 in
theorem sp_mfloor {d : Nat} {a b : Int} {M : zMI} {L : zML} {R : zMR} (ha : zb6 a) (hb : zb6 b) : Sx yX12_floor YX12_floor (d) [.long (lI a), .long (lI b)] M L R (some (.long (lI (zfl0 a b)))) M L R := by
  refine Sp.of (by decide +kernel) rfl (fun h => by first | exact h | cases h) (Nat.le_of_ble_eq_true rfl) ?_
  intro w G
  have z0 : zbL 0 := ⟨by decide, by decide⟩
  have e0 : lN 0 = lI 0 := rfl
  refine wp_lload_n (q := 1) dX12_floor_0 1 rfl rfl ?_
  refine wp_lconst (q := 2) dX12_floor_1 zq_lconst_0 rfl ?_
  rw [e0]
  refine wp_lcmp_ne (tgt := 8) (q := 6) dX12_floor_2 rfl dX12_floor_3 (by decide) rfl (fun c0 => ?_) (fun c0 => ?_)
  · skip
    have hb0 : b ≠ 0 := fun e => c0 (by rw [e])
    have h0 : ¬ lI b = 0 := c0
    rw [show zfl0 a b = Int.fdiv a b from if_neg hb0, zfdiv hb0]
    have hm : a.tmod b = 0 ↔ a.tdiv b * b = a := by
      have := Int.tdiv_mul_add_tmod a b
      omega
    have hmb : zbL (a.tmod b) := by
      obtain ⟨a1, a2⟩ := ha
      have hab : (a.tmod b).natAbs ≤ a.natAbs := by
        rw [Int.natAbs_tmod]
        exact Nat.mod_le _ _
      exact ⟨by omega, by omega⟩
    refine wp_lload_n (q := 9) dX12_floor_8 0 rfl rfl ?_
    refine wp_lload_n (q := 10) dX12_floor_9 1 rfl rfl ?_
    refine wp_ldiv (q := 11) dX12_floor_10 (by assumption) rfl ?_
    rw [lI_div ha hb]
    refine wp_lstore (q := 13) (loc' := [(4, _), (0, _), (2, _)]) dX12_floor_11 (by decide) rfl rfl ?_
    refine wp_lload_n (q := 14) dX12_floor_13 1 rfl rfl ?_
    refine wp_lload_n (q := 15) dX12_floor_14 2 rfl rfl ?_
    refine wp_lrem (q := 16) dX12_floor_15 (by assumption) rfl ?_
    rw [lI_div ha hb, lI_mul, lI_sub, show a - a.tdiv b * b = a.tmod b from by have := Int.tdiv_mul_add_tmod a b; omega]
    refine wp_lconst (q := 17) dX12_floor_16 zq_lconst_0 rfl ?_
    rw [e0]
    refine wp_lcmp_eq (tgt := 53) (q := 21) dX12_floor_17 rfl dX12_floor_18 (by decide) rfl (fun c1 => ?_) (fun c1 => ?_)
    · skip
      have hc := hm.mp ((lI_eq hmb z0).mp c1)
      rw [if_neg (fun e => e.1 hc)]
      refine wp_lload (q := 55) dX12_floor_53 0 rfl rfl ?_
      exact wp_lreturn dX12_floor_55 rfl ⟨rfl, rfl, rfl, rfl, rfl⟩ rfl rfl
    · skip
      have hc : a.tdiv b * b ≠ a := fun e => c1 (by rw [hm.mpr e])
      refine wp_lload_n (q := 22) dX12_floor_21 1 rfl rfl ?_
      refine wp_lconst (q := 23) dX12_floor_22 zq_lconst_0 rfl ?_
      rw [e0]
      refine wp_lcmp_ge (tgt := 31) (q := 27) dX12_floor_23 rfl dX12_floor_24 (by decide) rfl (fun c2 => ?_) (fun c2 => ?_)
      · skip
        have hc2 : 0 ≤ a := (lI_le z0 (zb6_L ha)).mp c2
        refine wp_iconst (q := 32) dX12_floor_31 zq_iconst_0 rfl ?_
        refine wp_lload_n (q := 33) dX12_floor_32 2 rfl rfl ?_
        refine wp_lconst (q := 34) dX12_floor_33 zq_lconst_0 rfl ?_
        rw [e0]
        refine wp_lcmp_ge (tgt := 42) (q := 38) dX12_floor_34 rfl dX12_floor_35 (by decide) rfl (fun c3 => ?_) (fun c3 => ?_)
        · skip
          have hc3 : 0 ≤ b := (lI_le z0 (zb6_L hb)).mp c3
          rw [if_neg (fun e => by omega)]
          refine wp_iconst (q := 43) dX12_floor_42 zq_iconst_0 rfl ?_
          refine wp_icmp_eqN (tgt := 53) (q := 46) dX12_floor_43 (by decide) rfl (by omega) (by omega) (fun _ => ?_) (fun hn => absurd hn (by first | omega | exact fun h => h | exact fun h => h trivial))
          refine wp_lload (q := 55) dX12_floor_53 0 rfl rfl ?_
          exact wp_lreturn dX12_floor_55 rfl ⟨rfl, rfl, rfl, rfl, rfl⟩ rfl rfl
        · skip
          have hc3 : b < 0 := Int.not_le.mp (fun e => c3 ((lI_le z0 (zb6_L hb)).mpr e))
          rw [if_pos ⟨hc, by omega⟩]
          refine wp_iconst (q := 39) dX12_floor_38 zq_iconst_1 rfl ?_
          refine wp_goto (tgt := 43) dX12_floor_39 (by decide) ?_
          refine wp_icmp_eqN (tgt := 53) (q := 46) dX12_floor_43 (by decide) rfl (by omega) (by omega) (fun hn => absurd hn (by first | omega | exact fun h => h | exact fun h => h trivial)) (fun _ => ?_)
          refine wp_lload (q := 48) dX12_floor_46 0 rfl rfl ?_
          refine wp_lconst (q := 49) dX12_floor_48 zq_lconst_1 rfl ?_
          rw [show lN 1 = lI 1 from rfl]
          refine wp_lsub (q := 50) dX12_floor_49 rfl ?_
          rw [lI_sub]
          refine wp_goto (tgt := 55) dX12_floor_50 (by decide) ?_
          exact wp_lreturn dX12_floor_55 rfl ⟨rfl, rfl, rfl, rfl, rfl⟩ rfl rfl
      · skip
        have hc2 : a < 0 := Int.not_le.mp (fun e => c2 ((lI_le z0 (zb6_L ha)).mpr e))
        refine wp_iconst (q := 28) dX12_floor_27 zq_iconst_1 rfl ?_
        refine wp_goto (tgt := 32) dX12_floor_28 (by decide) ?_
        refine wp_lload_n (q := 33) dX12_floor_32 2 rfl rfl ?_
        refine wp_lconst (q := 34) dX12_floor_33 zq_lconst_0 rfl ?_
        rw [e0]
        refine wp_lcmp_ge (tgt := 42) (q := 38) dX12_floor_34 rfl dX12_floor_35 (by decide) rfl (fun c3 => ?_) (fun c3 => ?_)
        · skip
          have hc3 : 0 ≤ b := (lI_le z0 (zb6_L hb)).mp c3
          rw [if_pos ⟨hc, by omega⟩]
          refine wp_iconst (q := 43) dX12_floor_42 zq_iconst_0 rfl ?_
          refine wp_icmp_eqN (tgt := 53) (q := 46) dX12_floor_43 (by decide) rfl (by omega) (by omega) (fun hn => absurd hn (by first | omega | exact fun h => h | exact fun h => h trivial)) (fun _ => ?_)
          refine wp_lload (q := 48) dX12_floor_46 0 rfl rfl ?_
          refine wp_lconst (q := 49) dX12_floor_48 zq_lconst_1 rfl ?_
          rw [show lN 1 = lI 1 from rfl]
          refine wp_lsub (q := 50) dX12_floor_49 rfl ?_
          rw [lI_sub]
          refine wp_goto (tgt := 55) dX12_floor_50 (by decide) ?_
          exact wp_lreturn dX12_floor_55 rfl ⟨rfl, rfl, rfl, rfl, rfl⟩ rfl rfl
        · skip
          have hc3 : b < 0 := Int.not_le.mp (fun e => c3 ((lI_le z0 (zb6_L hb)).mpr e))
          rw [if_neg (fun e => by omega)]
          refine wp_iconst (q := 39) dX12_floor_38 zq_iconst_1 rfl ?_
          refine wp_goto (tgt := 43) dX12_floor_39 (by decide) ?_
          refine wp_icmp_eqN (tgt := 53) (q := 46) dX12_floor_43 (by decide) rfl (by omega) (by omega) (fun _ => ?_) (fun hn => absurd hn (by first | omega | exact fun h => h | exact fun h => h trivial))
          refine wp_lload (q := 55) dX12_floor_53 0 rfl rfl ?_
          exact wp_lreturn dX12_floor_55 rfl ⟨rfl, rfl, rfl, rfl, rfl⟩ rfl rfl
  · skip
    rw [show zfl0 a b = 0 from if_pos ((lI_eq (zb6_L hb) z0).mp c0)]
    refine wp_lconst (q := 7) dX12_floor_6 zq_lconst_0 rfl ?_
    exact wp_lreturn dX12_floor_7 rfl ⟨rfl, rfl, rfl, rfl, rfl⟩ rfl rfl
theorem zbL_mul {a b : Int} (ha : zb6 a) (hb : zb6 b) : zbL (a * b) := by
  obtain ⟨a1, a2⟩ := ha
  obtain ⟨b1, b2⟩ := hb
  have h1 : (a * b).natAbs ≤ 1000000000000 := by
    rw [Int.natAbs_mul]
    exact Nat.le_trans (Nat.mul_le_mul (show a.natAbs ≤ 1000000 by omega) (show b.natAbs ≤ 1000000 by omega)) (Nat.le_of_ble_eq_true rfl)
  exact ⟨by omega, by omega⟩
-- the reference's pile
def zpl0 (L : zML) (o : Nat) (st : List Int) : Prop := ∀ j z, st[j]? = some z → L o (st.length - 1 - j) = lI z
theorem zpl0_push {L : zML} {o : Nat} {st : List Int} {z : Int} (h : zpl0 L o st) : zpl0 (zu L o st.length (lI z)) o (z :: st) := by
  intro j y hj
  cases j with
  | zero =>
    cases hj
    rw [show (z :: st).length - 1 - 0 = st.length from by rw [List.length_cons]; omega, zu_s]
  | succ j =>
    have hj' : st[j]? = some y := hj
    have hlt := (List.getElem?_eq_some_iff.mp hj').1
    rw [show (z :: st).length - 1 - (j + 1) = st.length - 1 - j from by rw [List.length_cons]; omega, zu_k (by omega)]
    exact h j y hj'
theorem zpl0_tl {L : zML} {o : Nat} {st : List Int} {z : Int} (h : zpl0 L o (z :: st)) : zpl0 L o st := by
  intro j y hj
  have hlt := (List.getElem?_eq_some_iff.mp hj).1
  have := h (j + 1) y hj
  rw [List.length_cons, show st.length + 1 - 1 - (j + 1) = st.length - 1 - j by omega] at this
  exact this
theorem zpl0_hd {L : zML} {o : Nat} {st : List Int} {z : Int} (h : zpl0 L o (z :: st)) : L o st.length = lI z := by
  have := h 0 z rfl
  rw [List.length_cons, show st.length + 1 - 1 - 0 = st.length by omega] at this
  exact this
set_option maxHeartbeats 4000000 in
set_option maxRecDepth 100000 in
theorem sp_mputs {d t : Nat} {z : Int} {st : List Int} {M : zMI} {L : zML} (h : zpl0 L 213 st) (hp : M 177 50 = nI st.length) (hl : st.length < 1700) : Sy yX12_puts YX12_puts (d) [.ref 177, .long (lI z)] M L (zRf t) (fun v0 M' L' R' => v0 = none ∧ R' = zRf t ∧ zpl0 L' 213 (z :: st) ∧ M' = zu M 177 50 (nI (z :: st).length) ∧ ∀ x, x ≠ 213 → L' x = L x) := by
  refine Sp.of (by decide +kernel) rfl (fun h => by first | exact h | cases h) (Nat.le_of_ble_eq_true rfl) ?_
  intro w G
  refine wp_aload_n (q := 1) dX12_puts_0 0 rfl rfl ?_
  refine wp_getR (q := 4) dX12_puts_1 zf_RX12_121 rfl zsh_177 (zr_177_49 _) rfl ?_
  refine wp_aload_n (q := 5) dX12_puts_4 0 rfl rfl ?_
  refine wp_getI (q := 8) dX12_puts_5 zf_RX12_393 rfl zsh_177 rfl ?_
  rw [hp]
  refine wp_lload_n (q := 9) dX12_puts_8 1 rfl rfl ?_
  refine wp_last (q := 10) _ dX12_puts_9 zsh_213 rfl (by omega) (by decide) rfl ?_
  refine wp_aload_n (q := 11) dX12_puts_10 0 rfl rfl ?_
  refine wp_dup (q := 12) dX12_puts_11 rfl rfl ?_
  refine wp_getI (q := 15) dX12_puts_12 zf_RX12_393 rfl zsh_177 rfl ?_
  rw [hp]
  refine wp_iconst (q := 16) dX12_puts_15 zq_iconst_1 rfl ?_
  refine wp_iaddN (q := 17) dX12_puts_16 rfl ?_
  refine wp_putI (q := 20) dX12_puts_17 zf_RX12_393 rfl zsh_177 rfl ?_
  exact wp_return dX12_puts_20 rfl ⟨rfl, ⟨rfl, rfl, zpl0_push h, rfl, fun x hx => zu_ne hx⟩⟩ rfl rfl
theorem zbin_4 (a b : Int) : zbin 4 a b = zclip (a + b) := if_pos rfl
theorem zbin_5 (a b : Int) : zbin 5 a b = zclip (a - b) := by unfold zbin; rw [if_neg (by decide), if_pos rfl]
theorem zbin_6 (a b : Int) : zbin 6 a b = zclip (a * b) := by unfold zbin; rw [if_neg (by decide), if_neg (by decide), if_pos rfl]
theorem zbin_7 (a b : Int) : zbin 7 a b = zfl0 a b := by unfold zbin zfl0; rw [if_neg (by decide), if_neg (by decide), if_neg (by decide), if_pos rfl]
theorem zbin_8 (a b : Int) : zbin 8 a b = if b < a then b else a := by unfold zbin; rw [if_neg (by decide), if_neg (by decide), if_neg (by decide), if_neg (by decide), if_pos rfl]
theorem zbin_9 (a b : Int) : zbin 9 a b = if a < b then b else a := by unfold zbin; rw [if_neg (by decide), if_neg (by decide), if_neg (by decide), if_neg (by decide), if_neg (by decide), if_pos rfl]
set_option maxHeartbeats 4000000 in
set_option maxRecDepth 100000 in
theorem sp_mjoins {d t op : Nat} {a b : Int} {st : List Int} {M : zMI} {L : zML} (h : zpl0 L 213 (b :: a :: st)) (hp : M 177 50 = nI (b :: a :: st).length) (hl : st.length < 1600) (ha : zb6 a) (hb : zb6 b) (h4 : 4 ≤ op) (h9 : op ≤ 9) : Sy yX12_joins YX12_joins (d + 1) [.ref 177, .int (nI (op - 3))] M L (zRf t) (fun v0 M' L' R' => v0 = none ∧ R' = zRf t ∧ zpl0 L' 213 (zbin op a b :: st) ∧ M' = zu (zu M 177 50 (nI st.length)) 177 50 (nI (st.length + 1)) ∧ ∀ x, x ≠ 213 → L' x = L x) := by
  refine Sp.of (by decide +kernel) rfl (fun h => by first | exact h | cases h) (Nat.le_of_ble_eq_true rfl) ?_
  intro w G
  have hl2 : (b :: a :: st).length = st.length + 2 := rfl
  have hB := zpl0_hd h
  rw [show (a :: st).length = st.length + 1 from rfl] at hB
  have hA := zpl0_hd (zpl0_tl h)
  have hS := zpl0_tl (zpl0_tl h)
  rw [hl2] at hp
  have p0 : zu M 177 50 (nI st.length) 177 50 = nI st.length := zu_s
  refine wp_aload_n (q := 1) dX12_joins_0 0 rfl rfl ?_
  refine wp_getR (q := 4) dX12_joins_1 zf_RX12_121 rfl zsh_177 (zr_177_49 _) rfl ?_
  refine wp_aload_n (q := 5) dX12_joins_4 0 rfl rfl ?_
  refine wp_getI (q := 8) dX12_joins_5 zf_RX12_393 rfl zsh_177 rfl ?_
  rw [hp]
  refine wp_iconst (q := 9) dX12_joins_8 zq_iconst_1 rfl ?_
  refine wp_isubN (q := 10) dX12_joins_9 (by omega) rfl ?_
  rw [show st.length + 2 - 1 = st.length + 1 by omega]
  refine wp_lald (q := 11) _ dX12_joins_10 zsh_213 rfl (by omega) (by decide) rfl ?_
  rw [hB]
  refine wp_lstore_n (q := 12) (loc' := [(2, _), (0, _), (1, _)]) dX12_joins_11 rfl (by decide) rfl rfl ?_
  refine wp_aload_n (q := 13) dX12_joins_12 1 rfl rfl ?_
  refine wp_getR (q := 16) dX12_joins_13 zf_RX12_121 rfl zsh_177 (zr_177_49 _) rfl ?_
  refine wp_aload_n (q := 17) dX12_joins_16 1 rfl rfl ?_
  refine wp_getI (q := 20) dX12_joins_17 zf_RX12_393 rfl zsh_177 rfl ?_
  rw [hp]
  refine wp_iconst (q := 21) dX12_joins_20 zq_iconst_2 rfl ?_
  refine wp_isubN (q := 22) dX12_joins_21 (by omega) rfl ?_
  rw [show st.length + 2 - 2 = st.length by omega]
  refine wp_lald (q := 23) _ dX12_joins_22 zsh_213 rfl (by omega) (by decide) rfl ?_
  rw [hA]
  refine wp_lstore (q := 25) (loc' := [(4, _), (2, _), (0, _), (1, _)]) dX12_joins_23 (by decide) rfl rfl ?_
  refine wp_aload_n (q := 26) dX12_joins_25 2 rfl rfl ?_
  refine wp_dup (q := 27) dX12_joins_26 rfl rfl ?_
  refine wp_getI (q := 30) dX12_joins_27 zf_RX12_393 rfl zsh_177 rfl ?_
  rw [hp]
  refine wp_iconst (q := 31) dX12_joins_30 zq_iconst_2 rfl ?_
  refine wp_isubN (q := 32) dX12_joins_31 (by omega) rfl ?_
  rw [show st.length + 2 - 2 = st.length by omega]
  refine wp_putI (q := 35) dX12_joins_32 zf_RX12_393 rfl zsh_177 rfl ?_
  refine wp_iload_n (q := 36) dX12_joins_35 3 rfl rfl ?_
  have hop : op = 4 ∨ op = 5 ∨ op = 6 ∨ op = 7 ∨ op = 8 ∨ op = 9 := by omega
  have ab := zb6_L ha
  have bb := zb6_L hb
  obtain ⟨a1, a2⟩ := id ha
  obtain ⟨b1, b2⟩ := id hb
  have hprod := zbL_mul ha hb
  rcases hop with rfl | rfl | rfl | rfl | rfl | rfl
  · skip
    refine wp_tsIn (tgt := 72) (off := 36) dX12_joins_36 (by decide) (by decide) (by rfl) (by decide) ?_
    refine wp_aload_n (q := 73) dX12_joins_72 2 rfl rfl ?_
    refine wp_lload (q := 75) dX12_joins_73 0 rfl rfl ?_
    refine wp_lload_n (q := 76) dX12_joins_75 1 rfl rfl ?_
    refine wp_ladd (q := 77) dX12_joins_76 rfl ?_
    rw [lI_add]
    refine wp_csx (q := 80) (sp_mclip (d := 0) (z := a + b) ⟨by omega, by omega⟩) zm_X12_clip zl_RX12_396 dX12_joins_77 rfl (by omega) (Nat.le_of_ble_eq_true rfl) rfl ?_
    refine wp_cvy (q := 83) (sp_mputs (d := 0) hS p0 (by omega)) zm_X12_puts zl_RX12_400 dX12_joins_80 rfl (by omega) (Nat.le_of_ble_eq_true rfl) zsh_177 rfl rfl ?_
    rintro _ _ L2 _ ⟨rfl, rfl, g1, rfl, g2⟩
    refine wp_goto (tgt := 164) dX12_joins_83 (by decide) ?_
    exact wp_return dX12_joins_164 rfl ⟨rfl, ⟨rfl, rfl, by rw [zbin_4]; exact g1, rfl, g2⟩⟩ rfl rfl
  · skip
    refine wp_tsIn (tgt := 86) (off := 50) dX12_joins_36 (by decide) (by decide) (by rfl) (by decide) ?_
    refine wp_aload_n (q := 87) dX12_joins_86 2 rfl rfl ?_
    refine wp_lload (q := 89) dX12_joins_87 0 rfl rfl ?_
    refine wp_lload_n (q := 90) dX12_joins_89 1 rfl rfl ?_
    refine wp_lsub (q := 91) dX12_joins_90 rfl ?_
    rw [lI_sub]
    refine wp_csx (q := 94) (sp_mclip (d := 0) (z := a - b) ⟨by omega, by omega⟩) zm_X12_clip zl_RX12_396 dX12_joins_91 rfl (by omega) (Nat.le_of_ble_eq_true rfl) rfl ?_
    refine wp_cvy (q := 97) (sp_mputs (d := 0) hS p0 (by omega)) zm_X12_puts zl_RX12_400 dX12_joins_94 rfl (by omega) (Nat.le_of_ble_eq_true rfl) zsh_177 rfl rfl ?_
    rintro _ _ L2 _ ⟨rfl, rfl, g1, rfl, g2⟩
    refine wp_goto (tgt := 164) dX12_joins_97 (by decide) ?_
    exact wp_return dX12_joins_164 rfl ⟨rfl, ⟨rfl, rfl, by rw [zbin_5]; exact g1, rfl, g2⟩⟩ rfl rfl
  · skip
    refine wp_tsIn (tgt := 100) (off := 64) dX12_joins_36 (by decide) (by decide) (by rfl) (by decide) ?_
    refine wp_aload_n (q := 101) dX12_joins_100 2 rfl rfl ?_
    refine wp_lload (q := 103) dX12_joins_101 0 rfl rfl ?_
    refine wp_lload_n (q := 104) dX12_joins_103 1 rfl rfl ?_
    refine wp_lmul (q := 105) dX12_joins_104 rfl ?_
    rw [lI_mul]
    refine wp_csx (q := 108) (sp_mclip (d := 0) (z := a * b) hprod) zm_X12_clip zl_RX12_396 dX12_joins_105 rfl (by omega) (Nat.le_of_ble_eq_true rfl) rfl ?_
    refine wp_cvy (q := 111) (sp_mputs (d := 0) hS p0 (by omega)) zm_X12_puts zl_RX12_400 dX12_joins_108 rfl (by omega) (Nat.le_of_ble_eq_true rfl) zsh_177 rfl rfl ?_
    rintro _ _ L2 _ ⟨rfl, rfl, g1, rfl, g2⟩
    refine wp_goto (tgt := 164) dX12_joins_111 (by decide) ?_
    exact wp_return dX12_joins_164 rfl ⟨rfl, ⟨rfl, rfl, by rw [zbin_6]; exact g1, rfl, g2⟩⟩ rfl rfl
  · skip
    refine wp_tsIn (tgt := 114) (off := 78) dX12_joins_36 (by decide) (by decide) (by rfl) (by decide) ?_
    refine wp_aload_n (q := 115) dX12_joins_114 2 rfl rfl ?_
    refine wp_lload (q := 117) dX12_joins_115 0 rfl rfl ?_
    refine wp_lload_n (q := 118) dX12_joins_117 1 rfl rfl ?_
    refine wp_csx (q := 121) (sp_mfloor (d := 0) ha hb) zm_X12_floor zl_RX12_404 dX12_joins_118 rfl (by omega) (Nat.le_of_ble_eq_true rfl) rfl ?_
    refine wp_cvy (q := 124) (sp_mputs (d := 0) hS p0 (by omega)) zm_X12_puts zl_RX12_400 dX12_joins_121 rfl (by omega) (Nat.le_of_ble_eq_true rfl) zsh_177 rfl rfl ?_
    rintro _ _ L2 _ ⟨rfl, rfl, g1, rfl, g2⟩
    refine wp_goto (tgt := 164) dX12_joins_124 (by decide) ?_
    exact wp_return dX12_joins_164 rfl ⟨rfl, ⟨rfl, rfl, by rw [zbin_7]; exact g1, rfl, g2⟩⟩ rfl rfl
  · skip
    refine wp_tsIn (tgt := 127) (off := 91) dX12_joins_36 (by decide) (by decide) (by rfl) (by decide) ?_
    refine wp_aload_n (q := 128) dX12_joins_127 2 rfl rfl ?_
    refine wp_lload (q := 130) dX12_joins_128 0 rfl rfl ?_
    refine wp_lload_n (q := 131) dX12_joins_130 1 rfl rfl ?_
    refine wp_lcmp_ge (tgt := 140) (q := 135) dX12_joins_131 rfl dX12_joins_132 (by decide) rfl (fun c => ?_) (fun c => ?_)
    · skip
      have hc : b ≤ a := (lI_le bb ab).mp c
      refine wp_lload_n (q := 141) dX12_joins_140 1 rfl rfl ?_
      refine wp_cvy (q := 144) (sp_mputs (d := 0) hS p0 (by omega)) zm_X12_puts zl_RX12_400 dX12_joins_141 rfl (by omega) (Nat.le_of_ble_eq_true rfl) zsh_177 rfl rfl ?_
      rintro _ _ L2 _ ⟨rfl, rfl, g1, rfl, g2⟩
      refine wp_goto (tgt := 164) dX12_joins_144 (by decide) ?_
      refine wp_return dX12_joins_164 rfl ⟨rfl, ⟨rfl, rfl, ?_, rfl, g2⟩⟩ rfl rfl
      rw [show zbin 8 a b = b from by rw [zbin_8]; split <;> omega]
      exact g1
    · skip
      have hc : a < b := Int.not_le.mp (fun e => c ((lI_le bb ab).mpr e))
      refine wp_lload (q := 137) dX12_joins_135 0 rfl rfl ?_
      refine wp_goto (tgt := 141) dX12_joins_137 (by decide) ?_
      refine wp_cvy (q := 144) (sp_mputs (d := 0) hS p0 (by omega)) zm_X12_puts zl_RX12_400 dX12_joins_141 rfl (by omega) (Nat.le_of_ble_eq_true rfl) zsh_177 rfl rfl ?_
      rintro _ _ L2 _ ⟨rfl, rfl, g1, rfl, g2⟩
      refine wp_goto (tgt := 164) dX12_joins_144 (by decide) ?_
      refine wp_return dX12_joins_164 rfl ⟨rfl, ⟨rfl, rfl, ?_, rfl, g2⟩⟩ rfl rfl
      rw [show zbin 8 a b = a from by rw [zbin_8]; split <;> omega]
      exact g1
  · skip
    refine wp_tsOut (tgt := 147) dX12_joins_36 (by exact Or.inr (by decide)) (by decide) ?_
    refine wp_aload_n (q := 148) dX12_joins_147 2 rfl rfl ?_
    refine wp_lload (q := 150) dX12_joins_148 0 rfl rfl ?_
    refine wp_lload_n (q := 151) dX12_joins_150 1 rfl rfl ?_
    refine wp_lcmp_le (tgt := 160) (q := 155) dX12_joins_151 rfl dX12_joins_152 (by decide) rfl (fun c => ?_) (fun c => ?_)
    · skip
      have hc : a ≤ b := (lI_le ab bb).mp c
      refine wp_lload_n (q := 161) dX12_joins_160 1 rfl rfl ?_
      refine wp_cvy (q := 164) (sp_mputs (d := 0) hS p0 (by omega)) zm_X12_puts zl_RX12_400 dX12_joins_161 rfl (by omega) (Nat.le_of_ble_eq_true rfl) zsh_177 rfl rfl ?_
      rintro _ _ L2 _ ⟨rfl, rfl, g1, rfl, g2⟩
      refine wp_return dX12_joins_164 rfl ⟨rfl, ⟨rfl, rfl, ?_, rfl, g2⟩⟩ rfl rfl
      rw [show zbin 9 a b = b from by rw [zbin_9]; split <;> omega]
      exact g1
    · skip
      have hc : b < a := Int.not_le.mp (fun e => c ((lI_le ab bb).mpr e))
      refine wp_lload (q := 157) dX12_joins_155 0 rfl rfl ?_
      refine wp_goto (tgt := 161) dX12_joins_157 (by decide) ?_
      refine wp_cvy (q := 164) (sp_mputs (d := 0) hS p0 (by omega)) zm_X12_puts zl_RX12_400 dX12_joins_161 rfl (by omega) (Nat.le_of_ble_eq_true rfl) zsh_177 rfl rfl ?_
      rintro _ _ L2 _ ⟨rfl, rfl, g1, rfl, g2⟩
      refine wp_return dX12_joins_164 rfl ⟨rfl, ⟨rfl, rfl, ?_, rfl, g2⟩⟩ rfl rfl
      rw [show zbin 9 a b = a from by rw [zbin_9]; split <;> omega]
      exact g1

