theorem zland (y : Int32) : ∃ c, c < 32 ∧ y &&& nI 31 = nI c := by
  refine ⟨y.toBitVec.toNat % 32, Nat.mod_lt _ (by decide), ?_⟩
  apply Int32.toBitVec_inj.mp
  show y.toBitVec &&& BitVec.ofNat 32 31 = BitVec.ofNat 32 (y.toBitVec.toNat % 32)
  apply BitVec.eq_of_toNat_eq
  rw [BitVec.toNat_and, BitVec.toNat_ofNat, BitVec.toNat_ofNat]
  have h1 := Nat.and_two_pow_sub_one_eq_mod y.toBitVec.toNat 5
  have h2 : 31 % 2 ^ 32 = 2 ^ 5 - 1 := by decide
  rw [h2, h1]
  show y.toBitVec.toNat % 32 = y.toBitVec.toNat % 32 % 4294967296
  omega
theorem zlgt {L0 a : Nat} (hL : L0 ≤ 3072) (ha : a < 2147483648) (h : ¬ nI L0 - nI 6 < nI a) : a + 6 ≤ L0 := by
  by_cases c : 6 ≤ L0
  · have e : nI L0 = nI (L0 - 6) + nI 6 := by rw [nI_add]; congr 1; omega
    rw [e, Int32.add_sub_cancel] at h
    have := zp_nlt (by omega) ha h
    omega
  · exfalso
    apply h
    have h0 : (0 : Int32) ≤ nI a := nI_pos' ha
    have h1 : nI L0 - nI 6 < 0 := by
      rcases (by omega : L0 = 0 ∨ L0 = 1 ∨ L0 = 2 ∨ L0 = 3 ∨ L0 = 4 ∨ L0 = 5) with rfl | rfl | rfl | rfl | rfl | rfl <;> decide
    rw [Int32.lt_iff_toInt_lt] at h1 ⊢
    rw [Int32.le_iff_toInt_le] at h0
    omega
section
variable {w : zWo} {G : zG} {M : zMI} {L : zML} {R : zMR} {L0 a : Nat} {xs : Nat → Int32}
theorem lc_all {c : Nat} (hc : c < 32) (hX : zXs w G L0 xs) (ha : a + 6 ≤ L0) (hT : zTie M L R) (k : ∀ (M2 : zMI) (L2 : zML) (R2 : zMR), zTie M2 L2 R2 → WP w YL_law BL G none 1043 (lloc a) [] SS M2 L2 R2) : WP w YL_law BL G none 33 (lloc a) [.int (nI c)] SS M L R := by
  match c, hc with
  | 0, _ => exact wp_tsIn (off := 143) (tgt := 176) dL_law_33 (by decide) (by decide) rfl rfl (lc_feed hX ha hT k)
  | 1, _ => exact wp_tsIn (off := 206) (tgt := 239) dL_law_33 (by decide) (by decide) rfl rfl (lc_end hX ha hT k)
  | 2, _ => exact wp_tsIn (off := 229) (tgt := 262) dL_law_33 (by decide) (by decide) rfl rfl (lc_table hX ha hT k)
  | 3, _ => exact wp_tsIn (off := 242) (tgt := 275) dL_law_33 (by decide) (by decide) rfl rfl (lc_fault hX ha hT k)
  | 4, _ => exact wp_tsIn (off := 265) (tgt := 298) dL_law_33 (by decide) (by decide) rfl rfl (lc_has hX ha hT k)
  | 5, _ => exact wp_tsIn (off := 288) (tgt := 321) dL_law_33 (by decide) (by decide) rfl rfl (lc_letter hX ha hT k)
  | 6, _ => exact wp_tsIn (off := 331) (tgt := 364) dL_law_33 (by decide) (by decide) rfl rfl (lc_seat hX ha hT k)
  | 7, _ => exact wp_tsIn (off := 364) (tgt := 397) dL_law_33 (by decide) (by decide) rfl rfl (lc_box hX ha hT k)
  | 8, _ => exact wp_tsIn (off := 387) (tgt := 420) dL_law_33 (by decide) (by decide) rfl rfl (lc_cracker hX ha hT k)
  | 9, _ => exact wp_tsIn (off := 420) (tgt := 453) dL_law_33 (by decide) (by decide) rfl rfl (lc_odds hX ha hT k)
  | 10, _ => exact wp_tsIn (off := 453) (tgt := 486) dL_law_33 (by decide) (by decide) rfl rfl (lc_mean hX ha hT k)
  | 11, _ => exact wp_tsIn (off := 476) (tgt := 509) dL_law_33 (by decide) (by decide) rfl rfl (lc_most hX ha hT k)
  | 12, _ => exact wp_tsIn (off := 489) (tgt := 522) dL_law_33 (by decide) (by decide) rfl rfl (lc_seats hX ha hT k)
  | 13, _ => exact wp_tsIn (off := 512) (tgt := 545) dL_law_33 (by decide) (by decide) rfl rfl (lc_best hX ha hT k)
  | 14, _ => exact wp_tsIn (off := 555) (tgt := 588) dL_law_33 (by decide) (by decide) rfl rfl (lc_rests hX ha hT k)
  | 15, _ => exact wp_tsIn (off := 588) (tgt := 621) dL_law_33 (by decide) (by decide) rfl rfl (lc_thumb hX ha hT k)
  | 16, _ => exact wp_tsIn (off := 641) (tgt := 674) dL_law_33 (by decide) (by decide) rfl rfl (lc_duds hX ha hT k)
  | 17, _ => exact wp_tsIn (off := 684) (tgt := 717) dL_law_33 (by decide) (by decide) rfl rfl (lc_pairs hX ha hT k)
  | 18, _ => exact wp_tsIn (off := 697) (tgt := 730) dL_law_33 (by decide) (by decide) rfl rfl (lc_gifts hX ha hT k)
  | 19, _ => exact wp_tsIn (off := 710) (tgt := 743) dL_law_33 (by decide) (by decide) rfl rfl (lc_left hX ha hT k)
  | 20, _ => exact wp_tsIn (off := 733) (tgt := 766) dL_law_33 (by decide) (by decide) rfl rfl (lc_dine hX ha hT k)
  | 21, _ => exact wp_tsIn (off := 756) (tgt := 789) dL_law_33 (by decide) (by decide) rfl rfl (lc_hold hX ha hT k)
  | 22, _ => exact wp_tsIn (off := 809) (tgt := 842) dL_law_33 (by decide) (by decide) rfl rfl (lc_give hX ha hT k)
  | 23, _ => exact wp_tsIn (off := 842) (tgt := 875) dL_law_33 (by decide) (by decide) rfl rfl (lc_pass hX ha hT k)
  | 24, _ => exact wp_tsIn (off := 855) (tgt := 888) dL_law_33 (by decide) (by decide) rfl rfl (lc_change hX ha hT k)
  | 25, _ => exact wp_tsIn (off := 888) (tgt := 921) dL_law_33 (by decide) (by decide) rfl rfl (lc_undo hX ha hT k)
  | 26, _ => exact wp_tsIn (off := 901) (tgt := 934) dL_law_33 (by decide) (by decide) rfl rfl (lc_seed hX ha hT k)
  | 27, _ => exact wp_tsIn (off := 924) (tgt := 957) dL_law_33 (by decide) (by decide) rfl rfl (lc_ask hX ha hT k)
  | 28, _ => exact wp_tsIn (off := 938) (tgt := 971) dL_law_33 (by decide) (by decide) rfl rfl (lc_image hX ha hT k)
  | 29, _ => exact wp_tsIn (off := 951) (tgt := 984) dL_law_33 (by decide) (by decide) rfl rfl (lc_octet hX ha hT k)
  | 30, _ => exact wp_tsIn (off := 974) (tgt := 1007) dL_law_33 (by decide) (by decide) rfl rfl (lc_restore hX ha hT k)
  | 31, _ => exact wp_tsIn (off := 987) (tgt := 1020) dL_law_33 (by decide) (by decide) rfl rfl (lc_status hX ha hT k)
  | c + 32, h => exact absurd h (by omega)
theorem wp_lend {b0 : Nat} (hA : G.2.2.2.2.2.2.1 = #[.ref b0]) (hR : G.2.2.2.1 = room_1) : WP w YL_law BL G none 1050 (lloc a) [.int 1] SS M L R := by
  obtain ⟨p, l, e, Rm, s, m, args, below, meth, c⟩ := G
  cases hA
  cases hR
  intro F h1 h2 H ls locs hP hS hl
  obtain ⟨hx, hb, hml, ho, hts, hlk, hrt, hK, hST, hsz, hfr, hlo, hce, hse, hin⟩ := id F
  refine va_forget (fun q hq => ?_) ?_
  · have h3 : w.1 ≤ q.base := hS.2.2 q hq
    have h4 : s.heap.size = w.1 + 0 := hsz
    omega
  refine W.widen (k := 600000) (n := 7302250) (Nat.le_trans (Nat.sub_le _ _) (by rw [zlen_SS]; decide)) (Nat.le_trans (Nat.sub_le _ _) zsl_SS) ?_
  exact lw_ret hx hb hrt hlk dL_law_1050
theorem wp_loop {b0 : Nat} (hA : G.2.2.2.2.2.2.1 = #[.ref b0]) (hR : G.2.2.2.1 = room_1) (hX : zXs w G L0 xs) : ∀ (n a : Nat) (M : zMI) (L : zML) (R : zMR), L0 - a ≤ n → a ≤ L0 → zTie M L R → WP w YL_law BL G none 18 (lloc a) [] SS M L R := by
  intro n
  have hL := hX.2.2.2
  induction n with
  | zero =>
    intro a M L R hn ha hT
    refine wp_iload_n (k := 3) dL_law_18 0 rfl rfl ?_
    refine wp_aload_nS (k := 0) dL_law_19 3 rfl rfl ?_
    refine wp_slen hX dL_law_20 rfl ?_
    refine wp_bipush (v := nI 6) dL_law_21 rfl rfl ?_
    refine wp_isub dL_law_23 rfl ?_
    refine wp_icmp_gt (tgt := 1049) dL_law_24 rfl rfl (fun _ => ?_) (fun h => ?_)
    · refine wp_iconst (v := 1) dL_law_1049 rfl rfl ?_
      exact wp_lend hA hR
    · have := zlgt hL (by omega) h
      omega
  | succ n ih =>
    intro a M L R hn ha hT
    refine wp_iload_n (k := 3) dL_law_18 0 rfl rfl ?_
    refine wp_aload_nS (k := 0) dL_law_19 3 rfl rfl ?_
    refine wp_slen hX dL_law_20 rfl ?_
    refine wp_bipush (v := nI 6) dL_law_21 rfl rfl ?_
    refine wp_isub dL_law_23 rfl ?_
    refine wp_icmp_gt (tgt := 1049) dL_law_24 rfl rfl (fun _ => ?_) (fun h => ?_)
    · refine wp_iconst (v := 1) dL_law_1049 rfl rfl ?_
      exact wp_lend hA hR
    · have h6 := zlgt hL (by omega) h
      refine wp_aload_nS (k := 0) dL_law_27 3 rfl rfl ?_
      refine wp_iload_n (k := 3) dL_law_28 0 rfl rfl ?_
      refine wp_sld hX (vp_in_nI (by omega) (by omega)) dL_law_29 rfl ?_
      refine wp_bipush (v := nI 31) dL_law_30 rfl rfl ?_
      refine wp_iand dL_law_32 rfl ?_
      obtain ⟨c, hc, e⟩ := zland (xs (nI a).toNatClampNeg)
      rw [e]
      refine lc_all hc hX h6 hT (fun M2 L2 R2 hT2 => ?_)
      refine wp_iincN (n := 6) (loc' := lloc (a + 6)) dL_law_1043 rfl 0 rfl (by decide) rfl rfl ?_
      refine wp_goto (tgt := 18) dL_law_1046 rfl ?_
      exact ih (a + 6) M2 L2 R2 (by omega) h6 hT2
end

