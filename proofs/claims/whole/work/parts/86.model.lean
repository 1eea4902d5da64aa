-- the reference: the code of a step, the sums of its table, the core that odds rest on
def zcd (op a : Nat) : Nat := if op = 0 then 1000 + a else if op = 1 then 7 + a else op - 3
def zMsu (M : zMI) (w : Nat) (pp : Option zFl) : Prop := match pp with
  | none => M 209 (2 + w) = -1
  | some F => ∃ f, M 209 (2 + w) = nI f ∧ M 210 (2 + w) = nI (f + F.length) ∧ f + F.length ≤ 1600 ∧ (∀ i op a, F[i]? = some (op, a) → M 211 (1600 + (f + i)) = nI (zcd op a) ∧ op ≤ 9 ∧ op ≠ 2 ∧ op ≠ 3 ∧ (op = 1 → a ≤ 5)) ∧ ztr F [] = some [false]
def zNw (M : zMI) (n : Nat) (v : Nat → Nat) : Prop := zV n v ∧ ∀ j, j < 3 + 6 * n → M 215 j = nI (v j)
def zMc (M : zMI) (n : Nat) (tb : zTb) (v : Nat → Nat) : Prop := M 204 2 = nI n ∧ zNw M n v ∧ (∀ p h, p < n → h < 2 → M 206 (56 + 7 * p + h) = nI (tb.1 p h) ∧ tb.1 p h ≤ 99) ∧ zMsu M 0 tb.2.1 ∧ zMsu M 1 tb.2.2
theorem zMsu_fr {M M' : zMI} {w : Nat} {pp : Option zFl} (h : zMsu M w pp) (e1 : M' 209 = M 209) (e2 : M' 210 = M 210) (e3 : M' 211 = M 211) : zMsu M' w pp := by
  unfold zMsu at *
  rw [e1, e2, e3]
  exact h
theorem zNw_fr {M M' : zMI} {n : Nat} {v : Nat → Nat} (h : zNw M n v) (e : M' 215 = M 215) : zNw M' n v := ⟨h.1, fun j hj => by rw [e]; exact h.2 j hj⟩
theorem zMc_fr {M M' : zMI} {n : Nat} {tb : zTb} {v : Nat → Nat} (h : zMc M n tb v) (e : ∀ x, x = 204 ∨ x = 206 ∨ x = 209 ∨ x = 210 ∨ x = 211 ∨ x = 215 → M' x = M x) : zMc M' n tb v := by
  obtain ⟨a1, a2, a3, a4, a5⟩ := h
  refine ⟨by rw [e 204 (by decide)]; exact a1, zNw_fr a2 (e 215 (by decide)), fun p h hp hh => by rw [e 206 (by decide)]; exact a3 p h hp hh, zMsu_fr a4 (e 209 (by decide)) (e 210 (by decide)) (e 211 (by decide)), zMsu_fr a5 (e 209 (by decide)) (e 210 (by decide)) (e 211 (by decide))⟩
-- the frame of what asks for odds
def zTo (M M' : zMI) (L L' : zML) : Prop := (∀ x, x ≠ 214 → x ≠ 177 → M' x = M x) ∧ (∀ k, k ≠ 50 → M' 177 k = M 177 k) ∧ ∀ x, x ≠ 213 → L' x = L x
theorem zTo_r {M : zMI} {L : zML} : zTo M M L L := ⟨fun _ _ _ => rfl, fun _ _ => rfl, fun _ _ => rfl⟩
theorem zTo_t {M M' M'' : zMI} {L L' L'' : zML} (h : zTo M M' L L') (h' : zTo M' M'' L' L'') : zTo M M'' L L'' := ⟨fun x a b => by rw [h'.1 x a b, h.1 x a b], fun k a => by rw [h'.2.1 k a, h.2.1 k a], fun x a => by rw [h'.2.2 x a, h.2.2 x a]⟩
theorem zMc_o {M M' : zMI} {L L' : zML} {n : Nat} {tb : zTb} {v : Nat → Nat} (h : zMc M n tb v) (e : zTo M M' L L') : zMc M' n tb v := zMc_fr h (fun x hx => e.1 x (by omega) (by omega))
set_option maxHeartbeats 4000000 in
set_option maxRecDepth 100000 in
theorem sp_isIn {d : Nat} {x y z : Int64} {M : zMI} {L : zML} {R : zMR} : Sx yX12_isIn YX12_isIn (d) [.long x, .long y, .long z] M L R (some (.int (if y ≤ x ∧ x ≤ z then nI 1 else nI 0))) M L R := by
  refine Sp.of (by decide +kernel) rfl (fun h => by first | exact h | cases h) (Nat.le_of_ble_eq_true rfl) ?_
  intro w G
  refine wp_lload_n (q := 1) dX12_isIn_0 0 rfl rfl ?_
  refine wp_lload_n (q := 2) dX12_isIn_1 1 rfl rfl ?_
  refine wp_lcmp_lt (tgt := 17) (q := 6) dX12_isIn_2 rfl dX12_isIn_3 (by decide) rfl (fun c0 => ?_) (fun c0 => ?_)
  · skip
    rw [if_neg (fun e => Int64.not_le.mpr c0 e.1)]
    refine wp_iconst (q := 18) dX12_isIn_17 zq_iconst_0 rfl ?_
    exact wp_zreturn dX12_isIn_18 rfl (by first | with_reducible exact znar_0 | with_reducible exact znar_1 | assumption) ⟨rfl, rfl, rfl, rfl, rfl⟩ rfl rfl
  · skip
    refine wp_lload_n (q := 7) dX12_isIn_6 0 rfl rfl ?_
    refine wp_lload (q := 9) dX12_isIn_7 2 rfl rfl ?_
    refine wp_lcmp_gt (tgt := 17) (q := 13) dX12_isIn_9 rfl dX12_isIn_10 (by decide) rfl (fun c1 => ?_) (fun c1 => ?_)
    · skip
      rw [if_neg (fun e => Int64.not_le.mpr c1 e.2)]
      refine wp_iconst (q := 18) dX12_isIn_17 zq_iconst_0 rfl ?_
      exact wp_zreturn dX12_isIn_18 rfl (by first | with_reducible exact znar_0 | with_reducible exact znar_1 | assumption) ⟨rfl, rfl, rfl, rfl, rfl⟩ rfl rfl
    · skip
      rw [if_pos ⟨Int64.not_lt.mp c0, Int64.not_lt.mp c1⟩]
      refine wp_iconst (q := 14) dX12_isIn_13 zq_iconst_1 rfl ?_
      refine wp_goto (tgt := 18) dX12_isIn_14 (by decide) ?_
      exact wp_zreturn dX12_isIn_18 rfl (by first | with_reducible exact znar_0 | with_reducible exact znar_1 | assumption) ⟨rfl, rfl, rfl, rfl, rfl⟩ rfl rfl
theorem zis {x a b : Int32} : (a.toInt64 ≤ x.toInt64 ∧ x.toInt64 ≤ b.toInt64) ↔ (a ≤ x ∧ x ≤ b) := by
  rw [Int64.le_iff_toInt_le, Int64.le_iff_toInt_le, Int32.toInt_toInt64, Int32.toInt_toInt64, Int32.toInt_toInt64, Int32.le_iff_toInt_le, Int32.le_iff_toInt_le]
-- isIn of an int, from 0 to one below m
theorem zis0 {x : Int32} {m : Nat} (hm : m < 2147483648) : (lN 0 ≤ x.toInt64 ∧ x.toInt64 ≤ (nI m - nI 1).toInt64) ↔ zin x m := by
  have e0 : lN 0 = (0 : Int32).toInt64 := rfl
  rw [e0, zis]
  have h1 : (nI m - nI 1).toInt = (m : Int) - 1 := by
    have : nI m - nI 1 = iI ((m : Int) - 1) := by rw [nI_I, nI_I, iI_sub]; rfl
    rw [this, iI_t (by omega) (by omega)]
  rw [Int32.le_iff_toInt_le (x := x), h1]
  unfold zin
  rw [Int32.lt_iff_toInt_lt, nI_toInt hm]
  constructor
  · rintro ⟨a, b⟩; exact ⟨a, by omega⟩
  · rintro ⟨a, b⟩; exact ⟨a, by omega⟩
theorem zis1 {x : Int32} {m : Nat} (hm : m < 2147483647) : (lN 0 ≤ x.toInt64 ∧ x.toInt64 ≤ lN m) ↔ zin x (m + 1) := by
  have e0 : lN 0 = (0 : Int32).toInt64 := rfl
  have e1 : lN m = (nI m).toInt64 := (nI_l (by omega)).symm
  rw [e0, e1, zis, Int32.le_iff_toInt_le (x := x), nI_toInt (by omega)]
  unfold zin
  rw [Int32.lt_iff_toInt_lt, nI_toInt (by omega)]
  constructor
  · rintro ⟨a, b⟩; exact ⟨a, by omega⟩
  · rintro ⟨a, b⟩; exact ⟨a, by omega⟩
set_option maxHeartbeats 4000000 in
set_option maxRecDepth 100000 in
theorem sp_mpm {d t n : Nat} {M : zMI} {L : zML} (hn : M 204 2 = nI n) : Sx yX12_peopleMany YX12_peopleMany (d) [.ref 177] M L (zRf t) (some (.int (nI n))) M L (zRf t) := by
  refine Sp.of (by decide +kernel) rfl (fun h => by first | exact h | cases h) (Nat.le_of_ble_eq_true rfl) ?_
  intro w G
  refine wp_aload_n (q := 1) dX12_peopleMany_0 0 rfl rfl ?_
  refine wp_getR (q := 4) dX12_peopleMany_1 zf_RX12_93 rfl zsh_177 (zr_177_35 _) rfl ?_
  refine wp_iconst (q := 5) dX12_peopleMany_4 zq_iconst_2 rfl ?_
  refine wp_iald (q := 6) _ dX12_peopleMany_5 zsh_204 rfl (by omega) (by decide) rfl ?_
  rw [hn]
  exact wp_ireturn dX12_peopleMany_6 rfl ⟨rfl, rfl, rfl, rfl, rfl⟩ rfl rfl
set_option maxHeartbeats 4000000 in
set_option maxRecDepth 100000 in
theorem sp_mcm {d t n : Nat} {M : zMI} {L : zML} (hn : M 204 2 = nI n) (h8 : n ≤ 8) : Sx yX12_crackerMany YX12_crackerMany (d + 1) [.ref 177] M L (zRf t) (some (.int (nI (if n < 2 then 0 else n)))) M L (zRf t) := by
  refine Sp.of (by decide +kernel) rfl (fun h => by first | exact h | cases h) (Nat.le_of_ble_eq_true rfl) ?_
  intro w G
  refine wp_aload_n (q := 1) dX12_crackerMany_0 0 rfl rfl ?_
  refine wp_cvx (q := 4) (sp_mpm (d := 0) hn) zm_X12_peopleMany zl_RX12_408 dX12_crackerMany_1 rfl (by omega) (Nat.le_of_ble_eq_true rfl) zsh_177 rfl rfl ?_
  refine wp_iconst (q := 5) dX12_crackerMany_4 zq_iconst_2 rfl ?_
  refine wp_icmp_geN (tgt := 12) (q := 8) dX12_crackerMany_5 (by decide) rfl (by omega) (by omega) (fun c => ?_) (fun c => ?_)
  · skip
    rw [if_neg (by omega)]
    refine wp_aload_n (q := 13) dX12_crackerMany_12 0 rfl rfl ?_
    refine wp_cvx (q := 16) (sp_mpm (d := 0) hn) zm_X12_peopleMany zl_RX12_408 dX12_crackerMany_13 rfl (by omega) (Nat.le_of_ble_eq_true rfl) zsh_177 rfl rfl ?_
    exact wp_ireturn dX12_crackerMany_16 rfl ⟨rfl, rfl, rfl, rfl, rfl⟩ rfl rfl
  · skip
    rw [if_pos c]
    refine wp_iconst (q := 9) dX12_crackerMany_8 zq_iconst_0 rfl ?_
    refine wp_goto (tgt := 16) dX12_crackerMany_9 (by decide) ?_
    exact wp_ireturn dX12_crackerMany_16 rfl ⟨rfl, rfl, rfl, rfl, rfl⟩ rfl rfl
set_option maxHeartbeats 4000000 in
set_option maxRecDepth 100000 in
theorem sp_mbm {d t n : Nat} {M : zMI} {L : zML} (hn : M 204 3 = nI n) : Sx yX12_boxMany YX12_boxMany (d) [.ref 177] M L (zRf t) (some (.int (nI n))) M L (zRf t) := by
  refine Sp.of (by decide +kernel) rfl (fun h => by first | exact h | cases h) (Nat.le_of_ble_eq_true rfl) ?_
  intro w G
  refine wp_aload_n (q := 1) dX12_boxMany_0 0 rfl rfl ?_
  refine wp_getR (q := 4) dX12_boxMany_1 zf_RX12_93 rfl zsh_177 (zr_177_35 _) rfl ?_
  refine wp_iconst (q := 5) dX12_boxMany_4 zq_iconst_3 rfl ?_
  refine wp_iald (q := 6) _ dX12_boxMany_5 zsh_204 rfl (by omega) (by decide) rfl ?_
  rw [hn]
  exact wp_ireturn dX12_boxMany_6 rfl ⟨rfl, rfl, rfl, rfl, rfl⟩ rfl rfl
set_option maxHeartbeats 4000000 in
set_option maxRecDepth 100000 in
theorem sp_misSeat {d t n : Nat} {x : Int32} {M : zMI} {L : zML} (hn : M 204 2 = nI n) (h8 : n ≤ 8) : Sx yX12_isSeat YX12_isSeat (d + 1) [.ref 177, .int x] M L (zRf t) (some (.int (if zin x n then nI 1 else nI 0))) M L (zRf t) := by
  refine Sp.of (by decide +kernel) rfl (fun h => by first | exact h | cases h) (Nat.le_of_ble_eq_true rfl) ?_
  intro w G
  refine wp_iload_n (q := 1) dX12_isSeat_0 1 rfl rfl ?_
  refine wp_i2l (q := 2) dX12_isSeat_1 rfl ?_
  refine wp_lconst (q := 3) dX12_isSeat_2 zq_lconst_0 rfl ?_
  refine wp_aload_n (q := 4) dX12_isSeat_3 0 rfl rfl ?_
  refine wp_cvx (q := 7) (sp_mpm (d := 0) hn) zm_X12_peopleMany zl_RX12_408 dX12_isSeat_4 rfl (by omega) (Nat.le_of_ble_eq_true rfl) zsh_177 rfl rfl ?_
  refine wp_iconst (q := 8) dX12_isSeat_7 zq_iconst_1 rfl ?_
  refine wp_isub (q := 9) dX12_isSeat_8 rfl ?_
  refine wp_i2l (q := 10) dX12_isSeat_9 rfl ?_
  refine wp_csx (q := 13) (sp_isIn (d := 0)) zm_X12_isIn zl_RX12_276 dX12_isSeat_10 rfl (by omega) (Nat.le_of_ble_eq_true rfl) rfl ?_
  by_cases c : zin x n
  · rw [if_pos c, if_pos ((zis0 (by omega)).mpr c)]
    exact wp_zreturn dX12_isSeat_13 rfl (by first | with_reducible exact znar_0 | with_reducible exact znar_1 | assumption) ⟨rfl, rfl, rfl, rfl, rfl⟩ rfl rfl
  · rw [if_neg c, if_neg (fun e => c ((zis0 (by omega)).mp e))]
    exact wp_zreturn dX12_isSeat_13 rfl (by first | with_reducible exact znar_0 | with_reducible exact znar_1 | assumption) ⟨rfl, rfl, rfl, rfl, rfl⟩ rfl rfl
set_option maxHeartbeats 4000000 in
set_option maxRecDepth 100000 in
theorem sp_misHand {d : Nat} {x : Int32} {M : zMI} {L : zML} {R : zMR} : Sx yX12_isHand YX12_isHand (d) [.ref 177, .int x] M L R (some (.int (if zin x 2 then nI 1 else nI 0))) M L R := by
  refine Sp.of (by decide +kernel) rfl (fun h => by first | exact h | cases h) (Nat.le_of_ble_eq_true rfl) ?_
  intro w G
  refine wp_iload_n (q := 1) dX12_isHand_0 1 rfl rfl ?_
  refine wp_if_eq (tgt := 9) (q := 4) dX12_isHand_1 (by decide) rfl (fun h0 => ?_) (fun h0 => ?_)
  · skip
    rw [if_pos (zin01.mp (Or.inl h0))]
    refine wp_iconst (q := 10) dX12_isHand_9 zq_iconst_1 rfl ?_
    refine wp_goto (tgt := 14) dX12_isHand_10 (by decide) ?_
    exact wp_zreturn dX12_isHand_14 rfl (by first | with_reducible exact znar_0 | with_reducible exact znar_1 | assumption) ⟨rfl, rfl, rfl, rfl, rfl⟩ rfl rfl
  · skip
    refine wp_iload_n (q := 5) dX12_isHand_4 1 rfl rfl ?_
    refine wp_iconst (q := 6) dX12_isHand_5 zq_iconst_1 rfl ?_
    refine wp_icmp_ne (tgt := 13) (q := 9) dX12_isHand_6 (by decide) rfl (fun h1 => ?_) (fun h1 => ?_)
    · skip
      rw [if_neg (fun c => (zin01.mpr c).elim h0 h1)]
      refine wp_iconst (q := 14) dX12_isHand_13 zq_iconst_0 rfl ?_
      exact wp_zreturn dX12_isHand_14 rfl (by first | with_reducible exact znar_0 | with_reducible exact znar_1 | assumption) ⟨rfl, rfl, rfl, rfl, rfl⟩ rfl rfl
    · skip
      rw [if_pos (zin01.mp (Or.inr h1))]
      refine wp_iconst (q := 10) dX12_isHand_9 zq_iconst_1 rfl ?_
      refine wp_goto (tgt := 14) dX12_isHand_10 (by decide) ?_
      exact wp_zreturn dX12_isHand_14 rfl (by first | with_reducible exact znar_0 | with_reducible exact znar_1 | assumption) ⟨rfl, rfl, rfl, rfl, rfl⟩ rfl rfl
set_option maxHeartbeats 4000000 in
set_option maxRecDepth 100000 in
theorem sp_mwho {d t n s : Nat} {M : zMI} {L : zML} {v : Nat → Nat} (h : zNw M n v) (hs : s < n) : Sx yX12_whoAt YX12_whoAt (d) [.ref 177, .int (nI s)] M L (zRf t) (some (.int (nI (wh v s)))) M L (zRf t) := by
  refine Sp.of (by decide +kernel) rfl (fun h => by first | exact h | cases h) (Nat.le_of_ble_eq_true rfl) ?_
  intro w G
  have h8 := h.1.1
  refine wp_aload_n (q := 1) dX12_whoAt_0 0 rfl rfl ?_
  refine wp_getR (q := 4) dX12_whoAt_1 zf_RX12_127 rfl zsh_177 (zr_177_52 _) rfl ?_
  refine wp_iconst (q := 5) dX12_whoAt_4 zq_iconst_3 rfl ?_
  refine wp_bipush (q := 7) dX12_whoAt_5 zq_bipush_6 rfl ?_
  refine wp_iload_n (q := 8) dX12_whoAt_7 1 rfl rfl ?_
  refine wp_imulN (q := 9) dX12_whoAt_8 rfl ?_
  refine wp_iaddN (q := 10) dX12_whoAt_9 rfl ?_
  refine wp_iald (q := 11) _ dX12_whoAt_10 zsh_215 rfl (by omega) (by decide) rfl ?_
  rw [h.2 _ (by omega)]
  exact wp_ireturn dX12_whoAt_11 rfl ⟨rfl, rfl, rfl, rfl, rfl⟩ rfl rfl
set_option maxHeartbeats 4000000 in
set_option maxRecDepth 100000 in
theorem sp_mhats {d t n s : Nat} {M : zMI} {L : zML} {v : Nat → Nat} (h : zNw M n v) (hs : s < n) : Sx yX12_hatsOf YX12_hatsOf (d) [.ref 177, .int (nI s)] M L (zRf t) (some (.int (nI (ht v s)))) M L (zRf t) := by
  refine Sp.of (by decide +kernel) rfl (fun h => by first | exact h | cases h) (Nat.le_of_ble_eq_true rfl) ?_
  intro w G
  have h8 := h.1.1
  refine wp_aload_n (q := 1) dX12_hatsOf_0 0 rfl rfl ?_
  refine wp_getR (q := 4) dX12_hatsOf_1 zf_RX12_127 rfl zsh_177 (zr_177_52 _) rfl ?_
  refine wp_iconst (q := 5) dX12_hatsOf_4 zq_iconst_3 rfl ?_
  refine wp_bipush (q := 7) dX12_hatsOf_5 zq_bipush_6 rfl ?_
  refine wp_iload_n (q := 8) dX12_hatsOf_7 1 rfl rfl ?_
  refine wp_imulN (q := 9) dX12_hatsOf_8 rfl ?_
  refine wp_iaddN (q := 10) dX12_hatsOf_9 rfl ?_
  refine wp_iconst (q := 11) dX12_hatsOf_10 zq_iconst_1 rfl ?_
  refine wp_iaddN (q := 12) dX12_hatsOf_11 rfl ?_
  refine wp_iald (q := 13) _ dX12_hatsOf_12 zsh_215 rfl (by omega) (by decide) rfl ?_
  rw [h.2 _ (by omega), show 3 + 6 * s + 1 = 4 + 6 * s by omega]
  exact wp_ireturn dX12_hatsOf_13 rfl ⟨rfl, rfl, rfl, rfl, rfl⟩ rfl rfl
set_option maxHeartbeats 4000000 in
set_option maxRecDepth 100000 in
theorem sp_mgrip {d t n s hd : Nat} {M : zMI} {L : zML} {v : Nat → Nat} (h : zNw M n v) (hs : s < n) (hh : hd < 2) : Sx yX12_gripOf YX12_gripOf (d) [.ref 177, .int (nI s), .int (nI hd)] M L (zRf t) (some (.int (nI (gr v s hd)))) M L (zRf t) := by
  refine Sp.of (by decide +kernel) rfl (fun h => by first | exact h | cases h) (Nat.le_of_ble_eq_true rfl) ?_
  intro w G
  have h8 := h.1.1
  refine wp_aload_n (q := 1) dX12_gripOf_0 0 rfl rfl ?_
  refine wp_getR (q := 4) dX12_gripOf_1 zf_RX12_127 rfl zsh_177 (zr_177_52 _) rfl ?_
  refine wp_iconst (q := 5) dX12_gripOf_4 zq_iconst_3 rfl ?_
  refine wp_bipush (q := 7) dX12_gripOf_5 zq_bipush_6 rfl ?_
  refine wp_iload_n (q := 8) dX12_gripOf_7 1 rfl rfl ?_
  refine wp_imulN (q := 9) dX12_gripOf_8 rfl ?_
  refine wp_iaddN (q := 10) dX12_gripOf_9 rfl ?_
  refine wp_iconst (q := 11) dX12_gripOf_10 zq_iconst_2 rfl ?_
  refine wp_iaddN (q := 12) dX12_gripOf_11 rfl ?_
  refine wp_iconst (q := 13) dX12_gripOf_12 zq_iconst_2 rfl ?_
  refine wp_iload_n (q := 14) dX12_gripOf_13 2 rfl rfl ?_
  refine wp_imulN (q := 15) dX12_gripOf_14 rfl ?_
  refine wp_iaddN (q := 16) dX12_gripOf_15 rfl ?_
  refine wp_iald (q := 17) _ dX12_gripOf_16 zsh_215 rfl (by omega) (by decide) rfl ?_
  rw [h.2 _ (by omega), show 3 + 6 * s + 2 + 2 * hd = 5 + 6 * s + 2 * hd by omega]
  exact wp_ireturn dX12_gripOf_17 rfl ⟨rfl, rfl, rfl, rfl, rfl⟩ rfl rfl
set_option maxHeartbeats 4000000 in
set_option maxRecDepth 100000 in
theorem sp_mlow {d t n s hd : Nat} {M : zMI} {L : zML} {v : Nat → Nat} (h : zNw M n v) (hs : s < n) (hh : hd < 2) : Sx yX12_lowOf YX12_lowOf (d) [.ref 177, .int (nI s), .int (nI hd)] M L (zRf t) (some (.int (nI (lw v s hd)))) M L (zRf t) := by
  refine Sp.of (by decide +kernel) rfl (fun h => by first | exact h | cases h) (Nat.le_of_ble_eq_true rfl) ?_
  intro w G
  have h8 := h.1.1
  refine wp_aload_n (q := 1) dX12_lowOf_0 0 rfl rfl ?_
  refine wp_getR (q := 4) dX12_lowOf_1 zf_RX12_127 rfl zsh_177 (zr_177_52 _) rfl ?_
  refine wp_iconst (q := 5) dX12_lowOf_4 zq_iconst_3 rfl ?_
  refine wp_bipush (q := 7) dX12_lowOf_5 zq_bipush_6 rfl ?_
  refine wp_iload_n (q := 8) dX12_lowOf_7 1 rfl rfl ?_
  refine wp_imulN (q := 9) dX12_lowOf_8 rfl ?_
  refine wp_iaddN (q := 10) dX12_lowOf_9 rfl ?_
  refine wp_iconst (q := 11) dX12_lowOf_10 zq_iconst_3 rfl ?_
  refine wp_iaddN (q := 12) dX12_lowOf_11 rfl ?_
  refine wp_iconst (q := 13) dX12_lowOf_12 zq_iconst_2 rfl ?_
  refine wp_iload_n (q := 14) dX12_lowOf_13 2 rfl rfl ?_
  refine wp_imulN (q := 15) dX12_lowOf_14 rfl ?_
  refine wp_iaddN (q := 16) dX12_lowOf_15 rfl ?_
  refine wp_iald (q := 17) _ dX12_lowOf_16 zsh_215 rfl (by omega) (by decide) rfl ?_
  rw [h.2 _ (by omega), show 3 + 6 * s + 3 + 2 * hd = 6 + 6 * s + 2 * hd by omega]
  exact wp_ireturn dX12_lowOf_17 rfl ⟨rfl, rfl, rfl, rfl, rfl⟩ rfl rfl
set_option maxHeartbeats 4000000 in
set_option maxRecDepth 100000 in
theorem sp_marm {d t n s hd : Nat} {M : zMI} {L : zML} {tb : zTb} {v : Nat → Nat} (h : zMc M n tb v) (hs : s < n) (hh : hd < 2) : Sx yX12_armOf YX12_armOf (d + 1) [.ref 177, .int (nI s), .int (nI hd)] M L (zRf t) (some (.int (nI (tb.1 (wh v s) hd)))) M L (zRf t) := by
  refine Sp.of (by decide +kernel) rfl (fun h => by first | exact h | cases h) (Nat.le_of_ble_eq_true rfl) ?_
  intro w G
  have h8 := h.2.1.1.1
  have hw := h.2.1.1.2.1 s hs
  refine wp_aload_n (q := 1) dX12_armOf_0 0 rfl rfl ?_
  refine wp_getR (q := 4) dX12_armOf_1 zf_RX12_100 rfl zsh_177 (zr_177_37 _) rfl ?_
  refine wp_bipush (q := 6) dX12_armOf_4 zq_bipush_56 rfl ?_
  refine wp_bipush (q := 8) dX12_armOf_6 zq_bipush_7 rfl ?_
  refine wp_aload_n (q := 9) dX12_armOf_8 0 rfl rfl ?_
  refine wp_iload_n (q := 10) dX12_armOf_9 1 rfl rfl ?_
  refine wp_cvx (q := 13) (sp_mwho (d := 0) h.2.1 hs) zm_X12_whoAt zl_RX12_411 dX12_armOf_10 rfl (by omega) (Nat.le_of_ble_eq_true rfl) zsh_177 rfl rfl ?_
  refine wp_imulN (q := 14) dX12_armOf_13 rfl ?_
  refine wp_iaddN (q := 15) dX12_armOf_14 rfl ?_
  refine wp_iload_n (q := 16) dX12_armOf_15 2 rfl rfl ?_
  refine wp_iaddN (q := 17) dX12_armOf_16 rfl ?_
  refine wp_iald (q := 18) _ dX12_armOf_17 zsh_206 rfl (by omega) (by decide) rfl ?_
  rw [(h.2.2.1 _ _ hw hh).1]
  exact wp_ireturn dX12_armOf_18 rfl ⟨rfl, rfl, rfl, rfl, rfl⟩ rfl rfl
set_option maxHeartbeats 4000000 in
set_option maxRecDepth 100000 in
theorem sp_mahead {d t n s : Nat} {M : zMI} {L : zML} (hn : M 204 2 = nI n) (h8 : n ≤ 8) (hs : s < n) : Sx yX12_ahead YX12_ahead (d + 1) [.ref 177, .int (nI s)] M L (zRf t) (some (.int (nI ((s + 1) % n)))) M L (zRf t) := by
  refine Sp.of (by decide +kernel) rfl (fun h => by first | exact h | cases h) (Nat.le_of_ble_eq_true rfl) ?_
  intro w G
  refine wp_iload_n (q := 1) dX12_ahead_0 1 rfl rfl ?_
  refine wp_iconst (q := 2) dX12_ahead_1 zq_iconst_1 rfl ?_
  refine wp_iaddN (q := 3) dX12_ahead_2 rfl ?_
  refine wp_aload_n (q := 4) dX12_ahead_3 0 rfl rfl ?_
  refine wp_cvx (q := 7) (sp_mpm (d := 0) hn) zm_X12_peopleMany zl_RX12_408 dX12_ahead_4 rfl (by omega) (Nat.le_of_ble_eq_true rfl) zsh_177 rfl rfl ?_
  refine wp_iremN (q := 8) dX12_ahead_7 (by omega) (by omega) (by omega) rfl ?_
  exact wp_ireturn dX12_ahead_8 rfl ⟨rfl, rfl, rfl, rfl, rfl⟩ rfl rfl
set_option maxHeartbeats 4000000 in
set_option maxRecDepth 100000 in
theorem sp_mbehind {d t n s : Nat} {M : zMI} {L : zML} (hn : M 204 2 = nI n) (h8 : n ≤ 8) (hs : s < n) : Sx yX12_behind YX12_behind (d + 1) [.ref 177, .int (nI s)] M L (zRf t) (some (.int (nI ((s + n - 1) % n)))) M L (zRf t) := by
  refine Sp.of (by decide +kernel) rfl (fun h => by first | exact h | cases h) (Nat.le_of_ble_eq_true rfl) ?_
  intro w G
  refine wp_iload_n (q := 1) dX12_behind_0 1 rfl rfl ?_
  refine wp_aload_n (q := 2) dX12_behind_1 0 rfl rfl ?_
  refine wp_cvx (q := 5) (sp_mpm (d := 0) hn) zm_X12_peopleMany zl_RX12_408 dX12_behind_2 rfl (by omega) (Nat.le_of_ble_eq_true rfl) zsh_177 rfl rfl ?_
  refine wp_iaddN (q := 6) dX12_behind_5 rfl ?_
  refine wp_iconst (q := 7) dX12_behind_6 zq_iconst_1 rfl ?_
  refine wp_isubN (q := 8) dX12_behind_7 (by omega) rfl ?_
  refine wp_aload_n (q := 9) dX12_behind_8 0 rfl rfl ?_
  refine wp_cvx (q := 12) (sp_mpm (d := 0) hn) zm_X12_peopleMany zl_RX12_408 dX12_behind_9 rfl (by omega) (Nat.le_of_ble_eq_true rfl) zsh_177 rfl rfl ?_
  refine wp_iremN (q := 13) dX12_behind_12 (by omega) (by omega) (by omega) rfl ?_
  exact wp_ireturn dX12_behind_13 rfl ⟨rfl, rfl, rfl, rfl, rfl⟩ rfl rfl
set_option maxHeartbeats 4000000 in
set_option maxRecDepth 100000 in
theorem sp_mclip {d : Nat} {z : Int} {M : zMI} {L : zML} {R : zMR} (hz : zbL z) : Sx yX12_clip YX12_clip (d) [.long (lI z)] M L R (some (.long (lI (zclip z)))) M L R := by
  refine Sp.of (by decide +kernel) rfl (fun h => by first | exact h | cases h) (Nat.le_of_ble_eq_true rfl) ?_
  intro w G
  have b6 : zbL 1000000 := ⟨by decide, by decide⟩
  have m6 : zbL (-1000000) := ⟨by decide, by decide⟩
  refine wp_lload_n (q := 1) dX12_clip_0 0 rfl rfl ?_
  refine wp_ldc2_w (q := 4) dX12_clip_1 zk_RX12_389 rfl ?_
  rw [show (1000000 : Int64) = lI 1000000 from rfl]
  refine wp_lcmp_le (tgt := 14) (q := 8) dX12_clip_4 rfl dX12_clip_5 (by decide) rfl (fun c0 => ?_) (fun c0 => ?_)
  · skip
    have c0' := (lI_le hz b6).mp c0
    refine wp_lload_n (q := 15) dX12_clip_14 0 rfl rfl ?_
    refine wp_ldc2_w (q := 18) dX12_clip_15 zk_RX12_391 rfl ?_
    rw [show (-1000000 : Int64) = lI (-1000000) from rfl]
    refine wp_lcmp_ge (tgt := 28) (q := 22) dX12_clip_18 rfl dX12_clip_19 (by decide) rfl (fun c1 => ?_) (fun c1 => ?_)
    · skip
      have c1' := (lI_le m6 hz).mp c1
      rw [show zclip z = z from by unfold zclip; rw [if_neg (by omega), if_neg (by omega)]]
      refine wp_lload_n (q := 29) dX12_clip_28 0 rfl rfl ?_
      exact wp_lreturn dX12_clip_29 rfl ⟨rfl, rfl, rfl, rfl, rfl⟩ rfl rfl
    · skip
      have c1' : z < -1000000 := Int.not_le.mp (fun e => c1 ((lI_le m6 hz).mpr e))
      rw [show zclip z = -1000000 from by unfold zclip; rw [if_neg (by omega), if_pos (by omega)]]
      refine wp_ldc2_w (q := 25) dX12_clip_22 zk_RX12_391 rfl ?_
      refine wp_goto (tgt := 29) dX12_clip_25 (by decide) ?_
      exact wp_lreturn dX12_clip_29 rfl ⟨rfl, rfl, rfl, rfl, rfl⟩ rfl rfl
  · skip
    have c0' : 1000000 < z := Int.not_le.mp (fun e => c0 ((lI_le hz b6).mpr e))
    rw [show zclip z = 1000000 from by unfold zclip; rw [if_pos (by omega)]]
    refine wp_ldc2_w (q := 11) dX12_clip_8 zk_RX12_389 rfl ?_
    refine wp_goto (tgt := 29) dX12_clip_11 (by decide) ?_
    exact wp_lreturn dX12_clip_29 rfl ⟨rfl, rfl, rfl, rfl, rfl⟩ rfl rfl

