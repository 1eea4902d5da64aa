def zfH (w : Nat) : Nat := if w = 13 then 0 else if w = 14 then 1 else if w = 15 then 2 else if w = 4 then 3 else if w = 5 then 4 else if w = 6 then 5 else 99
def zfP (w : Nat) : Nat := if w = 16 then 0 else if w = 1 then 1 else if w = 2 then 2 else if w = 9 then 3 else if w = 6 then 4 else 99
theorem zwd_t (w : Nat) : (zwd w).toInt = if w < 30 then (w : Int) else -1 := by
  unfold zwd
  split
  · exact nI_toInt (by omega)
  · rfl
set_option maxHeartbeats 4000000 in
set_option maxRecDepth 100000 in
theorem sp_factOfHand {d y : Nat} {M : zMI} {L : zML} {R : zMR} : Sx yX8_factOfHand YX8_factOfHand (d) [.int (zwd y)] M L R (some (.int (zwd (zfH y)))) M L R := by
  refine Sp.of (by decide +kernel) rfl (fun h => by first | exact h | cases h) (Nat.le_of_ble_eq_true rfl) ?_
  intro w G
  refine wp_iload_n (q := 1) dX8_factOfHand_0 0 rfl rfl ?_
  by_cases ho : y < 4 ∨ 15 < y
  · skip
    refine wp_tsOut (tgt := 76) dX8_factOfHand_1 (by rw [zwd_t]; split <;> omega) (by decide) ?_
    have e : zfH y = 99 := by
      unfold zfH
      repeat rw [if_neg (by omega)]
    rw [e]
    refine wp_iconst (q := 77) dX8_factOfHand_76 zq_iconst_m1 rfl ?_
    exact wp_ireturn dX8_factOfHand_77 rfl ⟨rfl, rfl, rfl, rfl, rfl⟩ rfl rfl
  · have hw : y = 4 ∨ y = 5 ∨ y = 6 ∨ y = 7 ∨ y = 8 ∨ y = 9 ∨ y = 10 ∨ y = 11 ∨ y = 12 ∨ y = 13 ∨ y = 14 ∨ y = 15 := by omega
    rcases hw with rfl | rfl | rfl | rfl | rfl | rfl | rfl | rfl | rfl | rfl | rfl | rfl
    · skip
      refine wp_tsIn (tgt := 70) (off := 69) dX8_factOfHand_1 (by decide) (by decide) (by rfl) (by decide) ?_
      refine wp_iconst (q := 71) dX8_factOfHand_70 zq_iconst_3 rfl ?_
      exact wp_ireturn dX8_factOfHand_71 rfl ⟨rfl, rfl, rfl, rfl, rfl⟩ rfl rfl
    · skip
      refine wp_tsIn (tgt := 72) (off := 71) dX8_factOfHand_1 (by decide) (by decide) (by rfl) (by decide) ?_
      refine wp_iconst (q := 73) dX8_factOfHand_72 zq_iconst_4 rfl ?_
      exact wp_ireturn dX8_factOfHand_73 rfl ⟨rfl, rfl, rfl, rfl, rfl⟩ rfl rfl
    · skip
      refine wp_tsIn (tgt := 74) (off := 73) dX8_factOfHand_1 (by decide) (by decide) (by rfl) (by decide) ?_
      refine wp_iconst (q := 75) dX8_factOfHand_74 zq_iconst_5 rfl ?_
      exact wp_ireturn dX8_factOfHand_75 rfl ⟨rfl, rfl, rfl, rfl, rfl⟩ rfl rfl
    · skip
      refine wp_tsIn (tgt := 76) (off := 75) dX8_factOfHand_1 (by decide) (by decide) (by rfl) (by decide) ?_
      refine wp_iconst (q := 77) dX8_factOfHand_76 zq_iconst_m1 rfl ?_
      exact wp_ireturn dX8_factOfHand_77 rfl ⟨rfl, rfl, rfl, rfl, rfl⟩ rfl rfl
    · skip
      refine wp_tsIn (tgt := 76) (off := 75) dX8_factOfHand_1 (by decide) (by decide) (by rfl) (by decide) ?_
      refine wp_iconst (q := 77) dX8_factOfHand_76 zq_iconst_m1 rfl ?_
      exact wp_ireturn dX8_factOfHand_77 rfl ⟨rfl, rfl, rfl, rfl, rfl⟩ rfl rfl
    · skip
      refine wp_tsIn (tgt := 76) (off := 75) dX8_factOfHand_1 (by decide) (by decide) (by rfl) (by decide) ?_
      refine wp_iconst (q := 77) dX8_factOfHand_76 zq_iconst_m1 rfl ?_
      exact wp_ireturn dX8_factOfHand_77 rfl ⟨rfl, rfl, rfl, rfl, rfl⟩ rfl rfl
    · skip
      refine wp_tsIn (tgt := 76) (off := 75) dX8_factOfHand_1 (by decide) (by decide) (by rfl) (by decide) ?_
      refine wp_iconst (q := 77) dX8_factOfHand_76 zq_iconst_m1 rfl ?_
      exact wp_ireturn dX8_factOfHand_77 rfl ⟨rfl, rfl, rfl, rfl, rfl⟩ rfl rfl
    · skip
      refine wp_tsIn (tgt := 76) (off := 75) dX8_factOfHand_1 (by decide) (by decide) (by rfl) (by decide) ?_
      refine wp_iconst (q := 77) dX8_factOfHand_76 zq_iconst_m1 rfl ?_
      exact wp_ireturn dX8_factOfHand_77 rfl ⟨rfl, rfl, rfl, rfl, rfl⟩ rfl rfl
    · skip
      refine wp_tsIn (tgt := 76) (off := 75) dX8_factOfHand_1 (by decide) (by decide) (by rfl) (by decide) ?_
      refine wp_iconst (q := 77) dX8_factOfHand_76 zq_iconst_m1 rfl ?_
      exact wp_ireturn dX8_factOfHand_77 rfl ⟨rfl, rfl, rfl, rfl, rfl⟩ rfl rfl
    · skip
      refine wp_tsIn (tgt := 64) (off := 63) dX8_factOfHand_1 (by decide) (by decide) (by rfl) (by decide) ?_
      refine wp_iconst (q := 65) dX8_factOfHand_64 zq_iconst_0 rfl ?_
      exact wp_ireturn dX8_factOfHand_65 rfl ⟨rfl, rfl, rfl, rfl, rfl⟩ rfl rfl
    · skip
      refine wp_tsIn (tgt := 66) (off := 65) dX8_factOfHand_1 (by decide) (by decide) (by rfl) (by decide) ?_
      refine wp_iconst (q := 67) dX8_factOfHand_66 zq_iconst_1 rfl ?_
      exact wp_ireturn dX8_factOfHand_67 rfl ⟨rfl, rfl, rfl, rfl, rfl⟩ rfl rfl
    · skip
      refine wp_tsIn (tgt := 68) (off := 67) dX8_factOfHand_1 (by decide) (by decide) (by rfl) (by decide) ?_
      refine wp_iconst (q := 69) dX8_factOfHand_68 zq_iconst_2 rfl ?_
      exact wp_ireturn dX8_factOfHand_69 rfl ⟨rfl, rfl, rfl, rfl, rfl⟩ rfl rfl
set_option maxHeartbeats 4000000 in
set_option maxRecDepth 100000 in
theorem sp_factOfPerson {d y : Nat} {M : zMI} {L : zML} {R : zMR} : Sx yX8_factOfPerson YX8_factOfPerson (d) [.int (zwd y)] M L R (some (.int (zwd (zfP y)))) M L R := by
  refine Sp.of (by decide +kernel) rfl (fun h => by first | exact h | cases h) (Nat.le_of_ble_eq_true rfl) ?_
  intro w G
  refine wp_iload_n (q := 1) dX8_factOfPerson_0 0 rfl rfl ?_
  by_cases ho : y = 1 ∨ y = 2 ∨ y = 6 ∨ y = 9 ∨ y = 16
  · rcases ho with rfl | rfl | rfl | rfl | rfl
    · skip
      refine wp_ls (tgt := 54) (off := 53) dX8_factOfPerson_1 (by decide) (by rfl) (by decide) ?_
      refine wp_iconst (q := 55) dX8_factOfPerson_54 zq_iconst_1 rfl ?_
      exact wp_ireturn dX8_factOfPerson_55 rfl ⟨rfl, rfl, rfl, rfl, rfl⟩ rfl rfl
    · skip
      refine wp_ls (tgt := 56) (off := 55) dX8_factOfPerson_1 (by decide) (by rfl) (by decide) ?_
      refine wp_iconst (q := 57) dX8_factOfPerson_56 zq_iconst_2 rfl ?_
      exact wp_ireturn dX8_factOfPerson_57 rfl ⟨rfl, rfl, rfl, rfl, rfl⟩ rfl rfl
    · skip
      refine wp_ls (tgt := 60) (off := 59) dX8_factOfPerson_1 (by decide) (by rfl) (by decide) ?_
      refine wp_iconst (q := 61) dX8_factOfPerson_60 zq_iconst_4 rfl ?_
      exact wp_ireturn dX8_factOfPerson_61 rfl ⟨rfl, rfl, rfl, rfl, rfl⟩ rfl rfl
    · skip
      refine wp_ls (tgt := 58) (off := 57) dX8_factOfPerson_1 (by decide) (by rfl) (by decide) ?_
      refine wp_iconst (q := 59) dX8_factOfPerson_58 zq_iconst_3 rfl ?_
      exact wp_ireturn dX8_factOfPerson_59 rfl ⟨rfl, rfl, rfl, rfl, rfl⟩ rfl rfl
    · skip
      refine wp_ls (tgt := 52) (off := 51) dX8_factOfPerson_1 (by decide) (by rfl) (by decide) ?_
      refine wp_iconst (q := 53) dX8_factOfPerson_52 zq_iconst_0 rfl ?_
      exact wp_ireturn dX8_factOfPerson_53 rfl ⟨rfl, rfl, rfl, rfl, rfl⟩ rfl rfl
  · skip
    have e : zfP y = 99 := by
      unfold zfP
      repeat rw [if_neg (by omega)]
    rw [e]
    have hz : (zwd y).toInt ≠ 1 ∧ (zwd y).toInt ≠ 2 ∧ (zwd y).toInt ≠ 6 ∧ (zwd y).toInt ≠ 9 ∧ (zwd y).toInt ≠ 16 := by
      rw [zwd_t]
      split <;> omega
    refine wp_ls (tgt := 62) (off := 61) dX8_factOfPerson_1 (by decide) (by simp [Op.lookupswitch.offset, Ne.symm hz.1, Ne.symm hz.2.1, Ne.symm hz.2.2.1, Ne.symm hz.2.2.2.1, Ne.symm hz.2.2.2.2]) (by decide) ?_
    refine wp_iconst (q := 63) dX8_factOfPerson_62 zq_iconst_m1 rfl ?_
    exact wp_ireturn dX8_factOfPerson_63 rfl ⟨rfl, rfl, rfl, rfl, rfl⟩ rfl rfl

