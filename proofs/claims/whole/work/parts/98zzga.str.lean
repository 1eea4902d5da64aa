def zXq (v : Option Value) (S : List zSh) (M : zMI) (L : zML) (R : zMR) : zQ := fun v0 S0 M0 L0 R0 => v0 = v ∧ S0 = S ∧ M0 = M ∧ L0 = L ∧ R0 = R
theorem ch_ok : ∀ j, j < 153 → ((zTXb.getD j 0 &&& 255).toUInt32 % 65536).toInt32 = zTXb.getD j 0 := by decide +kernel
theorem ch_nr : ∀ j, j < 153 → narrow .char (.int (zTXb.getD j 0)) = .int (zTXb.getD j 0) := by
  intro j hj
  have h : ∀ j, j < 153 → vp_nar .char (zTXb.getD j 0) = zTXb.getD j 0 := by decide +kernel
  exact congrArg Value.int (h j hj)
section
variable {S : List zSh} {M : zMI} {L : zML} {R : zMR}
theorem sj_coder : Spx yJ0_coder_7d493 YJ0_coder_7d493 1 [.float 2] S M L R 0 0 (zXq (some (.int 0)) S M L R) := by
  refine Spx.of (by decide +kernel) rfl (fun h => by cases h) (Nat.le_of_ble_eq_true rfl) ?_
  intro w G hX
  show WP w YJ0_coder_7d493 (1, S, 0, 0) G _ 0 [(0, .float 2)] [] S M L R
  refine wp_getsCS dJ0_coder_7d493_0 zs_RJ0_38 rfl ?_
  refine wp_if_eq (tgt := 13) dJ0_coder_7d493_3 rfl rfl (fun h => absurd h (by decide)) (fun _ => ?_)
  refine wp_aload_nS (k := 0) dJ0_coder_7d493_6 0 rfl rfl ?_
  refine wp_getSc dJ0_coder_7d493_7 zs_RJ0_15 rfl ?_
  refine wp_goto (tgt := 14) dJ0_coder_7d493_10 rfl ?_
  exact wp_zreturn dJ0_coder_7d493_14 rfl rfl ⟨rfl, rfl, rfl, rfl, rfl⟩ rfl rfl
theorem sj_latin : Spx yJ0_isLatin1_aae02 YJ0_isLatin1_aae02 1 [.float 2] S M L R 0 0 (zXq (some (.int 1)) S M L R) := by
  refine Spx.of (by decide +kernel) rfl (fun h => by cases h) (Nat.le_of_ble_eq_true rfl) ?_
  intro w G hX
  show WP w YJ0_isLatin1_aae02 (1, S, 0, 0) G _ 0 [(0, .float 2)] [] S M L R
  refine wp_getsCS dJ0_isLatin1_aae02_0 zs_RJ0_38 rfl ?_
  refine wp_if_eq (tgt := 17) dJ0_isLatin1_aae02_3 rfl rfl (fun h => absurd h (by decide)) (fun _ => ?_)
  refine wp_aload_nS (k := 0) dJ0_isLatin1_aae02_6 0 rfl rfl ?_
  refine wp_getSc dJ0_isLatin1_aae02_7 zs_RJ0_15 rfl ?_
  refine wp_if_ne (tgt := 17) dJ0_isLatin1_aae02_10 rfl rfl (fun h => absurd rfl h) (fun _ => ?_)
  refine wp_iconst (v := 1) dJ0_isLatin1_aae02_13 rfl rfl ?_
  refine wp_goto (tgt := 18) dJ0_isLatin1_aae02_14 rfl ?_
  exact wp_zreturn dJ0_isLatin1_aae02_18 rfl znar_1 ⟨rfl, rfl, rfl, rfl, rfl⟩ rfl rfl
theorem sj_length : Spx yJ0_length_8abf5 YJ0_length_8abf5 2 [.float 2] S M L R 0 0 (zXq (some (.int (nI 153))) S M L R) := by
  refine Spx.of (by decide +kernel) rfl (fun h => by cases h) (Nat.le_of_ble_eq_true rfl) ?_
  intro w G hX
  show WP w YJ0_length_8abf5 (2, S, 0, 0) G _ 0 [(0, .float 2)] [] S M L R
  refine wp_aload_nS (k := 0) dJ0_length_8abf5_0 0 rfl rfl ?_
  refine wp_getSv dJ0_length_8abf5_1 zs_RJ0_9 rfl ?_
  refine wp_alenS dJ0_length_8abf5_4 rfl ?_
  refine wp_aload_nS (k := 0) dJ0_length_8abf5_5 0 rfl rfl ?_
  refine wp_callVsx hX (as := []) (mc := 0) (ms := 0) sj_coder zm_J0_coder_7d493 zl_RJ0_335 dJ0_length_8abf5_6 rfl (show 1 + 1 ≤ 2 by decide) (show 1 ≤ 8 by decide) rfl (Nat.le_refl _) (Nat.le_refl _) rfl ?_
  rintro _ _ _ _ _ ⟨rfl, rfl, rfl, rfl, rfl⟩ - -
  refine wp_ishr dJ0_length_8abf5_9 rfl ?_
  exact wp_ireturn dJ0_length_8abf5_10 rfl ⟨congrArg (fun x => some (Value.int x)) (by decide), rfl, rfl, rfl, rfl⟩ rfl rfl
theorem sj_check3a {j : Nat} (hj : j < 153) : Spx yJ3_checkIndex_8e157 YJ3_checkIndex_8e157 1 [.int (nI j), .int 153, .null] S M L R 0 0 (zXq (some (.int (nI j))) S M L R) := by
  refine Spx.of (by decide +kernel) rfl (fun h => by cases h) (Nat.le_of_ble_eq_true rfl) ?_
  intro w G hX
  show WP w YJ3_checkIndex_8e157 (1, S, 0, 0) G _ 0 [(0, .int (nI j)), (1, .int 153), (2, .null)] [] S M L R
  refine wp_iload_n (k := 0) dJ3_checkIndex_8e157_0 0 rfl rfl ?_
  refine wp_if_ltN (tgt := 9) dJ3_checkIndex_8e157_1 rfl rfl (by omega) (fun h => h.elim) (fun _ => ?_)
  refine wp_iload_n (k := 0) dJ3_checkIndex_8e157_4 0 rfl rfl ?_
  refine wp_iload_n (k := 1) dJ3_checkIndex_8e157_5 1 rfl rfl ?_
  refine wp_icmp_lt (tgt := 16) dJ3_checkIndex_8e157_6 rfl rfl (fun _ => ?_) (fun h => absurd ((nI_ltI (a := j) (b := 153) (by omega) (by omega)).mpr hj) h)
  refine wp_iload_n (k := 0) dJ3_checkIndex_8e157_16 0 rfl rfl ?_
  exact wp_ireturn dJ3_checkIndex_8e157_17 rfl ⟨rfl, rfl, rfl, rfl, rfl⟩ rfl rfl
theorem sj_check3b {j : Nat} (hj : j < 153) : Spx yJ3_checkIndex_8e157 YJ3_checkIndex_8e157 1 [.int (nI j), .int 153, .float 4] S M L R 0 0 (zXq (some (.int (nI j))) S M L R) := by
  refine Spx.of (by decide +kernel) rfl (fun h => by cases h) (Nat.le_of_ble_eq_true rfl) ?_
  intro w G hX
  show WP w YJ3_checkIndex_8e157 (1, S, 0, 0) G _ 0 [(0, .int (nI j)), (1, .int 153), (2, .float 4)] [] S M L R
  refine wp_iload_n (k := 0) dJ3_checkIndex_8e157_0 0 rfl rfl ?_
  refine wp_if_ltN (tgt := 9) dJ3_checkIndex_8e157_1 rfl rfl (by omega) (fun h => h.elim) (fun _ => ?_)
  refine wp_iload_n (k := 0) dJ3_checkIndex_8e157_4 0 rfl rfl ?_
  refine wp_iload_n (k := 1) dJ3_checkIndex_8e157_5 1 rfl rfl ?_
  refine wp_icmp_lt (tgt := 16) dJ3_checkIndex_8e157_6 rfl rfl (fun _ => ?_) (fun h => absurd ((nI_ltI (a := j) (b := 153) (by omega) (by omega)).mpr hj) h)
  refine wp_iload_n (k := 0) dJ3_checkIndex_8e157_16 0 rfl rfl ?_
  exact wp_ireturn dJ3_checkIndex_8e157_17 rfl ⟨rfl, rfl, rfl, rfl, rfl⟩ rfl rfl
theorem sj_check0 {j : Nat} (hj : j < 153) : Spx yJ0_checkIndex_df160 YJ0_checkIndex_df160 2 [.int (nI j), .int 153] S M L R 0 0 (zXq none S M L R) := by
  refine Spx.of (by decide +kernel) rfl (fun h => by cases h) (Nat.le_of_ble_eq_true rfl) ?_
  intro w G hX
  show WP w YJ0_checkIndex_df160 (2, S, 0, 0) G _ 0 [(0, .int (nI j)), (1, .int 153)] [] S M L R
  refine wp_iload_n (k := 0) dJ0_checkIndex_df160_0 0 rfl rfl ?_
  refine wp_iload_n (k := 1) dJ0_checkIndex_df160_1 1 rfl rfl ?_
  refine wp_getsSI hX dJ0_checkIndex_df160_2 zs_RJ0_1053 rfl (fun v hv => ?_)
  rcases hv with rfl | rfl
  · refine wp_callSXx hX (as := [.int (nI j), .int 153, .null]) (st := []) (mc := 0) (ms := 0) (sj_check3a hj) zm_J3_checkIndex_8e157 zl_RJ0_1059 dJ0_checkIndex_df160_5 rfl (show 1 + 1 ≤ 2 by decide) (by decide) (Nat.le_refl _) (Nat.le_refl _) rfl ?_
    rintro _ _ _ _ _ ⟨rfl, rfl, rfl, rfl, rfl⟩ - -
    refine wp_pop dJ0_checkIndex_df160_8 rfl rfl ?_
    exact wp_return dJ0_checkIndex_df160_9 rfl ⟨rfl, rfl, rfl, rfl, rfl⟩ rfl rfl
  · refine wp_callSXx hX (as := [.int (nI j), .int 153, .float 4]) (st := []) (mc := 0) (ms := 0) (sj_check3b hj) zm_J3_checkIndex_8e157 zl_RJ0_1059 dJ0_checkIndex_df160_5 rfl (show 1 + 1 ≤ 2 by decide) (by decide) (Nat.le_refl _) (Nat.le_refl _) rfl ?_
    rintro _ _ _ _ _ ⟨rfl, rfl, rfl, rfl, rfl⟩ - -
    refine wp_pop dJ0_checkIndex_df160_8 rfl rfl ?_
    exact wp_return dJ0_checkIndex_df160_9 rfl ⟨rfl, rfl, rfl, rfl, rfl⟩ rfl rfl
theorem sj_charAt1 {j : Nat} (hj : j < 153) : Spx yJ1_charAt_3b067 YJ1_charAt_3b067 3 [.float 3, .int (nI j)] S M L R 0 0 (zXq (some (.int (zTXb.getD j 0))) S M L R) := by
  refine Spx.of (by decide +kernel) rfl (fun h => by cases h) (Nat.le_of_ble_eq_true rfl) ?_
  intro w G hX
  show WP w YJ1_charAt_3b067 (3, S, 0, 0) G _ 0 [(0, .float 3), (1, .int (nI j))] [] S M L R
  refine wp_iload_n (k := 1) dJ1_charAt_3b067_0 1 rfl rfl ?_
  refine wp_aload_nS (k := 0) dJ1_charAt_3b067_1 0 rfl rfl ?_
  refine wp_alenS dJ1_charAt_3b067_2 rfl ?_
  refine wp_callSXx hX (as := [.int (nI j), .int 153]) (st := []) (mc := 0) (ms := 0) (sj_check0 hj) zm_J0_checkIndex_df160 zl_RJ1_9 dJ1_charAt_3b067_3 rfl (show 2 + 1 ≤ 3 by decide) (by decide) (Nat.le_refl _) (Nat.le_refl _) rfl ?_
  rintro _ _ _ _ _ ⟨rfl, rfl, rfl, rfl, rfl⟩ - -
  refine wp_aload_nS (k := 0) dJ1_charAt_3b067_6 0 rfl rfl ?_
  refine wp_iload_n (k := 1) dJ1_charAt_3b067_7 1 rfl rfl ?_
  refine wp_baldS j dJ1_charAt_3b067_8 rfl hj rfl ?_
  refine wp_sipush (v := 255) dJ1_charAt_3b067_9 rfl rfl ?_
  refine wp_iand dJ1_charAt_3b067_12 rfl ?_
  refine wp_i2c dJ1_charAt_3b067_13 rfl ?_
  rw [ch_ok j hj]
  exact wp_zreturn dJ1_charAt_3b067_14 rfl (ch_nr j hj) ⟨rfl, rfl, rfl, rfl, rfl⟩ rfl rfl
theorem sj_charAt {j : Nat} (hj : j < 153) : Spx yJ0_charAt_5068e YJ0_charAt_5068e 4 [.float 2, .int (nI j)] S M L R 0 0 (zXq (some (.int (zTXb.getD j 0))) S M L R) := by
  refine Spx.of (by decide +kernel) rfl (fun h => by cases h) (Nat.le_of_ble_eq_true rfl) ?_
  intro w G hX
  show WP w YJ0_charAt_5068e (4, S, 0, 0) G _ 0 [(0, .float 2), (1, .int (nI j))] [] S M L R
  refine wp_aload_nS (k := 0) dJ0_charAt_5068e_0 0 rfl rfl ?_
  refine wp_callVsx hX (as := []) (mc := 0) (ms := 0) sj_latin zm_J0_isLatin1_aae02 zl_RJ0_492 dJ0_charAt_5068e_1 rfl (show 1 + 1 ≤ 4 by decide) (by decide) rfl (Nat.le_refl _) (Nat.le_refl _) rfl ?_
  rintro _ _ _ _ _ ⟨rfl, rfl, rfl, rfl, rfl⟩ - -
  refine wp_if_eq (tgt := 16) dJ0_charAt_5068e_4 rfl rfl (fun h => absurd h (by decide)) (fun _ => ?_)
  refine wp_aload_nS (k := 0) dJ0_charAt_5068e_7 0 rfl rfl ?_
  refine wp_getSv dJ0_charAt_5068e_8 zs_RJ0_9 rfl ?_
  refine wp_iload_n (k := 1) dJ0_charAt_5068e_11 1 rfl rfl ?_
  refine wp_callSXx hX (as := [.float 3, .int (nI j)]) (st := []) (mc := 0) (ms := 0) (sj_charAt1 hj) zm_J1_charAt_3b067 zl_RJ0_495 dJ0_charAt_5068e_12 rfl (show 3 + 1 ≤ 4 by decide) (by decide) (Nat.le_refl _) (Nat.le_refl _) rfl ?_
  rintro _ _ _ _ _ ⟨rfl, rfl, rfl, rfl, rfl⟩ - -
  exact wp_zreturn dJ0_charAt_5068e_15 rfl (ch_nr j hj) ⟨rfl, rfl, rfl, rfl, rfl⟩ rfl rfl
end

