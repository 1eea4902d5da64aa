-- the answer of a question so far
def zqA (k : Nat) (f : Nat → Int) (i : Nat) : Int := if k = 0 then zq0 f i else if k = 1 then zq1 f i else if k = 2 then (zq2 f i : Int) else if k = 3 then zq3 f i else if k = 4 then zq4 f i else zq5 f i
theorem zq3_b {f : Nat → Int} : ∀ i, i ≤ 8 → (∀ j, j < i → zb6 (f j)) → -8000000 ≤ zq3 f i ∧ zq3 f i ≤ 8000000 := by
  have h : ∀ i, (∀ j, j < i → zb6 (f j)) → -(1000000 * (i : Int)) ≤ zq3 f i ∧ zq3 f i ≤ 1000000 * (i : Int) := by
    intro i
    induction i with
    | zero => intro _; exact ⟨by show (-(1000000 * 0) : Int) ≤ 0; decide, by show (0 : Int) ≤ 1000000 * 0; decide⟩
    | succ i ih =>
      intro h
      have h1 := ih (fun j hj => h j (by omega))
      have h2 := h i (by omega)
      rw [zq3]
      obtain ⟨a, b⟩ := h2
      omega
  intro i hi hf
  have := h i hf
  omega
theorem zqA_L {k i : Nat} {f : Nat → Int} (hi : i ≤ 8) (hf : ∀ j, j < i → zb6 (f j)) : zbL (zqA k f i) := by
  unfold zqA
  repeat' split
  · exact zb6_L (zq0_b f i hi)
  · exact zb6_L (zq1_b f i hi)
  · have := zq2_b f i; exact ⟨by omega, by omega⟩
  · have := zq3_b i hi hf; exact ⟨by omega, by omega⟩
  · exact zb6_L (zq4_b i hf)
  · exact zb6_L (zq5_b i hf)
set_option maxHeartbeats 4000000 in
set_option maxRecDepth 100000 in
theorem sp_mqTakes {d t k i : Nat} {f : Nat → Int} {M : zMI} {L : zML} (hk : k ≤ 5) (hi : i < 8) (hf : ∀ j, j ≤ i → zb6 (f j)) (h01 : k ≤ 2 → z01 (f i)) (hA : L 177 95 = lI (zqA k f i)) (hN : M 177 96 = nI (if i = 0 then 1 else 0)) : Sx yX12_qTakes YX12_qTakes (d) [.ref 177, .int (nI k), .long (lI (f i)), .int (nI i)] M L (zRf t) (none) (zu M 177 96 (nI 0)) (zu L 177 95 (lI (zqA k f (i + 1)))) (zRf t) := by
  refine Sp.of (by decide +kernel) rfl (fun h => by first | exact h | cases h) (Nat.le_of_ble_eq_true rfl) ?_
  intro w G
  have hfi := hf i (Nat.le_refl _)
  have fL := zb6_L hfi
  have l1 : zbL 1 := ⟨by decide, by decide⟩
  have l0 : zbL (-1) := ⟨by decide, by decide⟩
  have aL : zbL (zqA k f i) := zqA_L (by omega) (fun j hj => hf j (by omega))
  -- the end
  have X133 : ∀ (o : Nat) (L2 : zML), L2 = zu L 177 95 (lI (zqA k f (i + 1))) → WP w YX12_qTakes (d, SS, 0, 0) G (some (zX (none) (zu M 177 96 (nI 0)) (zu L 177 95 (lI (zqA k f (i + 1)))) (zRf t))) 133 [(5, .int (nI o)), (0, .ref 177), (1, .int (nI k)), (2, .long (lI (f i))), (4, .int (nI i))] [] SS M L2 (zRf t) := by
    intro o L2 e
    rw [e]
    refine wp_aload_n (q := 134) dX12_qTakes_133 1 rfl rfl ?_
    refine wp_iconst (q := 135) dX12_qTakes_134 zq_iconst_0 rfl ?_
    refine wp_putZ (q := 138) dX12_qTakes_135 zf_RX12_695 rfl (by first | exact Or.inl rfl | exact Or.inr rfl | assumption) zsh_177 rfl ?_
    exact wp_return dX12_qTakes_138 rfl ⟨rfl, rfl, rfl, rfl, rfl⟩ rfl rfl
  -- nothing changes
  have same : zqA k f (i + 1) = zqA k f i → L = zu L 177 95 (lI (zqA k f (i + 1))) := by
    intro e
    rw [e, ← hA]
    funext x y
    rw [zu_at]
    split
    · rename_i hh
      rw [hh.1, hh.2]
    · rfl
  -- behind first and last
  have X90 : ∀ (o : Nat) (L2 : zML), k ≤ 3 → L2 = zu L 177 95 (lI (zqA k f (i + 1))) → WP w YX12_qTakes (d, SS, 0, 0) G (some (zX (none) (zu M 177 96 (nI 0)) (zu L 177 95 (lI (zqA k f (i + 1)))) (zRf t))) 90 [(5, .int (nI o)), (0, .ref 177), (1, .int (nI k)), (2, .long (lI (f i))), (4, .int (nI i))] [] SS M L2 (zRf t) := by
    intro o L2 h3 e
    refine wp_iload_n (q := 91) dX12_qTakes_90 2 rfl rfl ?_
    refine wp_iconst (q := 92) dX12_qTakes_91 zq_iconst_3 rfl ?_
    refine wp_icmp_leN (tgt := 133) (q := 95) dX12_qTakes_92 (by decide) rfl (by omega) (by omega) (fun _ => ?_) (fun hn => absurd hn (by first | omega | exact fun h => h | exact fun h => h trivial))
    refine WP.sub (loc' := [(5, _), (0, _), (1, _), (2, _), (4, _)]) [0, 1, 2, 3, 4] rfl ?_
    exact X133 o L2 e
  have X75 : ∀ (o : Nat) (L2 : zML), k ≤ 2 → L2 = zu L 177 95 (lI (zqA k f (i + 1))) → WP w YX12_qTakes (d, SS, 0, 0) G (some (zX (none) (zu M 177 96 (nI 0)) (zu L 177 95 (lI (zqA k f (i + 1)))) (zRf t))) 75 [(5, .int (nI o)), (0, .ref 177), (1, .int (nI k)), (2, .long (lI (f i))), (4, .int (nI i))] [] SS M L2 (zRf t) := by
    intro o L2 h3 e
    refine wp_iload_n (q := 76) dX12_qTakes_75 2 rfl rfl ?_
    refine wp_iconst (q := 77) dX12_qTakes_76 zq_iconst_3 rfl ?_
    refine wp_icmp_neN (tgt := 90) (q := 80) dX12_qTakes_77 (by decide) rfl (by omega) (by omega) (fun _ => ?_) (fun hn => absurd hn (by first | omega | exact fun h => h | exact fun h => h trivial))
    refine WP.sub (loc' := [(5, _), (0, _), (1, _), (2, _), (4, _)]) [0, 1, 2, 3, 4] rfl ?_
    exact X90 o L2 (by omega) e
  have X55 : ∀ (o : Nat) (L2 : zML), k ≤ 1 → L2 = zu L 177 95 (lI (zqA k f (i + 1))) → WP w YX12_qTakes (d, SS, 0, 0) G (some (zX (none) (zu M 177 96 (nI 0)) (zu L 177 95 (lI (zqA k f (i + 1)))) (zRf t))) 55 [(5, .int (nI o)), (0, .ref 177), (1, .int (nI k)), (2, .long (lI (f i))), (4, .int (nI i))] [] SS M L2 (zRf t) := by
    intro o L2 h3 e
    refine wp_iload_n (q := 56) dX12_qTakes_55 2 rfl rfl ?_
    refine wp_iconst (q := 57) dX12_qTakes_56 zq_iconst_2 rfl ?_
    refine wp_icmp_neN (tgt := 75) (q := 60) dX12_qTakes_57 (by decide) rfl (by omega) (by omega) (fun _ => ?_) (fun hn => absurd hn (by first | omega | exact fun h => h | exact fun h => h trivial))
    refine WP.sub (loc' := [(5, _), (0, _), (1, _), (2, _), (4, _)]) [0, 1, 2, 3, 4] rfl ?_
    exact X75 o L2 (by omega) e
  have X48 : ∀ (o : Nat), k ≤ 1 → zqA k f (i + 1) = (i : Int) → WP w YX12_qTakes (d, SS, 0, 0) G (some (zX (none) (zu M 177 96 (nI 0)) (zu L 177 95 (lI (zqA k f (i + 1)))) (zRf t))) 48 [(5, .int (nI o)), (0, .ref 177), (1, .int (nI k)), (2, .long (lI (f i))), (4, .int (nI i))] [] SS M L (zRf t) := by
    intro o h3 e
    refine wp_aload_n (q := 49) dX12_qTakes_48 1 rfl rfl ?_
    refine wp_iload (q := 51) dX12_qTakes_49 4 rfl rfl ?_
    refine wp_i2lN (q := 52) dX12_qTakes_51 (by omega) rfl ?_
    refine wp_putL (q := 55) dX12_qTakes_52 zf_RX12_692 rfl zsh_177 rfl ?_
    refine WP.sub (loc' := [(5, _), (0, _), (1, _), (2, _), (4, _)]) [0, 1, 2, 3, 4] rfl ?_
    exact X55 o _ h3 (by rw [e, lN_I])
  have X18 : ∀ (o : Nat), (k ≤ 2 → o = if f i = 1 then 1 else 0) → o ≤ 1 → WP w YX12_qTakes (d, SS, 0, 0) G (some (zX (none) (zu M 177 96 (nI 0)) (zu L 177 95 (lI (zqA k f (i + 1)))) (zRf t))) 18 [(5, .int (nI o)), (0, .ref 177), (1, .int (nI k)), (2, .long (lI (f i))), (4, .int (nI i))] [] SS M L (zRf t) := by
    intro o ho ho1
    refine wp_iload_n (q := 19) dX12_qTakes_18 2 rfl rfl ?_
    by_cases k0 : k = 0
    · have ho' := ho (by omega)
      have hz := h01 (by omega)
      have eA : zqA k f (i + 1) = if f i ≠ 0 ∧ zqA k f i = -1 then (i : Int) else zqA k f i := by rw [k0]; rfl
      have X38 : f i = 0 ∨ zqA k f i ≠ -1 → WP w YX12_qTakes (d, SS, 0, 0) G (some (zX (none) (zu M 177 96 (nI 0)) (zu L 177 95 (lI (zqA k f (i + 1)))) (zRf t))) 38 [(5, .int (nI o)), (0, .ref 177), (1, .int (nI k)), (2, .long (lI (f i))), (4, .int (nI i))] [] SS M L (zRf t) := by
        intro hh
        refine wp_iload_n (q := 39) dX12_qTakes_38 2 rfl rfl ?_
        refine wp_iconst (q := 40) dX12_qTakes_39 zq_iconst_1 rfl ?_
        refine wp_icmp_neN (tgt := 55) (q := 43) dX12_qTakes_40 (by decide) rfl (by omega) (by omega) (fun _ => ?_) (fun hn => absurd hn (by first | omega | exact fun h => h | exact fun h => h trivial))
        refine WP.sub (loc' := [(5, _), (0, _), (1, _), (2, _), (4, _)]) [0, 1, 2, 3, 4] rfl ?_
        exact X55 o L (by omega) (same (by rw [eA, if_neg (fun e => by rcases hh with hh | hh; exact e.1 hh; exact hh e.2)]))
      refine wp_if_neN (tgt := 38) (q := 22) dX12_qTakes_19 (by decide) rfl (by omega) (fun hn => absurd hn (by first | omega | exact fun h => h | exact fun h => h trivial)) (fun _ => ?_)
      refine wp_iload (q := 24) dX12_qTakes_22 0 rfl rfl ?_
      refine wp_if_eqN (tgt := 38) (q := 27) dX12_qTakes_24 (by decide) rfl (by omega) (fun c1 => ?_) (fun c1 => ?_)
      · skip
        refine WP.sub (loc' := [(5, _), (0, _), (1, _), (2, _), (4, _)]) [0, 1, 2, 3, 4] rfl ?_
        refine X38 (Or.inl ?_)
        rcases hz with e | e
        · exact e
        · rw [if_pos e] at ho'; omega
      · skip
        have e1 : f i = 1 := by
          refine Classical.byContradiction fun hh => ?_
          rw [if_neg hh] at ho'; omega
        refine wp_aload_n (q := 28) dX12_qTakes_27 1 rfl rfl ?_
        refine wp_getL (q := 31) dX12_qTakes_28 zf_RX12_692 rfl zsh_177 rfl ?_
        rw [hA]
        refine wp_ldc2_w (q := 34) dX12_qTakes_31 zk_RX12_499 rfl ?_
        rw [show (-1 : Int64) = lI (-1) from rfl]
        refine wp_lcmp_eq (tgt := 48) (q := 38) dX12_qTakes_34 rfl dX12_qTakes_35 (by decide) rfl (fun c => ?_) (fun c => ?_)
        · skip
          have c' := (lI_eq aL l0).mp c
          refine WP.sub (loc' := [(5, _), (0, _), (1, _), (2, _), (4, _)]) [0, 1, 2, 3, 4] rfl ?_
          exact X48 o (by omega) (by rw [eA, if_pos ⟨by rw [e1]; decide, c'⟩])
        · skip
          refine WP.sub (loc' := [(5, _), (0, _), (1, _), (2, _), (4, _)]) [0, 1, 2, 3, 4] rfl ?_
          exact X38 (Or.inr (fun e => c (by rw [e])))
    · skip
      refine wp_if_neN (tgt := 38) (q := 22) dX12_qTakes_19 (by decide) rfl (by omega) (fun _ => ?_) (fun hn => absurd hn (by first | omega | exact fun h => h | exact fun h => h trivial))
      refine wp_iload_n (q := 39) dX12_qTakes_38 2 rfl rfl ?_
      refine wp_iconst (q := 40) dX12_qTakes_39 zq_iconst_1 rfl ?_
      by_cases k1 : k = 1
      · have ho' := ho (by omega)
        have hz := h01 (by omega)
        have eA : zqA k f (i + 1) = if f i ≠ 0 then (i : Int) else zqA k f i := by rw [k1]; rfl
        refine wp_icmp_neN (tgt := 55) (q := 43) dX12_qTakes_40 (by decide) rfl (by omega) (by omega) (fun hn => absurd hn (by first | omega | exact fun h => h | exact fun h => h trivial)) (fun _ => ?_)
        refine wp_iload (q := 45) dX12_qTakes_43 0 rfl rfl ?_
        refine wp_if_eqN (tgt := 55) (q := 48) dX12_qTakes_45 (by decide) rfl (by omega) (fun c1 => ?_) (fun c1 => ?_)
        · skip
          refine WP.sub (loc' := [(5, _), (0, _), (1, _), (2, _), (4, _)]) [0, 1, 2, 3, 4] rfl ?_
          refine X55 o L (by omega) (same ?_)
          rw [eA, if_neg (fun e => ?_)]
          rcases hz with z | z
          · exact e z
          · rw [if_pos z] at ho'; omega
        · skip
          have e1 : f i = 1 := by
            refine Classical.byContradiction fun hh => ?_
            rw [if_neg hh] at ho'; omega
          refine WP.sub (loc' := [(5, _), (0, _), (1, _), (2, _), (4, _)]) [0, 1, 2, 3, 4] rfl ?_
          exact X48 o (by omega) (by rw [eA, if_pos (by rw [e1]; decide)])
      · skip
        refine wp_icmp_neN (tgt := 55) (q := 43) dX12_qTakes_40 (by decide) rfl (by omega) (by omega) (fun _ => ?_) (fun hn => absurd hn (by first | omega | exact fun h => h | exact fun h => h trivial))
        refine wp_iload_n (q := 56) dX12_qTakes_55 2 rfl rfl ?_
        refine wp_iconst (q := 57) dX12_qTakes_56 zq_iconst_2 rfl ?_
        by_cases k2 : k = 2
        · have ho' := ho (by omega)
          have hz := h01 (by omega)
          have eA : zqA k f (i + 1) = ((if f i ≠ 0 then zq2 f i + 1 else zq2 f i : Nat) : Int) := by rw [k2]; rfl
          have eB : zqA k f i = (zq2 f i : Int) := by rw [k2]; rfl
          refine wp_icmp_neN (tgt := 75) (q := 60) dX12_qTakes_57 (by decide) rfl (by omega) (by omega) (fun hn => absurd hn (by first | omega | exact fun h => h | exact fun h => h trivial)) (fun _ => ?_)
          refine wp_iload (q := 62) dX12_qTakes_60 0 rfl rfl ?_
          refine wp_if_eqN (tgt := 75) (q := 65) dX12_qTakes_62 (by decide) rfl (by omega) (fun c1 => ?_) (fun c1 => ?_)
          · skip
            refine WP.sub (loc' := [(5, _), (0, _), (1, _), (2, _), (4, _)]) [0, 1, 2, 3, 4] rfl ?_
            refine X75 o L (by omega) (same ?_)
            rw [eA, eB, if_neg (fun e => ?_)]
            rcases hz with z | z
            · exact e z
            · rw [if_pos z] at ho'; omega
          · skip
            have e1 : f i = 1 := by
              refine Classical.byContradiction fun hh => ?_
              rw [if_neg hh] at ho'; omega
            refine wp_aload_n (q := 66) dX12_qTakes_65 1 rfl rfl ?_
            refine wp_dup (q := 67) dX12_qTakes_66 rfl rfl ?_
            refine wp_getL (q := 70) dX12_qTakes_67 zf_RX12_692 rfl zsh_177 rfl ?_
            rw [hA]
            refine wp_lconst (q := 71) dX12_qTakes_70 zq_lconst_1 rfl ?_
            rw [show lN 1 = lI 1 from rfl]
            refine wp_ladd (q := 72) dX12_qTakes_71 rfl ?_
            rw [lI_add]
            refine wp_putL (q := 75) dX12_qTakes_72 zf_RX12_692 rfl zsh_177 rfl ?_
            refine WP.sub (loc' := [(5, _), (0, _), (1, _), (2, _), (4, _)]) [0, 1, 2, 3, 4] rfl ?_
            exact X75 o _ (by omega) (by rw [eA, eB, if_pos (by rw [e1]; decide)]; rfl)
        · skip
          refine wp_icmp_neN (tgt := 75) (q := 60) dX12_qTakes_57 (by decide) rfl (by omega) (by omega) (fun _ => ?_) (fun hn => absurd hn (by first | omega | exact fun h => h | exact fun h => h trivial))
          refine wp_iload_n (q := 76) dX12_qTakes_75 2 rfl rfl ?_
          refine wp_iconst (q := 77) dX12_qTakes_76 zq_iconst_3 rfl ?_
          by_cases k3 : k = 3
          · have eA : zqA k f (i + 1) = zqA k f i + f i := by rw [k3]; rfl
            refine wp_icmp_neN (tgt := 90) (q := 80) dX12_qTakes_77 (by decide) rfl (by omega) (by omega) (fun hn => absurd hn (by first | omega | exact fun h => h | exact fun h => h trivial)) (fun _ => ?_)
            refine wp_aload_n (q := 81) dX12_qTakes_80 1 rfl rfl ?_
            refine wp_dup (q := 82) dX12_qTakes_81 rfl rfl ?_
            refine wp_getL (q := 85) dX12_qTakes_82 zf_RX12_692 rfl zsh_177 rfl ?_
            rw [hA]
            refine wp_lload_n (q := 86) dX12_qTakes_85 3 rfl rfl ?_
            refine wp_ladd (q := 87) dX12_qTakes_86 rfl ?_
            rw [lI_add]
            refine wp_putL (q := 90) dX12_qTakes_87 zf_RX12_692 rfl zsh_177 rfl ?_
            refine WP.sub (loc' := [(5, _), (0, _), (1, _), (2, _), (4, _)]) [0, 1, 2, 3, 4] rfl ?_
            exact X90 o _ (by omega) (by rw [eA])
          · have h45 : k = 4 ∨ k = 5 := by omega
            have X128 : zqA k f (i + 1) = f i → WP w YX12_qTakes (d, SS, 0, 0) G (some (zX (none) (zu M 177 96 (nI 0)) (zu L 177 95 (lI (zqA k f (i + 1)))) (zRf t))) 128 [(5, .int (nI o)), (0, .ref 177), (1, .int (nI k)), (2, .long (lI (f i))), (4, .int (nI i))] [] SS M L (zRf t) := by
              intro e
              refine wp_aload_n (q := 129) dX12_qTakes_128 1 rfl rfl ?_
              refine wp_lload_n (q := 130) dX12_qTakes_129 3 rfl rfl ?_
              refine wp_putL (q := 133) dX12_qTakes_130 zf_RX12_692 rfl zsh_177 rfl ?_
              refine WP.sub (loc' := [(5, _), (0, _), (1, _), (2, _), (4, _)]) [0, 1, 2, 3, 4] rfl ?_
              exact X133 o _ (by rw [e])
            have e4 : k = 4 → zqA k f (i + 1) = if i = 0 then f i else if zqA k f i < f i then f i else zqA k f i := fun e => by rw [e]; rfl
            have e5 : k = 5 → zqA k f (i + 1) = if i = 0 then f i else if f i < zqA k f i then f i else zqA k f i := fun e => by rw [e]; rfl
            refine wp_icmp_neN (tgt := 90) (q := 80) dX12_qTakes_77 (by decide) rfl (by omega) (by omega) (fun _ => ?_) (fun hn => absurd hn (by first | omega | exact fun h => h | exact fun h => h trivial))
            refine wp_iload_n (q := 91) dX12_qTakes_90 2 rfl rfl ?_
            refine wp_iconst (q := 92) dX12_qTakes_91 zq_iconst_3 rfl ?_
            refine wp_icmp_leN (tgt := 133) (q := 95) dX12_qTakes_92 (by decide) rfl (by omega) (by omega) (fun hn => absurd hn (by first | omega | exact fun h => h | exact fun h => h trivial)) (fun _ => ?_)
            refine wp_aload_n (q := 96) dX12_qTakes_95 1 rfl rfl ?_
            refine wp_getI (q := 99) dX12_qTakes_96 zf_RX12_695 rfl zsh_177 rfl ?_
            rw [hN]
            by_cases i0 : i = 0
            · rw [if_pos i0]
              refine wp_if_neN (tgt := 128) (q := 102) dX12_qTakes_99 (by decide) rfl (by omega) (fun _ => ?_) (fun hn => absurd hn (by first | omega | exact fun h => h | exact fun h => h trivial))
              refine WP.sub (loc' := [(5, _), (0, _), (1, _), (2, _), (4, _)]) [0, 1, 2, 3, 4] rfl ?_
              refine X128 ?_
              rcases h45 with e | e
              · rw [e4 e, if_pos i0]
              · rw [e5 e, if_pos i0]
            · rw [if_neg i0]
              refine wp_if_neN (tgt := 128) (q := 102) dX12_qTakes_99 (by decide) rfl (by omega) (fun hn => absurd hn (by first | omega | exact fun h => h | exact fun h => h trivial)) (fun _ => ?_)
              refine wp_iload_n (q := 103) dX12_qTakes_102 2 rfl rfl ?_
              refine wp_iconst (q := 104) dX12_qTakes_103 zq_iconst_4 rfl ?_
              refine wp_icmp_neN (tgt := 119) (q := 107) dX12_qTakes_104 (by decide) rfl (by omega) (by omega) (fun c4 => ?_) (fun c4 => ?_)
              · skip
                have ek : k = 5 := by omega
                refine wp_lload_n (q := 120) dX12_qTakes_119 3 rfl rfl ?_
                refine wp_aload_n (q := 121) dX12_qTakes_120 1 rfl rfl ?_
                refine wp_getL (q := 124) dX12_qTakes_121 zf_RX12_692 rfl zsh_177 rfl ?_
                rw [hA]
                refine wp_lcmp_ge (tgt := 133) (q := 128) dX12_qTakes_124 rfl dX12_qTakes_125 (by decide) rfl (fun c => ?_) (fun c => ?_)
                · skip
                  have c' := (lI_le aL fL).mp c
                  refine WP.sub (loc' := [(5, _), (0, _), (1, _), (2, _), (4, _)]) [0, 1, 2, 3, 4] rfl ?_
                  exact X133 o L (same (by rw [e5 ek, if_neg i0, if_neg (by omega)]))
                · skip
                  have c' : f i < zqA k f i := Int.not_le.mp (fun e => c ((lI_le aL fL).mpr e))
                  refine WP.sub (loc' := [(5, _), (0, _), (1, _), (2, _), (4, _)]) [0, 1, 2, 3, 4] rfl ?_
                  exact X128 (by rw [e5 ek, if_neg i0, if_pos c'])
              · skip
                have ek : k = 4 := by omega
                refine wp_lload_n (q := 108) dX12_qTakes_107 3 rfl rfl ?_
                refine wp_aload_n (q := 109) dX12_qTakes_108 1 rfl rfl ?_
                refine wp_getL (q := 112) dX12_qTakes_109 zf_RX12_692 rfl zsh_177 rfl ?_
                rw [hA]
                refine wp_lcmp_le (tgt := 133) (q := 116) dX12_qTakes_112 rfl dX12_qTakes_113 (by decide) rfl (fun c => ?_) (fun c => ?_)
                · skip
                  have c' := (lI_le fL aL).mp c
                  refine WP.sub (loc' := [(5, _), (0, _), (1, _), (2, _), (4, _)]) [0, 1, 2, 3, 4] rfl ?_
                  exact X133 o L (same (by rw [e4 ek, if_neg i0, if_neg (by omega)]))
                · skip
                  have c' : zqA k f i < f i := Int.not_le.mp (fun e => c ((lI_le fL aL).mpr e))
                  refine wp_goto (tgt := 128) dX12_qTakes_116 (by decide) ?_
                  refine WP.sub (loc' := [(5, _), (0, _), (1, _), (2, _), (4, _)]) [0, 1, 2, 3, 4] rfl ?_
                  exact X128 (by rw [e4 ek, if_neg i0, if_pos c'])
  refine wp_iload_n (q := 1) dX12_qTakes_0 1 rfl rfl ?_
  refine wp_iconst (q := 2) dX12_qTakes_1 zq_iconst_3 rfl ?_
  refine wp_icmp_geN (tgt := 15) (q := 5) dX12_qTakes_2 (by decide) rfl (by omega) (by omega) (fun c3 => ?_) (fun c3 => ?_)
  · skip
    refine wp_iconst (q := 16) dX12_qTakes_15 zq_iconst_0 rfl ?_
    refine wp_istore (q := 18) (loc' := [(5, _), (0, _), (1, _), (2, _), (4, _)]) dX12_qTakes_16 (by decide) rfl rfl ?_
    refine WP.sub (loc' := [(5, _), (0, _), (1, _), (2, _), (4, _)]) [0, 1, 2, 3, 4] rfl ?_
    exact X18 0 (fun e => by omega) (by decide)
  · skip
    refine wp_lload_n (q := 6) dX12_qTakes_5 2 rfl rfl ?_
    refine wp_lconst (q := 7) dX12_qTakes_6 zq_lconst_1 rfl ?_
    rw [show lN 1 = lI 1 from rfl]
    refine wp_lcmp_ne (tgt := 15) (q := 11) dX12_qTakes_7 rfl dX12_qTakes_8 (by decide) rfl (fun c => ?_) (fun c => ?_)
    · skip
      have c' : ¬ f i = 1 := fun e => c (by rw [e])
      refine wp_iconst (q := 16) dX12_qTakes_15 zq_iconst_0 rfl ?_
      refine wp_istore (q := 18) (loc' := [(5, _), (0, _), (1, _), (2, _), (4, _)]) dX12_qTakes_16 (by decide) rfl rfl ?_
      refine WP.sub (loc' := [(5, _), (0, _), (1, _), (2, _), (4, _)]) [0, 1, 2, 3, 4] rfl ?_
      exact X18 0 (fun _ => by rw [if_neg c']) (by decide)
    · skip
      have c' := (lI_eq fL l1).mp c
      refine wp_iconst (q := 12) dX12_qTakes_11 zq_iconst_1 rfl ?_
      refine wp_goto (tgt := 16) dX12_qTakes_12 (by decide) ?_
      refine wp_istore (q := 18) (loc' := [(5, _), (0, _), (1, _), (2, _), (4, _)]) dX12_qTakes_16 (by decide) rfl rfl ?_
      refine WP.sub (loc' := [(5, _), (0, _), (1, _), (2, _), (4, _)]) [0, 1, 2, 3, 4] rfl ?_
      exact X18 1 (fun _ => by rw [if_pos c']) (by decide)

