set_option maxHeartbeats 4000000 in
set_option maxRecDepth 100000 in
theorem sp_mqSums {d t len c g o B0 : Nat} {M : zMI} {L : zML} {b : Nat → Nat} {T : zDD} {W0 : List Nat} {p : zP} {F : zFl} {r : zPF} (hT : zTok b len T c) (hW : zWds M) (h : zSSq M b len T c p F W0 g B0) (ho : p.2.1 = nI o) (ho6 : o ≤ 6) (hr : zsum T c true p F = r) (hw0 : ∀ x, x ∈ W0 → 5 ≤ x) : Sy yX12_qSums YX12_qSums (d + 6) [.ref 177] M L (zRf t) (fun v0 M' L' R' => v0 = none ∧ L = L' ∧ R' = zRf t ∧ zSfq g M M' ∧ zRp M' b len T c r.1 ∧ (∃ n, M' 177 88 = nI n ∧ n ≤ 1600) ∧ (r.1.2.2.1 = 0 → zSSq M' b len T c r.1 r.2 W0 g B0)) := by
  refine Sp.of (by decide +kernel) rfl (fun h => by first | exact h | cases h) (Nat.le_of_ble_eq_true rfl) ?_
  intro w G
  have hE := zTok_TE hT
  have hp0 := h.1.2.2.1
  have hok : zok T c 8 p := ⟨by decide, hp0, Or.inr ⟨o, ho, ho6, Nat.le_add_right _ _⟩⟩
  have hkp : zkp T c p r.1 := by rw [← hr]; exact zkp_sum hE p F hp0
  have hrc : r.1.1 < c := hkp.1
  have hb0 := h.2.2.2.2.1.2.2.2.2.1
  have hrf : zks T c true [(8, 0, 1600, 0, 1600, 0)] (zpt T c true 8 p F) = r := hr
  have C78 : ∀ N : zMI, zSfq g M N → ((zPXq N b len T c r) ∨ (r.1.2.2.1 = 0 ∧ zAt N b len T c r.1.1 ∧ N 177 6 = r.1.2.2.2 ∧ N 177 91 = r.1.2.1 ∧ zSQq N g r.2 W0 W0.length ∧ g + r.2.length + W0.length + 1 ≤ r.1.1)) → WP w YX12_qSums (d + 6, SS, 0, 0) G (some (zXp (fun v0 M' L' R' => v0 = none ∧ L = L' ∧ R' = zRf t ∧ zSfq g M M' ∧ zRp M' b len T c r.1 ∧ (∃ n, M' 177 88 = nI n ∧ n ≤ 1600) ∧ (r.1.2.2.1 = 0 → zSSq M' b len T c r.1 r.2 W0 g B0)))) 78 [(1, .int (nI B0)), (0, .ref 177)] [] SS N L (zRf t) := by
    intro N hf hh
    refine wp_aload_n (q := 79) dX12_qSums_78 1 rfl rfl ?_
    refine wp_iload_n (q := 80) dX12_qSums_79 0 rfl rfl ?_
    refine wp_putI (q := 83) dX12_qSums_80 zf_RX12_609 rfl zsh_177 rfl ?_
    have hf2 : zSfq g M (zu N 177 92 (nI B0)) := zSfq_7 hf (by omega)
    rcases hh with hx | ⟨x1, x2, x3, x4, x5, x6⟩
    · have hx2 : zPX (zu N 177 92 (nI B0)) b len T c r := zPX_fr hx.1 (zu_k (by decide)) (zu_k (by decide))
      exact wp_return dX12_qSums_83 rfl ⟨rfl, ⟨rfl, rfl, rfl, hf2, hx2.2, (by rw [zu_k (by decide)]; exact hx.2), fun e => absurd e hx2.1⟩⟩ rfl rfl
    · have hA : zAt (zu N 177 92 (nI B0)) b len T c r.1.1 := by
        unfold zAt zTa at *
        rw [zu_k (by decide), zu_k (by decide), zu_k (by decide), zu_k (by decide), zu_ne (by decide)]
        exact x2
      have h6 : (zu N 177 92 (nI B0)) 177 6 = r.1.2.2.2 := by rw [zu_k (by decide)]; exact x3
      obtain ⟨y1, y2, y3, y4, y5, y6⟩ := x5
      exact wp_return dX12_qSums_83 rfl ⟨rfl, ⟨rfl, rfl, rfl, hf2, ⟨hrc, fun _ => ⟨hA, h6⟩, fun e => absurd x1 e⟩, ⟨_, (by rw [zu_k (by decide)]; exact y1), by omega⟩, fun _ => ⟨hA, h6, x1, by rw [zu_k (by decide)]; exact x4, ⟨by rw [zu_k (by decide)]; exact y1, zcdY_fr y2 (zu_ne (by decide)), by rw [zu_k (by decide)]; exact y3, zStk_e y4 (zu_ne (by decide)), zu_s, y6⟩, x6⟩⟩⟩ rfl rfl
  have C53x : ∀ N : zMI, zSfq g M N → zPXq N b len T c r → WP w YX12_qSums (d + 6, SS, 0, 0) G (some (zXp (fun v0 M' L' R' => v0 = none ∧ L = L' ∧ R' = zRf t ∧ zSfq g M M' ∧ zRp M' b len T c r.1 ∧ (∃ n, M' 177 88 = nI n ∧ n ≤ 1600) ∧ (r.1.2.2.1 = 0 → zSSq M' b len T c r.1 r.2 W0 g B0)))) 53 [(1, .int (nI B0)), (0, .ref 177)] [] SS N L (zRf t) := by
    intro N hf hx
    have hx' := hx
    obtain ⟨⟨x1, x2, x3, x4⟩, -⟩ := hx
    obtain ⟨x5, x6, x7⟩ := x4 x1
    obtain ⟨kk, hkk⟩ : ∃ kk, r.1.2.2.1 = kk := ⟨_, rfl⟩
    rw [hkk] at x5 x6 x1
    refine wp_aload_n (q := 54) dX12_qSums_53 1 rfl rfl ?_
    refine wp_getI (q := 57) dX12_qSums_54 zf_RX12_236 rfl zsh_177 rfl ?_
    rw [x6]
    refine wp_if_neN (tgt := 78) (q := 60) dX12_qSums_57 (by decide) rfl (by omega) (fun _ => ?_) (fun hn => absurd hn (by first | omega | exact fun h => h | exact fun h => h trivial))
    refine WP.sub (loc' := [(1, _), (0, _)]) [0, 1] rfl ?_
    exact C78 N hf (Or.inl hx')
  have C53 : ∀ (V : List Nat) (F2 : zFl) (N : zMI) (p2 : zP), r = (p2, r.2) → p2.2.2.1 = 0 → zAt N b len T c p2.1 → N 177 6 = p2.2.2.2 → N 177 91 = p2.2.1 → zSQq N g F2 (V ++ W0) W0.length → g + F2.length + (V ++ W0).length + 1 ≤ p2.1 → (∀ x, x ∈ V → zPm x = true ∧ 1 ≤ x ∧ x ≤ 4) → zdw zPm V F2 = ([], r.2) → zSfq g M N → WP w YX12_qSums (d + 6, SS, 0, 0) G (some (zXp (fun v0 M' L' R' => v0 = none ∧ L = L' ∧ R' = zRf t ∧ zSfq g M M' ∧ zRp M' b len T c r.1 ∧ (∃ n, M' 177 88 = nI n ∧ n ≤ 1600) ∧ (r.1.2.2.1 = 0 → zSSq M' b len T c r.1 r.2 W0 g B0)))) 53 [(1, .int (nI B0)), (0, .ref 177)] [] SS N L (zRf t) := by
    intro V
    induction V with
    | nil =>
      intro F2 N p2 hr2 x1 x2 x3 x4 hQ hl hV hd hf
      have e : (([] : List Nat), F2) = ([], r.2) := hd
      have e2 : F2 = r.2 := (Prod.mk.inj e).2
      have e3 : r.1 = p2 := by rw [hr2]
      have hQ' : zSQq N g F2 W0 W0.length := hQ
      have hl' : g + F2.length + W0.length + 1 ≤ p2.1 := hl
      have h46 : N 177 90 = nI W0.length := hQ.2.2.1
      have hln := hQ'.2.2.2.2.2
      refine wp_aload_n (q := 54) dX12_qSums_53 1 rfl rfl ?_
      refine wp_getI (q := 57) dX12_qSums_54 zf_RX12_236 rfl zsh_177 rfl ?_
      rw [x2.2.1]
      refine wp_if_neN (tgt := 78) (q := 60) dX12_qSums_57 (by decide) rfl (by omega) (fun hn => absurd hn (by first | omega | exact fun h => h | exact fun h => h trivial)) (fun _ => ?_)
      refine wp_aload_n (q := 61) dX12_qSums_60 1 rfl rfl ?_
      refine wp_getI (q := 64) dX12_qSums_61 zf_RX12_603 rfl zsh_177 rfl ?_
      rw [h46]
      refine wp_aload_n (q := 65) dX12_qSums_64 1 rfl rfl ?_
      refine wp_getI (q := 68) dX12_qSums_65 zf_RX12_609 rfl zsh_177 rfl ?_
      rw [hQ'.2.2.2.2.1]
      refine wp_icmp_leN (tgt := 78) (q := 71) dX12_qSums_68 (by decide) rfl (by omega) (by omega) (fun _ => ?_) (fun hn => absurd hn (by first | omega | exact fun h => h | exact fun h => h trivial))
      refine WP.sub (loc' := [(1, _), (0, _)]) [0, 1] rfl ?_
      exact C78 N hf (Or.inr ⟨by rw [e3]; exact x1, by rw [e3]; exact x2, by rw [e3]; exact x3, by rw [e3]; exact x4, by rw [← e2]; exact hQ', by rw [e3, ← e2]; exact hl'⟩)
    | cons x V ih =>
      intro F2 N p2 hr2 x1 x2 x3 x4 hQ hl hV hd hf
      have hm := hV x (List.mem_cons_self ..)
      have e' : (if zPm x then zdw zPm V (F2 ++ [(x + 3, 0)]) else (x :: V, F2)) = ([], r.2) := hd
      rw [if_pos hm.1] at e'
      have hQ' : zSQq N g F2 (x :: (V ++ W0)) W0.length := hQ
      have h46 : N 177 90 = nI ((V ++ W0).length + 1) := hQ.2.2.1
      have hln : g + F2.length + ((V ++ W0).length + 1) ≤ 1600 := hQ.2.2.2.2.2
      have hl' : g + F2.length + ((V ++ W0).length + 1) + 1 ≤ p2.1 := hl
      have hB : W0.length ≤ (V ++ W0).length := by rw [List.length_append]; omega
      refine wp_aload_n (q := 54) dX12_qSums_53 1 rfl rfl ?_
      refine wp_getI (q := 57) dX12_qSums_54 zf_RX12_236 rfl zsh_177 rfl ?_
      rw [x2.2.1]
      refine wp_if_neN (tgt := 78) (q := 60) dX12_qSums_57 (by decide) rfl (by omega) (fun hn => absurd hn (by first | omega | exact fun h => h | exact fun h => h trivial)) (fun _ => ?_)
      refine wp_aload_n (q := 61) dX12_qSums_60 1 rfl rfl ?_
      refine wp_getI (q := 64) dX12_qSums_61 zf_RX12_603 rfl zsh_177 rfl ?_
      rw [h46]
      refine wp_aload_n (q := 65) dX12_qSums_64 1 rfl rfl ?_
      refine wp_getI (q := 68) dX12_qSums_65 zf_RX12_609 rfl zsh_177 rfl ?_
      rw [hQ'.2.2.2.2.1]
      refine wp_icmp_leN (tgt := 78) (q := 71) dX12_qSums_68 (by decide) rfl (by omega) (by omega) (fun hn => absurd hn (by first | omega | exact fun h => h | exact fun h => h trivial)) (fun _ => ?_)
      refine wp_aload_n (q := 72) dX12_qSums_71 1 rfl rfl ?_
      refine wp_cvx (q := 75) (sp_mqDrops (d := d + 3) hQ') zm_X12_qDrops zl_RX12_615 dX12_qSums_72 rfl (by omega) (Nat.le_of_ble_eq_true rfl) zsh_177 rfl rfl ?_
      refine wp_goto (tgt := 53) dX12_qSums_75 (by decide) ?_
      have hq : zQfq g 88 N (zu (zu (zu N 177 90 (nI (V ++ W0).length)) 245 (g + F2.length) (nI x)) 177 88 (nI (g + F2.length + 1))) := zQfq_pop zQfq_r hQ'
      refine WP.sub (loc' := [(1, _), (0, _)]) [0, 1] rfl ?_
      refine ih (F2 ++ [(x + 3, 0)]) _ p2 hr2 x1 (zAt_qq x2 hq (by decide)) (by rw [hq.2 6 (by decide) (by decide) (by decide)]; exact x3) (by rw [hq.2 91 (by decide) (by decide) (by decide)]; exact x4) (zSQq_pop hQ' (zqc_s hm.2.1 (by have := hm.2.2; omega))) ?_ (fun y hy => hV y (List.mem_cons_of_mem _ hy)) e' (zSfq_t hf hq.1)
      rw [List.length_append]
      show g + (F2.length + 1) + _ + 1 ≤ p2.1
      omega
  have loop : ∀ (q P : Nat) (N : zMI), c ≤ q + P → zPAq N b len T c g W0 r P → zSfq g M N → WP w YX12_qSums (d + 6, SS, 0, 0) G (some (zXp (fun v0 M' L' R' => v0 = none ∧ L = L' ∧ R' = zRf t ∧ zSfq g M M' ∧ zRp M' b len T c r.1 ∧ (∃ n, M' 177 88 = nI n ∧ n ≤ 1600) ∧ (r.1.2.2.1 = 0 → zSSq M' b len T c r.1 r.2 W0 g B0)))) 15 [(2, .int (nI 1)), (1, .int (nI B0)), (0, .ref 177)] [] SS N L (zRf t) := by
    intro q
    induction q with
    | zero =>
      intro P N hq hA
      obtain ⟨p2, F2, f, fr, o2, h1, h2, h3, h4, h5⟩ := hA
      exact absurd h1.1.2.2.1 (by omega)
    | succ q ih =>
      intro P N hq hA hf
      have hbad : N 177 5 = nI 0 := by
        obtain ⟨p2, F2, f, fr, o2, h1, h2, h3, h4, h5⟩ := hA
        exact h1.1.2.1
      refine wp_iload_n (q := 16) dX12_qSums_15 0 rfl rfl ?_
      refine wp_if_eqN (tgt := 53) (q := 19) dX12_qSums_16 (by decide) rfl (by omega) (fun hn => absurd hn (by first | omega | exact fun h => h | exact fun h => h trivial)) (fun _ => ?_)
      refine wp_aload_n (q := 20) dX12_qSums_19 2 rfl rfl ?_
      refine wp_getI (q := 23) dX12_qSums_20 zf_RX12_236 rfl zsh_177 rfl ?_
      rw [hbad]
      refine wp_if_neN (tgt := 53) (q := 26) dX12_qSums_23 (by decide) rfl (by omega) (fun hn => absurd hn (by first | omega | exact fun h => h | exact fun h => h trivial)) (fun _ => ?_)
      refine wp_aload_n (q := 27) dX12_qSums_26 2 rfl rfl ?_
      refine wp_cvy (q := 30) (sp_mqPartTold (d := d) hT (zWds_fq hW hf) hA hrc) zm_X12_qPartTold zl_RX12_642 dX12_qSums_27 rfl (by omega) (Nat.le_of_ble_eq_true rfl) zsh_177 rfl rfl ?_
      rintro _ N2 _ _ ⟨rfl, rfl, rfl, hf2, hh⟩
      have hf2' := zSfq_t hf hf2
      rcases hh with hx | hB
      · have hx' := hx
        obtain ⟨⟨x1, x2, x3, x4⟩, -⟩ := hx
        obtain ⟨x5, x6, x7⟩ := x4 x1
        obtain ⟨kk, hkk⟩ : ∃ kk, r.1.2.2.1 = kk := ⟨_, rfl⟩
        rw [hkk] at x5 x6 x1
        skip
        refine wp_aload_n (q := 31) dX12_qSums_30 2 rfl rfl ?_
        refine wp_getI (q := 34) dX12_qSums_31 zf_RX12_236 rfl zsh_177 rfl ?_
        rw [x6]
        refine wp_if_neN (tgt := 48) (q := 37) dX12_qSums_34 (by decide) rfl (by omega) (fun _ => ?_) (fun hn => absurd hn (by first | omega | exact fun h => h | exact fun h => h trivial))
        refine wp_iconst (q := 49) dX12_qSums_48 zq_iconst_0 rfl ?_
        refine wp_istore_n (q := 50) (loc' := [(2, _), (1, _), (0, _)]) dX12_qSums_49 rfl (by decide) rfl rfl ?_
        refine wp_goto (tgt := 15) dX12_qSums_50 (by decide) ?_
        refine wp_iload_n (q := 16) dX12_qSums_15 0 rfl rfl ?_
        refine wp_if_eqN (tgt := 53) (q := 19) dX12_qSums_16 (by decide) rfl (by omega) (fun _ => ?_) (fun hn => absurd hn (by first | omega | exact fun h => h | exact fun h => h trivial))
        refine WP.sub (loc' := [(1, _), (0, _)]) [1, 2] rfl ?_
        exact C53x N2 hf2' hx'
      · have hbad2 : N2 177 5 = nI 0 := by
          obtain ⟨p2, F2, f, fr, o2, h1, -⟩ := hB
          exact h1.1.2.1
        refine wp_aload_n (q := 31) dX12_qSums_30 2 rfl rfl ?_
        refine wp_getI (q := 34) dX12_qSums_31 zf_RX12_236 rfl zsh_177 rfl ?_
        rw [hbad2]
        refine wp_if_neN (tgt := 48) (q := 37) dX12_qSums_34 (by decide) rfl (by omega) (fun hn => absurd hn (by first | omega | exact fun h => h | exact fun h => h trivial)) (fun _ => ?_)
        refine wp_aload_n (q := 38) dX12_qSums_37 2 rfl rfl ?_
        refine wp_cvy (q := 41) (sp_mqGoesOn (d := d + 2) hT hB hrc hw0) zm_X12_qGoesOn zl_RX12_645 dX12_qSums_38 rfl (by omega) (Nat.le_of_ble_eq_true rfl) zsh_177 rfl rfl ?_
        rintro _ N3 _ _ ⟨o3, rfl, rfl, rfl, hf3, g1, g2⟩
        have hf3' := zSfq_t hf2' hf3
        cases o3 with
        | true =>
          refine wp_if_eq (tgt := 48) (q := 44) dX12_qSums_41 (by decide) rfl (fun hn => absurd hn (by decide)) (fun _ => ?_)
          refine wp_iconst (q := 45) dX12_qSums_44 zq_iconst_1 rfl ?_
          refine wp_goto (tgt := 49) dX12_qSums_45 (by decide) ?_
          refine wp_istore_n (q := 50) (loc' := [(2, _), (1, _), (0, _)]) dX12_qSums_49 rfl (by decide) rfl rfl ?_
          refine wp_goto (tgt := 15) dX12_qSums_50 (by decide) ?_
          refine WP.sub (loc' := [(2, _), (1, _), (0, _)]) [0, 1, 2] rfl ?_
          exact ih (P + 1) N3 (by omega) (g1 rfl) hf3'
        | false =>
          refine wp_if_eq (tgt := 48) (q := 44) dX12_qSums_41 (by decide) rfl (fun _ => ?_) (fun hn => absurd hn (by decide))
          refine wp_iconst (q := 49) dX12_qSums_48 zq_iconst_0 rfl ?_
          refine wp_istore_n (q := 50) (loc' := [(2, _), (1, _), (0, _)]) dX12_qSums_49 rfl (by decide) rfl rfl ?_
          refine wp_goto (tgt := 15) dX12_qSums_50 (by decide) ?_
          refine wp_iload_n (q := 16) dX12_qSums_15 0 rfl rfl ?_
          refine wp_if_eqN (tgt := 53) (q := 19) dX12_qSums_16 (by decide) rfl (by omega) (fun _ => ?_) (fun hn => absurd hn (by first | omega | exact fun h => h | exact fun h => h trivial))
          refine WP.sub (loc' := [(1, _), (0, _)]) [1, 2] rfl ?_
          rcases g2 rfl with hx | ⟨p2, F2, f, h1, h2, h3, h4⟩
          · exact C53x N3 hf3' hx
          · obtain ⟨z1, z2'⟩ := zdA_f (F := F2) h2 h3
            have z2 : ∀ x, x ∈ zWl f → zPm x = true ∧ 1 ≤ x ∧ x ≤ 4 := fun x hx => ⟨(z2' x hx).1, (z2' x hx).2, (zdm_x h2 hx (z2' x hx).1 (Or.inl h3)).2⟩
            obtain ⟨a1, a2, a3, a4, a5, a6⟩ := h1
            exact C53 (zWl f) F2 N3 p2 (by rw [h4]) a3 a1 a2 a4 a5 a6 z2 (by rw [h4]; exact z1) hf3'
  obtain ⟨a1, a2, a3, a4, a5, a6⟩ := h
  obtain ⟨b1, b2, b3, b4, b5, b6⟩ := a5
  refine wp_aload_n (q := 1) dX12_qSums_0 0 rfl rfl ?_
  refine wp_getI (q := 4) dX12_qSums_1 zf_RX12_609 rfl zsh_177 rfl ?_
  rw [hb0]
  refine wp_istore_n (q := 5) (loc' := [(1, _), (0, _)]) dX12_qSums_4 rfl (by decide) rfl rfl ?_
  refine wp_aload_n (q := 6) dX12_qSums_5 1 rfl rfl ?_
  refine wp_aload_n (q := 7) dX12_qSums_6 1 rfl rfl ?_
  refine wp_getI (q := 10) dX12_qSums_7 zf_RX12_603 rfl zsh_177 rfl ?_
  rw [b3]
  refine wp_putI (q := 13) dX12_qSums_10 zf_RX12_609 rfl zsh_177 rfl ?_
  refine wp_iconst (q := 14) dX12_qSums_13 zq_iconst_1 rfl ?_
  refine wp_istore_n (q := 15) (loc' := [(2, _), (1, _), (0, _)]) dX12_qSums_14 rfl (by decide) rfl rfl ?_
  refine WP.sub (loc' := [(2, _), (1, _), (0, _)]) [0, 1, 2] rfl ?_
  have hQ : zSQq (zu M 177 92 (nI W0.length)) g F W0 W0.length := ⟨by rw [zu_k (by decide)]; exact b1, zcdY_fr b2 (zu_ne (by decide)), by rw [zu_k (by decide)]; exact b3, zStk_e b4 (zu_ne (by decide)), zu_s, b6⟩
  refine loop (c + 1) 0 _ (by omega) ⟨p, F, (8, 0, 1600, 0, 1600, 0), [], o, ⟨?_, by rw [zu_k (by decide)]; exact a2, a3, by rw [zu_k (by decide)]; exact a4, hQ, a6⟩, ⟨⟨Or.inl rfl, Or.inl rfl, Or.inr ⟨Nat.le_add_right _ _, Nat.le_add_right _ _⟩⟩, ho6, Nat.le_add_right _ _, Or.inl ⟨rfl, rfl⟩⟩, ho, hrf, Nat.zero_le _⟩ (zSfq_7 zSfq_r (by omega))
  unfold zAt zTa at *
  rw [zu_k (by decide), zu_k (by decide), zu_k (by decide), zu_k (by decide), zu_ne (by decide)]
  exact a1

