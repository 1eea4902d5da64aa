theorem zwd_m {f : Nat} : zwd f = -1 ↔ ¬ f < 30 := by
  unfold zwd
  split
  · rename_i c
    constructor
    · intro e
      have := congrArg Int32.toInt e
      rw [nI_toInt (by omega)] at this
      have h1 : (-1 : Int32).toInt = -1 := rfl
      omega
    · intro e
      exact absurd c e
  · rename_i c
    exact ⟨fun _ => c, fun _ => rfl⟩
set_option maxHeartbeats 4000000 in
set_option maxRecDepth 100000 in
theorem sp_mnewName {d t len c i n bx : Nat} {o6 y6 : Int32} {M : zMI} {L : zML} {b nm bn : Nat → Nat} {T : zDD} (h : zAt M b len T c i) (h6 : M 177 6 = y6) (hT : zTok b len T c) (hW : zWds M) (hN : zNs M L n nm bx bn) {r : zP × Nat} (hr : ztn T c (i, o6, 0, y6) n nm bx bn = r) : Sy yX12_newName YX12_newName (d + 4) [.ref 177] M L (zRf t) (fun v0 M' L' R' => ∃ y, v0 = some (.long (lN y)) ∧ L = L' ∧ R' = zRf t ∧ zPf M M' ∧ zRp M' b len T c r.1 ∧ (r.1.2.2.1 = 0 → zNm r.2 y)) := by
  refine Sp.of (by decide +kernel) rfl (fun h => by first | exact h | cases h) (Nat.le_of_ble_eq_true rfl) ?_
  intro w G
  have hi := h.2.2.1
  have skp : ∀ q j y (M2 : zMI), j + q = 2 → r.1.2.2.1 ≠ 0 → zPf M M2 → zRp M2 b len T c r.1 → WP w YX12_newName (d + 4, SS, 0, 0) G (some (zXp (fun v0 M' L' R' => ∃ y, v0 = some (.long (lN y)) ∧ L = L' ∧ R' = zRf t ∧ zPf M M' ∧ zRp M' b len T c r.1 ∧ (r.1.2.2.1 = 0 → zNm r.2 y)))) 7 [(3, .int (nI j)), (1, .long (lN y)), (0, .ref 177)] [] SS M2 L (zRf t) := by
    intro q
    induction q with
    | zero =>
      intro j y M2 hj hk hp hR
      rw [show j = 2 by omega]
      refine wp_iload_n (q := 8) dX12_newName_7 0 rfl rfl ?_
      refine wp_iconst (q := 9) dX12_newName_8 zq_iconst_2 rfl ?_
      refine wp_icmp_geN (tgt := 44) (q := 12) dX12_newName_9 (by decide) rfl (by omega) (by omega) (fun _ => ?_) (fun hn => absurd hn (by first | omega | exact fun h => h | exact fun h => h trivial))
      refine wp_lload_n (q := 45) dX12_newName_44 1 rfl rfl ?_
      exact wp_lreturn dX12_newName_45 rfl ⟨rfl, ⟨y, rfl, rfl, rfl, hp, hR, fun e => absurd e hk⟩⟩ rfl rfl
    | succ q ih =>
      intro j y M2 hj hk hp hR
      obtain ⟨g1, g2, g3⟩ := hR.2.2 hk
      obtain ⟨kk, hkk⟩ : ∃ kk, r.1.2.2.1 = kk := ⟨_, rfl⟩
      rw [hkk] at g1 g2 hk
      refine wp_iload_n (q := 8) dX12_newName_7 0 rfl rfl ?_
      refine wp_iconst (q := 9) dX12_newName_8 zq_iconst_2 rfl ?_
      refine wp_icmp_geN (tgt := 44) (q := 12) dX12_newName_9 (by decide) rfl (by omega) (by omega) (fun hn => absurd hn (by first | omega | exact fun h => h | exact fun h => h trivial)) (fun _ => ?_)
      refine wp_aload_n (q := 13) dX12_newName_12 2 rfl rfl ?_
      refine wp_getI (q := 16) dX12_newName_13 zf_RX12_236 rfl zsh_177 rfl ?_
      rw [g2]
      refine wp_if_neN (tgt := 38) (q := 19) dX12_newName_16 (by decide) rfl (by omega) (fun _ => ?_) (fun hn => absurd hn (by first | omega | exact fun h => h | exact fun h => h trivial))
      refine wp_iincN (q := 41) (loc' := [(3, _), (1, _), (0, _)]) (n := 1) dX12_newName_38 rfl 0 rfl (by decide) rfl rfl ?_
      refine wp_goto (tgt := 7) dX12_newName_41 (by decide) ?_
      refine WP.sub (loc' := [(3, _), (1, _), (0, _)]) [0, 1, 2] rfl ?_
      exact ih (j + 1) y M2 (by omega) (by rw [hkk]; exact hk) hp hR
  refine wp_aload_n (q := 1) dX12_newName_0 0 rfl rfl ?_
  refine wp_cvy (q := 4) (sp_mname (d := 0) h hT hW) zm_X12_name zl_RX12_291 dX12_newName_1 rfl (by omega) (Nat.le_of_ble_eq_true rfl) zsh_177 rfl rfl ?_
  rintro _ M2 L2 _ ⟨rfl, rfl, rfl, q1⟩
  have hp := q1.1
  obtain ⟨q2, q3⟩ := zNaP_c (o6 := o6) q1 hT hi h6
  obtain ⟨z, hz⟩ : ∃ z, zpNa T c (i, o6, 0, y6) = z := ⟨_, rfl⟩
  rw [hz] at q2 q3
  unfold ztn at hr
  rw [hz] at hr
  by_cases ck : z.1.2.2.1 = 0
  · obtain ⟨x1, x2⟩ := q3 ck
    obtain ⟨a1, a2⟩ := q2.2.1 ck
    obtain ⟨n1, n2, n3, n4, n5, n6⟩ := zNs_fr (L' := L) hN (hp.1 204 (by decide)) rfl
    obtain ⟨ny, hny⟩ := zNs_c (o := 0) (by intro i hi; rw [Nat.zero_add]; exact n5 i hi)
    obtain ⟨by0, hby⟩ := zNs_c (o := 8) n6
    have hy9 := (zNm_lt x1).2
    have e1 : zfi nm z.2 n 0 = zfi ny (znm T b i) n 0 := zfi_c n 0 (fun j _ hj => zNm_inj (hny j (by omega)).2 x1)
    have e2 : zfi bn z.2 bx 0 = zfi by0 (znm T b i) bx 0 := zfi_c bx 0 (fun j _ hj => zNm_inj (hby j (by omega)).2 x1)
    rw [ck] at hr
    skip
    refine wp_lstore_n (q := 5) (loc' := [(1, _), (0, _)]) dX12_newName_4 rfl (by decide) rfl rfl ?_
    refine wp_iconst (q := 6) dX12_newName_5 zq_iconst_0 rfl ?_
    refine wp_istore_n (q := 7) (loc' := [(3, _), (1, _), (0, _)]) dX12_newName_6 rfl (by decide) rfl rfl ?_
    refine wp_iload_n (q := 8) dX12_newName_7 0 rfl rfl ?_
    refine wp_iconst (q := 9) dX12_newName_8 zq_iconst_2 rfl ?_
    refine wp_icmp_geN (tgt := 44) (q := 12) dX12_newName_9 (by decide) rfl (by omega) (by omega) (fun hn => absurd hn (by first | omega | exact fun h => h | exact fun h => h trivial)) (fun _ => ?_)
    refine wp_aload_n (q := 13) dX12_newName_12 2 rfl rfl ?_
    refine wp_getI (q := 16) dX12_newName_13 zf_RX12_236 rfl zsh_177 rfl ?_
    rw [a1.2.1]
    refine wp_if_neN (tgt := 38) (q := 19) dX12_newName_16 (by decide) rfl (by omega) (fun hn => absurd hn (by first | omega | exact fun h => h | exact fun h => h trivial)) (fun _ => ?_)
    refine wp_aload_n (q := 20) dX12_newName_19 2 rfl rfl ?_
    refine wp_iload_n (q := 21) dX12_newName_20 0 rfl rfl ?_
    refine wp_lload_n (q := 22) dX12_newName_21 1 rfl rfl ?_
    refine wp_cvx (q := 25) (sp_mnameOf (d := 0) (kd := 0) (n := n) (ny := ny) (by decide) n1 n2 (fun j hj => ⟨(hny j hj).1, (zNm_lt (hny j hj).2).2⟩) hy9) zm_X12_nameOf zl_RX12_295 dX12_newName_22 rfl (by omega) (Nat.le_of_ble_eq_true rfl) zsh_177 rfl rfl ?_
    rw [← e1]
    refine wp_iconst (q := 26) dX12_newName_25 zq_iconst_m1 rfl ?_
    refine wp_icmp_eq (tgt := 38) (q := 29) dX12_newName_26 (by decide) rfl (fun m1 => ?_) (fun m1 => ?_)
    · skip
      have m1' := zwd_m.mp m1
      refine wp_iincN (q := 41) (loc' := [(3, _), (1, _), (0, _)]) (n := 1) dX12_newName_38 rfl 0 rfl (by decide) rfl rfl ?_
      refine wp_goto (tgt := 7) dX12_newName_41 (by decide) ?_
      refine wp_iload_n (q := 8) dX12_newName_7 0 rfl rfl ?_
      refine wp_iconst (q := 9) dX12_newName_8 zq_iconst_2 rfl ?_
      refine wp_icmp_geN (tgt := 44) (q := 12) dX12_newName_9 (by decide) rfl (by omega) (by omega) (fun hn => absurd hn (by first | omega | exact fun h => h | exact fun h => h trivial)) (fun _ => ?_)
      refine wp_aload_n (q := 13) dX12_newName_12 2 rfl rfl ?_
      refine wp_getI (q := 16) dX12_newName_13 zf_RX12_236 rfl zsh_177 rfl ?_
      rw [a1.2.1]
      refine wp_if_neN (tgt := 38) (q := 19) dX12_newName_16 (by decide) rfl (by omega) (fun hn => absurd hn (by first | omega | exact fun h => h | exact fun h => h trivial)) (fun _ => ?_)
      refine wp_aload_n (q := 20) dX12_newName_19 2 rfl rfl ?_
      refine wp_iload_n (q := 21) dX12_newName_20 0 rfl rfl ?_
      refine wp_lload_n (q := 22) dX12_newName_21 1 rfl rfl ?_
      refine wp_cvx (q := 25) (sp_mnameOf (d := 0) (kd := 1) (n := bx) (ny := by0) (by decide) n3 (by omega) (fun j hj => ⟨(hby j hj).1, (zNm_lt (hby j hj).2).2⟩) hy9) zm_X12_nameOf zl_RX12_295 dX12_newName_22 rfl (by omega) (Nat.le_of_ble_eq_true rfl) zsh_177 rfl rfl ?_
      rw [← e2]
      refine wp_iconst (q := 26) dX12_newName_25 zq_iconst_m1 rfl ?_
      refine wp_icmp_eq (tgt := 38) (q := 29) dX12_newName_26 (by decide) rfl (fun m2 => ?_) (fun m2 => ?_)
      · skip
        have m2' := zwd_m.mp m2
        rw [if_neg (by omega)] at hr
        refine wp_iincN (q := 41) (loc' := [(3, _), (1, _), (0, _)]) (n := 1) dX12_newName_38 rfl 0 rfl (by decide) rfl rfl ?_
        refine wp_goto (tgt := 7) dX12_newName_41 (by decide) ?_
        refine wp_iload_n (q := 8) dX12_newName_7 0 rfl rfl ?_
        refine wp_iconst (q := 9) dX12_newName_8 zq_iconst_2 rfl ?_
        refine wp_icmp_geN (tgt := 44) (q := 12) dX12_newName_9 (by decide) rfl (by omega) (by omega) (fun _ => ?_) (fun hn => absurd hn (by first | omega | exact fun h => h | exact fun h => h trivial))
        refine wp_lload_n (q := 45) dX12_newName_44 1 rfl rfl ?_
        exact wp_lreturn dX12_newName_45 rfl ⟨rfl, ⟨_, rfl, rfl, rfl, hp, by rw [← hr]; exact q2, fun _ => by rw [← hr]; exact x1⟩⟩ rfl rfl
      · skip
        have m2' : zfi bn z.2 bx 0 < 30 := Classical.byContradiction fun e => m2 (zwd_m.mpr e)
        rw [if_pos ⟨rfl, Or.inr m2'⟩] at hr
        have hf : r.1.2.2.1 = 3 ∧ r.1.2.2.2 = nI (T i 1) ∧ r.1.1 = c - 1 := by rw [← hr]; unfold zpf; rw [if_pos ck]; exact ⟨rfl, rfl, rfl⟩
        refine wp_aload_n (q := 30) dX12_newName_29 2 rfl rfl ?_
        refine wp_iconst (q := 31) dX12_newName_30 zq_iconst_3 rfl ?_
        refine wp_aload_n (q := 32) dX12_newName_31 2 rfl rfl ?_
        refine wp_getI (q := 35) dX12_newName_32 zf_RX12_284 rfl zsh_177 rfl ?_
        rw [x2]
        refine wp_cvx (q := 38) (sp_mfail (d := 0) a1.2.1) zm_X12_fail zl_RX12_266 dX12_newName_35 rfl (by omega) (Nat.le_of_ble_eq_true rfl) zsh_177 rfl rfl ?_
        refine wp_iincN (q := 41) (loc' := [(3, _), (1, _), (0, _)]) (n := 1) dX12_newName_38 rfl 0 rfl (by decide) rfl rfl ?_
        refine wp_goto (tgt := 7) dX12_newName_41 (by decide) ?_
        refine WP.sub (loc' := [(3, _), (1, _), (0, _)]) [0, 1, 2] rfl ?_
        exact skp 0 2 _ _ (by decide) (by rw [hf.1]; decide) (zPf_5 hp) ⟨by rw [hf.2.2]; omega, fun e => (by rw [hf.1] at e; cases e), fun _ => by rw [hf.1, hf.2.1]; exact ⟨by decide, zBd_5⟩⟩
    · skip
      have m1' : zfi nm z.2 n 0 < 30 := Classical.byContradiction fun e => m1 (zwd_m.mpr e)
      rw [if_pos ⟨rfl, Or.inl m1'⟩] at hr
      have hf : r.1.2.2.1 = 3 ∧ r.1.2.2.2 = nI (T i 1) ∧ r.1.1 = c - 1 := by rw [← hr]; unfold zpf; rw [if_pos ck]; exact ⟨rfl, rfl, rfl⟩
      refine wp_aload_n (q := 30) dX12_newName_29 2 rfl rfl ?_
      refine wp_iconst (q := 31) dX12_newName_30 zq_iconst_3 rfl ?_
      refine wp_aload_n (q := 32) dX12_newName_31 2 rfl rfl ?_
      refine wp_getI (q := 35) dX12_newName_32 zf_RX12_284 rfl zsh_177 rfl ?_
      rw [x2]
      refine wp_cvx (q := 38) (sp_mfail (d := 0) a1.2.1) zm_X12_fail zl_RX12_266 dX12_newName_35 rfl (by omega) (Nat.le_of_ble_eq_true rfl) zsh_177 rfl rfl ?_
      refine wp_iincN (q := 41) (loc' := [(3, _), (1, _), (0, _)]) (n := 1) dX12_newName_38 rfl 0 rfl (by decide) rfl rfl ?_
      refine wp_goto (tgt := 7) dX12_newName_41 (by decide) ?_
      refine WP.sub (loc' := [(3, _), (1, _), (0, _)]) [0, 1, 2] rfl ?_
      exact skp 1 1 _ _ (by decide) (by rw [hf.1]; decide) (zPf_5 hp) ⟨by rw [hf.2.2]; omega, fun e => (by rw [hf.1] at e; cases e), fun _ => by rw [hf.1, hf.2.1]; exact ⟨by decide, zBd_5⟩⟩
  · rw [if_neg (fun e => ck e.1)] at hr
    refine wp_lstore_n (q := 5) (loc' := [(1, _), (0, _)]) dX12_newName_4 rfl (by decide) rfl rfl ?_
    refine wp_iconst (q := 6) dX12_newName_5 zq_iconst_0 rfl ?_
    refine wp_istore_n (q := 7) (loc' := [(3, _), (1, _), (0, _)]) dX12_newName_6 rfl (by decide) rfl rfl ?_
    refine WP.sub (loc' := [(3, _), (1, _), (0, _)]) [0, 1, 2] rfl ?_
    exact skp 2 0 _ M2 (by decide) (by rw [← hr]; exact ck) hp (by rw [← hr]; exact q2)

