theorem znm_0 {b : Nat → Nat} {c i : Nat} {o6 y6 : Int32} {T : zDD} (h : (zpNa T c (i, o6, 0, y6)).1.2.2.1 ≠ 0) : znm T b i = 0 := by
  unfold znm
  refine if_neg (fun e => h ?_)
  unfold zpNa
  rw [if_pos (show T (i, o6, (0 : Nat), y6).1 0 = 1 ∧ ¬ T (i, o6, (0 : Nat), y6).1 4 < 24 from ⟨e.1, e.2.1⟩), if_pos (show T (i, o6, (0 : Nat), y6).1 3 ≤ 6 from e.2.2)]
  rfl
set_option maxHeartbeats 4000000 in
set_option maxRecDepth 100000 in
theorem sp_mpersonHere {d t len c i n bx : Nat} {o6 y6 : Int32} {M : zMI} {L : zML} {b nm bn : Nat → Nat} {T : zDD} (h : zAt M b len T c i) (h6 : M 177 6 = y6) (hT : zTok b len T c) (hW : zWds M) (hN : zNs M L n nm bx bn) {r : zP × Nat} (hr : ztp T c (i, o6, 0, y6) n nm = r) : Sy yX12_personHere YX12_personHere (d + 4) [.ref 177] M L (zRf t) (fun v0 M' L' R' => ∃ k, v0 = some (.int (nI k)) ∧ L = L' ∧ R' = zRf t ∧ zPf M M' ∧ zRp M' b len T c r.1 ∧ (r.1.2.2.1 = 0 → r.2 = k ∧ k < n) ∧ k < 30) := by
  refine Sp.of (by decide +kernel) rfl (fun h => by first | exact h | cases h) (Nat.le_of_ble_eq_true rfl) ?_
  intro w G
  have hi := h.2.2.1
  refine wp_aload_n (q := 1) dX12_personHere_0 0 rfl rfl ?_
  refine wp_cvy (q := 4) (sp_mname (d := 0) h hT hW) zm_X12_name zl_RX12_291 dX12_personHere_1 rfl (by omega) (Nat.le_of_ble_eq_true rfl) zsh_177 rfl rfl ?_
  rintro _ M2 L2 _ ⟨rfl, rfl, rfl, q1⟩
  have hp := q1.1
  obtain ⟨q2, q3⟩ := zNaP_c (o6 := o6) q1 hT hi h6
  have hz0 := znm_0 (b := b) (c := c) (i := i) (o6 := o6) (y6 := y6) (T := T)
  obtain ⟨z, hz⟩ : ∃ z, zpNa T c (i, o6, 0, y6) = z := ⟨_, rfl⟩
  rw [hz] at q2 q3 hz0
  unfold ztp at hr
  rw [hz] at hr
  obtain ⟨n1, n2, n3, n4, n5, n6⟩ := zNs_fr (L' := L) hN (hp.1 204 (by decide)) rfl
  obtain ⟨ny, hny⟩ := zNs_c (o := 0) (by intro i hi; rw [Nat.zero_add]; exact n5 i hi)
  have hy9 : znm T b i < 2147483648 := by
    by_cases ck : z.1.2.2.1 = 0
    · exact (zNm_lt (q3 ck).1).2
    · rw [hz0 ck]; decide
  have hf := zfi_lt (nm := ny) (x := znm T b i) n 0
  refine wp_lstore_n (q := 5) (loc' := [(1, _), (0, _)]) dX12_personHere_4 rfl (by decide) rfl rfl ?_
  refine wp_aload_n (q := 6) dX12_personHere_5 1 rfl rfl ?_
  refine wp_iconst (q := 7) dX12_personHere_6 zq_iconst_0 rfl ?_
  refine wp_lload_n (q := 8) dX12_personHere_7 0 rfl rfl ?_
  refine wp_cvx (q := 11) (sp_mnameOf (d := 0) (kd := 0) (n := n) (ny := ny) (by decide) n1 n2 (fun j hj => ⟨(hny j hj).1, (zNm_lt (hny j hj).2).2⟩) hy9) zm_X12_nameOf zl_RX12_295 dX12_personHere_8 rfl (by omega) (Nat.le_of_ble_eq_true rfl) zsh_177 rfl rfl ?_
  by_cases ck : z.1.2.2.1 = 0
  · obtain ⟨x1, x2⟩ := q3 ck
    obtain ⟨a1, a2⟩ := q2.2.1 ck
    have e1 : zfi nm z.2 n 0 = zfi ny (znm T b i) n 0 := zfi_c n 0 (fun j _ hj => zNm_inj (hny j (by omega)).2 x1)
    rw [if_pos ck] at hr
    rw [← e1]
    rw [← e1] at hf
    refine wp_istore_n (q := 12) (loc' := [(3, _), (1, _), (0, _)]) dX12_personHere_11 rfl (by decide) rfl rfl ?_
    refine wp_aload_n (q := 13) dX12_personHere_12 2 rfl rfl ?_
    refine wp_getI (q := 16) dX12_personHere_13 zf_RX12_236 rfl zsh_177 rfl ?_
    rw [a1.2.1]
    refine wp_if_neN (tgt := 33) (q := 19) dX12_personHere_16 (by decide) rfl (by omega) (fun hn => absurd hn (by first | omega | exact fun h => h | exact fun h => h trivial)) (fun _ => ?_)
    refine wp_iload_n (q := 20) dX12_personHere_19 0 rfl rfl ?_
    refine wp_iconst (q := 21) dX12_personHere_20 zq_iconst_m1 rfl ?_
    refine wp_icmp_ne (tgt := 33) (q := 24) dX12_personHere_21 (by decide) rfl (fun m1 => ?_) (fun m1 => ?_)
    · skip
      have m1' : zfi nm z.2 n 0 < 30 := Classical.byContradiction fun e => m1 (zwd_m.mpr e)
      rw [if_pos m1'] at hr
      rw [show zwd (zfi nm z.2 n 0) = nI (zfi nm z.2 n 0) from if_pos m1']
      refine wp_aload_n (q := 34) dX12_personHere_33 2 rfl rfl ?_
      refine wp_getI (q := 37) dX12_personHere_34 zf_RX12_236 rfl zsh_177 rfl ?_
      rw [a1.2.1]
      refine wp_if_neN (tgt := 44) (q := 40) dX12_personHere_37 (by decide) rfl (by omega) (fun hn => absurd hn (by first | omega | exact fun h => h | exact fun h => h trivial)) (fun _ => ?_)
      refine wp_iload_n (q := 41) dX12_personHere_40 0 rfl rfl ?_
      refine wp_goto (tgt := 45) dX12_personHere_41 (by decide) ?_
      exact wp_ireturn dX12_personHere_45 rfl ⟨rfl, ⟨_, rfl, rfl, rfl, hp, by rw [← hr]; exact q2, fun _ => by rw [← hr]; exact ⟨rfl, by have := hf m1' (by omega); omega⟩, m1'⟩⟩ rfl rfl
    · skip
      have m1' := zwd_m.mp m1
      rw [if_neg m1'] at hr
      have hg : r.1.2.2.1 = 3 ∧ r.1.2.2.2 = nI (T i 1) ∧ r.1.1 = c - 1 := by rw [← hr]; unfold zpf; rw [if_pos ck]; exact ⟨rfl, rfl, rfl⟩
      refine wp_aload_n (q := 25) dX12_personHere_24 2 rfl rfl ?_
      refine wp_iconst (q := 26) dX12_personHere_25 zq_iconst_3 rfl ?_
      refine wp_aload_n (q := 27) dX12_personHere_26 2 rfl rfl ?_
      refine wp_getI (q := 30) dX12_personHere_27 zf_RX12_284 rfl zsh_177 rfl ?_
      rw [x2]
      refine wp_cvx (q := 33) (sp_mfail (d := 0) a1.2.1) zm_X12_fail zl_RX12_266 dX12_personHere_30 rfl (by omega) (Nat.le_of_ble_eq_true rfl) zsh_177 rfl rfl ?_
      refine wp_aload_n (q := 34) dX12_personHere_33 2 rfl rfl ?_
      refine wp_getI (q := 37) dX12_personHere_34 zf_RX12_236 rfl zsh_177 rfl ?_
      rw [zu_k (by decide), zu_s]
      refine wp_if_neN (tgt := 44) (q := 40) dX12_personHere_37 (by decide) rfl (by omega) (fun _ => ?_) (fun hn => absurd hn (by first | omega | exact fun h => h | exact fun h => h trivial))
      refine wp_iconst (q := 45) dX12_personHere_44 zq_iconst_0 rfl ?_
      exact wp_ireturn dX12_personHere_45 rfl ⟨rfl, ⟨0, rfl, rfl, rfl, zPf_5 hp, ⟨by rw [hg.2.2]; omega, fun e => (by rw [hg.1] at e; cases e), fun _ => by rw [hg.1, hg.2.1]; exact ⟨by decide, zBd_5⟩⟩, fun e => (by rw [hg.1] at e; cases e), by decide⟩⟩ rfl rfl
  · rw [if_neg ck] at hr
    obtain ⟨g1, g2, g3⟩ := q2.2.2 ck
    have hrz : r.1 = z.1 := by rw [← hr]
    obtain ⟨kk, hkk⟩ : ∃ kk, z.1.2.2.1 = kk := ⟨_, rfl⟩
    rw [hkk] at g1 g2
    have hk0 : kk ≠ 0 := by rw [← hkk]; exact ck
    refine wp_istore_n (q := 12) (loc' := [(3, _), (1, _), (0, _)]) dX12_personHere_11 rfl (by decide) rfl rfl ?_
    refine wp_aload_n (q := 13) dX12_personHere_12 2 rfl rfl ?_
    refine wp_getI (q := 16) dX12_personHere_13 zf_RX12_236 rfl zsh_177 rfl ?_
    rw [g2]
    refine wp_if_neN (tgt := 33) (q := 19) dX12_personHere_16 (by decide) rfl (by omega) (fun _ => ?_) (fun hn => absurd hn (by first | omega | exact fun h => h | exact fun h => h trivial))
    refine wp_aload_n (q := 34) dX12_personHere_33 2 rfl rfl ?_
    refine wp_getI (q := 37) dX12_personHere_34 zf_RX12_236 rfl zsh_177 rfl ?_
    rw [g2]
    refine wp_if_neN (tgt := 44) (q := 40) dX12_personHere_37 (by decide) rfl (by omega) (fun _ => ?_) (fun hn => absurd hn (by first | omega | exact fun h => h | exact fun h => h trivial))
    refine wp_iconst (q := 45) dX12_personHere_44 zq_iconst_0 rfl ?_
    exact wp_ireturn dX12_personHere_45 rfl ⟨rfl, ⟨0, rfl, rfl, rfl, hp, by rw [hrz]; exact q2, fun e => absurd (by rw [← hrz]; exact e) ck, by decide⟩⟩ rfl rfl

