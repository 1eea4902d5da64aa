theorem zkp_test {T : zDD} {c : Nat} (hE : zTE T c) (p : zP) (F : zFl) (hp : p.1 < c) : (zqt T c p F).1.1 < c := (zkp_lx hE (zkp_lx hE (zkp_qf hE 8)) p F hp).1
theorem zdz_x {P : Nat} {f : zLv} (h : zLwt P f) (hw : f.2.2.2.2.2 = 0) : ∀ x, x ∈ zWl f → 1 ≤ x ∧ x ≠ 12 := by
  obtain ⟨k, m, n, a, l, w⟩ := f
  obtain ⟨h1, h2, -⟩ := h
  have h1' : m = 0 ∨ m = 13 := h1
  have h2' : a = 0 ∨ a = 14 := h2
  have hw' : w = 0 := hw
  subst hw'
  intro x hx
  rcases h1' with rfl | rfl <;> rcases h2' with rfl | rfl
  · exact absurd hx List.not_mem_nil
  · have hx' : x ∈ [11] := hx
    rw [List.mem_singleton.mp hx']; decide
  · have hx' : x ∈ [10] := hx
    rw [List.mem_singleton.mp hx']; decide
  · have hx' : x ∈ [10, 11] := hx
    rcases List.mem_cons.mp hx' with e | e
    · rw [e]; decide
    · rw [List.mem_singleton.mp e]; decide
set_option maxHeartbeats 4000000 in
set_option maxRecDepth 100000 in
theorem sp_mqTest {d t len c o : Nat} {M : zMI} {L : zML} {b : Nat → Nat} {T : zDD} {p : zP} {F : zFl} {r : zPF} (hT : zTok b len T c) (hW : zWds M) (h : zSSq M b len T c p F [] 0 0) (ho : p.2.1 = nI o) (ho6 : o ≤ 6) (hr : zqt T c p F = r) : Sy yX12_qTest YX12_qTest (d + 8) [.ref 177] M L (zRf t) (fun v0 M' L' R' => v0 = none ∧ L = L' ∧ R' = zRf t ∧ zSfq 0 M M' ∧ zRp M' b len T c r.1 ∧ (r.1.2.2.1 = 0 → zSSq M' b len T c r.1 r.2 [] 0 0)) := by
  refine Sp.of (by decide +kernel) rfl (fun h => by first | exact h | cases h) (Nat.le_of_ble_eq_true rfl) ?_
  intro w G
  have hE := zTok_TE hT
  have hrc : r.1.1 < c := by rw [← hr]; exact zkp_test hE p F h.1.2.2.1
  have hrf : zqks T c [(8, 0, 1600, 0, 1600, 0)] (zqf T c 8 p F) = r := hr
  have C110x : ∀ N : zMI, zSfq 0 M N → zPX N b len T c r → WP w YX12_qTest (d + 8, SS, 0, 0) G (some (zXp (fun v0 M' L' R' => v0 = none ∧ L = L' ∧ R' = zRf t ∧ zSfq 0 M M' ∧ zRp M' b len T c r.1 ∧ (r.1.2.2.1 = 0 → zSSq M' b len T c r.1 r.2 [] 0 0)))) 110 [(0, .ref 177)] [] SS N L (zRf t) := by
    intro N hf hx
    have hx' := hx
    obtain ⟨x1, x2, x3, x4⟩ := hx
    obtain ⟨x5, x6, x7⟩ := x4 x1
    obtain ⟨kk, hkk⟩ : ∃ kk, r.1.2.2.1 = kk := ⟨_, rfl⟩
    rw [hkk] at x5 x6 x1
    refine wp_aload_n (q := 111) dX12_qTest_110 0 rfl rfl ?_
    refine wp_getI (q := 114) dX12_qTest_111 zf_RX12_236 rfl zsh_177 rfl ?_
    rw [x6]
    refine wp_if_neN (tgt := 131) (q := 117) dX12_qTest_114 (by decide) rfl (by omega) (fun _ => ?_) (fun hn => absurd hn (by first | omega | exact fun h => h | exact fun h => h trivial))
    exact wp_return dX12_qTest_131 rfl ⟨rfl, ⟨rfl, rfl, rfl, hf, hx'.2, fun e => absurd e hx'.1⟩⟩ rfl rfl
  have C110 : ∀ (V : List Nat) (F2 : zFl) (N : zMI) (p2 : zP), r = (p2, r.2) → p2.2.2.1 = 0 → zAt N b len T c p2.1 → N 177 6 = p2.2.2.2 → N 177 91 = p2.2.1 → zSQq N 0 F2 V 0 → 0 + F2.length + V.length + 1 ≤ p2.1 → (∀ x, x ∈ V → 1 ≤ x ∧ x ≠ 12) → zdw (fun _ => true) V F2 = ([], r.2) → zSfq 0 M N → WP w YX12_qTest (d + 8, SS, 0, 0) G (some (zXp (fun v0 M' L' R' => v0 = none ∧ L = L' ∧ R' = zRf t ∧ zSfq 0 M M' ∧ zRp M' b len T c r.1 ∧ (r.1.2.2.1 = 0 → zSSq M' b len T c r.1 r.2 [] 0 0)))) 110 [(0, .ref 177)] [] SS N L (zRf t) := by
    intro V
    induction V with
    | nil =>
      intro F2 N p2 hr2 x1 x2 x3 x4 hQ hl hV hd hf
      have e : (([] : List Nat), F2) = ([], r.2) := hd
      have e2 : F2 = r.2 := (Prod.mk.inj e).2
      have e3 : r.1 = p2 := by rw [hr2]
      have h46 : N 177 90 = nI 0 := hQ.2.2.1
      refine wp_aload_n (q := 111) dX12_qTest_110 0 rfl rfl ?_
      refine wp_getI (q := 114) dX12_qTest_111 zf_RX12_236 rfl zsh_177 rfl ?_
      rw [x2.2.1]
      refine wp_if_neN (tgt := 131) (q := 117) dX12_qTest_114 (by decide) rfl (by omega) (fun hn => absurd hn (by first | omega | exact fun h => h | exact fun h => h trivial)) (fun _ => ?_)
      refine wp_aload_n (q := 118) dX12_qTest_117 0 rfl rfl ?_
      refine wp_getI (q := 121) dX12_qTest_118 zf_RX12_603 rfl zsh_177 rfl ?_
      rw [h46]
      refine wp_if_leN (tgt := 131) (q := 124) dX12_qTest_121 (by decide) rfl (by omega) (fun _ => ?_) (fun hn => absurd hn (by first | omega | exact fun h => h | exact fun h => h trivial))
      refine wp_return dX12_qTest_131 rfl ⟨rfl, ⟨rfl, rfl, rfl, hf, ?_, fun _ => ?_⟩⟩ rfl rfl
      · rw [e3]
        exact ⟨x2.2.2.1, fun _ => ⟨x2, x3⟩, fun e => absurd x1 e⟩
      · rw [e3, ← e2]
        exact ⟨x2, x3, x1, x4, hQ, hl⟩
    | cons x V ih =>
      intro F2 N p2 hr2 x1 x2 x3 x4 hQ hl hV hd hf
      have hm := hV x (List.mem_cons_self ..)
      have e' : zdw (fun _ => true) V (F2 ++ [(x + 3, 0)]) = ([], r.2) := hd
      have h46 : N 177 90 = nI (V.length + 1) := hQ.2.2.1
      have hln : 0 + F2.length + (V.length + 1) ≤ 1600 := hQ.2.2.2.2.2
      have hl' : 0 + F2.length + (V.length + 1) + 1 ≤ p2.1 := hl
      refine wp_aload_n (q := 111) dX12_qTest_110 0 rfl rfl ?_
      refine wp_getI (q := 114) dX12_qTest_111 zf_RX12_236 rfl zsh_177 rfl ?_
      rw [x2.2.1]
      refine wp_if_neN (tgt := 131) (q := 117) dX12_qTest_114 (by decide) rfl (by omega) (fun hn => absurd hn (by first | omega | exact fun h => h | exact fun h => h trivial)) (fun _ => ?_)
      refine wp_aload_n (q := 118) dX12_qTest_117 0 rfl rfl ?_
      refine wp_getI (q := 121) dX12_qTest_118 zf_RX12_603 rfl zsh_177 rfl ?_
      rw [h46]
      refine wp_if_leN (tgt := 131) (q := 124) dX12_qTest_121 (by decide) rfl (by omega) (fun hn => absurd hn (by first | omega | exact fun h => h | exact fun h => h trivial)) (fun _ => ?_)
      refine wp_aload_n (q := 125) dX12_qTest_124 0 rfl rfl ?_
      refine wp_cvx (q := 128) (sp_mqDrops (d := d + 6) hQ) zm_X12_qDrops zl_RX12_615 dX12_qTest_125 rfl (by omega) (Nat.le_of_ble_eq_true rfl) zsh_177 rfl rfl ?_
      refine wp_goto (tgt := 110) dX12_qTest_128 (by decide) ?_
      have hq : zQfq 0 88 N (zu (zu (zu N 177 90 (nI V.length)) 245 (0 + F2.length) (nI x)) 177 88 (nI (0 + F2.length + 1))) := zQfq_pop zQfq_r hQ
      refine WP.sub (loc' := [(0, _)]) [0] rfl ?_
      refine ih (F2 ++ [(x + 3, 0)]) _ p2 hr2 x1 (zAt_qq x2 hq (by decide)) (by rw [hq.2 6 (by decide) (by decide) (by decide)]; exact x3) (by rw [hq.2 91 (by decide) (by decide) (by decide)]; exact x4) (zSQq_pop hQ (zqc_s hm.1 hm.2)) ?_ (fun y hy => hV y (List.mem_cons_of_mem _ hy)) e' (zSfq_t hf hq.1)
      rw [List.length_append]
      show 0 + (F2.length + 1) + _ + 1 ≤ p2.1
      omega
  have X2 : ∀ N : zMI, zSfq 0 M N → zPX N b len T c r → WP w YX12_qTest (d + 8, SS, 0, 0) G (some (zXp (fun v0 M' L' R' => v0 = none ∧ L = L' ∧ R' = zRf t ∧ zSfq 0 M M' ∧ zRp M' b len T c r.1 ∧ (r.1.2.2.1 = 0 → zSSq M' b len T c r.1 r.2 [] 0 0)))) 2 [(1, .int (nI 1)), (0, .ref 177)] [] SS N L (zRf t) := by
    intro N hf hx
    have hx' := hx
    obtain ⟨x1, x2, x3, x4⟩ := hx
    obtain ⟨x5, x6, x7⟩ := x4 x1
    obtain ⟨kk, hkk⟩ : ∃ kk, r.1.2.2.1 = kk := ⟨_, rfl⟩
    rw [hkk] at x5 x6 x1
    refine wp_iload_n (q := 3) dX12_qTest_2 0 rfl rfl ?_
    refine wp_if_eqN (tgt := 110) (q := 6) dX12_qTest_3 (by decide) rfl (by omega) (fun hn => absurd hn (by first | omega | exact fun h => h | exact fun h => h trivial)) (fun _ => ?_)
    refine wp_aload_n (q := 7) dX12_qTest_6 1 rfl rfl ?_
    refine wp_getI (q := 10) dX12_qTest_7 zf_RX12_236 rfl zsh_177 rfl ?_
    rw [x6]
    refine wp_if_neN (tgt := 110) (q := 13) dX12_qTest_10 (by decide) rfl (by omega) (fun _ => ?_) (fun hn => absurd hn (by first | omega | exact fun h => h | exact fun h => h trivial))
    refine WP.sub (loc' := [(0, _)]) [1] rfl ?_
    exact C110x N hf hx'
  have loop : ∀ (q : Nat) (M2 : zMI) (p : zP) (F : zFl) (f : zLv) (fr : List zLv) (o : Nat), c ≤ q + p.1 → zSSq M2 b len T c p F (zWf (f :: fr)) 0 0 → zKvt p.1 o (f :: fr) → p.2.1 = nI o → zqks T c (f :: fr) (zqf T c f.1 p F) = r → zSfq 0 M M2 → WP w YX12_qTest (d + 8, SS, 0, 0) G (some (zXp (fun v0 M' L' R' => v0 = none ∧ L = L' ∧ R' = zRf t ∧ zSfq 0 M M' ∧ zRp M' b len T c r.1 ∧ (r.1.2.2.1 = 0 → zSSq M' b len T c r.1 r.2 [] 0 0)))) 2 [(1, .int (nI 1)), (0, .ref 177)] [] SS M2 L (zRf t) := by
    intro q
    induction q with
    | zero => intro M2 p F f fr o hq hS; exact absurd hS.1.2.2.1 (by omega)
    | succ q ih =>
      intro M2 p F f fr o hq hS hk ho hr hf
      obtain ⟨a1, a2, a3, a4, a5, a6⟩ := hS
      have hc := zTok_c hT a1
      have hpc := a1.2.2.1
      have hlen := zTok_len hT hpc
      have hl16 := a1.1.2.1
      have hk6 := hk.2.1
      have hW2 := zWds_fq hW hf
      obtain ⟨k, hk1⟩ : ∃ k, f.1 = k + 1 := ⟨f.1 - 1, by have h2 := hk.2.2.1; omega⟩
      rw [hk1] at hr
      have hsg := zSg (s := 91) hT (fun i hi => (a1.1.2.2 i hi).2) hpc (by decide) (by decide)
      refine wp_iload_n (q := 3) dX12_qTest_2 0 rfl rfl ?_
      refine wp_if_eqN (tgt := 110) (q := 6) dX12_qTest_3 (by decide) rfl (by omega) (fun hn => absurd hn (by first | omega | exact fun h => h | exact fun h => h trivial)) (fun _ => ?_)
      refine wp_aload_n (q := 7) dX12_qTest_6 1 rfl rfl ?_
      refine wp_getI (q := 10) dX12_qTest_7 zf_RX12_236 rfl zsh_177 rfl ?_
      rw [a1.2.1]
      refine wp_if_neN (tgt := 110) (q := 13) dX12_qTest_10 (by decide) rfl (by omega) (fun hn => absurd hn (by first | omega | exact fun h => h | exact fun h => h trivial)) (fun _ => ?_)
      refine wp_aload_n (q := 14) dX12_qTest_13 1 rfl rfl ?_
      refine wp_cvy (q := 17) (sp_mLook (d := d + 7) a1 hT) zm_X12_look zl_RX12_248 dX12_qTest_14 rfl (by omega) (Nat.le_of_ble_eq_true rfl) zsh_177 rfl rfl ?_
      rintro _ N1 _ _ ⟨rfl, rfl, rfl, c1, c2, c3, c4⟩
      have hp1 : zPf M2 N1 := ⟨c4, fun k k1 _ _ _ _ => c3 k k1⟩
      have e47 : N1 177 91 = nI o := by rw [c3 91 (by decide), a4, ho]
      have e46 := a5.2.2.1
      have hln := a5.2.2.2.2.2
      have e46' : N1 177 90 = nI (zWf (f :: fr)).length := by rw [c3 90 (by decide)]; exact e46
      refine wp_istore_n (q := 18) (loc' := [(2, _), (1, _), (0, _)]) dX12_qTest_17 rfl (by decide) rfl rfl ?_
      refine wp_iload_n (q := 19) dX12_qTest_18 0 rfl rfl ?_
      refine wp_bipush (q := 21) dX12_qTest_19 zq_bipush_91 rfl ?_
      refine wp_icmp_ne (tgt := 47) (q := 24) dX12_qTest_21 (by decide) rfl (fun z91 => ?_) (fun z91 => ?_)
      · skip
        have hz91 : ¬ (T p.1 0 = 3 ∧ T p.1 2 = 91) := fun e => z91 (hsg.mpr e)
        have h91 : zpS T p 91 = false := zpS_f.mpr hz91
        refine wp_aload_n (q := 48) dX12_qTest_47 2 rfl rfl ?_
        refine wp_aload_n (q := 49) dX12_qTest_48 2 rfl rfl ?_
        refine wp_getR (q := 52) dX12_qTest_49 zf_RX12_185 rfl zsh_177 (zr_177_75 _) rfl ?_
        refine wp_cvy (q := 55) (sp_mHere (d := d + 6) (w0 := 20) c1 hT (zWc_q 6 (zWds_p hW2 hp1) (by decide) rfl rfl (by decide) zsh_233)) zm_X12_isHere zl_RX12_259 dX12_qTest_52 rfl (by omega) (Nat.le_of_ble_eq_true rfl) zsh_177 rfl rfl ?_
        rintro _ N2 _ _ ⟨rfl, rfl, rfl, d1, d2, d3, d4⟩
        have hp2 : zPf M2 N2 := zPf_t hp1 ⟨d4, fun k k1 _ _ _ _ => d3 k k1⟩
        have g26 : N2 177 6 = M2 177 6 := by rw [d3 6 (by decide), c3 6 (by decide)]
        have g47 : N2 177 91 = nI o := by rw [hp2.2 91 (by decide) (by decide) (by decide) (by decide) (by decide), a4, ho]
        have g46 : N2 177 90 = nI (zWf (f :: fr)).length := by rw [hp2.2 90 (by decide) (by decide) (by decide) (by decide) (by decide)]; exact e46
        by_cases w20 : T p.1 4 = 20
        · rw [decide_eq_true w20]
          obtain ⟨z1, z2, -⟩ := zTok_4 hT hpc (by decide) w20
          rw [zqks_not w20] at hr
          refine wp_if_eq (tgt := 79) (q := 58) dX12_qTest_55 (by decide) rfl (fun hn => absurd hn (by decide)) (fun _ => ?_)
          refine wp_aload_n (q := 59) dX12_qTest_58 2 rfl rfl ?_
          refine wp_bipush (q := 61) dX12_qTest_59 zq_bipush_12 rfl ?_
          refine wp_aload_n (q := 62) dX12_qTest_61 2 rfl rfl ?_
          refine wp_getI (q := 65) dX12_qTest_62 zf_RX12_242 rfl zsh_177 rfl ?_
          rw [d2]
          by_cases o6 : o < 6
          · rw [zpe_o ho o6 z1] at hr
            refine wp_cvx (q := 68) (sp_mqOpens (d := d + 6) d1.2.1 g47 o6 g46 (by omega)) zm_X12_qOpens zl_RX12_624 dX12_qTest_65 rfl (by omega) (Nat.le_of_ble_eq_true rfl) zsh_177 rfl rfl ?_
            have hq5 : zQfq 0 91 N2 (zu (zu (zu N2 177 91 (nI (o + 1))) 246 (zWf (f :: fr)).length (nI 12)) 177 90 (nI ((zWf (f :: fr)).length + 1))) := zQfq_7 (zQfq_k (zQfq_7 zQfq_r (Or.inr rfl) (by omega))) (Or.inr rfl) (by omega)
            have g6 : (zu (zu (zu N2 177 91 (nI (o + 1))) 246 (zWf (f :: fr)).length (nI 12)) 177 90 (nI ((zWf (f :: fr)).length + 1))) 177 6 = M2 177 6 := by rw [hq5.2 6 (by decide) (by decide) (by decide)]; exact g26
            have g47' : (zu (zu (zu N2 177 91 (nI (o + 1))) 246 (zWf (f :: fr)).length (nI 12)) 177 90 (nI ((zWf (f :: fr)).length + 1))) 177 91 = nI (o + 1) := by rw [zu_k (by decide), zu_ne (by decide), zu_s]
            have gQ := zSQq_push (x := 12) (zSQq_7 (k := 91) (x := nI (o + 1)) (zSQq_p a5 hp2) (by decide) (by decide) (by decide)) (by omega) (by omega)
            have gA := zAt_qq d1 hq5 (by decide)
            obtain ⟨N5, hN5⟩ : ∃ N5, zu (zu (zu N2 177 91 (nI (o + 1))) 246 (zWf (f :: fr)).length (nI 12)) 177 90 (nI ((zWf (f :: fr)).length + 1)) = N5 := ⟨_, rfl⟩
            rw [hN5] at hq5 g6 g47' gQ gA
            rw [hN5]
            refine wp_aload_n (q := 69) dX12_qTest_68 2 rfl rfl ?_
            refine wp_aload_n (q := 70) dX12_qTest_69 2 rfl rfl ?_
            refine wp_getR (q := 73) dX12_qTest_70 zf_RX12_185 rfl zsh_177 (zr_177_75 _) rfl ?_
            refine wp_cvy (q := 76) (sp_masks (d := d + 4) (w0 := 20) gA hT (zWc_q 6 (zWds_fq hW2 (zSfq_t (zSfq_p zSfq_r hp2) hq5.1)) (by decide) rfl rfl (by decide) zsh_233)) zm_X12_asks zl_RX12_302 dX12_qTest_73 rfl (by omega) (Nat.le_of_ble_eq_true rfl) zsh_177 rfl rfl ?_
            rintro _ N6 _ _ ⟨rfl, rfl, rfl, x1, x2, x3⟩
            obtain ⟨x4, x5⟩ := x2 w20
            refine wp_goto (tgt := 2) dX12_qTest_76 (by decide) ?_
            refine WP.sub (loc' := [(1, _), (0, _)]) [1, 2] rfl ?_
            refine ih N6 (p.1 + 1, nI (o + 1), p.2.2.1, p.2.2.2) F (k, 0, 0, 0, 0, 12) (f :: fr) (o + 1) (by show c ≤ q + (p.1 + 1); omega) ⟨x4, ?_, a3, ?_, zSQq_p gQ x1, ?_⟩ ⟨⟨Or.inl rfl, Or.inl rfl, Or.inr (Or.inr ⟨rfl, rfl, rfl⟩), Or.inl rfl⟩, by omega, by have h2 := hk.2.2.1; show 8 ≤ k + (o + 1); omega, Or.inr ⟨(by decide : ¬ (12 : Nat) = 0), by omega, zKvt_m (Nat.le_succ _) _ _ hk⟩⟩ rfl hr (zSfq_p (zSfq_t (zSfq_p hf hp2) hq5.1) x1)
            · rw [x5, g6]; exact a2
            · rw [x1.2 91 (by decide) (by decide) (by decide) (by decide) (by decide)]; exact g47'
            · show 0 + F.length + ((zWf (f :: fr)).length + 1) + 1 ≤ p.1 + 1
              omega
          · have eo : o = 6 := by omega
            rw [eo] at ho g47
            rw [zpe_6 ho] at hr
            refine wp_cvx (q := 68) (sp_mqOpensB (d := d + 6) g47 d1.2.1) zm_X12_qOpens zl_RX12_624 dX12_qTest_65 rfl (by omega) (Nat.le_of_ble_eq_true rfl) zsh_177 rfl rfl ?_
            refine wp_aload_n (q := 69) dX12_qTest_68 2 rfl rfl ?_
            refine wp_aload_n (q := 70) dX12_qTest_69 2 rfl rfl ?_
            refine wp_getR (q := 73) dX12_qTest_70 zf_RX12_185 rfl zsh_177 (zr_177_75 _) rfl ?_
            refine wp_cvx (q := 76) (sp_masksB (d := d + 4) (bd := 4) (by rw [zu_k (by decide), zu_s]) (by decide) (by decide)) zm_X12_asks zl_RX12_302 dX12_qTest_73 rfl (by omega) (Nat.le_of_ble_eq_true rfl) zsh_177 rfl rfl ?_
            refine wp_goto (tgt := 2) dX12_qTest_76 (by decide) ?_
            refine WP.sub (loc' := [(1, _), (0, _)]) [1, 2] rfl ?_
            refine X2 _ (zSfq_7 (zSfq_7 (zSfq_p hf hp2) (by omega)) (by omega)) (zqPX (kd := 4) (y := nI (T p.1 1)) hr ?_ (by decide) (by decide) hrc zBd_5)
            rw [zfq_qf k _ F (by rw [zpf_22 a3]; exact (by decide : ¬ (4 : Nat) = 0)), zpf_22 a3]
        · rw [decide_eq_false w20]
          refine wp_if_eq (tgt := 79) (q := 58) dX12_qTest_55 (by decide) rfl (fun _ => ?_) (fun hn => absurd hn (by decide))
          have hS2 : zSSq N2 b len T c p F (zWf (f :: fr)) 0 0 := ⟨d1, by rw [g26]; exact a2, a3, by rw [g47]; exact ho.symm, zSQq_p a5 hp2, a6⟩
          obtain ⟨q1, hq1⟩ : ∃ q1, zqf T c (k + 1) p F = q1 := ⟨_, rfl⟩
          rw [hq1] at hr
          refine wp_aload_n (q := 80) dX12_qTest_79 2 rfl rfl ?_
          refine wp_cvy (q := 83) (sp_mqFact (d := d) hT (zWds_p hW2 hp2) hS2 ho hk6 (fun x hx => by have := zWf_t hk x hx; omega) w20 h91 hq1) zm_X12_qFact zl_RX12_651 dX12_qTest_80 rfl (by omega) (Nat.le_of_ble_eq_true rfl) zsh_177 rfl rfl ?_
          rintro _ N3 _ _ ⟨rfl, rfl, rfl, hf3, hR3, hS3⟩
          have hf3' := zSfq_t (zSfq_p hf hp2) hf3
          by_cases k0 : q1.1.2.2.1 = 0
          · obtain ⟨b1, b2, b3⟩ := hS3 k0
            have hE4 : zTsE N3 b len T c r p.1 := ⟨q1.1, q1.2, f, fr, o, b1, zKvt_m (by omega) _ _ hk, b3, hr, b2⟩
            skip
            refine wp_aload_n (q := 84) dX12_qTest_83 2 rfl rfl ?_
            refine wp_cvy (q := 87) (sp_mqDropsNots (d := d + 5) hE4) zm_X12_qDropsNots zl_RX12_654 dX12_qTest_84 rfl (by omega) (Nat.le_of_ble_eq_true rfl) zsh_177 rfl rfl ?_
            rintro _ N4 _ _ ⟨rfl, rfl, rfl, hf4, hB4⟩
            have hf4' := zSfq_t hf3' hf4
            have hbad : N4 177 5 = nI 0 := by
              obtain ⟨p2, F2, f2, fr2, o2, y1, -⟩ := hB4
              exact y1.1.2.1
            refine wp_aload_n (q := 88) dX12_qTest_87 2 rfl rfl ?_
            refine wp_getI (q := 91) dX12_qTest_88 zf_RX12_236 rfl zsh_177 rfl ?_
            rw [hbad]
            refine wp_if_neN (tgt := 105) (q := 94) dX12_qTest_91 (by decide) rfl (by omega) (fun hn => absurd hn (by first | omega | exact fun h => h | exact fun h => h trivial)) (fun _ => ?_)
            refine wp_aload_n (q := 95) dX12_qTest_94 2 rfl rfl ?_
            refine wp_cvy (q := 98) (sp_mqGoesOnTest (d := d + 3) hT (zWds_fq hW hf4') hB4 hrc) zm_X12_qGoesOnTest zl_RX12_657 dX12_qTest_95 rfl (by omega) (Nat.le_of_ble_eq_true rfl) zsh_177 rfl rfl ?_
            rintro _ N5 _ _ ⟨o5, rfl, rfl, rfl, hf5, g1, g2⟩
            have hf5' := zSfq_t hf4' hf5
            cases o5 with
            | true =>
              obtain ⟨p2, F2, f2, fr2, o2, y1, y2, y3, y4, y5⟩ := g1 rfl
              refine wp_if_eq (tgt := 105) (q := 101) dX12_qTest_98 (by decide) rfl (fun hn => absurd hn (by decide)) (fun _ => ?_)
              refine wp_iconst (q := 102) dX12_qTest_101 zq_iconst_1 rfl ?_
              refine wp_goto (tgt := 106) dX12_qTest_102 (by decide) ?_
              refine wp_istore_n (q := 107) (loc' := [(1, _), (2, _), (0, _)]) dX12_qTest_106 rfl (by decide) rfl rfl ?_
              refine wp_goto (tgt := 2) dX12_qTest_107 (by decide) ?_
              refine WP.sub (loc' := [(1, _), (0, _)]) [0, 2] rfl ?_
              exact ih N5 p2 F2 f2 fr2 o2 (by omega) y1 y2 y3 y4 hf5'
            | false =>
              refine wp_if_eq (tgt := 105) (q := 101) dX12_qTest_98 (by decide) rfl (fun _ => ?_) (fun hn => absurd hn (by decide))
              refine wp_iconst (q := 106) dX12_qTest_105 zq_iconst_0 rfl ?_
              refine wp_istore_n (q := 107) (loc' := [(1, _), (2, _), (0, _)]) dX12_qTest_106 rfl (by decide) rfl rfl ?_
              refine wp_goto (tgt := 2) dX12_qTest_107 (by decide) ?_
              refine wp_iload_n (q := 3) dX12_qTest_2 0 rfl rfl ?_
              refine wp_if_eqN (tgt := 110) (q := 6) dX12_qTest_3 (by decide) rfl (by omega) (fun _ => ?_) (fun hn => absurd hn (by first | omega | exact fun h => h | exact fun h => h trivial))
              refine WP.sub (loc' := [(0, _)]) [2] rfl ?_
              rcases g2 rfl with hx | ⟨p2, F2, f2, h1, h2, h3, h4⟩
              · exact C110x N5 hf5' hx
              · obtain ⟨y1, y2, y3, y4, y5, y6⟩ := h1
                exact C110 (zWl f2) F2 N5 p2 (by rw [h4]) y3 y1 y2 y4 y5 y6 (zdz_x h2 h3) (by rw [h4]; exact zdz_f h2 h3) hf5'
          · obtain ⟨g1, g2, g3⟩ := hR3.2.2 k0
            obtain ⟨kk, hkk⟩ : ∃ kk, q1.1.2.2.1 = kk := ⟨_, rfl⟩
            have hX : zPX N3 b len T c r := zqPX hr (show q1.1.2.2 = (q1.1.2.2.1, q1.1.2.2.2) from rfl) k0 g1 hrc ⟨g2, g3⟩
            rw [hkk] at g1 g2
            have hk0 : kk ≠ 0 := by rw [← hkk]; exact k0
            refine wp_aload_n (q := 84) dX12_qTest_83 2 rfl rfl ?_
            refine wp_cvx (q := 87) (sp_mqDropsNotsB (d := d + 5) g2 hk0 (by omega)) zm_X12_qDropsNots zl_RX12_654 dX12_qTest_84 rfl (by omega) (Nat.le_of_ble_eq_true rfl) zsh_177 rfl rfl ?_
            refine wp_aload_n (q := 88) dX12_qTest_87 2 rfl rfl ?_
            refine wp_getI (q := 91) dX12_qTest_88 zf_RX12_236 rfl zsh_177 rfl ?_
            rw [g2]
            refine wp_if_neN (tgt := 105) (q := 94) dX12_qTest_91 (by decide) rfl (by omega) (fun _ => ?_) (fun hn => absurd hn (by first | omega | exact fun h => h | exact fun h => h trivial))
            refine wp_iconst (q := 106) dX12_qTest_105 zq_iconst_0 rfl ?_
            refine wp_istore_n (q := 107) (loc' := [(1, _), (2, _), (0, _)]) dX12_qTest_106 rfl (by decide) rfl rfl ?_
            refine wp_goto (tgt := 2) dX12_qTest_107 (by decide) ?_
            refine wp_iload_n (q := 3) dX12_qTest_2 0 rfl rfl ?_
            refine wp_if_eqN (tgt := 110) (q := 6) dX12_qTest_3 (by decide) rfl (by omega) (fun _ => ?_) (fun hn => absurd hn (by first | omega | exact fun h => h | exact fun h => h trivial))
            refine WP.sub (loc' := [(0, _)]) [2] rfl ?_
            exact C110x N3 hf3' hX
      · skip
        have h91' := hsg.mp z91
        have h91 : zpS T p 91 = true := zpS_i.mpr h91'
        obtain ⟨z1, z2⟩ := zTok_3 hT hpc h91'.1
        rw [zqks_open h91 (zTok_n4 hT hpc (by omega))] at hr
        refine wp_aload_n (q := 25) dX12_qTest_24 2 rfl rfl ?_
        refine wp_bipush (q := 27) dX12_qTest_25 zq_bipush_25 rfl ?_
        refine wp_aload_n (q := 28) dX12_qTest_27 2 rfl rfl ?_
        refine wp_getI (q := 31) dX12_qTest_28 zf_RX12_242 rfl zsh_177 rfl ?_
        rw [c2]
        by_cases o6 : o < 6
        · rw [zpe_o ho o6 z1] at hr
          refine wp_cvx (q := 34) (sp_mqOpens (d := d + 6) c1.2.1 e47 o6 e46' (by omega)) zm_X12_qOpens zl_RX12_624 dX12_qTest_31 rfl (by omega) (Nat.le_of_ble_eq_true rfl) zsh_177 rfl rfl ?_
          refine wp_aload_n (q := 35) dX12_qTest_34 2 rfl rfl ?_
          refine wp_dup (q := 36) dX12_qTest_35 rfl rfl ?_
          refine wp_getI (q := 39) dX12_qTest_36 zf_RX12_242 rfl zsh_177 rfl ?_
          rw [zu_k (by decide), zu_ne (by decide), zu_k (by decide), c2]
          refine wp_iconst (q := 40) dX12_qTest_39 zq_iconst_1 rfl ?_
          refine wp_iaddN (q := 41) dX12_qTest_40 rfl ?_
          refine wp_putI (q := 44) dX12_qTest_41 zf_RX12_242 rfl zsh_177 rfl ?_
          refine wp_goto (tgt := 2) dX12_qTest_44 (by decide) ?_
          refine WP.sub (loc' := [(1, _), (0, _)]) [1, 2] rfl ?_
          have hq5 : zQfq 0 91 N1 (zu (zu (zu N1 177 91 (nI (o + 1))) 246 (zWf (f :: fr)).length (nI 25)) 177 90 (nI ((zWf (f :: fr)).length + 1))) := zQfq_7 (zQfq_k (zQfq_7 zQfq_r (Or.inr rfl) (by omega))) (Or.inr rfl) (by omega)
          refine ih _ (p.1 + 1, nI (o + 1), p.2.2.1, p.2.2.2) F (k, 0, 1600, 0, 1600, 25) (f :: fr) (o + 1) (by show c ≤ q + (p.1 + 1); omega) ⟨zAt_g (zAt_qq c1 hq5 (by decide)) hT h91'.1, ?_, a3, ?_, ?_, ?_⟩ ⟨⟨Or.inl rfl, Or.inl rfl, Or.inr (Or.inl rfl), Or.inr ⟨Nat.le_add_right _ _, Nat.le_add_right _ _⟩⟩, by omega, by have h2 := hk.2.2.1; show 8 ≤ k + (o + 1); omega, Or.inr ⟨(by decide : ¬ (25 : Nat) = 0), by omega, zKvt_m (Nat.le_succ _) _ _ hk⟩⟩ rfl hr ?_
          · rw [zu_k (by decide), hq5.2 6 (by decide) (by decide) (by decide), c3 6 (by decide)]; exact a2
          · rw [zu_k (by decide), zu_k (by decide), zu_ne (by decide), zu_s]
          · exact zSQq_7 (zSQq_push (zSQq_7 (zSQq_p a5 hp1) (by decide) (by decide) (by decide)) (by omega) (by decide)) (by decide) (by decide) (by decide)
          · show 0 + F.length + ((zWf (f :: fr)).length + 1) + 1 ≤ p.1 + 1
            omega
          · exact zSfq_7 (zSfq_t (zSfq_p hf hp1) hq5.1) (by omega)
        · have eo : o = 6 := by omega
          rw [eo] at ho e47
          rw [zpe_6 ho] at hr
          refine wp_cvx (q := 34) (sp_mqOpensB (d := d + 6) e47 c1.2.1) zm_X12_qOpens zl_RX12_624 dX12_qTest_31 rfl (by omega) (Nat.le_of_ble_eq_true rfl) zsh_177 rfl rfl ?_
          refine wp_aload_n (q := 35) dX12_qTest_34 2 rfl rfl ?_
          refine wp_dup (q := 36) dX12_qTest_35 rfl rfl ?_
          refine wp_getI (q := 39) dX12_qTest_36 zf_RX12_242 rfl zsh_177 rfl ?_
          rw [zu_k (by decide), zu_k (by decide), c2]
          refine wp_iconst (q := 40) dX12_qTest_39 zq_iconst_1 rfl ?_
          refine wp_iaddN (q := 41) dX12_qTest_40 rfl ?_
          refine wp_putI (q := 44) dX12_qTest_41 zf_RX12_242 rfl zsh_177 rfl ?_
          refine wp_goto (tgt := 2) dX12_qTest_44 (by decide) ?_
          refine WP.sub (loc' := [(1, _), (0, _)]) [1, 2] rfl ?_
          refine X2 _ (zSfq_7 (zSfq_7 (zSfq_7 (zSfq_p hf hp1) (by omega)) (by omega)) (by omega)) (zPX_fr (zqPX (M := zu (zu N1 177 5 (nI 4)) 177 6 (nI (T p.1 1))) (kd := 4) (y := nI (T p.1 1)) hr ?_ (by decide) (by decide) hrc zBd_5) (zu_k (by decide)) (zu_k (by decide)))
          rw [zfq_qf k _ F (by rw [zpf_22 a3]; exact (by decide : ¬ (4 : Nat) = 0)), zpf_22 a3]
  refine wp_iconst (q := 1) dX12_qTest_0 zq_iconst_1 rfl ?_
  refine wp_istore_n (q := 2) (loc' := [(1, _), (0, _)]) dX12_qTest_1 rfl (by decide) rfl rfl ?_
  refine WP.sub (loc' := [(1, _), (0, _)]) [0, 1] rfl ?_
  exact loop c M p F (8, 0, 1600, 0, 1600, 0) [] o (by omega) h ⟨⟨Or.inl rfl, Or.inl rfl, Or.inl rfl, Or.inr ⟨Nat.le_add_right _ _, Nat.le_add_right _ _⟩⟩, ho6, Nat.le_add_right _ _, Or.inl ⟨rfl, rfl⟩⟩ ho hrf zSfq_r

