def zny (b : Nat → Nat) (s k : Nat) : Nat := zBE ((zby b s k).map (fun x => x - 96))
theorem zny_s {b : Nat → Nat} {s k : Nat} : zny b s (k + 1) = 27 * zny b s k + (b (s + k) - 96) := by
  unfold zny zBE
  rw [zby_succ, List.map_append, List.foldl_append]
  rfl
theorem zLE_m : ∀ l : List Nat, zLE (l.map (fun x => x - 96)) = zeL l
  | [] => rfl
  | x :: r => by
    show (x - 96) + 27 * zLE (r.map (fun x => x - 96)) = (x - 96) + 27 * zeL r
    rw [zLE_m r]
theorem zny_nm {b : Nat → Nat} {s r : Nat} (h1 : 1 ≤ r) (h6 : r ≤ 6) (hb : ∀ k, k < r → zcl (b (s + k)) = 1) : zNm (zeL (zby b s r)) (zny b s r) := by
  refine ⟨(zby b s r).map (fun x => x - 96), by rw [List.length_map, zby_len]; exact h1, by rw [List.length_map, zby_len]; exact h6, fun c hc => ?_, (zLE_m _).symm, rfl⟩
  obtain ⟨x, hx, rfl⟩ := List.mem_map.mp hc
  obtain ⟨k, hk, rfl⟩ := List.mem_map.mp hx
  have := zcl_1 (hb k (List.mem_range.mp hk))
  omega
theorem zny_lt {b : Nat → Nat} {s : Nat} : ∀ k, (∀ j, j < k → zcl (b (s + j)) = 1) → zny b s k < 27 ^ k := by
  intro k
  induction k with
  | zero => intro _; exact Nat.one_pos
  | succ k ih =>
    intro h
    have h1 := ih (fun j hj => h j (by omega))
    have h2 := zcl_1 (h k (by omega))
    rw [zny_s, Nat.pow_succ]
    omega
def znm (T : zDD) (b : Nat → Nat) (i : Nat) : Nat := if T i 0 = 1 ∧ ¬ T i 4 < 24 ∧ T i 3 ≤ 6 then zny b (T i 1) (T i 3) else 0
def zNaP (M0 M : zMI) (b : Nat → Nat) (len : Nat) (T : zDD) (c i : Nat) : Prop := zPf M0 M ∧ (T i 0 = 1 → ¬ T i 4 < 24 → T i 3 ≤ 6 → zAt M b len T c (i + 1) ∧ M 177 6 = M0 177 6 ∧ M 177 34 = nI (T i 1) ∧ zNm (T i 2) (zny b (T i 1) (T i 3))) ∧ (T i 0 = 1 → ¬ T i 4 < 24 → ¬ T i 3 ≤ 6 → zBd M 1 (nI (T i 1 + 6))) ∧ (¬ (T i 0 = 1 ∧ ¬ T i 4 < 24) → zBd M 1 (nI (T i 1)))
set_option maxHeartbeats 4000000 in
set_option maxRecDepth 100000 in
theorem sp_mname {d t len c i : Nat} {M : zMI} {L : zML} {b : Nat → Nat} {T : zDD} (h : zAt M b len T c i) (hT : zTok b len T c) (hW : zWds M) : Sy yX12_name YX12_name (d + 3) [.ref 177] M L (zRf t) (fun v0 M' L' R' => v0 = some (.long (lN (znm T b i))) ∧ L = L' ∧ R' = zRf t ∧ zNaP M M' b len T c i) := by
  refine Sp.of (by decide +kernel) rfl (fun h => by first | exact h | cases h) (Nat.le_of_ble_eq_true rfl) ?_
  intro w G
  have h0 := h.2.1
  have hi := h.2.2.1
  have hlen := zTok_len hT hi
  obtain ⟨hl3, hl16, hb⟩ := h.1
  obtain ⟨s, hs⟩ : ∃ s, T i 1 = s := ⟨_, rfl⟩
  have no : ∀ (M2 : zMI), ¬ (T i 0 = 1 ∧ ¬ T i 4 < 24) → zPf M M2 → M2 177 5 = nI 0 → M2 177 2 = nI s → WP w YX12_name (d + 3, SS, 0, 0) G (some (zXp (fun v0 M' L' R' => v0 = some (.long (lN (znm T b i))) ∧ L = L' ∧ R' = zRf t ∧ zNaP M M' b len T c i))) 37 [(0, .ref 177)] [] SS M2 L (zRf t) := by
    intro M2 hx hp g5 g2
    have hz : znm T b i = 0 := by unfold znm; rw [if_neg (fun e => hx ⟨e.1, e.2.1⟩)]
    refine wp_aload_n (q := 38) dX12_name_37 0 rfl rfl ?_
    refine wp_iconst (q := 39) dX12_name_38 zq_iconst_1 rfl ?_
    refine wp_aload_n (q := 40) dX12_name_39 0 rfl rfl ?_
    refine wp_getI (q := 43) dX12_name_40 zf_RX12_242 rfl zsh_177 rfl ?_
    rw [g2]
    refine wp_cvx (q := 46) (sp_mfail (d := 0) g5) zm_X12_fail zl_RX12_266 dX12_name_43 rfl (by omega) (Nat.le_of_ble_eq_true rfl) zsh_177 rfl rfl ?_
    refine wp_lconst (q := 47) dX12_name_46 zq_lconst_0 rfl ?_
    exact wp_lreturn dX12_name_47 rfl ⟨rfl, ⟨by rw [hz], rfl, rfl, zPf_5 hp, fun e1 e2 => absurd ⟨e1, e2⟩ hx, fun e1 e2 => absurd ⟨e1, e2⟩ hx, fun _ => by rw [hs]; exact zBd_5⟩⟩ rfl rfl
  refine wp_aload_n (q := 1) dX12_name_0 0 rfl rfl ?_
  refine wp_getI (q := 4) dX12_name_1 zf_RX12_236 rfl zsh_177 rfl ?_
  rw [h0]
  refine wp_if_eqN (tgt := 9) (q := 7) dX12_name_4 (by decide) rfl (by omega) (fun _ => ?_) (fun hn => absurd hn (by first | omega | exact fun h => h | exact fun h => h trivial))
  refine wp_aload_n (q := 10) dX12_name_9 0 rfl rfl ?_
  refine wp_cvy (q := 13) (sp_mLook (d := 0) h hT) zm_X12_look zl_RX12_248 dX12_name_10 rfl (by omega) (Nat.le_of_ble_eq_true rfl) zsh_177 rfl rfl ?_
  rintro _ M2 L2 _ ⟨rfl, rfl, rfl, q1, q2, q3, q4⟩
  have hp : zPf M M2 := ⟨q4, fun k k1 _ _ _ _ => q3 k k1⟩
  have hdg := zlkv_l (b := b) (len := len) (s := T i 1) (fun c => (hb _ c).2)
  by_cases cd : T i 1 < len ∧ zcl (b (T i 1)) = 1
  · skip
    have ec := hlen.2.mp cd.1
    have hk := hT.2.2.1 i ec
    obtain ⟨k1, -, k3⟩ := zTk_01 hk
    obtain ⟨a1, a2, a3, a4, a5, a6, a7, a8⟩ := hk
    have hEd := k3 (by omega)
    have h4 := zEn_4 hT hl16 ec h.2.2.2.2 (by omega)
    refine wp_csx (q := 16) (sp_misLetter (d := 0) (o := true) ⟨fun _ => rfl, fun _ => hdg.mpr cd⟩) zm_X12_isLetter zl_RX12_252 dX12_name_13 rfl (by omega) (Nat.le_of_ble_eq_true rfl) rfl ?_
    rw [zb01_t]
    refine wp_if_eqN (tgt := 37) (q := 19) dX12_name_16 (by decide) rfl (by omega) (fun hn => absurd hn (by first | omega | exact fun h => h | exact fun h => h trivial)) (fun _ => ?_)
    refine wp_aload_n (q := 20) dX12_name_19 0 rfl rfl ?_
    refine wp_getI (q := 23) dX12_name_20 zf_RX12_242 rfl zsh_177 rfl ?_
    rw [q2]
    refine wp_aload_n (q := 24) dX12_name_23 0 rfl rfl ?_
    refine wp_getI (q := 27) dX12_name_24 zf_RX12_256 rfl zsh_177 rfl ?_
    rw [q3 4 (by decide)]
    refine wp_icmp_eq (tgt := 37) (q := 30) dX12_name_27 (by decide) rfl (fun k => ?_) (fun k => ?_)
    · skip
      refine WP.sub (loc' := [(0, _)]) [0] rfl ?_
      exact no M2 (fun e => by have := h4.mp k.symm; omega) hp q1.2.1 (by rw [q2, hs])
    · skip
      have h04 : T i 0 ≠ 4 := fun e => k (h4.mpr e).symm
      have h01 : T i 0 = 1 := k1.mpr ⟨cd.2, h04⟩
      obtain ⟨o, ho⟩ : ∃ o, decide (T i 4 < 24) = o := ⟨_, rfl⟩
      refine wp_aload_n (q := 31) dX12_name_30 0 rfl rfl ?_
      refine wp_cvy (q := 34) (sp_misOwnHere (d := 0) q1 hT ⟨fun w hw i x hx => by rw [q4 _ (by omega)]; exact hW.1 w hw i x hx, fun w hw i x hx => by rw [q4 _ (by omega)]; exact hW.2 w hw i x hx⟩ ho) zm_X12_isOwnHere zl_RX12_280 dX12_name_31 rfl (by omega) (Nat.le_of_ble_eq_true rfl) zsh_177 rfl rfl ?_
      rintro _ M3 L3 _ ⟨rfl, rfl, rfl, r1, r2, r3, r4⟩
      have hp3 : zPf M M3 := zPf_t hp ⟨r4, fun k k1 _ _ _ _ => r3 k k1⟩
      cases o with
      | true =>
        have hlt := of_decide_eq_true ho
        rw [zb01_t]
        refine wp_if_eqN (tgt := 48) (q := 37) dX12_name_34 (by decide) rfl (by omega) (fun hn => absurd hn (by first | omega | exact fun h => h | exact fun h => h trivial)) (fun _ => ?_)
        refine WP.sub (loc' := [(0, _)]) [0] rfl ?_
        exact no M3 (fun e => e.2 hlt) hp3 r1.2.1 (by rw [r2, hs])
      | false =>
        have hnl := of_decide_eq_false ho
        rw [zb01_f]
        refine wp_if_eqN (tgt := 48) (q := 37) dX12_name_34 (by decide) rfl (by omega) (fun _ => ?_) (fun hn => absurd hn (by first | omega | exact fun h => h | exact fun h => h trivial))
        obtain ⟨r, hr⟩ : ∃ r, T i 3 = r := ⟨_, rfl⟩
        rw [hs, hr] at hEd
        rw [hEd] at a1 a2 a4 a6
        rw [hs] at a1 a4 a6
        have hnext := (a6 (by rw [← hs]; omega)).2.2.2
        have hlet : ∀ k, k < r → zcl (b (s + k)) = 1 := fun k hk => by rw [a4 (s + k) (by omega) (by omega), ← hs]; exact cd.2
        have hv9 : ∀ k, k ≤ 6 → k ≤ r → zny b s k < 387420489 := fun k hk6 hkr => by
          have := zny_lt (b := b) (s := s) k (fun j hj => hlet j (by omega))
          exact Nat.lt_of_lt_of_le this (Nat.le_trans (Nat.pow_le_pow_right (by decide) hk6) (by decide))
        have a7' := a7 cd.2
        rw [hr, hs] at a7'
        have loop : ∀ q k (M3 : zMI), k + q = r → k ≤ 6 → zPf M M3 → M3 177 5 = nI 0 → M3 177 6 = M 177 6 → M3 177 2 = nI (s + k) → M3 177 34 = nI s → M3 177 3 = nI len → (∀ j, j < len → M3 178 j = nI (b j)) → WP w YX12_name (d + 3, SS, 0, 0) G (some (zXp (fun v0 M' L' R' => v0 = some (.long (lN (znm T b i))) ∧ L = L' ∧ R' = zRf t ∧ zNaP M M' b len T c i))) 58 [(1, .long (lN (zny b s k))), (0, .ref 177)] [] SS M3 L (zRf t) := by
          intro q
          induction q with
          | zero =>
            intro k M3 hkq hk6 gp g5 g6 g2 g34 g3 gt
            rw [show k = r by omega] at g2 hk6 ⊢
            have v9 := hv9 r hk6 (Nat.le_refl _)
            rw [Nat.min_eq_left hk6] at a7'
            have hz : znm T b i = zny b s r := by unfold znm; rw [if_pos ⟨h01, hnl, by omega⟩, hs, hr]
            have at145 : WP w YX12_name (d + 3, SS, 0, 0) G (some (zXp (fun v0 M' L' R' => v0 = some (.long (lN (znm T b i))) ∧ L = L' ∧ R' = zRf t ∧ zNaP M M' b len T c i))) 145 [(1, .long (lN (zny b s r))), (0, .ref 177)] [] SS M3 L (zRf t) := by
              refine wp_aload_n (q := 146) dX12_name_145 1 rfl rfl ?_
              refine wp_aload_n (q := 147) dX12_name_146 1 rfl rfl ?_
              refine wp_getI (q := 150) dX12_name_147 zf_RX12_242 rfl zsh_177 rfl ?_
              rw [g2]
              refine wp_putI (q := 153) dX12_name_150 zf_RX12_256 rfl zsh_177 rfl ?_
              refine wp_lload_n (q := 154) dX12_name_153 0 rfl rfl ?_
              have gp4 : zPf M (zu M3 177 4 (nI (s + r))) := ⟨fun x hx => by rw [zu_ne hx]; exact gp.1 x hx, fun k k1 k2 k3 k4 k5 => by rw [zu_k k2]; exact gp.2 k k1 k2 k3 k4 k5⟩
              exact wp_lreturn dX12_name_154 rfl ⟨rfl, ⟨by rw [hz], rfl, rfl, gp4, fun _ _ _ => ⟨zAt_s h hT ec gp4 (by rw [zu_k (by decide)]; exact g5) (by rw [zu_k (by decide), g2]; unfold zEd; rw [if_neg (by omega), hs, hr]) (by rw [zu_s]; have := zEn_w (T := T) (i := i) (by omega); unfold zEd at this; rw [if_neg (by omega), hs, hr] at this; exact this), by rw [zu_k (by decide)]; exact g6, by rw [zu_k (by decide), hs]; exact g34, by rw [a7', hs, hr]; exact zny_nm (by omega) hk6 hlet⟩, fun _ _ e => absurd (by omega) e, fun e => absurd ⟨h01, hnl⟩ e⟩⟩ rfl rfl
            refine wp_aload_n (q := 59) dX12_name_58 1 rfl rfl ?_
            refine wp_getI (q := 62) dX12_name_59 zf_RX12_242 rfl zsh_177 rfl ?_
            rw [g2]
            refine wp_aload_n (q := 63) dX12_name_62 1 rfl rfl ?_
            refine wp_getI (q := 66) dX12_name_63 zf_RX12_245 rfl zsh_177 rfl ?_
            rw [g3]
            refine wp_icmp_geN (tgt := 145) (q := 69) dX12_name_66 (by decide) rfl (by omega) (by omega) (fun c => ?_) (fun c => ?_)
            · skip
              refine WP.sub (loc' := [(1, _), (0, _)]) [0, 1] rfl ?_
              exact at145
            · skip
              have hn := hnext c
              refine wp_aload_n (q := 70) dX12_name_69 1 rfl rfl ?_
              refine wp_getR (q := 73) dX12_name_70 zf_RX12_7 rfl zsh_177 (zr_177_0 _) rfl ?_
              refine wp_aload_n (q := 74) dX12_name_73 1 rfl rfl ?_
              refine wp_getI (q := 77) dX12_name_74 zf_RX12_242 rfl zsh_177 rfl ?_
              rw [g2]
              refine wp_iald (q := 78) _ dX12_name_77 zsh_178 rfl (by omega) (by decide) rfl ?_
              rw [gt _ c]
              refine wp_csx (q := 81) (sp_misLetter (d := 0) (o := false) ⟨fun x => absurd ((zlt_1 (hb _ c).2).mp x) (fun e => hn (by rw [e, ← hs]; exact cd.2.symm)), fun x => by cases x⟩) zm_X12_isLetter zl_RX12_252 dX12_name_78 rfl (by omega) (Nat.le_of_ble_eq_true rfl) rfl ?_
              rw [zb01_f]
              refine wp_if_eqN (tgt := 145) (q := 84) dX12_name_81 (by decide) rfl (by omega) (fun _ => ?_) (fun hn => absurd hn (by first | omega | exact fun h => h | exact fun h => h trivial))
              refine WP.sub (loc' := [(1, _), (0, _)]) [0, 1] rfl ?_
              exact at145
          | succ q ih =>
            intro k M3 hkq hk6 gp g5 g6 g2 g34 g3 gt
            have hd := hlet k (by omega)
            have hd2 := zcl_1 hd
            have v9 := hv9 k hk6 (by omega)
            refine wp_aload_n (q := 59) dX12_name_58 1 rfl rfl ?_
            refine wp_getI (q := 62) dX12_name_59 zf_RX12_242 rfl zsh_177 rfl ?_
            rw [g2]
            refine wp_aload_n (q := 63) dX12_name_62 1 rfl rfl ?_
            refine wp_getI (q := 66) dX12_name_63 zf_RX12_245 rfl zsh_177 rfl ?_
            rw [g3]
            refine wp_icmp_geN (tgt := 145) (q := 69) dX12_name_66 (by decide) rfl (by omega) (by omega) (fun hn => absurd hn (by first | omega | exact fun h => h | exact fun h => h trivial)) (fun _ => ?_)
            refine wp_aload_n (q := 70) dX12_name_69 1 rfl rfl ?_
            refine wp_getR (q := 73) dX12_name_70 zf_RX12_7 rfl zsh_177 (zr_177_0 _) rfl ?_
            refine wp_aload_n (q := 74) dX12_name_73 1 rfl rfl ?_
            refine wp_getI (q := 77) dX12_name_74 zf_RX12_242 rfl zsh_177 rfl ?_
            rw [g2]
            refine wp_iald (q := 78) _ dX12_name_77 zsh_178 rfl (by omega) (by decide) rfl ?_
            rw [gt _ (by omega)]
            refine wp_csx (q := 81) (sp_misLetter (d := 0) (o := true) ⟨fun _ => rfl, fun _ => (zlt_1 (hb _ (by omega)).2).mpr hd⟩) zm_X12_isLetter zl_RX12_252 dX12_name_78 rfl (by omega) (Nat.le_of_ble_eq_true rfl) rfl ?_
            rw [zb01_t]
            refine wp_if_eqN (tgt := 145) (q := 84) dX12_name_81 (by decide) rfl (by omega) (fun hn => absurd hn (by first | omega | exact fun h => h | exact fun h => h trivial)) (fun _ => ?_)
            refine wp_aload_n (q := 85) dX12_name_84 1 rfl rfl ?_
            refine wp_getI (q := 88) dX12_name_85 zf_RX12_242 rfl zsh_177 rfl ?_
            rw [g2]
            refine wp_aload_n (q := 89) dX12_name_88 1 rfl rfl ?_
            refine wp_getI (q := 92) dX12_name_89 zf_RX12_284 rfl zsh_177 rfl ?_
            rw [g34]
            refine wp_isubN (q := 93) dX12_name_92 (by omega) rfl ?_
            rw [show s + k - s = k by omega]
            refine wp_bipush (q := 95) dX12_name_93 zq_bipush_6 rfl ?_
            refine wp_icmp_neN (tgt := 109) (q := 98) dX12_name_95 (by decide) rfl (by omega) (by omega) (fun c6 => ?_) (fun c6 => ?_)
            · skip
              refine wp_ldc2_w (q := 112) dX12_name_109 zk_RX12_287 rfl ?_
              rw [zlitL 27]
              refine wp_lload_n (q := 113) dX12_name_112 0 rfl rfl ?_
              refine wp_lmulN (q := 114) dX12_name_113 rfl ?_
              refine wp_aload_n (q := 115) dX12_name_114 1 rfl rfl ?_
              refine wp_getR (q := 118) dX12_name_115 zf_RX12_7 rfl zsh_177 (zr_177_0 _) rfl ?_
              refine wp_aload_n (q := 119) dX12_name_118 1 rfl rfl ?_
              refine wp_getI (q := 122) dX12_name_119 zf_RX12_242 rfl zsh_177 rfl ?_
              rw [g2]
              refine wp_iald (q := 123) _ dX12_name_122 zsh_178 rfl (by omega) (by decide) rfl ?_
              rw [gt _ (by omega)]
              refine wp_i2lN (q := 124) dX12_name_123 (by omega) rfl ?_
              refine wp_laddN (q := 125) dX12_name_124 rfl ?_
              refine wp_ldc2_w (q := 128) dX12_name_125 zk_RX12_289 rfl ?_
              rw [zlitL 97]
              refine wp_lsubN (q := 129) dX12_name_128 (by omega) rfl ?_
              refine wp_lconst (q := 130) dX12_name_129 zq_lconst_1 rfl ?_
              refine wp_laddN (q := 131) dX12_name_130 rfl ?_
              rw [show 27 * zny b s k + b (s + k) - 97 + 1 = zny b s (k + 1) from by rw [zny_s]; omega]
              refine wp_lstore_n (q := 132) (loc' := [(1, _), (0, _)]) dX12_name_131 rfl (by decide) rfl rfl ?_
              refine wp_aload_n (q := 133) dX12_name_132 1 rfl rfl ?_
              refine wp_dup (q := 134) dX12_name_133 rfl rfl ?_
              refine wp_getI (q := 137) dX12_name_134 zf_RX12_242 rfl zsh_177 rfl ?_
              rw [g2]
              refine wp_iconst (q := 138) dX12_name_137 zq_iconst_1 rfl ?_
              refine wp_iaddN (q := 139) dX12_name_138 rfl ?_
              refine wp_putI (q := 142) dX12_name_139 zf_RX12_242 rfl zsh_177 rfl ?_
              refine wp_goto (tgt := 58) dX12_name_142 (by decide) ?_
              refine WP.sub (loc' := [(1, _), (0, _)]) [0, 1] rfl ?_
              exact ih (k + 1) _ (by omega) (by omega) ⟨fun x hx => by rw [zu_ne hx]; exact gp.1 x hx, fun k k1 k2 k3 k4 k5 => by rw [zu_k k1]; exact gp.2 k k1 k2 k3 k4 k5⟩ (by rw [zu_k (by decide)]; exact g5) (by rw [zu_k (by decide)]; exact g6) zu_s (by rw [zu_k (by decide)]; exact g34) (by rw [zu_k (by decide)]; exact g3) (fun j hj => by rw [zu_ne (by decide)]; exact gt j hj)
            · skip
              have hz : znm T b i = 0 := by unfold znm; rw [if_neg (fun e => by omega)]
              refine wp_aload_n (q := 99) dX12_name_98 1 rfl rfl ?_
              refine wp_iconst (q := 100) dX12_name_99 zq_iconst_1 rfl ?_
              refine wp_aload_n (q := 101) dX12_name_100 1 rfl rfl ?_
              refine wp_getI (q := 104) dX12_name_101 zf_RX12_242 rfl zsh_177 rfl ?_
              rw [g2, c6]
              refine wp_cvx (q := 107) (sp_mfail (d := 0) g5) zm_X12_fail zl_RX12_266 dX12_name_104 rfl (by omega) (Nat.le_of_ble_eq_true rfl) zsh_177 rfl rfl ?_
              refine wp_lconst (q := 108) dX12_name_107 zq_lconst_0 rfl ?_
              exact wp_lreturn dX12_name_108 rfl ⟨rfl, ⟨by rw [hz], rfl, rfl, zPf_5 gp, fun _ _ e => absurd e (by omega), fun _ _ _ => by rw [hs]; exact zBd_5, fun e => absurd ⟨h01, hnl⟩ e⟩⟩ rfl rfl
        refine wp_aload_n (q := 49) dX12_name_48 0 rfl rfl ?_
        refine wp_aload_n (q := 50) dX12_name_49 0 rfl rfl ?_
        refine wp_getI (q := 53) dX12_name_50 zf_RX12_242 rfl zsh_177 rfl ?_
        rw [r2, hs]
        refine wp_putI (q := 56) dX12_name_53 zf_RX12_284 rfl zsh_177 rfl ?_
        refine wp_lconst (q := 57) dX12_name_56 zq_lconst_0 rfl ?_
        refine wp_lstore_n (q := 58) (loc' := [(1, _), (0, _)]) dX12_name_57 rfl (by decide) rfl rfl ?_
        refine WP.sub (loc' := [(1, _), (0, _)]) [0, 1] rfl ?_
        exact loop r 0 _ (Nat.zero_add _) (by omega) ⟨fun x hx => by rw [zu_ne hx]; exact hp3.1 x hx, fun k k1 k2 k3 k4 k5 => by rw [zu_k k5]; exact hp3.2 k k1 k2 k3 k4 k5⟩ (by rw [zu_k (by decide)]; exact r1.2.1) (by rw [zu_k (by decide), r3 6 (by decide), q3 6 (by decide)]) (by rw [zu_k (by decide), r2, hs]; rfl) zu_s (by rw [zu_k (by decide), r3 3 (by decide), q3 3 (by decide)]; exact hl3) (fun j hj => by rw [zu_ne (by decide), r4 178 (by decide), q4 178 (by decide)]; exact (hb j hj).1)
  · skip
    refine wp_csx (q := 16) (sp_misLetter (d := 0) (o := false) ⟨fun x => absurd (hdg.mp x) cd, fun x => by cases x⟩) zm_X12_isLetter zl_RX12_252 dX12_name_13 rfl (by omega) (Nat.le_of_ble_eq_true rfl) rfl ?_
    rw [zb01_f]
    refine wp_if_eqN (tgt := 37) (q := 19) dX12_name_16 (by decide) rfl (by omega) (fun _ => ?_) (fun hn => absurd hn (by first | omega | exact fun h => h | exact fun h => h trivial))
    refine WP.sub (loc' := [(0, _)]) [0] rfl ?_
    refine no M2 (fun e => ?_) hp q1.2.1 (by rw [q2, hs])
    by_cases ec : i + 1 < c
    · exact cd ⟨hlen.2.mpr ec, ((zTk_01 (hT.2.2.1 i ec)).1.mp e.1).1⟩
    · have := hT.2.2.2.1
      rw [show c - 1 = i by omega, e.1] at this
      omega
set_option maxHeartbeats 4000000 in
set_option maxRecDepth 100000 in
theorem sp_mnameB {d t bd : Nat} {M : zMI} {L : zML} (h : M 177 5 = nI bd) (h0 : bd ≠ 0) (h9 : bd < 10) : Sx yX12_name YX12_name (d + 3) [.ref 177] M L (zRf t) (some (.long (lN 0))) M L (zRf t) := by
  refine Sp.of (by decide +kernel) rfl (fun h => by first | exact h | cases h) (Nat.le_of_ble_eq_true rfl) ?_
  intro w G
  refine wp_aload_n (q := 1) dX12_name_0 0 rfl rfl ?_
  refine wp_getI (q := 4) dX12_name_1 zf_RX12_236 rfl zsh_177 rfl ?_
  rw [h]
  refine wp_if_eqN (tgt := 9) (q := 7) dX12_name_4 (by decide) rfl (by omega) (fun hn => absurd hn (by first | omega | exact fun h => h | exact fun h => h trivial)) (fun _ => ?_)
  refine wp_lconst (q := 8) dX12_name_7 zq_lconst_0 rfl ?_
  exact wp_lreturn dX12_name_8 rfl ⟨rfl, rfl, rfl, rfl, rfl⟩ rfl rfl

