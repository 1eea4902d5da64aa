theorem zfP_i {w : Nat} : zfP w = if zfW w < 5 then zfW w else 99 := by
  unfold zfP zfW
  by_cases c1 : w = 16
  · subst c1; rfl
  by_cases c2 : w = 1
  · subst c2; rfl
  by_cases c3 : w = 2
  · subst c3; rfl
  by_cases c4 : w = 9
  · subst c4; rfl
  by_cases c5 : w = 6
  · subst c5; rfl
  rw [if_neg c1, if_neg c2, if_neg c3, if_neg c4, if_neg c5, if_neg c1, if_neg c2, if_neg c3, if_neg c4, if_neg c5]
  split
  · rfl
  · rfl
theorem zfW_w {x k : Nat} (h : zfW x = k) (hk : k ≤ 5) : x < 30 := by
  obtain ⟨a0, a1, a2, a3, a4, a5⟩ := zfW_i h
  have hc : k = 0 ∨ k = 1 ∨ k = 2 ∨ k = 3 ∨ k = 4 ∨ k = 5 := by omega
  rcases hc with e | e | e | e | e | e
  · rw [a0 e]; decide
  · rw [a1 e]; decide
  · rw [a2 e]; decide
  · rw [a3 e]; decide
  · rw [a4 e]; decide
  · rw [a5 e]; decide
def zPXq (M : zMI) (b : Nat → Nat) (len : Nat) (T : zDD) (c : Nat) (r : zPF) : Prop := zPX M b len T c r ∧ ∃ n, M 177 88 = nI n ∧ n ≤ 1600
theorem zCb_Q {M : zMI} {g B : Nat} {F : zFl} {W : List Nat} (h : zSQq M g F W B) : ∃ n, M 177 88 = nI n ∧ n ≤ 1600 := ⟨_, h.1, by have := h.2.2.2.2.2; omega⟩
set_option maxHeartbeats 4000000 in
set_option maxRecDepth 100000 in
theorem sp_mqPartTold {d t len c g P : Nat} {M : zMI} {L : zML} {b : Nat → Nat} {T : zDD} {W0 : List Nat} {r : zPF} (hT : zTok b len T c) (hW : zWds M) (h : zPAq M b len T c g W0 r P) (hrc : r.1.1 < c) : Sy yX12_qPartTold YX12_qPartTold (d + 5) [.ref 177] M L (zRf t) (fun v0 M' L' R' => v0 = none ∧ L = L' ∧ R' = zRf t ∧ zSfq g M M' ∧ (zPXq M' b len T c r ∨ zPBq M' b len T c g W0 r P)) := by
  refine Sp.of (by decide +kernel) rfl (fun h => by first | exact h | cases h) (Nat.le_of_ble_eq_true rfl) ?_
  intro w G
  have badx : ∀ M2 : zMI, zPXq M2 b len T c r → zSfq g M M2 → WP w YX12_qPartTold (d + 5, SS, 0, 0) G (some (zXp (fun v0 M' L' R' => v0 = none ∧ L = L' ∧ R' = zRf t ∧ zSfq g M M' ∧ (zPXq M' b len T c r ∨ zPBq M' b len T c g W0 r P)))) 184 [(0, .ref 177)] [] SS M2 L (zRf t) := by
    intro M2 hx hs
    have hx' := hx
    obtain ⟨⟨x1, x2, x3, x4⟩, -⟩ := hx
    obtain ⟨x5, x6, x7⟩ := x4 x1
    obtain ⟨kk, hkk⟩ : ∃ kk, r.1.2.2.1 = kk := ⟨_, rfl⟩
    rw [hkk] at x5 x6 x1
    refine wp_aload_n (q := 185) dX12_qPartTold_184 0 rfl rfl ?_
    refine wp_getI (q := 188) dX12_qPartTold_185 zf_RX12_236 rfl zsh_177 rfl ?_
    rw [x6]
    refine wp_if_eqN (tgt := 192) (q := 191) dX12_qPartTold_188 (by decide) rfl (by omega) (fun hn => absurd hn (by first | omega | exact fun h => h | exact fun h => h trivial)) (fun _ => ?_)
    exact wp_return dX12_qPartTold_191 rfl ⟨rfl, ⟨rfl, rfl, rfl, hs, Or.inl hx'⟩⟩ rfl rfl
  have badl : ∀ M2 : zMI, zPXq M2 b len T c r → zSfq g M M2 → WP w YX12_qPartTold (d + 5, SS, 0, 0) G (some (zXp (fun v0 M' L' R' => v0 = none ∧ L = L' ∧ R' = zRf t ∧ zSfq g M M' ∧ (zPXq M' b len T c r ∨ zPBq M' b len T c g W0 r P)))) 2 [(1, .int (nI 1)), (0, .ref 177)] [] SS M2 L (zRf t) := by
    intro M2 hx hs
    have hx' := hx
    obtain ⟨⟨x1, x2, x3, x4⟩, -⟩ := hx
    obtain ⟨x5, x6, x7⟩ := x4 x1
    obtain ⟨kk, hkk⟩ : ∃ kk, r.1.2.2.1 = kk := ⟨_, rfl⟩
    rw [hkk] at x5 x6 x1
    refine wp_iload_n (q := 3) dX12_qPartTold_2 0 rfl rfl ?_
    refine wp_if_eqN (tgt := 184) (q := 6) dX12_qPartTold_3 (by decide) rfl (by omega) (fun hn => absurd hn (by first | omega | exact fun h => h | exact fun h => h trivial)) (fun _ => ?_)
    refine wp_aload_n (q := 7) dX12_qPartTold_6 1 rfl rfl ?_
    refine wp_getI (q := 10) dX12_qPartTold_7 zf_RX12_236 rfl zsh_177 rfl ?_
    rw [x6]
    refine wp_if_neN (tgt := 184) (q := 13) dX12_qPartTold_10 (by decide) rfl (by omega) (fun _ => ?_) (fun hn => absurd hn (by first | omega | exact fun h => h | exact fun h => h trivial))
    refine WP.sub (loc' := [(0, _)]) [1] rfl ?_
    exact badx M2 hx' hs
  have C234 : ∀ (v op a : Nat) (M2 : zMI) (p : zP) (F : zFl) (f : zLv) (fr : List zLv) (o : Nat), zqc op a = v → zSSq M2 b len T c p F (zWf (f :: fr) ++ W0) g W0.length → g + F.length + (zWf (f :: fr) ++ W0).length + 2 ≤ p.1 → zKv true p.1 o (f :: fr) → p.2.1 = nI o → zks T c true (f :: fr) (p, F ++ [(op, a)]) = r → P < p.1 → zSfq g M M2 → WP w YX12_qPartTold (d + 5, SS, 0, 0) G (some (zXp (fun v0 M' L' R' => v0 = none ∧ L = L' ∧ R' = zRf t ∧ zSfq g M M' ∧ (zPXq M' b len T c r ∨ zPBq M' b len T c g W0 r P)))) 234 [(0, .ref 177)] [.int (nI v), .ref 177] SS M2 L (zRf t) := by
    intro v op a M2 p F f fr o hv hS hs hk ho hr hP hf
    obtain ⟨a1, a2, a3, a4, a5, a6⟩ := hS
    have hc := zTok_c hT a1
    have hpc := a1.2.2.1
    refine wp_cvx (q := 237) (sp_mqCode (d := 3) (n := g + F.length) (v := v) a5.1 (by omega)) zm_X12_qCode zl_RX12_606 dX12_qPartTold_234 rfl (by omega) (Nat.le_of_ble_eq_true rfl) (by first | assumption | rfl) rfl rfl ?_
    refine wp_aload_n (q := 238) dX12_qPartTold_237 0 rfl rfl ?_
    have hq : zQfq g 88 M2 (zu (zu M2 245 (g + F.length) (nI v)) 177 88 (nI (g + F.length + 1))) := zQfq_7 (zQfq_c zQfq_r (by omega) (by omega)) (Or.inl rfl) (by omega)
    have hE : zPEq (zu (zu M2 245 (g + F.length) (nI v)) 177 88 (nI (g + F.length + 1))) b len T c g W0 r P := ⟨p, F ++ [(op, a)], f, fr, o, ⟨zAt_qq a1 hq (by decide), by rw [hq.2 6 (by decide) (by decide) (by decide)]; exact a2, a3, by rw [zu_k (by decide), zu_ne (by decide)]; exact a4, zSQq_code a5 (by omega) hv, by rw [List.length_append]; show g + (F.length + 1) + _ + 1 ≤ p.1; omega⟩, hk, ho, hr, hP⟩
    refine wp_cvy (q := 241) (sp_mqEndsPart (d := d + 2) hT hE) zm_X12_qEndsPart zl_RX12_630 dX12_qPartTold_238 rfl (by omega) (Nat.le_of_ble_eq_true rfl) zsh_177 rfl rfl ?_
    rintro _ M3 _ _ ⟨rfl, rfl, rfl, hf3, hB⟩
    exact wp_return dX12_qPartTold_241 rfl ⟨rfl, ⟨rfl, rfl, rfl, zSfq_t (zSfq_t hf hq.1) hf3, Or.inr hB⟩⟩ rfl rfl
  have C184 : ∀ (M2 : zMI) (p : zP) (F : zFl) (f : zLv) (fr : List zLv) (o : Nat), zSSq M2 b len T c p F (zWf (f :: fr) ++ W0) g W0.length → zKv true p.1 o (f :: fr) → p.2.1 = nI o → zks T c true (f :: fr) (zpt T c true f.1 p F) = r → P ≤ p.1 → zSfq g M M2 → zpS T p 40 = false → ¬ (T p.1 4 = 22 ∨ T p.1 4 = 23) → T p.1 4 ≠ 17 → WP w YX12_qPartTold (d + 5, SS, 0, 0) G (some (zXp (fun v0 M' L' R' => v0 = none ∧ L = L' ∧ R' = zRf t ∧ zSfq g M M' ∧ (zPXq M' b len T c r ∨ zPBq M' b len T c g W0 r P)))) 184 [(0, .ref 177)] [] SS M2 L (zRf t) := by
    intro M2 p F f fr o hS hk ho hr hP hf h40 hmm h17
    obtain ⟨a1, a2, a3, a4, a5, a6⟩ := hS
    have hc := zTok_c hT a1
    have hpc := a1.2.2.1
    have hW2 := zWds_fq hW hf
    obtain ⟨k, hk1⟩ : ∃ k, f.1 = k + 1 := ⟨f.1 - 1, by have h1 := hk.2.1; have h2 := hk.2.2.1; omega⟩
    rw [hk1] at hr
    refine wp_aload_n (q := 185) dX12_qPartTold_184 0 rfl rfl ?_
    refine wp_getI (q := 188) dX12_qPartTold_185 zf_RX12_236 rfl zsh_177 rfl ?_
    rw [a1.2.1]
    refine wp_if_eqN (tgt := 192) (q := 191) dX12_qPartTold_188 (by decide) rfl (by omega) (fun _ => ?_) (fun hn => absurd hn (by first | omega | exact fun h => h | exact fun h => h trivial))
    refine wp_aload_n (q := 193) dX12_qPartTold_192 0 rfl rfl ?_
    refine wp_iconst (q := 194) dX12_qPartTold_193 zq_iconst_0 rfl ?_
    refine wp_iconst (q := 195) dX12_qPartTold_194 zq_iconst_5 rfl ?_
    refine wp_cvy (q := 198) (sp_mqWordOf (d := d + 1) (f := 0) (l := 5) a1 hT hW2 (by decide) (by decide)) zm_X12_qWordOf zl_RX12_621 dX12_qPartTold_195 rfl (by omega) (Nat.le_of_ble_eq_true rfl) zsh_177 rfl rfl ?_
    rintro _ N1 _ _ ⟨rfl, rfl, rfl, b1, b2, p1, q1⟩
    have hv := zfW_v (T p.1 4)
    have hfp := zfP_i (w := T p.1 4)
    obtain ⟨z, hz⟩ : ∃ z, zfW (T p.1 4) = z := ⟨_, rfl⟩
    rw [hz] at hv hfp ⊢
    by_cases z5 : z < 5
    · rw [if_pos ⟨Nat.zero_le _, z5⟩, show zwd z = nI z from if_pos (by omega)]
      rw [if_pos z5] at hfp
      have hw30 := zfW_w hz (by omega)
      obtain ⟨z1, z2, -⟩ := zTok_4 hT hpc hw30 rfl
      have hzz : zpt T c true (k + 1) p F = (zpn c p, F ++ [(1, zfP (T p.1 4))]) := zks_fact (b := true) z2 (show zfP (T p.1 4) < 30 by rw [hfp]; omega)
      rw [hzz, hfp, zpn_o z1] at hr
      refine wp_istore_n (q := 199) (loc' := [(2, _), (0, _)]) dX12_qPartTold_198 rfl (by decide) rfl rfl ?_
      refine wp_iload_n (q := 200) dX12_qPartTold_199 0 rfl rfl ?_
      refine wp_iconst (q := 201) dX12_qPartTold_200 zq_iconst_m1 rfl ?_
      refine wp_icmp_eq (tgt := 209) (q := 204) dX12_qPartTold_201 (by decide) rfl (fun hn => absurd hn (by exact znn (by omega))) (fun _ => ?_)
      refine wp_aload_n (q := 205) dX12_qPartTold_204 1 rfl rfl ?_
      refine wp_iload_n (q := 206) dX12_qPartTold_205 0 rfl rfl ?_
      refine wp_cvy (q := 209) (sp_mqAsksWord (d := d) (k := z) b1 hT (zWds_p hW2 p1) hz (by omega)) zm_X12_qAsksWord zl_RX12_627 dX12_qPartTold_206 rfl (by omega) (Nat.le_of_ble_eq_true rfl) zsh_177 rfl rfl ?_
      rintro _ N2 _ _ ⟨rfl, rfl, rfl, g1, g2, g3⟩
      have p2 := zPf_t p1 g3
      refine wp_aload_n (q := 210) dX12_qPartTold_209 1 rfl rfl ?_
      refine wp_iload_n (q := 211) dX12_qPartTold_210 0 rfl rfl ?_
      refine wp_iconst (q := 212) dX12_qPartTold_211 zq_iconst_m1 rfl ?_
      refine wp_icmp_eq (tgt := 222) (q := 215) dX12_qPartTold_212 (by decide) rfl (fun hn => absurd hn (by exact znn (by omega))) (fun _ => ?_)
      refine wp_bipush (q := 217) dX12_qPartTold_215 zq_bipush_40 rfl ?_
      refine wp_iload_n (q := 218) dX12_qPartTold_217 0 rfl rfl ?_
      refine wp_iaddN (q := 219) dX12_qPartTold_218 rfl ?_
      refine wp_goto (tgt := 234) dX12_qPartTold_219 (by decide) ?_
      refine WP.sub (loc' := [(0, _)]) [1] rfl ?_
      refine C234 (40 + z) 1 z N2 (p.1 + 1, p.2.1, p.2.2.1, p.2.2.2) F f fr o rfl ⟨g1, by rw [g2, q1 6 (by decide)]; exact a2, a3, by rw [p2.2 91 (by decide) (by decide) (by decide) (by decide) (by decide)]; exact a4, zSQq_p a5 p2, ?_⟩ ?_ (zKv_m (Nat.le_succ _) _ _ hk) ho hr ?_ (zSfq_p hf p2)
      · show _ ≤ p.1 + 1; omega
      · show _ ≤ p.1 + 1; omega
      · show P < p.1 + 1; omega
    · rw [if_neg (fun e => z5 e.2), show zwd 99 = -1 from rfl]
      rw [if_neg z5] at hfp
      have nH : ¬ zfP (T p.1 4) < 30 := by rw [hfp]; decide
      refine wp_istore_n (q := 199) (loc' := [(2, _), (0, _)]) dX12_qPartTold_198 rfl (by decide) rfl rfl ?_
      refine wp_iload_n (q := 200) dX12_qPartTold_199 0 rfl rfl ?_
      refine wp_iconst (q := 201) dX12_qPartTold_200 zq_iconst_m1 rfl ?_
      refine wp_icmp_eq (tgt := 209) (q := 204) dX12_qPartTold_201 (by decide) rfl (fun _ => ?_) (fun hn => absurd hn (by exact fun e => e rfl))
      refine wp_aload_n (q := 210) dX12_qPartTold_209 1 rfl rfl ?_
      refine wp_iload_n (q := 211) dX12_qPartTold_210 0 rfl rfl ?_
      refine wp_iconst (q := 212) dX12_qPartTold_211 zq_iconst_m1 rfl ?_
      refine wp_icmp_eq (tgt := 222) (q := 215) dX12_qPartTold_212 (by decide) rfl (fun _ => ?_) (fun hn => absurd hn (by exact fun e => e rfl))
      refine wp_sipush (q := 225) dX12_qPartTold_222 zq_sipush_1000 rfl ?_
      refine wp_aload_n (q := 226) dX12_qPartTold_225 1 rfl rfl ?_
      refine wp_iconst (q := 227) dX12_qPartTold_226 zq_iconst_0 rfl ?_
      refine wp_sipush (q := 230) dX12_qPartTold_227 zq_sipush_9999 rfl ?_
      refine wp_cvy (q := 233) (sp_mnumber (d := d + 3) (ms := 9999) b1 hT (by decide)) zm_X12_number zl_RX12_306 dX12_qPartTold_230 rfl (by omega) (Nat.le_of_ble_eq_true rfl) zsh_177 rfl rfl ?_
      rintro _ N7 _ _ ⟨rfl, rfl, rfl, p7', g1, g2, g3, g4⟩
      have p7 := zPf_t p1 p7'
      have h44 : N7 177 88 = nI (g + F.length) := by rw [p7.2 88 (by decide) (by decide) (by decide) (by decide) (by decide)]; exact a5.1
      by_cases k2 : T p.1 0 = 2 ∧ T p.1 3 ≤ 4 ∧ T p.1 2 ≤ 9999
      · obtain ⟨k3, k4, k5⟩ := k2
        obtain ⟨x1, x2⟩ := g1 k3 k4 k5
        have ev : znv T p.1 = T p.1 2 := if_pos ⟨k3, k4⟩
        have hzz : zpt T c true (k + 1) p F = (zpn c p, F ++ [(0, T p.1 2)]) := by
          rw [zks_num k3]
          unfold zpNu
          rw [if_pos k3, if_pos k4, if_pos k5]
        rw [hzz, zpn_o x1.2.2.1] at hr
        rw [ev]
        refine wp_iaddN (q := 234) dX12_qPartTold_233 rfl ?_
        refine WP.sub (loc' := [(0, _)]) [1] rfl ?_
        refine C234 (1000 + T p.1 2) 0 (T p.1 2) N7 (p.1 + 1, p.2.1, p.2.2.1, p.2.2.2) F f fr o rfl ⟨x1, by rw [x2, q1 6 (by decide)]; exact a2, a3, by rw [p7.2 91 (by decide) (by decide) (by decide) (by decide) (by decide)]; exact a4, zSQq_p a5 p7, ?_⟩ ?_ (zKv_m (Nat.le_succ _) _ _ hk) ho hr ?_ (zSfq_p hf p7)
        · show _ ≤ p.1 + 1; omega
        · show _ ≤ p.1 + 1; omega
        · show P < p.1 + 1; omega
      · have hX : zPX N7 b len T c r := by
          by_cases k3 : T p.1 0 = 2
          · rw [zks_num k3] at hr
            by_cases k4 : T p.1 3 ≤ 4
            · by_cases k5 : T p.1 2 ≤ 9999
              · exact absurd ⟨k3, k4, k5⟩ k2
              · refine zPX_i (kd := 2) (y := nI (T p.1 1)) hr ?_ (by decide) (by decide) hrc (g2 k3 k4 k5)
                show (zpNu T c p 9999).1.2.2 = _
                unfold zpNu
                rw [if_pos k3, if_pos k4, if_neg k5]
                exact zpf_22 a3
            · refine zPX_i (kd := 1) (y := nI (T p.1 1 + 4)) hr ?_ (by decide) (by decide) hrc (g3 k3 k4)
              show (zpNu T c p 9999).1.2.2 = _
              unfold zpNu
              rw [if_pos k3, if_neg k4]
              exact zpf_22 a3
          · rw [zks_bad (b := true) k3 nH h40 hmm (fun e => h17 e.2)] at hr
            exact zPX_i (kd := 1) (y := nI (T p.1 1)) hr (zpf_22 a3) (by decide) (by decide) hrc (g4 k3)
        have hx' := hX
        obtain ⟨x1, x2, x3, x4⟩ := hX
        obtain ⟨x5, x6, x7⟩ := x4 x1
        obtain ⟨kk, hkk⟩ : ∃ kk, r.1.2.2.1 = kk := ⟨_, rfl⟩
        rw [hkk] at x5 x6 x1
        refine wp_iaddN (q := 234) dX12_qPartTold_233 rfl ?_
        refine wp_cvx (q := 237) (sp_mqCode (d := 3) (n := g + F.length) h44 (by omega)) zm_X12_qCode zl_RX12_606 dX12_qPartTold_234 rfl (by omega) (Nat.le_of_ble_eq_true rfl) zsh_177 rfl rfl ?_
        refine wp_aload_n (q := 238) dX12_qPartTold_237 1 rfl rfl ?_
        refine wp_cvx (q := 241) (sp_mqEndsPartB (d := d) (bd := kk) (by rw [zu_k (by decide), zu_ne (by decide)]; exact x6) x1 (by omega)) zm_X12_qEndsPart zl_RX12_630 dX12_qPartTold_238 rfl (by omega) (Nat.le_of_ble_eq_true rfl) zsh_177 rfl rfl ?_
        exact wp_return dX12_qPartTold_241 rfl ⟨rfl, ⟨rfl, rfl, rfl, zSfq_7 (zSfq_c (zSfq_p hf p7) (by omega) (by omega)) (by omega), Or.inl ⟨zPX_fr hx' (by rw [zu_k (by decide), zu_ne (by decide)]) (by rw [zu_k (by decide), zu_ne (by decide)]), _, zu_s, by omega⟩⟩⟩ rfl rfl
  have loop : ∀ (q : Nat) (M2 : zMI) (p : zP) (F : zFl) (f : zLv) (fr : List zLv) (o : Nat), c ≤ q + p.1 → zSSq M2 b len T c p F (zWf (f :: fr) ++ W0) g W0.length → zKv true p.1 o (f :: fr) → p.2.1 = nI o → zks T c true (f :: fr) (zpt T c true f.1 p F) = r → P ≤ p.1 → zSfq g M M2 → WP w YX12_qPartTold (d + 5, SS, 0, 0) G (some (zXp (fun v0 M' L' R' => v0 = none ∧ L = L' ∧ R' = zRf t ∧ zSfq g M M' ∧ (zPXq M' b len T c r ∨ zPBq M' b len T c g W0 r P)))) 2 [(1, .int (nI 1)), (0, .ref 177)] [] SS M2 L (zRf t) := by
    intro q
    induction q with
    | zero => intro M2 p F f fr o hq hS; exact absurd hS.1.2.2.1 (by omega)
    | succ q ih =>
      intro M2 p F f fr o hq hS hk ho hr hP hf
      have hS0 := hS
      obtain ⟨a1, a2, a3, a4, a5, a6⟩ := hS
      have hc := zTok_c hT a1
      have hpc := a1.2.2.1
      have hlen := zTok_len hT hpc
      have hl16 := a1.1.2.1
      have hk6 := hk.2.1
      have hW2 := zWds_fq hW hf
      obtain ⟨k, hk1⟩ : ∃ k, f.1 = k + 1 := ⟨f.1 - 1, by have h2 := hk.2.2.1; omega⟩
      have hr0 := hr
      rw [hk1] at hr
      have hsg := zSg (s := 40) hT (fun i hi => (a1.1.2.2 i hi).2) hpc (by decide) (by decide)
      refine wp_iload_n (q := 3) dX12_qPartTold_2 0 rfl rfl ?_
      refine wp_if_eqN (tgt := 184) (q := 6) dX12_qPartTold_3 (by decide) rfl (by omega) (fun hn => absurd hn (by first | omega | exact fun h => h | exact fun h => h trivial)) (fun _ => ?_)
      refine wp_aload_n (q := 7) dX12_qPartTold_6 1 rfl rfl ?_
      refine wp_getI (q := 10) dX12_qPartTold_7 zf_RX12_236 rfl zsh_177 rfl ?_
      rw [a1.2.1]
      refine wp_if_neN (tgt := 184) (q := 13) dX12_qPartTold_10 (by decide) rfl (by omega) (fun hn => absurd hn (by first | omega | exact fun h => h | exact fun h => h trivial)) (fun _ => ?_)
      refine wp_aload_n (q := 14) dX12_qPartTold_13 1 rfl rfl ?_
      refine wp_cvy (q := 17) (sp_mLook (d := d + 4) a1 hT) zm_X12_look zl_RX12_248 dX12_qPartTold_14 rfl (by omega) (Nat.le_of_ble_eq_true rfl) zsh_177 rfl rfl ?_
      rintro _ N0 _ _ ⟨rfl, rfl, rfl, c1', c2', c3', c4'⟩
      have hp0 : zPf M2 N0 := ⟨c4', fun k k1 _ _ _ _ => c3' k k1⟩
      refine wp_istore_n (q := 18) (loc' := [(2, _), (1, _), (0, _)]) dX12_qPartTold_17 rfl (by decide) rfl rfl ?_
      refine wp_aload_n (q := 19) dX12_qPartTold_18 2 rfl rfl ?_
      refine wp_iconst (q := 20) dX12_qPartTold_19 zq_iconst_5 rfl ?_
      refine wp_bipush (q := 22) dX12_qPartTold_20 zq_bipush_6 rfl ?_
      refine wp_cvy (q := 25) (sp_mqWordOf (d := d + 1) (f := 5) (l := 6) c1' hT (zWds_p hW2 hp0) (by decide) (by decide)) zm_X12_qWordOf zl_RX12_621 dX12_qPartTold_22 rfl (by omega) (Nat.le_of_ble_eq_true rfl) zsh_177 rfl rfl ?_
      rintro _ N1 _ _ ⟨rfl, rfl, rfl, c1, c2, cp, cq⟩
      have hp1 : zPf M2 N1 := zPf_t hp0 cp
      have c3 : ∀ k, k ≠ 2 → N1 177 k = M2 177 k := fun k hk => by rw [cq k hk, c3' k hk]
      have e47 : N1 177 91 = nI o := by rw [c3 91 (by decide), a4, ho]
      have e46 := a5.2.2.1
      have hln := a5.2.2.2.2.2
      have e46' : N1 177 90 = nI (zWf (f :: fr) ++ W0).length := by rw [c3 90 (by decide)]; exact e46
      have hofv : (if 5 ≤ zfW (T p.1 4) ∧ zfW (T p.1 4) < 6 then zfW (T p.1 4) else 99) = if T p.1 4 = 17 then 5 else 99 := by
        by_cases e17 : T p.1 4 = 17
        · rw [e17]; rfl
        · rw [if_neg e17, if_neg]
          intro e
          exact e17 ((zfW_i (k := 5) (by omega)).2.2.2.2.2 rfl)
      rw [hofv]
      refine wp_istore_n (q := 26) (loc' := [(3, _), (2, _), (1, _), (0, _)]) dX12_qPartTold_25 rfl (by decide) rfl rfl ?_
      refine wp_iload_n (q := 27) dX12_qPartTold_26 1 rfl rfl ?_
      refine wp_bipush (q := 29) dX12_qPartTold_27 zq_bipush_40 rfl ?_
      refine wp_icmp_ne (tgt := 55) (q := 32) dX12_qPartTold_29 (by decide) rfl (fun z40 => ?_) (fun z40 => ?_)
      · skip
        have hz40 : ¬ (T p.1 0 = 3 ∧ T p.1 2 = 40) := fun e => z40 (hsg.mpr e)
        have h40 : zpS T p 40 = false := zpS_f.mpr hz40
        have C100 : ∀ (is : Bool) (M3 : zMI), (is = true → T p.1 4 = 22) → (is = false → T p.1 4 = 23) → zPf M2 M3 → zAt M3 b len T c (p.1 + 1) → M3 177 6 = M2 177 6 → WP w YX12_qPartTold (d + 5, SS, 0, 0) G (some (zXp (fun v0 M' L' R' => v0 = none ∧ L = L' ∧ R' = zRf t ∧ zSfq g M M' ∧ (zPXq M' b len T c r ∨ zPBq M' b len T c g W0 r P)))) 100 [(4, .int (nI (zb01 is))), (1, .int (nI 1)), (0, .ref 177)] [] SS M3 L (zRf t) := by
          intro is M3 i1 i2 hp3 hA h36
          have hw : T p.1 4 = 22 ∨ T p.1 4 = 23 := by
            cases is with
            | true => exact Or.inl (i1 rfl)
            | false => exact Or.inr (i2 rfl)
          have z12 : p.1 + 1 < c ∧ T p.1 0 = 1 := by
            rcases hw with e | e
            · have := zTok_4 hT hpc (by decide) e
              exact ⟨this.1, this.2.1⟩
            · have := zTok_4 hT hpc (by decide) e
              exact ⟨this.1, this.2.1⟩
          obtain ⟨z1, z2⟩ := z12
          have hsg1 := zSg (s := 40) hT (fun i hi => (hA.1.2.2 i hi).2) hA.2.2.1 (by decide) (by decide)
          have hlen1 := zTok_len hT hA.2.2.1
          refine wp_aload_n (q := 101) dX12_qPartTold_100 2 rfl rfl ?_
          refine wp_cvy (q := 104) (sp_mLook (d := d + 4) hA hT) zm_X12_look zl_RX12_248 dX12_qPartTold_101 rfl (by omega) (Nat.le_of_ble_eq_true rfl) zsh_177 rfl rfl ?_
          rintro _ N3 _ _ ⟨rfl, rfl, rfl, e1, e2, e3, e4⟩
          have hp4 : zPf M2 N3 := zPf_t hp3 ⟨e4, fun k k1 _ _ _ _ => e3 k k1⟩
          have h36' : N3 177 6 = M2 177 6 := by rw [e3 6 (by decide)]; exact h36
          refine wp_bipush (q := 106) dX12_qPartTold_104 zq_bipush_40 rfl ?_
          refine wp_icmp_ne (tgt := 116) (q := 109) dX12_qPartTold_106 (by decide) rfl (fun q40 => ?_) (fun q40 => ?_)
          · skip
            have nq : ¬ (T (p.1 + 1) 0 = 3 ∧ T (p.1 + 1) 2 = 40) := fun e => q40 (hsg1.mpr e)
            rw [zks_mmx hw z2 (zpS_f.mpr (by rw [zpn_o z1]; exact nq)), zpn_o z1] at hr
            refine wp_iconst (q := 117) dX12_qPartTold_116 zq_iconst_m1 rfl ?_
            refine wp_istore (q := 119) (loc' := [(5, _), (4, _), (1, _), (0, _)]) dX12_qPartTold_117 (by decide) rfl rfl ?_
            refine wp_iload (q := 121) dX12_qPartTold_119 0 rfl rfl ?_
            refine wp_iconst (q := 122) dX12_qPartTold_121 zq_iconst_m1 rfl ?_
            refine wp_icmp_eq (tgt := 143) (q := 125) dX12_qPartTold_122 (by decide) rfl (fun _ => ?_) (fun hn => absurd hn (by exact fun e => e rfl))
            refine wp_aload_n (q := 144) dX12_qPartTold_143 3 rfl rfl ?_
            refine wp_bipush (q := 146) dX12_qPartTold_144 zq_bipush_40 rfl ?_
            refine wp_cvy (q := 149) (sp_masksSign (d := d + 2) (s := 40) e1 hT (by decide) (by decide)) zm_X12_asksSign zl_RX12_347 dX12_qPartTold_146 rfl (by omega) (Nat.le_of_ble_eq_true rfl) zsh_177 rfl rfl ?_
            rintro _ N4 _ _ ⟨rfl, rfl, rfl, x1, x2, x3⟩
            refine wp_goto (tgt := 181) dX12_qPartTold_149 (by decide) ?_
            refine wp_goto (tgt := 2) dX12_qPartTold_181 (by decide) ?_
            refine WP.sub (loc' := [(1, _), (0, _)]) [2, 3] rfl ?_
            exact badl N4 ⟨zPX_i (kd := 1) (y := nI (T (p.1 + 1) 1)) hr (zpf_22 a3) (by decide) (by decide) hrc (x3 nq), zCb_Q (zSQq_p a5 (zPf_t hp4 x1))⟩ (zSfq_p hf (zPf_t hp4 x1))
          · skip
            have yq : T (p.1 + 1) 0 = 3 ∧ T (p.1 + 1) 2 = 40 := hsg1.mp q40
            obtain ⟨y1, y2⟩ := zTok_3 hT hA.2.2.1 yq.1
            rw [zks_mm hw z2 (zpS_i.mpr (by rw [zpn_o z1]; exact yq)), zpn_o z1] at hr
            have f47 : N3 177 91 = nI o := by rw [hp4.2 91 (by decide) (by decide) (by decide) (by decide) (by decide), a4, ho]
            have f46 : N3 177 90 = nI (zWf (f :: fr) ++ W0).length := by rw [hp4.2 90 (by decide) (by decide) (by decide) (by decide) (by decide)]; exact e46
            have C138 : ∀ wv, wv = (if T p.1 4 = 22 then 21 else 22) → WP w YX12_qPartTold (d + 5, SS, 0, 0) G (some (zXp (fun v0 M' L' R' => v0 = none ∧ L = L' ∧ R' = zRf t ∧ zSfq g M M' ∧ (zPXq M' b len T c r ∨ zPBq M' b len T c g W0 r P)))) 138 [(5, .int (nI (T (p.1 + 1) 1))), (4, .int (nI (zb01 is))), (1, .int (nI 1)), (0, .ref 177)] [.int (nI wv), .ref 177] SS N3 L (zRf t) := by
              intro wv hwv
              have hwv2 : 20 ≤ wv ∧ wv ≤ 24 := by rw [hwv]; split <;> decide
              rw [← hwv] at hr
              by_cases o6 : o < 6
              · rw [zpe_o (p := (p.1 + 1, p.2.1, p.2.2.1, p.2.2.2)) ho o6 y1] at hr
                refine wp_iload (q := 140) dX12_qPartTold_138 0 rfl rfl ?_
                refine wp_cvx (q := 143) (sp_mqOpens (d := 2) e1.2.1 f47 o6 f46 (by omega)) zm_X12_qOpens zl_RX12_624 dX12_qPartTold_140 rfl (by omega) (Nat.le_of_ble_eq_true rfl) (by first | assumption | rfl) rfl rfl ?_
                have hq5 : zQfq g 91 N3 (zu (zu (zu N3 177 91 (nI (o + 1))) 246 (zWf (f :: fr) ++ W0).length (nI wv)) 177 90 (nI ((zWf (f :: fr) ++ W0).length + 1))) := zQfq_7 (zQfq_k (zQfq_7 zQfq_r (Or.inr rfl) (by omega))) (Or.inr rfl) (by omega)
                have g6 : (zu (zu (zu N3 177 91 (nI (o + 1))) 246 (zWf (f :: fr) ++ W0).length (nI wv)) 177 90 (nI ((zWf (f :: fr) ++ W0).length + 1))) 177 6 = M2 177 6 := by rw [hq5.2 6 (by decide) (by decide) (by decide)]; exact h36'
                have g47 : (zu (zu (zu N3 177 91 (nI (o + 1))) 246 (zWf (f :: fr) ++ W0).length (nI wv)) 177 90 (nI ((zWf (f :: fr) ++ W0).length + 1))) 177 91 = nI (o + 1) := by rw [zu_k (by decide), zu_ne (by decide), zu_s]
                have gQ := zSQq_push (x := wv) (zSQq_7 (k := 91) (x := nI (o + 1)) (zSQq_p a5 hp4) (by decide) (by decide) (by decide)) (by omega) (by omega)
                have gA := zAt_qq e1 hq5 (by decide)
                obtain ⟨N5, hN5⟩ : ∃ N5, zu (zu (zu N3 177 91 (nI (o + 1))) 246 (zWf (f :: fr) ++ W0).length (nI wv)) 177 90 (nI ((zWf (f :: fr) ++ W0).length + 1)) = N5 := ⟨_, rfl⟩
                rw [hN5] at hq5 g6 g47 gQ gA
                rw [hN5]
                refine wp_aload_n (q := 144) dX12_qPartTold_143 3 rfl rfl ?_
                refine wp_bipush (q := 146) dX12_qPartTold_144 zq_bipush_40 rfl ?_
                refine wp_cvy (q := 149) (sp_masksSign (d := d + 2) (s := 40) gA hT (by decide) (by decide)) zm_X12_asksSign zl_RX12_347 dX12_qPartTold_146 rfl (by omega) (Nat.le_of_ble_eq_true rfl) zsh_177 rfl rfl ?_
                rintro _ N6 _ _ ⟨rfl, rfl, rfl, x1, x2, x3⟩
                obtain ⟨x4, x5⟩ := x2 yq
                refine wp_goto (tgt := 181) dX12_qPartTold_149 (by decide) ?_
                refine wp_goto (tgt := 2) dX12_qPartTold_181 (by decide) ?_
                refine WP.sub (loc' := [(1, _), (0, _)]) [2, 3] rfl ?_
                have e : zWf ((k, 0, 1600, 0, 1600, wv) :: f :: fr) = wv :: zWf (f :: fr) := by
                  show zWl (k, 0, 1600, 0, 1600, wv) ++ _ = _
                  rw [zWl_w (by omega)]
                  rfl
                refine ih N6 (p.1 + 1 + 1, nI (o + 1), p.2.2.1, p.2.2.2) F (k, 0, 1600, 0, 1600, wv) (f :: fr) (o + 1) (by show c ≤ q + (p.1 + 1 + 1); omega) ⟨x4, ?_, a3, ?_, ?_, ?_⟩ ⟨⟨Or.inl rfl, Or.inl rfl, Or.inr ⟨Nat.le_add_right _ _, Nat.le_add_right _ _⟩⟩, by omega, by have h2 := hk.2.2.1; show 8 ≤ k + (o + 1); omega, Or.inr ⟨Or.inl hwv2, by omega, zKv_m (by show p.1 ≤ p.1 + 1 + 1; omega) _ _ hk⟩⟩ rfl hr (by show P ≤ p.1 + 1 + 1; omega) ?_
                · rw [x5, g6]; exact a2
                · rw [x1.2 91 (by decide) (by decide) (by decide) (by decide) (by decide)]; exact g47
                · rw [e]
                  exact zSQq_p gQ x1
                · rw [e]
                  show g + F.length + ((zWf (f :: fr) ++ W0).length + 1) + 1 ≤ p.1 + 1 + 1
                  omega
                · exact zSfq_p (zSfq_t (zSfq_p hf hp4) hq5.1) x1
              · have eo : o = 6 := by omega
                rw [eo] at ho f47
                rw [zpe_6 (p := (p.1 + 1, p.2.1, p.2.2.1, p.2.2.2)) ho] at hr
                refine wp_iload (q := 140) dX12_qPartTold_138 0 rfl rfl ?_
                refine wp_cvx (q := 143) (sp_mqOpensB (d := 2) f47 e1.2.1) zm_X12_qOpens zl_RX12_624 dX12_qPartTold_140 rfl (by omega) (Nat.le_of_ble_eq_true rfl) (by first | assumption | rfl) rfl rfl ?_
                refine wp_aload_n (q := 144) dX12_qPartTold_143 3 rfl rfl ?_
                refine wp_bipush (q := 146) dX12_qPartTold_144 zq_bipush_40 rfl ?_
                refine wp_cvx (q := 149) (sp_masksSignB (d := d + 2) (bd := 4) (s := 40) (by rw [zu_k (by decide), zu_s]) (by decide) (by decide)) zm_X12_asksSign zl_RX12_347 dX12_qPartTold_146 rfl (by omega) (Nat.le_of_ble_eq_true rfl) zsh_177 rfl rfl ?_
                refine wp_goto (tgt := 181) dX12_qPartTold_149 (by decide) ?_
                refine wp_goto (tgt := 2) dX12_qPartTold_181 (by decide) ?_
                refine WP.sub (loc' := [(1, _), (0, _)]) [2, 3] rfl ?_
                exact badl _ ⟨zPX_a hr (zpf_22 (p := (p.1 + 1, p.2.1, p.2.2.1, p.2.2.2)) a3) (by decide) (by decide) hrc zBd_5, zCb_Q (zSQq_7 (zSQq_7 (zSQq_p a5 hp4) (by decide) (by decide) (by decide)) (by decide) (by decide) (by decide))⟩ (zSfq_7 (zSfq_7 (zSfq_p hf hp4) (by omega)) (by omega))
            refine wp_aload_n (q := 110) dX12_qPartTold_109 2 rfl rfl ?_
            refine wp_getI (q := 113) dX12_qPartTold_110 zf_RX12_242 rfl zsh_177 rfl ?_
            rw [e2]
            refine wp_goto (tgt := 117) dX12_qPartTold_113 (by decide) ?_
            refine wp_istore (q := 119) (loc' := [(5, _), (4, _), (1, _), (0, _)]) dX12_qPartTold_117 (by decide) rfl rfl ?_
            refine wp_iload (q := 121) dX12_qPartTold_119 0 rfl rfl ?_
            refine wp_iconst (q := 122) dX12_qPartTold_121 zq_iconst_m1 rfl ?_
            refine wp_icmp_eq (tgt := 143) (q := 125) dX12_qPartTold_122 (by decide) rfl (fun hn => absurd hn (by exact znn (by omega))) (fun _ => ?_)
            refine wp_aload_n (q := 126) dX12_qPartTold_125 3 rfl rfl ?_
            refine wp_iload (q := 128) dX12_qPartTold_126 1 rfl rfl ?_
            cases is with
            | true =>
              rw [zb01_t]
              refine wp_if_eqN (tgt := 136) (q := 131) dX12_qPartTold_128 (by decide) rfl (by omega) (fun hn => absurd hn (by first | omega | exact fun h => h | exact fun h => h trivial)) (fun _ => ?_)
              refine wp_bipush (q := 133) dX12_qPartTold_131 zq_bipush_21 rfl ?_
              refine wp_goto (tgt := 138) dX12_qPartTold_133 (by decide) ?_
              refine WP.sub (loc' := [(5, _), (4, _), (1, _), (0, _)]) [0, 1, 2, 3] rfl ?_
              exact C138 21 (by rw [if_pos (i1 rfl)])
            | false =>
              rw [zb01_f]
              refine wp_if_eqN (tgt := 136) (q := 131) dX12_qPartTold_128 (by decide) rfl (by omega) (fun _ => ?_) (fun hn => absurd hn (by first | omega | exact fun h => h | exact fun h => h trivial))
              refine wp_bipush (q := 138) dX12_qPartTold_136 zq_bipush_22 rfl ?_
              refine WP.sub (loc' := [(5, _), (4, _), (1, _), (0, _)]) [0, 1, 2, 3] rfl ?_
              exact C138 22 (by rw [if_neg (by rw [i2 rfl]; decide)])
        have C77 : ∀ (M3 : zMI), (T p.1 4 = 22 ∨ T p.1 4 = 23) → zPf M2 M3 → zAt M3 b len T c p.1 → M3 177 6 = M2 177 6 → WP w YX12_qPartTold (d + 5, SS, 0, 0) G (some (zXp (fun v0 M' L' R' => v0 = none ∧ L = L' ∧ R' = zRf t ∧ zSfq g M M' ∧ (zPXq M' b len T c r ∨ zPBq M' b len T c g W0 r P)))) 77 [(1, .int (nI 1)), (0, .ref 177)] [] SS M3 L (zRf t) := by
          intro M3 hw hp3 hA h36
          obtain ⟨o1, ho1⟩ : ∃ o, decide (T p.1 4 = 22) = o := ⟨_, rfl⟩
          refine wp_aload_n (q := 78) dX12_qPartTold_77 1 rfl rfl ?_
          refine wp_aload_n (q := 79) dX12_qPartTold_78 1 rfl rfl ?_
          refine wp_getR (q := 82) dX12_qPartTold_79 zf_RX12_197 rfl zsh_177 (zr_177_79 _) rfl ?_
          refine wp_cvy (q := 85) (sp_mtakes (d := d + 2) (w0 := 22) hA hT (zWc_q 10 (zWds_p hW2 hp3) (by decide) rfl rfl (by decide) zsh_237) ho1) zm_X12_takes zl_RX12_263 dX12_qPartTold_82 rfl (by omega) (Nat.le_of_ble_eq_true rfl) zsh_177 rfl rfl ?_
          rintro _ N3 _ _ ⟨rfl, rfl, rfl, x1, x2, x3, x4⟩
          cases o1 with
          | true =>
            refine wp_istore (q := 87) (loc' := [(4, _), (1, _), (0, _)]) dX12_qPartTold_85 (by decide) rfl rfl ?_
            refine wp_iload (q := 89) dX12_qPartTold_87 0 rfl rfl ?_
            refine wp_if_ne (tgt := 100) (q := 92) dX12_qPartTold_89 (by decide) rfl (fun _ => ?_) (fun hn => absurd hn (by decide))
            refine WP.sub (loc' := [(4, _), (1, _), (0, _)]) [0, 1, 2] rfl ?_
            exact C100 true N3 (fun _ => of_decide_eq_true ho1) (fun e => by cases e) (zPf_t hp3 x1) (x3 rfl) (x2.trans h36)
          | false =>
            have nw := of_decide_eq_false ho1
            have w23 : T p.1 4 = 23 := by omega
            refine wp_istore (q := 87) (loc' := [(4, _), (1, _), (0, _)]) dX12_qPartTold_85 (by decide) rfl rfl ?_
            refine wp_iload (q := 89) dX12_qPartTold_87 0 rfl rfl ?_
            refine wp_if_ne (tgt := 100) (q := 92) dX12_qPartTold_89 (by decide) rfl (fun hn => absurd hn (by decide)) (fun _ => ?_)
            refine wp_aload_n (q := 93) dX12_qPartTold_92 2 rfl rfl ?_
            refine wp_aload_n (q := 94) dX12_qPartTold_93 2 rfl rfl ?_
            refine wp_getR (q := 97) dX12_qPartTold_94 zf_RX12_200 rfl zsh_177 (zr_177_80 _) rfl ?_
            refine wp_cvy (q := 100) (sp_masks (d := d + 1) (w0 := 23) (x4 rfl).1 hT (zWc_q 11 (zWds_p hW2 (zPf_t hp3 x1)) (by decide) rfl rfl (by decide) zsh_238)) zm_X12_asks zl_RX12_302 dX12_qPartTold_97 rfl (by omega) (Nat.le_of_ble_eq_true rfl) zsh_177 rfl rfl ?_
            rintro _ N4 _ _ ⟨rfl, rfl, rfl, y1, y2, y3⟩
            obtain ⟨y4, y5⟩ := y2 w23
            refine WP.sub (loc' := [(4, _), (1, _), (0, _)]) [0, 1, 2] rfl ?_
            exact C100 false N4 (fun e => by cases e) (fun _ => w23) (zPf_t (zPf_t hp3 x1) y1) y4 (by rw [y5, x2]; exact h36)
        refine wp_aload_n (q := 56) dX12_qPartTold_55 3 rfl rfl ?_
        refine wp_aload_n (q := 57) dX12_qPartTold_56 3 rfl rfl ?_
        refine wp_getR (q := 60) dX12_qPartTold_57 zf_RX12_197 rfl zsh_177 (zr_177_79 _) rfl ?_
        refine wp_cvy (q := 63) (sp_mHere (d := d + 3) (w0 := 22) c1 hT (zWc_q 10 (zWds_p hW2 hp1) (by decide) rfl rfl (by decide) zsh_237)) zm_X12_isHere zl_RX12_259 dX12_qPartTold_60 rfl (by omega) (Nat.le_of_ble_eq_true rfl) zsh_177 rfl rfl ?_
        rintro _ N2 _ _ ⟨rfl, rfl, rfl, d1, d2, d3, d4⟩
        have hp2 : zPf M2 N2 := zPf_t hp1 ⟨d4, fun k k1 _ _ _ _ => d3 k k1⟩
        have g26 : N2 177 6 = M2 177 6 := by rw [d3 6 (by decide), c3 6 (by decide)]
        by_cases w22 : T p.1 4 = 22
        · rw [decide_eq_true w22]
          refine wp_if_ne (tgt := 77) (q := 66) dX12_qPartTold_63 (by decide) rfl (fun _ => ?_) (fun hn => absurd hn (by decide))
          refine WP.sub (loc' := [(1, _), (0, _)]) [2, 3] rfl ?_
          exact C77 N2 (Or.inl w22) hp2 d1 g26
        · rw [decide_eq_false w22]
          refine wp_if_ne (tgt := 77) (q := 66) dX12_qPartTold_63 (by decide) rfl (fun hn => absurd hn (by decide)) (fun _ => ?_)
          refine wp_aload_n (q := 67) dX12_qPartTold_66 3 rfl rfl ?_
          refine wp_aload_n (q := 68) dX12_qPartTold_67 3 rfl rfl ?_
          refine wp_getR (q := 71) dX12_qPartTold_68 zf_RX12_200 rfl zsh_177 (zr_177_80 _) rfl ?_
          refine wp_cvy (q := 74) (sp_mHere (d := d + 3) (w0 := 23) d1 hT (zWc_q 11 (zWds_p hW2 hp2) (by decide) rfl rfl (by decide) zsh_238)) zm_X12_isHere zl_RX12_259 dX12_qPartTold_71 rfl (by omega) (Nat.le_of_ble_eq_true rfl) zsh_177 rfl rfl ?_
          rintro _ N3 _ _ ⟨rfl, rfl, rfl, f1, f2, f3, f4⟩
          have hp3 : zPf M2 N3 := zPf_t hp2 ⟨f4, fun k k1 _ _ _ _ => f3 k k1⟩
          have g36 : N3 177 6 = M2 177 6 := by rw [f3 6 (by decide)]; exact g26
          have f47 : N3 177 91 = nI o := by rw [hp3.2 91 (by decide) (by decide) (by decide) (by decide) (by decide), a4, ho]
          have f46 : N3 177 90 = nI (zWf (f :: fr) ++ W0).length := by rw [hp3.2 90 (by decide) (by decide) (by decide) (by decide) (by decide)]; exact e46
          by_cases w23 : T p.1 4 = 23
          · rw [decide_eq_true w23]
            refine wp_if_eq (tgt := 152) (q := 77) dX12_qPartTold_74 (by decide) rfl (fun hn => absurd hn (by decide)) (fun _ => ?_)
            refine WP.sub (loc' := [(1, _), (0, _)]) [2, 3] rfl ?_
            exact C77 N3 (Or.inr w23) hp3 f1 g36
          · rw [decide_eq_false w23]
            refine wp_if_eq (tgt := 152) (q := 77) dX12_qPartTold_74 (by decide) rfl (fun _ => ?_) (fun hn => absurd hn (by decide))
            by_cases e17 : T p.1 4 = 17
            · rw [if_pos e17, show zwd 5 = nI 5 from rfl]
              obtain ⟨z1, z2, -⟩ := zTok_4 hT hpc (by decide) e17
              rw [zks_of e17 z2] at hr
              refine wp_iload_n (q := 153) dX12_qPartTold_152 0 rfl rfl ?_
              refine wp_iconst (q := 154) dX12_qPartTold_153 zq_iconst_m1 rfl ?_
              refine wp_icmp_eq (tgt := 179) (q := 157) dX12_qPartTold_154 (by decide) rfl (fun hn => absurd hn (by exact znn (by decide))) (fun _ => ?_)
              refine wp_aload_n (q := 158) dX12_qPartTold_157 3 rfl rfl ?_
              refine wp_bipush (q := 160) dX12_qPartTold_158 zq_bipush_60 rfl ?_
              refine wp_iload_n (q := 161) dX12_qPartTold_160 0 rfl rfl ?_
              refine wp_iaddN (q := 162) dX12_qPartTold_161 rfl ?_
              refine wp_iconst (q := 163) dX12_qPartTold_162 zq_iconst_5 rfl ?_
              refine wp_isubN (q := 164) dX12_qPartTold_163 (by omega) rfl ?_
              refine wp_aload_n (q := 165) dX12_qPartTold_164 3 rfl rfl ?_
              refine wp_getI (q := 168) dX12_qPartTold_165 zf_RX12_242 rfl zsh_177 rfl ?_
              rw [f2, show 60 + 5 - 5 = 60 from rfl]
              by_cases o6 : o < 6
              · rw [zpe_o ho o6 z1] at hr
                refine wp_cvx (q := 171) (sp_mqOpens (d := 2) f1.2.1 f47 o6 f46 (by omega)) zm_X12_qOpens zl_RX12_624 dX12_qPartTold_168 rfl (by omega) (Nat.le_of_ble_eq_true rfl) zsh_177 rfl rfl ?_
                have hq5 : zQfq g 91 N3 (zu (zu (zu N3 177 91 (nI (o + 1))) 246 (zWf (f :: fr) ++ W0).length (nI 60)) 177 90 (nI ((zWf (f :: fr) ++ W0).length + 1))) := zQfq_7 (zQfq_k (zQfq_7 zQfq_r (Or.inr rfl) (by omega))) (Or.inr rfl) (by omega)
                have g6 : (zu (zu (zu N3 177 91 (nI (o + 1))) 246 (zWf (f :: fr) ++ W0).length (nI 60)) 177 90 (nI ((zWf (f :: fr) ++ W0).length + 1))) 177 6 = M2 177 6 := by rw [hq5.2 6 (by decide) (by decide) (by decide)]; exact g36
                have g47 : (zu (zu (zu N3 177 91 (nI (o + 1))) 246 (zWf (f :: fr) ++ W0).length (nI 60)) 177 90 (nI ((zWf (f :: fr) ++ W0).length + 1))) 177 91 = nI (o + 1) := by rw [zu_k (by decide), zu_ne (by decide), zu_s]
                have gQ := zSQq_push (x := 60) (zSQq_7 (k := 91) (x := nI (o + 1)) (zSQq_p a5 hp3) (by decide) (by decide) (by decide)) (by omega) (by omega)
                have gA := zAt_qq f1 hq5 (by decide)
                obtain ⟨N5, hN5⟩ : ∃ N5, zu (zu (zu N3 177 91 (nI (o + 1))) 246 (zWf (f :: fr) ++ W0).length (nI 60)) 177 90 (nI ((zWf (f :: fr) ++ W0).length + 1)) = N5 := ⟨_, rfl⟩
                rw [hN5] at hq5 g6 g47 gQ gA
                rw [hN5]
                refine wp_aload_n (q := 172) dX12_qPartTold_171 3 rfl rfl ?_
                refine wp_iload_n (q := 173) dX12_qPartTold_172 0 rfl rfl ?_
                refine wp_cvy (q := 176) (sp_mqAsksWord (d := d) (k := 5) gA hT (zWds_fq hW2 (zSfq_t (zSfq_p zSfq_r hp3) hq5.1)) (by rw [e17]; rfl) (by decide)) zm_X12_qAsksWord zl_RX12_627 dX12_qPartTold_173 rfl (by omega) (Nat.le_of_ble_eq_true rfl) zsh_177 rfl rfl ?_
                rintro _ N6 _ _ ⟨rfl, rfl, rfl, x4, x5, x1⟩
                refine wp_goto (tgt := 181) dX12_qPartTold_176 (by decide) ?_
                refine wp_goto (tgt := 2) dX12_qPartTold_181 (by decide) ?_
                refine WP.sub (loc' := [(1, _), (0, _)]) [2, 3] rfl ?_
                refine ih N6 (p.1 + 1, nI (o + 1), p.2.2.1, p.2.2.2) F (k, 0, 0, 0, 0, 60) (f :: fr) (o + 1) (by show c ≤ q + (p.1 + 1); omega) ⟨x4, ?_, a3, ?_, ?_, ?_⟩ ⟨⟨Or.inl rfl, Or.inl rfl, Or.inl rfl⟩, by omega, by have h2 := hk.2.2.1; show 8 ≤ k + (o + 1); omega, Or.inr ⟨Or.inr ⟨rfl, rfl⟩, by omega, zKv_m (by show p.1 ≤ p.1 + 1; omega) _ _ hk⟩⟩ rfl hr (by show P ≤ p.1 + 1; omega) ?_
                · rw [x5, g6]; exact a2
                · rw [x1.2 91 (by decide) (by decide) (by decide) (by decide) (by decide)]; exact g47
                · exact zSQq_p gQ x1
                · show g + F.length + ((zWf (f :: fr) ++ W0).length + 1) + 1 ≤ p.1 + 1
                  omega
                · exact zSfq_p (zSfq_t (zSfq_p hf hp3) hq5.1) x1
              · have eo : o = 6 := by omega
                rw [eo] at ho f47
                rw [zpe_6 ho] at hr
                refine wp_cvx (q := 171) (sp_mqOpensB (d := 2) f47 f1.2.1) zm_X12_qOpens zl_RX12_624 dX12_qPartTold_168 rfl (by omega) (Nat.le_of_ble_eq_true rfl) zsh_177 rfl rfl ?_
                refine wp_aload_n (q := 172) dX12_qPartTold_171 3 rfl rfl ?_
                refine wp_iload_n (q := 173) dX12_qPartTold_172 0 rfl rfl ?_
                refine wp_cvx (q := 176) (sp_mqAsksWordB (d := d) (bd := 4) (by rw [zu_k (by decide), zu_s]) (by decide) (by decide)) zm_X12_qAsksWord zl_RX12_627 dX12_qPartTold_173 rfl (by omega) (Nat.le_of_ble_eq_true rfl) zsh_177 rfl rfl ?_
                refine wp_goto (tgt := 181) dX12_qPartTold_176 (by decide) ?_
                refine wp_goto (tgt := 2) dX12_qPartTold_181 (by decide) ?_
                refine WP.sub (loc' := [(1, _), (0, _)]) [2, 3] rfl ?_
                exact badl _ ⟨zPX_a hr (zpf_22 a3) (by decide) (by decide) hrc zBd_5, zCb_Q (zSQq_7 (zSQq_7 (zSQq_p a5 hp3) (by decide) (by decide) (by decide)) (by decide) (by decide) (by decide))⟩ (zSfq_7 (zSfq_7 (zSfq_p hf hp3) (by omega)) (by omega))
            · rw [if_neg e17, show zwd 99 = -1 from rfl]
              refine wp_iload_n (q := 153) dX12_qPartTold_152 0 rfl rfl ?_
              refine wp_iconst (q := 154) dX12_qPartTold_153 zq_iconst_m1 rfl ?_
              refine wp_icmp_eq (tgt := 179) (q := 157) dX12_qPartTold_154 (by decide) rfl (fun _ => ?_) (fun hn => absurd hn (by exact fun e => e rfl))
              refine wp_iconst (q := 180) dX12_qPartTold_179 zq_iconst_0 rfl ?_
              refine wp_istore_n (q := 181) (loc' := [(1, _), (3, _), (2, _), (0, _)]) dX12_qPartTold_180 rfl (by decide) rfl rfl ?_
              refine wp_goto (tgt := 2) dX12_qPartTold_181 (by decide) ?_
              refine wp_iload_n (q := 3) dX12_qPartTold_2 0 rfl rfl ?_
              refine wp_if_eqN (tgt := 184) (q := 6) dX12_qPartTold_3 (by decide) rfl (by omega) (fun _ => ?_) (fun hn => absurd hn (by first | omega | exact fun h => h | exact fun h => h trivial))
              refine WP.sub (loc' := [(0, _)]) [3] rfl ?_
              exact C184 N3 p F f fr o ⟨f1, by rw [g36]; exact a2, a3, by rw [hp3.2 91 (by decide) (by decide) (by decide) (by decide) (by decide)]; exact a4, zSQq_p a5 hp3, a6⟩ hk ho hr0 hP (zSfq_p hf hp3) h40 (fun e => by rcases e with e | e; exact w22 e; exact w23 e) e17
      · skip
        have h40' := hsg.mp z40
        have h40 : zpS T p 40 = true := zpS_i.mpr h40'
        obtain ⟨z1, z2⟩ := zTok_3 hT hpc h40'.1
        rw [zks_open h40 (zTok_n4 hT hpc (by omega))] at hr
        refine wp_aload_n (q := 33) dX12_qPartTold_32 3 rfl rfl ?_
        refine wp_bipush (q := 35) dX12_qPartTold_33 zq_bipush_20 rfl ?_
        refine wp_aload_n (q := 36) dX12_qPartTold_35 3 rfl rfl ?_
        refine wp_getI (q := 39) dX12_qPartTold_36 zf_RX12_242 rfl zsh_177 rfl ?_
        rw [c2]
        by_cases o6 : o < 6
        · rw [zpe_o ho o6 z1] at hr
          refine wp_cvx (q := 42) (sp_mqOpens (d := 2) c1.2.1 e47 o6 e46' (by omega)) zm_X12_qOpens zl_RX12_624 dX12_qPartTold_39 rfl (by omega) (Nat.le_of_ble_eq_true rfl) zsh_177 rfl rfl ?_
          refine wp_aload_n (q := 43) dX12_qPartTold_42 3 rfl rfl ?_
          refine wp_dup (q := 44) dX12_qPartTold_43 rfl rfl ?_
          refine wp_getI (q := 47) dX12_qPartTold_44 zf_RX12_242 rfl zsh_177 rfl ?_
          rw [zu_k (by decide), zu_ne (by decide), zu_k (by decide), c2]
          refine wp_iconst (q := 48) dX12_qPartTold_47 zq_iconst_1 rfl ?_
          refine wp_iaddN (q := 49) dX12_qPartTold_48 rfl ?_
          refine wp_putI (q := 52) dX12_qPartTold_49 zf_RX12_242 rfl zsh_177 rfl ?_
          refine wp_goto (tgt := 181) dX12_qPartTold_52 (by decide) ?_
          refine wp_goto (tgt := 2) dX12_qPartTold_181 (by decide) ?_
          refine WP.sub (loc' := [(1, _), (0, _)]) [2, 3] rfl ?_
          have hq5 : zQfq g 91 N1 (zu (zu (zu N1 177 91 (nI (o + 1))) 246 (zWf (f :: fr) ++ W0).length (nI 20)) 177 90 (nI ((zWf (f :: fr) ++ W0).length + 1))) := zQfq_7 (zQfq_k (zQfq_7 zQfq_r (Or.inr rfl) (by omega))) (Or.inr rfl) (by omega)
          refine ih _ (p.1 + 1, nI (o + 1), p.2.2.1, p.2.2.2) F (k, 0, 1600, 0, 1600, 20) (f :: fr) (o + 1) (by show c ≤ q + (p.1 + 1); omega) ⟨zAt_g (zAt_qq c1 hq5 (by decide)) hT h40'.1, ?_, a3, ?_, ?_, ?_⟩ ⟨⟨Or.inl rfl, Or.inl rfl, Or.inr ⟨Nat.le_add_right _ _, Nat.le_add_right _ _⟩⟩, by omega, by have h2 := hk.2.2.1; show 8 ≤ k + (o + 1); omega, Or.inr ⟨Or.inl ⟨(by decide : 20 ≤ 20), (by decide : 20 ≤ 24)⟩, by omega, zKv_m (Nat.le_succ _) _ _ hk⟩⟩ rfl hr (by show P ≤ p.1 + 1; omega) ?_
          · rw [zu_k (by decide), hq5.2 6 (by decide) (by decide) (by decide), c3 6 (by decide)]; exact a2
          · rw [zu_k (by decide), zu_k (by decide), zu_ne (by decide), zu_s]
          · exact zSQq_7 (zSQq_push (zSQq_7 (zSQq_p a5 hp1) (by decide) (by decide) (by decide)) (by omega) (by decide)) (by decide) (by decide) (by decide)
          · show g + F.length + ((zWf (f :: fr) ++ W0).length + 1) + 1 ≤ p.1 + 1
            omega
          · exact zSfq_7 (zSfq_t (zSfq_p hf hp1) hq5.1) (by omega)
        · have eo : o = 6 := by omega
          rw [eo] at ho e47
          rw [zpe_6 ho] at hr
          refine wp_cvx (q := 42) (sp_mqOpensB (d := 2) e47 c1.2.1) zm_X12_qOpens zl_RX12_624 dX12_qPartTold_39 rfl (by omega) (Nat.le_of_ble_eq_true rfl) zsh_177 rfl rfl ?_
          refine wp_aload_n (q := 43) dX12_qPartTold_42 3 rfl rfl ?_
          refine wp_dup (q := 44) dX12_qPartTold_43 rfl rfl ?_
          refine wp_getI (q := 47) dX12_qPartTold_44 zf_RX12_242 rfl zsh_177 rfl ?_
          rw [zu_k (by decide), zu_k (by decide), c2]
          refine wp_iconst (q := 48) dX12_qPartTold_47 zq_iconst_1 rfl ?_
          refine wp_iaddN (q := 49) dX12_qPartTold_48 rfl ?_
          refine wp_putI (q := 52) dX12_qPartTold_49 zf_RX12_242 rfl zsh_177 rfl ?_
          refine wp_goto (tgt := 181) dX12_qPartTold_52 (by decide) ?_
          refine wp_goto (tgt := 2) dX12_qPartTold_181 (by decide) ?_
          refine WP.sub (loc' := [(1, _), (0, _)]) [2, 3] rfl ?_
          refine badl _ ⟨zPX_fr (zPX_a (M := zu (zu N1 177 5 (nI 4)) 177 6 (nI (T p.1 1))) hr (zpf_22 a3) (by decide) (by decide) hrc zBd_5) (zu_k (by decide)) (zu_k (by decide)), zCb_Q (zSQq_7 (zSQq_7 (zSQq_7 (zSQq_p a5 hp1) (by decide) (by decide) (by decide)) (by decide) (by decide) (by decide)) (by decide) (by decide) (by decide))⟩ (zSfq_7 (zSfq_7 (zSfq_7 (zSfq_p hf hp1) (by omega)) (by omega)) (by omega))
  obtain ⟨p, F, f, fr, o, h1, h2, h3, h4, h5⟩ := h
  refine wp_iconst (q := 1) dX12_qPartTold_0 zq_iconst_1 rfl ?_
  refine wp_istore_n (q := 2) (loc' := [(1, _), (0, _)]) dX12_qPartTold_1 rfl (by decide) rfl rfl ?_
  refine WP.sub (loc' := [(1, _), (0, _)]) [0, 1] rfl ?_
  exact loop c M p F f fr o (by omega) h1 h2 h3 h4 h5 zSfq_r

