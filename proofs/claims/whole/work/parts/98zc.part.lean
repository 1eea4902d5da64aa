def zSS (M : zMI) (b : Nat → Nat) (len : Nat) (T : zDD) (c : Nat) (p : zP) (F : zFl) (W : List Nat) (g B : Nat) : Prop := zAt M b len T c p.1 ∧ M 177 6 = p.2.2.2 ∧ p.2.2.1 = 0 ∧ M 177 47 = p.2.1 ∧ zSQ M g F W B ∧ g + F.length + W.length + 1 ≤ p.1
-- a part is to come; a part is told; a fault stands
def zPA (e : Bool) (M : zMI) (b : Nat → Nat) (len : Nat) (T : zDD) (c g : Nat) (W0 : List Nat) (r : zPF) (P : Nat) : Prop := ∃ p F f fr o, zSS M b len T c p F (zWf (f :: fr) ++ W0) g W0.length ∧ zKv e p.1 o (f :: fr) ∧ p.2.1 = nI o ∧ zks T c e (f :: fr) (zpt T c e f.1 p F) = r ∧ P ≤ p.1
def zPB (e : Bool) (M : zMI) (b : Nat → Nat) (len : Nat) (T : zDD) (c g : Nat) (W0 : List Nat) (r : zPF) (P : Nat) : Prop := ∃ p F f fr o, zSS M b len T c p F (zWf (f :: fr) ++ W0) g W0.length ∧ zKv e p.1 o (f :: fr) ∧ p.2.1 = nI o ∧ zks T c e (f :: fr) (p, F) = r ∧ P < p.1
def zPX (M : zMI) (b : Nat → Nat) (len : Nat) (T : zDD) (c : Nat) (r : zPF) : Prop := r.1.2.2.1 ≠ 0 ∧ zRp M b len T c r.1
theorem zPX_fr {M M' : zMI} {b : Nat → Nat} {len c : Nat} {T : zDD} {r : zPF} (h : zPX M b len T c r) (e5 : M' 177 5 = M 177 5) (e6 : M' 177 6 = M 177 6) : zPX M' b len T c r := by
  obtain ⟨h1, h2, h3, h4⟩ := h
  exact ⟨h1, h2, fun e => absurd e h1, fun e => by rw [e5, e6]; exact h4 e⟩
theorem zPX_i {e : Bool} {M : zMI} {b : Nat → Nat} {len c kd : Nat} {T : zDD} {r q : zPF} {y : Int32} {fr : List zLv} (hr : zks T c e fr q = r) (hq : q.1.2.2 = (kd, y)) (h0 : kd ≠ 0) (h5 : kd ≤ 5) (hc : r.1.1 < c) (hb : zBd M kd y) : zPX M b len T c r := by
  have h1 := zfq_ks (T := T) (c := c) (b := e) fr q (by rw [hq]; exact h0)
  rw [hr, hq] at h1
  have e1 : r.1.2.2.1 = kd := by rw [h1]
  have e2 : r.1.2.2.2 = y := by rw [h1]
  exact ⟨by rw [e1]; exact h0, hc, fun z => absurd (by rw [← e1]; exact z) h0, fun _ => by rw [e1, e2]; exact ⟨h5, hb⟩⟩
theorem zPX_a {e : Bool} {M : zMI} {b : Nat → Nat} {len c kd k : Nat} {T : zDD} {r : zPF} {p : zP} {F : zFl} {y : Int32} {fr : List zLv} (hr : zks T c e fr (zpt T c e k p F) = r) (hq : p.2.2 = (kd, y)) (h0 : kd ≠ 0) (h5 : kd ≤ 5) (hc : r.1.1 < c) (hb : zBd M kd y) : zPX M b len T c r := by
  refine zPX_i hr ?_ h0 h5 hc hb
  rw [zfq_pt k p F (by rw [hq]; exact h0), hq]
theorem zpf_22 {c kd : Nat} {p : zP} {y : Int32} (k0 : p.2.2.1 = 0) : (zpf c p kd y).2.2 = (kd, y) := by unfold zpf; rw [if_pos k0]
theorem zpe_o {T : zDD} {c o : Nat} {p : zP} (h : p.2.1 = nI o) (ho : o < 6) (hc : p.1 + 1 < c) : zpe T c p = (p.1 + 1, nI (o + 1), p.2.2.1, p.2.2.2) := by
  unfold zpe
  rw [h, if_pos (nI_lt ho (by decide)), nI_add]
  unfold zpn
  rw [if_pos (show p.1 < c - 1 by omega)]
theorem zpe_6 {T : zDD} {c : Nat} {p : zP} (h : p.2.1 = nI 6) : zpe T c p = zpf c p 4 (nI (T p.1 1)) := by
  unfold zpe
  rw [h, if_neg (fun e => absurd ((nI_ltI (by decide) (by decide)).mp e) (by decide))]
theorem zpn_o {c : Nat} {p : zP} (hc : p.1 + 1 < c) : zpn c p = (p.1 + 1, p.2.1, p.2.2.1, p.2.2.2) := by
  unfold zpn
  rw [if_pos (show p.1 < c - 1 by omega)]
-- one sign on
theorem zAt_g {M : zMI} {b : Nat → Nat} {len c i : Nat} {T : zDD} (h : zAt M b len T c i) (hT : zTok b len T c) (h3 : T i 0 = 3) : zAt (zu M 177 2 (nI (T i 1 + 1))) b len T c (i + 1) := by
  obtain ⟨z1, z2⟩ := zTok_3 hT h.2.2.1 h3
  refine zAt_s h hT z1 ⟨fun x hx => zu_ne hx, fun k k1 _ _ _ _ => zu_k k1⟩ ?_ (by rw [zu_s, z2]) ?_
  · rw [zu_k (by decide)]; exact h.2.1
  · rw [zu_k (by decide)]; exact zEn_s hT h.2.2.1 h3 h.2.2.2.2
theorem zTok_c {b : Nat → Nat} {len c : Nat} {T : zDD} {M : zMI} {i : Nat} (h : zTok b len T c) (hA : zAt M b len T c i) : c ≤ 1601 := by
  have h1 := h.2.1
  have h2 := hA.1.2.1
  omega
theorem zTok_n4 {b : Nat → Nat} {len c i : Nat} {T : zDD} (h : zTok b len T c) (hi : i < c) (h3 : T i 0 ≠ 1) : 30 ≤ T i 4 := by
  rw [h.2.2.2.2.2.2.2.2 i hi]
  unfold zwv
  rw [if_neg (fun e => h3 e.1)]
  decide
theorem zfH_i {w : Nat} : zfH w < 30 → w = 13 ∨ w = 14 ∨ w = 15 ∨ w = 4 ∨ w = 5 ∨ w = 6 := by
  intro h
  refine Classical.byContradiction fun hh => ?_
  unfold zfH at h
  rw [if_neg (by omega), if_neg (by omega), if_neg (by omega), if_neg (by omega), if_neg (by omega), if_neg (by omega)] at h
  omega
theorem znn {z : Nat} (hz : z < 2147483648) : (nI z : Int32) ≠ -1 := fun e => by
  have := congrArg Int32.toInt e
  rw [nI_toInt (by omega)] at this
  have h1 : (-1 : Int32).toInt = -1 := rfl
  omega
set_option maxHeartbeats 4000000 in
set_option maxRecDepth 100000 in
theorem sp_monePart {d t len c g P : Nat} {M : zMI} {L : zML} {b : Nat → Nat} {T : zDD} {W0 : List Nat} {r : zPF} (hT : zTok b len T c) (hW : zWds M) (h : zPA false M b len T c g W0 r P) (hrc : r.1.1 < c) : Sy yX12_onePart YX12_onePart (d + 4) [.ref 177] M L (zRf t) (fun v0 M' L' R' => v0 = none ∧ L = L' ∧ R' = zRf t ∧ zSf g M M' ∧ (zPX M' b len T c r ∨ zPB false M' b len T c g W0 r P)) := by
  refine Sp.of (by decide +kernel) rfl (fun h => by first | exact h | cases h) (Nat.le_of_ble_eq_true rfl) ?_
  intro w G
  have badx : ∀ M2 : zMI, zPX M2 b len T c r → zSf g M M2 → WP w YX12_onePart (d + 4, SS, 0, 0) G (some (zXp (fun v0 M' L' R' => v0 = none ∧ L = L' ∧ R' = zRf t ∧ zSf g M M' ∧ (zPX M' b len T c r ∨ zPB false M' b len T c g W0 r P)))) 146 [(0, .ref 177)] [] SS M2 L (zRf t) := by
    intro M2 hx hs
    have hx' := hx
    obtain ⟨x1, x2, x3, x4⟩ := hx
    obtain ⟨x5, x6, x7⟩ := x4 x1
    obtain ⟨kk, hkk⟩ : ∃ kk, r.1.2.2.1 = kk := ⟨_, rfl⟩
    rw [hkk] at x5 x6 x1
    refine wp_aload_n (q := 147) dX12_onePart_146 0 rfl rfl ?_
    refine wp_getI (q := 150) dX12_onePart_147 zf_RX12_236 rfl zsh_177 rfl ?_
    rw [x6]
    refine wp_if_eqN (tgt := 154) (q := 153) dX12_onePart_150 (by decide) rfl (by omega) (fun hn => absurd hn (by first | omega | exact fun h => h | exact fun h => h trivial)) (fun _ => ?_)
    exact wp_return dX12_onePart_153 rfl ⟨rfl, ⟨rfl, rfl, rfl, hs, Or.inl hx'⟩⟩ rfl rfl
  have badl : ∀ M2 : zMI, zPX M2 b len T c r → zSf g M M2 → WP w YX12_onePart (d + 4, SS, 0, 0) G (some (zXp (fun v0 M' L' R' => v0 = none ∧ L = L' ∧ R' = zRf t ∧ zSf g M M' ∧ (zPX M' b len T c r ∨ zPB false M' b len T c g W0 r P)))) 2 [(1, .int (nI 1)), (0, .ref 177)] [] SS M2 L (zRf t) := by
    intro M2 hx hs
    have hx' := hx
    obtain ⟨x1, x2, x3, x4⟩ := hx
    obtain ⟨x5, x6, x7⟩ := x4 x1
    obtain ⟨kk, hkk⟩ : ∃ kk, r.1.2.2.1 = kk := ⟨_, rfl⟩
    rw [hkk] at x5 x6 x1
    refine wp_iload_n (q := 3) dX12_onePart_2 0 rfl rfl ?_
    refine wp_if_eqN (tgt := 146) (q := 6) dX12_onePart_3 (by decide) rfl (by omega) (fun hn => absurd hn (by first | omega | exact fun h => h | exact fun h => h trivial)) (fun _ => ?_)
    refine wp_aload_n (q := 7) dX12_onePart_6 1 rfl rfl ?_
    refine wp_getI (q := 10) dX12_onePart_7 zf_RX12_236 rfl zsh_177 rfl ?_
    rw [x6]
    refine wp_if_neN (tgt := 146) (q := 13) dX12_onePart_10 (by decide) rfl (by omega) (fun _ => ?_) (fun hn => absurd hn (by first | omega | exact fun h => h | exact fun h => h trivial))
    refine WP.sub (loc' := [(0, _)]) [1] rfl ?_
    exact badx M2 hx' hs
  have C274 : ∀ (v op a : Nat) (M2 : zMI) (p : zP) (F : zFl) (f : zLv) (fr : List zLv) (o : Nat), zcd op a = v → zSS M2 b len T c p F (zWf (f :: fr) ++ W0) g W0.length → g + F.length + (zWf (f :: fr) ++ W0).length + 2 ≤ p.1 → zKv false p.1 o (f :: fr) → p.2.1 = nI o → zks T c false (f :: fr) (p, F ++ [(op, a)]) = r → P < p.1 → zSf g M M2 → WP w YX12_onePart (d + 4, SS, 0, 0) G (some (zXp (fun v0 M' L' R' => v0 = none ∧ L = L' ∧ R' = zRf t ∧ zSf g M M' ∧ (zPX M' b len T c r ∨ zPB false M' b len T c g W0 r P)))) 274 [(0, .ref 177)] [.int (nI v), .ref 177] SS M2 L (zRf t) := by
    intro v op a M2 p F f fr o hv hS hs hk ho hr hP hf
    obtain ⟨a1, a2, a3, a4, a5, a6⟩ := hS
    have hc := zTok_c hT a1
    have hpc := a1.2.2.1
    refine wp_cvx (q := 277) (sp_mcode (d := 3) (n := g + F.length) (v := v) a5.1 (by omega)) zm_X12_code zl_RX12_362 dX12_onePart_274 rfl (by omega) (Nat.le_of_ble_eq_true rfl) (by first | assumption | rfl) rfl rfl ?_
    have hq : zQf g 44 M2 (zu (zu M2 211 (g + F.length) (nI v)) 177 44 (nI (g + F.length + 1))) := zQf_7 (zQf_c zQf_r (by omega) (by omega)) (Or.inl rfl) (by omega)
    exact wp_return dX12_onePart_277 rfl ⟨rfl, ⟨rfl, rfl, rfl, zSf_t hf hq.1, Or.inr ⟨p, F ++ [(op, a)], f, fr, o, ⟨zAt_q a1 hq (by decide), by rw [hq.2 6 (by decide) (by decide) (by decide)]; exact a2, a3, by rw [zu_k (by decide), zu_ne (by decide)]; exact a4, zSQ_code a5 (by omega) hv, by rw [List.length_append]; show g + (F.length + 1) + _ + 1 ≤ p.1; omega⟩, hk, ho, hr, hP⟩⟩⟩ rfl rfl
  have C146 : ∀ (M2 : zMI) (p : zP) (F : zFl) (f : zLv) (fr : List zLv) (o : Nat), zSS M2 b len T c p F (zWf (f :: fr) ++ W0) g W0.length → zKv false p.1 o (f :: fr) → p.2.1 = nI o → zks T c false (f :: fr) (zpt T c false f.1 p F) = r → P ≤ p.1 → zSf g M M2 → zpS T p 40 = false → ¬ (T p.1 4 = 22 ∨ T p.1 4 = 23) → WP w YX12_onePart (d + 4, SS, 0, 0) G (some (zXp (fun v0 M' L' R' => v0 = none ∧ L = L' ∧ R' = zRf t ∧ zSf g M M' ∧ (zPX M' b len T c r ∨ zPB false M' b len T c g W0 r P)))) 146 [(0, .ref 177)] [] SS M2 L (zRf t) := by
    intro M2 p F f fr o hS hk ho hr hP hf h40 hmm
    obtain ⟨a1, a2, a3, a4, a5, a6⟩ := hS
    have hc := zTok_c hT a1
    have hpc := a1.2.2.1
    have hW2 := zWds_f hW hf
    obtain ⟨k, hk1⟩ : ∃ k, f.1 = k + 1 := ⟨f.1 - 1, by have h1 := hk.2.1; have h2 := hk.2.2.1; omega⟩
    rw [hk1] at hr
    have T251 : ∀ (ww v a : Nat) (Mj : zMI), ww < 30 → T p.1 4 = ww → zfH ww = a → a < 6 → v = 7 + a → zPf M2 Mj → zAt Mj b len T c (p.1 + 1) → Mj 177 6 = M2 177 6 → WP w YX12_onePart (d + 4, SS, 0, 0) G (some (zXp (fun v0 M' L' R' => v0 = none ∧ L = L' ∧ R' = zRf t ∧ zSf g M M' ∧ (zPX M' b len T c r ∨ zPB false M' b len T c g W0 r P)))) 251 [(0, .ref 177)] [.int (nI v)] SS Mj L (zRf t) := by
      intro ww v a Mj w30 hw ha a6' hv hp hA h6
      obtain ⟨z1, z2, -⟩ := zTok_4 hT hpc w30 hw
      have hz : zpt T c false (k + 1) p F = (zpn c p, F ++ [(1, zfH (T p.1 4))]) := zks_fact (b := false) z2 (show zfH (T p.1 4) < 30 by rw [hw, ha]; omega)
      rw [hz, hw, ha, zpn_o z1] at hr
      refine wp_istore_n (q := 252) (loc' := [(2, _), (0, _)]) dX12_onePart_251 rfl (by decide) rfl rfl ?_
      refine wp_aload_n (q := 253) dX12_onePart_252 1 rfl rfl ?_
      refine wp_iload_n (q := 254) dX12_onePart_253 0 rfl rfl ?_
      refine wp_iconst (q := 255) dX12_onePart_254 zq_iconst_m1 rfl ?_
      refine wp_icmp_eq (tgt := 262) (q := 258) dX12_onePart_255 (by decide) rfl (fun hn => absurd hn (by exact znn (by omega))) (fun _ => ?_)
      refine wp_iload_n (q := 259) dX12_onePart_258 0 rfl rfl ?_
      refine wp_goto (tgt := 274) dX12_onePart_259 (by decide) ?_
      refine WP.sub (loc' := [(0, _)]) [1] rfl ?_
      refine C274 v 1 a Mj (p.1 + 1, p.2.1, p.2.2.1, p.2.2.2) F f fr o (by rw [hv]; rfl) ⟨hA, by rw [h6]; exact a2, a3, by rw [hp.2 47 (by decide) (by decide) (by decide) (by decide) (by decide)]; exact a4, zSQ_p a5 hp, ?_⟩ ?_ (zKv_m (Nat.le_succ _) _ _ hk) ho hr ?_ (zSf_p hf hp)
      · show _ ≤ p.1 + 1; omega
      · show _ ≤ p.1 + 1; omega
      · show P < p.1 + 1; omega
    refine wp_aload_n (q := 147) dX12_onePart_146 0 rfl rfl ?_
    refine wp_getI (q := 150) dX12_onePart_147 zf_RX12_236 rfl zsh_177 rfl ?_
    rw [a1.2.1]
    refine wp_if_eqN (tgt := 154) (q := 153) dX12_onePart_150 (by decide) rfl (by omega) (fun _ => ?_) (fun hn => absurd hn (by first | omega | exact fun h => h | exact fun h => h trivial))
    refine wp_aload_n (q := 155) dX12_onePart_154 0 rfl rfl ?_
    refine wp_aload_n (q := 156) dX12_onePart_155 0 rfl rfl ?_
    refine wp_getR (q := 159) dX12_onePart_156 zf_RX12_60 rfl zsh_177 (zr_177_23 _) rfl ?_
    obtain ⟨o1, ho1⟩ : ∃ o, decide (T p.1 4 = 13) = o := ⟨_, rfl⟩
    refine wp_cvy (q := 162) (sp_mtakes (d := 1) (w0 := 13) a1 hT (zWc_k 13 hW2 (by decide) rfl zsh_193) ho1) zm_X12_takes zl_RX12_263 dX12_onePart_159 rfl (by omega) (Nat.le_of_ble_eq_true rfl) zsh_177 rfl rfl ?_
    rintro _ N1 _ _ ⟨rfl, rfl, rfl, p1, s1, t1, u1⟩
    cases o1 with
    | true =>
      rw [zb01_t]
      refine wp_if_eqN (tgt := 170) (q := 165) dX12_onePart_162 (by decide) rfl (by omega) (fun hn => absurd hn (by first | omega | exact fun h => h | exact fun h => h trivial)) (fun _ => ?_)
      refine wp_bipush (q := 167) dX12_onePart_165 zq_bipush_7 rfl ?_
      refine wp_goto (tgt := 251) dX12_onePart_167 (by decide) ?_
      refine WP.sub (loc' := [(0, _)]) [0] rfl ?_
      exact T251 13 7 0 N1 (by decide) (of_decide_eq_true ho1) rfl (by decide) rfl p1 (t1 rfl) s1
    | false =>
    have n1 := of_decide_eq_false ho1
    have b1 := (u1 rfl).1
    rw [zb01_f]
    refine wp_if_eqN (tgt := 170) (q := 165) dX12_onePart_162 (by decide) rfl (by omega) (fun _ => ?_) (fun hn => absurd hn (by first | omega | exact fun h => h | exact fun h => h trivial))
    refine wp_aload_n (q := 171) dX12_onePart_170 0 rfl rfl ?_
    refine wp_aload_n (q := 172) dX12_onePart_171 0 rfl rfl ?_
    refine wp_getR (q := 175) dX12_onePart_172 zf_RX12_63 rfl zsh_177 (zr_177_24 _) rfl ?_
    obtain ⟨o2, ho2⟩ : ∃ o, decide (T p.1 4 = 14) = o := ⟨_, rfl⟩
    refine wp_cvy (q := 178) (sp_mtakes (d := 1) (w0 := 14) b1 hT (zWc_k 14 (zWds_p hW2 p1) (by decide) rfl zsh_194) ho2) zm_X12_takes zl_RX12_263 dX12_onePart_175 rfl (by omega) (Nat.le_of_ble_eq_true rfl) zsh_177 rfl rfl ?_
    rintro _ N2 _ _ ⟨rfl, rfl, rfl, p2', s2', t2, u2⟩
    have p2 := zPf_t p1 p2'
    have s2 := s2'.trans s1
    cases o2 with
    | true =>
      rw [zb01_t]
      refine wp_if_eqN (tgt := 186) (q := 181) dX12_onePart_178 (by decide) rfl (by omega) (fun hn => absurd hn (by first | omega | exact fun h => h | exact fun h => h trivial)) (fun _ => ?_)
      refine wp_bipush (q := 183) dX12_onePart_181 zq_bipush_8 rfl ?_
      refine wp_goto (tgt := 251) dX12_onePart_183 (by decide) ?_
      refine WP.sub (loc' := [(0, _)]) [0] rfl ?_
      exact T251 14 8 1 N2 (by decide) (of_decide_eq_true ho2) rfl (by decide) rfl p2 (t2 rfl) s2
    | false =>
    have n2 := of_decide_eq_false ho2
    have b2 := (u2 rfl).1
    rw [zb01_f]
    refine wp_if_eqN (tgt := 186) (q := 181) dX12_onePart_178 (by decide) rfl (by omega) (fun _ => ?_) (fun hn => absurd hn (by first | omega | exact fun h => h | exact fun h => h trivial))
    refine wp_aload_n (q := 187) dX12_onePart_186 0 rfl rfl ?_
    refine wp_aload_n (q := 188) dX12_onePart_187 0 rfl rfl ?_
    refine wp_getR (q := 191) dX12_onePart_188 zf_RX12_66 rfl zsh_177 (zr_177_25 _) rfl ?_
    obtain ⟨o3, ho3⟩ : ∃ o, decide (T p.1 4 = 15) = o := ⟨_, rfl⟩
    refine wp_cvy (q := 194) (sp_mtakes (d := 1) (w0 := 15) b2 hT (zWc_k 15 (zWds_p hW2 p2) (by decide) rfl zsh_195) ho3) zm_X12_takes zl_RX12_263 dX12_onePart_191 rfl (by omega) (Nat.le_of_ble_eq_true rfl) zsh_177 rfl rfl ?_
    rintro _ N3 _ _ ⟨rfl, rfl, rfl, p3', s3', t3, u3⟩
    have p3 := zPf_t p2 p3'
    have s3 := s3'.trans s2
    cases o3 with
    | true =>
      rw [zb01_t]
      refine wp_if_eqN (tgt := 202) (q := 197) dX12_onePart_194 (by decide) rfl (by omega) (fun hn => absurd hn (by first | omega | exact fun h => h | exact fun h => h trivial)) (fun _ => ?_)
      refine wp_bipush (q := 199) dX12_onePart_197 zq_bipush_9 rfl ?_
      refine wp_goto (tgt := 251) dX12_onePart_199 (by decide) ?_
      refine WP.sub (loc' := [(0, _)]) [0] rfl ?_
      exact T251 15 9 2 N3 (by decide) (of_decide_eq_true ho3) rfl (by decide) rfl p3 (t3 rfl) s3
    | false =>
    have n3 := of_decide_eq_false ho3
    have b3 := (u3 rfl).1
    rw [zb01_f]
    refine wp_if_eqN (tgt := 202) (q := 197) dX12_onePart_194 (by decide) rfl (by omega) (fun _ => ?_) (fun hn => absurd hn (by first | omega | exact fun h => h | exact fun h => h trivial))
    refine wp_aload_n (q := 203) dX12_onePart_202 0 rfl rfl ?_
    refine wp_aload_n (q := 204) dX12_onePart_203 0 rfl rfl ?_
    refine wp_getR (q := 207) dX12_onePart_204 zf_RX12_33 rfl zsh_177 (zr_177_14 _) rfl ?_
    obtain ⟨o4, ho4⟩ : ∃ o, decide (T p.1 4 = 4) = o := ⟨_, rfl⟩
    refine wp_cvy (q := 210) (sp_mtakes (d := 1) (w0 := 4) b3 hT (zWc_k 4 (zWds_p hW2 p3) (by decide) rfl zsh_184) ho4) zm_X12_takes zl_RX12_263 dX12_onePart_207 rfl (by omega) (Nat.le_of_ble_eq_true rfl) zsh_177 rfl rfl ?_
    rintro _ N4 _ _ ⟨rfl, rfl, rfl, p4', s4', t4, u4⟩
    have p4 := zPf_t p3 p4'
    have s4 := s4'.trans s3
    cases o4 with
    | true =>
      rw [zb01_t]
      refine wp_if_eqN (tgt := 218) (q := 213) dX12_onePart_210 (by decide) rfl (by omega) (fun hn => absurd hn (by first | omega | exact fun h => h | exact fun h => h trivial)) (fun _ => ?_)
      refine wp_bipush (q := 215) dX12_onePart_213 zq_bipush_10 rfl ?_
      refine wp_goto (tgt := 251) dX12_onePart_215 (by decide) ?_
      refine WP.sub (loc' := [(0, _)]) [0] rfl ?_
      exact T251 4 10 3 N4 (by decide) (of_decide_eq_true ho4) rfl (by decide) rfl p4 (t4 rfl) s4
    | false =>
    have n4 := of_decide_eq_false ho4
    have b4 := (u4 rfl).1
    rw [zb01_f]
    refine wp_if_eqN (tgt := 218) (q := 213) dX12_onePart_210 (by decide) rfl (by omega) (fun _ => ?_) (fun hn => absurd hn (by first | omega | exact fun h => h | exact fun h => h trivial))
    refine wp_aload_n (q := 219) dX12_onePart_218 0 rfl rfl ?_
    refine wp_aload_n (q := 220) dX12_onePart_219 0 rfl rfl ?_
    refine wp_getR (q := 223) dX12_onePart_220 zf_RX12_36 rfl zsh_177 (zr_177_15 _) rfl ?_
    obtain ⟨o5, ho5⟩ : ∃ o, decide (T p.1 4 = 5) = o := ⟨_, rfl⟩
    refine wp_cvy (q := 226) (sp_mtakes (d := 1) (w0 := 5) b4 hT (zWc_k 5 (zWds_p hW2 p4) (by decide) rfl zsh_185) ho5) zm_X12_takes zl_RX12_263 dX12_onePart_223 rfl (by omega) (Nat.le_of_ble_eq_true rfl) zsh_177 rfl rfl ?_
    rintro _ N5 _ _ ⟨rfl, rfl, rfl, p5', s5', t5, u5⟩
    have p5 := zPf_t p4 p5'
    have s5 := s5'.trans s4
    cases o5 with
    | true =>
      rw [zb01_t]
      refine wp_if_eqN (tgt := 234) (q := 229) dX12_onePart_226 (by decide) rfl (by omega) (fun hn => absurd hn (by first | omega | exact fun h => h | exact fun h => h trivial)) (fun _ => ?_)
      refine wp_bipush (q := 231) dX12_onePart_229 zq_bipush_11 rfl ?_
      refine wp_goto (tgt := 251) dX12_onePart_231 (by decide) ?_
      refine WP.sub (loc' := [(0, _)]) [0] rfl ?_
      exact T251 5 11 4 N5 (by decide) (of_decide_eq_true ho5) rfl (by decide) rfl p5 (t5 rfl) s5
    | false =>
    have n5 := of_decide_eq_false ho5
    have b5 := (u5 rfl).1
    rw [zb01_f]
    refine wp_if_eqN (tgt := 234) (q := 229) dX12_onePart_226 (by decide) rfl (by omega) (fun _ => ?_) (fun hn => absurd hn (by first | omega | exact fun h => h | exact fun h => h trivial))
    refine wp_aload_n (q := 235) dX12_onePart_234 0 rfl rfl ?_
    refine wp_aload_n (q := 236) dX12_onePart_235 0 rfl rfl ?_
    refine wp_getR (q := 239) dX12_onePart_236 zf_RX12_39 rfl zsh_177 (zr_177_16 _) rfl ?_
    obtain ⟨o6, ho6⟩ : ∃ o, decide (T p.1 4 = 6) = o := ⟨_, rfl⟩
    refine wp_cvy (q := 242) (sp_mtakes (d := 1) (w0 := 6) b5 hT (zWc_k 6 (zWds_p hW2 p5) (by decide) rfl zsh_186) ho6) zm_X12_takes zl_RX12_263 dX12_onePart_239 rfl (by omega) (Nat.le_of_ble_eq_true rfl) zsh_177 rfl rfl ?_
    rintro _ N6 _ _ ⟨rfl, rfl, rfl, p6', s6', t6, u6⟩
    have p6 := zPf_t p5 p6'
    have s6 := s6'.trans s5
    cases o6 with
    | true =>
      rw [zb01_t]
      refine wp_if_eqN (tgt := 250) (q := 245) dX12_onePart_242 (by decide) rfl (by omega) (fun hn => absurd hn (by first | omega | exact fun h => h | exact fun h => h trivial)) (fun _ => ?_)
      refine wp_bipush (q := 247) dX12_onePart_245 zq_bipush_12 rfl ?_
      refine wp_goto (tgt := 251) dX12_onePart_247 (by decide) ?_
      refine WP.sub (loc' := [(0, _)]) [0] rfl ?_
      exact T251 6 12 5 N6 (by decide) (of_decide_eq_true ho6) rfl (by decide) rfl p6 (t6 rfl) s6
    | false =>
    have n6 := of_decide_eq_false ho6
    have b6 := (u6 rfl).1
    have nH : ¬ zfH (T p.1 4) < 30 := fun e => by
      have := zfH_i e
      omega
    rw [zb01_f]
    refine wp_if_eqN (tgt := 250) (q := 245) dX12_onePart_242 (by decide) rfl (by omega) (fun _ => ?_) (fun hn => absurd hn (by first | omega | exact fun h => h | exact fun h => h trivial))
    refine wp_iconst (q := 251) dX12_onePart_250 zq_iconst_m1 rfl ?_
    refine wp_istore_n (q := 252) (loc' := [(2, _), (0, _)]) dX12_onePart_251 rfl (by decide) rfl rfl ?_
    refine wp_aload_n (q := 253) dX12_onePart_252 1 rfl rfl ?_
    refine wp_iload_n (q := 254) dX12_onePart_253 0 rfl rfl ?_
    refine wp_iconst (q := 255) dX12_onePart_254 zq_iconst_m1 rfl ?_
    refine wp_icmp_eq (tgt := 262) (q := 258) dX12_onePart_255 (by decide) rfl (fun _ => ?_) (fun hn => absurd hn (by exact fun e => e rfl))
    refine wp_sipush (q := 265) dX12_onePart_262 zq_sipush_1000 rfl ?_
    refine wp_aload_n (q := 266) dX12_onePart_265 1 rfl rfl ?_
    refine wp_iconst (q := 267) dX12_onePart_266 zq_iconst_0 rfl ?_
    refine wp_sipush (q := 270) dX12_onePart_267 zq_sipush_9999 rfl ?_
    refine wp_cvy (q := 273) (sp_mnumber (d := 2) (ms := 9999) b6 hT (by decide)) zm_X12_number zl_RX12_306 dX12_onePart_270 rfl (by omega) (Nat.le_of_ble_eq_true rfl) zsh_177 rfl rfl ?_
    rintro _ N7 _ _ ⟨rfl, rfl, rfl, p7', g1, g2, g3, g4⟩
    have p7 := zPf_t p6 p7'
    have h44 : N7 177 44 = nI (g + F.length) := by rw [p7.2 44 (by decide) (by decide) (by decide) (by decide) (by decide)]; exact a5.1
    by_cases k2 : T p.1 0 = 2 ∧ T p.1 3 ≤ 4 ∧ T p.1 2 ≤ 9999
    · obtain ⟨k3, k4, k5⟩ := k2
      obtain ⟨x1, x2⟩ := g1 k3 k4 k5
      have ev : znv T p.1 = T p.1 2 := if_pos ⟨k3, k4⟩
      have hz : zpt T c false (k + 1) p F = (zpn c p, F ++ [(0, T p.1 2)]) := by
        rw [zks_num k3]
        unfold zpNu
        rw [if_pos k3, if_pos k4, if_pos k5]
      rw [hz, zpn_o x1.2.2.1] at hr
      rw [ev]
      refine wp_iaddN (q := 274) dX12_onePart_273 rfl ?_
      refine WP.sub (loc' := [(0, _)]) [1] rfl ?_
      refine C274 (1000 + T p.1 2) 0 (T p.1 2) N7 (p.1 + 1, p.2.1, p.2.2.1, p.2.2.2) F f fr o rfl ⟨x1, by rw [x2, s6]; exact a2, a3, by rw [p7.2 47 (by decide) (by decide) (by decide) (by decide) (by decide)]; exact a4, zSQ_p a5 p7, ?_⟩ ?_ (zKv_m (Nat.le_succ _) _ _ hk) ho hr ?_ (zSf_p hf p7)
      · show _ ≤ p.1 + 1; omega
      · show _ ≤ p.1 + 1; omega
      · show P < p.1 + 1; omega
    · have hX : zPX N7 b len T c r := by
        by_cases k3 : T p.1 0 = 2
        · rw [zks_num k3] at hr
          by_cases k4 : T p.1 3 ≤ 4
          · by_cases k5 : T p.1 2 ≤ 9999
            · exact absurd ⟨k3, k4, k5⟩ k2
            · refine zPX_i (kd := 2) (y := nI (T p.1 1)) hr ?_ (by decide) (by decide) hrc (g2 k3 k4 k5)
              show (zpNu T c p 9999).1.2.2 = _
              unfold zpNu
              rw [if_pos k3, if_pos k4, if_neg k5]
              exact zpf_22 a3
          · refine zPX_i (kd := 1) (y := nI (T p.1 1 + 4)) hr ?_ (by decide) (by decide) hrc (g3 k3 k4)
            show (zpNu T c p 9999).1.2.2 = _
            unfold zpNu
            rw [if_pos k3, if_neg k4]
            exact zpf_22 a3
        · rw [zks_bad (b := false) k3 nH h40 hmm (fun e => by cases e.1)] at hr
          exact zPX_i (kd := 1) (y := nI (T p.1 1)) hr (zpf_22 a3) (by decide) (by decide) hrc (g4 k3)
      refine wp_iaddN (q := 274) dX12_onePart_273 rfl ?_
      refine wp_cvx (q := 277) (sp_mcode (d := 3) (n := g + F.length) h44 (by omega)) zm_X12_code zl_RX12_362 dX12_onePart_274 rfl (by omega) (Nat.le_of_ble_eq_true rfl) zsh_177 rfl rfl ?_
      exact wp_return dX12_onePart_277 rfl ⟨rfl, ⟨rfl, rfl, rfl, zSf_7 (zSf_c (zSf_p hf p7) (by omega) (by omega)) (by omega), Or.inl (zPX_fr hX (by rw [zu_k (by decide), zu_ne (by decide)]) (by rw [zu_k (by decide), zu_ne (by decide)]))⟩⟩ rfl rfl
  have loop : ∀ (q : Nat) (M2 : zMI) (p : zP) (F : zFl) (f : zLv) (fr : List zLv) (o : Nat), c ≤ q + p.1 → zSS M2 b len T c p F (zWf (f :: fr) ++ W0) g W0.length → zKv false p.1 o (f :: fr) → p.2.1 = nI o → zks T c false (f :: fr) (zpt T c false f.1 p F) = r → P ≤ p.1 → zSf g M M2 → WP w YX12_onePart (d + 4, SS, 0, 0) G (some (zXp (fun v0 M' L' R' => v0 = none ∧ L = L' ∧ R' = zRf t ∧ zSf g M M' ∧ (zPX M' b len T c r ∨ zPB false M' b len T c g W0 r P)))) 2 [(1, .int (nI 1)), (0, .ref 177)] [] SS M2 L (zRf t) := by
    intro q
    induction q with
    | zero => intro M2 p F f fr o hq hS; exact absurd hS.1.2.2.1 (by omega)
    | succ q ih =>
      intro M2 p F f fr o hq hS hk ho hr hP hf
      have hS0 := hS
      obtain ⟨a1, a2, a3, a4, a5, a6⟩ := hS
      have hc := zTok_c hT a1
      have hpc := a1.2.2.1
      have hlen := zTok_len hT hpc
      have hl16 := a1.1.2.1
      have hk6 := hk.2.1
      obtain ⟨k, hk1⟩ : ∃ k, f.1 = k + 1 := ⟨f.1 - 1, by have h2 := hk.2.2.1; omega⟩
      have hr0 := hr
      rw [hk1] at hr
      have hsg := zSg (s := 40) hT (fun i hi => (a1.1.2.2 i hi).2) hpc (by decide) (by decide)
      refine wp_iload_n (q := 3) dX12_onePart_2 0 rfl rfl ?_
      refine wp_if_eqN (tgt := 146) (q := 6) dX12_onePart_3 (by decide) rfl (by omega) (fun hn => absurd hn (by first | omega | exact fun h => h | exact fun h => h trivial)) (fun _ => ?_)
      refine wp_aload_n (q := 7) dX12_onePart_6 1 rfl rfl ?_
      refine wp_getI (q := 10) dX12_onePart_7 zf_RX12_236 rfl zsh_177 rfl ?_
      rw [a1.2.1]
      refine wp_if_neN (tgt := 146) (q := 13) dX12_onePart_10 (by decide) rfl (by omega) (fun hn => absurd hn (by first | omega | exact fun h => h | exact fun h => h trivial)) (fun _ => ?_)
      refine wp_aload_n (q := 14) dX12_onePart_13 1 rfl rfl ?_
      refine wp_cvy (q := 17) (sp_mLook (d := 3) a1 hT) zm_X12_look zl_RX12_248 dX12_onePart_14 rfl (by omega) (Nat.le_of_ble_eq_true rfl) zsh_177 rfl rfl ?_
      rintro _ N1 _ _ ⟨rfl, rfl, rfl, c1, c2, c3, c4⟩
      have hp1 : zPf M2 N1 := ⟨c4, fun k k1 _ _ _ _ => c3 k k1⟩
      have e47 : N1 177 47 = nI o := by rw [c3 47 (by decide), a4, ho]
      have e46 := a5.2.2.1
      have hln := a5.2.2.2.2.2
      have e46' : N1 177 46 = nI (zWf (f :: fr) ++ W0).length := by rw [c3 46 (by decide)]; exact e46
      refine wp_istore_n (q := 18) (loc' := [(2, _), (1, _), (0, _)]) dX12_onePart_17 rfl (by decide) rfl rfl ?_
      refine wp_iload_n (q := 19) dX12_onePart_18 0 rfl rfl ?_
      refine wp_bipush (q := 21) dX12_onePart_19 zq_bipush_40 rfl ?_
      refine wp_icmp_ne (tgt := 47) (q := 24) dX12_onePart_21 (by decide) rfl (fun z40 => ?_) (fun z40 => ?_)
      · skip
        have hz40 : ¬ (T p.1 0 = 3 ∧ T p.1 2 = 40) := fun e => z40 (hsg.mpr e)
        have h40 : zpS T p 40 = false := zpS_f.mpr hz40
        have hW2 := zWds_f hW hf
        have C90 : ∀ (is : Bool) (M3 : zMI), (is = true → T p.1 4 = 22) → (is = false → T p.1 4 = 23) → zPf M2 M3 → zAt M3 b len T c (p.1 + 1) → M3 177 6 = M2 177 6 → WP w YX12_onePart (d + 4, SS, 0, 0) G (some (zXp (fun v0 M' L' R' => v0 = none ∧ L = L' ∧ R' = zRf t ∧ zSf g M M' ∧ (zPX M' b len T c r ∨ zPB false M' b len T c g W0 r P)))) 90 [(3, .int (nI (zb01 is))), (1, .int (nI 1)), (0, .ref 177)] [] SS M3 L (zRf t) := by
          intro is M3 i1 i2 hp3 hA h36
          have hw : T p.1 4 = 22 ∨ T p.1 4 = 23 := by
            cases is with
            | true => exact Or.inl (i1 rfl)
            | false => exact Or.inr (i2 rfl)
          have z12 : p.1 + 1 < c ∧ T p.1 0 = 1 := by
            rcases hw with e | e
            · have := zTok_4 hT hpc (by decide) e
              exact ⟨this.1, this.2.1⟩
            · have := zTok_4 hT hpc (by decide) e
              exact ⟨this.1, this.2.1⟩
          obtain ⟨z1, z2⟩ := z12
          have hsg1 := zSg (s := 40) hT (fun i hi => (hA.1.2.2 i hi).2) hA.2.2.1 (by decide) (by decide)
          have hlen1 := zTok_len hT hA.2.2.1
          refine wp_aload_n (q := 91) dX12_onePart_90 2 rfl rfl ?_
          refine wp_cvy (q := 94) (sp_mLook (d := 3) hA hT) zm_X12_look zl_RX12_248 dX12_onePart_91 rfl (by omega) (Nat.le_of_ble_eq_true rfl) zsh_177 rfl rfl ?_
          rintro _ N3 _ _ ⟨rfl, rfl, rfl, e1, e2, e3, e4⟩
          have hp4 : zPf M2 N3 := zPf_t hp3 ⟨e4, fun k k1 _ _ _ _ => e3 k k1⟩
          have h36' : N3 177 6 = M2 177 6 := by rw [e3 6 (by decide)]; exact h36
          refine wp_bipush (q := 96) dX12_onePart_94 zq_bipush_40 rfl ?_
          refine wp_icmp_ne (tgt := 106) (q := 99) dX12_onePart_96 (by decide) rfl (fun q40 => ?_) (fun q40 => ?_)
          · skip
            have nq : ¬ (T (p.1 + 1) 0 = 3 ∧ T (p.1 + 1) 2 = 40) := fun e => q40 (hsg1.mpr e)
            rw [zks_mmx hw z2 (zpS_f.mpr (by rw [zpn_o z1]; exact nq)), zpn_o z1] at hr
            refine wp_iconst (q := 107) dX12_onePart_106 zq_iconst_m1 rfl ?_
            refine wp_istore (q := 109) (loc' := [(4, _), (3, _), (1, _), (0, _)]) dX12_onePart_107 (by decide) rfl rfl ?_
            refine wp_iload (q := 111) dX12_onePart_109 0 rfl rfl ?_
            refine wp_iconst (q := 112) dX12_onePart_111 zq_iconst_m1 rfl ?_
            refine wp_icmp_eq (tgt := 132) (q := 115) dX12_onePart_112 (by decide) rfl (fun _ => ?_) (fun hn => absurd hn (by exact fun e => e rfl))
            refine wp_aload_n (q := 133) dX12_onePart_132 3 rfl rfl ?_
            refine wp_bipush (q := 135) dX12_onePart_133 zq_bipush_40 rfl ?_
            refine wp_cvy (q := 138) (sp_masksSign (d := 1) (s := 40) e1 hT (by decide) (by decide)) zm_X12_asksSign zl_RX12_347 dX12_onePart_135 rfl (by omega) (Nat.le_of_ble_eq_true rfl) zsh_177 rfl rfl ?_
            rintro _ N4 _ _ ⟨rfl, rfl, rfl, x1, x2, x3⟩
            refine wp_goto (tgt := 143) dX12_onePart_138 (by decide) ?_
            refine wp_goto (tgt := 2) dX12_onePart_143 (by decide) ?_
            refine WP.sub (loc' := [(1, _), (0, _)]) [2, 3] rfl ?_
            exact badl N4 (zPX_i (kd := 1) (y := nI (T (p.1 + 1) 1)) hr (zpf_22 a3) (by decide) (by decide) hrc (x3 nq)) (zSf_p hf (zPf_t hp4 x1))
          · skip
            have yq : T (p.1 + 1) 0 = 3 ∧ T (p.1 + 1) 2 = 40 := hsg1.mp q40
            obtain ⟨y1, y2⟩ := zTok_3 hT hA.2.2.1 yq.1
            rw [zks_mm hw z2 (zpS_i.mpr (by rw [zpn_o z1]; exact yq)), zpn_o z1] at hr
            have f47 : N3 177 47 = nI o := by rw [hp4.2 47 (by decide) (by decide) (by decide) (by decide) (by decide), a4, ho]
            have f46 : N3 177 46 = nI (zWf (f :: fr) ++ W0).length := by rw [hp4.2 46 (by decide) (by decide) (by decide) (by decide) (by decide)]; exact e46
            have C127 : ∀ wv, wv = (if T p.1 4 = 22 then 21 else 22) → WP w YX12_onePart (d + 4, SS, 0, 0) G (some (zXp (fun v0 M' L' R' => v0 = none ∧ L = L' ∧ R' = zRf t ∧ zSf g M M' ∧ (zPX M' b len T c r ∨ zPB false M' b len T c g W0 r P)))) 127 [(4, .int (nI (T (p.1 + 1) 1))), (3, .int (nI (zb01 is))), (1, .int (nI 1)), (0, .ref 177)] [.int (nI wv), .ref 177] SS N3 L (zRf t) := by
              intro wv hwv
              have hwv2 : 20 ≤ wv ∧ wv ≤ 24 := by rw [hwv]; split <;> decide
              rw [← hwv] at hr
              by_cases o6 : o < 6
              · rw [zpe_o (p := (p.1 + 1, p.2.1, p.2.2.1, p.2.2.2)) ho o6 y1] at hr
                refine wp_iload (q := 129) dX12_onePart_127 0 rfl rfl ?_
                refine wp_cvx (q := 132) (sp_mopens (d := 2) f47 o6 f46 (by omega)) zm_X12_opens zl_RX12_371 dX12_onePart_129 rfl (by omega) (Nat.le_of_ble_eq_true rfl) (by first | assumption | rfl) rfl rfl ?_
                have hq5 : zQf g 47 N3 (zu (zu (zu N3 177 47 (nI (o + 1))) 212 (zWf (f :: fr) ++ W0).length (nI wv)) 177 46 (nI ((zWf (f :: fr) ++ W0).length + 1))) := zQf_7 (zQf_k (zQf_7 zQf_r (Or.inr rfl) (by omega))) (Or.inr rfl) (by omega)
                have g6 : (zu (zu (zu N3 177 47 (nI (o + 1))) 212 (zWf (f :: fr) ++ W0).length (nI wv)) 177 46 (nI ((zWf (f :: fr) ++ W0).length + 1))) 177 6 = M2 177 6 := by rw [hq5.2 6 (by decide) (by decide) (by decide)]; exact h36'
                have g47 : (zu (zu (zu N3 177 47 (nI (o + 1))) 212 (zWf (f :: fr) ++ W0).length (nI wv)) 177 46 (nI ((zWf (f :: fr) ++ W0).length + 1))) 177 47 = nI (o + 1) := by rw [zu_k (by decide), zu_ne (by decide), zu_s]
                have gQ := zSQ_push (x := wv) (zSQ_7 (k := 47) (x := nI (o + 1)) (zSQ_p a5 hp4) (by decide) (by decide) (by decide)) (by omega) (by omega)
                have gA := zAt_q e1 hq5 (by decide)
                obtain ⟨N5, hN5⟩ : ∃ N5, zu (zu (zu N3 177 47 (nI (o + 1))) 212 (zWf (f :: fr) ++ W0).length (nI wv)) 177 46 (nI ((zWf (f :: fr) ++ W0).length + 1)) = N5 := ⟨_, rfl⟩
                rw [hN5] at hq5 g6 g47 gQ gA
                rw [hN5]
                refine wp_aload_n (q := 133) dX12_onePart_132 3 rfl rfl ?_
                refine wp_bipush (q := 135) dX12_onePart_133 zq_bipush_40 rfl ?_
                refine wp_cvy (q := 138) (sp_masksSign (d := 1) (s := 40) gA hT (by decide) (by decide)) zm_X12_asksSign zl_RX12_347 dX12_onePart_135 rfl (by omega) (Nat.le_of_ble_eq_true rfl) zsh_177 rfl rfl ?_
                rintro _ N6 _ _ ⟨rfl, rfl, rfl, x1, x2, x3⟩
                obtain ⟨x4, x5⟩ := x2 yq
                refine wp_goto (tgt := 143) dX12_onePart_138 (by decide) ?_
                refine wp_goto (tgt := 2) dX12_onePart_143 (by decide) ?_
                refine WP.sub (loc' := [(1, _), (0, _)]) [2, 3] rfl ?_
                refine ih N6 (p.1 + 1 + 1, nI (o + 1), p.2.2.1, p.2.2.2) F (k, 0, 1600, 0, 1600, wv) (f :: fr) (o + 1) (by show c ≤ q + (p.1 + 1 + 1); omega) ⟨x4, ?_, a3, ?_, ?_, ?_⟩ ⟨⟨Or.inl rfl, Or.inl rfl, Or.inr ⟨Nat.le_add_right _ _, Nat.le_add_right _ _⟩⟩, by omega, by have h2 := hk.2.2.1; show 8 ≤ k + (o + 1); omega, Or.inr ⟨Or.inl hwv2, by omega, zKv_m (by show p.1 ≤ p.1 + 1 + 1; omega) _ _ hk⟩⟩ rfl hr (by show P ≤ p.1 + 1 + 1; omega) ?_
                · rw [x5, g6]; exact a2
                · rw [x1.2 47 (by decide) (by decide) (by decide) (by decide) (by decide)]; exact g47
                · have e : zWf ((k, 0, 1600, 0, 1600, wv) :: f :: fr) = wv :: zWf (f :: fr) := by
                    show zWl (k, 0, 1600, 0, 1600, wv) ++ _ = _
                    unfold zWl
                    rw [if_neg (show ¬ wv = 60 by omega)]
                    show ([] ++ ([] ++ if wv = 0 then [] else [wv])) ++ _ = _
                    rw [if_neg (by omega)]
                    rfl
                  rw [e]
                  exact zSQ_p gQ x1
                · have e : zWf ((k, 0, 1600, 0, 1600, wv) :: f :: fr) = wv :: zWf (f :: fr) := by
                    show zWl (k, 0, 1600, 0, 1600, wv) ++ _ = _
                    unfold zWl
                    rw [if_neg (show ¬ wv = 60 by omega)]
                    show ([] ++ ([] ++ if wv = 0 then [] else [wv])) ++ _ = _
                    rw [if_neg (by omega)]
                    rfl
                  rw [e]
                  show g + F.length + ((zWf (f :: fr) ++ W0).length + 1) + 1 ≤ p.1 + 1 + 1
                  omega
                · exact zSf_p (zSf_t (zSf_p hf hp4) hq5.1) x1
              · have eo : o = 6 := by omega
                rw [eo] at ho f47
                rw [zpe_6 (p := (p.1 + 1, p.2.1, p.2.2.1, p.2.2.2)) ho] at hr
                refine wp_iload (q := 129) dX12_onePart_127 0 rfl rfl ?_
                refine wp_cvx (q := 132) (sp_mopensB (d := 2) f47 e1.2.1) zm_X12_opens zl_RX12_371 dX12_onePart_129 rfl (by omega) (Nat.le_of_ble_eq_true rfl) (by first | assumption | rfl) rfl rfl ?_
                refine wp_aload_n (q := 133) dX12_onePart_132 3 rfl rfl ?_
                refine wp_bipush (q := 135) dX12_onePart_133 zq_bipush_40 rfl ?_
                refine wp_cvx (q := 138) (sp_masksSignB (d := 1) (bd := 4) (s := 40) (by rw [zu_k (by decide), zu_s]) (by decide) (by decide)) zm_X12_asksSign zl_RX12_347 dX12_onePart_135 rfl (by omega) (Nat.le_of_ble_eq_true rfl) zsh_177 rfl rfl ?_
                refine wp_goto (tgt := 143) dX12_onePart_138 (by decide) ?_
                refine wp_goto (tgt := 2) dX12_onePart_143 (by decide) ?_
                refine WP.sub (loc' := [(1, _), (0, _)]) [2, 3] rfl ?_
                exact badl _ (zPX_a hr (zpf_22 (p := (p.1 + 1, p.2.1, p.2.2.1, p.2.2.2)) a3) (by decide) (by decide) hrc zBd_5) (zSf_7 (zSf_7 (zSf_p hf hp4) (by omega)) (by omega))
            refine wp_aload_n (q := 100) dX12_onePart_99 2 rfl rfl ?_
            refine wp_getI (q := 103) dX12_onePart_100 zf_RX12_242 rfl zsh_177 rfl ?_
            rw [e2]
            refine wp_goto (tgt := 107) dX12_onePart_103 (by decide) ?_
            refine wp_istore (q := 109) (loc' := [(4, _), (3, _), (1, _), (0, _)]) dX12_onePart_107 (by decide) rfl rfl ?_
            refine wp_iload (q := 111) dX12_onePart_109 0 rfl rfl ?_
            refine wp_iconst (q := 112) dX12_onePart_111 zq_iconst_m1 rfl ?_
            refine wp_icmp_eq (tgt := 132) (q := 115) dX12_onePart_112 (by decide) rfl (fun hn => absurd hn (by exact znn (by omega))) (fun _ => ?_)
            refine wp_aload_n (q := 116) dX12_onePart_115 3 rfl rfl ?_
            refine wp_iload_n (q := 117) dX12_onePart_116 1 rfl rfl ?_
            cases is with
            | true =>
              rw [zb01_t]
              refine wp_if_eqN (tgt := 125) (q := 120) dX12_onePart_117 (by decide) rfl (by omega) (fun hn => absurd hn (by first | omega | exact fun h => h | exact fun h => h trivial)) (fun _ => ?_)
              refine wp_bipush (q := 122) dX12_onePart_120 zq_bipush_21 rfl ?_
              refine wp_goto (tgt := 127) dX12_onePart_122 (by decide) ?_
              refine WP.sub (loc' := [(4, _), (3, _), (1, _), (0, _)]) [0, 1, 2, 3] rfl ?_
              exact C127 21 (by rw [if_pos (i1 rfl)])
            | false =>
              rw [zb01_f]
              refine wp_if_eqN (tgt := 125) (q := 120) dX12_onePart_117 (by decide) rfl (by omega) (fun _ => ?_) (fun hn => absurd hn (by first | omega | exact fun h => h | exact fun h => h trivial))
              refine wp_bipush (q := 127) dX12_onePart_125 zq_bipush_22 rfl ?_
              refine WP.sub (loc' := [(4, _), (3, _), (1, _), (0, _)]) [0, 1, 2, 3] rfl ?_
              exact C127 22 (by rw [if_neg (by rw [i2 rfl]; decide)])
        have C69 : ∀ (M3 : zMI), (T p.1 4 = 22 ∨ T p.1 4 = 23) → zPf M2 M3 → zAt M3 b len T c p.1 → M3 177 6 = M2 177 6 → WP w YX12_onePart (d + 4, SS, 0, 0) G (some (zXp (fun v0 M' L' R' => v0 = none ∧ L = L' ∧ R' = zRf t ∧ zSf g M M' ∧ (zPX M' b len T c r ∨ zPB false M' b len T c g W0 r P)))) 69 [(1, .int (nI 1)), (0, .ref 177)] [] SS M3 L (zRf t) := by
          intro M3 hw hp3 hA h36
          obtain ⟨o1, ho1⟩ : ∃ o, decide (T p.1 4 = 22) = o := ⟨_, rfl⟩
          refine wp_aload_n (q := 70) dX12_onePart_69 1 rfl rfl ?_
          refine wp_aload_n (q := 71) dX12_onePart_70 1 rfl rfl ?_
          refine wp_getR (q := 74) dX12_onePart_71 zf_RX12_87 rfl zsh_177 (zr_177_32 _) rfl ?_
          refine wp_cvy (q := 77) (sp_mtakes (d := 1) (w0 := 22) hA hT (zWc_k 22 (zWds_p hW2 hp3) (by decide) rfl zsh_202) ho1) zm_X12_takes zl_RX12_263 dX12_onePart_74 rfl (by omega) (Nat.le_of_ble_eq_true rfl) zsh_177 rfl rfl ?_
          rintro _ N3 _ _ ⟨rfl, rfl, rfl, x1, x2, x3, x4⟩
          cases o1 with
          | true =>
            refine wp_istore_n (q := 78) (loc' := [(3, _), (1, _), (0, _)]) dX12_onePart_77 rfl (by decide) rfl rfl ?_
            refine wp_iload_n (q := 79) dX12_onePart_78 0 rfl rfl ?_
            refine wp_if_ne (tgt := 90) (q := 82) dX12_onePart_79 (by decide) rfl (fun _ => ?_) (fun hn => absurd hn (by decide))
            refine WP.sub (loc' := [(3, _), (1, _), (0, _)]) [0, 1, 2] rfl ?_
            exact C90 true N3 (fun _ => of_decide_eq_true ho1) (fun e => by cases e) (zPf_t hp3 x1) (x3 rfl) (x2.trans h36)
          | false =>
            have nw := of_decide_eq_false ho1
            have w23 : T p.1 4 = 23 := by omega
            refine wp_istore_n (q := 78) (loc' := [(3, _), (1, _), (0, _)]) dX12_onePart_77 rfl (by decide) rfl rfl ?_
            refine wp_iload_n (q := 79) dX12_onePart_78 0 rfl rfl ?_
            refine wp_if_ne (tgt := 90) (q := 82) dX12_onePart_79 (by decide) rfl (fun hn => absurd hn (by decide)) (fun _ => ?_)
            refine wp_aload_n (q := 83) dX12_onePart_82 2 rfl rfl ?_
            refine wp_aload_n (q := 84) dX12_onePart_83 2 rfl rfl ?_
            refine wp_getR (q := 87) dX12_onePart_84 zf_RX12_90 rfl zsh_177 (zr_177_33 _) rfl ?_
            refine wp_cvy (q := 90) (sp_masks (d := 0) (w0 := 23) (x4 rfl).1 hT (zWc_k 23 (zWds_p hW2 (zPf_t hp3 x1)) (by decide) rfl zsh_203)) zm_X12_asks zl_RX12_302 dX12_onePart_87 rfl (by omega) (Nat.le_of_ble_eq_true rfl) zsh_177 rfl rfl ?_
            rintro _ N4 _ _ ⟨rfl, rfl, rfl, y1, y2, y3⟩
            obtain ⟨y4, y5⟩ := y2 w23
            refine WP.sub (loc' := [(3, _), (1, _), (0, _)]) [0, 1, 2] rfl ?_
            exact C90 false N4 (fun e => by cases e) (fun _ => w23) (zPf_t (zPf_t hp3 x1) y1) y4 (by rw [y5, x2]; exact h36)
        refine wp_aload_n (q := 48) dX12_onePart_47 2 rfl rfl ?_
        refine wp_aload_n (q := 49) dX12_onePart_48 2 rfl rfl ?_
        refine wp_getR (q := 52) dX12_onePart_49 zf_RX12_87 rfl zsh_177 (zr_177_32 _) rfl ?_
        refine wp_cvy (q := 55) (sp_mHere (d := 2) (w0 := 22) c1 hT (zWc_k 22 (zWds_p hW2 hp1) (by decide) rfl zsh_202)) zm_X12_isHere zl_RX12_259 dX12_onePart_52 rfl (by omega) (Nat.le_of_ble_eq_true rfl) zsh_177 rfl rfl ?_
        rintro _ N2 _ _ ⟨rfl, rfl, rfl, d1, d2, d3, d4⟩
        have hp2 : zPf M2 N2 := zPf_t hp1 ⟨d4, fun k k1 _ _ _ _ => d3 k k1⟩
        have g26 : N2 177 6 = M2 177 6 := by rw [d3 6 (by decide), c3 6 (by decide)]
        by_cases w22 : T p.1 4 = 22
        · rw [decide_eq_true w22]
          refine wp_if_ne (tgt := 69) (q := 58) dX12_onePart_55 (by decide) rfl (fun _ => ?_) (fun hn => absurd hn (by decide))
          refine WP.sub (loc' := [(1, _), (0, _)]) [1, 2] rfl ?_
          exact C69 N2 (Or.inl w22) hp2 d1 g26
        · rw [decide_eq_false w22]
          refine wp_if_ne (tgt := 69) (q := 58) dX12_onePart_55 (by decide) rfl (fun hn => absurd hn (by decide)) (fun _ => ?_)
          refine wp_aload_n (q := 59) dX12_onePart_58 2 rfl rfl ?_
          refine wp_aload_n (q := 60) dX12_onePart_59 2 rfl rfl ?_
          refine wp_getR (q := 63) dX12_onePart_60 zf_RX12_90 rfl zsh_177 (zr_177_33 _) rfl ?_
          refine wp_cvy (q := 66) (sp_mHere (d := 2) (w0 := 23) d1 hT (zWc_k 23 (zWds_p hW2 hp2) (by decide) rfl zsh_203)) zm_X12_isHere zl_RX12_259 dX12_onePart_63 rfl (by omega) (Nat.le_of_ble_eq_true rfl) zsh_177 rfl rfl ?_
          rintro _ N3 _ _ ⟨rfl, rfl, rfl, f1, f2, f3, f4⟩
          have hp3 : zPf M2 N3 := zPf_t hp2 ⟨f4, fun k k1 _ _ _ _ => f3 k k1⟩
          have g36 : N3 177 6 = M2 177 6 := by rw [f3 6 (by decide)]; exact g26
          by_cases w23 : T p.1 4 = 23
          · rw [decide_eq_true w23]
            refine wp_if_eq (tgt := 141) (q := 69) dX12_onePart_66 (by decide) rfl (fun hn => absurd hn (by decide)) (fun _ => ?_)
            refine WP.sub (loc' := [(1, _), (0, _)]) [1, 2] rfl ?_
            exact C69 N3 (Or.inr w23) hp3 f1 g36
          · rw [decide_eq_false w23]
            refine wp_if_eq (tgt := 141) (q := 69) dX12_onePart_66 (by decide) rfl (fun _ => ?_) (fun hn => absurd hn (by decide))
            refine wp_iconst (q := 142) dX12_onePart_141 zq_iconst_0 rfl ?_
            refine wp_istore_n (q := 143) (loc' := [(1, _), (2, _), (0, _)]) dX12_onePart_142 rfl (by decide) rfl rfl ?_
            refine wp_goto (tgt := 2) dX12_onePart_143 (by decide) ?_
            refine wp_iload_n (q := 3) dX12_onePart_2 0 rfl rfl ?_
            refine wp_if_eqN (tgt := 146) (q := 6) dX12_onePart_3 (by decide) rfl (by omega) (fun _ => ?_) (fun hn => absurd hn (by first | omega | exact fun h => h | exact fun h => h trivial))
            refine WP.sub (loc' := [(0, _)]) [2] rfl ?_
            exact C146 N3 p F f fr o ⟨f1, by rw [g36]; exact a2, a3, by rw [hp3.2 47 (by decide) (by decide) (by decide) (by decide) (by decide)]; exact a4, zSQ_p a5 hp3, a6⟩ hk ho hr0 hP (zSf_p hf hp3) h40 (fun e => by rcases e with e | e; exact w22 e; exact w23 e)
      · skip
        have h40' := hsg.mp z40
        have h40 : zpS T p 40 = true := zpS_i.mpr h40'
        obtain ⟨z1, z2⟩ := zTok_3 hT hpc h40'.1
        rw [zks_open h40 (zTok_n4 hT hpc (by omega))] at hr
        refine wp_aload_n (q := 25) dX12_onePart_24 2 rfl rfl ?_
        refine wp_bipush (q := 27) dX12_onePart_25 zq_bipush_20 rfl ?_
        refine wp_aload_n (q := 28) dX12_onePart_27 2 rfl rfl ?_
        refine wp_getI (q := 31) dX12_onePart_28 zf_RX12_242 rfl zsh_177 rfl ?_
        rw [c2]
        by_cases o6 : o < 6
        · rw [zpe_o ho o6 z1] at hr
          refine wp_cvx (q := 34) (sp_mopens (d := 2) e47 o6 e46' (by omega)) zm_X12_opens zl_RX12_371 dX12_onePart_31 rfl (by omega) (Nat.le_of_ble_eq_true rfl) zsh_177 rfl rfl ?_
          refine wp_aload_n (q := 35) dX12_onePart_34 2 rfl rfl ?_
          refine wp_dup (q := 36) dX12_onePart_35 rfl rfl ?_
          refine wp_getI (q := 39) dX12_onePart_36 zf_RX12_242 rfl zsh_177 rfl ?_
          rw [zu_k (by decide), zu_ne (by decide), zu_k (by decide), c2]
          refine wp_iconst (q := 40) dX12_onePart_39 zq_iconst_1 rfl ?_
          refine wp_iaddN (q := 41) dX12_onePart_40 rfl ?_
          refine wp_putI (q := 44) dX12_onePart_41 zf_RX12_242 rfl zsh_177 rfl ?_
          refine wp_goto (tgt := 143) dX12_onePart_44 (by decide) ?_
          refine wp_goto (tgt := 2) dX12_onePart_143 (by decide) ?_
          refine WP.sub (loc' := [(1, _), (0, _)]) [1, 2] rfl ?_
          have hq5 : zQf g 47 N1 (zu (zu (zu N1 177 47 (nI (o + 1))) 212 (zWf (f :: fr) ++ W0).length (nI 20)) 177 46 (nI ((zWf (f :: fr) ++ W0).length + 1))) := zQf_7 (zQf_k (zQf_7 zQf_r (Or.inr rfl) (by omega))) (Or.inr rfl) (by omega)
          refine ih _ (p.1 + 1, nI (o + 1), p.2.2.1, p.2.2.2) F (k, 0, 1600, 0, 1600, 20) (f :: fr) (o + 1) (by show c ≤ q + (p.1 + 1); omega) ⟨zAt_g (zAt_q c1 hq5 (by decide)) hT h40'.1, ?_, a3, ?_, ?_, ?_⟩ ⟨⟨Or.inl rfl, Or.inl rfl, Or.inr ⟨Nat.le_add_right _ _, Nat.le_add_right _ _⟩⟩, by omega, by have h2 := hk.2.2.1; show 8 ≤ k + (o + 1); omega, Or.inr ⟨Or.inl ⟨(by decide : 20 ≤ 20), (by decide : 20 ≤ 24)⟩, by omega, zKv_m (Nat.le_succ _) _ _ hk⟩⟩ rfl hr (by show P ≤ p.1 + 1; omega) ?_
          · rw [zu_k (by decide), hq5.2 6 (by decide) (by decide) (by decide), c3 6 (by decide)]; exact a2
          · rw [zu_k (by decide), zu_k (by decide), zu_ne (by decide), zu_s]
          · exact zSQ_7 (zSQ_push (zSQ_7 (zSQ_p a5 hp1) (by decide) (by decide) (by decide)) (by omega) (by decide)) (by decide) (by decide) (by decide)
          · show g + F.length + ((zWf (f :: fr) ++ W0).length + 1) + 1 ≤ p.1 + 1
            omega
          · exact zSf_7 (zSf_t (zSf_p hf hp1) hq5.1) (by omega)
        · have eo : o = 6 := by omega
          rw [eo] at ho e47
          rw [zpe_6 ho] at hr
          refine wp_cvx (q := 34) (sp_mopensB (d := 2) e47 c1.2.1) zm_X12_opens zl_RX12_371 dX12_onePart_31 rfl (by omega) (Nat.le_of_ble_eq_true rfl) zsh_177 rfl rfl ?_
          refine wp_aload_n (q := 35) dX12_onePart_34 2 rfl rfl ?_
          refine wp_dup (q := 36) dX12_onePart_35 rfl rfl ?_
          refine wp_getI (q := 39) dX12_onePart_36 zf_RX12_242 rfl zsh_177 rfl ?_
          rw [zu_k (by decide), zu_k (by decide), c2]
          refine wp_iconst (q := 40) dX12_onePart_39 zq_iconst_1 rfl ?_
          refine wp_iaddN (q := 41) dX12_onePart_40 rfl ?_
          refine wp_putI (q := 44) dX12_onePart_41 zf_RX12_242 rfl zsh_177 rfl ?_
          refine wp_goto (tgt := 143) dX12_onePart_44 (by decide) ?_
          refine wp_goto (tgt := 2) dX12_onePart_143 (by decide) ?_
          refine WP.sub (loc' := [(1, _), (0, _)]) [1, 2] rfl ?_
          refine badl _ (zPX_fr (zPX_a (M := zu (zu N1 177 5 (nI 4)) 177 6 (nI (T p.1 1))) hr (zpf_22 a3) (by decide) (by decide) hrc zBd_5) (zu_k (by decide)) (zu_k (by decide))) (zSf_7 (zSf_7 (zSf_7 (zSf_p hf hp1) (by omega)) (by omega)) (by omega))
  obtain ⟨p, F, f, fr, o, h1, h2, h3, h4, h5⟩ := h
  refine wp_iconst (q := 1) dX12_onePart_0 zq_iconst_1 rfl ?_
  refine wp_istore_n (q := 2) (loc' := [(1, _), (0, _)]) dX12_onePart_1 rfl (by decide) rfl rfl ?_
  refine WP.sub (loc' := [(1, _), (0, _)]) [0, 1] rfl ?_
  exact loop c M p F f fr o (by omega) h1 h2 h3 h4 h5 zSf_r

