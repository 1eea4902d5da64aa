def zge (c : Nat) (p q : zP) : Prop := p.1 < c → p.1 ≤ q.1 ∧ q.1 < c
theorem zge_t {c : Nat} {p q r : zP} (h : zge c p q) (h' : zge c q r) : zge c p r := fun e => by
  have h1 := h e
  have h2 := h' h1.2
  exact ⟨by omega, h2.2⟩
theorem zge_r {c : Nat} {p : zP} : zge c p p := fun e => ⟨Nat.le_refl _, e⟩
theorem zge_n {c : Nat} {p : zP} : zge c p (zpn c p) := fun e => by
  unfold zpn
  show p.1 ≤ (if p.1 < c - 1 then p.1 + 1 else p.1) ∧ (if p.1 < c - 1 then p.1 + 1 else p.1) < c
  split <;> omega
theorem zge_f {c k : Nat} {p : zP} {y : Int32} : zge c p (zpf c p k y) := fun e => by
  rw [zpf_1]
  omega
theorem zge_NS {T : zDD} {c s : Nat} {p : zP} : zge c p (zpNS T c p s) := by
  unfold zpNS
  split
  · exact zge_n
  · exact zge_f
theorem zge_Wo {T : zDD} {c f l : Nat} {p : zP} : zge c p (zpWo T c p f l).1 := by
  unfold zpWo
  split
  · exact zge_n
  · exact zge_f
theorem zge_Nu {T : zDD} {c m : Nat} {p : zP} : zge c p (zpNu T c p m).1 := by
  unfold zpNu
  split
  · split
    · split
      · exact zge_n
      · exact zge_f
    · exact zge_f
  · exact zge_f
theorem zge_Na {T : zDD} {c : Nat} {p : zP} : zge c p (zpNa T c p).1 := by
  unfold zpNa
  split
  · split
    · exact zge_n
    · exact zge_f
  · exact zge_f
theorem zge_tn {T : zDD} {c n bx : Nat} {p : zP} {nm bn : Nat → Nat} : zge c p (ztn T c p n nm bx bn).1 := by
  unfold ztn
  split
  · exact zge_t zge_Na zge_f
  · exact zge_Na
theorem zge_tp {T : zDD} {c n : Nat} {p : zP} {nm : Nat → Nat} : zge c p (ztp T c p n nm).1 := by
  unfold ztp
  split
  · split
    · exact zge_Na
    · exact zge_t zge_Na zge_f
  · exact zge_Na
theorem zge_P {T : zDD} {c : Nat} {p : zP} {D : zDD} : zge c p (zrP T c p D).1 := by
  unfold zrP
  split
  · exact zge_t zge_n (zge_t zge_tn (zge_t zge_Wo (zge_t zge_Nu (zge_t zge_Wo zge_Nu))))
  · exact zge_f
theorem zge_B {T : zDD} {c : Nat} {p : zP} {D : zDD} : zge c p (zrB T c p D).1 := by
  unfold zrB
  split
  · exact zge_t zge_n (zge_t zge_tn (zge_t zge_Wo zge_Nu))
  · exact zge_f
theorem zge_H {T : zDD} {c : Nat} {p : zP} {D : zDD} : zge c p (zrH T c p D).1 := zge_t zge_n (zge_t zge_tp (zge_t zge_Wo (zge_t zge_Wo zge_Nu)))
theorem zge_T {T : zDD} {c : Nat} {p : zP} {D : zDD} : zge c p (zrT T c p D).1 := zge_t zge_n (zge_t zge_tp zge_Nu)
theorem zge_G {T : zDD} {c : Nat} {p : zP} {D : zDD} : zge c p (zrG T c p D).1 := zge_t zge_n zge_Nu
-- the other fields of the table through a statement
def zDsm (D D' : zDD) : Prop := D' 0 0 = D 0 0 ∧ D' 0 11 = D 0 11 ∧ D' 0 12 = D 0 12
theorem zDsm_P {T : zDD} {c : Nat} {p : zP} {D : zDD} : zDsm D (zrP T c p D).2 := by
  refine ⟨?_, zfl_P (Or.inl rfl), zfl_P (Or.inr rfl)⟩
  unfold zrP
  split
  · unfold zrP1 zrP2 zrP3 zrPD
    simp [zu_at]
  · rfl
theorem zDsm_B {T : zDD} {c : Nat} {p : zP} {D : zDD} : zDsm D (zrB T c p D).2 := by
  refine ⟨?_, zfl_B (Or.inl rfl), zfl_B (Or.inr rfl)⟩
  unfold zrB
  split
  · unfold zrB1 zrB3
    simp [zu_at]
  · rfl
theorem zDsm_G {T : zDD} {c : Nat} {p : zP} {D : zDD} : zDsm D (zrG T c p D).2 := ⟨by show zu D 0 10 (zpNu T c (zpn c p) 100).2 0 0 = _; exact zu_k (by decide), zfl_G (Or.inl rfl), zfl_G (Or.inr rfl)⟩
theorem zDsm_H {T : zDD} {c : Nat} {p : zP} {D : zDD} : zDsm D (zrH T c p D).2 := ⟨zfl_H, zfl_H, zfl_H⟩
theorem zDsm_T {T : zDD} {c : Nat} {p : zP} {D : zDD} : zDsm D (zrT T c p D).2 := ⟨zfl_T, zfl_T, zfl_T⟩
def zUx (o k : Nat) : Prop := zTx o k ∨ (o = 177 ∧ (k = 42 ∨ k = 44 ∨ k = 46 ∨ k = 47 ∨ k = 48)) ∨ ((o = 209 ∨ o = 210) ∧ k < 2) ∨ (o = 211 ∧ k < 1600) ∨ o = 212
def zUf (M M' : zMI) (L L' : zML) : Prop := (∀ o k, ¬ zUx o k → M' o k = M o k) ∧ ∀ o k, ¬ (o = 205 ∧ k < 12) → L' o k = L o k
theorem zUf_r {M : zMI} {L : zML} : zUf M M L L := ⟨fun _ _ _ => rfl, fun _ _ _ => rfl⟩
theorem zUf_t {M M' M'' : zMI} {L L' L'' : zML} (h : zUf M M' L L') (h' : zUf M' M'' L' L'') : zUf M M'' L L'' := ⟨fun o k c => by rw [h'.1 o k c, h.1 o k c], fun o k c => by rw [h'.2 o k c, h.2 o k c]⟩
theorem zUf_T {M M' : zMI} {L L' : zML} (h : zTr M M' L L') : zUf M M' L L' := ⟨fun o k c => h.1 o k (fun e => c (Or.inl e)), h.2⟩
theorem zUf_p {M M' : zMI} {L : zML} (hp : zPf M M') : zUf M M' L L := zUf_T (zTr_pf hp)
theorem zUf_w {M M' : zMI} {L L' : zML} {o k : Nat} {x : Int32} (h : zUf M M' L L') (hx : zUx o k) : zUf M (zu M' o k x) L L' := ⟨fun o' k' c => by
  rw [zu_at, if_neg (fun e => c (by rw [e.1, e.2]; exact hx))]
  exact h.1 o' k' c, h.2⟩
theorem zSy_U {w cod o k : Nat} (hw : w ≤ 1) (h : zSy cod o k ∨ ((o = 209 ∨ o = 210) ∧ k = w)) : zUx o k := by
  rcases h with (⟨h1, h2⟩ | ⟨h1, h2, h3⟩ | h1) | ⟨h1, h2⟩
  · by_cases c : k = 2 ∨ k = 4 ∨ k = 5 ∨ k = 6 ∨ k = 34
    · exact Or.inl (Or.inl ⟨h1, c⟩)
    · exact Or.inr (Or.inl ⟨h1, by omega⟩)
  · exact Or.inr (Or.inr (Or.inr (Or.inl ⟨h1, h3⟩)))
  · exact Or.inr (Or.inr (Or.inr (Or.inr h1)))
  · exact Or.inr (Or.inr (Or.inl ⟨h1, by omega⟩))
theorem zUf_g {w cod : Nat} {M M' : zMI} {L : zML} (h : zSgf w cod M M') (hw : w ≤ 1) : zUf M M' L L := ⟨fun o k c => h o k (fun e => c (zSy_U hw e)), fun _ _ _ => rfl⟩
theorem zRp_7 {M : zMI} {b : Nat → Nat} {len c k : Nat} {T : zDD} {p : zP} {x : Int32} (h : zRp M b len T c p) (hk : 6 < k) : zRp (zu M 177 k x) b len T c p := by
  unfold zRp zAt zTa at *
  rw [zu_k (by omega), zu_k (by omega), zu_k (by omega), zu_k (by omega), zu_k (by omega), zu_ne (by decide)]
  exact h
def zTL (M : zMI) (L : zML) (b : Nat → Nat) (len : Nat) (T : zDD) (c : Nat) (s : zTS) : Prop := zRp M b len T c s.1 ∧ (s.1.2.2.1 = 0 → zMD M L s.2.1 ∧ M 177 42 = nI (s.2.1 0 0) ∧ ∃ cod, M 177 44 = nI cod ∧ cod ≤ s.1.1 ∧ zMsw M 0 (s.2.1 0 11) s.2.2.1 cod ∧ zMsw M 1 (s.2.1 0 12) s.2.2.2 cod)
theorem zWds_u {M M' : zMI} {L L' : zML} (h : zWds M) (hq : zUf M M' L L') : zWds M' := by
  have e : ∀ x, x ≠ 177 → x ≠ 204 → x ≠ 206 → x ≠ 207 → x ≠ 208 → x ≠ 209 → x ≠ 210 → x ≠ 211 → x ≠ 212 → M' x = M x := fun x _ _ _ _ _ _ _ _ _ => funext fun k => hq.1 x k (by unfold zUx zTx; omega)
  refine ⟨fun w hw => ?_, fun j hj => ?_⟩
  · have := h.1 w hw
    unfold zWd at *
    rw [e _ (by omega) (by omega) (by omega) (by omega) (by omega) (by omega) (by omega) (by omega) (by omega)]
    exact this
  · have := h.2 j hj
    unfold zWd at *
    rw [e _ (by omega) (by omega) (by omega) (by omega) (by omega) (by omega) (by omega) (by omega) (by omega)]
    exact this
-- a statement of people, holds, boxes, hats, bang
theorem zTL_q {M M1 M' : zMI} {L L' : zML} {b : Nat → Nat} {len c : Nat} {T : zDD} {s : zTS} {q : zP × zDD} (h : zTL M L b len T c s) (k0 : s.1.2.2.1 = 0) (hp : zPf M M1) (hf : zTr M1 M' L L') (hR : zRp M' b len T c q.1) (hD : q.1.2.2.1 = 0 → zMD M' L' q.2) (hs : zDsm s.2.1 q.2) (hg : s.1.1 ≤ q.1.1) (hc : c ≤ 1601) : zTL M' L' b len T c (q.1, q.2, s.2.2) ∧ M' 177 42 = nI (s.2.1 0 0) ∧ zUf M M' L L' := by
  obtain ⟨h1, h2⟩ := h
  obtain ⟨a1, a2, cod, a3, a4, a5, a6⟩ := h2 k0
  have hu : zUf M M' L L' := zUf_t (zUf_p hp) (zUf_T hf)
  have e42 : M' 177 42 = M 177 42 := by rw [hf.1 177 42 (by unfold zTx; omega), hp.2 42 (by decide) (by decide) (by decide) (by decide) (by decide)]
  have e44 : M' 177 44 = M 177 44 := by rw [hf.1 177 44 (by unfold zTx; omega), hp.2 44 (by decide) (by decide) (by decide) (by decide) (by decide)]
  have ex : ∀ x k, 209 ≤ x → M' x k = M x k := fun x k hx => by rw [hf.1 x k (by unfold zTx; omega), hp.1 x (by omega)]
  have hqc := hR.1
  refine ⟨⟨hR, fun e => ⟨hD e, by rw [e42, show (q.1, q.2, s.2.2).2.1 0 0 = s.2.1 0 0 from hs.1]; exact a2, cod, by rw [e44]; exact a3, by show cod ≤ q.1.1; omega, ?_, ?_⟩⟩, by rw [e42]; exact a2, hu⟩
  · rw [show (q.1, q.2, s.2.2).2.1 0 11 = s.2.1 0 11 from hs.2.1]
    exact zMsw_fr a5 (ex _ _ (by decide)) (ex _ _ (by decide)) (fun j _ => ex _ _ (by decide)) (Nat.le_refl _) (by omega)
  · rw [show (q.1, q.2, s.2.2).2.1 0 12 = s.2.1 0 12 from hs.2.2]
    exact zMsw_fr a6 (ex _ _ (by decide)) (ex _ _ (by decide)) (fun j _ => ex _ _ (by decide)) (Nat.le_refl _) (by omega)
set_option maxHeartbeats 4000000 in
set_option maxRecDepth 100000 in
theorem sp_mstatementTold {d t len c : Nat} {M : zMI} {L : zML} {b : Nat → Nat} {T : zDD} {s r : zTS} (hT : zTok b len T c) (hW : zWds M) (h : zTL M L b len T c s) (k0 : s.1.2.2.1 = 0) (h2 : M 177 2 = nI (T s.1.1 1)) (he : T s.1.1 0 ≠ 0) (hz : s.1.2.1 = nI 0) (hn : s.2.1 0 0 < 60) (hr : zro T c s = r) : Sy yX12_statementTold YX12_statementTold (d + 7) [.ref 177] M L (zRf t) (fun v0 M' L' R' => v0 = none ∧ R' = zRf t ∧ zUf M M' L L' ∧ zTL M' L' b len T c r) := by
  refine Sp.of (by decide +kernel) rfl (fun h => by first | exact h | cases h) (Nat.le_of_ble_eq_true rfl) ?_
  intro w G
  have hh := h
  obtain ⟨hR, hh2⟩ := h
  obtain ⟨hD, h42, cod, h44, hcod, hs0, hs1⟩ := hh2 k0
  obtain ⟨ha, ha6⟩ := hR.2.1 k0
  have hpc := hR.1
  have hc := zTok_c hT ha
  unfold zro at hr
  have C156 : ∀ (N : zMI) (LN : zML) (q : zTS), zro1 T c s = q → zTL N LN b len T c q → N 177 42 = nI (s.2.1 0 0) → zUf M N L LN → (q.1.2.2.1 = 0 → q.2.1 0 0 = s.2.1 0 0) → WP w YX12_statementTold (d + 7, SS, 0, 0) G (some (zXp (fun v0 M' L' R' => v0 = none ∧ R' = zRf t ∧ zUf M M' L L' ∧ zTL M' L' b len T c r))) 156 [(1, .int (nI (T s.1.1 1))), (0, .ref 177)] [] SS N LN (zRf t) := by
    intro N LN q hq hL h42 hu hq0
    rw [hq] at hr
    have hqc := hL.1.1
    refine wp_aload_n (q := 157) dX12_statementTold_156 1 rfl rfl ?_
    refine wp_bipush (q := 159) dX12_statementTold_157 zq_bipush_59 rfl ?_
    refine wp_cvy (q := 162) (sp_masksSignR (d := d + 4) (s := 59) hL.1 hT (by decide) (by decide)) zm_X12_asksSign zl_RX12_347 dX12_statementTold_159 rfl (by omega) (Nat.le_of_ble_eq_true rfl) zsh_177 rfl rfl ?_
    rintro _ N2 _ _ ⟨rfl, rfl, rfl, p2, r2⟩
    refine wp_aload_n (q := 163) dX12_statementTold_162 1 rfl rfl ?_
    refine wp_dup (q := 164) dX12_statementTold_163 rfl rfl ?_
    refine wp_getI (q := 167) dX12_statementTold_164 zf_RX12_328 rfl zsh_177 rfl ?_
    rw [p2.2 42 (by decide) (by decide) (by decide) (by decide) (by decide), h42]
    refine wp_iconst (q := 168) dX12_statementTold_167 zq_iconst_1 rfl ?_
    refine wp_iaddN (q := 169) dX12_statementTold_168 rfl ?_
    refine wp_putI (q := 172) dX12_statementTold_169 zf_RX12_328 rfl zsh_177 rfl ?_
    have hrr : r = (zpNS T c q.1 59, zu q.2.1 0 0 (q.2.1 0 0 + 1), q.2.2) := hr.symm
    have f1 : zfq q.1 (zpNS T c q.1 59) := zfq_NS
    have hge := (zge_NS (T := T) (s := 59) : zge c q.1 _) hqc
    refine wp_return dX12_statementTold_172 rfl ⟨rfl, ⟨rfl, rfl, zUf_w (zUf_t hu (zUf_p p2)) (Or.inr (Or.inl ⟨rfl, Or.inl rfl⟩)), ?_⟩⟩ rfl rfl
    rw [hrr]
    refine ⟨zRp_7 r2 (by decide), fun e => ?_⟩
    have e0 := zfq_0 f1 e
    obtain ⟨b1, b2, cd, b3, b4, b5, b6⟩ := hL.2 e0
    have hkk : (zu q.2.1 0 0 (q.2.1 0 0 + 1)) 0 11 = q.2.1 0 11 ∧ (zu q.2.1 0 0 (q.2.1 0 0 + 1)) 0 12 = q.2.1 0 12 := ⟨zu_k (by decide), zu_k (by decide)⟩
    refine ⟨zMD_o (zMD_fr (zMD_p b1 p2) (zu_ne (by decide)) (zu_ne (by decide)) (zu_ne (by decide)) (zu_ne (by decide))) (by decide) (by decide) (by decide), ?_, cd, ?_, by show cd ≤ (zpNS T c q.1 59).1; omega, ?_, ?_⟩
    · show _ = nI ((zu q.2.1 0 0 (q.2.1 0 0 + 1)) 0 0)
      rw [zu_s, zu_s, hq0 e0]
    · rw [zu_k (by decide), p2.2 44 (by decide) (by decide) (by decide) (by decide) (by decide)]
      exact b3
    · show zMsw _ 0 ((zu q.2.1 0 0 (q.2.1 0 0 + 1)) 0 11) q.2.2.1 cd
      rw [hkk.1]
      exact zMsw_fr b5 (by rw [zu_ne (by decide), p2.1 209 (by decide)]) (by rw [zu_ne (by decide), p2.1 210 (by decide)]) (fun j _ => by rw [zu_ne (by decide), p2.1 211 (by decide)]) (Nat.le_refl _) (by omega)
    · show zMsw _ 1 ((zu q.2.1 0 0 (q.2.1 0 0 + 1)) 0 12) q.2.2.2 cd
      rw [hkk.2]
      exact zMsw_fr b6 (by rw [zu_ne (by decide), p2.1 209 (by decide)]) (by rw [zu_ne (by decide), p2.1 210 (by decide)]) (fun j _ => by rw [zu_ne (by decide), p2.1 211 (by decide)]) (Nat.le_refl _) (by omega)
  have goT : ∀ (N N' : zMI) (L' : zML) (q : zP × zDD), zPf M N → zTr N N' L L' → zRp N' b len T c q.1 → (q.1.2.2.1 = 0 → zMD N' L' q.2) → zDsm s.2.1 q.2 → s.1.1 ≤ q.1.1 → zro1 T c s = (q.1, q.2, s.2.2) → WP w YX12_statementTold (d + 7, SS, 0, 0) G (some (zXp (fun v0 M' L' R' => v0 = none ∧ R' = zRf t ∧ zUf M M' L L' ∧ zTL M' L' b len T c r))) 156 [(1, .int (nI (T s.1.1 1))), (0, .ref 177)] [] SS N' L' (zRf t) := by
    intro N N' L' q hp hf hRq hDq hs hg e
    obtain ⟨g1, g2, g3⟩ := zTL_q hh k0 hp hf hRq hDq hs hg hc
    exact C156 N' L' _ e g1 g2 g3 (fun _ => hs.1)
  have up : ∀ (N : zMI) (w : Nat), w < 30 → T s.1.1 4 = w → zAt N b len T c (s.1.1 + 1) → N 177 6 = M 177 6 → s.1.1 + 1 < c ∧ zRp N b len T c (zpn c s.1) := by
    intro N w hw e hA h6
    obtain ⟨z1, -⟩ := zTok_4 hT hpc hw e
    rw [zpn_o z1]
    exact ⟨z1, z1, fun _ => ⟨hA, by rw [h6]; exact ha6⟩, fun e => absurd k0 e⟩
  refine wp_aload_n (q := 1) dX12_statementTold_0 0 rfl rfl ?_
  refine wp_getI (q := 4) dX12_statementTold_1 zf_RX12_242 rfl zsh_177 rfl ?_
  rw [h2]
  refine wp_istore_n (q := 5) (loc' := [(1, _), (0, _)]) dX12_statementTold_4 rfl (by decide) rfl rfl ?_
  refine wp_aload_n (q := 6) dX12_statementTold_5 1 rfl rfl ?_
  refine wp_getI (q := 9) dX12_statementTold_6 zf_RX12_328 rfl zsh_177 rfl ?_
  rw [h42]
  refine wp_bipush (q := 11) dX12_statementTold_9 zq_bipush_60 rfl ?_
  refine wp_icmp_neN (tgt := 21) (q := 14) dX12_statementTold_11 (by decide) rfl (by omega) (by omega) (fun _ => ?_) (fun hn => absurd hn (by first | omega | exact fun h => h | exact fun h => h trivial))
  refine wp_aload_n (q := 22) dX12_statementTold_21 1 rfl rfl ?_
  refine wp_aload_n (q := 23) dX12_statementTold_22 1 rfl rfl ?_
  refine wp_getR (q := 26) dX12_statementTold_23 zf_RX12_20 rfl zsh_177 (zr_177_10 _) rfl ?_
  obtain ⟨o1, ho1⟩ : ∃ o, decide (T s.1.1 4 = 0) = o := ⟨_, rfl⟩
  refine wp_cvy (q := 29) (sp_mtakes (d := d + 4) (w0 := 0) ha hT (zWc_k 0 hW (by decide) rfl zsh_180) ho1) zm_X12_takes zl_RX12_263 dX12_statementTold_26 rfl (by omega) (Nat.le_of_ble_eq_true rfl) zsh_177 rfl rfl ?_
  rintro _ N1 _ _ ⟨rfl, rfl, rfl, p1, s1, t1, u1⟩
  cases o1 with
  | true =>
    obtain ⟨w1, w2⟩ := up N1 0 (by decide) (of_decide_eq_true ho1) (t1 rfl) s1
    rw [zb01_t]
    refine wp_if_eqN (tgt := 40) (q := 32) dX12_statementTold_29 (by decide) rfl (by omega) (fun hn => absurd hn (by first | omega | exact fun h => h | exact fun h => h trivial)) (fun _ => ?_)
    refine wp_aload_n (q := 33) dX12_statementTold_32 1 rfl rfl ?_
    refine wp_iload_n (q := 34) dX12_statementTold_33 0 rfl rfl ?_
    refine wp_cvy (q := 37) (sp_mpersonTold (d := d + 1) k0 w2 hT (zWds_p hW p1) (zMD_p hD p1) rfl) zm_X12_personTold zl_RX12_331 dX12_statementTold_34 rfl (by omega) (Nat.le_of_ble_eq_true rfl) zsh_177 rfl rfl ?_
    rintro _ N2 L2 _ ⟨rfl, rfl, g1, g2, g3⟩
    refine wp_goto (tgt := 156) dX12_statementTold_37 (by decide) ?_
    refine WP.sub (loc' := [(1, _), (0, _)]) [0, 1] rfl ?_
    exact goT N1 N2 L2 _ p1 g1 g2 g3 zDsm_P ((zge_P : zge c _ _) hpc).1 (by unfold zro1; rw [if_pos (of_decide_eq_true ho1)])
  | false =>
  have n1 := of_decide_eq_false ho1
  have b1 := (u1 rfl).1
  rw [zb01_f]
  refine wp_if_eqN (tgt := 40) (q := 32) dX12_statementTold_29 (by decide) rfl (by omega) (fun _ => ?_) (fun hn => absurd hn (by first | omega | exact fun h => h | exact fun h => h trivial))
  refine wp_aload_n (q := 41) dX12_statementTold_40 1 rfl rfl ?_
  refine wp_aload_n (q := 42) dX12_statementTold_41 1 rfl rfl ?_
  refine wp_getR (q := 45) dX12_statementTold_42 zf_RX12_30 rfl zsh_177 (zr_177_13 _) rfl ?_
  obtain ⟨o2, ho2⟩ : ∃ o, decide (T s.1.1 4 = 3) = o := ⟨_, rfl⟩
  refine wp_cvy (q := 48) (sp_mtakes (d := d + 4) (w0 := 3) b1 hT (zWc_k 3 (zWds_p hW p1) (by decide) rfl zsh_183) ho2) zm_X12_takes zl_RX12_263 dX12_statementTold_45 rfl (by omega) (Nat.le_of_ble_eq_true rfl) zsh_177 rfl rfl ?_
  rintro _ N2 _ _ ⟨rfl, rfl, rfl, p2', s2', t2, u2⟩
  have p2 := zPf_t p1 p2'
  have s2 := s2'.trans s1
  cases o2 with
  | true =>
    obtain ⟨w1, w2⟩ := up N2 3 (by decide) (of_decide_eq_true ho2) (t2 rfl) s2
    rw [zb01_t]
    refine wp_if_eqN (tgt := 58) (q := 51) dX12_statementTold_48 (by decide) rfl (by omega) (fun hn => absurd hn (by first | omega | exact fun h => h | exact fun h => h trivial)) (fun _ => ?_)
    refine wp_aload_n (q := 52) dX12_statementTold_51 1 rfl rfl ?_
    refine wp_cvy (q := 55) (sp_mholdsTold (d := d + 1) k0 w2 hT (zWds_p hW p2) (zMD_p hD p2) rfl) zm_X12_holdsTold zl_RX12_335 dX12_statementTold_52 rfl (by omega) (Nat.le_of_ble_eq_true rfl) zsh_177 rfl rfl ?_
    rintro _ N3 L3 _ ⟨rfl, rfl, g1, g2, g3⟩
    refine wp_goto (tgt := 156) dX12_statementTold_55 (by decide) ?_
    refine WP.sub (loc' := [(1, _), (0, _)]) [0, 1] rfl ?_
    exact goT N2 N3 L3 _ p2 g1 g2 g3 zDsm_H ((zge_H : zge c _ _) hpc).1 (by unfold zro1; rw [if_neg n1, if_pos (of_decide_eq_true ho2)])
  | false =>
  have n2 := of_decide_eq_false ho2
  have b2 := (u2 rfl).1
  rw [zb01_f]
  refine wp_if_eqN (tgt := 58) (q := 51) dX12_statementTold_48 (by decide) rfl (by omega) (fun _ => ?_) (fun hn => absurd hn (by first | omega | exact fun h => h | exact fun h => h trivial))
  refine wp_aload_n (q := 59) dX12_statementTold_58 1 rfl rfl ?_
  refine wp_aload_n (q := 60) dX12_statementTold_59 1 rfl rfl ?_
  refine wp_getR (q := 63) dX12_statementTold_60 zf_RX12_42 rfl zsh_177 (zr_177_17 _) rfl ?_
  obtain ⟨o3, ho3⟩ : ∃ o, decide (T s.1.1 4 = 7) = o := ⟨_, rfl⟩
  refine wp_cvy (q := 66) (sp_mtakes (d := d + 4) (w0 := 7) b2 hT (zWc_k 7 (zWds_p hW p2) (by decide) rfl zsh_187) ho3) zm_X12_takes zl_RX12_263 dX12_statementTold_63 rfl (by omega) (Nat.le_of_ble_eq_true rfl) zsh_177 rfl rfl ?_
  rintro _ N3 _ _ ⟨rfl, rfl, rfl, p3', s3', t3, u3⟩
  have p3 := zPf_t p2 p3'
  have s3 := s3'.trans s2
  cases o3 with
  | true =>
    obtain ⟨w1, w2⟩ := up N3 7 (by decide) (of_decide_eq_true ho3) (t3 rfl) s3
    rw [zb01_t]
    refine wp_if_eqN (tgt := 77) (q := 69) dX12_statementTold_66 (by decide) rfl (by omega) (fun hn => absurd hn (by first | omega | exact fun h => h | exact fun h => h trivial)) (fun _ => ?_)
    refine wp_aload_n (q := 70) dX12_statementTold_69 1 rfl rfl ?_
    refine wp_iload_n (q := 71) dX12_statementTold_70 0 rfl rfl ?_
    refine wp_cvy (q := 74) (sp_mboxTold (d := d + 1) k0 w2 hT (zWds_p hW p3) (zMD_p hD p3) rfl) zm_X12_boxTold zl_RX12_338 dX12_statementTold_71 rfl (by omega) (Nat.le_of_ble_eq_true rfl) zsh_177 rfl rfl ?_
    rintro _ N4 L4 _ ⟨rfl, rfl, g1, g2, g3⟩
    refine wp_goto (tgt := 156) dX12_statementTold_74 (by decide) ?_
    refine WP.sub (loc' := [(1, _), (0, _)]) [0, 1] rfl ?_
    exact goT N3 N4 L4 _ p3 g1 g2 g3 zDsm_B ((zge_B : zge c _ _) hpc).1 (by unfold zro1; rw [if_neg n1, if_neg n2, if_pos (of_decide_eq_true ho3)])
  | false =>
  have n3 := of_decide_eq_false ho3
  have b3 := (u3 rfl).1
  rw [zb01_f]
  refine wp_if_eqN (tgt := 77) (q := 69) dX12_statementTold_66 (by decide) rfl (by omega) (fun _ => ?_) (fun hn => absurd hn (by first | omega | exact fun h => h | exact fun h => h trivial))
  refine wp_aload_n (q := 78) dX12_statementTold_77 1 rfl rfl ?_
  refine wp_aload_n (q := 79) dX12_statementTold_78 1 rfl rfl ?_
  refine wp_getR (q := 82) dX12_statementTold_79 zf_RX12_48 rfl zsh_177 (zr_177_19 _) rfl ?_
  obtain ⟨o4, ho4⟩ : ∃ o, decide (T s.1.1 4 = 9) = o := ⟨_, rfl⟩
  refine wp_cvy (q := 85) (sp_mtakes (d := d + 4) (w0 := 9) b3 hT (zWc_k 9 (zWds_p hW p3) (by decide) rfl zsh_189) ho4) zm_X12_takes zl_RX12_263 dX12_statementTold_82 rfl (by omega) (Nat.le_of_ble_eq_true rfl) zsh_177 rfl rfl ?_
  rintro _ N4 _ _ ⟨rfl, rfl, rfl, p4', s4', t4, u4⟩
  have p4 := zPf_t p3 p4'
  have s4 := s4'.trans s3
  cases o4 with
  | true =>
    obtain ⟨w1, w2⟩ := up N4 9 (by decide) (of_decide_eq_true ho4) (t4 rfl) s4
    rw [zb01_t]
    refine wp_if_eqN (tgt := 95) (q := 88) dX12_statementTold_85 (by decide) rfl (by omega) (fun hn => absurd hn (by first | omega | exact fun h => h | exact fun h => h trivial)) (fun _ => ?_)
    refine wp_aload_n (q := 89) dX12_statementTold_88 1 rfl rfl ?_
    refine wp_cvy (q := 92) (sp_mhatsTold (d := d + 1) k0 w2 hT (zWds_p hW p4) (zMD_p hD p4) rfl) zm_X12_hatsTold zl_RX12_341 dX12_statementTold_89 rfl (by omega) (Nat.le_of_ble_eq_true rfl) zsh_177 rfl rfl ?_
    rintro _ N5 L5 _ ⟨rfl, rfl, g1, g2, g3⟩
    refine wp_goto (tgt := 156) dX12_statementTold_92 (by decide) ?_
    refine WP.sub (loc' := [(1, _), (0, _)]) [0, 1] rfl ?_
    exact goT N4 N5 L5 _ p4 g1 g2 g3 zDsm_T ((zge_T : zge c _ _) hpc).1 (by unfold zro1; rw [if_neg n1, if_neg n2, if_neg n3, if_pos (of_decide_eq_true ho4)])
  | false =>
  have n4 := of_decide_eq_false ho4
  have b4 := (u4 rfl).1
  rw [zb01_f]
  refine wp_if_eqN (tgt := 95) (q := 88) dX12_statementTold_85 (by decide) rfl (by omega) (fun _ => ?_) (fun hn => absurd hn (by first | omega | exact fun h => h | exact fun h => h trivial))
  refine wp_aload_n (q := 96) dX12_statementTold_95 1 rfl rfl ?_
  refine wp_aload_n (q := 97) dX12_statementTold_96 1 rfl rfl ?_
  refine wp_getR (q := 100) dX12_statementTold_97 zf_RX12_51 rfl zsh_177 (zr_177_20 _) rfl ?_
  obtain ⟨o5, ho5⟩ : ∃ o, decide (T s.1.1 4 = 10) = o := ⟨_, rfl⟩
  refine wp_cvy (q := 103) (sp_mtakes (d := d + 4) (w0 := 10) b4 hT (zWc_k 10 (zWds_p hW p4) (by decide) rfl zsh_190) ho5) zm_X12_takes zl_RX12_263 dX12_statementTold_100 rfl (by omega) (Nat.le_of_ble_eq_true rfl) zsh_177 rfl rfl ?_
  rintro _ N5 _ _ ⟨rfl, rfl, rfl, p5', s5', t5, u5⟩
  have p5 := zPf_t p4 p5'
  have s5 := s5'.trans s4
  cases o5 with
  | true =>
    obtain ⟨w1, w2⟩ := up N5 10 (by decide) (of_decide_eq_true ho5) (t5 rfl) s5
    rw [zb01_t]
    refine wp_if_eqN (tgt := 115) (q := 106) dX12_statementTold_103 (by decide) rfl (by omega) (fun hn => absurd hn (by first | omega | exact fun h => h | exact fun h => h trivial)) (fun _ => ?_)
    refine wp_aload_n (q := 107) dX12_statementTold_106 1 rfl rfl ?_
    refine wp_iconst (q := 108) dX12_statementTold_107 zq_iconst_0 rfl ?_
    refine wp_iload_n (q := 109) dX12_statementTold_108 0 rfl rfl ?_
    refine wp_cvy (q := 112) (sp_msumIsTold (d := d) (wk := 0) (by decide) k0 w1 w2 hT (zWds_p hW p5) hz (by rw [p5.2 44 (by decide) (by decide) (by decide) (by decide) (by decide)]; exact h44) hcod (zMsw_fr hs0 (by rw [p5.1 209 (by decide)]) (by rw [p5.1 210 (by decide)]) (fun j _ => by rw [p5.1 211 (by decide)]) (Nat.le_refl _) (by omega)) rfl) zm_X12_sumIsTold zl_RX12_344 dX12_statementTold_109 rfl (by omega) (Nat.le_of_ble_eq_true rfl) zsh_177 rfl rfl ?_
    rintro _ N6 _ _ ⟨rfl, rfl, rfl, g1, g2, g3⟩
    refine wp_goto (tgt := 156) dX12_statementTold_112 (by decide) ?_
    refine WP.sub (loc' := [(1, _), (0, _)]) [0, 1] rfl ?_
    have hkk : (zu s.2.1 0 11 1) 0 11 = 1 ∧ (zu s.2.1 0 11 1) 0 12 = s.2.1 0 12 ∧ (zu s.2.1 0 11 1) 0 0 = s.2.1 0 0 := ⟨zu_s, zu_k (by decide), zu_k (by decide)⟩
    have e42 : N6 177 42 = nI (s.2.1 0 0) := by rw [g2 177 42 (by unfold zSy; omega), p5.2 42 (by decide) (by decide) (by decide) (by decide) (by decide)]; exact h42
    refine C156 N6 L ((zrS T c s.1 (s.2.1 0 11) s.2.2.1).1, zu s.2.1 0 11 1, (zrS T c s.1 (s.2.1 0 11) s.2.2.1).2, s.2.2.2) (by unfold zro1; rw [if_neg n1, if_neg n2, if_neg n3, if_neg n4, if_pos (of_decide_eq_true ho5)]) ⟨g1, fun e => ?_⟩ e42 (zUf_t (zUf_p p5) (zUf_g g2 (by decide))) (fun _ => hkk.2.2)
    obtain ⟨-, cd, y1, y2, y3, y4⟩ := g3 e
    have hg1 := g1.1
    refine ⟨zMD_o (zMD_fr (zMD_p hD p5) (zSgf_o g2 (by decide) (by decide) (by decide) (by decide) (by decide)) (zSgf_o g2 (by decide) (by decide) (by decide) (by decide) (by decide)) (zSgf_o g2 (by decide) (by decide) (by decide) (by decide) (by decide)) (zSgf_o g2 (by decide) (by decide) (by decide) (by decide) (by decide))) (by decide) (by decide) (by decide), ?_, cd, y1, y2, ?_, ?_⟩
    · show _ = nI ((zu s.2.1 0 11 1) 0 0)
      rw [hkk.2.2]
      exact e42
    · show zMsw N6 0 ((zu s.2.1 0 11 1) 0 11) _ cd
      rw [hkk.1]
      exact y4
    · show zMsw N6 1 ((zu s.2.1 0 11 1) 0 12) s.2.2.2 cd
      rw [hkk.2.1]
      exact zMsw_fr hs1 (by rw [g2 209 1 (by unfold zSy; omega), p5.1 209 (by decide)]) (by rw [g2 210 1 (by unfold zSy; omega), p5.1 210 (by decide)]) (fun j hj => by rw [g2 211 j (by unfold zSy; omega), p5.1 211 (by decide)]) y3 (by omega)
  | false =>
  have n5 := of_decide_eq_false ho5
  have b5 := (u5 rfl).1
  rw [zb01_f]
  refine wp_if_eqN (tgt := 115) (q := 106) dX12_statementTold_103 (by decide) rfl (by omega) (fun _ => ?_) (fun hn => absurd hn (by first | omega | exact fun h => h | exact fun h => h trivial))
  refine wp_aload_n (q := 116) dX12_statementTold_115 1 rfl rfl ?_
  refine wp_aload_n (q := 117) dX12_statementTold_116 1 rfl rfl ?_
  refine wp_getR (q := 120) dX12_statementTold_117 zf_RX12_54 rfl zsh_177 (zr_177_21 _) rfl ?_
  obtain ⟨o6, ho6⟩ : ∃ o, decide (T s.1.1 4 = 11) = o := ⟨_, rfl⟩
  refine wp_cvy (q := 123) (sp_mtakes (d := d + 4) (w0 := 11) b5 hT (zWc_k 11 (zWds_p hW p5) (by decide) rfl zsh_191) ho6) zm_X12_takes zl_RX12_263 dX12_statementTold_120 rfl (by omega) (Nat.le_of_ble_eq_true rfl) zsh_177 rfl rfl ?_
  rintro _ N6 _ _ ⟨rfl, rfl, rfl, p6', s6', t6, u6⟩
  have p6 := zPf_t p5 p6'
  have s6 := s6'.trans s5
  cases o6 with
  | true =>
    obtain ⟨w1, w2⟩ := up N6 11 (by decide) (of_decide_eq_true ho6) (t6 rfl) s6
    rw [zb01_t]
    refine wp_if_eqN (tgt := 135) (q := 126) dX12_statementTold_123 (by decide) rfl (by omega) (fun hn => absurd hn (by first | omega | exact fun h => h | exact fun h => h trivial)) (fun _ => ?_)
    refine wp_aload_n (q := 127) dX12_statementTold_126 1 rfl rfl ?_
    refine wp_iconst (q := 128) dX12_statementTold_127 zq_iconst_1 rfl ?_
    refine wp_iload_n (q := 129) dX12_statementTold_128 0 rfl rfl ?_
    refine wp_cvy (q := 132) (sp_msumIsTold (d := d) (wk := 1) (by decide) k0 w1 w2 hT (zWds_p hW p6) hz (by rw [p6.2 44 (by decide) (by decide) (by decide) (by decide) (by decide)]; exact h44) hcod (zMsw_fr hs1 (by rw [p6.1 209 (by decide)]) (by rw [p6.1 210 (by decide)]) (fun j _ => by rw [p6.1 211 (by decide)]) (Nat.le_refl _) (by omega)) rfl) zm_X12_sumIsTold zl_RX12_344 dX12_statementTold_129 rfl (by omega) (Nat.le_of_ble_eq_true rfl) zsh_177 rfl rfl ?_
    rintro _ N7 _ _ ⟨rfl, rfl, rfl, g1, g2, g3⟩
    refine wp_goto (tgt := 156) dX12_statementTold_132 (by decide) ?_
    refine WP.sub (loc' := [(1, _), (0, _)]) [0, 1] rfl ?_
    have hkk : (zu s.2.1 0 12 1) 0 12 = 1 ∧ (zu s.2.1 0 12 1) 0 11 = s.2.1 0 11 ∧ (zu s.2.1 0 12 1) 0 0 = s.2.1 0 0 := ⟨zu_s, zu_k (by decide), zu_k (by decide)⟩
    have e42 : N7 177 42 = nI (s.2.1 0 0) := by rw [g2 177 42 (by unfold zSy; omega), p6.2 42 (by decide) (by decide) (by decide) (by decide) (by decide)]; exact h42
    refine C156 N7 L ((zrS T c s.1 (s.2.1 0 12) s.2.2.2).1, zu s.2.1 0 12 1, s.2.2.1, (zrS T c s.1 (s.2.1 0 12) s.2.2.2).2) (by unfold zro1; rw [if_neg n1, if_neg n2, if_neg n3, if_neg n4, if_neg n5, if_pos (of_decide_eq_true ho6)]) ⟨g1, fun e => ?_⟩ e42 (zUf_t (zUf_p p6) (zUf_g g2 (by decide))) (fun _ => hkk.2.2)
    obtain ⟨-, cd, y1, y2, y3, y4⟩ := g3 e
    have hg1 := g1.1
    refine ⟨zMD_o (zMD_fr (zMD_p hD p6) (zSgf_o g2 (by decide) (by decide) (by decide) (by decide) (by decide)) (zSgf_o g2 (by decide) (by decide) (by decide) (by decide) (by decide)) (zSgf_o g2 (by decide) (by decide) (by decide) (by decide) (by decide)) (zSgf_o g2 (by decide) (by decide) (by decide) (by decide) (by decide))) (by decide) (by decide) (by decide), ?_, cd, y1, y2, ?_, ?_⟩
    · show _ = nI ((zu s.2.1 0 12 1) 0 0)
      rw [hkk.2.2]
      exact e42
    · show zMsw N7 0 ((zu s.2.1 0 12 1) 0 11) s.2.2.1 cd
      rw [hkk.2.1]
      exact zMsw_fr hs0 (by rw [g2 209 0 (by unfold zSy; omega), p6.1 209 (by decide)]) (by rw [g2 210 0 (by unfold zSy; omega), p6.1 210 (by decide)]) (fun j hj => by rw [g2 211 j (by unfold zSy; omega), p6.1 211 (by decide)]) y3 (by omega)
    · show zMsw N7 1 ((zu s.2.1 0 12 1) 0 12) _ cd
      rw [hkk.1]
      exact y4
  | false =>
  have n6 := of_decide_eq_false ho6
  have b6 := (u6 rfl).1
  rw [zb01_f]
  refine wp_if_eqN (tgt := 135) (q := 126) dX12_statementTold_123 (by decide) rfl (by omega) (fun _ => ?_) (fun hn => absurd hn (by first | omega | exact fun h => h | exact fun h => h trivial))
  refine wp_aload_n (q := 136) dX12_statementTold_135 1 rfl rfl ?_
  refine wp_aload_n (q := 137) dX12_statementTold_136 1 rfl rfl ?_
  refine wp_getR (q := 140) dX12_statementTold_137 zf_RX12_57 rfl zsh_177 (zr_177_22 _) rfl ?_
  have r6 : zRp N6 b len T c s.1 := ⟨hpc, fun _ => ⟨b6, by rw [s6]; exact ha6⟩, fun e => absurd k0 e⟩
  refine wp_cvy (q := 143) (sp_masksR (d := d + 3) (w0 := 12) r6 hT (zWc_k 12 (zWds_p hW p6) (by decide) rfl zsh_192)) zm_X12_asks zl_RX12_302 dX12_statementTold_140 rfl (by omega) (Nat.le_of_ble_eq_true rfl) zsh_177 rfl rfl ?_
  rintro _ N7 _ _ ⟨rfl, rfl, rfl, p7', r7⟩
  have p7 := zPf_t p6 p7'
  refine wp_aload_n (q := 144) dX12_statementTold_143 1 rfl rfl ?_
  refine wp_getR (q := 147) dX12_statementTold_144 zf_RX12_106 rfl zsh_177 (zr_177_39 _) rfl ?_
  refine wp_iconst (q := 148) dX12_statementTold_147 zq_iconst_0 rfl ?_
  refine wp_aload_n (q := 149) dX12_statementTold_148 1 rfl rfl ?_
  refine wp_iconst (q := 150) dX12_statementTold_149 zq_iconst_0 rfl ?_
  refine wp_bipush (q := 152) dX12_statementTold_150 zq_bipush_100 rfl ?_
  refine wp_cvy (q := 155) (sp_mnumberR (d := d + 5) (ms := 100) r7 hT (by decide)) zm_X12_number zl_RX12_306 dX12_statementTold_152 rfl (by omega) (Nat.le_of_ble_eq_true rfl) zsh_177 rfl rfl ?_
  rintro _ N8 _ _ ⟨v, rfl, rfl, rfl, p8', r8, hv⟩
  have p8 := zPf_t p7 p8'
  refine wp_iast (q := 156) _ dX12_statementTold_155 zsh_208 rfl (by omega) (by decide) rfl ?_
  refine WP.sub (loc' := [(1, _), (0, _)]) [0, 1] rfl ?_
  have hf8 : zTr N8 (zu N8 208 0 (nI v)) L L := zTr_w zTr_r (by unfold zTx; omega)
  have r9 : zRp (zu N8 208 0 (nI v)) b len T c (zpNu T c (zpWo T c s.1 12 12).1 100).1 := zRp_up r8 (zu_ne (by decide)) (zu_ne (by decide))
  by_cases e12 : T s.1.1 4 = 12
  · have eW : (zpWo T c s.1 12 12).1 = zpn c s.1 := by unfold zpWo; rw [if_pos (by omega)]
    rw [eW] at r9 hv
    refine goT N8 _ L (zrG T c s.1 s.2.1) p8 hf8 r9 (fun e => ?_) zDsm_G ((zge_G (D := s.2.1) : zge c _ _) hpc).1 (by unfold zro1; rw [if_neg n1, if_neg n2, if_neg n3, if_neg n4, if_neg n5, if_neg n6, if_pos e12])
    rw [hv e]
    exact zMD_G (zMD_p hD p8)
  · have eW : (zpWo T c s.1 12 12).1 = zpfh T c s.1 := by unfold zpWo; rw [if_neg (by omega)]
    rw [eW] at r9
    have hb : (zpfh T c s.1).2.2.1 ≠ 0 := zpf_b (by decide)
    have hb2 : (zpNu T c (zpfh T c s.1) 100).1.2.2 = (zpfh T c s.1).2.2 := zfq_Nu hb
    refine goT N8 _ L (zpfh T c s.1, s.2.1) p8 hf8 (zRp_q r9 (by rw [hb2]; exact hb) (by show (zpf c s.1 1 _).1 < c; rw [zpf_1]; omega) (fun _ => hb2.symm)) (fun e => absurd e hb) ⟨rfl, rfl, rfl⟩ ((zge_f : zge c s.1 (zpf c s.1 1 (nI (T s.1.1 1)))) hpc).1 (by unfold zro1; rw [if_neg n1, if_neg n2, if_neg n3, if_neg n4, if_neg n5, if_neg n6, if_neg e12])
set_option maxHeartbeats 4000000 in
set_option maxRecDepth 100000 in
theorem sp_mstatementN {d t len c : Nat} {M : zMI} {L : zML} {b : Nat → Nat} {T : zDD} {s : zTS} (h : zTL M L b len T c s) (k0 : s.1.2.2.1 = 0) (h2 : M 177 2 = nI (T s.1.1 1)) (hn : s.2.1 0 0 = 60) : Sx yX12_statementTold YX12_statementTold (d + 7) [.ref 177] M L (zRf t) (none) (zu (zu M 177 5 (nI 5)) 177 6 (nI (T s.1.1 1))) L (zRf t) := by
  refine Sp.of (by decide +kernel) rfl (fun h => by first | exact h | cases h) (Nat.le_of_ble_eq_true rfl) ?_
  intro w G
  obtain ⟨hR, hh2⟩ := h
  obtain ⟨hD, h42, -⟩ := hh2 k0
  obtain ⟨ha, ha6⟩ := hR.2.1 k0
  rw [hn] at h42
  refine wp_aload_n (q := 1) dX12_statementTold_0 0 rfl rfl ?_
  refine wp_getI (q := 4) dX12_statementTold_1 zf_RX12_242 rfl zsh_177 rfl ?_
  rw [h2]
  refine wp_istore_n (q := 5) (loc' := [(1, _), (0, _)]) dX12_statementTold_4 rfl (by decide) rfl rfl ?_
  refine wp_aload_n (q := 6) dX12_statementTold_5 1 rfl rfl ?_
  refine wp_getI (q := 9) dX12_statementTold_6 zf_RX12_328 rfl zsh_177 rfl ?_
  rw [h42]
  refine wp_bipush (q := 11) dX12_statementTold_9 zq_bipush_60 rfl ?_
  refine wp_icmp_neN (tgt := 21) (q := 14) dX12_statementTold_11 (by decide) rfl (by omega) (by omega) (fun hn => absurd hn (by first | omega | exact fun h => h | exact fun h => h trivial)) (fun _ => ?_)
  refine wp_aload_n (q := 15) dX12_statementTold_14 1 rfl rfl ?_
  refine wp_iconst (q := 16) dX12_statementTold_15 zq_iconst_5 rfl ?_
  refine wp_iload_n (q := 17) dX12_statementTold_16 0 rfl rfl ?_
  refine wp_cvx (q := 20) (sp_mfail (d := d) ha.2.1) zm_X12_fail zl_RX12_266 dX12_statementTold_17 rfl (by omega) (Nat.le_of_ble_eq_true rfl) zsh_177 rfl rfl ?_
  exact wp_return dX12_statementTold_20 rfl ⟨rfl, rfl, rfl, rfl, rfl⟩ rfl rfl

