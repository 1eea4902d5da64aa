def zPCq (M : zMI) (b : Nat → Nat) (len : Nat) (T : zDD) (c g : Nat) (W0 : List Nat) (r : zPF) : Prop := ∃ p F f, zSSq M b len T c p F (zWl f ++ W0) g W0.length ∧ zLw p.1 f ∧ f.2.2.2.2.2 = 0 ∧ r = (p, zap f.2.2.2.1 (zap f.2.1 F))
theorem zSQq_W {M : zMI} {g B : Nat} {F : zFl} {W W' : List Nat} (h : zSQq M g F W B) (e : W = W') : zSQq M g F W' B := e ▸ h
theorem zdkk_f {P : Nat} {f : zLv} {V : List Nat} (h : zLw P f) (hw : 20 ≤ f.2.2.2.2.2 ∧ f.2.2.2.2.2 ≤ 24) : zdkk (zWl f ++ V) := by
  obtain ⟨k, m, n, a, l, w⟩ := f
  obtain ⟨h1, h2, -⟩ := h
  have h1' : m = 0 ∨ m = 6 ∨ m = 7 := h1
  have h2' : a = 0 ∨ a = 4 ∨ a = 5 := h2
  have hw' : 20 ≤ w ∧ w ≤ 24 := hw
  have e : zWl (k, m, n, a, l, w) ++ V = (if m = 0 then [] else [m - 3]) ++ ((if a = 0 then [] else [a - 3]) ++ (w :: V)) := by
    unfold zWl
    rw [if_neg (by show ¬ w = 60; omega)]
    show ((if m = 0 then [] else [m - 3]) ++ ((if a = 0 then [] else [a - 3]) ++ (if w = 0 then [] else [w]))) ++ V = _
    rw [if_neg (show ¬ w = 0 by omega), List.append_assoc, List.append_assoc]
    rfl
  have u : ∀ x V, 1 ≤ x → x ≤ 4 → zdkk V → zdkk (x :: V) := fun x V h1 h2 h3 => by
    show if zPm x = true then _ else _
    rw [if_pos (show zPm x = true from decide_eq_true (by omega))]
    exact ⟨⟨h1, h2⟩, h3⟩
  have b0 : zdkk (w :: V) := by
    show if zPm w = true then _ else _
    rw [if_neg (show ¬ zPm w = true from fun e => of_decide_eq_true e hw')]
    trivial
  have b1 : zdkk ((if a = 0 then [] else [a - 3]) ++ (w :: V)) := by
    split
    · exact b0
    · exact u _ _ (by omega) (by omega) b0
  rw [e]
  split
  · exact b1
  · exact u _ _ (by omega) (by omega) b1
set_option maxHeartbeats 4000000 in
set_option maxRecDepth 100000 in
theorem sp_mqGoesOn {d t len c g P : Nat} {M : zMI} {L : zML} {b : Nat → Nat} {T : zDD} {W0 : List Nat} {r : zPF} (hT : zTok b len T c) (h : zPBq M b len T c g W0 r P) (hrc : r.1.1 < c) (h0 : ∀ x, x ∈ W0 → 5 ≤ x) : Sy yX12_qGoesOn YX12_qGoesOn (d + 3) [.ref 177] M L (zRf t) (fun v0 M' L' R' => ∃ o, v0 = some (.int (nI (zb01 o))) ∧ L = L' ∧ R' = zRf t ∧ zSfq g M M' ∧ (o = true → zPAq M' b len T c g W0 r (P + 1)) ∧ (o = false → zPXq M' b len T c r ∨ zPCq M' b len T c g W0 r)) := by
  refine Sp.of (by decide +kernel) rfl (fun h => by first | exact h | cases h) (Nat.le_of_ble_eq_true rfl) ?_
  intro w G
  have h03 : ∀ F, zdw zP3 W0 F = (W0, F) := zdw_h (fun x hx => decide_eq_false (by have := h0 x hx; omega))
  have h01 : ∀ F, zdw zP1 W0 F = (W0, F) := zdw_h (fun x hx => decide_eq_false (by have := h0 x hx; omega))
  -- after a * or a /
  have C185 : ∀ (x n : Nat) (N : zMI) (p : zP) (F : zFl) (k a l wk : Nat) (fr : List zLv) (o : Nat), (x = 3 ∨ x = 4) → zAt N b len T c p.1 → N 177 6 = p.2.2.2 → p.2.2.1 = 0 → N 177 91 = p.2.1 → zSQq N g F (zWt a wk ++ (zWf fr ++ W0)) W0.length → g + F.length + (zWt a wk ++ (zWf fr ++ W0)).length + 2 ≤ p.1 → wk ≠ 60 → zKv true p.1 o ((k, x + 3, n, a, l, wk) :: fr) → p.2.1 = nI o → zks T c true ((k, x + 3, n, a, l, wk) :: fr) (zpt T c true k p F) = r → P < p.1 → zSfq g M N → WP w YX12_qGoesOn (d + 3, SS, 0, 0) G (some (zXp (fun v0 M' L' R' => ∃ o, v0 = some (.int (nI (zb01 o))) ∧ L = L' ∧ R' = zRf t ∧ zSfq g M M' ∧ (o = true → zPAq M' b len T c g W0 r (P + 1)) ∧ (o = false → zPXq M' b len T c r ∨ zPCq M' b len T c g W0 r)))) 185 [(1, .int (nI x)), (0, .ref 177)] [] SS N L (zRf t) := by
    intro x n N p F k a l wk fr o hx a1 a2 a3 a4 a5 a6 hw hk ho hr hP hf
    have hc := zTok_c hT a1
    have hpc := a1.2.2.1
    have hln := a5.2.2.2.2.2
    have e : zWf ((k, x + 3, n, a, l, wk) :: fr) ++ W0 = x :: (zWt a wk ++ (zWf fr ++ W0)) := by
      show (zWl (k, x + 3, n, a, l, wk) ++ zWf fr) ++ W0 = _
      rw [zWl_t hw (by omega), Nat.add_sub_cancel, List.append_assoc]
      rfl
    refine wp_aload_n (q := 186) dX12_qGoesOn_185 1 rfl rfl ?_
    refine wp_getR (q := 189) dX12_qGoesOn_186 zf_RX12_224 rfl zsh_177 (zr_177_89 _) rfl ?_
    refine wp_aload_n (q := 190) dX12_qGoesOn_189 1 rfl rfl ?_
    refine wp_getI (q := 193) dX12_qGoesOn_190 zf_RX12_603 rfl zsh_177 rfl ?_
    rw [a5.2.2.1]
    refine wp_iload_n (q := 194) dX12_qGoesOn_193 0 rfl rfl ?_
    refine wp_iast (q := 195) _ dX12_qGoesOn_194 zsh_246 rfl (by omega) (by decide) rfl ?_
    refine wp_aload_n (q := 196) dX12_qGoesOn_195 1 rfl rfl ?_
    refine wp_dup (q := 197) dX12_qGoesOn_196 rfl rfl ?_
    refine wp_getI (q := 200) dX12_qGoesOn_197 zf_RX12_603 rfl zsh_177 rfl ?_
    rw [zu_ne (by decide), a5.2.2.1]
    refine wp_iconst (q := 201) dX12_qGoesOn_200 zq_iconst_1 rfl ?_
    refine wp_iaddN (q := 202) dX12_qGoesOn_201 rfl ?_
    refine wp_putI (q := 205) dX12_qGoesOn_202 zf_RX12_603 rfl zsh_177 rfl ?_
    refine wp_iconst (q := 206) dX12_qGoesOn_205 zq_iconst_1 rfl ?_
    have hq : zQfq g 88 N (zu (zu N 246 (zWt a wk ++ (zWf fr ++ W0)).length (nI x)) 177 90 (nI ((zWt a wk ++ (zWf fr ++ W0)).length + 1))) := zQfq_7 (zQfq_k zQfq_r) (Or.inl rfl) (by omega)
    refine wp_zreturn dX12_qGoesOn_206 rfl (by first | with_reducible exact znar_0 | with_reducible exact znar_1 | assumption) ⟨rfl, ⟨true, rfl, rfl, rfl, zSfq_t hf hq.1, fun _ => ⟨p, F, (k, x + 3, n, a, l, wk), fr, o, ⟨zAt_qq a1 hq (by decide), by rw [hq.2 6 (by decide) (by decide) (by decide)]; exact a2, a3, by rw [zu_k (by decide), zu_ne (by decide)]; exact a4, zSQq_W (zSQq_push (x := x) a5 (by omega) (by omega)) e.symm, ?_⟩, hk, ho, hr, hP⟩, fun e => by cases e⟩⟩ rfl rfl
    rw [e, List.length_cons]
    omega
  have C162 : ∀ (V : List Nat) (F2 : zFl) (N N0 : zMI) (x : Nat) (V' : List Nat) (F' : zFl), zSQq N g F2 V W0.length → zQfq g 88 N0 N → zdw zP3 V F2 = (V', F') → (∀ N2 : zMI, zSQq N2 g F' V' W0.length → zQfq g 88 N0 N2 → WP w YX12_qGoesOn (d + 3, SS, 0, 0) G (some (zXp (fun v0 M' L' R' => ∃ o, v0 = some (.int (nI (zb01 o))) ∧ L = L' ∧ R' = zRf t ∧ zSfq g M M' ∧ (o = true → zPAq M' b len T c g W0 r (P + 1)) ∧ (o = false → zPXq M' b len T c r ∨ zPCq M' b len T c g W0 r)))) 185 [(1, .int (nI x)), (0, .ref 177)] [] SS N2 L (zRf t)) → WP w YX12_qGoesOn (d + 3, SS, 0, 0) G (some (zXp (fun v0 M' L' R' => ∃ o, v0 = some (.int (nI (zb01 o))) ∧ L = L' ∧ R' = zRf t ∧ zSfq g M M' ∧ (o = true → zPAq M' b len T c g W0 r (P + 1)) ∧ (o = false → zPXq M' b len T c r ∨ zPCq M' b len T c g W0 r)))) 162 [(1, .int (nI x)), (0, .ref 177)] [] SS N L (zRf t) := by
    intro V
    induction V with
    | nil =>
      intro F2 N N0 x V' F' hQ hq hr kk
      have e : (([] : List Nat), F2) = (V', F') := hr
      cases e
      refine wp_aload_n (q := 163) dX12_qGoesOn_162 1 rfl rfl ?_
      refine wp_iconst (q := 164) dX12_qGoesOn_163 zq_iconst_3 rfl ?_
      refine wp_cvx (q := 167) (sp_mqIsOn (d := d + 2) (W := []) (v := 3) hQ.2.2.1 hQ.2.2.2.1 (Nat.zero_le _) (by decide) (o := false) rfl) zm_X12_qIsOn zl_RX12_639 dX12_qGoesOn_164 rfl (by omega) (Nat.le_of_ble_eq_true rfl) zsh_177 rfl rfl ?_
      refine wp_if_ne (tgt := 178) (q := 170) dX12_qGoesOn_167 (by decide) rfl (fun hn => absurd hn (by decide)) (fun _ => ?_)
      refine wp_aload_n (q := 171) dX12_qGoesOn_170 1 rfl rfl ?_
      refine wp_iconst (q := 172) dX12_qGoesOn_171 zq_iconst_4 rfl ?_
      refine wp_cvx (q := 175) (sp_mqIsOn (d := d + 2) (W := []) (v := 4) hQ.2.2.1 hQ.2.2.2.1 (Nat.zero_le _) (by decide) (o := false) rfl) zm_X12_qIsOn zl_RX12_639 dX12_qGoesOn_172 rfl (by omega) (Nat.le_of_ble_eq_true rfl) zsh_177 rfl rfl ?_
      refine wp_if_eq (tgt := 185) (q := 178) dX12_qGoesOn_175 (by decide) rfl (fun _ => ?_) (fun hn => absurd hn (by decide))
      refine WP.sub (loc' := [(1, _), (0, _)]) [0, 1] rfl ?_
      exact kk N hQ hq
    | cons y V ih =>
      intro F2 N N0 x V' F' hQ hq hr kk
      have e' : (if zP3 y then zdw zP3 V (F2 ++ [(y + 3, 0)]) else (y :: V, F2)) = (V', F') := hr
      have hl := hQ.2.2.2.2.2
      have k174 : y = 3 ∨ y = 4 → WP w YX12_qGoesOn (d + 3, SS, 0, 0) G (some (zXp (fun v0 M' L' R' => ∃ o, v0 = some (.int (nI (zb01 o))) ∧ L = L' ∧ R' = zRf t ∧ zSfq g M M' ∧ (o = true → zPAq M' b len T c g W0 r (P + 1)) ∧ (o = false → zPXq M' b len T c r ∨ zPCq M' b len T c g W0 r)))) 178 [(1, .int (nI x)), (0, .ref 177)] [] SS N L (zRf t) := by
        intro y3
        rw [if_pos (show zP3 y = true from decide_eq_true y3)] at e'
        refine wp_aload_n (q := 179) dX12_qGoesOn_178 1 rfl rfl ?_
        refine wp_cvx (q := 182) (sp_mqDrops (d := d + 1) hQ) zm_X12_qDrops zl_RX12_615 dX12_qGoesOn_179 rfl (by omega) (Nat.le_of_ble_eq_true rfl) zsh_177 rfl rfl ?_
        refine wp_goto (tgt := 162) dX12_qGoesOn_182 (by decide) ?_
        refine WP.sub (loc' := [(1, _), (0, _)]) [0, 1] rfl ?_
        exact ih _ _ N0 x V' F' (zSQq_pop hQ (zqc_s (by omega) (by omega))) (zQfq_pop hq hQ) e' kk
      refine wp_aload_n (q := 163) dX12_qGoesOn_162 1 rfl rfl ?_
      refine wp_iconst (q := 164) dX12_qGoesOn_163 zq_iconst_3 rfl ?_
      obtain ⟨o3, ho3⟩ : ∃ o, decide ((y :: V).head? = some 3) = o := ⟨_, rfl⟩
      refine wp_cvx (q := 167) (sp_mqIsOn (d := d + 2) (W := y :: V) (v := 3) hQ.2.2.1 hQ.2.2.2.1 (by omega) (by decide) ho3) zm_X12_qIsOn zl_RX12_639 dX12_qGoesOn_164 rfl (by omega) (Nat.le_of_ble_eq_true rfl) zsh_177 rfl rfl ?_
      cases o3 with
      | true =>
        refine wp_if_ne (tgt := 178) (q := 170) dX12_qGoesOn_167 (by decide) rfl (fun _ => ?_) (fun hn => absurd hn (by decide))
        refine WP.sub (loc' := [(1, _), (0, _)]) [0, 1] rfl ?_
        exact k174 (Or.inl (Option.some.inj (of_decide_eq_true ho3)))
      | false =>
      have n3 : y ≠ 3 := fun e => (of_decide_eq_false ho3) (by rw [e]; rfl)
      refine wp_if_ne (tgt := 178) (q := 170) dX12_qGoesOn_167 (by decide) rfl (fun hn => absurd hn (by decide)) (fun _ => ?_)
      refine wp_aload_n (q := 171) dX12_qGoesOn_170 1 rfl rfl ?_
      refine wp_iconst (q := 172) dX12_qGoesOn_171 zq_iconst_4 rfl ?_
      obtain ⟨o4, ho4⟩ : ∃ o, decide ((y :: V).head? = some 4) = o := ⟨_, rfl⟩
      refine wp_cvx (q := 175) (sp_mqIsOn (d := d + 2) (W := y :: V) (v := 4) hQ.2.2.1 hQ.2.2.2.1 (by omega) (by decide) ho4) zm_X12_qIsOn zl_RX12_639 dX12_qGoesOn_172 rfl (by omega) (Nat.le_of_ble_eq_true rfl) zsh_177 rfl rfl ?_
      cases o4 with
      | true =>
        refine wp_if_eq (tgt := 185) (q := 178) dX12_qGoesOn_175 (by decide) rfl (fun hn => absurd hn (by decide)) (fun _ => ?_)
        refine WP.sub (loc' := [(1, _), (0, _)]) [0, 1] rfl ?_
        exact k174 (Or.inr (Option.some.inj (of_decide_eq_true ho4)))
      | false =>
      have n4 : y ≠ 4 := fun e => (of_decide_eq_false ho4) (by rw [e]; rfl)
      refine wp_if_eq (tgt := 185) (q := 178) dX12_qGoesOn_175 (by decide) rfl (fun _ => ?_) (fun hn => absurd hn (by decide))
      refine WP.sub (loc' := [(1, _), (0, _)]) [0, 1] rfl ?_
      rw [if_neg (show ¬ zP3 y = true from fun e => by have := of_decide_eq_true e; omega)] at e'
      cases e'
      exact kk N hQ hq
  -- after a + or a -
  have C286 : ∀ (x l : Nat) (N : zMI) (p : zP) (F : zFl) (k wk : Nat) (fr : List zLv) (o : Nat), (x = 1 ∨ x = 2) → zAt N b len T c p.1 → N 177 6 = p.2.2.2 → p.2.2.1 = 0 → N 177 91 = p.2.1 → zSQq N g F ((if wk = 0 then [] else [wk]) ++ (zWf fr ++ W0)) W0.length → g + F.length + ((if wk = 0 then [] else [wk]) ++ (zWf fr ++ W0)).length + 2 ≤ p.1 → wk ≠ 60 → zKv true p.1 o ((k, 0, 1600, x + 3, l, wk) :: fr) → p.2.1 = nI o → zks T c true ((k, 0, 1600, x + 3, l, wk) :: fr) (zpt T c true k p F) = r → P < p.1 → zSfq g M N → WP w YX12_qGoesOn (d + 3, SS, 0, 0) G (some (zXp (fun v0 M' L' R' => ∃ o, v0 = some (.int (nI (zb01 o))) ∧ L = L' ∧ R' = zRf t ∧ zSfq g M M' ∧ (o = true → zPAq M' b len T c g W0 r (P + 1)) ∧ (o = false → zPXq M' b len T c r ∨ zPCq M' b len T c g W0 r)))) 286 [(1, .int (nI x)), (0, .ref 177)] [] SS N L (zRf t) := by
    intro x l N p F k wk fr o hx a1 a2 a3 a4 a5 a6 hw hk ho hr hP hf
    have hc := zTok_c hT a1
    have hpc := a1.2.2.1
    have hln := a5.2.2.2.2.2
    have e : zWf ((k, 0, 1600, x + 3, l, wk) :: fr) ++ W0 = x :: ((if wk = 0 then [] else [wk]) ++ (zWf fr ++ W0)) := by
      show (zWl (k, 0, 1600, x + 3, l, wk) ++ zWf fr) ++ W0 = _
      rw [zWl_a hw (by omega), Nat.add_sub_cancel, List.append_assoc]
      rfl
    refine wp_aload_n (q := 287) dX12_qGoesOn_286 1 rfl rfl ?_
    refine wp_getR (q := 290) dX12_qGoesOn_287 zf_RX12_224 rfl zsh_177 (zr_177_89 _) rfl ?_
    refine wp_aload_n (q := 291) dX12_qGoesOn_290 1 rfl rfl ?_
    refine wp_getI (q := 294) dX12_qGoesOn_291 zf_RX12_603 rfl zsh_177 rfl ?_
    rw [a5.2.2.1]
    refine wp_iload_n (q := 295) dX12_qGoesOn_294 0 rfl rfl ?_
    refine wp_iast (q := 296) _ dX12_qGoesOn_295 zsh_246 rfl (by omega) (by decide) rfl ?_
    refine wp_aload_n (q := 297) dX12_qGoesOn_296 1 rfl rfl ?_
    refine wp_dup (q := 298) dX12_qGoesOn_297 rfl rfl ?_
    refine wp_getI (q := 301) dX12_qGoesOn_298 zf_RX12_603 rfl zsh_177 rfl ?_
    rw [zu_ne (by decide), a5.2.2.1]
    refine wp_iconst (q := 302) dX12_qGoesOn_301 zq_iconst_1 rfl ?_
    refine wp_iaddN (q := 303) dX12_qGoesOn_302 rfl ?_
    refine wp_putI (q := 306) dX12_qGoesOn_303 zf_RX12_603 rfl zsh_177 rfl ?_
    refine wp_iconst (q := 307) dX12_qGoesOn_306 zq_iconst_1 rfl ?_
    have hq : zQfq g 88 N (zu (zu N 246 ((if wk = 0 then [] else [wk]) ++ (zWf fr ++ W0)).length (nI x)) 177 90 (nI (((if wk = 0 then [] else [wk]) ++ (zWf fr ++ W0)).length + 1))) := zQfq_7 (zQfq_k zQfq_r) (Or.inl rfl) (by omega)
    refine wp_zreturn dX12_qGoesOn_307 rfl (by first | with_reducible exact znar_0 | with_reducible exact znar_1 | assumption) ⟨rfl, ⟨true, rfl, rfl, rfl, zSfq_t hf hq.1, fun _ => ⟨p, F, (k, 0, 1600, x + 3, l, wk), fr, o, ⟨zAt_qq a1 hq (by decide), by rw [hq.2 6 (by decide) (by decide) (by decide)]; exact a2, a3, by rw [zu_k (by decide), zu_ne (by decide)]; exact a4, zSQq_W (zSQq_push (x := x) a5 (by omega) (by omega)) e.symm, ?_⟩, hk, ho, hr, hP⟩, fun e => by cases e⟩⟩ rfl rfl
    rw [e, List.length_cons]
    omega
  have C247 : ∀ (V : List Nat) (F2 : zFl) (N N0 : zMI) (x : Nat) (V' : List Nat) (F' : zFl), zSQq N g F2 V W0.length → zQfq g 88 N0 N → zdw zP1 V F2 = (V', F') → (∀ N2 : zMI, zSQq N2 g F' V' W0.length → zQfq g 88 N0 N2 → WP w YX12_qGoesOn (d + 3, SS, 0, 0) G (some (zXp (fun v0 M' L' R' => ∃ o, v0 = some (.int (nI (zb01 o))) ∧ L = L' ∧ R' = zRf t ∧ zSfq g M M' ∧ (o = true → zPAq M' b len T c g W0 r (P + 1)) ∧ (o = false → zPXq M' b len T c r ∨ zPCq M' b len T c g W0 r)))) 286 [(1, .int (nI x)), (0, .ref 177)] [] SS N2 L (zRf t)) → WP w YX12_qGoesOn (d + 3, SS, 0, 0) G (some (zXp (fun v0 M' L' R' => ∃ o, v0 = some (.int (nI (zb01 o))) ∧ L = L' ∧ R' = zRf t ∧ zSfq g M M' ∧ (o = true → zPAq M' b len T c g W0 r (P + 1)) ∧ (o = false → zPXq M' b len T c r ∨ zPCq M' b len T c g W0 r)))) 247 [(1, .int (nI x)), (0, .ref 177)] [] SS N L (zRf t) := by
    intro V
    induction V with
    | nil =>
      intro F2 N N0 x V' F' hQ hq hr kk
      have e : (([] : List Nat), F2) = (V', F') := hr
      cases e
      refine wp_aload_n (q := 248) dX12_qGoesOn_247 1 rfl rfl ?_
      refine wp_iconst (q := 249) dX12_qGoesOn_248 zq_iconst_3 rfl ?_
      refine wp_cvx (q := 252) (sp_mqIsOn (d := d + 2) (W := []) (v := 3) hQ.2.2.1 hQ.2.2.2.1 (Nat.zero_le _) (by decide) (o := false) rfl) zm_X12_qIsOn zl_RX12_639 dX12_qGoesOn_249 rfl (by omega) (Nat.le_of_ble_eq_true rfl) zsh_177 rfl rfl ?_
      refine wp_if_ne (tgt := 279) (q := 255) dX12_qGoesOn_252 (by decide) rfl (fun hn => absurd hn (by decide)) (fun _ => ?_)
      refine wp_aload_n (q := 256) dX12_qGoesOn_255 1 rfl rfl ?_
      refine wp_iconst (q := 257) dX12_qGoesOn_256 zq_iconst_4 rfl ?_
      refine wp_cvx (q := 260) (sp_mqIsOn (d := d + 2) (W := []) (v := 4) hQ.2.2.1 hQ.2.2.2.1 (Nat.zero_le _) (by decide) (o := false) rfl) zm_X12_qIsOn zl_RX12_639 dX12_qGoesOn_257 rfl (by omega) (Nat.le_of_ble_eq_true rfl) zsh_177 rfl rfl ?_
      refine wp_if_ne (tgt := 279) (q := 263) dX12_qGoesOn_260 (by decide) rfl (fun hn => absurd hn (by decide)) (fun _ => ?_)
      refine wp_aload_n (q := 264) dX12_qGoesOn_263 1 rfl rfl ?_
      refine wp_iconst (q := 265) dX12_qGoesOn_264 zq_iconst_1 rfl ?_
      refine wp_cvx (q := 268) (sp_mqIsOn (d := d + 2) (W := []) (v := 1) hQ.2.2.1 hQ.2.2.2.1 (Nat.zero_le _) (by decide) (o := false) rfl) zm_X12_qIsOn zl_RX12_639 dX12_qGoesOn_265 rfl (by omega) (Nat.le_of_ble_eq_true rfl) zsh_177 rfl rfl ?_
      refine wp_if_ne (tgt := 279) (q := 271) dX12_qGoesOn_268 (by decide) rfl (fun hn => absurd hn (by decide)) (fun _ => ?_)
      refine wp_aload_n (q := 272) dX12_qGoesOn_271 1 rfl rfl ?_
      refine wp_iconst (q := 273) dX12_qGoesOn_272 zq_iconst_2 rfl ?_
      refine wp_cvx (q := 276) (sp_mqIsOn (d := d + 2) (W := []) (v := 2) hQ.2.2.1 hQ.2.2.2.1 (Nat.zero_le _) (by decide) (o := false) rfl) zm_X12_qIsOn zl_RX12_639 dX12_qGoesOn_273 rfl (by omega) (Nat.le_of_ble_eq_true rfl) zsh_177 rfl rfl ?_
      refine wp_if_eq (tgt := 286) (q := 279) dX12_qGoesOn_276 (by decide) rfl (fun _ => ?_) (fun hn => absurd hn (by decide))
      refine WP.sub (loc' := [(1, _), (0, _)]) [0, 1] rfl ?_
      exact kk N hQ hq
    | cons y V ih =>
      intro F2 N N0 x V' F' hQ hq hr kk
      have e' : (if zP1 y then zdw zP1 V (F2 ++ [(y + 3, 0)]) else (y :: V, F2)) = (V', F') := hr
      have hl := hQ.2.2.2.2.2
      have k275 : y = 3 ∨ y = 4 ∨ y = 1 ∨ y = 2 → WP w YX12_qGoesOn (d + 3, SS, 0, 0) G (some (zXp (fun v0 M' L' R' => ∃ o, v0 = some (.int (nI (zb01 o))) ∧ L = L' ∧ R' = zRf t ∧ zSfq g M M' ∧ (o = true → zPAq M' b len T c g W0 r (P + 1)) ∧ (o = false → zPXq M' b len T c r ∨ zPCq M' b len T c g W0 r)))) 279 [(1, .int (nI x)), (0, .ref 177)] [] SS N L (zRf t) := by
        intro y3
        rw [if_pos (show zP1 y = true from decide_eq_true y3)] at e'
        refine wp_aload_n (q := 280) dX12_qGoesOn_279 1 rfl rfl ?_
        refine wp_cvx (q := 283) (sp_mqDrops (d := d + 1) hQ) zm_X12_qDrops zl_RX12_615 dX12_qGoesOn_280 rfl (by omega) (Nat.le_of_ble_eq_true rfl) zsh_177 rfl rfl ?_
        refine wp_goto (tgt := 247) dX12_qGoesOn_283 (by decide) ?_
        refine WP.sub (loc' := [(1, _), (0, _)]) [0, 1] rfl ?_
        exact ih _ _ N0 x V' F' (zSQq_pop hQ (zqc_s (by omega) (by omega))) (zQfq_pop hq hQ) e' kk
      refine wp_aload_n (q := 248) dX12_qGoesOn_247 1 rfl rfl ?_
      refine wp_iconst (q := 249) dX12_qGoesOn_248 zq_iconst_3 rfl ?_
      obtain ⟨o3, ho3⟩ : ∃ o, decide ((y :: V).head? = some 3) = o := ⟨_, rfl⟩
      refine wp_cvx (q := 252) (sp_mqIsOn (d := d + 2) (W := y :: V) (v := 3) hQ.2.2.1 hQ.2.2.2.1 (by omega) (by decide) ho3) zm_X12_qIsOn zl_RX12_639 dX12_qGoesOn_249 rfl (by omega) (Nat.le_of_ble_eq_true rfl) zsh_177 rfl rfl ?_
      cases o3 with
      | true =>
        refine wp_if_ne (tgt := 279) (q := 255) dX12_qGoesOn_252 (by decide) rfl (fun _ => ?_) (fun hn => absurd hn (by decide))
        refine WP.sub (loc' := [(1, _), (0, _)]) [0, 1] rfl ?_
        exact k275 (Or.inl (Option.some.inj (of_decide_eq_true ho3)))
      | false =>
      have n3 : y ≠ 3 := fun e => (of_decide_eq_false ho3) (by rw [e]; rfl)
      refine wp_if_ne (tgt := 279) (q := 255) dX12_qGoesOn_252 (by decide) rfl (fun hn => absurd hn (by decide)) (fun _ => ?_)
      refine wp_aload_n (q := 256) dX12_qGoesOn_255 1 rfl rfl ?_
      refine wp_iconst (q := 257) dX12_qGoesOn_256 zq_iconst_4 rfl ?_
      obtain ⟨o4, ho4⟩ : ∃ o, decide ((y :: V).head? = some 4) = o := ⟨_, rfl⟩
      refine wp_cvx (q := 260) (sp_mqIsOn (d := d + 2) (W := y :: V) (v := 4) hQ.2.2.1 hQ.2.2.2.1 (by omega) (by decide) ho4) zm_X12_qIsOn zl_RX12_639 dX12_qGoesOn_257 rfl (by omega) (Nat.le_of_ble_eq_true rfl) zsh_177 rfl rfl ?_
      cases o4 with
      | true =>
        refine wp_if_ne (tgt := 279) (q := 263) dX12_qGoesOn_260 (by decide) rfl (fun _ => ?_) (fun hn => absurd hn (by decide))
        refine WP.sub (loc' := [(1, _), (0, _)]) [0, 1] rfl ?_
        exact k275 (Or.inr (Or.inl (Option.some.inj (of_decide_eq_true ho4))))
      | false =>
      have n4 : y ≠ 4 := fun e => (of_decide_eq_false ho4) (by rw [e]; rfl)
      refine wp_if_ne (tgt := 279) (q := 263) dX12_qGoesOn_260 (by decide) rfl (fun hn => absurd hn (by decide)) (fun _ => ?_)
      refine wp_aload_n (q := 264) dX12_qGoesOn_263 1 rfl rfl ?_
      refine wp_iconst (q := 265) dX12_qGoesOn_264 zq_iconst_1 rfl ?_
      obtain ⟨o1, ho1⟩ : ∃ o, decide ((y :: V).head? = some 1) = o := ⟨_, rfl⟩
      refine wp_cvx (q := 268) (sp_mqIsOn (d := d + 2) (W := y :: V) (v := 1) hQ.2.2.1 hQ.2.2.2.1 (by omega) (by decide) ho1) zm_X12_qIsOn zl_RX12_639 dX12_qGoesOn_265 rfl (by omega) (Nat.le_of_ble_eq_true rfl) zsh_177 rfl rfl ?_
      cases o1 with
      | true =>
        refine wp_if_ne (tgt := 279) (q := 271) dX12_qGoesOn_268 (by decide) rfl (fun _ => ?_) (fun hn => absurd hn (by decide))
        refine WP.sub (loc' := [(1, _), (0, _)]) [0, 1] rfl ?_
        exact k275 (Or.inr (Or.inr (Or.inl (Option.some.inj (of_decide_eq_true ho1)))))
      | false =>
      have n1 : y ≠ 1 := fun e => (of_decide_eq_false ho1) (by rw [e]; rfl)
      refine wp_if_ne (tgt := 279) (q := 271) dX12_qGoesOn_268 (by decide) rfl (fun hn => absurd hn (by decide)) (fun _ => ?_)
      refine wp_aload_n (q := 272) dX12_qGoesOn_271 1 rfl rfl ?_
      refine wp_iconst (q := 273) dX12_qGoesOn_272 zq_iconst_2 rfl ?_
      obtain ⟨o2, ho2⟩ : ∃ o, decide ((y :: V).head? = some 2) = o := ⟨_, rfl⟩
      refine wp_cvx (q := 276) (sp_mqIsOn (d := d + 2) (W := y :: V) (v := 2) hQ.2.2.1 hQ.2.2.2.1 (by omega) (by decide) ho2) zm_X12_qIsOn zl_RX12_639 dX12_qGoesOn_273 rfl (by omega) (Nat.le_of_ble_eq_true rfl) zsh_177 rfl rfl ?_
      cases o2 with
      | true =>
        refine wp_if_eq (tgt := 286) (q := 279) dX12_qGoesOn_276 (by decide) rfl (fun hn => absurd hn (by decide)) (fun _ => ?_)
        refine WP.sub (loc' := [(1, _), (0, _)]) [0, 1] rfl ?_
        exact k275 (Or.inr (Or.inr (Or.inr (Option.some.inj (of_decide_eq_true ho2)))))
      | false =>
      have n2 : y ≠ 2 := fun e => (of_decide_eq_false ho2) (by rw [e]; rfl)
      refine wp_if_eq (tgt := 286) (q := 279) dX12_qGoesOn_276 (by decide) rfl (fun _ => ?_) (fun hn => absurd hn (by decide))
      refine WP.sub (loc' := [(1, _), (0, _)]) [0, 1] rfl ?_
      rw [if_neg (show ¬ zP1 y = true from fun e => by have := of_decide_eq_true e; omega)] at e'
      cases e'
      exact kk N hQ hq
  -- behind the closed brackets
  have C122 : ∀ (N : zMI) (p : zP) (F : zFl) (f : zLv) (fr : List zLv) (o : Nat), zSSq N b len T c p F (zWf (f :: fr) ++ W0) g W0.length → zKv true p.1 o (f :: fr) → p.2.1 = nI o → zks T c true (f :: fr) (p, F) = r → P < p.1 → f.2.2.2.2.2 ≠ 60 → zSfq g M N → ¬ ((T p.1 0 = 3 ∧ T p.1 2 = 41) ∧ (f.2.2.2.2.2 = 20 ∨ f.2.2.2.2.2 = 23 ∨ f.2.2.2.2.2 = 24)) → WP w YX12_qGoesOn (d + 3, SS, 0, 0) G (some (zXp (fun v0 M' L' R' => ∃ o, v0 = some (.int (nI (zb01 o))) ∧ L = L' ∧ R' = zRf t ∧ zSfq g M M' ∧ (o = true → zPAq M' b len T c g W0 r (P + 1)) ∧ (o = false → zPXq M' b len T c r ∨ zPCq M' b len T c g W0 r)))) 122 [(0, .ref 177)] [] SS N L (zRf t) := by
    intro N p F f fr o hS hk ho hr hP h60 hf h41
    obtain ⟨a1, a2, a3, a4, a5, a6⟩ := hS
    have hc := zTok_c hT a1
    have hpc := a1.2.2.1
    have hlen := zTok_len hT hpc
    have hl16 := a1.1.2.1
    obtain ⟨k1, k2⟩ := zKv_q hk h60
    have hw0 : f.2.2.2.2.2 = 0 ∨ (20 ≤ f.2.2.2.2.2 ∧ f.2.2.2.2.2 ≤ 24) := by
      rcases k2 with e | e
      · exact Or.inl e.1
      · exact Or.inr e.1
    have hw60 : f.2.2.2.2.2 ≠ 60 := by omega
    have hfr : f.2.2.2.2.2 = 0 → fr = [] := fun e => by
      rcases k2 with e1 | e1
      · exact e1.2
      · omega
    have hfu : 1600 ≤ f.2.2.1 + p.1 ∧ 1600 ≤ f.2.2.2.2.1 + p.1 := by
      rcases k1.2.2 with e | e
      · exact absurd e hw60
      · exact e
    have eW : zWf (f :: fr) ++ W0 = zWl f ++ (zWf fr ++ W0) := List.append_assoc _ _ _
    have a5' := zSQq_W a5 eW
    have n1 := zWl_n hw60
    have lnW : (zWf (f :: fr) ++ W0).length = (zWl f).length + (zWf fr ++ W0).length := by rw [eW, List.length_append]
    have hv3 : f.2.2.2.2.2 = 0 → ∀ F, zdw zP3 (zWf fr ++ W0) F = (zWf fr ++ W0, F) := fun e => by rw [hfr e]; exact h03
    have hv1 : f.2.2.2.2.2 = 0 → ∀ F, zdw zP1 (zWf fr ++ W0) F = (zWf fr ++ W0, F) := fun e => by rw [hfr e]; exact h01
    have d3 := zdr3_f (F := F) k1 hw0 hv3
    have d1 := zdr1_f (F := F) k1 hw0 hv1
    obtain ⟨k, m, n, a, l, wk⟩ := f
    have hw60' : wk ≠ 60 := hw60
    have hw0' : wk = 0 ∨ (20 ≤ wk ∧ wk ≤ 24) := hw0
    have n1' : (zWl (k, m, n, a, l, wk)).length = (if m = 0 then 0 else 1) + ((if a = 0 then 0 else 1) + (if wk = 0 then 0 else 1)) := n1
    have tape : ∀ (N2 : zMI) (s : Nat), zPf N N2 → s < 256 → N2 177 2 = nI (T p.1 1 + 1) → T p.1 0 = 3 ∧ T p.1 2 = s → zcl s = 3 → N2 178 (T p.1 1) = nI s := by
      intro N2 s hp hs h2 h3 hz
      have e := (zSg (s := s) hT (fun i hi => (a1.1.2.2 i hi).2) hpc hz hs).mpr h3
      obtain ⟨z1, -⟩ := zTok_3 hT hpc h3.1
      have hlt := hlen.2.mpr z1
      unfold zlkv at e
      rw [if_pos hlt] at e
      rw [hp.1 178 (by decide), (a1.1.2.2 _ hlt).1, e]
    have C140 : ∀ (N2 : zMI) (s : Nat), (s = 42 ∨ s = 47) → zPf N N2 → N2 177 6 = N 177 6 → zAt N2 b len T c (p.1 + 1) → N2 177 2 = nI (T p.1 1 + 1) → T p.1 0 = 3 ∧ T p.1 2 = s → WP w YX12_qGoesOn (d + 3, SS, 0, 0) G (some (zXp (fun v0 M' L' R' => ∃ o, v0 = some (.int (nI (zb01 o))) ∧ L = L' ∧ R' = zRf t ∧ zSfq g M M' ∧ (o = true → zPAq M' b len T c g W0 r (P + 1)) ∧ (o = false → zPXq M' b len T c r ∨ zPCq M' b len T c g W0 r)))) 140 [(0, .ref 177)] [] SS N2 L (zRf t) := by
      intro N2 s hs hp h6 hA h2 h3
      have ht := tape N2 s hp (by omega) h2 h3 (by rcases hs with rfl | rfl <;> decide)
      obtain ⟨z1, z2⟩ := zTok_3 hT hpc h3.1
      obtain ⟨n', hn'⟩ : ∃ n', n = n' + 1 := ⟨n - 1, by have : 1600 ≤ n + p.1 := hfu.1; omega⟩
      have hss : zpS T p 42 = true ∨ zpS T p 47 = true := by
        rcases hs with e | e
        · exact Or.inl (zpS_i.mpr (by rw [← e]; exact h3))
        · exact Or.inr (zpS_i.mpr (by rw [← e]; exact h3))
      rw [hn', zks_times hw60' hss, zpn_o z1] at hr
      have C162' : ∀ x, x + 3 = (if zpS T p 42 then 6 else 7) → (x = 3 ∨ x = 4) → WP w YX12_qGoesOn (d + 3, SS, 0, 0) G (some (zXp (fun v0 M' L' R' => ∃ o, v0 = some (.int (nI (zb01 o))) ∧ L = L' ∧ R' = zRf t ∧ zSfq g M M' ∧ (o = true → zPAq M' b len T c g W0 r (P + 1)) ∧ (o = false → zPXq M' b len T c r ∨ zPCq M' b len T c g W0 r)))) 162 [(1, .int (nI x)), (0, .ref 177)] [] SS N2 L (zRf t) := by
        intro x hx hx2
        rw [← hx] at hr
        refine C162 (zWl (k, m, n, a, l, wk) ++ (zWf fr ++ W0)) F N2 N2 x _ _ (zSQq_p a5' hp) zQfq_r d3 ?_
        intro N3 hQ3 hq3
        have hln : (zap m F).length = F.length + if m = 0 then 0 else 1 := zap_n
        refine C185 x n' N3 (p.1 + 1, p.2.1, p.2.2.1, p.2.2.2) (zap m F) k a l wk fr o hx2 (zAt_qq hA hq3 (by decide)) (by rw [hq3.2 6 (by decide) (by decide) (by decide), h6]; exact a2) a3 ?_ hQ3 ?_ hw60' ?_ ho hr (by show P < p.1 + 1; omega) (zSfq_t (zSfq_p hf hp) hq3.1)
        · rw [hq3.2 91 (by decide) (by decide) (by decide), hp.2 91 (by decide) (by decide) (by decide) (by decide) (by decide)]; exact a4
        · rw [List.length_append, zWt_n]
          show _ ≤ p.1 + 1
          omega
        · obtain ⟨⟨q1, q2, q3⟩, q4, q5, q6⟩ := zKv_m (Nat.le_succ p.1) _ _ hk
          refine ⟨⟨Or.inr (by show x + 3 = 6 ∨ x + 3 = 7; omega), q2, Or.inr ⟨?_, ?_⟩⟩, q4, q5, q6⟩
          · show 1600 ≤ n' + (p.1 + 1)
            have : 1600 ≤ n + p.1 := hfu.1
            omega
          · show 1600 ≤ l + (p.1 + 1)
            have : 1600 ≤ l + p.1 := hfu.2
            omega
      refine wp_aload_n (q := 141) dX12_qGoesOn_140 0 rfl rfl ?_
      refine wp_getR (q := 144) dX12_qGoesOn_141 zf_RX12_7 rfl zsh_177 (zr_177_0 _) rfl ?_
      refine wp_aload_n (q := 145) dX12_qGoesOn_144 0 rfl rfl ?_
      refine wp_getI (q := 148) dX12_qGoesOn_145 zf_RX12_242 rfl zsh_177 rfl ?_
      rw [h2]
      refine wp_iconst (q := 149) dX12_qGoesOn_148 zq_iconst_1 rfl ?_
      refine wp_isubN (q := 150) dX12_qGoesOn_149 (by omega) rfl ?_
      refine wp_iald (q := 151) _ dX12_qGoesOn_150 zsh_178 rfl (by omega) (by decide) rfl ?_
      rw [Nat.add_sub_cancel, ht]
      refine wp_bipush (q := 153) dX12_qGoesOn_151 zq_bipush_42 rfl ?_
      refine wp_icmp_neN (tgt := 160) (q := 156) dX12_qGoesOn_153 (by decide) rfl (by omega) (by omega) (fun e42 => ?_) (fun e42 => ?_)
      · skip
        refine wp_iconst (q := 161) dX12_qGoesOn_160 zq_iconst_4 rfl ?_
        refine wp_istore_n (q := 162) (loc' := [(1, _), (0, _)]) dX12_qGoesOn_161 rfl (by decide) rfl rfl ?_
        refine WP.sub (loc' := [(1, _), (0, _)]) [0, 1] rfl ?_
        exact C162' 4 (by rw [if_neg (by rw [zpS_f.mpr (by omega)]; decide)]) (Or.inr rfl)
      · skip
        refine wp_iconst (q := 157) dX12_qGoesOn_156 zq_iconst_3 rfl ?_
        refine wp_goto (tgt := 161) dX12_qGoesOn_157 (by decide) ?_
        refine wp_istore_n (q := 162) (loc' := [(1, _), (0, _)]) dX12_qGoesOn_161 rfl (by decide) rfl rfl ?_
        refine WP.sub (loc' := [(1, _), (0, _)]) [0, 1] rfl ?_
        exact C162' 3 (by rw [if_pos (zpS_i.mpr (by omega))]) (Or.inl rfl)
    have C225 : ∀ (N2 : zMI) (s : Nat), (s = 43 ∨ s = 45) → zPf N N2 → N2 177 6 = N 177 6 → zAt N2 b len T c (p.1 + 1) → N2 177 2 = nI (T p.1 1 + 1) → T p.1 0 = 3 ∧ T p.1 2 = s → WP w YX12_qGoesOn (d + 3, SS, 0, 0) G (some (zXp (fun v0 M' L' R' => ∃ o, v0 = some (.int (nI (zb01 o))) ∧ L = L' ∧ R' = zRf t ∧ zSfq g M M' ∧ (o = true → zPAq M' b len T c g W0 r (P + 1)) ∧ (o = false → zPXq M' b len T c r ∨ zPCq M' b len T c g W0 r)))) 225 [(0, .ref 177)] [] SS N2 L (zRf t) := by
      intro N2 s hs hp h6 hA h2 h3
      have ht := tape N2 s hp (by omega) h2 h3 (by rcases hs with rfl | rfl <;> decide)
      obtain ⟨z1, z2⟩ := zTok_3 hT hpc h3.1
      obtain ⟨l', hl'⟩ : ∃ l', l = l' + 1 := ⟨l - 1, by have : 1600 ≤ l + p.1 := hfu.2; omega⟩
      have hss : zpS T p 43 = true ∨ zpS T p 45 = true := by
        rcases hs with e | e
        · exact Or.inl (zpS_i.mpr (by rw [← e]; exact h3))
        · exact Or.inr (zpS_i.mpr (by rw [← e]; exact h3))
      rw [hl', zks_plus hw60' (zpS_f.mpr (by omega)) (zpS_f.mpr (by omega)) hss, zpn_o z1] at hr
      have C247' : ∀ x, x + 3 = (if zpS T p 43 then 4 else 5) → (x = 1 ∨ x = 2) → WP w YX12_qGoesOn (d + 3, SS, 0, 0) G (some (zXp (fun v0 M' L' R' => ∃ o, v0 = some (.int (nI (zb01 o))) ∧ L = L' ∧ R' = zRf t ∧ zSfq g M M' ∧ (o = true → zPAq M' b len T c g W0 r (P + 1)) ∧ (o = false → zPXq M' b len T c r ∨ zPCq M' b len T c g W0 r)))) 247 [(1, .int (nI x)), (0, .ref 177)] [] SS N2 L (zRf t) := by
        intro x hx hx2
        rw [← hx] at hr
        refine C247 (zWl (k, m, n, a, l, wk) ++ (zWf fr ++ W0)) F N2 N2 x _ _ (zSQq_p a5' hp) zQfq_r d1 ?_
        intro N3 hQ3 hq3
        have hln : (zap m F).length = F.length + if m = 0 then 0 else 1 := zap_n
        have hln2 : (zap a (zap m F)).length = (zap m F).length + if a = 0 then 0 else 1 := zap_n
        have hln3 : (if wk = 0 then ([] : List Nat) else [wk]).length = if wk = 0 then 0 else 1 := by split <;> rfl
        refine C286 x l' N3 (p.1 + 1, p.2.1, p.2.2.1, p.2.2.2) (zap a (zap m F)) k wk fr o hx2 (zAt_qq hA hq3 (by decide)) (by rw [hq3.2 6 (by decide) (by decide) (by decide), h6]; exact a2) a3 ?_ hQ3 ?_ hw60' ?_ ho hr (by show P < p.1 + 1; omega) (zSfq_t (zSfq_p hf hp) hq3.1)
        · rw [hq3.2 91 (by decide) (by decide) (by decide), hp.2 91 (by decide) (by decide) (by decide) (by decide) (by decide)]; exact a4
        · rw [List.length_append, hln3]
          show _ ≤ p.1 + 1
          omega
        · obtain ⟨⟨q1, q2, q3⟩, q4, q5, q6⟩ := zKv_m (Nat.le_succ p.1) _ _ hk
          refine ⟨⟨Or.inl rfl, Or.inr (by show x + 3 = 4 ∨ x + 3 = 5; omega), Or.inr ⟨?_, ?_⟩⟩, q4, q5, q6⟩
          · exact Nat.le_add_right _ _
          · show 1600 ≤ l' + (p.1 + 1)
            have : 1600 ≤ l + p.1 := hfu.2
            omega
      refine wp_aload_n (q := 226) dX12_qGoesOn_225 0 rfl rfl ?_
      refine wp_getR (q := 229) dX12_qGoesOn_226 zf_RX12_7 rfl zsh_177 (zr_177_0 _) rfl ?_
      refine wp_aload_n (q := 230) dX12_qGoesOn_229 0 rfl rfl ?_
      refine wp_getI (q := 233) dX12_qGoesOn_230 zf_RX12_242 rfl zsh_177 rfl ?_
      rw [h2]
      refine wp_iconst (q := 234) dX12_qGoesOn_233 zq_iconst_1 rfl ?_
      refine wp_isubN (q := 235) dX12_qGoesOn_234 (by omega) rfl ?_
      refine wp_iald (q := 236) _ dX12_qGoesOn_235 zsh_178 rfl (by omega) (by decide) rfl ?_
      rw [Nat.add_sub_cancel, ht]
      refine wp_bipush (q := 238) dX12_qGoesOn_236 zq_bipush_43 rfl ?_
      refine wp_icmp_neN (tgt := 245) (q := 241) dX12_qGoesOn_238 (by decide) rfl (by omega) (by omega) (fun e42 => ?_) (fun e42 => ?_)
      · skip
        refine wp_iconst (q := 246) dX12_qGoesOn_245 zq_iconst_2 rfl ?_
        refine wp_istore_n (q := 247) (loc' := [(1, _), (0, _)]) dX12_qGoesOn_246 rfl (by decide) rfl rfl ?_
        refine WP.sub (loc' := [(1, _), (0, _)]) [0, 1] rfl ?_
        exact C247' 2 (by rw [if_neg (by rw [zpS_f.mpr (by omega)]; decide)]) (Or.inr rfl)
      · skip
        refine wp_iconst (q := 242) dX12_qGoesOn_241 zq_iconst_1 rfl ?_
        refine wp_goto (tgt := 246) dX12_qGoesOn_242 (by decide) ?_
        refine wp_istore_n (q := 247) (loc' := [(1, _), (0, _)]) dX12_qGoesOn_246 rfl (by decide) rfl rfl ?_
        refine WP.sub (loc' := [(1, _), (0, _)]) [0, 1] rfl ?_
        exact C247' 1 (by rw [if_pos (zpS_i.mpr (by omega))]) (Or.inl rfl)
    have C308 : ∀ (N4 : zMI), zPf N N4 → N4 177 6 = N 177 6 → zAt N4 b len T c p.1 → N4 177 2 = nI (T p.1 1) → (¬ (T p.1 0 = 3 ∧ T p.1 2 = 42)) → (¬ (T p.1 0 = 3 ∧ T p.1 2 = 47)) → (¬ (T p.1 0 = 3 ∧ T p.1 2 = 43)) → (¬ (T p.1 0 = 3 ∧ T p.1 2 = 45)) → WP w YX12_qGoesOn (d + 3, SS, 0, 0) G (some (zXp (fun v0 M' L' R' => ∃ o, v0 = some (.int (nI (zb01 o))) ∧ L = L' ∧ R' = zRf t ∧ zSfq g M M' ∧ (o = true → zPAq M' b len T c g W0 r (P + 1)) ∧ (o = false → zPXq M' b len T c r ∨ zPCq M' b len T c g W0 r)))) 308 [(0, .ref 177)] [] SS N4 L (zRf t) := by
      intro N4 hp h6 hA h2 x42 x47 x43 x45
      rw [zks_end hw60' (zpS_f.mpr x42) (zpS_f.mpr x47) (zpS_f.mpr x43) (zpS_f.mpr x45)] at hr
      have hS4 : zSQq N4 g F (zWf ((k, m, n, a, l, wk) :: fr) ++ W0) W0.length := zSQq_p a5 hp
      have hln4 := hS4.2.2.2.2.2
      have hv : zLm (zWf ((k, m, n, a, l, wk) :: fr)) = if wk = 0 then zLm (zWf fr) else nI wk := zLm_f k1 hw0
      have hvn : ∀ x, x < 100 → wk ≠ x → ¬ zLm (zWf ((k, m, n, a, l, wk) :: fr)) = nI x := fun x y1 y2 => zmv hv (fun e => by rw [hfr e]; rfl) (by omega) y1 y2
      have h47 : N4 177 91 = p.2.1 := by rw [hp.2 91 (by decide) (by decide) (by decide) (by decide) (by decide)]; exact a4
      have hln : (zap m F).length = F.length + if m = 0 then 0 else 1 := zap_n
      have hln2 : (zap a (zap m F)).length = (zap m F).length + if a = 0 then 0 else 1 := zap_n
      have C326 : wk = 21 ∨ wk = 22 → WP w YX12_qGoesOn (d + 3, SS, 0, 0) G (some (zXp (fun v0 M' L' R' => ∃ o, v0 = some (.int (nI (zb01 o))) ∧ L = L' ∧ R' = zRf t ∧ zSfq g M M' ∧ (o = true → zPAq M' b len T c g W0 r (P + 1)) ∧ (o = false → zPXq M' b len T c r ∨ zPCq M' b len T c g W0 r)))) 326 [(0, .ref 177)] [] SS N4 L (zRf t) := by
        intro hw2
        rw [zkm_next hw2] at hr
        refine wp_aload_n (q := 327) dX12_qGoesOn_326 0 rfl rfl ?_
        refine wp_bipush (q := 329) dX12_qGoesOn_327 zq_bipush_44 rfl ?_
        refine wp_cvy (q := 332) (sp_masksSign (d := d) (s := 44) hA hT (by decide) (by decide)) zm_X12_asksSign zl_RX12_347 dX12_qGoesOn_329 rfl (by omega) (Nat.le_of_ble_eq_true rfl) zsh_177 rfl rfl ?_
        rintro _ N5 _ _ ⟨rfl, rfl, rfl, y1, y2, y3⟩
        have hp5 := zPf_t hp y1
        by_cases e44 : T p.1 0 = 3 ∧ T p.1 2 = 44
        · obtain ⟨z1, z2⟩ := zTok_3 hT hpc e44.1
          obtain ⟨y4, y5⟩ := y2 e44
          rw [show zpNS T c p 44 = zpn c p from if_pos (zpS_i.mpr e44), zpn_o z1] at hr
          skip
          refine wp_aload_n (q := 333) dX12_qGoesOn_332 0 rfl rfl ?_
          refine wp_getI (q := 336) dX12_qGoesOn_333 zf_RX12_236 rfl zsh_177 rfl ?_
          rw [y4.2.1]
          refine wp_if_eqN (tgt := 341) (q := 339) dX12_qGoesOn_336 (by decide) rfl (by omega) (fun _ => ?_) (fun hn => absurd hn (by first | omega | exact fun h => h | exact fun h => h trivial))
          refine wp_aload_n (q := 342) dX12_qGoesOn_341 0 rfl rfl ?_
          have hdk : zdkk (zWf ((k, m, n, a, l, wk) :: fr)) := zdkk_f (f := (k, m, n, a, l, wk)) k1 (by show 20 ≤ wk ∧ wk ≤ 24; omega)
          have hdm : zdw zPm (zWf ((k, m, n, a, l, wk) :: fr)) F = (wk :: zWf fr, zap a (zap m F)) := zdm_f (f := (k, m, n, a, l, wk)) k1 (by show 20 ≤ wk ∧ wk ≤ 24; omega)
          refine wp_cvy (q := 345) (sp_mqDropsToBracket (d := d) (zSQq_p a5 hp5) hdk hdm) zm_X12_qDropsToBracket zl_RX12_636 dX12_qGoesOn_342 rfl (by omega) (Nat.le_of_ble_eq_true rfl) zsh_177 rfl rfl ?_
          rintro _ N6 _ _ ⟨rfl, rfl, rfl, hQ6, hq6⟩
          have e46 : N6 177 90 = nI ((zWf fr ++ W0).length + 1) := hQ6.2.2.1
          have etop : N6 246 (zWf fr ++ W0).length = nI wk := hQ6.2.2.2.1.1.1
          have hln6 : g + (zap a (zap m F)).length + ((zWf fr ++ W0).length + 1) ≤ 1600 := hQ6.2.2.2.2.2
          refine wp_aload_n (q := 346) dX12_qGoesOn_345 0 rfl rfl ?_
          refine wp_getR (q := 349) dX12_qGoesOn_346 zf_RX12_224 rfl zsh_177 (zr_177_89 _) rfl ?_
          refine wp_aload_n (q := 350) dX12_qGoesOn_349 0 rfl rfl ?_
          refine wp_getI (q := 353) dX12_qGoesOn_350 zf_RX12_603 rfl zsh_177 rfl ?_
          rw [e46]
          refine wp_iconst (q := 354) dX12_qGoesOn_353 zq_iconst_1 rfl ?_
          refine wp_isubN (q := 355) dX12_qGoesOn_354 (by omega) rfl ?_
          first | refine wp_dup2 (q := 356) dX12_qGoesOn_355 rfl rfl rfl ?_ | refine wp_dup2L (q := 356) dX12_qGoesOn_355 rfl rfl ?_
          refine wp_iald (q := 357) _ dX12_qGoesOn_356 zsh_246 rfl (by omega) (by decide) rfl ?_
          rw [Nat.add_sub_cancel, etop]
          refine wp_iconst (q := 358) dX12_qGoesOn_357 zq_iconst_2 rfl ?_
          refine wp_iaddN (q := 359) dX12_qGoesOn_358 rfl ?_
          refine wp_iast (q := 360) _ dX12_qGoesOn_359 zsh_246 rfl (by omega) (by decide) rfl ?_
          refine wp_iconst (q := 361) dX12_qGoesOn_360 zq_iconst_1 rfl ?_
          have hQ7 := zSQq_set (y := wk + 2) hQ6 (by omega)
          have hq7 : zQfq g 88 N6 (zu N6 246 (zWf fr ++ W0).length (nI (wk + 2))) := zQfq_k zQfq_r
          have hq8 := zQfq_t hq6 hq7
          have eW2 : zWf ((k, 0, 1600, 0, 1600, wk + 2) :: fr) = (wk + 2) :: zWf fr := by
            show zWl (k, 0, 1600, 0, 1600, wk + 2) ++ _ = _
            rw [zWl_w (by omega)]
            rfl
          refine wp_zreturn dX12_qGoesOn_361 rfl (by first | with_reducible exact znar_0 | with_reducible exact znar_1 | assumption) ⟨rfl, ⟨true, rfl, rfl, rfl, zSfq_t (zSfq_p hf hp5) hq8.1, fun _ => ⟨(p.1 + 1, p.2.1, p.2.2.1, p.2.2.2), zap a (zap m F), (k, 0, 1600, 0, 1600, wk + 2), fr, o, ⟨zAt_qq y4 hq8 (by decide), by rw [hq8.2 6 (by decide) (by decide) (by decide), y5, h6]; exact a2, a3, by rw [hq8.2 91 (by decide) (by decide) (by decide), y1.2 91 (by decide) (by decide) (by decide) (by decide) (by decide)]; exact h47, by rw [eW2]; exact hQ7, ?_⟩, ?_, ho, hr, by show P + 1 ≤ p.1 + 1; omega⟩, fun e => by cases e⟩⟩ rfl rfl
          · rw [eW2]
            show g + (zap a (zap m F)).length + ((zWf fr ++ W0).length + 1) + 1 ≤ p.1 + 1
            rw [if_neg (show ¬ wk = 0 by omega)] at n1'
            omega
          · obtain ⟨q3, q4, q5, q6⟩ := zKv_m (Nat.le_succ p.1) _ _ hk
            refine ⟨⟨Or.inl rfl, Or.inl rfl, Or.inr ⟨Nat.le_add_right _ _, Nat.le_add_right _ _⟩⟩, q4, q5, Or.inr ⟨Or.inl (by show 20 ≤ wk + 2 ∧ wk + 2 ≤ 24; omega), ?_⟩⟩
            rcases q6 with q6 | q6
            · exact absurd q6.2 (by show ¬ wk = 0; omega)
            · exact q6.2
        · rw [show zpNS T c p 44 = zpfh T c p from if_neg (fun e => e44 (zpS_i.mp e))] at hr
          have hb := y3 e44
          have hX : zPXq N5 b len T c r := ⟨zPX_a hr (zpf_22 a3) (by decide) (by decide) hrc hb, zCb_Q (zSQq_p a5 hp5)⟩
          refine wp_aload_n (q := 333) dX12_qGoesOn_332 0 rfl rfl ?_
          refine wp_getI (q := 336) dX12_qGoesOn_333 zf_RX12_236 rfl zsh_177 rfl ?_
          rw [hb.1]
          refine wp_if_eqN (tgt := 341) (q := 339) dX12_qGoesOn_336 (by decide) rfl (by omega) (fun hn => absurd hn (by first | omega | exact fun h => h | exact fun h => h trivial)) (fun _ => ?_)
          refine wp_iconst (q := 340) dX12_qGoesOn_339 zq_iconst_0 rfl ?_
          exact wp_zreturn dX12_qGoesOn_340 rfl (by first | with_reducible exact znar_0 | with_reducible exact znar_1 | assumption) ⟨rfl, ⟨false, rfl, rfl, rfl, zSfq_p hf hp5, fun e => (by cases e), fun _ => Or.inl hX⟩⟩ rfl rfl
      have C362 : wk = 20 ∨ wk = 23 ∨ wk = 24 → WP w YX12_qGoesOn (d + 3, SS, 0, 0) G (some (zXp (fun v0 M' L' R' => ∃ o, v0 = some (.int (nI (zb01 o))) ∧ L = L' ∧ R' = zRf t ∧ zSfq g M M' ∧ (o = true → zPAq M' b len T c g W0 r (P + 1)) ∧ (o = false → zPXq M' b len T c r ∨ zPCq M' b len T c g W0 r)))) 362 [(0, .ref 177)] [] SS N4 L (zRf t) := by
        intro hw2
        have n41 : ¬ (T p.1 0 = 3 ∧ T p.1 2 = 41) := fun e => h41 ⟨e, hw2⟩
        have hz : (zkm T c true k wk (p, zap a (zap m F))).1.2.2 = (1, nI (T p.1 1)) := by
          have e : zpNS T c p 41 = zpfh T c p := if_neg (fun e => n41 (zpS_i.mp e))
          have e2 : (zpfh T c p).2.2 = (1, nI (T p.1 1)) := zpf_22 a3
          rcases hw2 with rfl | rfl | rfl
          · show (zpNS T c p 41).2.2 = _
            rw [e, e2]
          · show (zpNS T c p 41).2.2 = _
            rw [e, e2]
          · show (zpNS T c p 41).2.2 = _
            rw [e, e2]
        refine wp_aload_n (q := 363) dX12_qGoesOn_362 0 rfl rfl ?_
        refine wp_cvx (q := 366) (sp_mqBracket (d := d + 1) hS4.2.2.1 hS4.2.2.2.2.1 hS4.2.2.2.1 (by omega)) zm_X12_qBracket zl_RX12_633 dX12_qGoesOn_363 rfl (by omega) (Nat.le_of_ble_eq_true rfl) zsh_177 rfl rfl ?_
        rw [hv, if_neg (by omega)]
        refine wp_iconst (q := 367) dX12_qGoesOn_366 zq_iconst_m1 rfl ?_
        refine wp_icmp_eq (tgt := 386) (q := 370) dX12_qGoesOn_367 (by decide) rfl (fun hn => absurd hn (by exact znn (by omega))) (fun _ => ?_)
        refine wp_aload_n (q := 371) dX12_qGoesOn_370 0 rfl rfl ?_
        refine wp_getI (q := 374) dX12_qGoesOn_371 zf_RX12_236 rfl zsh_177 rfl ?_
        rw [hA.2.1]
        refine wp_if_neN (tgt := 386) (q := 377) dX12_qGoesOn_374 (by decide) rfl (by omega) (fun hn => absurd hn (by first | omega | exact fun h => h | exact fun h => h trivial)) (fun _ => ?_)
        refine wp_aload_n (q := 378) dX12_qGoesOn_377 0 rfl rfl ?_
        refine wp_iconst (q := 379) dX12_qGoesOn_378 zq_iconst_1 rfl ?_
        refine wp_aload_n (q := 380) dX12_qGoesOn_379 0 rfl rfl ?_
        refine wp_getI (q := 383) dX12_qGoesOn_380 zf_RX12_242 rfl zsh_177 rfl ?_
        rw [h2]
        refine wp_cvx (q := 386) (sp_mfail (d := d + 2) hA.2.1) zm_X12_fail zl_RX12_266 dX12_qGoesOn_383 rfl (by omega) (Nat.le_of_ble_eq_true rfl) zsh_177 rfl rfl ?_
        refine wp_iconst (q := 387) dX12_qGoesOn_386 zq_iconst_0 rfl ?_
        exact wp_zreturn dX12_qGoesOn_387 rfl (by first | with_reducible exact znar_0 | with_reducible exact znar_1 | assumption) ⟨rfl, ⟨false, rfl, rfl, rfl, zSfq_7 (zSfq_7 (zSfq_p hf hp) (by omega)) (by omega), fun e => (by cases e), fun _ => Or.inl ⟨zPX_i hr hz (by decide) (by decide) hrc zBd_5, zCb_Q (zSQq_7 (zSQq_7 hS4 (by decide) (by decide) (by decide)) (by decide) (by decide) (by decide))⟩⟩⟩ rfl rfl
      have hc6 : wk = 0 ∨ wk = 20 ∨ wk = 21 ∨ wk = 22 ∨ wk = 23 ∨ wk = 24 := by omega
      refine wp_aload_n (q := 309) dX12_qGoesOn_308 0 rfl rfl ?_
      refine wp_cvx (q := 312) (sp_mqBracket (d := d + 1) hS4.2.2.1 hS4.2.2.2.2.1 hS4.2.2.2.1 (by omega)) zm_X12_qBracket zl_RX12_633 dX12_qGoesOn_309 rfl (by omega) (Nat.le_of_ble_eq_true rfl) zsh_177 rfl rfl ?_
      by_cases hw21 : wk = 21
      · rw [hv, if_neg (by omega), hw21]
        refine wp_bipush (q := 314) dX12_qGoesOn_312 zq_bipush_21 rfl ?_
        refine wp_icmp_eq (tgt := 326) (q := 317) dX12_qGoesOn_314 (by decide) rfl (fun _ => ?_) (fun hn => absurd hn (by exact fun e => e rfl))
        refine WP.sub (loc' := [(0, _)]) [0] rfl ?_
        exact C326 (Or.inl hw21)
      · skip
        refine wp_bipush (q := 314) dX12_qGoesOn_312 zq_bipush_21 rfl ?_
        refine wp_icmp_eq (tgt := 326) (q := 317) dX12_qGoesOn_314 (by decide) rfl (fun hn => absurd hn (by exact hvn 21 (by decide) hw21)) (fun _ => ?_)
        refine wp_aload_n (q := 318) dX12_qGoesOn_317 0 rfl rfl ?_
        refine wp_cvx (q := 321) (sp_mqBracket (d := d + 1) hS4.2.2.1 hS4.2.2.2.2.1 hS4.2.2.2.1 (by omega)) zm_X12_qBracket zl_RX12_633 dX12_qGoesOn_318 rfl (by omega) (Nat.le_of_ble_eq_true rfl) zsh_177 rfl rfl ?_
        by_cases hw22 : wk = 22
        · rw [hv, if_neg (by omega), hw22]
          refine wp_bipush (q := 323) dX12_qGoesOn_321 zq_bipush_22 rfl ?_
          refine wp_icmp_ne (tgt := 362) (q := 326) dX12_qGoesOn_323 (by decide) rfl (fun hn => absurd hn (by exact fun e => e rfl)) (fun _ => ?_)
          refine WP.sub (loc' := [(0, _)]) [0] rfl ?_
          exact C326 (Or.inr hw22)
        · skip
          refine wp_bipush (q := 323) dX12_qGoesOn_321 zq_bipush_22 rfl ?_
          refine wp_icmp_ne (tgt := 362) (q := 326) dX12_qGoesOn_323 (by decide) rfl (fun _ => ?_) (fun hn => absurd hn (by exact hvn 22 (by decide) hw22))
          by_cases hw2 : wk = 20 ∨ wk = 23 ∨ wk = 24
          · skip
            refine WP.sub (loc' := [(0, _)]) [0] rfl ?_
            exact C362 hw2
          · have ew : wk = 0 := by omega
            have efr : fr = [] := hfr ew
            subst ew
            subst efr
            refine wp_aload_n (q := 363) dX12_qGoesOn_362 0 rfl rfl ?_
            refine wp_cvx (q := 366) (sp_mqBracket (d := d + 1) hS4.2.2.1 hS4.2.2.2.2.1 hS4.2.2.2.1 (by omega)) zm_X12_qBracket zl_RX12_633 dX12_qGoesOn_363 rfl (by omega) (Nat.le_of_ble_eq_true rfl) zsh_177 rfl rfl ?_
            rw [hv, if_pos rfl]
            refine wp_iconst (q := 367) dX12_qGoesOn_366 zq_iconst_m1 rfl ?_
            refine wp_icmp_eq (tgt := 386) (q := 370) dX12_qGoesOn_367 (by decide) rfl (fun _ => ?_) (fun hn => absurd hn (by exact fun e => e rfl))
            refine wp_iconst (q := 387) dX12_qGoesOn_386 zq_iconst_0 rfl ?_
            exact wp_zreturn dX12_qGoesOn_387 rfl (by first | with_reducible exact znar_0 | with_reducible exact znar_1 | assumption) ⟨rfl, ⟨false, rfl, rfl, rfl, zSfq_p hf hp, fun e => (by cases e), fun _ => Or.inr ⟨p, F, (k, m, n, a, l, 0), ⟨hA, by rw [h6]; exact a2, a3, h47, zSQq_p a5' hp, by rw [eW] at a6; exact a6⟩, k1, rfl, hr.symm⟩⟩⟩ rfl rfl
    refine wp_aload_n (q := 123) dX12_qGoesOn_122 0 rfl rfl ?_
    refine wp_bipush (q := 125) dX12_qGoesOn_123 zq_bipush_42 rfl ?_
    obtain ⟨o1, ho1⟩ : ∃ o, decide (T p.1 0 = 3 ∧ T p.1 2 = 42) = o := ⟨_, rfl⟩
    refine wp_cvy (q := 128) (sp_mtakesSign (d := d + 1) (s := 42) a1 hT (by decide) (by decide) ho1) zm_X12_takesSign zl_RX12_270 dX12_qGoesOn_125 rfl (by omega) (Nat.le_of_ble_eq_true rfl) zsh_177 rfl rfl ?_
    rintro _ N1 _ _ ⟨rfl, rfl, rfl, p1, s1, t1, u1⟩
    cases o1 with
    | true =>
      refine wp_if_ne (tgt := 140) (q := 131) dX12_qGoesOn_128 (by decide) rfl (fun _ => ?_) (fun hn => absurd hn (by decide))
      refine WP.sub (loc' := [(0, _)]) [0] rfl ?_
      exact C140 N1 42 (Or.inl rfl) p1 s1 (t1 rfl).1 (t1 rfl).2 (of_decide_eq_true ho1)
    | false =>
    have x42 := of_decide_eq_false ho1
    refine wp_if_ne (tgt := 140) (q := 131) dX12_qGoesOn_128 (by decide) rfl (fun hn => absurd hn (by decide)) (fun _ => ?_)
    refine wp_aload_n (q := 132) dX12_qGoesOn_131 0 rfl rfl ?_
    refine wp_bipush (q := 134) dX12_qGoesOn_132 zq_bipush_47 rfl ?_
    obtain ⟨o2, ho2⟩ : ∃ o, decide (T p.1 0 = 3 ∧ T p.1 2 = 47) = o := ⟨_, rfl⟩
    refine wp_cvy (q := 137) (sp_mtakesSign (d := d + 1) (s := 47) (u1 rfl).1 hT (by decide) (by decide) ho2) zm_X12_takesSign zl_RX12_270 dX12_qGoesOn_134 rfl (by omega) (Nat.le_of_ble_eq_true rfl) zsh_177 rfl rfl ?_
    rintro _ N2 _ _ ⟨rfl, rfl, rfl, p2', s2', t2, u2⟩
    have p2 := zPf_t p1 p2'
    have s2 := s2'.trans s1
    cases o2 with
    | true =>
      refine wp_if_eq (tgt := 207) (q := 140) dX12_qGoesOn_137 (by decide) rfl (fun hn => absurd hn (by decide)) (fun _ => ?_)
      refine WP.sub (loc' := [(0, _)]) [0] rfl ?_
      exact C140 N2 47 (Or.inr rfl) p2 s2 (t2 rfl).1 (t2 rfl).2 (of_decide_eq_true ho2)
    | false =>
    have x47 := of_decide_eq_false ho2
    refine wp_if_eq (tgt := 207) (q := 140) dX12_qGoesOn_137 (by decide) rfl (fun _ => ?_) (fun hn => absurd hn (by decide))
    refine wp_aload_n (q := 208) dX12_qGoesOn_207 0 rfl rfl ?_
    refine wp_bipush (q := 210) dX12_qGoesOn_208 zq_bipush_43 rfl ?_
    obtain ⟨o3, ho3⟩ : ∃ o, decide (T p.1 0 = 3 ∧ T p.1 2 = 43) = o := ⟨_, rfl⟩
    refine wp_cvy (q := 213) (sp_mtakesSign (d := d + 1) (s := 43) (u2 rfl).1 hT (by decide) (by decide) ho3) zm_X12_takesSign zl_RX12_270 dX12_qGoesOn_210 rfl (by omega) (Nat.le_of_ble_eq_true rfl) zsh_177 rfl rfl ?_
    rintro _ N3 _ _ ⟨rfl, rfl, rfl, p3', s3', t3, u3⟩
    have p3 := zPf_t p2 p3'
    have s3 := s3'.trans s2
    cases o3 with
    | true =>
      refine wp_if_ne (tgt := 225) (q := 216) dX12_qGoesOn_213 (by decide) rfl (fun _ => ?_) (fun hn => absurd hn (by decide))
      refine WP.sub (loc' := [(0, _)]) [0] rfl ?_
      exact C225 N3 43 (Or.inl rfl) p3 s3 (t3 rfl).1 (t3 rfl).2 (of_decide_eq_true ho3)
    | false =>
    have x43 := of_decide_eq_false ho3
    refine wp_if_ne (tgt := 225) (q := 216) dX12_qGoesOn_213 (by decide) rfl (fun hn => absurd hn (by decide)) (fun _ => ?_)
    refine wp_aload_n (q := 217) dX12_qGoesOn_216 0 rfl rfl ?_
    refine wp_bipush (q := 219) dX12_qGoesOn_217 zq_bipush_45 rfl ?_
    obtain ⟨o4, ho4⟩ : ∃ o, decide (T p.1 0 = 3 ∧ T p.1 2 = 45) = o := ⟨_, rfl⟩
    refine wp_cvy (q := 222) (sp_mtakesSign (d := d + 1) (s := 45) (u3 rfl).1 hT (by decide) (by decide) ho4) zm_X12_takesSign zl_RX12_270 dX12_qGoesOn_219 rfl (by omega) (Nat.le_of_ble_eq_true rfl) zsh_177 rfl rfl ?_
    rintro _ N4 _ _ ⟨rfl, rfl, rfl, p4', s4', t4, u4⟩
    have p4 := zPf_t p3 p4'
    have s4 := s4'.trans s3
    cases o4 with
    | true =>
      refine wp_if_eq (tgt := 308) (q := 225) dX12_qGoesOn_222 (by decide) rfl (fun hn => absurd hn (by decide)) (fun _ => ?_)
      refine WP.sub (loc' := [(0, _)]) [0] rfl ?_
      exact C225 N4 45 (Or.inr rfl) p4 s4 (t4 rfl).1 (t4 rfl).2 (of_decide_eq_true ho4)
    | false =>
    have x45 := of_decide_eq_false ho4
    refine wp_if_eq (tgt := 308) (q := 225) dX12_qGoesOn_222 (by decide) rfl (fun _ => ?_) (fun hn => absurd hn (by decide))
    refine WP.sub (loc' := [(0, _)]) [0] rfl ?_
    exact C308 N4 p4 s4 (u4 rfl).1 (u4 rfl).2 x42 x47 x43 x45
  have C0 : ∀ (q : Nat) (M2 : zMI) (p : zP) (F : zFl) (f : zLv) (fr : List zLv) (o : Nat), c ≤ q + p.1 → zSSq M2 b len T c p F (zWf (f :: fr) ++ W0) g W0.length → zKv true p.1 o (f :: fr) → p.2.1 = nI o → zks T c true (f :: fr) (p, F) = r → P < p.1 → f.2.2.2.2.2 ≠ 60 → zSfq g M M2 → WP w YX12_qGoesOn (d + 3, SS, 0, 0) G (some (zXp (fun v0 M' L' R' => ∃ o, v0 = some (.int (nI (zb01 o))) ∧ L = L' ∧ R' = zRf t ∧ zSfq g M M' ∧ (o = true → zPAq M' b len T c g W0 r (P + 1)) ∧ (o = false → zPXq M' b len T c r ∨ zPCq M' b len T c g W0 r)))) 0 [(0, .ref 177)] [] SS M2 L (zRf t) := by
    intro q
    induction q with
    | zero => intro M2 p F f fr o hq hS; exact absurd hS.1.2.2.1 (by omega)
    | succ q ih =>
      intro M2 p F f fr o hq hS hk ho hr hP h60 hf
      obtain ⟨a1, a2, a3, a4, a5, a6⟩ := hS
      have hc := zTok_c hT a1
      have hpc := a1.2.2.1
      have hlen := zTok_len hT hpc
      have hl16 := a1.1.2.1
      have hsg := zSg (s := 41) hT (fun i hi => (a1.1.2.2 i hi).2) hpc (by decide) (by decide)
      obtain ⟨k1, k2⟩ := zKv_q hk h60
      have hw0 : f.2.2.2.2.2 = 0 ∨ (20 ≤ f.2.2.2.2.2 ∧ f.2.2.2.2.2 ≤ 24) := by
        rcases k2 with e | e
        · exact Or.inl e.1
        · exact Or.inr e.1
      have hw60 : f.2.2.2.2.2 ≠ 60 := by omega
      have n1 := zWl_n hw60
      refine wp_aload_n (q := 1) dX12_qGoesOn_0 0 rfl rfl ?_
      refine wp_getI (q := 4) dX12_qGoesOn_1 zf_RX12_236 rfl zsh_177 rfl ?_
      rw [a1.2.1]
      refine wp_if_neN (tgt := 122) (q := 7) dX12_qGoesOn_4 (by decide) rfl (by omega) (fun hn => absurd hn (by first | omega | exact fun h => h | exact fun h => h trivial)) (fun _ => ?_)
      refine wp_aload_n (q := 8) dX12_qGoesOn_7 0 rfl rfl ?_
      refine wp_cvy (q := 11) (sp_mLook (d := d + 1) a1 hT) zm_X12_look zl_RX12_248 dX12_qGoesOn_8 rfl (by omega) (Nat.le_of_ble_eq_true rfl) zsh_177 rfl rfl ?_
      rintro _ N1 _ _ ⟨rfl, rfl, rfl, c1, c2, c3, c4⟩
      have hp1 : zPf M2 N1 := ⟨c4, fun k k1 _ _ _ _ => c3 k k1⟩
      have hS1 : zSSq N1 b len T c p F (zWf (f :: fr) ++ W0) g W0.length := ⟨c1, by rw [c3 6 (by decide)]; exact a2, a3, by rw [c3 91 (by decide)]; exact a4, zSQq_p a5 hp1, a6⟩
      have hf1 := zSfq_p hf hp1
      have hQ1 := zSQq_p a5 hp1
      have hln1 := hQ1.2.2.2.2.2
      refine wp_bipush (q := 13) dX12_qGoesOn_11 zq_bipush_41 rfl ?_
      refine wp_icmp_ne (tgt := 122) (q := 16) dX12_qGoesOn_13 (by decide) rfl (fun z41 => ?_) (fun z41 => ?_)
      · skip
        refine WP.sub (loc' := [(0, _)]) [0] rfl ?_
        exact C122 N1 p F f fr o hS1 hk ho hr hP h60 hf1 (fun e => z41 (hsg.mpr e.1))
      · skip
        have h41 := hsg.mp z41
        obtain ⟨z1, z2⟩ := zTok_3 hT hpc h41.1
        have hv : zLm (zWf (f :: fr)) = if f.2.2.2.2.2 = 0 then zLm (zWf fr) else nI f.2.2.2.2.2 := zLm_f k1 hw0
        have hvn : ∀ x, x < 100 → f.2.2.2.2.2 ≠ x → ¬ zLm (zWf (f :: fr)) = nI x := fun x y1 y2 => zmv hv (fun e => by
          rcases k2 with k2 | k2
          · rw [k2.2]; rfl
          · omega) (by omega) y1 y2
        have hvy : ∀ x, 20 ≤ x → f.2.2.2.2.2 = x → zLm (zWf (f :: fr)) = nI x := fun x y1 y2 => by rw [hv, if_neg (by omega), y2]
        have C115 : ∀ (N4 : zMI) (F2 : zFl), zPEq N4 b len T c g W0 r p.1 → zSfq g M N4 → WP w YX12_qGoesOn (d + 3, SS, 0, 0) G (some (zXp (fun v0 M' L' R' => ∃ o, v0 = some (.int (nI (zb01 o))) ∧ L = L' ∧ R' = zRf t ∧ zSfq g M M' ∧ (o = true → zPAq M' b len T c g W0 r (P + 1)) ∧ (o = false → zPXq M' b len T c r ∨ zPCq M' b len T c g W0 r)))) 115 [(0, .ref 177)] [] SS N4 L (zRf t) := by
          intro N4 F2 hE hf4
          refine wp_aload_n (q := 116) dX12_qGoesOn_115 0 rfl rfl ?_
          refine wp_cvy (q := 119) (sp_mqEndsPart (d := d) hT hE) zm_X12_qEndsPart zl_RX12_630 dX12_qGoesOn_116 rfl (by omega) (Nat.le_of_ble_eq_true rfl) zsh_177 rfl rfl ?_
          rintro _ N5 _ _ ⟨rfl, rfl, rfl, hf5, p5, F5, f5, fr5, o5, x1, x2, x3, x4, x5, x6⟩
          refine wp_goto (tgt := 0) dX12_qGoesOn_119 (by decide) ?_
          refine WP.sub (loc' := [(0, _)]) [0] rfl ?_
          exact ih N5 p5 F5 f5 fr5 o5 (by omega) x1 x2 x3 x4 (by omega) x6 (zSfq_t hf4 hf5)
        have C43 : (f.2.2.2.2.2 = 20 ∨ f.2.2.2.2.2 = 23 ∨ f.2.2.2.2.2 = 24) → WP w YX12_qGoesOn (d + 3, SS, 0, 0) G (some (zXp (fun v0 M' L' R' => ∃ o, v0 = some (.int (nI (zb01 o))) ∧ L = L' ∧ R' = zRf t ∧ zSfq g M M' ∧ (o = true → zPAq M' b len T c g W0 r (P + 1)) ∧ (o = false → zPXq M' b len T c r ∨ zPCq M' b len T c g W0 r)))) 43 [(0, .ref 177)] [] SS N1 L (zRf t) := by
          intro hw
          rcases k2 with k2 | ⟨k2, k3, k4⟩
          · omega
          rw [show zks T c true (f :: fr) (p, F) = zks T c true fr (zkm T c true f.1 f.2.2.2.2.2 (p, zap f.2.2.2.1 (zap f.2.1 F))) from zks_end hw60 (zpS_f.mpr (by omega)) (zpS_f.mpr (by omega)) (zpS_f.mpr (by omega)) (zpS_f.mpr (by omega))] at hr
          have hns : zpNS T c p 41 = (p.1 + 1, p.2.1, p.2.2.1, p.2.2.2) := by rw [← zpn_o z1]; exact if_pos (zpS_i.mpr h41)
          have hop : nI o - nI 1 = nI (o - 1) := pk_sub k3
          obtain ⟨F2, hF2⟩ : ∃ F2, zap f.2.2.2.1 (zap f.2.1 F) = F2 := ⟨_, rfl⟩
          have hln : (zap f.2.1 F).length = F.length + if f.2.1 = 0 then 0 else 1 := zap_n
          have hln2 : (zap f.2.2.2.1 (zap f.2.1 F)).length = (zap f.2.1 F).length + if f.2.2.2.1 = 0 then 0 else 1 := zap_n
          have hdm := zdm_f (V := zWf fr) (F := F) k1 k2
          rw [hF2] at hr hdm hln2
          have lnW : (zWf (f :: fr) ++ W0).length = (zWl f).length + (zWf fr ++ W0).length := by
            rw [show zWf (f :: fr) ++ W0 = zWl f ++ (zWf fr ++ W0) from List.append_assoc _ _ _, List.length_append]
          obtain ⟨f2, fr2, hfr⟩ : ∃ f2 fr2, fr = f2 :: fr2 := by
            cases fr with
            | nil => exact k4.elim
            | cons f2 fr2 => exact ⟨f2, fr2, rfl⟩
          refine wp_aload_n (q := 44) dX12_qGoesOn_43 0 rfl rfl ?_
          refine wp_dup (q := 45) dX12_qGoesOn_44 rfl rfl ?_
          refine wp_getI (q := 48) dX12_qGoesOn_45 zf_RX12_242 rfl zsh_177 rfl ?_
          rw [c2]
          refine wp_iconst (q := 49) dX12_qGoesOn_48 zq_iconst_1 rfl ?_
          refine wp_iaddN (q := 50) dX12_qGoesOn_49 rfl ?_
          refine wp_putI (q := 53) dX12_qGoesOn_50 zf_RX12_242 rfl zsh_177 rfl ?_
          refine wp_aload_n (q := 54) dX12_qGoesOn_53 0 rfl rfl ?_
          have hg2 := zAt_g c1 hT h41.1
          obtain ⟨N2, hN2⟩ : ∃ N2, zu N1 177 2 (nI (T p.1 1 + 1)) = N2 := ⟨_, rfl⟩
          have hQ2 : zSQq N2 g F (zWf (f :: fr) ++ W0) W0.length := by rw [← hN2]; exact zSQq_7 hQ1 (by decide) (by decide) (by decide)
          have hf2 : zSfq g M N2 := by rw [← hN2]; exact zSfq_7 hf1 (by omega)
          have h26 : N2 177 6 = p.2.2.2 := by rw [← hN2, zu_k (by decide)]; exact hS1.2.1
          have h247 : N2 177 91 = nI o := by rw [← hN2, zu_k (by decide), hS1.2.2.2.1, ho]
          rw [hN2] at hg2
          rw [hN2]
          refine wp_cvy (q := 57) (sp_mqDropsToBracket (d := d) hQ2 (zdkk_f k1 k2) hdm) zm_X12_qDropsToBracket zl_RX12_636 dX12_qGoesOn_54 rfl (by omega) (Nat.le_of_ble_eq_true rfl) zsh_177 rfl rfl ?_
          rintro _ N3 _ _ ⟨rfl, rfl, rfl, hQ3, hq3⟩
          have e46 : N3 177 90 = nI ((zWf fr ++ W0).length + 1) := hQ3.2.2.1
          have etop : N3 246 (zWf fr ++ W0).length = nI f.2.2.2.2.2 := hQ3.2.2.2.1.1.1
          have hln6 : g + F2.length + ((zWf fr ++ W0).length + 1) ≤ 1600 := hQ3.2.2.2.2.2
          have e47 : N3 177 91 = nI o := by rw [hq3.2 91 (by decide) (by decide) (by decide)]; exact h247
          refine wp_aload_n (q := 58) dX12_qGoesOn_57 0 rfl rfl ?_
          refine wp_dup (q := 59) dX12_qGoesOn_58 rfl rfl ?_
          refine wp_getI (q := 62) dX12_qGoesOn_59 zf_RX12_603 rfl zsh_177 rfl ?_
          rw [e46]
          refine wp_iconst (q := 63) dX12_qGoesOn_62 zq_iconst_1 rfl ?_
          refine wp_isubN (q := 64) dX12_qGoesOn_63 (by omega) rfl ?_
          rw [Nat.add_sub_cancel]
          refine wp_putI (q := 67) dX12_qGoesOn_64 zf_RX12_603 rfl zsh_177 rfl ?_
          refine wp_aload_n (q := 68) dX12_qGoesOn_67 0 rfl rfl ?_
          refine wp_dup (q := 69) dX12_qGoesOn_68 rfl rfl ?_
          refine wp_getI (q := 72) dX12_qGoesOn_69 zf_RX12_600 rfl zsh_177 rfl ?_
          rw [zu_k (by decide), e47]
          refine wp_iconst (q := 73) dX12_qGoesOn_72 zq_iconst_1 rfl ?_
          refine wp_isubN (q := 74) dX12_qGoesOn_73 (by omega) rfl ?_
          refine wp_putI (q := 77) dX12_qGoesOn_74 zf_RX12_600 rfl zsh_177 rfl ?_
          refine wp_aload_n (q := 78) dX12_qGoesOn_77 0 rfl rfl ?_
          refine wp_getR (q := 81) dX12_qGoesOn_78 zf_RX12_224 rfl zsh_177 (zr_177_89 _) rfl ?_
          refine wp_aload_n (q := 82) dX12_qGoesOn_81 0 rfl rfl ?_
          refine wp_getI (q := 85) dX12_qGoesOn_82 zf_RX12_603 rfl zsh_177 rfl ?_
          rw [zu_k (by decide), zu_s]
          refine wp_iald (q := 86) _ dX12_qGoesOn_85 zsh_246 rfl (by omega) (by decide) rfl ?_
          rw [zu_ne (by decide), zu_ne (by decide), etop]
          have hQ4 : zSQq (zu (zu N3 177 90 (nI (zWf fr ++ W0).length)) 177 91 (nI (o - 1))) g F2 (zWf fr ++ W0) W0.length := zSQq_7 (zSQq_drop hQ3) (by decide) (by decide) (by decide)
          have hq4 : zQfq g 91 N3 (zu (zu N3 177 90 (nI (zWf fr ++ W0).length)) 177 91 (nI (o - 1))) := zQfq_7 (zQfq_7 zQfq_r (Or.inr rfl) (by omega)) (Or.inr rfl) (by omega)
          have h46' : (zu (zu N3 177 90 (nI (zWf fr ++ W0).length)) 177 91 (nI (o - 1))) 177 90 = nI (zWf fr ++ W0).length := by rw [zu_k (by decide), zu_s]
          have h47' : (zu (zu N3 177 90 (nI (zWf fr ++ W0).length)) 177 91 (nI (o - 1))) 177 91 = nI (o - 1) := zu_s
          have h412 : (zu (zu N3 177 90 (nI (zWf fr ++ W0).length)) 177 91 (nI (o - 1))) 246 (zWf fr ++ W0).length = nI f.2.2.2.2.2 := by rw [zu_ne (by decide), zu_ne (by decide)]; exact etop
          obtain ⟨N4, hN4⟩ : ∃ N4, zu (zu N3 177 90 (nI (zWf fr ++ W0).length)) 177 91 (nI (o - 1)) = N4 := ⟨_, rfl⟩
          rw [hN4] at hQ4 hq4 h46' h47' h412
          rw [hN4]
          have hA4 := zAt_qq (zAt_qq hg2 hq3 (by decide)) hq4 (by decide)
          have h46a : N4 177 6 = p.2.2.2 := by rw [hq4.2 6 (by decide) (by decide) (by decide), hq3.2 6 (by decide) (by decide) (by decide)]; exact h26
          have hf4 : zSfq g M N4 := zSfq_t (zSfq_t hf2 hq3.1) hq4.1
          have hk4 := zKv_m (Nat.le_succ p.1) _ _ k4
          rw [hfr] at hr hQ4 hk4
          have eL : (zWf fr ++ W0).length = (zWf (f2 :: fr2) ++ W0).length := by rw [hfr]
          rw [if_neg (show ¬ f.2.2.2.2.2 = 0 by omega)] at n1
          have hcnt : g + F2.length + (zWf (f2 :: fr2) ++ W0).length + 1 ≤ p.1 := by omega
          refine wp_bipush (q := 88) dX12_qGoesOn_86 zq_bipush_20 rfl ?_
          by_cases w20 : f.2.2.2.2.2 = 20
          · rw [w20]
            refine wp_icmp_eq (tgt := 115) (q := 91) dX12_qGoesOn_88 (by decide) rfl (fun _ => ?_) (fun hn => absurd hn (by exact fun e => e rfl))
            refine WP.sub (loc' := [(0, _)]) [0] rfl ?_
            rw [w20] at hr
            have e : zkm T c true f.1 20 (p, F2) = ((p.1 + 1, nI (o - 1), p.2.2.1, p.2.2.2), F2) := by
              show (zpl (zpNS T c p 41), F2) = _
              rw [hns]
              show ((p.1 + 1, p.2.1 - nI 1, p.2.2.1, p.2.2.2), F2) = _
              rw [ho, hop]
            rw [e] at hr
            exact C115 N4 F2 ⟨(p.1 + 1, nI (o - 1), p.2.2.1, p.2.2.2), F2, f2, fr2, o - 1, ⟨hA4, h46a, a3, h47', hQ4, by show _ ≤ p.1 + 1; omega⟩, hk4, rfl, hr, by show p.1 < p.1 + 1; omega⟩ hf4
          · skip
            refine wp_icmp_eq (tgt := 115) (q := 91) dX12_qGoesOn_88 (by decide) rfl (fun hn => absurd hn (by exact znqq (by omega) (by decide) w20)) (fun _ => ?_)
            refine wp_aload_n (q := 92) dX12_qGoesOn_91 0 rfl rfl ?_
            refine wp_aload_n (q := 93) dX12_qGoesOn_92 0 rfl rfl ?_
            refine wp_getR (q := 96) dX12_qGoesOn_93 zf_RX12_224 rfl zsh_177 (zr_177_89 _) rfl ?_
            refine wp_aload_n (q := 97) dX12_qGoesOn_96 0 rfl rfl ?_
            refine wp_getI (q := 100) dX12_qGoesOn_97 zf_RX12_603 rfl zsh_177 rfl ?_
            rw [h46']
            refine wp_iald (q := 101) _ dX12_qGoesOn_100 zsh_246 rfl (by omega) (by decide) rfl ?_
            rw [h412]
            have fin : ∀ (op x : Nat), zqc op 0 = x → zkm T c true f.1 f.2.2.2.2.2 (p, F2) = ((p.1 + 1, nI (o - 1), p.2.2.1, p.2.2.2), F2 ++ [(op, 0)]) → WP w YX12_qGoesOn (d + 3, SS, 0, 0) G (some (zXp (fun v0 M' L' R' => ∃ o, v0 = some (.int (nI (zb01 o))) ∧ L = L' ∧ R' = zRf t ∧ zSfq g M M' ∧ (o = true → zPAq M' b len T c g W0 r (P + 1)) ∧ (o = false → zPXq M' b len T c r ∨ zPCq M' b len T c g W0 r)))) 112 [(0, .ref 177)] [.int (nI x), .ref 177] SS N4 L (zRf t) := by
              intro op x hx e
              rw [e] at hr
              refine wp_cvx (q := 115) (sp_mqCode (d := d + 2) (n := g + F2.length) (v := x) hQ4.1 (by omega)) zm_X12_qCode zl_RX12_606 dX12_qGoesOn_112 rfl (by omega) (Nat.le_of_ble_eq_true rfl) (by first | assumption | rfl) rfl rfl ?_
              have hq5 : zQfq g 88 N4 (zu (zu N4 245 (g + F2.length) (nI x)) 177 88 (nI (g + F2.length + 1))) := zQfq_7 (zQfq_c zQfq_r (by omega) (by omega)) (Or.inl rfl) (by omega)
              refine WP.sub (loc' := [(0, _)]) [0] rfl ?_
              refine C115 _ F2 ⟨(p.1 + 1, nI (o - 1), p.2.2.1, p.2.2.2), F2 ++ [(op, 0)], f2, fr2, o - 1, ⟨zAt_qq hA4 hq5 (by decide), by rw [hq5.2 6 (by decide) (by decide) (by decide)]; exact h46a, a3, by rw [hq5.2 91 (by decide) (by decide) (by decide)]; exact h47', zSQq_code hQ4 (by omega) hx, ?_⟩, hk4, rfl, hr, by show p.1 < p.1 + 1; omega⟩ (zSfq_t hf4 hq5.1)
              rw [List.length_append]
              show g + (F2.length + 1) + _ + 1 ≤ p.1 + 1
              omega
            refine wp_bipush (q := 103) dX12_qGoesOn_101 zq_bipush_23 rfl ?_
            by_cases w23 : f.2.2.2.2.2 = 23
            · rw [w23]
              refine wp_icmp_ne (tgt := 110) (q := 106) dX12_qGoesOn_103 (by decide) rfl (fun hn => absurd hn (by exact fun e => e rfl)) (fun _ => ?_)
              refine wp_iconst (q := 107) dX12_qGoesOn_106 zq_iconst_5 rfl ?_
              refine wp_goto (tgt := 112) dX12_qGoesOn_107 (by decide) ?_
              refine WP.sub (loc' := [(0, _)]) [0] rfl ?_
              refine fin 8 5 rfl ?_
              rw [w23]
              show (zpl (zpNS T c p 41), F2 ++ [(8, 0)]) = _
              rw [hns]
              show ((p.1 + 1, p.2.1 - nI 1, p.2.2.1, p.2.2.2), F2 ++ [(8, 0)]) = _
              rw [ho, hop]
            · have w24 : f.2.2.2.2.2 = 24 := by omega
              refine wp_icmp_ne (tgt := 110) (q := 106) dX12_qGoesOn_103 (by decide) rfl (fun _ => ?_) (fun hn => absurd hn (by exact znqq (by omega) (by decide) w23))
              refine wp_bipush (q := 112) dX12_qGoesOn_110 zq_bipush_6 rfl ?_
              refine WP.sub (loc' := [(0, _)]) [0] rfl ?_
              refine fin 9 6 rfl ?_
              rw [w24]
              show (zpl (zpNS T c p 41), F2 ++ [(9, 0)]) = _
              rw [hns]
              show ((p.1 + 1, p.2.1 - nI 1, p.2.2.1, p.2.2.2), F2 ++ [(9, 0)]) = _
              rw [ho, hop]
        refine wp_aload_n (q := 17) dX12_qGoesOn_16 0 rfl rfl ?_
        refine wp_cvx (q := 20) (sp_mqBracket (d := d + 1) hQ1.2.2.1 hQ1.2.2.2.2.1 hQ1.2.2.2.1 (by omega)) zm_X12_qBracket zl_RX12_633 dX12_qGoesOn_17 rfl (by omega) (Nat.le_of_ble_eq_true rfl) zsh_177 rfl rfl ?_
        refine wp_bipush (q := 22) dX12_qGoesOn_20 zq_bipush_20 rfl ?_
        by_cases w20 : f.2.2.2.2.2 = 20
        · rw [hvy 20 (by decide) w20]
          refine wp_icmp_eq (tgt := 43) (q := 25) dX12_qGoesOn_22 (by decide) rfl (fun _ => ?_) (fun hn => absurd hn (by exact fun e => e rfl))
          refine WP.sub (loc' := [(0, _)]) [0] rfl ?_
          exact C43 (Or.inl w20)
        · skip
          refine wp_icmp_eq (tgt := 43) (q := 25) dX12_qGoesOn_22 (by decide) rfl (fun hn => absurd hn (by exact hvn 20 (by decide) w20)) (fun _ => ?_)
          refine wp_aload_n (q := 26) dX12_qGoesOn_25 0 rfl rfl ?_
          refine wp_cvx (q := 29) (sp_mqBracket (d := d + 1) hQ1.2.2.1 hQ1.2.2.2.2.1 hQ1.2.2.2.1 (by omega)) zm_X12_qBracket zl_RX12_633 dX12_qGoesOn_26 rfl (by omega) (Nat.le_of_ble_eq_true rfl) zsh_177 rfl rfl ?_
          refine wp_bipush (q := 31) dX12_qGoesOn_29 zq_bipush_23 rfl ?_
          by_cases w23 : f.2.2.2.2.2 = 23
          · rw [hvy 23 (by decide) w23]
            refine wp_icmp_eq (tgt := 43) (q := 34) dX12_qGoesOn_31 (by decide) rfl (fun _ => ?_) (fun hn => absurd hn (by exact fun e => e rfl))
            refine WP.sub (loc' := [(0, _)]) [0] rfl ?_
            exact C43 (Or.inr (Or.inl w23))
          · skip
            refine wp_icmp_eq (tgt := 43) (q := 34) dX12_qGoesOn_31 (by decide) rfl (fun hn => absurd hn (by exact hvn 23 (by decide) w23)) (fun _ => ?_)
            refine wp_aload_n (q := 35) dX12_qGoesOn_34 0 rfl rfl ?_
            refine wp_cvx (q := 38) (sp_mqBracket (d := d + 1) hQ1.2.2.1 hQ1.2.2.2.2.1 hQ1.2.2.2.1 (by omega)) zm_X12_qBracket zl_RX12_633 dX12_qGoesOn_35 rfl (by omega) (Nat.le_of_ble_eq_true rfl) zsh_177 rfl rfl ?_
            refine wp_bipush (q := 40) dX12_qGoesOn_38 zq_bipush_24 rfl ?_
            by_cases w24 : f.2.2.2.2.2 = 24
            · rw [hvy 24 (by decide) w24]
              refine wp_icmp_ne (tgt := 122) (q := 43) dX12_qGoesOn_40 (by decide) rfl (fun hn => absurd hn (by exact fun e => e rfl)) (fun _ => ?_)
              refine WP.sub (loc' := [(0, _)]) [0] rfl ?_
              exact C43 (Or.inr (Or.inr w24))
            · skip
              refine wp_icmp_ne (tgt := 122) (q := 43) dX12_qGoesOn_40 (by decide) rfl (fun _ => ?_) (fun hn => absurd hn (by exact hvn 24 (by decide) w24))
              refine WP.sub (loc' := [(0, _)]) [0] rfl ?_
              exact C122 N1 p F f fr o hS1 hk ho hr hP h60 hf1 (fun e => by have := e.2; omega)
  obtain ⟨p, F, f, fr, o, h1, h2, h3, h4, h5, h6⟩ := h
  refine WP.sub (loc' := [(0, _)]) [0] rfl ?_
  exact C0 c M p F f fr o (by omega) h1 h2 h3 h4 h5 h6 zSfq_r

