def zPC (M : zMI) (b : Nat → Nat) (len : Nat) (T : zDD) (c g : Nat) (W0 : List Nat) (r : zPF) : Prop := ∃ p F f, zSS M b len T c p F (zWl f ++ W0) g W0.length ∧ zLw p.1 f ∧ f.2.2.2.2.2 = 0 ∧ r = (p, zap f.2.2.2.1 (zap f.2.1 F))
theorem zKv_w {P o : Nat} {f : zLv} {fr : List zLv} (h : zKv false P o (f :: fr)) : zLw P f ∧ ((f.2.2.2.2.2 = 0 ∧ fr = []) ∨ ((20 ≤ f.2.2.2.2.2 ∧ f.2.2.2.2.2 ≤ 24) ∧ 1 ≤ o ∧ zKv false P (o - 1) fr)) := by
  obtain ⟨h1, h2, h3, h4⟩ := h
  refine ⟨h1, ?_⟩
  rcases h4 with ⟨e1, e2⟩ | ⟨e1, e2, e3⟩
  · exact Or.inl ⟨e2, e1⟩
  · rcases e1 with e1 | e1
    · exact Or.inr ⟨e1, e2, e3⟩
    · cases e1.1
theorem zSQ_W {M : zMI} {g B : Nat} {F : zFl} {W W' : List Nat} (h : zSQ M g F W B) (e : W = W') : zSQ M g F W' B := e ▸ h
theorem zLm_m {x : Nat} (h : 20 ≤ x ∧ x ≤ 24) {V : List Nat} : zLm (x :: V) = nI x := by
  show (if zPm x = true then _ else _) = _
  rw [show zPm x = false from decide_eq_false (fun e => e h)]
  rfl
theorem zmv {v y : Int32} {w x : Nat} (hv : v = if w = 0 then y else nI w) (hy : w = 0 → y = -1) (hw : w ≤ 24) (hx : x < 100) (h : w ≠ x) : ¬ v = nI x := by
  rw [hv]
  split
  · rename_i e
    rw [hy e]
    exact fun z => znn (z := x) (by omega) z.symm
  · intro e
    have := congrArg Int32.toInt e
    rw [nI_toInt (by omega), nI_toInt (by omega)] at this
    omega
theorem znqq {w x : Nat} (h : w < 100) (hx : x < 100) (e : w ≠ x) : ¬ (nI w : Int32) = nI x := fun z => by
  have := congrArg Int32.toInt z
  rw [nI_toInt (by omega), nI_toInt (by omega)] at this
  omega
theorem zWf_x {P : Nat} : ∀ {fr : List zLv} {o : Nat}, zKv false P o fr → ∀ x, x ∈ zWf fr → zPm x = true → 1 ≤ x ∧ x ≤ 4
  | [], _, h, _, _, _ => h.elim
  | f :: fr, o, h, x, hx, hm => by
    obtain ⟨h1, h2⟩ := zKv_w h
    rcases List.mem_append.mp (show x ∈ zWl f ++ zWf fr from hx) with e | e
    · exact zdm_x h1 e hm (by rcases h2 with h2 | h2; exact Or.inl h2.1; exact Or.inr h2.1)
    · rcases h2 with ⟨-, h2⟩ | ⟨-, -, h2⟩
      · rw [h2] at e; exact absurd e List.not_mem_nil
      · exact zWf_x h2 x e hm
set_option maxHeartbeats 4000000 in
set_option maxRecDepth 100000 in
theorem sp_mgoesOn {d t len c g P : Nat} {M : zMI} {L : zML} {b : Nat → Nat} {T : zDD} {W0 : List Nat} {r : zPF} (hT : zTok b len T c) (h : zPB false M b len T c g W0 r P) (hrc : r.1.1 < c) (h0 : ∀ x, x ∈ W0 → 5 ≤ x) : Sy yX12_goesOn YX12_goesOn (d + 3) [.ref 177] M L (zRf t) (fun v0 M' L' R' => ∃ o, v0 = some (.int (nI (zb01 o))) ∧ L = L' ∧ R' = zRf t ∧ zSf g M M' ∧ (o = true → zPA false M' b len T c g W0 r (P + 1)) ∧ (o = false → zPX M' b len T c r ∨ zPC M' b len T c g W0 r)) := by
  refine Sp.of (by decide +kernel) rfl (fun h => by first | exact h | cases h) (Nat.le_of_ble_eq_true rfl) ?_
  intro w G
  have h03 : ∀ F, zdw zP3 W0 F = (W0, F) := zdw_h (fun x hx => decide_eq_false (by have := h0 x hx; omega))
  have h01 : ∀ F, zdw zP1 W0 F = (W0, F) := zdw_h (fun x hx => decide_eq_false (by have := h0 x hx; omega))
  -- after a * or a /
  have C181 : ∀ (x n : Nat) (N : zMI) (p : zP) (F : zFl) (k a l wk : Nat) (fr : List zLv) (o : Nat), (x = 3 ∨ x = 4) → zAt N b len T c p.1 → N 177 6 = p.2.2.2 → p.2.2.1 = 0 → N 177 47 = p.2.1 → zSQ N g F (zWt a wk ++ (zWf fr ++ W0)) W0.length → g + F.length + (zWt a wk ++ (zWf fr ++ W0)).length + 2 ≤ p.1 → wk ≠ 60 → zKv false p.1 o ((k, x + 3, n, a, l, wk) :: fr) → p.2.1 = nI o → zks T c false ((k, x + 3, n, a, l, wk) :: fr) (zpt T c false k p F) = r → P < p.1 → zSf g M N → WP w YX12_goesOn (d + 3, SS, 0, 0) G (some (zXp (fun v0 M' L' R' => ∃ o, v0 = some (.int (nI (zb01 o))) ∧ L = L' ∧ R' = zRf t ∧ zSf g M M' ∧ (o = true → zPA false M' b len T c g W0 r (P + 1)) ∧ (o = false → zPX M' b len T c r ∨ zPC M' b len T c g W0 r)))) 181 [(1, .int (nI x)), (0, .ref 177)] [] SS N L (zRf t) := by
    intro x n N p F k a l wk fr o hx a1 a2 a3 a4 a5 a6 hw hk ho hr hP hf
    have hc := zTok_c hT a1
    have hpc := a1.2.2.1
    have hln := a5.2.2.2.2.2
    have e : zWf ((k, x + 3, n, a, l, wk) :: fr) ++ W0 = x :: (zWt a wk ++ (zWf fr ++ W0)) := by
      show (zWl (k, x + 3, n, a, l, wk) ++ zWf fr) ++ W0 = _
      rw [zWl_t hw (by omega), Nat.add_sub_cancel, List.append_assoc]
      rfl
    refine wp_aload_n (q := 182) dX12_goesOn_181 1 rfl rfl ?_
    refine wp_getR (q := 185) dX12_goesOn_182 zf_RX12_118 rfl zsh_177 (zr_177_45 _) rfl ?_
    refine wp_aload_n (q := 186) dX12_goesOn_185 1 rfl rfl ?_
    refine wp_getI (q := 189) dX12_goesOn_186 zf_RX12_316 rfl zsh_177 rfl ?_
    rw [a5.2.2.1]
    refine wp_iload_n (q := 190) dX12_goesOn_189 0 rfl rfl ?_
    refine wp_iast (q := 191) _ dX12_goesOn_190 zsh_212 rfl (by omega) (by decide) rfl ?_
    refine wp_aload_n (q := 192) dX12_goesOn_191 1 rfl rfl ?_
    refine wp_dup (q := 193) dX12_goesOn_192 rfl rfl ?_
    refine wp_getI (q := 196) dX12_goesOn_193 zf_RX12_316 rfl zsh_177 rfl ?_
    rw [zu_ne (by decide), a5.2.2.1]
    refine wp_iconst (q := 197) dX12_goesOn_196 zq_iconst_1 rfl ?_
    refine wp_iaddN (q := 198) dX12_goesOn_197 rfl ?_
    refine wp_putI (q := 201) dX12_goesOn_198 zf_RX12_316 rfl zsh_177 rfl ?_
    refine wp_iconst (q := 202) dX12_goesOn_201 zq_iconst_1 rfl ?_
    have hq : zQf g 44 N (zu (zu N 212 (zWt a wk ++ (zWf fr ++ W0)).length (nI x)) 177 46 (nI ((zWt a wk ++ (zWf fr ++ W0)).length + 1))) := zQf_7 (zQf_k zQf_r) (Or.inl rfl) (by omega)
    refine wp_zreturn dX12_goesOn_202 rfl (by first | with_reducible exact znar_0 | with_reducible exact znar_1 | assumption) ⟨rfl, ⟨true, rfl, rfl, rfl, zSf_t hf hq.1, fun _ => ⟨p, F, (k, x + 3, n, a, l, wk), fr, o, ⟨zAt_q a1 hq (by decide), by rw [hq.2 6 (by decide) (by decide) (by decide)]; exact a2, a3, by rw [zu_k (by decide), zu_ne (by decide)]; exact a4, zSQ_W (zSQ_push (x := x) a5 (by omega) (by omega)) e.symm, ?_⟩, hk, ho, hr, hP⟩, fun e => by cases e⟩⟩ rfl rfl
    rw [e, List.length_cons]
    omega
  have C158 : ∀ (V : List Nat) (F2 : zFl) (N N0 : zMI) (x : Nat) (V' : List Nat) (F' : zFl), zSQ N g F2 V W0.length → zQf g 44 N0 N → zdw zP3 V F2 = (V', F') → (∀ N2 : zMI, zSQ N2 g F' V' W0.length → zQf g 44 N0 N2 → WP w YX12_goesOn (d + 3, SS, 0, 0) G (some (zXp (fun v0 M' L' R' => ∃ o, v0 = some (.int (nI (zb01 o))) ∧ L = L' ∧ R' = zRf t ∧ zSf g M M' ∧ (o = true → zPA false M' b len T c g W0 r (P + 1)) ∧ (o = false → zPX M' b len T c r ∨ zPC M' b len T c g W0 r)))) 181 [(1, .int (nI x)), (0, .ref 177)] [] SS N2 L (zRf t)) → WP w YX12_goesOn (d + 3, SS, 0, 0) G (some (zXp (fun v0 M' L' R' => ∃ o, v0 = some (.int (nI (zb01 o))) ∧ L = L' ∧ R' = zRf t ∧ zSf g M M' ∧ (o = true → zPA false M' b len T c g W0 r (P + 1)) ∧ (o = false → zPX M' b len T c r ∨ zPC M' b len T c g W0 r)))) 158 [(1, .int (nI x)), (0, .ref 177)] [] SS N L (zRf t) := by
    intro V
    induction V with
    | nil =>
      intro F2 N N0 x V' F' hQ hq hr kk
      have e : (([] : List Nat), F2) = (V', F') := hr
      cases e
      refine wp_aload_n (q := 159) dX12_goesOn_158 1 rfl rfl ?_
      refine wp_iconst (q := 160) dX12_goesOn_159 zq_iconst_3 rfl ?_
      refine wp_cvx (q := 163) (sp_misOn (d := d + 2) (W := []) (v := 3) hQ.2.2.1 hQ.2.2.2.1 (Nat.zero_le _) (by decide) (o := false) rfl) zm_X12_isOn zl_RX12_380 dX12_goesOn_160 rfl (by omega) (Nat.le_of_ble_eq_true rfl) zsh_177 rfl rfl ?_
      refine wp_if_ne (tgt := 174) (q := 166) dX12_goesOn_163 (by decide) rfl (fun hn => absurd hn (by decide)) (fun _ => ?_)
      refine wp_aload_n (q := 167) dX12_goesOn_166 1 rfl rfl ?_
      refine wp_iconst (q := 168) dX12_goesOn_167 zq_iconst_4 rfl ?_
      refine wp_cvx (q := 171) (sp_misOn (d := d + 2) (W := []) (v := 4) hQ.2.2.1 hQ.2.2.2.1 (Nat.zero_le _) (by decide) (o := false) rfl) zm_X12_isOn zl_RX12_380 dX12_goesOn_168 rfl (by omega) (Nat.le_of_ble_eq_true rfl) zsh_177 rfl rfl ?_
      refine wp_if_eq (tgt := 181) (q := 174) dX12_goesOn_171 (by decide) rfl (fun _ => ?_) (fun hn => absurd hn (by decide))
      refine WP.sub (loc' := [(1, _), (0, _)]) [0, 1] rfl ?_
      exact kk N hQ hq
    | cons y V ih =>
      intro F2 N N0 x V' F' hQ hq hr kk
      have e' : (if zP3 y then zdw zP3 V (F2 ++ [(y + 3, 0)]) else (y :: V, F2)) = (V', F') := hr
      have hl := hQ.2.2.2.2.2
      have k174 : y = 3 ∨ y = 4 → WP w YX12_goesOn (d + 3, SS, 0, 0) G (some (zXp (fun v0 M' L' R' => ∃ o, v0 = some (.int (nI (zb01 o))) ∧ L = L' ∧ R' = zRf t ∧ zSf g M M' ∧ (o = true → zPA false M' b len T c g W0 r (P + 1)) ∧ (o = false → zPX M' b len T c r ∨ zPC M' b len T c g W0 r)))) 174 [(1, .int (nI x)), (0, .ref 177)] [] SS N L (zRf t) := by
        intro y3
        rw [if_pos (show zP3 y = true from decide_eq_true y3)] at e'
        refine wp_aload_n (q := 175) dX12_goesOn_174 1 rfl rfl ?_
        refine wp_cvx (q := 178) (sp_mdrops (d := d + 1) hQ) zm_X12_drops zl_RX12_368 dX12_goesOn_175 rfl (by omega) (Nat.le_of_ble_eq_true rfl) zsh_177 rfl rfl ?_
        refine wp_goto (tgt := 158) dX12_goesOn_178 (by decide) ?_
        refine WP.sub (loc' := [(1, _), (0, _)]) [0, 1] rfl ?_
        exact ih _ _ N0 x V' F' (zSQ_pop hQ (zcd_s (by omega))) (zQf_pop hq hQ) e' kk
      refine wp_aload_n (q := 159) dX12_goesOn_158 1 rfl rfl ?_
      refine wp_iconst (q := 160) dX12_goesOn_159 zq_iconst_3 rfl ?_
      obtain ⟨o3, ho3⟩ : ∃ o, decide ((y :: V).head? = some 3) = o := ⟨_, rfl⟩
      refine wp_cvx (q := 163) (sp_misOn (d := d + 2) (W := y :: V) (v := 3) hQ.2.2.1 hQ.2.2.2.1 (by omega) (by decide) ho3) zm_X12_isOn zl_RX12_380 dX12_goesOn_160 rfl (by omega) (Nat.le_of_ble_eq_true rfl) zsh_177 rfl rfl ?_
      cases o3 with
      | true =>
        refine wp_if_ne (tgt := 174) (q := 166) dX12_goesOn_163 (by decide) rfl (fun _ => ?_) (fun hn => absurd hn (by decide))
        refine WP.sub (loc' := [(1, _), (0, _)]) [0, 1] rfl ?_
        exact k174 (Or.inl (Option.some.inj (of_decide_eq_true ho3)))
      | false =>
      have n3 : y ≠ 3 := fun e => (of_decide_eq_false ho3) (by rw [e]; rfl)
      refine wp_if_ne (tgt := 174) (q := 166) dX12_goesOn_163 (by decide) rfl (fun hn => absurd hn (by decide)) (fun _ => ?_)
      refine wp_aload_n (q := 167) dX12_goesOn_166 1 rfl rfl ?_
      refine wp_iconst (q := 168) dX12_goesOn_167 zq_iconst_4 rfl ?_
      obtain ⟨o4, ho4⟩ : ∃ o, decide ((y :: V).head? = some 4) = o := ⟨_, rfl⟩
      refine wp_cvx (q := 171) (sp_misOn (d := d + 2) (W := y :: V) (v := 4) hQ.2.2.1 hQ.2.2.2.1 (by omega) (by decide) ho4) zm_X12_isOn zl_RX12_380 dX12_goesOn_168 rfl (by omega) (Nat.le_of_ble_eq_true rfl) zsh_177 rfl rfl ?_
      cases o4 with
      | true =>
        refine wp_if_eq (tgt := 181) (q := 174) dX12_goesOn_171 (by decide) rfl (fun hn => absurd hn (by decide)) (fun _ => ?_)
        refine WP.sub (loc' := [(1, _), (0, _)]) [0, 1] rfl ?_
        exact k174 (Or.inr (Option.some.inj (of_decide_eq_true ho4)))
      | false =>
      have n4 : y ≠ 4 := fun e => (of_decide_eq_false ho4) (by rw [e]; rfl)
      refine wp_if_eq (tgt := 181) (q := 174) dX12_goesOn_171 (by decide) rfl (fun _ => ?_) (fun hn => absurd hn (by decide))
      refine WP.sub (loc' := [(1, _), (0, _)]) [0, 1] rfl ?_
      rw [if_neg (show ¬ zP3 y = true from fun e => by have := of_decide_eq_true e; omega)] at e'
      cases e'
      exact kk N hQ hq
  -- after a + or a -
  have C282 : ∀ (x l : Nat) (N : zMI) (p : zP) (F : zFl) (k wk : Nat) (fr : List zLv) (o : Nat), (x = 1 ∨ x = 2) → zAt N b len T c p.1 → N 177 6 = p.2.2.2 → p.2.2.1 = 0 → N 177 47 = p.2.1 → zSQ N g F ((if wk = 0 then [] else [wk]) ++ (zWf fr ++ W0)) W0.length → g + F.length + ((if wk = 0 then [] else [wk]) ++ (zWf fr ++ W0)).length + 2 ≤ p.1 → wk ≠ 60 → zKv false p.1 o ((k, 0, 1600, x + 3, l, wk) :: fr) → p.2.1 = nI o → zks T c false ((k, 0, 1600, x + 3, l, wk) :: fr) (zpt T c false k p F) = r → P < p.1 → zSf g M N → WP w YX12_goesOn (d + 3, SS, 0, 0) G (some (zXp (fun v0 M' L' R' => ∃ o, v0 = some (.int (nI (zb01 o))) ∧ L = L' ∧ R' = zRf t ∧ zSf g M M' ∧ (o = true → zPA false M' b len T c g W0 r (P + 1)) ∧ (o = false → zPX M' b len T c r ∨ zPC M' b len T c g W0 r)))) 282 [(1, .int (nI x)), (0, .ref 177)] [] SS N L (zRf t) := by
    intro x l N p F k wk fr o hx a1 a2 a3 a4 a5 a6 hw hk ho hr hP hf
    have hc := zTok_c hT a1
    have hpc := a1.2.2.1
    have hln := a5.2.2.2.2.2
    have e : zWf ((k, 0, 1600, x + 3, l, wk) :: fr) ++ W0 = x :: ((if wk = 0 then [] else [wk]) ++ (zWf fr ++ W0)) := by
      show (zWl (k, 0, 1600, x + 3, l, wk) ++ zWf fr) ++ W0 = _
      rw [zWl_a hw (by omega), Nat.add_sub_cancel, List.append_assoc]
      rfl
    refine wp_aload_n (q := 283) dX12_goesOn_282 1 rfl rfl ?_
    refine wp_getR (q := 286) dX12_goesOn_283 zf_RX12_118 rfl zsh_177 (zr_177_45 _) rfl ?_
    refine wp_aload_n (q := 287) dX12_goesOn_286 1 rfl rfl ?_
    refine wp_getI (q := 290) dX12_goesOn_287 zf_RX12_316 rfl zsh_177 rfl ?_
    rw [a5.2.2.1]
    refine wp_iload_n (q := 291) dX12_goesOn_290 0 rfl rfl ?_
    refine wp_iast (q := 292) _ dX12_goesOn_291 zsh_212 rfl (by omega) (by decide) rfl ?_
    refine wp_aload_n (q := 293) dX12_goesOn_292 1 rfl rfl ?_
    refine wp_dup (q := 294) dX12_goesOn_293 rfl rfl ?_
    refine wp_getI (q := 297) dX12_goesOn_294 zf_RX12_316 rfl zsh_177 rfl ?_
    rw [zu_ne (by decide), a5.2.2.1]
    refine wp_iconst (q := 298) dX12_goesOn_297 zq_iconst_1 rfl ?_
    refine wp_iaddN (q := 299) dX12_goesOn_298 rfl ?_
    refine wp_putI (q := 302) dX12_goesOn_299 zf_RX12_316 rfl zsh_177 rfl ?_
    refine wp_iconst (q := 303) dX12_goesOn_302 zq_iconst_1 rfl ?_
    have hq : zQf g 44 N (zu (zu N 212 ((if wk = 0 then [] else [wk]) ++ (zWf fr ++ W0)).length (nI x)) 177 46 (nI (((if wk = 0 then [] else [wk]) ++ (zWf fr ++ W0)).length + 1))) := zQf_7 (zQf_k zQf_r) (Or.inl rfl) (by omega)
    refine wp_zreturn dX12_goesOn_303 rfl (by first | with_reducible exact znar_0 | with_reducible exact znar_1 | assumption) ⟨rfl, ⟨true, rfl, rfl, rfl, zSf_t hf hq.1, fun _ => ⟨p, F, (k, 0, 1600, x + 3, l, wk), fr, o, ⟨zAt_q a1 hq (by decide), by rw [hq.2 6 (by decide) (by decide) (by decide)]; exact a2, a3, by rw [zu_k (by decide), zu_ne (by decide)]; exact a4, zSQ_W (zSQ_push (x := x) a5 (by omega) (by omega)) e.symm, ?_⟩, hk, ho, hr, hP⟩, fun e => by cases e⟩⟩ rfl rfl
    rw [e, List.length_cons]
    omega
  have C243 : ∀ (V : List Nat) (F2 : zFl) (N N0 : zMI) (x : Nat) (V' : List Nat) (F' : zFl), zSQ N g F2 V W0.length → zQf g 44 N0 N → zdw zP1 V F2 = (V', F') → (∀ N2 : zMI, zSQ N2 g F' V' W0.length → zQf g 44 N0 N2 → WP w YX12_goesOn (d + 3, SS, 0, 0) G (some (zXp (fun v0 M' L' R' => ∃ o, v0 = some (.int (nI (zb01 o))) ∧ L = L' ∧ R' = zRf t ∧ zSf g M M' ∧ (o = true → zPA false M' b len T c g W0 r (P + 1)) ∧ (o = false → zPX M' b len T c r ∨ zPC M' b len T c g W0 r)))) 282 [(1, .int (nI x)), (0, .ref 177)] [] SS N2 L (zRf t)) → WP w YX12_goesOn (d + 3, SS, 0, 0) G (some (zXp (fun v0 M' L' R' => ∃ o, v0 = some (.int (nI (zb01 o))) ∧ L = L' ∧ R' = zRf t ∧ zSf g M M' ∧ (o = true → zPA false M' b len T c g W0 r (P + 1)) ∧ (o = false → zPX M' b len T c r ∨ zPC M' b len T c g W0 r)))) 243 [(1, .int (nI x)), (0, .ref 177)] [] SS N L (zRf t) := by
    intro V
    induction V with
    | nil =>
      intro F2 N N0 x V' F' hQ hq hr kk
      have e : (([] : List Nat), F2) = (V', F') := hr
      cases e
      refine wp_aload_n (q := 244) dX12_goesOn_243 1 rfl rfl ?_
      refine wp_iconst (q := 245) dX12_goesOn_244 zq_iconst_3 rfl ?_
      refine wp_cvx (q := 248) (sp_misOn (d := d + 2) (W := []) (v := 3) hQ.2.2.1 hQ.2.2.2.1 (Nat.zero_le _) (by decide) (o := false) rfl) zm_X12_isOn zl_RX12_380 dX12_goesOn_245 rfl (by omega) (Nat.le_of_ble_eq_true rfl) zsh_177 rfl rfl ?_
      refine wp_if_ne (tgt := 275) (q := 251) dX12_goesOn_248 (by decide) rfl (fun hn => absurd hn (by decide)) (fun _ => ?_)
      refine wp_aload_n (q := 252) dX12_goesOn_251 1 rfl rfl ?_
      refine wp_iconst (q := 253) dX12_goesOn_252 zq_iconst_4 rfl ?_
      refine wp_cvx (q := 256) (sp_misOn (d := d + 2) (W := []) (v := 4) hQ.2.2.1 hQ.2.2.2.1 (Nat.zero_le _) (by decide) (o := false) rfl) zm_X12_isOn zl_RX12_380 dX12_goesOn_253 rfl (by omega) (Nat.le_of_ble_eq_true rfl) zsh_177 rfl rfl ?_
      refine wp_if_ne (tgt := 275) (q := 259) dX12_goesOn_256 (by decide) rfl (fun hn => absurd hn (by decide)) (fun _ => ?_)
      refine wp_aload_n (q := 260) dX12_goesOn_259 1 rfl rfl ?_
      refine wp_iconst (q := 261) dX12_goesOn_260 zq_iconst_1 rfl ?_
      refine wp_cvx (q := 264) (sp_misOn (d := d + 2) (W := []) (v := 1) hQ.2.2.1 hQ.2.2.2.1 (Nat.zero_le _) (by decide) (o := false) rfl) zm_X12_isOn zl_RX12_380 dX12_goesOn_261 rfl (by omega) (Nat.le_of_ble_eq_true rfl) zsh_177 rfl rfl ?_
      refine wp_if_ne (tgt := 275) (q := 267) dX12_goesOn_264 (by decide) rfl (fun hn => absurd hn (by decide)) (fun _ => ?_)
      refine wp_aload_n (q := 268) dX12_goesOn_267 1 rfl rfl ?_
      refine wp_iconst (q := 269) dX12_goesOn_268 zq_iconst_2 rfl ?_
      refine wp_cvx (q := 272) (sp_misOn (d := d + 2) (W := []) (v := 2) hQ.2.2.1 hQ.2.2.2.1 (Nat.zero_le _) (by decide) (o := false) rfl) zm_X12_isOn zl_RX12_380 dX12_goesOn_269 rfl (by omega) (Nat.le_of_ble_eq_true rfl) zsh_177 rfl rfl ?_
      refine wp_if_eq (tgt := 282) (q := 275) dX12_goesOn_272 (by decide) rfl (fun _ => ?_) (fun hn => absurd hn (by decide))
      refine WP.sub (loc' := [(1, _), (0, _)]) [0, 1] rfl ?_
      exact kk N hQ hq
    | cons y V ih =>
      intro F2 N N0 x V' F' hQ hq hr kk
      have e' : (if zP1 y then zdw zP1 V (F2 ++ [(y + 3, 0)]) else (y :: V, F2)) = (V', F') := hr
      have hl := hQ.2.2.2.2.2
      have k275 : y = 3 ∨ y = 4 ∨ y = 1 ∨ y = 2 → WP w YX12_goesOn (d + 3, SS, 0, 0) G (some (zXp (fun v0 M' L' R' => ∃ o, v0 = some (.int (nI (zb01 o))) ∧ L = L' ∧ R' = zRf t ∧ zSf g M M' ∧ (o = true → zPA false M' b len T c g W0 r (P + 1)) ∧ (o = false → zPX M' b len T c r ∨ zPC M' b len T c g W0 r)))) 275 [(1, .int (nI x)), (0, .ref 177)] [] SS N L (zRf t) := by
        intro y3
        rw [if_pos (show zP1 y = true from decide_eq_true y3)] at e'
        refine wp_aload_n (q := 276) dX12_goesOn_275 1 rfl rfl ?_
        refine wp_cvx (q := 279) (sp_mdrops (d := d + 1) hQ) zm_X12_drops zl_RX12_368 dX12_goesOn_276 rfl (by omega) (Nat.le_of_ble_eq_true rfl) zsh_177 rfl rfl ?_
        refine wp_goto (tgt := 243) dX12_goesOn_279 (by decide) ?_
        refine WP.sub (loc' := [(1, _), (0, _)]) [0, 1] rfl ?_
        exact ih _ _ N0 x V' F' (zSQ_pop hQ (zcd_s (by omega))) (zQf_pop hq hQ) e' kk
      refine wp_aload_n (q := 244) dX12_goesOn_243 1 rfl rfl ?_
      refine wp_iconst (q := 245) dX12_goesOn_244 zq_iconst_3 rfl ?_
      obtain ⟨o3, ho3⟩ : ∃ o, decide ((y :: V).head? = some 3) = o := ⟨_, rfl⟩
      refine wp_cvx (q := 248) (sp_misOn (d := d + 2) (W := y :: V) (v := 3) hQ.2.2.1 hQ.2.2.2.1 (by omega) (by decide) ho3) zm_X12_isOn zl_RX12_380 dX12_goesOn_245 rfl (by omega) (Nat.le_of_ble_eq_true rfl) zsh_177 rfl rfl ?_
      cases o3 with
      | true =>
        refine wp_if_ne (tgt := 275) (q := 251) dX12_goesOn_248 (by decide) rfl (fun _ => ?_) (fun hn => absurd hn (by decide))
        refine WP.sub (loc' := [(1, _), (0, _)]) [0, 1] rfl ?_
        exact k275 (Or.inl (Option.some.inj (of_decide_eq_true ho3)))
      | false =>
      have n3 : y ≠ 3 := fun e => (of_decide_eq_false ho3) (by rw [e]; rfl)
      refine wp_if_ne (tgt := 275) (q := 251) dX12_goesOn_248 (by decide) rfl (fun hn => absurd hn (by decide)) (fun _ => ?_)
      refine wp_aload_n (q := 252) dX12_goesOn_251 1 rfl rfl ?_
      refine wp_iconst (q := 253) dX12_goesOn_252 zq_iconst_4 rfl ?_
      obtain ⟨o4, ho4⟩ : ∃ o, decide ((y :: V).head? = some 4) = o := ⟨_, rfl⟩
      refine wp_cvx (q := 256) (sp_misOn (d := d + 2) (W := y :: V) (v := 4) hQ.2.2.1 hQ.2.2.2.1 (by omega) (by decide) ho4) zm_X12_isOn zl_RX12_380 dX12_goesOn_253 rfl (by omega) (Nat.le_of_ble_eq_true rfl) zsh_177 rfl rfl ?_
      cases o4 with
      | true =>
        refine wp_if_ne (tgt := 275) (q := 259) dX12_goesOn_256 (by decide) rfl (fun _ => ?_) (fun hn => absurd hn (by decide))
        refine WP.sub (loc' := [(1, _), (0, _)]) [0, 1] rfl ?_
        exact k275 (Or.inr (Or.inl (Option.some.inj (of_decide_eq_true ho4))))
      | false =>
      have n4 : y ≠ 4 := fun e => (of_decide_eq_false ho4) (by rw [e]; rfl)
      refine wp_if_ne (tgt := 275) (q := 259) dX12_goesOn_256 (by decide) rfl (fun hn => absurd hn (by decide)) (fun _ => ?_)
      refine wp_aload_n (q := 260) dX12_goesOn_259 1 rfl rfl ?_
      refine wp_iconst (q := 261) dX12_goesOn_260 zq_iconst_1 rfl ?_
      obtain ⟨o1, ho1⟩ : ∃ o, decide ((y :: V).head? = some 1) = o := ⟨_, rfl⟩
      refine wp_cvx (q := 264) (sp_misOn (d := d + 2) (W := y :: V) (v := 1) hQ.2.2.1 hQ.2.2.2.1 (by omega) (by decide) ho1) zm_X12_isOn zl_RX12_380 dX12_goesOn_261 rfl (by omega) (Nat.le_of_ble_eq_true rfl) zsh_177 rfl rfl ?_
      cases o1 with
      | true =>
        refine wp_if_ne (tgt := 275) (q := 267) dX12_goesOn_264 (by decide) rfl (fun _ => ?_) (fun hn => absurd hn (by decide))
        refine WP.sub (loc' := [(1, _), (0, _)]) [0, 1] rfl ?_
        exact k275 (Or.inr (Or.inr (Or.inl (Option.some.inj (of_decide_eq_true ho1)))))
      | false =>
      have n1 : y ≠ 1 := fun e => (of_decide_eq_false ho1) (by rw [e]; rfl)
      refine wp_if_ne (tgt := 275) (q := 267) dX12_goesOn_264 (by decide) rfl (fun hn => absurd hn (by decide)) (fun _ => ?_)
      refine wp_aload_n (q := 268) dX12_goesOn_267 1 rfl rfl ?_
      refine wp_iconst (q := 269) dX12_goesOn_268 zq_iconst_2 rfl ?_
      obtain ⟨o2, ho2⟩ : ∃ o, decide ((y :: V).head? = some 2) = o := ⟨_, rfl⟩
      refine wp_cvx (q := 272) (sp_misOn (d := d + 2) (W := y :: V) (v := 2) hQ.2.2.1 hQ.2.2.2.1 (by omega) (by decide) ho2) zm_X12_isOn zl_RX12_380 dX12_goesOn_269 rfl (by omega) (Nat.le_of_ble_eq_true rfl) zsh_177 rfl rfl ?_
      cases o2 with
      | true =>
        refine wp_if_eq (tgt := 282) (q := 275) dX12_goesOn_272 (by decide) rfl (fun hn => absurd hn (by decide)) (fun _ => ?_)
        refine WP.sub (loc' := [(1, _), (0, _)]) [0, 1] rfl ?_
        exact k275 (Or.inr (Or.inr (Or.inr (Option.some.inj (of_decide_eq_true ho2)))))
      | false =>
      have n2 : y ≠ 2 := fun e => (of_decide_eq_false ho2) (by rw [e]; rfl)
      refine wp_if_eq (tgt := 282) (q := 275) dX12_goesOn_272 (by decide) rfl (fun _ => ?_) (fun hn => absurd hn (by decide))
      refine WP.sub (loc' := [(1, _), (0, _)]) [0, 1] rfl ?_
      rw [if_neg (show ¬ zP1 y = true from fun e => by have := of_decide_eq_true e; omega)] at e'
      cases e'
      exact kk N hQ hq
  -- behind the closed brackets
  have C118 : ∀ (N : zMI) (p : zP) (F : zFl) (f : zLv) (fr : List zLv) (o : Nat), zSS N b len T c p F (zWf (f :: fr) ++ W0) g W0.length → zKv false p.1 o (f :: fr) → p.2.1 = nI o → zks T c false (f :: fr) (p, F) = r → P < p.1 → zSf g M N → ¬ ((T p.1 0 = 3 ∧ T p.1 2 = 41) ∧ (f.2.2.2.2.2 = 20 ∨ f.2.2.2.2.2 = 23 ∨ f.2.2.2.2.2 = 24)) → WP w YX12_goesOn (d + 3, SS, 0, 0) G (some (zXp (fun v0 M' L' R' => ∃ o, v0 = some (.int (nI (zb01 o))) ∧ L = L' ∧ R' = zRf t ∧ zSf g M M' ∧ (o = true → zPA false M' b len T c g W0 r (P + 1)) ∧ (o = false → zPX M' b len T c r ∨ zPC M' b len T c g W0 r)))) 118 [(0, .ref 177)] [] SS N L (zRf t) := by
    intro N p F f fr o hS hk ho hr hP hf h41
    obtain ⟨a1, a2, a3, a4, a5, a6⟩ := hS
    have hc := zTok_c hT a1
    have hpc := a1.2.2.1
    have hlen := zTok_len hT hpc
    have hl16 := a1.1.2.1
    obtain ⟨k1, k2⟩ := zKv_w hk
    have hw0 : f.2.2.2.2.2 = 0 ∨ (20 ≤ f.2.2.2.2.2 ∧ f.2.2.2.2.2 ≤ 24) := by
      rcases k2 with e | e
      · exact Or.inl e.1
      · exact Or.inr e.1
    have hw60 : f.2.2.2.2.2 ≠ 60 := by omega
    have hfr : f.2.2.2.2.2 = 0 → fr = [] := fun e => by
      rcases k2 with e1 | e1
      · exact e1.2
      · omega
    have hfu : 1600 ≤ f.2.2.1 + p.1 ∧ 1600 ≤ f.2.2.2.2.1 + p.1 := by
      rcases k1.2.2 with e | e
      · exact absurd e hw60
      · exact e
    have eW : zWf (f :: fr) ++ W0 = zWl f ++ (zWf fr ++ W0) := List.append_assoc _ _ _
    have a5' := zSQ_W a5 eW
    have n1 := zWl_n hw60
    have lnW : (zWf (f :: fr) ++ W0).length = (zWl f).length + (zWf fr ++ W0).length := by rw [eW, List.length_append]
    have hv3 : f.2.2.2.2.2 = 0 → ∀ F, zdw zP3 (zWf fr ++ W0) F = (zWf fr ++ W0, F) := fun e => by rw [hfr e]; exact h03
    have hv1 : f.2.2.2.2.2 = 0 → ∀ F, zdw zP1 (zWf fr ++ W0) F = (zWf fr ++ W0, F) := fun e => by rw [hfr e]; exact h01
    have d3 := zdr3_f (F := F) k1 hw0 hv3
    have d1 := zdr1_f (F := F) k1 hw0 hv1
    obtain ⟨k, m, n, a, l, wk⟩ := f
    have hw60' : wk ≠ 60 := hw60
    have hw0' : wk = 0 ∨ (20 ≤ wk ∧ wk ≤ 24) := hw0
    have n1' : (zWl (k, m, n, a, l, wk)).length = (if m = 0 then 0 else 1) + ((if a = 0 then 0 else 1) + (if wk = 0 then 0 else 1)) := n1
    have tape : ∀ (N2 : zMI) (s : Nat), zPf N N2 → s < 256 → N2 177 2 = nI (T p.1 1 + 1) → T p.1 0 = 3 ∧ T p.1 2 = s → zcl s = 3 → N2 178 (T p.1 1) = nI s := by
      intro N2 s hp hs h2 h3 hz
      have e := (zSg (s := s) hT (fun i hi => (a1.1.2.2 i hi).2) hpc hz hs).mpr h3
      obtain ⟨z1, -⟩ := zTok_3 hT hpc h3.1
      have hlt := hlen.2.mpr z1
      unfold zlkv at e
      rw [if_pos hlt] at e
      rw [hp.1 178 (by decide), (a1.1.2.2 _ hlt).1, e]
    have C136 : ∀ (N2 : zMI) (s : Nat), (s = 42 ∨ s = 47) → zPf N N2 → N2 177 6 = N 177 6 → zAt N2 b len T c (p.1 + 1) → N2 177 2 = nI (T p.1 1 + 1) → T p.1 0 = 3 ∧ T p.1 2 = s → WP w YX12_goesOn (d + 3, SS, 0, 0) G (some (zXp (fun v0 M' L' R' => ∃ o, v0 = some (.int (nI (zb01 o))) ∧ L = L' ∧ R' = zRf t ∧ zSf g M M' ∧ (o = true → zPA false M' b len T c g W0 r (P + 1)) ∧ (o = false → zPX M' b len T c r ∨ zPC M' b len T c g W0 r)))) 136 [(0, .ref 177)] [] SS N2 L (zRf t) := by
      intro N2 s hs hp h6 hA h2 h3
      have ht := tape N2 s hp (by omega) h2 h3 (by rcases hs with rfl | rfl <;> decide)
      obtain ⟨z1, z2⟩ := zTok_3 hT hpc h3.1
      obtain ⟨n', hn'⟩ : ∃ n', n = n' + 1 := ⟨n - 1, by have : 1600 ≤ n + p.1 := hfu.1; omega⟩
      have hss : zpS T p 42 = true ∨ zpS T p 47 = true := by
        rcases hs with e | e
        · exact Or.inl (zpS_i.mpr (by rw [← e]; exact h3))
        · exact Or.inr (zpS_i.mpr (by rw [← e]; exact h3))
      rw [hn', zks_times hw60' hss, zpn_o z1] at hr
      have C158' : ∀ x, x + 3 = (if zpS T p 42 then 6 else 7) → (x = 3 ∨ x = 4) → WP w YX12_goesOn (d + 3, SS, 0, 0) G (some (zXp (fun v0 M' L' R' => ∃ o, v0 = some (.int (nI (zb01 o))) ∧ L = L' ∧ R' = zRf t ∧ zSf g M M' ∧ (o = true → zPA false M' b len T c g W0 r (P + 1)) ∧ (o = false → zPX M' b len T c r ∨ zPC M' b len T c g W0 r)))) 158 [(1, .int (nI x)), (0, .ref 177)] [] SS N2 L (zRf t) := by
        intro x hx hx2
        rw [← hx] at hr
        refine C158 (zWl (k, m, n, a, l, wk) ++ (zWf fr ++ W0)) F N2 N2 x _ _ (zSQ_p a5' hp) zQf_r d3 ?_
        intro N3 hQ3 hq3
        have hln : (zap m F).length = F.length + if m = 0 then 0 else 1 := zap_n
        refine C181 x n' N3 (p.1 + 1, p.2.1, p.2.2.1, p.2.2.2) (zap m F) k a l wk fr o hx2 (zAt_q hA hq3 (by decide)) (by rw [hq3.2 6 (by decide) (by decide) (by decide), h6]; exact a2) a3 ?_ hQ3 ?_ hw60' ?_ ho hr (by show P < p.1 + 1; omega) (zSf_t (zSf_p hf hp) hq3.1)
        · rw [hq3.2 47 (by decide) (by decide) (by decide), hp.2 47 (by decide) (by decide) (by decide) (by decide) (by decide)]; exact a4
        · rw [List.length_append, zWt_n]
          show _ ≤ p.1 + 1
          omega
        · obtain ⟨⟨q1, q2, q3⟩, q4, q5, q6⟩ := zKv_m (Nat.le_succ p.1) _ _ hk
          refine ⟨⟨Or.inr (by show x + 3 = 6 ∨ x + 3 = 7; omega), q2, Or.inr ⟨?_, ?_⟩⟩, q4, q5, q6⟩
          · show 1600 ≤ n' + (p.1 + 1)
            have : 1600 ≤ n + p.1 := hfu.1
            omega
          · show 1600 ≤ l + (p.1 + 1)
            have : 1600 ≤ l + p.1 := hfu.2
            omega
      refine wp_aload_n (q := 137) dX12_goesOn_136 0 rfl rfl ?_
      refine wp_getR (q := 140) dX12_goesOn_137 zf_RX12_7 rfl zsh_177 (zr_177_0 _) rfl ?_
      refine wp_aload_n (q := 141) dX12_goesOn_140 0 rfl rfl ?_
      refine wp_getI (q := 144) dX12_goesOn_141 zf_RX12_242 rfl zsh_177 rfl ?_
      rw [h2]
      refine wp_iconst (q := 145) dX12_goesOn_144 zq_iconst_1 rfl ?_
      refine wp_isubN (q := 146) dX12_goesOn_145 (by omega) rfl ?_
      refine wp_iald (q := 147) _ dX12_goesOn_146 zsh_178 rfl (by omega) (by decide) rfl ?_
      rw [Nat.add_sub_cancel, ht]
      refine wp_bipush (q := 149) dX12_goesOn_147 zq_bipush_42 rfl ?_
      refine wp_icmp_neN (tgt := 156) (q := 152) dX12_goesOn_149 (by decide) rfl (by omega) (by omega) (fun e42 => ?_) (fun e42 => ?_)
      · skip
        refine wp_iconst (q := 157) dX12_goesOn_156 zq_iconst_4 rfl ?_
        refine wp_istore_n (q := 158) (loc' := [(1, _), (0, _)]) dX12_goesOn_157 rfl (by decide) rfl rfl ?_
        refine WP.sub (loc' := [(1, _), (0, _)]) [0, 1] rfl ?_
        exact C158' 4 (by rw [if_neg (by rw [zpS_f.mpr (by omega)]; decide)]) (Or.inr rfl)
      · skip
        refine wp_iconst (q := 153) dX12_goesOn_152 zq_iconst_3 rfl ?_
        refine wp_goto (tgt := 157) dX12_goesOn_153 (by decide) ?_
        refine wp_istore_n (q := 158) (loc' := [(1, _), (0, _)]) dX12_goesOn_157 rfl (by decide) rfl rfl ?_
        refine WP.sub (loc' := [(1, _), (0, _)]) [0, 1] rfl ?_
        exact C158' 3 (by rw [if_pos (zpS_i.mpr (by omega))]) (Or.inl rfl)
    have C221 : ∀ (N2 : zMI) (s : Nat), (s = 43 ∨ s = 45) → zPf N N2 → N2 177 6 = N 177 6 → zAt N2 b len T c (p.1 + 1) → N2 177 2 = nI (T p.1 1 + 1) → T p.1 0 = 3 ∧ T p.1 2 = s → WP w YX12_goesOn (d + 3, SS, 0, 0) G (some (zXp (fun v0 M' L' R' => ∃ o, v0 = some (.int (nI (zb01 o))) ∧ L = L' ∧ R' = zRf t ∧ zSf g M M' ∧ (o = true → zPA false M' b len T c g W0 r (P + 1)) ∧ (o = false → zPX M' b len T c r ∨ zPC M' b len T c g W0 r)))) 221 [(0, .ref 177)] [] SS N2 L (zRf t) := by
      intro N2 s hs hp h6 hA h2 h3
      have ht := tape N2 s hp (by omega) h2 h3 (by rcases hs with rfl | rfl <;> decide)
      obtain ⟨z1, z2⟩ := zTok_3 hT hpc h3.1
      obtain ⟨l', hl'⟩ : ∃ l', l = l' + 1 := ⟨l - 1, by have : 1600 ≤ l + p.1 := hfu.2; omega⟩
      have hss : zpS T p 43 = true ∨ zpS T p 45 = true := by
        rcases hs with e | e
        · exact Or.inl (zpS_i.mpr (by rw [← e]; exact h3))
        · exact Or.inr (zpS_i.mpr (by rw [← e]; exact h3))
      rw [hl', zks_plus hw60' (zpS_f.mpr (by omega)) (zpS_f.mpr (by omega)) hss, zpn_o z1] at hr
      have C243' : ∀ x, x + 3 = (if zpS T p 43 then 4 else 5) → (x = 1 ∨ x = 2) → WP w YX12_goesOn (d + 3, SS, 0, 0) G (some (zXp (fun v0 M' L' R' => ∃ o, v0 = some (.int (nI (zb01 o))) ∧ L = L' ∧ R' = zRf t ∧ zSf g M M' ∧ (o = true → zPA false M' b len T c g W0 r (P + 1)) ∧ (o = false → zPX M' b len T c r ∨ zPC M' b len T c g W0 r)))) 243 [(1, .int (nI x)), (0, .ref 177)] [] SS N2 L (zRf t) := by
        intro x hx hx2
        rw [← hx] at hr
        refine C243 (zWl (k, m, n, a, l, wk) ++ (zWf fr ++ W0)) F N2 N2 x _ _ (zSQ_p a5' hp) zQf_r d1 ?_
        intro N3 hQ3 hq3
        have hln : (zap m F).length = F.length + if m = 0 then 0 else 1 := zap_n
        have hln2 : (zap a (zap m F)).length = (zap m F).length + if a = 0 then 0 else 1 := zap_n
        have hln3 : (if wk = 0 then ([] : List Nat) else [wk]).length = if wk = 0 then 0 else 1 := by split <;> rfl
        refine C282 x l' N3 (p.1 + 1, p.2.1, p.2.2.1, p.2.2.2) (zap a (zap m F)) k wk fr o hx2 (zAt_q hA hq3 (by decide)) (by rw [hq3.2 6 (by decide) (by decide) (by decide), h6]; exact a2) a3 ?_ hQ3 ?_ hw60' ?_ ho hr (by show P < p.1 + 1; omega) (zSf_t (zSf_p hf hp) hq3.1)
        · rw [hq3.2 47 (by decide) (by decide) (by decide), hp.2 47 (by decide) (by decide) (by decide) (by decide) (by decide)]; exact a4
        · rw [List.length_append, hln3]
          show _ ≤ p.1 + 1
          omega
        · obtain ⟨⟨q1, q2, q3⟩, q4, q5, q6⟩ := zKv_m (Nat.le_succ p.1) _ _ hk
          refine ⟨⟨Or.inl rfl, Or.inr (by show x + 3 = 4 ∨ x + 3 = 5; omega), Or.inr ⟨?_, ?_⟩⟩, q4, q5, q6⟩
          · exact Nat.le_add_right _ _
          · show 1600 ≤ l' + (p.1 + 1)
            have : 1600 ≤ l + p.1 := hfu.2
            omega
      refine wp_aload_n (q := 222) dX12_goesOn_221 0 rfl rfl ?_
      refine wp_getR (q := 225) dX12_goesOn_222 zf_RX12_7 rfl zsh_177 (zr_177_0 _) rfl ?_
      refine wp_aload_n (q := 226) dX12_goesOn_225 0 rfl rfl ?_
      refine wp_getI (q := 229) dX12_goesOn_226 zf_RX12_242 rfl zsh_177 rfl ?_
      rw [h2]
      refine wp_iconst (q := 230) dX12_goesOn_229 zq_iconst_1 rfl ?_
      refine wp_isubN (q := 231) dX12_goesOn_230 (by omega) rfl ?_
      refine wp_iald (q := 232) _ dX12_goesOn_231 zsh_178 rfl (by omega) (by decide) rfl ?_
      rw [Nat.add_sub_cancel, ht]
      refine wp_bipush (q := 234) dX12_goesOn_232 zq_bipush_43 rfl ?_
      refine wp_icmp_neN (tgt := 241) (q := 237) dX12_goesOn_234 (by decide) rfl (by omega) (by omega) (fun e42 => ?_) (fun e42 => ?_)
      · skip
        refine wp_iconst (q := 242) dX12_goesOn_241 zq_iconst_2 rfl ?_
        refine wp_istore_n (q := 243) (loc' := [(1, _), (0, _)]) dX12_goesOn_242 rfl (by decide) rfl rfl ?_
        refine WP.sub (loc' := [(1, _), (0, _)]) [0, 1] rfl ?_
        exact C243' 2 (by rw [if_neg (by rw [zpS_f.mpr (by omega)]; decide)]) (Or.inr rfl)
      · skip
        refine wp_iconst (q := 238) dX12_goesOn_237 zq_iconst_1 rfl ?_
        refine wp_goto (tgt := 242) dX12_goesOn_238 (by decide) ?_
        refine wp_istore_n (q := 243) (loc' := [(1, _), (0, _)]) dX12_goesOn_242 rfl (by decide) rfl rfl ?_
        refine WP.sub (loc' := [(1, _), (0, _)]) [0, 1] rfl ?_
        exact C243' 1 (by rw [if_pos (zpS_i.mpr (by omega))]) (Or.inl rfl)
    have C304 : ∀ (N4 : zMI), zPf N N4 → N4 177 6 = N 177 6 → zAt N4 b len T c p.1 → N4 177 2 = nI (T p.1 1) → (¬ (T p.1 0 = 3 ∧ T p.1 2 = 42)) → (¬ (T p.1 0 = 3 ∧ T p.1 2 = 47)) → (¬ (T p.1 0 = 3 ∧ T p.1 2 = 43)) → (¬ (T p.1 0 = 3 ∧ T p.1 2 = 45)) → WP w YX12_goesOn (d + 3, SS, 0, 0) G (some (zXp (fun v0 M' L' R' => ∃ o, v0 = some (.int (nI (zb01 o))) ∧ L = L' ∧ R' = zRf t ∧ zSf g M M' ∧ (o = true → zPA false M' b len T c g W0 r (P + 1)) ∧ (o = false → zPX M' b len T c r ∨ zPC M' b len T c g W0 r)))) 304 [(0, .ref 177)] [] SS N4 L (zRf t) := by
      intro N4 hp h6 hA h2 x42 x47 x43 x45
      rw [zks_end hw60' (zpS_f.mpr x42) (zpS_f.mpr x47) (zpS_f.mpr x43) (zpS_f.mpr x45)] at hr
      have hS4 : zSQ N4 g F (zWf ((k, m, n, a, l, wk) :: fr) ++ W0) W0.length := zSQ_p a5 hp
      have hln4 := hS4.2.2.2.2.2
      have hv : zLm (zWf ((k, m, n, a, l, wk) :: fr)) = if wk = 0 then zLm (zWf fr) else nI wk := zLm_f k1 hw0
      have hvn : ∀ x, x < 100 → wk ≠ x → ¬ zLm (zWf ((k, m, n, a, l, wk) :: fr)) = nI x := fun x y1 y2 => zmv hv (fun e => by rw [hfr e]; rfl) (by omega) y1 y2
      have h47 : N4 177 47 = p.2.1 := by rw [hp.2 47 (by decide) (by decide) (by decide) (by decide) (by decide)]; exact a4
      have hln : (zap m F).length = F.length + if m = 0 then 0 else 1 := zap_n
      have hln2 : (zap a (zap m F)).length = (zap m F).length + if a = 0 then 0 else 1 := zap_n
      have C322 : wk = 21 ∨ wk = 22 → WP w YX12_goesOn (d + 3, SS, 0, 0) G (some (zXp (fun v0 M' L' R' => ∃ o, v0 = some (.int (nI (zb01 o))) ∧ L = L' ∧ R' = zRf t ∧ zSf g M M' ∧ (o = true → zPA false M' b len T c g W0 r (P + 1)) ∧ (o = false → zPX M' b len T c r ∨ zPC M' b len T c g W0 r)))) 322 [(0, .ref 177)] [] SS N4 L (zRf t) := by
        intro hw2
        rw [zkm_next hw2] at hr
        refine wp_aload_n (q := 323) dX12_goesOn_322 0 rfl rfl ?_
        refine wp_bipush (q := 325) dX12_goesOn_323 zq_bipush_44 rfl ?_
        refine wp_cvy (q := 328) (sp_masksSign (d := d) (s := 44) hA hT (by decide) (by decide)) zm_X12_asksSign zl_RX12_347 dX12_goesOn_325 rfl (by omega) (Nat.le_of_ble_eq_true rfl) zsh_177 rfl rfl ?_
        rintro _ N5 _ _ ⟨rfl, rfl, rfl, y1, y2, y3⟩
        have hp5 := zPf_t hp y1
        by_cases e44 : T p.1 0 = 3 ∧ T p.1 2 = 44
        · obtain ⟨z1, z2⟩ := zTok_3 hT hpc e44.1
          obtain ⟨y4, y5⟩ := y2 e44
          rw [show zpNS T c p 44 = zpn c p from if_pos (zpS_i.mpr e44), zpn_o z1] at hr
          skip
          refine wp_aload_n (q := 329) dX12_goesOn_328 0 rfl rfl ?_
          refine wp_getI (q := 332) dX12_goesOn_329 zf_RX12_236 rfl zsh_177 rfl ?_
          rw [y4.2.1]
          refine wp_if_eqN (tgt := 337) (q := 335) dX12_goesOn_332 (by decide) rfl (by omega) (fun _ => ?_) (fun hn => absurd hn (by first | omega | exact fun h => h | exact fun h => h trivial))
          refine wp_aload_n (q := 338) dX12_goesOn_337 0 rfl rfl ?_
          have hdm : zdw zPm (zWf ((k, m, n, a, l, wk) :: fr)) F = (wk :: zWf fr, zap a (zap m F)) := zdm_f (f := (k, m, n, a, l, wk)) k1 (by show 20 ≤ wk ∧ wk ≤ 24; omega)
          refine wp_cvy (q := 341) (sp_mdropsToMark (d := d) (zSQ_p a5 hp5) (zWf_x hk) hdm) zm_X12_dropsToMark zl_RX12_377 dX12_goesOn_338 rfl (by omega) (Nat.le_of_ble_eq_true rfl) zsh_177 rfl rfl ?_
          rintro _ N6 _ _ ⟨rfl, rfl, rfl, hQ6, hq6⟩
          have e46 : N6 177 46 = nI ((zWf fr ++ W0).length + 1) := hQ6.2.2.1
          have etop : N6 212 (zWf fr ++ W0).length = nI wk := hQ6.2.2.2.1.1.1
          have hln6 : g + (zap a (zap m F)).length + ((zWf fr ++ W0).length + 1) ≤ 1600 := hQ6.2.2.2.2.2
          refine wp_aload_n (q := 342) dX12_goesOn_341 0 rfl rfl ?_
          refine wp_getR (q := 345) dX12_goesOn_342 zf_RX12_118 rfl zsh_177 (zr_177_45 _) rfl ?_
          refine wp_aload_n (q := 346) dX12_goesOn_345 0 rfl rfl ?_
          refine wp_getI (q := 349) dX12_goesOn_346 zf_RX12_316 rfl zsh_177 rfl ?_
          rw [e46]
          refine wp_iconst (q := 350) dX12_goesOn_349 zq_iconst_1 rfl ?_
          refine wp_isubN (q := 351) dX12_goesOn_350 (by omega) rfl ?_
          first | refine wp_dup2 (q := 352) dX12_goesOn_351 rfl rfl rfl ?_ | refine wp_dup2L (q := 352) dX12_goesOn_351 rfl rfl ?_
          refine wp_iald (q := 353) _ dX12_goesOn_352 zsh_212 rfl (by omega) (by decide) rfl ?_
          rw [Nat.add_sub_cancel, etop]
          refine wp_iconst (q := 354) dX12_goesOn_353 zq_iconst_2 rfl ?_
          refine wp_iaddN (q := 355) dX12_goesOn_354 rfl ?_
          refine wp_iast (q := 356) _ dX12_goesOn_355 zsh_212 rfl (by omega) (by decide) rfl ?_
          refine wp_iconst (q := 357) dX12_goesOn_356 zq_iconst_1 rfl ?_
          have hQ7 := zSQ_set (y := wk + 2) hQ6 (by omega)
          have hq7 : zQf g 44 N6 (zu N6 212 (zWf fr ++ W0).length (nI (wk + 2))) := zQf_k zQf_r
          have hq8 := zQf_t hq6 hq7
          have eW2 : zWf ((k, 0, 1600, 0, 1600, wk + 2) :: fr) = (wk + 2) :: zWf fr := by
            show zWl (k, 0, 1600, 0, 1600, wk + 2) ++ _ = _
            rw [zWl_w (by omega)]
            rfl
          refine wp_zreturn dX12_goesOn_357 rfl (by first | with_reducible exact znar_0 | with_reducible exact znar_1 | assumption) ⟨rfl, ⟨true, rfl, rfl, rfl, zSf_t (zSf_p hf hp5) hq8.1, fun _ => ⟨(p.1 + 1, p.2.1, p.2.2.1, p.2.2.2), zap a (zap m F), (k, 0, 1600, 0, 1600, wk + 2), fr, o, ⟨zAt_q y4 hq8 (by decide), by rw [hq8.2 6 (by decide) (by decide) (by decide), y5, h6]; exact a2, a3, by rw [hq8.2 47 (by decide) (by decide) (by decide), y1.2 47 (by decide) (by decide) (by decide) (by decide) (by decide)]; exact h47, by rw [eW2]; exact hQ7, ?_⟩, ?_, ho, hr, by show P + 1 ≤ p.1 + 1; omega⟩, fun e => by cases e⟩⟩ rfl rfl
          · rw [eW2]
            show g + (zap a (zap m F)).length + ((zWf fr ++ W0).length + 1) + 1 ≤ p.1 + 1
            rw [if_neg (show ¬ wk = 0 by omega)] at n1'
            omega
          · obtain ⟨q3, q4, q5, q6⟩ := zKv_m (Nat.le_succ p.1) _ _ hk
            refine ⟨⟨Or.inl rfl, Or.inl rfl, Or.inr ⟨Nat.le_add_right _ _, Nat.le_add_right _ _⟩⟩, q4, q5, Or.inr ⟨Or.inl (by show 20 ≤ wk + 2 ∧ wk + 2 ≤ 24; omega), ?_⟩⟩
            rcases q6 with q6 | q6
            · exact absurd q6.2 (by show ¬ wk = 0; omega)
            · exact q6.2
        · rw [show zpNS T c p 44 = zpfh T c p from if_neg (fun e => e44 (zpS_i.mp e))] at hr
          have hb := y3 e44
          have hX : zPX N5 b len T c r := zPX_a hr (zpf_22 a3) (by decide) (by decide) hrc hb
          refine wp_aload_n (q := 329) dX12_goesOn_328 0 rfl rfl ?_
          refine wp_getI (q := 332) dX12_goesOn_329 zf_RX12_236 rfl zsh_177 rfl ?_
          rw [hb.1]
          refine wp_if_eqN (tgt := 337) (q := 335) dX12_goesOn_332 (by decide) rfl (by omega) (fun hn => absurd hn (by first | omega | exact fun h => h | exact fun h => h trivial)) (fun _ => ?_)
          refine wp_iconst (q := 336) dX12_goesOn_335 zq_iconst_0 rfl ?_
          exact wp_zreturn dX12_goesOn_336 rfl (by first | with_reducible exact znar_0 | with_reducible exact znar_1 | assumption) ⟨rfl, ⟨false, rfl, rfl, rfl, zSf_p hf hp5, fun e => (by cases e), fun _ => Or.inl hX⟩⟩ rfl rfl
      have C358 : wk = 20 ∨ wk = 23 ∨ wk = 24 → WP w YX12_goesOn (d + 3, SS, 0, 0) G (some (zXp (fun v0 M' L' R' => ∃ o, v0 = some (.int (nI (zb01 o))) ∧ L = L' ∧ R' = zRf t ∧ zSf g M M' ∧ (o = true → zPA false M' b len T c g W0 r (P + 1)) ∧ (o = false → zPX M' b len T c r ∨ zPC M' b len T c g W0 r)))) 358 [(0, .ref 177)] [] SS N4 L (zRf t) := by
        intro hw2
        have n41 : ¬ (T p.1 0 = 3 ∧ T p.1 2 = 41) := fun e => h41 ⟨e, hw2⟩
        have hz : (zkm T c false k wk (p, zap a (zap m F))).1.2.2 = (1, nI (T p.1 1)) := by
          have e : zpNS T c p 41 = zpfh T c p := if_neg (fun e => n41 (zpS_i.mp e))
          have e2 : (zpfh T c p).2.2 = (1, nI (T p.1 1)) := zpf_22 a3
          rcases hw2 with rfl | rfl | rfl
          · show (zpNS T c p 41).2.2 = _
            rw [e, e2]
          · show (zpNS T c p 41).2.2 = _
            rw [e, e2]
          · show (zpNS T c p 41).2.2 = _
            rw [e, e2]
        refine wp_aload_n (q := 359) dX12_goesOn_358 0 rfl rfl ?_
        refine wp_cvx (q := 362) (sp_mwaitsLast (d := d + 1) hS4.2.2.1 hS4.2.2.2.2.1 hS4.2.2.2.1 (by omega)) zm_X12_waitsLast zl_RX12_374 dX12_goesOn_359 rfl (by omega) (Nat.le_of_ble_eq_true rfl) zsh_177 rfl rfl ?_
        rw [hv, if_neg (by omega)]
        refine wp_iconst (q := 363) dX12_goesOn_362 zq_iconst_m1 rfl ?_
        refine wp_icmp_eq (tgt := 382) (q := 366) dX12_goesOn_363 (by decide) rfl (fun hn => absurd hn (by exact znn (by omega))) (fun _ => ?_)
        refine wp_aload_n (q := 367) dX12_goesOn_366 0 rfl rfl ?_
        refine wp_getI (q := 370) dX12_goesOn_367 zf_RX12_236 rfl zsh_177 rfl ?_
        rw [hA.2.1]
        refine wp_if_neN (tgt := 382) (q := 373) dX12_goesOn_370 (by decide) rfl (by omega) (fun hn => absurd hn (by first | omega | exact fun h => h | exact fun h => h trivial)) (fun _ => ?_)
        refine wp_aload_n (q := 374) dX12_goesOn_373 0 rfl rfl ?_
        refine wp_iconst (q := 375) dX12_goesOn_374 zq_iconst_1 rfl ?_
        refine wp_aload_n (q := 376) dX12_goesOn_375 0 rfl rfl ?_
        refine wp_getI (q := 379) dX12_goesOn_376 zf_RX12_242 rfl zsh_177 rfl ?_
        rw [h2]
        refine wp_cvx (q := 382) (sp_mfail (d := d + 2) hA.2.1) zm_X12_fail zl_RX12_266 dX12_goesOn_379 rfl (by omega) (Nat.le_of_ble_eq_true rfl) zsh_177 rfl rfl ?_
        refine wp_iconst (q := 383) dX12_goesOn_382 zq_iconst_0 rfl ?_
        exact wp_zreturn dX12_goesOn_383 rfl (by first | with_reducible exact znar_0 | with_reducible exact znar_1 | assumption) ⟨rfl, ⟨false, rfl, rfl, rfl, zSf_7 (zSf_7 (zSf_p hf hp) (by omega)) (by omega), fun e => (by cases e), fun _ => Or.inl (zPX_i hr hz (by decide) (by decide) hrc zBd_5)⟩⟩ rfl rfl
      have hc6 : wk = 0 ∨ wk = 20 ∨ wk = 21 ∨ wk = 22 ∨ wk = 23 ∨ wk = 24 := by omega
      refine wp_aload_n (q := 305) dX12_goesOn_304 0 rfl rfl ?_
      refine wp_cvx (q := 308) (sp_mwaitsLast (d := d + 1) hS4.2.2.1 hS4.2.2.2.2.1 hS4.2.2.2.1 (by omega)) zm_X12_waitsLast zl_RX12_374 dX12_goesOn_305 rfl (by omega) (Nat.le_of_ble_eq_true rfl) zsh_177 rfl rfl ?_
      by_cases hw21 : wk = 21
      · rw [hv, if_neg (by omega), hw21]
        refine wp_bipush (q := 310) dX12_goesOn_308 zq_bipush_21 rfl ?_
        refine wp_icmp_eq (tgt := 322) (q := 313) dX12_goesOn_310 (by decide) rfl (fun _ => ?_) (fun hn => absurd hn (by exact fun e => e rfl))
        refine WP.sub (loc' := [(0, _)]) [0] rfl ?_
        exact C322 (Or.inl hw21)
      · skip
        refine wp_bipush (q := 310) dX12_goesOn_308 zq_bipush_21 rfl ?_
        refine wp_icmp_eq (tgt := 322) (q := 313) dX12_goesOn_310 (by decide) rfl (fun hn => absurd hn (by exact hvn 21 (by decide) hw21)) (fun _ => ?_)
        refine wp_aload_n (q := 314) dX12_goesOn_313 0 rfl rfl ?_
        refine wp_cvx (q := 317) (sp_mwaitsLast (d := d + 1) hS4.2.2.1 hS4.2.2.2.2.1 hS4.2.2.2.1 (by omega)) zm_X12_waitsLast zl_RX12_374 dX12_goesOn_314 rfl (by omega) (Nat.le_of_ble_eq_true rfl) zsh_177 rfl rfl ?_
        by_cases hw22 : wk = 22
        · rw [hv, if_neg (by omega), hw22]
          refine wp_bipush (q := 319) dX12_goesOn_317 zq_bipush_22 rfl ?_
          refine wp_icmp_ne (tgt := 358) (q := 322) dX12_goesOn_319 (by decide) rfl (fun hn => absurd hn (by exact fun e => e rfl)) (fun _ => ?_)
          refine WP.sub (loc' := [(0, _)]) [0] rfl ?_
          exact C322 (Or.inr hw22)
        · skip
          refine wp_bipush (q := 319) dX12_goesOn_317 zq_bipush_22 rfl ?_
          refine wp_icmp_ne (tgt := 358) (q := 322) dX12_goesOn_319 (by decide) rfl (fun _ => ?_) (fun hn => absurd hn (by exact hvn 22 (by decide) hw22))
          by_cases hw2 : wk = 20 ∨ wk = 23 ∨ wk = 24
          · skip
            refine WP.sub (loc' := [(0, _)]) [0] rfl ?_
            exact C358 hw2
          · have ew : wk = 0 := by omega
            have efr : fr = [] := hfr ew
            subst ew
            subst efr
            refine wp_aload_n (q := 359) dX12_goesOn_358 0 rfl rfl ?_
            refine wp_cvx (q := 362) (sp_mwaitsLast (d := d + 1) hS4.2.2.1 hS4.2.2.2.2.1 hS4.2.2.2.1 (by omega)) zm_X12_waitsLast zl_RX12_374 dX12_goesOn_359 rfl (by omega) (Nat.le_of_ble_eq_true rfl) zsh_177 rfl rfl ?_
            rw [hv, if_pos rfl]
            refine wp_iconst (q := 363) dX12_goesOn_362 zq_iconst_m1 rfl ?_
            refine wp_icmp_eq (tgt := 382) (q := 366) dX12_goesOn_363 (by decide) rfl (fun _ => ?_) (fun hn => absurd hn (by exact fun e => e rfl))
            refine wp_iconst (q := 383) dX12_goesOn_382 zq_iconst_0 rfl ?_
            exact wp_zreturn dX12_goesOn_383 rfl (by first | with_reducible exact znar_0 | with_reducible exact znar_1 | assumption) ⟨rfl, ⟨false, rfl, rfl, rfl, zSf_p hf hp, fun e => (by cases e), fun _ => Or.inr ⟨p, F, (k, m, n, a, l, 0), ⟨hA, by rw [h6]; exact a2, a3, h47, zSQ_p a5' hp, by rw [eW] at a6; exact a6⟩, k1, rfl, hr.symm⟩⟩⟩ rfl rfl
    refine wp_aload_n (q := 119) dX12_goesOn_118 0 rfl rfl ?_
    refine wp_bipush (q := 121) dX12_goesOn_119 zq_bipush_42 rfl ?_
    obtain ⟨o1, ho1⟩ : ∃ o, decide (T p.1 0 = 3 ∧ T p.1 2 = 42) = o := ⟨_, rfl⟩
    refine wp_cvy (q := 124) (sp_mtakesSign (d := d + 1) (s := 42) a1 hT (by decide) (by decide) ho1) zm_X12_takesSign zl_RX12_270 dX12_goesOn_121 rfl (by omega) (Nat.le_of_ble_eq_true rfl) zsh_177 rfl rfl ?_
    rintro _ N1 _ _ ⟨rfl, rfl, rfl, p1, s1, t1, u1⟩
    cases o1 with
    | true =>
      refine wp_if_ne (tgt := 136) (q := 127) dX12_goesOn_124 (by decide) rfl (fun _ => ?_) (fun hn => absurd hn (by decide))
      refine WP.sub (loc' := [(0, _)]) [0] rfl ?_
      exact C136 N1 42 (Or.inl rfl) p1 s1 (t1 rfl).1 (t1 rfl).2 (of_decide_eq_true ho1)
    | false =>
    have x42 := of_decide_eq_false ho1
    refine wp_if_ne (tgt := 136) (q := 127) dX12_goesOn_124 (by decide) rfl (fun hn => absurd hn (by decide)) (fun _ => ?_)
    refine wp_aload_n (q := 128) dX12_goesOn_127 0 rfl rfl ?_
    refine wp_bipush (q := 130) dX12_goesOn_128 zq_bipush_47 rfl ?_
    obtain ⟨o2, ho2⟩ : ∃ o, decide (T p.1 0 = 3 ∧ T p.1 2 = 47) = o := ⟨_, rfl⟩
    refine wp_cvy (q := 133) (sp_mtakesSign (d := d + 1) (s := 47) (u1 rfl).1 hT (by decide) (by decide) ho2) zm_X12_takesSign zl_RX12_270 dX12_goesOn_130 rfl (by omega) (Nat.le_of_ble_eq_true rfl) zsh_177 rfl rfl ?_
    rintro _ N2 _ _ ⟨rfl, rfl, rfl, p2', s2', t2, u2⟩
    have p2 := zPf_t p1 p2'
    have s2 := s2'.trans s1
    cases o2 with
    | true =>
      refine wp_if_eq (tgt := 203) (q := 136) dX12_goesOn_133 (by decide) rfl (fun hn => absurd hn (by decide)) (fun _ => ?_)
      refine WP.sub (loc' := [(0, _)]) [0] rfl ?_
      exact C136 N2 47 (Or.inr rfl) p2 s2 (t2 rfl).1 (t2 rfl).2 (of_decide_eq_true ho2)
    | false =>
    have x47 := of_decide_eq_false ho2
    refine wp_if_eq (tgt := 203) (q := 136) dX12_goesOn_133 (by decide) rfl (fun _ => ?_) (fun hn => absurd hn (by decide))
    refine wp_aload_n (q := 204) dX12_goesOn_203 0 rfl rfl ?_
    refine wp_bipush (q := 206) dX12_goesOn_204 zq_bipush_43 rfl ?_
    obtain ⟨o3, ho3⟩ : ∃ o, decide (T p.1 0 = 3 ∧ T p.1 2 = 43) = o := ⟨_, rfl⟩
    refine wp_cvy (q := 209) (sp_mtakesSign (d := d + 1) (s := 43) (u2 rfl).1 hT (by decide) (by decide) ho3) zm_X12_takesSign zl_RX12_270 dX12_goesOn_206 rfl (by omega) (Nat.le_of_ble_eq_true rfl) zsh_177 rfl rfl ?_
    rintro _ N3 _ _ ⟨rfl, rfl, rfl, p3', s3', t3, u3⟩
    have p3 := zPf_t p2 p3'
    have s3 := s3'.trans s2
    cases o3 with
    | true =>
      refine wp_if_ne (tgt := 221) (q := 212) dX12_goesOn_209 (by decide) rfl (fun _ => ?_) (fun hn => absurd hn (by decide))
      refine WP.sub (loc' := [(0, _)]) [0] rfl ?_
      exact C221 N3 43 (Or.inl rfl) p3 s3 (t3 rfl).1 (t3 rfl).2 (of_decide_eq_true ho3)
    | false =>
    have x43 := of_decide_eq_false ho3
    refine wp_if_ne (tgt := 221) (q := 212) dX12_goesOn_209 (by decide) rfl (fun hn => absurd hn (by decide)) (fun _ => ?_)
    refine wp_aload_n (q := 213) dX12_goesOn_212 0 rfl rfl ?_
    refine wp_bipush (q := 215) dX12_goesOn_213 zq_bipush_45 rfl ?_
    obtain ⟨o4, ho4⟩ : ∃ o, decide (T p.1 0 = 3 ∧ T p.1 2 = 45) = o := ⟨_, rfl⟩
    refine wp_cvy (q := 218) (sp_mtakesSign (d := d + 1) (s := 45) (u3 rfl).1 hT (by decide) (by decide) ho4) zm_X12_takesSign zl_RX12_270 dX12_goesOn_215 rfl (by omega) (Nat.le_of_ble_eq_true rfl) zsh_177 rfl rfl ?_
    rintro _ N4 _ _ ⟨rfl, rfl, rfl, p4', s4', t4, u4⟩
    have p4 := zPf_t p3 p4'
    have s4 := s4'.trans s3
    cases o4 with
    | true =>
      refine wp_if_eq (tgt := 304) (q := 221) dX12_goesOn_218 (by decide) rfl (fun hn => absurd hn (by decide)) (fun _ => ?_)
      refine WP.sub (loc' := [(0, _)]) [0] rfl ?_
      exact C221 N4 45 (Or.inr rfl) p4 s4 (t4 rfl).1 (t4 rfl).2 (of_decide_eq_true ho4)
    | false =>
    have x45 := of_decide_eq_false ho4
    refine wp_if_eq (tgt := 304) (q := 221) dX12_goesOn_218 (by decide) rfl (fun _ => ?_) (fun hn => absurd hn (by decide))
    refine WP.sub (loc' := [(0, _)]) [0] rfl ?_
    exact C304 N4 p4 s4 (u4 rfl).1 (u4 rfl).2 x42 x47 x43 x45
  have C0 : ∀ (q : Nat) (M2 : zMI) (p : zP) (F : zFl) (f : zLv) (fr : List zLv) (o : Nat), c ≤ q + p.1 → zSS M2 b len T c p F (zWf (f :: fr) ++ W0) g W0.length → zKv false p.1 o (f :: fr) → p.2.1 = nI o → zks T c false (f :: fr) (p, F) = r → P < p.1 → zSf g M M2 → WP w YX12_goesOn (d + 3, SS, 0, 0) G (some (zXp (fun v0 M' L' R' => ∃ o, v0 = some (.int (nI (zb01 o))) ∧ L = L' ∧ R' = zRf t ∧ zSf g M M' ∧ (o = true → zPA false M' b len T c g W0 r (P + 1)) ∧ (o = false → zPX M' b len T c r ∨ zPC M' b len T c g W0 r)))) 0 [(0, .ref 177)] [] SS M2 L (zRf t) := by
    intro q
    induction q with
    | zero => intro M2 p F f fr o hq hS; exact absurd hS.1.2.2.1 (by omega)
    | succ q ih =>
      intro M2 p F f fr o hq hS hk ho hr hP hf
      obtain ⟨a1, a2, a3, a4, a5, a6⟩ := hS
      have hc := zTok_c hT a1
      have hpc := a1.2.2.1
      have hlen := zTok_len hT hpc
      have hl16 := a1.1.2.1
      have hsg := zSg (s := 41) hT (fun i hi => (a1.1.2.2 i hi).2) hpc (by decide) (by decide)
      obtain ⟨k1, k2⟩ := zKv_w hk
      have hw0 : f.2.2.2.2.2 = 0 ∨ (20 ≤ f.2.2.2.2.2 ∧ f.2.2.2.2.2 ≤ 24) := by
        rcases k2 with e | e
        · exact Or.inl e.1
        · exact Or.inr e.1
      have hw60 : f.2.2.2.2.2 ≠ 60 := by omega
      have n1 := zWl_n hw60
      refine wp_aload_n (q := 1) dX12_goesOn_0 0 rfl rfl ?_
      refine wp_getI (q := 4) dX12_goesOn_1 zf_RX12_236 rfl zsh_177 rfl ?_
      rw [a1.2.1]
      refine wp_if_neN (tgt := 118) (q := 7) dX12_goesOn_4 (by decide) rfl (by omega) (fun hn => absurd hn (by first | omega | exact fun h => h | exact fun h => h trivial)) (fun _ => ?_)
      refine wp_aload_n (q := 8) dX12_goesOn_7 0 rfl rfl ?_
      refine wp_cvy (q := 11) (sp_mLook (d := d + 1) a1 hT) zm_X12_look zl_RX12_248 dX12_goesOn_8 rfl (by omega) (Nat.le_of_ble_eq_true rfl) zsh_177 rfl rfl ?_
      rintro _ N1 _ _ ⟨rfl, rfl, rfl, c1, c2, c3, c4⟩
      have hp1 : zPf M2 N1 := ⟨c4, fun k k1 _ _ _ _ => c3 k k1⟩
      have hS1 : zSS N1 b len T c p F (zWf (f :: fr) ++ W0) g W0.length := ⟨c1, by rw [c3 6 (by decide)]; exact a2, a3, by rw [c3 47 (by decide)]; exact a4, zSQ_p a5 hp1, a6⟩
      have hf1 := zSf_p hf hp1
      have hQ1 := zSQ_p a5 hp1
      have hln1 := hQ1.2.2.2.2.2
      refine wp_bipush (q := 13) dX12_goesOn_11 zq_bipush_41 rfl ?_
      refine wp_icmp_ne (tgt := 118) (q := 16) dX12_goesOn_13 (by decide) rfl (fun z41 => ?_) (fun z41 => ?_)
      · skip
        refine WP.sub (loc' := [(0, _)]) [0] rfl ?_
        exact C118 N1 p F f fr o hS1 hk ho hr hP hf1 (fun e => z41 (hsg.mpr e.1))
      · skip
        have h41 := hsg.mp z41
        obtain ⟨z1, z2⟩ := zTok_3 hT hpc h41.1
        have hv : zLm (zWf (f :: fr)) = if f.2.2.2.2.2 = 0 then zLm (zWf fr) else nI f.2.2.2.2.2 := zLm_f k1 hw0
        have hvn : ∀ x, x < 100 → f.2.2.2.2.2 ≠ x → ¬ zLm (zWf (f :: fr)) = nI x := fun x y1 y2 => zmv hv (fun e => by
          rcases k2 with k2 | k2
          · rw [k2.2]; rfl
          · omega) (by omega) y1 y2
        have hvy : ∀ x, 20 ≤ x → f.2.2.2.2.2 = x → zLm (zWf (f :: fr)) = nI x := fun x y1 y2 => by rw [hv, if_neg (by omega), y2]
        have C43 : (f.2.2.2.2.2 = 20 ∨ f.2.2.2.2.2 = 23 ∨ f.2.2.2.2.2 = 24) → WP w YX12_goesOn (d + 3, SS, 0, 0) G (some (zXp (fun v0 M' L' R' => ∃ o, v0 = some (.int (nI (zb01 o))) ∧ L = L' ∧ R' = zRf t ∧ zSf g M M' ∧ (o = true → zPA false M' b len T c g W0 r (P + 1)) ∧ (o = false → zPX M' b len T c r ∨ zPC M' b len T c g W0 r)))) 43 [(0, .ref 177)] [] SS N1 L (zRf t) := by
          intro hw
          rcases k2 with k2 | ⟨k2, k3, k4⟩
          · omega
          rw [show zks T c false (f :: fr) (p, F) = zks T c false fr (zkm T c false f.1 f.2.2.2.2.2 (p, zap f.2.2.2.1 (zap f.2.1 F))) from zks_end hw60 (zpS_f.mpr (by omega)) (zpS_f.mpr (by omega)) (zpS_f.mpr (by omega)) (zpS_f.mpr (by omega))] at hr
          have hns : zpNS T c p 41 = (p.1 + 1, p.2.1, p.2.2.1, p.2.2.2) := by rw [← zpn_o z1]; exact if_pos (zpS_i.mpr h41)
          have hop : nI o - nI 1 = nI (o - 1) := pk_sub k3
          obtain ⟨F2, hF2⟩ : ∃ F2, zap f.2.2.2.1 (zap f.2.1 F) = F2 := ⟨_, rfl⟩
          have hln : (zap f.2.1 F).length = F.length + if f.2.1 = 0 then 0 else 1 := zap_n
          have hln2 : (zap f.2.2.2.1 (zap f.2.1 F)).length = (zap f.2.1 F).length + if f.2.2.2.1 = 0 then 0 else 1 := zap_n
          have hdm := zdm_f (V := zWf fr) (F := F) k1 k2
          rw [hF2] at hr hdm hln2
          have lnW : (zWf (f :: fr) ++ W0).length = (zWl f).length + (zWf fr ++ W0).length := by
            rw [show zWf (f :: fr) ++ W0 = zWl f ++ (zWf fr ++ W0) from List.append_assoc _ _ _, List.length_append]
          obtain ⟨f2, fr2, hfr⟩ : ∃ f2 fr2, fr = f2 :: fr2 := by
            cases fr with
            | nil => exact k4.elim
            | cons f2 fr2 => exact ⟨f2, fr2, rfl⟩
          refine wp_aload_n (q := 44) dX12_goesOn_43 0 rfl rfl ?_
          refine wp_dup (q := 45) dX12_goesOn_44 rfl rfl ?_
          refine wp_getI (q := 48) dX12_goesOn_45 zf_RX12_242 rfl zsh_177 rfl ?_
          rw [c2]
          refine wp_iconst (q := 49) dX12_goesOn_48 zq_iconst_1 rfl ?_
          refine wp_iaddN (q := 50) dX12_goesOn_49 rfl ?_
          refine wp_putI (q := 53) dX12_goesOn_50 zf_RX12_242 rfl zsh_177 rfl ?_
          refine wp_aload_n (q := 54) dX12_goesOn_53 0 rfl rfl ?_
          have hg2 := zAt_g c1 hT h41.1
          obtain ⟨N2, hN2⟩ : ∃ N2, zu N1 177 2 (nI (T p.1 1 + 1)) = N2 := ⟨_, rfl⟩
          have hQ2 : zSQ N2 g F (zWf (f :: fr) ++ W0) W0.length := by rw [← hN2]; exact zSQ_7 hQ1 (by decide) (by decide) (by decide)
          have hf2 : zSf g M N2 := by rw [← hN2]; exact zSf_7 hf1 (by omega)
          have h26 : N2 177 6 = p.2.2.2 := by rw [← hN2, zu_k (by decide)]; exact hS1.2.1
          have h247 : N2 177 47 = nI o := by rw [← hN2, zu_k (by decide), hS1.2.2.2.1, ho]
          rw [hN2] at hg2
          rw [hN2]
          refine wp_cvy (q := 57) (sp_mdropsToMark (d := d) hQ2 (zWf_x hk) hdm) zm_X12_dropsToMark zl_RX12_377 dX12_goesOn_54 rfl (by omega) (Nat.le_of_ble_eq_true rfl) zsh_177 rfl rfl ?_
          rintro _ N3 _ _ ⟨rfl, rfl, rfl, hQ3, hq3⟩
          have e46 : N3 177 46 = nI ((zWf fr ++ W0).length + 1) := hQ3.2.2.1
          have etop : N3 212 (zWf fr ++ W0).length = nI f.2.2.2.2.2 := hQ3.2.2.2.1.1.1
          have hln6 : g + F2.length + ((zWf fr ++ W0).length + 1) ≤ 1600 := hQ3.2.2.2.2.2
          have e47 : N3 177 47 = nI o := by rw [hq3.2 47 (by decide) (by decide) (by decide)]; exact h247
          refine wp_aload_n (q := 58) dX12_goesOn_57 0 rfl rfl ?_
          refine wp_dup (q := 59) dX12_goesOn_58 rfl rfl ?_
          refine wp_getI (q := 62) dX12_goesOn_59 zf_RX12_316 rfl zsh_177 rfl ?_
          rw [e46]
          refine wp_iconst (q := 63) dX12_goesOn_62 zq_iconst_1 rfl ?_
          refine wp_isubN (q := 64) dX12_goesOn_63 (by omega) rfl ?_
          rw [Nat.add_sub_cancel]
          refine wp_putI (q := 67) dX12_goesOn_64 zf_RX12_316 rfl zsh_177 rfl ?_
          refine wp_aload_n (q := 68) dX12_goesOn_67 0 rfl rfl ?_
          refine wp_dup (q := 69) dX12_goesOn_68 rfl rfl ?_
          refine wp_getI (q := 72) dX12_goesOn_69 zf_RX12_319 rfl zsh_177 rfl ?_
          rw [zu_k (by decide), e47]
          refine wp_iconst (q := 73) dX12_goesOn_72 zq_iconst_1 rfl ?_
          refine wp_isubN (q := 74) dX12_goesOn_73 (by omega) rfl ?_
          refine wp_putI (q := 77) dX12_goesOn_74 zf_RX12_319 rfl zsh_177 rfl ?_
          refine wp_aload_n (q := 78) dX12_goesOn_77 0 rfl rfl ?_
          refine wp_getR (q := 81) dX12_goesOn_78 zf_RX12_118 rfl zsh_177 (zr_177_45 _) rfl ?_
          refine wp_aload_n (q := 82) dX12_goesOn_81 0 rfl rfl ?_
          refine wp_getI (q := 85) dX12_goesOn_82 zf_RX12_316 rfl zsh_177 rfl ?_
          rw [zu_k (by decide), zu_s]
          refine wp_iald (q := 86) _ dX12_goesOn_85 zsh_212 rfl (by omega) (by decide) rfl ?_
          rw [zu_ne (by decide), zu_ne (by decide), etop]
          have hQ4 : zSQ (zu (zu N3 177 46 (nI (zWf fr ++ W0).length)) 177 47 (nI (o - 1))) g F2 (zWf fr ++ W0) W0.length := zSQ_7 (zSQ_drop hQ3) (by decide) (by decide) (by decide)
          have hq4 : zQf g 47 N3 (zu (zu N3 177 46 (nI (zWf fr ++ W0).length)) 177 47 (nI (o - 1))) := zQf_7 (zQf_7 zQf_r (Or.inr rfl) (by omega)) (Or.inr rfl) (by omega)
          have h46' : (zu (zu N3 177 46 (nI (zWf fr ++ W0).length)) 177 47 (nI (o - 1))) 177 46 = nI (zWf fr ++ W0).length := by rw [zu_k (by decide), zu_s]
          have h47' : (zu (zu N3 177 46 (nI (zWf fr ++ W0).length)) 177 47 (nI (o - 1))) 177 47 = nI (o - 1) := zu_s
          have h412 : (zu (zu N3 177 46 (nI (zWf fr ++ W0).length)) 177 47 (nI (o - 1))) 212 (zWf fr ++ W0).length = nI f.2.2.2.2.2 := by rw [zu_ne (by decide), zu_ne (by decide)]; exact etop
          obtain ⟨N4, hN4⟩ : ∃ N4, zu (zu N3 177 46 (nI (zWf fr ++ W0).length)) 177 47 (nI (o - 1)) = N4 := ⟨_, rfl⟩
          rw [hN4] at hQ4 hq4 h46' h47' h412
          rw [hN4]
          have hA4 := zAt_q (zAt_q hg2 hq3 (by decide)) hq4 (by decide)
          have h46a : N4 177 6 = p.2.2.2 := by rw [hq4.2 6 (by decide) (by decide) (by decide), hq3.2 6 (by decide) (by decide) (by decide)]; exact h26
          have hf4 : zSf g M N4 := zSf_t (zSf_t hf2 hq3.1) hq4.1
          have hk4 := zKv_m (Nat.le_succ p.1) _ _ k4
          rw [hfr] at hr hQ4 hk4
          have eL : (zWf fr ++ W0).length = (zWf (f2 :: fr2) ++ W0).length := by rw [hfr]
          rw [if_neg (show ¬ f.2.2.2.2.2 = 0 by omega)] at n1
          have hcnt : g + F2.length + (zWf (f2 :: fr2) ++ W0).length + 1 ≤ p.1 := by omega
          refine wp_bipush (q := 88) dX12_goesOn_86 zq_bipush_20 rfl ?_
          by_cases w20 : f.2.2.2.2.2 = 20
          · rw [w20]
            refine wp_icmp_eq (tgt := 0) (q := 91) dX12_goesOn_88 (by decide) rfl (fun _ => ?_) (fun hn => absurd hn (by exact fun e => e rfl))
            refine WP.sub (loc' := [(0, _)]) [0] rfl ?_
            rw [w20] at hr
            have e : zkm T c false f.1 20 (p, F2) = ((p.1 + 1, nI (o - 1), p.2.2.1, p.2.2.2), F2) := by
              show (zpl (zpNS T c p 41), F2) = _
              rw [hns]
              show ((p.1 + 1, p.2.1 - nI 1, p.2.2.1, p.2.2.2), F2) = _
              rw [ho, hop]
            rw [e] at hr
            exact ih N4 (p.1 + 1, nI (o - 1), p.2.2.1, p.2.2.2) F2 f2 fr2 (o - 1) (by show c ≤ q + (p.1 + 1); omega) ⟨hA4, h46a, a3, h47', hQ4, by show _ ≤ p.1 + 1; omega⟩ hk4 rfl hr (by show P < p.1 + 1; omega) hf4
          · skip
            refine wp_icmp_eq (tgt := 0) (q := 91) dX12_goesOn_88 (by decide) rfl (fun hn => absurd hn (by exact znqq (by omega) (by decide) w20)) (fun _ => ?_)
            refine wp_aload_n (q := 92) dX12_goesOn_91 0 rfl rfl ?_
            refine wp_aload_n (q := 93) dX12_goesOn_92 0 rfl rfl ?_
            refine wp_getR (q := 96) dX12_goesOn_93 zf_RX12_118 rfl zsh_177 (zr_177_45 _) rfl ?_
            refine wp_aload_n (q := 97) dX12_goesOn_96 0 rfl rfl ?_
            refine wp_getI (q := 100) dX12_goesOn_97 zf_RX12_316 rfl zsh_177 rfl ?_
            rw [h46']
            refine wp_iald (q := 101) _ dX12_goesOn_100 zsh_212 rfl (by omega) (by decide) rfl ?_
            rw [h412]
            have fin : ∀ (op x : Nat), zcd op 0 = x → zkm T c false f.1 f.2.2.2.2.2 (p, F2) = ((p.1 + 1, nI (o - 1), p.2.2.1, p.2.2.2), F2 ++ [(op, 0)]) → WP w YX12_goesOn (d + 3, SS, 0, 0) G (some (zXp (fun v0 M' L' R' => ∃ o, v0 = some (.int (nI (zb01 o))) ∧ L = L' ∧ R' = zRf t ∧ zSf g M M' ∧ (o = true → zPA false M' b len T c g W0 r (P + 1)) ∧ (o = false → zPX M' b len T c r ∨ zPC M' b len T c g W0 r)))) 112 [(0, .ref 177)] [.int (nI x), .ref 177] SS N4 L (zRf t) := by
              intro op x hx e
              rw [e] at hr
              refine wp_cvx (q := 115) (sp_mcode (d := d + 2) (n := g + F2.length) (v := x) hQ4.1 (by omega)) zm_X12_code zl_RX12_362 dX12_goesOn_112 rfl (by omega) (Nat.le_of_ble_eq_true rfl) (by first | assumption | rfl) rfl rfl ?_
              refine wp_goto (tgt := 0) dX12_goesOn_115 (by decide) ?_
              have hq5 : zQf g 44 N4 (zu (zu N4 211 (g + F2.length) (nI x)) 177 44 (nI (g + F2.length + 1))) := zQf_7 (zQf_c zQf_r (by omega) (by omega)) (Or.inl rfl) (by omega)
              refine WP.sub (loc' := [(0, _)]) [0] rfl ?_
              refine ih _ (p.1 + 1, nI (o - 1), p.2.2.1, p.2.2.2) (F2 ++ [(op, 0)]) f2 fr2 (o - 1) (by show c ≤ q + (p.1 + 1); omega) ⟨zAt_q hA4 hq5 (by decide), by rw [hq5.2 6 (by decide) (by decide) (by decide)]; exact h46a, a3, by rw [hq5.2 47 (by decide) (by decide) (by decide)]; exact h47', zSQ_code hQ4 (by omega) hx, ?_⟩ hk4 rfl hr (by show P < p.1 + 1; omega) (zSf_t hf4 hq5.1)
              rw [List.length_append]
              show g + (F2.length + 1) + _ + 1 ≤ p.1 + 1
              omega
            refine wp_bipush (q := 103) dX12_goesOn_101 zq_bipush_23 rfl ?_
            by_cases w23 : f.2.2.2.2.2 = 23
            · rw [w23]
              refine wp_icmp_ne (tgt := 110) (q := 106) dX12_goesOn_103 (by decide) rfl (fun hn => absurd hn (by exact fun e => e rfl)) (fun _ => ?_)
              refine wp_iconst (q := 107) dX12_goesOn_106 zq_iconst_5 rfl ?_
              refine wp_goto (tgt := 112) dX12_goesOn_107 (by decide) ?_
              refine WP.sub (loc' := [(0, _)]) [0] rfl ?_
              refine fin 8 5 rfl ?_
              rw [w23]
              show (zpl (zpNS T c p 41), F2 ++ [(8, 0)]) = _
              rw [hns]
              show ((p.1 + 1, p.2.1 - nI 1, p.2.2.1, p.2.2.2), F2 ++ [(8, 0)]) = _
              rw [ho, hop]
            · have w24 : f.2.2.2.2.2 = 24 := by omega
              refine wp_icmp_ne (tgt := 110) (q := 106) dX12_goesOn_103 (by decide) rfl (fun _ => ?_) (fun hn => absurd hn (by exact znqq (by omega) (by decide) w23))
              refine wp_bipush (q := 112) dX12_goesOn_110 zq_bipush_6 rfl ?_
              refine WP.sub (loc' := [(0, _)]) [0] rfl ?_
              refine fin 9 6 rfl ?_
              rw [w24]
              show (zpl (zpNS T c p 41), F2 ++ [(9, 0)]) = _
              rw [hns]
              show ((p.1 + 1, p.2.1 - nI 1, p.2.2.1, p.2.2.2), F2 ++ [(9, 0)]) = _
              rw [ho, hop]
        refine wp_aload_n (q := 17) dX12_goesOn_16 0 rfl rfl ?_
        refine wp_cvx (q := 20) (sp_mwaitsLast (d := d + 1) hQ1.2.2.1 hQ1.2.2.2.2.1 hQ1.2.2.2.1 (by omega)) zm_X12_waitsLast zl_RX12_374 dX12_goesOn_17 rfl (by omega) (Nat.le_of_ble_eq_true rfl) zsh_177 rfl rfl ?_
        refine wp_bipush (q := 22) dX12_goesOn_20 zq_bipush_20 rfl ?_
        by_cases w20 : f.2.2.2.2.2 = 20
        · rw [hvy 20 (by decide) w20]
          refine wp_icmp_eq (tgt := 43) (q := 25) dX12_goesOn_22 (by decide) rfl (fun _ => ?_) (fun hn => absurd hn (by exact fun e => e rfl))
          refine WP.sub (loc' := [(0, _)]) [0] rfl ?_
          exact C43 (Or.inl w20)
        · skip
          refine wp_icmp_eq (tgt := 43) (q := 25) dX12_goesOn_22 (by decide) rfl (fun hn => absurd hn (by exact hvn 20 (by decide) w20)) (fun _ => ?_)
          refine wp_aload_n (q := 26) dX12_goesOn_25 0 rfl rfl ?_
          refine wp_cvx (q := 29) (sp_mwaitsLast (d := d + 1) hQ1.2.2.1 hQ1.2.2.2.2.1 hQ1.2.2.2.1 (by omega)) zm_X12_waitsLast zl_RX12_374 dX12_goesOn_26 rfl (by omega) (Nat.le_of_ble_eq_true rfl) zsh_177 rfl rfl ?_
          refine wp_bipush (q := 31) dX12_goesOn_29 zq_bipush_23 rfl ?_
          by_cases w23 : f.2.2.2.2.2 = 23
          · rw [hvy 23 (by decide) w23]
            refine wp_icmp_eq (tgt := 43) (q := 34) dX12_goesOn_31 (by decide) rfl (fun _ => ?_) (fun hn => absurd hn (by exact fun e => e rfl))
            refine WP.sub (loc' := [(0, _)]) [0] rfl ?_
            exact C43 (Or.inr (Or.inl w23))
          · skip
            refine wp_icmp_eq (tgt := 43) (q := 34) dX12_goesOn_31 (by decide) rfl (fun hn => absurd hn (by exact hvn 23 (by decide) w23)) (fun _ => ?_)
            refine wp_aload_n (q := 35) dX12_goesOn_34 0 rfl rfl ?_
            refine wp_cvx (q := 38) (sp_mwaitsLast (d := d + 1) hQ1.2.2.1 hQ1.2.2.2.2.1 hQ1.2.2.2.1 (by omega)) zm_X12_waitsLast zl_RX12_374 dX12_goesOn_35 rfl (by omega) (Nat.le_of_ble_eq_true rfl) zsh_177 rfl rfl ?_
            refine wp_bipush (q := 40) dX12_goesOn_38 zq_bipush_24 rfl ?_
            by_cases w24 : f.2.2.2.2.2 = 24
            · rw [hvy 24 (by decide) w24]
              refine wp_icmp_ne (tgt := 118) (q := 43) dX12_goesOn_40 (by decide) rfl (fun hn => absurd hn (by exact fun e => e rfl)) (fun _ => ?_)
              refine WP.sub (loc' := [(0, _)]) [0] rfl ?_
              exact C43 (Or.inr (Or.inr w24))
            · skip
              refine wp_icmp_ne (tgt := 118) (q := 43) dX12_goesOn_40 (by decide) rfl (fun _ => ?_) (fun hn => absurd hn (by exact hvn 24 (by decide) w24))
              refine WP.sub (loc' := [(0, _)]) [0] rfl ?_
              exact C118 N1 p F f fr o hS1 hk ho hr hP hf1 (fun e => by have := e.2; omega)
  obtain ⟨p, F, f, fr, o, h1, h2, h3, h4, h5⟩ := h
  refine WP.sub (loc' := [(0, _)]) [0] rfl ?_
  exact C0 c M p F f fr o (by omega) h1 h2 h3 h4 h5 zSf_r

