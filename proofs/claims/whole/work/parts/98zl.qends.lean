def zSSq (M : zMI) (b : Nat → Nat) (len : Nat) (T : zDD) (c : Nat) (p : zP) (F : zFl) (W : List Nat) (g B : Nat) : Prop := zAt M b len T c p.1 ∧ M 177 6 = p.2.2.2 ∧ p.2.2.1 = 0 ∧ M 177 91 = p.2.1 ∧ zSQq M g F W B ∧ g + F.length + W.length + 1 ≤ p.1
def zPAq (M : zMI) (b : Nat → Nat) (len : Nat) (T : zDD) (c g : Nat) (W0 : List Nat) (r : zPF) (P : Nat) : Prop := ∃ p F f fr o, zSSq M b len T c p F (zWf (f :: fr) ++ W0) g W0.length ∧ zKv true p.1 o (f :: fr) ∧ p.2.1 = nI o ∧ zks T c true (f :: fr) (zpt T c true f.1 p F) = r ∧ P ≤ p.1
def zPEq (M : zMI) (b : Nat → Nat) (len : Nat) (T : zDD) (c g : Nat) (W0 : List Nat) (r : zPF) (P : Nat) : Prop := ∃ p F f fr o, zSSq M b len T c p F (zWf (f :: fr) ++ W0) g W0.length ∧ zKv true p.1 o (f :: fr) ∧ p.2.1 = nI o ∧ zks T c true (f :: fr) (p, F) = r ∧ P < p.1
def zPBq (M : zMI) (b : Nat → Nat) (len : Nat) (T : zDD) (c g : Nat) (W0 : List Nat) (r : zPF) (P : Nat) : Prop := ∃ p F f fr o, zSSq M b len T c p F (zWf (f :: fr) ++ W0) g W0.length ∧ zKv true p.1 o (f :: fr) ∧ p.2.1 = nI o ∧ zks T c true (f :: fr) (p, F) = r ∧ P < p.1 ∧ f.2.2.2.2.2 ≠ 60
theorem zKv_q {P o : Nat} {f : zLv} {fr : List zLv} (h : zKv true P o (f :: fr)) (h60 : f.2.2.2.2.2 ≠ 60) : zLw P f ∧ ((f.2.2.2.2.2 = 0 ∧ fr = []) ∨ ((20 ≤ f.2.2.2.2.2 ∧ f.2.2.2.2.2 ≤ 24) ∧ 1 ≤ o ∧ zKv true P (o - 1) fr)) := by
  obtain ⟨h1, h2, h3, h4⟩ := h
  refine ⟨h1, ?_⟩
  rcases h4 with ⟨e1, e2⟩ | ⟨e1, e2, e3⟩
  · exact Or.inl ⟨e2, e1⟩
  · rcases e1 with e1 | e1
    · exact Or.inr ⟨e1, e2, e3⟩
    · exact absurd e1.2 h60
theorem zWl_h {P : Nat} {f : zLv} (h : zLw P f) (hw : f.2.2.2.2.2 = 0 ∨ (20 ≤ f.2.2.2.2.2 ∧ f.2.2.2.2.2 ≤ 24)) : (zWl f = [] ∧ f.2.2.2.2.2 = 0) ∨ ∃ x V, zWl f = x :: V ∧ x < 60 := by
  obtain ⟨k, m, n, a, l, w⟩ := f
  obtain ⟨h1, h2, -⟩ := h
  have h1' : m = 0 ∨ m = 6 ∨ m = 7 := h1
  have h2' : a = 0 ∨ a = 4 ∨ a = 5 := h2
  have hw' : w = 0 ∨ (20 ≤ w ∧ w ≤ 24) := hw
  by_cases m0 : m = 0
  · by_cases a0 : a = 0
    · by_cases w0 : w = 0
      · subst m0; subst a0; subst w0
        exact Or.inl ⟨rfl, rfl⟩
      · subst m0; subst a0
        exact Or.inr ⟨w, [], zWl_w w0, by omega⟩
    · subst m0
      exact Or.inr ⟨_, _, zWl_a (by omega) a0, by omega⟩
  · exact Or.inr ⟨_, _, zWl_t (by omega) m0, by omega⟩
set_option maxHeartbeats 4000000 in
set_option maxRecDepth 100000 in
theorem sp_mqEndsPart {d t len c g P : Nat} {M : zMI} {L : zML} {b : Nat → Nat} {T : zDD} {W0 : List Nat} {r : zPF} (hT : zTok b len T c) (h : zPEq M b len T c g W0 r P) : Sy yX12_qEndsPart YX12_qEndsPart (d + 2) [.ref 177] M L (zRf t) (fun v0 M' L' R' => v0 = none ∧ L = L' ∧ R' = zRf t ∧ zSfq g M M' ∧ zPBq M' b len T c g W0 r P) := by
  refine Sp.of (by decide +kernel) rfl (fun h => by first | exact h | cases h) (Nat.le_of_ble_eq_true rfl) ?_
  intro w G
  have loop : ∀ (fr : List zLv) (f : zLv) (M2 : zMI) (p : zP) (F : zFl) (o : Nat), zSSq M2 b len T c p F (zWf (f :: fr) ++ W0) g W0.length → zKv true p.1 o (f :: fr) → p.2.1 = nI o → zks T c true (f :: fr) (p, F) = r → P < p.1 → zSfq g M M2 → WP w YX12_qEndsPart (d + 2, SS, 0, 0) G (some (zXp (fun v0 M' L' R' => v0 = none ∧ L = L' ∧ R' = zRf t ∧ zSfq g M M' ∧ zPBq M' b len T c g W0 r P))) 0 [(0, .ref 177)] [] SS M2 L (zRf t) := by
    intro fr
    induction fr with
    | nil =>
      intro f M2 p F o hS hk ho hr hP hf
      have hS' := hS
      obtain ⟨a1, a2, a3, a4, a5, a6⟩ := hS
      have hw0 : f.2.2.2.2.2 = 0 := by
        rcases hk.2.2.2 with e | e
        · exact e.2
        · exact e.2.2.elim
      have hln := a5.2.2.2.2.2
      have h46 := a5.2.2.1
      refine wp_aload_n (q := 1) dX12_qEndsPart_0 0 rfl rfl ?_
      refine wp_getI (q := 4) dX12_qEndsPart_1 zf_RX12_236 rfl zsh_177 rfl ?_
      rw [a1.2.1]
      refine wp_if_neN (tgt := 51) (q := 7) dX12_qEndsPart_4 (by decide) rfl (by omega) (fun hn => absurd hn (by first | omega | exact fun h => h | exact fun h => h trivial)) (fun _ => ?_)
      refine wp_aload_n (q := 8) dX12_qEndsPart_7 0 rfl rfl ?_
      refine wp_getI (q := 11) dX12_qEndsPart_8 zf_RX12_603 rfl zsh_177 rfl ?_
      rcases zWl_h hk.1 (Or.inl hw0) with ⟨e, -⟩ | ⟨x, V, e, hx⟩
      · rw [h46, show zWf [f] ++ W0 = W0 by show (zWl f ++ []) ++ W0 = W0; rw [e]; rfl]
        have hln' : W0.length ≤ 1600 := by
          rw [show zWf [f] ++ W0 = W0 by show (zWl f ++ []) ++ W0 = W0; rw [e]; rfl] at hln
          omega
        refine wp_aload_n (q := 12) dX12_qEndsPart_11 0 rfl rfl ?_
        refine wp_getI (q := 15) dX12_qEndsPart_12 zf_RX12_609 rfl zsh_177 rfl ?_
        rw [a5.2.2.2.2.1]
        refine wp_icmp_leN (tgt := 51) (q := 18) dX12_qEndsPart_15 (by decide) rfl (by omega) (by omega) (fun _ => ?_) (fun hn => absurd hn (by first | omega | exact fun h => h | exact fun h => h trivial))
        exact wp_return dX12_qEndsPart_51 rfl ⟨rfl, ⟨rfl, rfl, rfl, hf, p, F, f, [], o, hS', hk, ho, hr, hP, by rw [hw0]; decide⟩⟩ rfl rfl
      · have eW : zWf [f] ++ W0 = x :: (V ++ W0) := by show (zWl f ++ []) ++ W0 = _; rw [e, List.append_nil]; rfl
        have e46 : M2 177 90 = nI ((V ++ W0).length + 1) := by rw [h46, eW]; rfl
        have hst := a5.2.2.2.1
        rw [eW] at hst hln
        rw [List.length_cons] at hln
        obtain ⟨⟨k1, k2⟩, k3⟩ := hst
        have hB : W0.length ≤ (V ++ W0).length := by rw [List.length_append]; omega
        rw [e46]
        refine wp_aload_n (q := 12) dX12_qEndsPart_11 0 rfl rfl ?_
        refine wp_getI (q := 15) dX12_qEndsPart_12 zf_RX12_609 rfl zsh_177 rfl ?_
        rw [a5.2.2.2.2.1]
        refine wp_icmp_leN (tgt := 51) (q := 18) dX12_qEndsPart_15 (by decide) rfl (by omega) (by omega) (fun hn => absurd hn (by first | omega | exact fun h => h | exact fun h => h trivial)) (fun _ => ?_)
        refine wp_aload_n (q := 19) dX12_qEndsPart_18 0 rfl rfl ?_
        refine wp_getR (q := 22) dX12_qEndsPart_19 zf_RX12_224 rfl zsh_177 (zr_177_89 _) rfl ?_
        refine wp_aload_n (q := 23) dX12_qEndsPart_22 0 rfl rfl ?_
        refine wp_getI (q := 26) dX12_qEndsPart_23 zf_RX12_603 rfl zsh_177 rfl ?_
        rw [e46]
        refine wp_iconst (q := 27) dX12_qEndsPart_26 zq_iconst_1 rfl ?_
        refine wp_isubN (q := 28) dX12_qEndsPart_27 (by omega) rfl ?_
        refine wp_iald (q := 29) _ dX12_qEndsPart_28 zsh_246 rfl (by omega) (by decide) rfl ?_
        rw [Nat.add_sub_cancel, k1]
        refine wp_bipush (q := 31) dX12_qEndsPart_29 zq_bipush_60 rfl ?_
        refine wp_icmp_ltN (tgt := 51) (q := 34) dX12_qEndsPart_31 (by decide) rfl (by omega) (by omega) (fun _ => ?_) (fun hn => absurd hn (by first | omega | exact fun h => h | exact fun h => h trivial))
        exact wp_return dX12_qEndsPart_51 rfl ⟨rfl, ⟨rfl, rfl, rfl, hf, p, F, f, [], o, hS', hk, ho, hr, hP, by rw [hw0]; decide⟩⟩ rfl rfl
    | cons f2 fr ih =>
      intro f M2 p F o hS hk ho hr hP hf
      have hS' := hS
      obtain ⟨a1, a2, a3, a4, a5, a6⟩ := hS
      have hln := a5.2.2.2.2.2
      have h46 := a5.2.2.1
      have hwn : (20 ≤ f.2.2.2.2.2 ∧ f.2.2.2.2.2 ≤ 24 ∨ f.2.2.2.2.2 = 60) ∧ 1 ≤ o ∧ zKv true p.1 (o - 1) (f2 :: fr) := by
        rcases hk.2.2.2 with e | e
        · cases e.1
        · exact ⟨e.1.elim Or.inl (fun z => Or.inr z.2), e.2.1, e.2.2⟩
      obtain ⟨hw, ho1, hk2⟩ := hwn
      obtain ⟨x, V, e, hx⟩ : ∃ x V, zWf (f :: f2 :: fr) ++ W0 = x :: (V ++ W0) ∧ ((f.2.2.2.2.2 = 60 ∧ x = 60 ∧ V = zWf (f2 :: fr)) ∨ (f.2.2.2.2.2 ≠ 60 ∧ x < 60)) := by
        by_cases c60 : f.2.2.2.2.2 = 60
        · refine ⟨60, zWf (f2 :: fr), ?_, Or.inl ⟨c60, rfl, rfl⟩⟩
          show (zWl f ++ zWf (f2 :: fr)) ++ W0 = _
          unfold zWl
          rw [if_pos c60]
          rfl
        · rcases zWl_h hk.1 (by omega) with ⟨-, e⟩ | ⟨x, V, e, hx⟩
          · omega
          · refine ⟨x, V ++ zWf (f2 :: fr), ?_, Or.inr ⟨c60, hx⟩⟩
            show (zWl f ++ zWf (f2 :: fr)) ++ W0 = _
            rw [e]
            rfl
      have e46 : M2 177 90 = nI ((V ++ W0).length + 1) := by rw [h46, e]; rfl
      have hst := a5.2.2.2.1
      rw [e] at hst hln a6
      rw [List.length_cons] at hln a6
      obtain ⟨⟨k1, k2⟩, k3⟩ := hst
      have hB : W0.length ≤ (V ++ W0).length := by rw [List.length_append]; omega
      refine wp_aload_n (q := 1) dX12_qEndsPart_0 0 rfl rfl ?_
      refine wp_getI (q := 4) dX12_qEndsPart_1 zf_RX12_236 rfl zsh_177 rfl ?_
      rw [a1.2.1]
      refine wp_if_neN (tgt := 51) (q := 7) dX12_qEndsPart_4 (by decide) rfl (by omega) (fun hn => absurd hn (by first | omega | exact fun h => h | exact fun h => h trivial)) (fun _ => ?_)
      refine wp_aload_n (q := 8) dX12_qEndsPart_7 0 rfl rfl ?_
      refine wp_getI (q := 11) dX12_qEndsPart_8 zf_RX12_603 rfl zsh_177 rfl ?_
      rw [e46]
      refine wp_aload_n (q := 12) dX12_qEndsPart_11 0 rfl rfl ?_
      refine wp_getI (q := 15) dX12_qEndsPart_12 zf_RX12_609 rfl zsh_177 rfl ?_
      rw [a5.2.2.2.2.1]
      refine wp_icmp_leN (tgt := 51) (q := 18) dX12_qEndsPart_15 (by decide) rfl (by omega) (by omega) (fun hn => absurd hn (by first | omega | exact fun h => h | exact fun h => h trivial)) (fun _ => ?_)
      refine wp_aload_n (q := 19) dX12_qEndsPart_18 0 rfl rfl ?_
      refine wp_getR (q := 22) dX12_qEndsPart_19 zf_RX12_224 rfl zsh_177 (zr_177_89 _) rfl ?_
      refine wp_aload_n (q := 23) dX12_qEndsPart_22 0 rfl rfl ?_
      refine wp_getI (q := 26) dX12_qEndsPart_23 zf_RX12_603 rfl zsh_177 rfl ?_
      rw [e46]
      refine wp_iconst (q := 27) dX12_qEndsPart_26 zq_iconst_1 rfl ?_
      refine wp_isubN (q := 28) dX12_qEndsPart_27 (by omega) rfl ?_
      refine wp_iald (q := 29) _ dX12_qEndsPart_28 zsh_246 rfl (by omega) (by decide) rfl ?_
      rw [Nat.add_sub_cancel, k1]
      refine wp_bipush (q := 31) dX12_qEndsPart_29 zq_bipush_60 rfl ?_
      rcases hx with ⟨w60, rfl, rfl⟩ | ⟨w60, hx⟩
      · have hop : nI o - nI 1 = nI (o - 1) := pk_sub ho1
        have a5' := a5
        rw [e] at a5'
        refine wp_icmp_ltN (tgt := 51) (q := 34) dX12_qEndsPart_31 (by decide) rfl (by omega) (by omega) (fun hn => absurd hn (by first | omega | exact fun h => h | exact fun h => h trivial)) (fun _ => ?_)
        refine wp_aload_n (q := 35) dX12_qEndsPart_34 0 rfl rfl ?_
        refine wp_dup (q := 36) dX12_qEndsPart_35 rfl rfl ?_
        refine wp_getI (q := 39) dX12_qEndsPart_36 zf_RX12_600 rfl zsh_177 rfl ?_
        rw [a4, ho]
        refine wp_iconst (q := 40) dX12_qEndsPart_39 zq_iconst_1 rfl ?_
        refine wp_isubN (q := 41) dX12_qEndsPart_40 (by omega) rfl ?_
        refine wp_putI (q := 44) dX12_qEndsPart_41 zf_RX12_600 rfl zsh_177 rfl ?_
        refine wp_aload_n (q := 45) dX12_qEndsPart_44 0 rfl rfl ?_
        have hQ1 : zSQq (zu M2 177 91 (nI (o - 1))) g F (60 :: (zWf (f2 :: fr) ++ W0)) W0.length := zSQq_7 a5' (by decide) (by decide) (by decide)
        refine wp_cvx (q := 48) (sp_mqDrops (d := 0) hQ1) zm_X12_qDrops zl_RX12_615 dX12_qEndsPart_45 rfl (by omega) (Nat.le_of_ble_eq_true rfl) zsh_177 rfl rfl ?_
        refine wp_goto (tgt := 0) dX12_qEndsPart_48 (by decide) ?_
        have hq : zQfq g 91 M2 (zu (zu (zu (zu M2 177 91 (nI (o - 1))) 177 90 (nI (zWf (f2 :: fr) ++ W0).length)) 245 (g + F.length) (nI 60)) 177 88 (nI (g + F.length + 1))) := zQfq_7 (zQfq_c (zQfq_7 (zQfq_7 zQfq_r (Or.inr rfl) (by omega)) (Or.inr rfl) (by omega)) (by omega) (by omega)) (Or.inr rfl) (by omega)
        refine WP.sub (loc' := [(0, _)]) [0] rfl ?_
        have hr' : zks T c true (f2 :: fr) (zpl p, F ++ [(3, 0)]) = r := by
          rw [← hr]
          obtain ⟨k, m, n, a, l, w'⟩ := f
          have w60' : w' = 60 := w60
          subst w60'
          rfl
        have e2 : zpl p = (p.1, nI (o - 1), p.2.2.1, p.2.2.2) := by
          show (p.1, p.2.1 - nI 1, p.2.2.1, p.2.2.2) = _
          rw [ho, hop]
        rw [e2] at hr'
        refine ih f2 _ (p.1, nI (o - 1), p.2.2.1, p.2.2.2) (F ++ [(3, 0)]) (o - 1) ⟨zAt_qq a1 hq (by decide), by rw [hq.2 6 (by decide) (by decide) (by decide)]; exact a2, a3, by rw [zu_k (by decide), zu_ne (by decide), zu_k (by decide), zu_s], zSQq_pop hQ1 rfl, ?_⟩ hk2 rfl hr' hP (zSfq_t hf hq.1)
        rw [List.length_append]
        show g + (F.length + 1) + _ + 1 ≤ p.1
        omega
      · skip
        refine wp_icmp_ltN (tgt := 51) (q := 34) dX12_qEndsPart_31 (by decide) rfl (by omega) (by omega) (fun _ => ?_) (fun hn => absurd hn (by first | omega | exact fun h => h | exact fun h => h trivial))
        exact wp_return dX12_qEndsPart_51 rfl ⟨rfl, ⟨rfl, rfl, rfl, hf, p, F, f, f2 :: fr, o, hS', hk, ho, hr, hP, w60⟩⟩ rfl rfl
  obtain ⟨p, F, f, fr, o, h1, h2, h3, h4, h5⟩ := h
  refine WP.sub (loc' := [(0, _)]) [0] rfl ?_
  exact loop fr f M p F o h1 h2 h3 h4 h5 zSfq_r
set_option maxHeartbeats 4000000 in
set_option maxRecDepth 100000 in
theorem sp_mqEndsPartB {d t bd : Nat} {M : zMI} {L : zML} (h : M 177 5 = nI bd) (h0 : bd ≠ 0) (h9 : bd < 10) : Sx yX12_qEndsPart YX12_qEndsPart (d + 2) [.ref 177] M L (zRf t) (none) M L (zRf t) := by
  refine Sp.of (by decide +kernel) rfl (fun h => by first | exact h | cases h) (Nat.le_of_ble_eq_true rfl) ?_
  intro w G
  refine wp_aload_n (q := 1) dX12_qEndsPart_0 0 rfl rfl ?_
  refine wp_getI (q := 4) dX12_qEndsPart_1 zf_RX12_236 rfl zsh_177 rfl ?_
  rw [h]
  refine wp_if_neN (tgt := 51) (q := 7) dX12_qEndsPart_4 (by decide) rfl (by omega) (fun _ => ?_) (fun hn => absurd hn (by first | omega | exact fun h => h | exact fun h => h trivial))
  exact wp_return dX12_qEndsPart_51 rfl ⟨rfl, rfl, rfl, rfl, rfl⟩ rfl rfl

