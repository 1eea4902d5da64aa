theorem zStk_i {M : zMI} {ow : Nat} : ∀ {W : List Nat}, zStk M ow W → ∀ j, j < W.length → ∃ x, x ∈ W ∧ M ow j = nI x ∧ x < 100
  | [], _, j, hj => absurd hj (Nat.not_lt_zero _)
  | y :: W, h, j, hj => by
    by_cases c : j = W.length
    · rw [c]; exact ⟨y, List.mem_cons_self .., h.1.1, h.1.2⟩
    · obtain ⟨x, h1, h2, h3⟩ := zStk_i h.2 j (by rw [List.length_cons] at hj; omega)
      exact ⟨x, List.mem_cons_of_mem _ h1, h2, h3⟩
theorem zStk_j {M : zMI} {ow : Nat} : ∀ {W : List Nat} {x : Nat}, zStk M ow W → x ∈ W → ∃ j, j < W.length ∧ M ow j = nI x
  | [], _, _, hx => absurd hx List.not_mem_nil
  | y :: W, x, h, hx => by
    rcases List.mem_cons.mp hx with e | e
    · rw [e]; exact ⟨W.length, by rw [List.length_cons]; omega, h.1.1⟩
    · obtain ⟨j, h1, h2⟩ := zStk_j h.2 e
      exact ⟨j, by rw [List.length_cons]; omega, h2⟩
set_option maxHeartbeats 4000000 in
set_option maxRecDepth 100000 in
theorem sp_mqHasSquare {d t : Nat} {M : zMI} {L : zML} {W : List Nat} (h : M 177 90 = nI W.length) (hk : zStk M 246 W) (hl : W.length ≤ 1600) {o : Bool} (ho : decide (25 ∈ W) = o) : Sx yX12_qHasSquare YX12_qHasSquare (d) [.ref 177] M L (zRf t) (some (.int (nI (zb01 o)))) M L (zRf t) := by
  refine Sp.of (by decide +kernel) rfl (fun h => by first | exact h | cases h) (Nat.le_of_ble_eq_true rfl) ?_
  intro w G
  have loop : ∀ q j, j + q = W.length → (∀ i, i < j → M 246 i ≠ nI 25) → WP w YX12_qHasSquare (d, SS, 0, 0) G (some (zX (some (.int (nI (zb01 o)))) M L (zRf t))) 2 [(1, .int (nI j)), (0, .ref 177)] [] SS M L (zRf t) := by
    intro q
    induction q with
    | zero =>
      intro j hj hn
      have ho1 : o = false := by
        rw [← ho]
        refine decide_eq_false (fun e => ?_)
        obtain ⟨i, h1, h2⟩ := zStk_j hk e
        exact hn i (by omega) h2
      refine wp_iload_n (q := 3) dX12_qHasSquare_2 0 rfl rfl ?_
      refine wp_aload_n (q := 4) dX12_qHasSquare_3 1 rfl rfl ?_
      refine wp_getI (q := 7) dX12_qHasSquare_4 zf_RX12_603 rfl zsh_177 rfl ?_
      rw [h]
      refine wp_icmp_geN (tgt := 29) (q := 10) dX12_qHasSquare_7 (by decide) rfl (by omega) (by omega) (fun _ => ?_) (fun hn => absurd hn (by first | omega | exact fun h => h | exact fun h => h trivial))
      rw [ho1, zb01_f]
      refine wp_iconst (q := 30) dX12_qHasSquare_29 zq_iconst_0 rfl ?_
      exact wp_zreturn dX12_qHasSquare_30 rfl (by first | with_reducible exact znar_0 | with_reducible exact znar_1 | assumption) ⟨rfl, rfl, rfl, rfl, rfl⟩ rfl rfl
    | succ q ih =>
      intro j hj hn
      obtain ⟨x, h1, h2, h3⟩ := zStk_i hk j (by omega)
      refine wp_iload_n (q := 3) dX12_qHasSquare_2 0 rfl rfl ?_
      refine wp_aload_n (q := 4) dX12_qHasSquare_3 1 rfl rfl ?_
      refine wp_getI (q := 7) dX12_qHasSquare_4 zf_RX12_603 rfl zsh_177 rfl ?_
      rw [h]
      refine wp_icmp_geN (tgt := 29) (q := 10) dX12_qHasSquare_7 (by decide) rfl (by omega) (by omega) (fun hn => absurd hn (by first | omega | exact fun h => h | exact fun h => h trivial)) (fun _ => ?_)
      refine wp_aload_n (q := 11) dX12_qHasSquare_10 1 rfl rfl ?_
      refine wp_getR (q := 14) dX12_qHasSquare_11 zf_RX12_224 rfl zsh_177 (zr_177_89 _) rfl ?_
      refine wp_iload_n (q := 15) dX12_qHasSquare_14 0 rfl rfl ?_
      refine wp_iald (q := 16) _ dX12_qHasSquare_15 zsh_246 rfl (by omega) (by decide) rfl ?_
      rw [h2]
      refine wp_bipush (q := 18) dX12_qHasSquare_16 zq_bipush_25 rfl ?_
      refine wp_icmp_neN (tgt := 23) (q := 21) dX12_qHasSquare_18 (by decide) rfl (by omega) (by omega) (fun c => ?_) (fun c => ?_)
      · skip
        refine wp_iincN (q := 26) (loc' := [(1, _), (0, _)]) (n := 1) dX12_qHasSquare_23 rfl 0 rfl (by decide) rfl rfl ?_
        refine wp_goto (tgt := 2) dX12_qHasSquare_26 (by decide) ?_
        refine WP.sub (loc' := [(1, _), (0, _)]) [0, 1] rfl ?_
        refine ih (j + 1) (by omega) (fun i hi => ?_)
        by_cases e : i = j
        · rw [e, h2]; exact znqq h3 (by decide) c
        · exact hn i (by omega)
      · skip
        have ho1 : o = true := by rw [← ho]; exact decide_eq_true (by rw [← c]; exact h1)
        rw [ho1, zb01_t]
        refine wp_iconst (q := 22) dX12_qHasSquare_21 zq_iconst_1 rfl ?_
        exact wp_zreturn dX12_qHasSquare_22 rfl (by first | with_reducible exact znar_0 | with_reducible exact znar_1 | assumption) ⟨rfl, rfl, rfl, rfl, rfl⟩ rfl rfl
  refine wp_iconst (q := 1) dX12_qHasSquare_0 zq_iconst_0 rfl ?_
  refine wp_istore_n (q := 2) (loc' := [(1, _), (0, _)]) dX12_qHasSquare_1 rfl (by decide) rfl rfl ?_
  refine WP.sub (loc' := [(1, _), (0, _)]) [0, 1] rfl ?_
  exact loop W.length 0 (by omega) (fun i hi => absurd hi (Nat.not_lt_zero _))
def zTsA (M : zMI) (b : Nat → Nat) (len : Nat) (T : zDD) (c : Nat) (r : zPF) (P : Nat) : Prop := ∃ p F f fr o, zSSq M b len T c p F (zWf (f :: fr)) 0 0 ∧ zKvt p.1 o (f :: fr) ∧ p.2.1 = nI o ∧ zqks T c (f :: fr) (zqf T c f.1 p F) = r ∧ P ≤ p.1
def zTsE (M : zMI) (b : Nat → Nat) (len : Nat) (T : zDD) (c : Nat) (r : zPF) (P : Nat) : Prop := ∃ p F f fr o, zSSq M b len T c p F (zWf (f :: fr)) 0 0 ∧ zKvt p.1 o (f :: fr) ∧ p.2.1 = nI o ∧ zqks T c (f :: fr) (p, F) = r ∧ P < p.1
def zTsB (M : zMI) (b : Nat → Nat) (len : Nat) (T : zDD) (c : Nat) (r : zPF) (P : Nat) : Prop := ∃ p F f fr o, zSSq M b len T c p F (zWf (f :: fr)) 0 0 ∧ zKvt p.1 o (f :: fr) ∧ p.2.1 = nI o ∧ zqks T c (f :: fr) (p, F) = r ∧ P < p.1 ∧ f.2.2.2.2.2 ≠ 12
theorem zqPX {M : zMI} {b : Nat → Nat} {len c kd : Nat} {T : zDD} {r q : zPF} {y : Int32} {fr : List zLv} (hr : zqks T c fr q = r) (hq : q.1.2.2 = (kd, y)) (h0 : kd ≠ 0) (h5 : kd ≤ 5) (hc : r.1.1 < c) (hb : zBd M kd y) : zPX M b len T c r := by
  have h1 := zfq_qks (T := T) (c := c) fr q (by rw [hq]; exact h0)
  rw [hr, hq] at h1
  have e1 : r.1.2.2.1 = kd := by rw [h1]
  have e2 : r.1.2.2.2 = y := by rw [h1]
  exact ⟨by rw [e1]; exact h0, hc, fun z => absurd (by rw [← e1]; exact z) h0, fun _ => by rw [e1, e2]; exact ⟨h5, hb⟩⟩
theorem znqb {a b : Nat} (ha : a < 300) (hb : b < 300) (e : a ≠ b) : ¬ (nI a : Int32) = nI b := fun z => by
  have := congrArg Int32.toInt z
  rw [nI_toInt (by omega), nI_toInt (by omega)] at this
  omega
theorem zhd_f {P : Nat} {f : zLv} {V : List Nat} (h : zLwt P f) (w12 : f.2.2.2.2.2 ≠ 12) (hV : f.2.2.2.2.2 = 0 → V = []) : ¬ (zWl f ++ V).head? = some 12 := by
  obtain ⟨k, m, n, a, l, w⟩ := f
  obtain ⟨h1, h2, h3, -⟩ := h
  have h1' : m = 0 ∨ m = 13 := h1
  have h2' : a = 0 ∨ a = 14 := h2
  have h3' : w = 0 ∨ w = 25 := by
    rcases h3 with e | e | e
    · exact Or.inl e
    · exact Or.inr e
    · exact absurd e.1 w12
  rcases h1' with rfl | rfl <;> rcases h2' with rfl | rfl <;> rcases h3' with rfl | rfl
  · rw [hV rfl]; exact fun e => by cases e
  all_goals first | exact fun e => absurd (Option.some.inj e) (by decide : ¬ (25 : Nat) = 12) | exact fun e => absurd (Option.some.inj e) (by decide : ¬ (10 : Nat) = 12) | exact fun e => absurd (Option.some.inj e) (by decide : ¬ (11 : Nat) = 12)
set_option maxHeartbeats 4000000 in
set_option maxRecDepth 100000 in
theorem sp_mqDropsNots {d t len c P : Nat} {M : zMI} {L : zML} {b : Nat → Nat} {T : zDD} {r : zPF} (h : zTsE M b len T c r P) : Sy yX12_qDropsNots YX12_qDropsNots (d + 2) [.ref 177] M L (zRf t) (fun v0 M' L' R' => v0 = none ∧ L = L' ∧ R' = zRf t ∧ zSfq 0 M M' ∧ zTsB M' b len T c r P) := by
  refine Sp.of (by decide +kernel) rfl (fun h => by first | exact h | cases h) (Nat.le_of_ble_eq_true rfl) ?_
  intro w G
  have loop : ∀ (fr : List zLv) (f : zLv) (M2 : zMI) (p : zP) (F : zFl) (o : Nat), zSSq M2 b len T c p F (zWf (f :: fr)) 0 0 → zKvt p.1 o (f :: fr) → p.2.1 = nI o → zqks T c (f :: fr) (p, F) = r → P < p.1 → zSfq 0 M M2 → WP w YX12_qDropsNots (d + 2, SS, 0, 0) G (some (zXp (fun v0 M' L' R' => v0 = none ∧ L = L' ∧ R' = zRf t ∧ zSfq 0 M M' ∧ zTsB M' b len T c r P))) 0 [(0, .ref 177)] [] SS M2 L (zRf t) := by
    intro fr
    induction fr with
    | nil =>
      intro f M2 p F o hS hk ho hr hP hf
      have hS' := hS
      obtain ⟨a1, a2, a3, a4, a5, a6⟩ := hS
      have hw0 : f.2.2.2.2.2 = 0 := by
        rcases hk.2.2.2 with e | e
        · exact e.2
        · exact e.2.2.elim
      have hln := a5.2.2.2.2.2
      refine wp_aload_n (q := 1) dX12_qDropsNots_0 0 rfl rfl ?_
      refine wp_getI (q := 4) dX12_qDropsNots_1 zf_RX12_236 rfl zsh_177 rfl ?_
      rw [a1.2.1]
      refine wp_if_neN (tgt := 33) (q := 7) dX12_qDropsNots_4 (by decide) rfl (by omega) (fun hn => absurd hn (by first | omega | exact fun h => h | exact fun h => h trivial)) (fun _ => ?_)
      refine wp_aload_n (q := 8) dX12_qDropsNots_7 0 rfl rfl ?_
      refine wp_bipush (q := 10) dX12_qDropsNots_8 zq_bipush_12 rfl ?_
      refine wp_cvx (q := 13) (sp_mqIsOn (d := d + 1) (W := zWf [f]) (v := 12) a5.2.2.1 a5.2.2.2.1 (by omega) (by decide) (o := false) (decide_eq_false (zhd_f (V := []) hk.1 (by rw [hw0]; decide) (fun _ => rfl)))) zm_X12_qIsOn zl_RX12_639 dX12_qDropsNots_10 rfl (by omega) (Nat.le_of_ble_eq_true rfl) zsh_177 rfl rfl ?_
      refine wp_if_eq (tgt := 33) (q := 16) dX12_qDropsNots_13 (by decide) rfl (fun _ => ?_) (fun hn => absurd hn (by decide))
      exact wp_return dX12_qDropsNots_33 rfl ⟨rfl, ⟨rfl, rfl, rfl, hf, p, F, f, [], o, hS', hk, ho, hr, hP, by rw [hw0]; decide⟩⟩ rfl rfl
    | cons f2 fr ih =>
      intro f M2 p F o hS hk ho hr hP hf
      have hS' := hS
      obtain ⟨a1, a2, a3, a4, a5, a6⟩ := hS
      have hln := a5.2.2.2.2.2
      have h46 := a5.2.2.1
      have hwn : f.2.2.2.2.2 ≠ 0 ∧ 1 ≤ o ∧ zKvt p.1 (o - 1) (f2 :: fr) := by
        rcases hk.2.2.2 with e | e
        · cases e.1
        · exact e
      obtain ⟨hw, ho1, hk2⟩ := hwn
      refine wp_aload_n (q := 1) dX12_qDropsNots_0 0 rfl rfl ?_
      refine wp_getI (q := 4) dX12_qDropsNots_1 zf_RX12_236 rfl zsh_177 rfl ?_
      rw [a1.2.1]
      refine wp_if_neN (tgt := 33) (q := 7) dX12_qDropsNots_4 (by decide) rfl (by omega) (fun hn => absurd hn (by first | omega | exact fun h => h | exact fun h => h trivial)) (fun _ => ?_)
      refine wp_aload_n (q := 8) dX12_qDropsNots_7 0 rfl rfl ?_
      refine wp_bipush (q := 10) dX12_qDropsNots_8 zq_bipush_12 rfl ?_
      by_cases w12 : f.2.2.2.2.2 = 12
      · have hm0 : f.2.1 = 0 ∧ f.2.2.2.1 = 0 := by
          rcases hk.1.2.2.1 with e | e | e
          · exact absurd e hw
          · omega
          · exact e.2
        have eW : zWf (f :: f2 :: fr) = 12 :: zWf (f2 :: fr) := by
          obtain ⟨k, m, n, a, l, w'⟩ := f
          have y1 : m = 0 := hm0.1
          have y2 : a = 0 := hm0.2
          have y3 : w' = 12 := w12
          subst y1; subst y2; subst y3
          rfl
        have hop : nI o - nI 1 = nI (o - 1) := pk_sub ho1
        rw [eW] at a5 a6 hln
        rw [List.length_cons] at a6 hln
        refine wp_cvx (q := 13) (sp_mqIsOn (d := d + 1) (W := 12 :: zWf (f2 :: fr)) (v := 12) a5.2.2.1 a5.2.2.2.1 (by rw [List.length_cons]; omega) (by decide) (o := true) (decide_eq_true rfl)) zm_X12_qIsOn zl_RX12_639 dX12_qDropsNots_10 rfl (by omega) (Nat.le_of_ble_eq_true rfl) zsh_177 rfl rfl ?_
        refine wp_if_eq (tgt := 33) (q := 16) dX12_qDropsNots_13 (by decide) rfl (fun hn => absurd hn (by decide)) (fun _ => ?_)
        refine wp_aload_n (q := 17) dX12_qDropsNots_16 0 rfl rfl ?_
        refine wp_dup (q := 18) dX12_qDropsNots_17 rfl rfl ?_
        refine wp_getI (q := 21) dX12_qDropsNots_18 zf_RX12_600 rfl zsh_177 rfl ?_
        rw [a4, ho]
        refine wp_iconst (q := 22) dX12_qDropsNots_21 zq_iconst_1 rfl ?_
        refine wp_isubN (q := 23) dX12_qDropsNots_22 (by omega) rfl ?_
        refine wp_putI (q := 26) dX12_qDropsNots_23 zf_RX12_600 rfl zsh_177 rfl ?_
        refine wp_aload_n (q := 27) dX12_qDropsNots_26 0 rfl rfl ?_
        have hQ1 : zSQq (zu M2 177 91 (nI (o - 1))) 0 F (12 :: zWf (f2 :: fr)) 0 := zSQq_7 a5 (by decide) (by decide) (by decide)
        refine wp_cvx (q := 30) (sp_mqDrops (d := 0) hQ1) zm_X12_qDrops zl_RX12_615 dX12_qDropsNots_27 rfl (by omega) (Nat.le_of_ble_eq_true rfl) zsh_177 rfl rfl ?_
        refine wp_goto (tgt := 0) dX12_qDropsNots_30 (by decide) ?_
        have hq : zQfq 0 91 M2 (zu (zu (zu (zu M2 177 91 (nI (o - 1))) 177 90 (nI (zWf (f2 :: fr)).length)) 245 (0 + F.length) (nI 12)) 177 88 (nI (0 + F.length + 1))) := zQfq_7 (zQfq_c (zQfq_7 (zQfq_7 zQfq_r (Or.inr rfl) (by omega)) (Or.inr rfl) (by omega)) (by omega) (by omega)) (Or.inr rfl) (by omega)
        refine WP.sub (loc' := [(0, _)]) [0] rfl ?_
        have hr' : zqks T c (f2 :: fr) (zpl p, F ++ [(2, 0)]) = r := by
          rw [← hr]
          obtain ⟨k, m, n, a, l, w'⟩ := f
          have y3 : w' = 12 := w12
          subst y3
          rfl
        have e2 : zpl p = (p.1, nI (o - 1), p.2.2.1, p.2.2.2) := by
          show (p.1, p.2.1 - nI 1, p.2.2.1, p.2.2.2) = _
          rw [ho, hop]
        rw [e2] at hr'
        refine ih f2 _ (p.1, nI (o - 1), p.2.2.1, p.2.2.2) (F ++ [(2, 0)]) (o - 1) ⟨zAt_qq a1 hq (by decide), by rw [hq.2 6 (by decide) (by decide) (by decide)]; exact a2, a3, by rw [zu_k (by decide), zu_ne (by decide), zu_k (by decide), zu_s], zSQq_pop hQ1 rfl, ?_⟩ hk2 rfl hr' hP (zSfq_t hf hq.1)
        rw [List.length_append]
        show 0 + (F.length + 1) + _ + 1 ≤ p.1
        omega
      · skip
        refine wp_cvx (q := 13) (sp_mqIsOn (d := d + 1) (W := zWf (f :: f2 :: fr)) (v := 12) a5.2.2.1 a5.2.2.2.1 (by omega) (by decide) (o := false) (decide_eq_false (zhd_f (V := zWf (f2 :: fr)) hk.1 w12 (fun e => absurd e hw)))) zm_X12_qIsOn zl_RX12_639 dX12_qDropsNots_10 rfl (by omega) (Nat.le_of_ble_eq_true rfl) zsh_177 rfl rfl ?_
        refine wp_if_eq (tgt := 33) (q := 16) dX12_qDropsNots_13 (by decide) rfl (fun _ => ?_) (fun hn => absurd hn (by decide))
        exact wp_return dX12_qDropsNots_33 rfl ⟨rfl, ⟨rfl, rfl, rfl, hf, p, F, f, f2 :: fr, o, hS', hk, ho, hr, hP, w12⟩⟩ rfl rfl
  obtain ⟨p, F, f, fr, o, h1, h2, h3, h4, h5⟩ := h
  refine WP.sub (loc' := [(0, _)]) [0] rfl ?_
  exact loop fr f M p F o h1 h2 h3 h4 h5 zSfq_r
set_option maxHeartbeats 4000000 in
set_option maxRecDepth 100000 in
theorem sp_mqDropsNotsB {d t bd : Nat} {M : zMI} {L : zML} (h : M 177 5 = nI bd) (h0 : bd ≠ 0) (h9 : bd < 10) : Sx yX12_qDropsNots YX12_qDropsNots (d + 2) [.ref 177] M L (zRf t) (none) M L (zRf t) := by
  refine Sp.of (by decide +kernel) rfl (fun h => by first | exact h | cases h) (Nat.le_of_ble_eq_true rfl) ?_
  intro w G
  refine wp_aload_n (q := 1) dX12_qDropsNots_0 0 rfl rfl ?_
  refine wp_getI (q := 4) dX12_qDropsNots_1 zf_RX12_236 rfl zsh_177 rfl ?_
  rw [h]
  refine wp_if_neN (tgt := 33) (q := 7) dX12_qDropsNots_4 (by decide) rfl (by omega) (fun _ => ?_) (fun hn => absurd hn (by first | omega | exact fun h => h | exact fun h => h trivial))
  exact wp_return dX12_qDropsNots_33 rfl ⟨rfl, rfl, rfl, rfl, rfl⟩ rfl rfl
-- a fact of a test: what is not a bracket and not a 'not'
set_option maxHeartbeats 4000000 in
set_option maxRecDepth 100000 in
theorem sp_mqFact {d t len c o : Nat} {M : zMI} {L : zML} {b : Nat → Nat} {T : zDD} {W : List Nat} {p : zP} {F : zFl} {q : zPF} {k : Nat} (hT : zTok b len T c) (hW : zWds M) (h : zSSq M b len T c p F W 0 0) (ho : p.2.1 = nI o) (ho6 : o ≤ 6) (hw0 : ∀ x, x ∈ W → 5 ≤ x) (h20 : T p.1 4 ≠ 20) (h91 : zpS T p 91 = false) (hq : zqf T c (k + 1) p F = q) : Sy yX12_qFact YX12_qFact (d + 7) [.ref 177] M L (zRf t) (fun v0 M' L' R' => v0 = none ∧ L = L' ∧ R' = zRf t ∧ zSfq 0 M M' ∧ zRp M' b len T c q.1 ∧ (q.1.2.2.1 = 0 → zSSq M' b len T c q.1 q.2 W 0 0 ∧ p.1 < q.1.1 ∧ q.1.2.1 = nI o)) := by
  refine Sp.of (by decide +kernel) rfl (fun h => by first | exact h | cases h) (Nat.le_of_ble_eq_true rfl) ?_
  intro w G
  have hE := zTok_TE hT
  obtain ⟨a1, a2, a3, a4, a5, a6⟩ := h
  have hc := zTok_c hT a1
  have hpc := a1.2.2.1
  obtain ⟨o1, ho1⟩ : ∃ o, decide (T p.1 4 = 21) = o := ⟨_, rfl⟩
  refine wp_aload_n (q := 1) dX12_qFact_0 0 rfl rfl ?_
  refine wp_aload_n (q := 2) dX12_qFact_1 0 rfl rfl ?_
  refine wp_getR (q := 5) dX12_qFact_2 zf_RX12_194 rfl zsh_177 (zr_177_78 _) rfl ?_
  refine wp_cvy (q := 8) (sp_mtakes (d := d + 4) (w0 := 21) a1 hT (zWc_q 9 hW (by decide) rfl rfl (by decide) zsh_236) ho1) zm_X12_takes zl_RX12_263 dX12_qFact_5 rfl (by omega) (Nat.le_of_ble_eq_true rfl) zsh_177 rfl rfl ?_
  rintro _ N1 _ _ ⟨rfl, rfl, rfl, p1, s1, t1, u1⟩
  cases o1 with
  | true =>
    have w21 := of_decide_eq_true ho1
    obtain ⟨z1, z2, -⟩ := zTok_4 hT hpc (by decide) w21
    rw [zqks_all w21 z2, zpn_o z1] at hq
    have hA := t1 rfl
    have hQ1 := zSQq_p a5 p1
    refine wp_if_eq (tgt := 18) (q := 11) dX12_qFact_8 (by decide) rfl (fun hn => absurd hn (by decide)) (fun _ => ?_)
    refine wp_aload_n (q := 12) dX12_qFact_11 0 rfl rfl ?_
    refine wp_bipush (q := 14) dX12_qFact_12 zq_bipush_13 rfl ?_
    refine wp_cvx (q := 17) (sp_mqCode (d := d + 6) (n := 0 + F.length) (v := 13) hQ1.1 (by omega)) zm_X12_qCode zl_RX12_606 dX12_qFact_14 rfl (by omega) (Nat.le_of_ble_eq_true rfl) zsh_177 rfl rfl ?_
    have hq2 : zQfq 0 88 N1 (zu (zu N1 245 (0 + F.length) (nI 13)) 177 88 (nI (0 + F.length + 1))) := zQfq_7 (zQfq_c zQfq_r (by omega) (by omega)) (Or.inl rfl) (by omega)
    have hA2 := zAt_qq hA hq2 (by decide)
    have h62 : (zu (zu N1 245 (0 + F.length) (nI 13)) 177 88 (nI (0 + F.length + 1))) 177 6 = p.2.2.2 := by rw [hq2.2 6 (by decide) (by decide) (by decide), s1]; exact a2
    refine wp_return dX12_qFact_17 rfl ⟨rfl, ⟨rfl, rfl, rfl, zSfq_t (zSfq_p zSfq_r p1) hq2.1, ?_, ?_⟩⟩ rfl rfl
    · rw [← hq]
      exact ⟨z1, fun _ => ⟨hA2, h62⟩, fun e => absurd a3 e⟩
    · rw [← hq]
      refine fun _ => ⟨⟨hA2, h62, a3, by rw [zu_k (by decide), zu_ne (by decide), p1.2 91 (by decide) (by decide) (by decide) (by decide) (by decide)]; exact a4, zSQq_all hQ1 (by omega), ?_⟩, Nat.lt_succ_self _, ho⟩
      rw [List.length_append]
      show 0 + (F.length + 1) + W.length + 1 ≤ p.1 + 1
      omega
  | false =>
  have w21 := of_decide_eq_false ho1
  rw [zqks_cmp h20 h91 w21] at hq
  unfold zcmp at hq
  have hS1 : zSSq N1 b len T c p F W 0 0 := ⟨(u1 rfl).1, by rw [s1]; exact a2, a3, by rw [p1.2 91 (by decide) (by decide) (by decide) (by decide) (by decide)]; exact a4, zSQq_p a5 p1, a6⟩
  have hf1 : zSfq 0 M N1 := zSfq_p zSfq_r p1
  have hk1 := zkp_sum (b := true) hE p F hpc
  obtain ⟨r1, hr1⟩ : ∃ r, zsum T c true p F = r := ⟨_, rfl⟩
  rw [hr1] at hq hk1
  refine wp_if_eq (tgt := 18) (q := 11) dX12_qFact_8 (by decide) rfl (fun _ => ?_) (fun hn => absurd hn (by decide))
  refine wp_aload_n (q := 19) dX12_qFact_18 0 rfl rfl ?_
  refine wp_cvy (q := 22) (sp_mqSums (d := d) hT (zWds_fq hW hf1) hS1 ho ho6 hr1 hw0) zm_X12_qSums zl_RX12_648 dX12_qFact_19 rfl (by omega) (Nat.le_of_ble_eq_true rfl) zsh_177 rfl rfl ?_
  rintro _ N2 _ _ ⟨rfl, rfl, rfl, hf2, hR2, hC2, hS2⟩
  have hf2' := zSfq_t hf1 hf2
  have fq1 : zfq r1.1 q.1 := by
    rw [← hq]
    unfold zcm1 zcm2
    split
    · exact zfq_t zfq_n (zfq_sum _ _)
    split
    · exact zfq_t zfq_n (zfq_sum _ _)
    split
    · exact zfq_t zfq_n (zfq_sum _ _)
    · exact zfq_f
  have hqc : q.1.1 < c := by
    rw [← hq]
    unfold zcm1 zcm2
    split
    · exact (zkp_sum hE _ _ (zkp_n hE hk1.1).1).1
    split
    · exact (zkp_sum hE _ _ (zkp_n hE hk1.1).1).1
    split
    · exact (zkp_sum hE _ _ (zkp_n hE hk1.1).1).1
    · show (zpf c r1.1 1 _).1 < c
      rw [zpf_1]
      omega
  by_cases k1 : r1.1.2.2.1 = 0
  · obtain ⟨b1, b2, b3, b4, b5, b6⟩ := hS2 k1
    have hrc := b1.2.2.1
    have hlen := zTok_len hT hrc
    have hl16 := b1.1.2.1
    have hge : p.1 ≤ r1.1.1 := by
      have : zge c p r1.1 := by rw [← hr1]; exact zge_sum p F
      exact (this hpc).1
    refine wp_aload_n (q := 23) dX12_qFact_22 0 rfl rfl ?_
    refine wp_getI (q := 26) dX12_qFact_23 zf_RX12_236 rfl zsh_177 rfl ?_
    rw [b1.2.1]
    refine wp_if_eqN (tgt := 30) (q := 29) dX12_qFact_26 (by decide) rfl (by omega) (fun _ => ?_) (fun hn => absurd hn (by first | omega | exact fun h => h | exact fun h => h trivial))
    refine wp_aload_n (q := 31) dX12_qFact_30 0 rfl rfl ?_
    refine wp_cvy (q := 34) (sp_mLook (d := d + 6) b1 hT) zm_X12_look zl_RX12_248 dX12_qFact_31 rfl (by omega) (Nat.le_of_ble_eq_true rfl) zsh_177 rfl rfl ?_
    rintro _ N3 _ _ ⟨rfl, rfl, rfl, c1, c2, c3, c4⟩
    have hp3 : zPf N2 N3 := ⟨c4, fun k k1 _ _ _ _ => c3 k k1⟩
    have sg : ∀ s, zcl s = 3 → s < 256 → (zlkv b len (T r1.1.1 1) = nI s ↔ (T r1.1.1 0 = 3 ∧ T r1.1.1 2 = s)) := fun s h1 h2 => zSg (s := s) hT (fun i hi => (b1.1.2.2 i hi).2) hrc h1 h2
    obtain ⟨cv, hcv⟩ : ∃ cv, zlkv b len (T r1.1.1 1) = cv := ⟨_, rfl⟩
    rw [hcv] at sg ⊢
    have C63 : ∀ (s op : Nat), zcl s = 3 → s < 256 → cv = nI s → (s = 60 ∧ op = 10 ∨ s = 62 ∧ op = 11 ∨ s = 61 ∧ op = 12) → WP w YX12_qFact (d + 7, SS, 0, 0) G (some (zXp (fun v0 M' L' R' => v0 = none ∧ L = L' ∧ R' = zRf t ∧ zSfq 0 M M' ∧ zRp M' b len T c q.1 ∧ (q.1.2.2.1 = 0 → zSSq M' b len T c q.1 q.2 W 0 0 ∧ p.1 < q.1.1 ∧ q.1.2.1 = nI o)))) 63 [(1, .int cv), (0, .ref 177)] [] SS N3 L (zRf t) := by
      intro s op hs hs9 he hop
      have h3 := (sg s hs hs9).mp he
      obtain ⟨z1, z2⟩ := zTok_3 hT hrc h3.1
      have hz : zcm1 T c r1 = zcm2 T c op r1 := by
        unfold zcm1
        rcases hop with ⟨e1, e2⟩ | ⟨e1, e2⟩ | ⟨e1, e2⟩
        · rw [if_pos (zpS_i.mpr (by omega)), e2]
        · rw [if_neg (by rw [zpS_f.mpr (by omega)]; decide), if_pos (zpS_i.mpr (by omega)), e2]
        · rw [if_neg (by rw [zpS_f.mpr (by omega)]; decide), if_neg (by rw [zpS_f.mpr (by omega)]; decide), if_pos (zpS_i.mpr (by omega)), e2]
      rw [hz] at hq
      unfold zcm2 at hq
      have ho2 : r1.1.2.1 = nI o := by
        have := (zbl_sum (T := T) (c := c) (b := true) p F) (by rw [hr1]; exact k1)
        rw [hr1] at this
        rw [this.2]; exact ho
      rw [zpn_o z1] at hq
      obtain ⟨r2, hr2⟩ : ∃ r, zsum T c true (r1.1.1 + 1, r1.1.2.1, r1.1.2.2.1, r1.1.2.2.2) r1.2 = r := ⟨_, rfl⟩
      have hk2 := zkp_sum (b := true) hE (r1.1.1 + 1, r1.1.2.1, r1.1.2.2.1, r1.1.2.2.2) r1.2 z1
      have hge2 : r1.1.1 + 1 ≤ r2.1.1 := by
        have : zge c (r1.1.1 + 1, r1.1.2.1, r1.1.2.2.1, r1.1.2.2.2) r2.1 := by rw [← hr2]; exact zge_sum _ _
        exact (this z1).1
      rw [hr2] at hq hk2
      have hg4 := zAt_g c1 hT h3.1
      have hS4 : zSSq (zu N3 177 2 (nI (T r1.1.1 1 + 1))) b len T c (r1.1.1 + 1, r1.1.2.1, r1.1.2.2.1, r1.1.2.2.2) r1.2 W 0 0 := ⟨hg4, by rw [zu_k (by decide), c3 6 (by decide)]; exact b2, b3, by rw [zu_k (by decide), c3 91 (by decide)]; exact b4, zSQq_7 (zSQq_p b5 hp3) (by decide) (by decide) (by decide), by show _ ≤ r1.1.1 + 1; omega⟩
      have hf4 : zSfq 0 M (zu N3 177 2 (nI (T r1.1.1 1 + 1))) := zSfq_7 (zSfq_p hf2' hp3) (by omega)
      refine wp_aload_n (q := 64) dX12_qFact_63 1 rfl rfl ?_
      refine wp_dup (q := 65) dX12_qFact_64 rfl rfl ?_
      refine wp_getI (q := 68) dX12_qFact_65 zf_RX12_242 rfl zsh_177 rfl ?_
      rw [c2]
      refine wp_iconst (q := 69) dX12_qFact_68 zq_iconst_1 rfl ?_
      refine wp_iaddN (q := 70) dX12_qFact_69 rfl ?_
      refine wp_putI (q := 73) dX12_qFact_70 zf_RX12_242 rfl zsh_177 rfl ?_
      refine wp_aload_n (q := 74) dX12_qFact_73 1 rfl rfl ?_
      refine wp_cvy (q := 77) (sp_mqSums (d := d) hT (zWds_fq hW hf4) hS4 ho2 ho6 hr2 hw0) zm_X12_qSums zl_RX12_648 dX12_qFact_74 rfl (by omega) (Nat.le_of_ble_eq_true rfl) zsh_177 rfl rfl ?_
      rintro _ N5 _ _ ⟨rfl, rfl, rfl, hf5, hR5, ⟨cn, hC5, hcn⟩, hS5⟩
      have hf5' := zSfq_t hf4 hf5
      have fin : ∀ v, v = op - 3 → WP w YX12_qFact (d + 7, SS, 0, 0) G (some (zXp (fun v0 M' L' R' => v0 = none ∧ L = L' ∧ R' = zRf t ∧ zSfq 0 M M' ∧ zRp M' b len T c q.1 ∧ (q.1.2.2.1 = 0 → zSSq M' b len T c q.1 q.2 W 0 0 ∧ p.1 < q.1.1 ∧ q.1.2.1 = nI o)))) 102 [(1, .int cv), (0, .ref 177)] [.int (nI v), .ref 177] SS N5 L (zRf t) := by
        intro v hv
        refine wp_cvx (q := 105) (sp_mqCode (d := d + 6) (n := cn) (v := v) hC5 (by omega)) zm_X12_qCode zl_RX12_606 dX12_qFact_102 rfl (by omega) (Nat.le_of_ble_eq_true rfl) (by first | assumption | rfl) rfl rfl ?_
        have hq6 : zSfq 0 N5 (zu (zu N5 245 cn (nI v)) 177 88 (nI (cn + 1))) := zSfq_7 (zSfq_w zSfq_r (Or.inr (Or.inl ⟨rfl, Nat.zero_le _, by omega⟩))) (by omega)
        have hq7 : ∀ k, k ≠ 88 → (zu (zu N5 245 cn (nI v)) 177 88 (nI (cn + 1))) 177 k = N5 177 k := fun k hk => by rw [zu_k hk, zu_ne (by decide)]
        have hq178 : (zu (zu N5 245 cn (nI v)) 177 88 (nI (cn + 1))) 178 = N5 178 := by rw [zu_ne (by decide), zu_ne (by decide)]
        have hqR : zRp (zu (zu N5 245 cn (nI v)) 177 88 (nI (cn + 1))) b len T c q.1 := by
          rw [← hq]
          have hR5' := hR5
          unfold zRp zAt zTa at hR5' ⊢
          rw [hq7 2 (by decide), hq7 3 (by decide), hq7 4 (by decide), hq7 5 (by decide), hq7 6 (by decide), hq178]
          exact hR5'
        refine wp_return dX12_qFact_105 rfl ⟨rfl, ⟨rfl, rfl, rfl, zSfq_t hf5' hq6, hqR, fun e => ?_⟩⟩ rfl rfl
        have e' : r2.1.2.2.1 = 0 := by rw [← hq] at e; exact e
        obtain ⟨g1, g2, g3, g4, g5, g6⟩ := hS5 e'
        have hcc := zTok_c hT g1
        have hr2c := g1.2.2.1
        have ecn : cn = 0 + r2.2.length := by
          have := hC5.symm.trans g5.1
          have := congrArg Int32.toInt this
          rw [nI_toInt (by omega), nI_toInt (by have := g5.2.2.2.2.2; omega)] at this
          omega
        subst ecn
        have hqq : zQfq 0 88 N5 (zu (zu N5 245 (0 + r2.2.length) (nI v)) 177 88 (nI (0 + r2.2.length + 1))) := zQfq_7 (zQfq_c zQfq_r (by omega) (by omega)) (Or.inl rfl) (by omega)
        rw [← hq]
        refine ⟨⟨zAt_qq g1 hqq (by decide), by rw [hq7 6 (by decide)]; exact g2, g3, by rw [hq7 91 (by decide)]; exact g4, zSQq_code g5 (by omega) ?_, ?_⟩, by show p.1 < r2.1.1; omega, ?_⟩
        · rw [hv]
          rcases hop with ⟨-, e2⟩ | ⟨-, e2⟩ | ⟨-, e2⟩ <;> rw [e2] <;> rfl
        · show 0 + (r2.2 ++ [(op, 0)]).length + W.length + 1 ≤ r2.1.1
          rw [List.length_append]
          show 0 + (r2.2.length + 1) + W.length + 1 ≤ r2.1.1
          have hzg := zg_sum (b := true) hE (r1.1.1 + 1, r1.1.2.1, r1.1.2.2.1, r1.1.2.2.2) r1.2 ⟨by decide, z1, Or.inr ⟨o, ho2, ho6, Nat.le_add_right _ _⟩⟩ (by rw [hr2]; exact e')
          rw [hr2] at hzg
          obtain ⟨-, -, ops, ops', y1, -, -, y2⟩ := hzg
          rw [y1, List.length_append]
          have y2' : r1.1.1 + 1 + ops.length ≤ r2.1.1 := y2
          omega
        · show r2.1.2.1 = nI o
          have := (zbl_sum (T := T) (c := c) (b := true) (r1.1.1 + 1, r1.1.2.1, r1.1.2.2.1, r1.1.2.2.2) r1.2) (by rw [hr2]; exact e')
          rw [hr2] at this
          rw [this.2]; exact ho2
      rcases hop with ⟨e1, e2⟩ | ⟨e1, e2⟩ | ⟨e1, e2⟩
      · rw [he, e1]
        refine wp_aload_n (q := 78) dX12_qFact_77 1 rfl rfl ?_
        refine wp_iload_n (q := 79) dX12_qFact_78 0 rfl rfl ?_
        refine wp_bipush (q := 81) dX12_qFact_79 zq_bipush_60 rfl ?_
        refine wp_icmp_ne (tgt := 89) (q := 84) dX12_qFact_81 (by decide) rfl (fun hn => absurd hn (by exact fun e => e rfl)) (fun _ => ?_)
        refine wp_bipush (q := 86) dX12_qFact_84 zq_bipush_7 rfl ?_
        refine wp_goto (tgt := 102) dX12_qFact_86 (by decide) ?_
        rw [← e1, ← he]
        refine WP.sub (loc' := [(1, _), (0, _)]) [0, 1] rfl ?_
        exact fin 7 (by omega)
      · rw [he, e1]
        refine wp_aload_n (q := 78) dX12_qFact_77 1 rfl rfl ?_
        refine wp_iload_n (q := 79) dX12_qFact_78 0 rfl rfl ?_
        refine wp_bipush (q := 81) dX12_qFact_79 zq_bipush_60 rfl ?_
        refine wp_icmp_ne (tgt := 89) (q := 84) dX12_qFact_81 (by decide) rfl (fun _ => ?_) (fun hn => absurd hn (by exact znqb (by decide) (by decide) (by decide)))
        refine wp_iload_n (q := 90) dX12_qFact_89 0 rfl rfl ?_
        refine wp_bipush (q := 92) dX12_qFact_90 zq_bipush_62 rfl ?_
        refine wp_icmp_ne (tgt := 100) (q := 95) dX12_qFact_92 (by decide) rfl (fun hn => absurd hn (by exact fun e => e rfl)) (fun _ => ?_)
        refine wp_bipush (q := 97) dX12_qFact_95 zq_bipush_8 rfl ?_
        refine wp_goto (tgt := 102) dX12_qFact_97 (by decide) ?_
        rw [← e1, ← he]
        refine WP.sub (loc' := [(1, _), (0, _)]) [0, 1] rfl ?_
        exact fin 8 (by omega)
      · rw [he, e1]
        refine wp_aload_n (q := 78) dX12_qFact_77 1 rfl rfl ?_
        refine wp_iload_n (q := 79) dX12_qFact_78 0 rfl rfl ?_
        refine wp_bipush (q := 81) dX12_qFact_79 zq_bipush_60 rfl ?_
        refine wp_icmp_ne (tgt := 89) (q := 84) dX12_qFact_81 (by decide) rfl (fun _ => ?_) (fun hn => absurd hn (by exact znqb (by decide) (by decide) (by decide)))
        refine wp_iload_n (q := 90) dX12_qFact_89 0 rfl rfl ?_
        refine wp_bipush (q := 92) dX12_qFact_90 zq_bipush_62 rfl ?_
        refine wp_icmp_ne (tgt := 100) (q := 95) dX12_qFact_92 (by decide) rfl (fun _ => ?_) (fun hn => absurd hn (by exact znqb (by decide) (by decide) (by decide)))
        refine wp_bipush (q := 102) dX12_qFact_100 zq_bipush_9 rfl ?_
        rw [← e1, ← he]
        refine WP.sub (loc' := [(1, _), (0, _)]) [0, 1] rfl ?_
        exact fin 9 (by omega)
    refine wp_istore_n (q := 35) (loc' := [(1, _), (0, _)]) dX12_qFact_34 rfl (by decide) rfl rfl ?_
    refine wp_iload_n (q := 36) dX12_qFact_35 0 rfl rfl ?_
    refine wp_bipush (q := 38) dX12_qFact_36 zq_bipush_60 rfl ?_
    refine wp_icmp_eq (tgt := 63) (q := 41) dX12_qFact_38 (by decide) rfl (fun y60 => ?_) (fun y60 => ?_)
    · skip
      refine WP.sub (loc' := [(1, _), (0, _)]) [0, 1] rfl ?_
      exact C63 60 10 (by decide) (by decide) y60 (Or.inl ⟨rfl, rfl⟩)
    · skip
      refine wp_iload_n (q := 42) dX12_qFact_41 0 rfl rfl ?_
      refine wp_bipush (q := 44) dX12_qFact_42 zq_bipush_62 rfl ?_
      refine wp_icmp_eq (tgt := 63) (q := 47) dX12_qFact_44 (by decide) rfl (fun y62 => ?_) (fun y62 => ?_)
      · skip
        refine WP.sub (loc' := [(1, _), (0, _)]) [0, 1] rfl ?_
        exact C63 62 11 (by decide) (by decide) y62 (Or.inr (Or.inl ⟨rfl, rfl⟩))
      · skip
        refine wp_iload_n (q := 48) dX12_qFact_47 0 rfl rfl ?_
        refine wp_bipush (q := 50) dX12_qFact_48 zq_bipush_61 rfl ?_
        refine wp_icmp_eq (tgt := 63) (q := 53) dX12_qFact_50 (by decide) rfl (fun y61 => ?_) (fun y61 => ?_)
        · skip
          refine WP.sub (loc' := [(1, _), (0, _)]) [0, 1] rfl ?_
          exact C63 61 12 (by decide) (by decide) y61 (Or.inr (Or.inr ⟨rfl, rfl⟩))
        · skip
          have n60 := fun e => y60 ((sg 60 (by decide) (by decide)).mpr e)
          have n62 := fun e => y62 ((sg 62 (by decide) (by decide)).mpr e)
          have n61 := fun e => y61 ((sg 61 (by decide) (by decide)).mpr e)
          have hz : zcm1 T c r1 = (zpfh T c r1.1, r1.2) := by
            unfold zcm1
            rw [if_neg (by rw [zpS_f.mpr n60]; decide), if_neg (by rw [zpS_f.mpr n62]; decide), if_neg (by rw [zpS_f.mpr n61]; decide)]
          rw [hz] at hq
          refine wp_aload_n (q := 54) dX12_qFact_53 1 rfl rfl ?_
          refine wp_iconst (q := 55) dX12_qFact_54 zq_iconst_1 rfl ?_
          refine wp_aload_n (q := 56) dX12_qFact_55 1 rfl rfl ?_
          refine wp_getI (q := 59) dX12_qFact_56 zf_RX12_242 rfl zsh_177 rfl ?_
          rw [c2]
          refine wp_cvx (q := 62) (sp_mfail (d := d + 6) c1.2.1) zm_X12_fail zl_RX12_266 dX12_qFact_59 rfl (by omega) (Nat.le_of_ble_eq_true rfl) zsh_177 rfl rfl ?_
          refine wp_return dX12_qFact_62 rfl ⟨rfl, ⟨rfl, rfl, rfl, zSfq_7 (zSfq_7 (zSfq_p hf2' hp3) (by omega)) (by omega), ?_, ?_⟩⟩ rfl rfl
          · rw [← hq]
            exact zRp_5 k1 hrc (by decide) (by decide)
          · rw [← hq]
            exact fun e => absurd e (zpf_b (by decide))
  · obtain ⟨g1, g2, g3⟩ := hR2.2.2 k1
    obtain ⟨kk, hkk⟩ : ∃ kk, r1.1.2.2.1 = kk := ⟨_, rfl⟩
    rw [hkk] at g1 g2
    have hk0 : kk ≠ 0 := by rw [← hkk]; exact k1
    refine wp_aload_n (q := 23) dX12_qFact_22 0 rfl rfl ?_
    refine wp_getI (q := 26) dX12_qFact_23 zf_RX12_236 rfl zsh_177 rfl ?_
    rw [g2]
    refine wp_if_eqN (tgt := 30) (q := 29) dX12_qFact_26 (by decide) rfl (by omega) (fun hn => absurd hn (by first | omega | exact fun h => h | exact fun h => h trivial)) (fun _ => ?_)
    exact wp_return dX12_qFact_29 rfl ⟨rfl, ⟨rfl, rfl, rfl, hf2', zRp_q hR2 k1 hqc fq1, fun e => absurd (zfq_0 fq1 e) k1⟩⟩ rfl rfl

