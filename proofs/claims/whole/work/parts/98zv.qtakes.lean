-- what a question's codes hold
def zOq (F : zFl) : Prop := ∀ q, q ∈ F → q.1 ≤ 14 ∧ q.2 ≤ 9999 ∧ (q.1 = 1 → q.2 ≤ 4)
theorem zOq_s {F : zFl} {op a : Nat} (h : zOq F) (h1 : op ≤ 14 ∧ a ≤ 9999 ∧ (op = 1 → a ≤ 4)) : zOq (F ++ [(op, a)]) := fun q hq => by
  rcases List.mem_append.mp hq with e | e
  · exact h q e
  · rw [List.mem_singleton.mp e]; exact h1
theorem zOq_lp {T : zDD} {c s1 s2 o1 o2 : Nat} {pt : zP → zFl → zPF} (hpt : ∀ p F, zOq F → zOq (pt p F).2) (h1 : 4 ≤ o1 ∧ o1 ≤ 9) (h2 : 4 ≤ o2 ∧ o2 ≤ 9) : ∀ n p F, zOq F → zOq (zlp T c s1 s2 o1 o2 pt n p F).2 := by
  intro n
  induction n with
  | zero => intro p F h; exact h
  | succ n ih =>
    intro p F h
    rw [zlp]
    split
    · refine ih _ _ (zOq_s (hpt _ _ h) ?_)
      split <;> exact ⟨by omega, by decide, fun e => by omega⟩
    · exact h
theorem zOq_su {T : zDD} {c : Nat} {pt : zP → zFl → zPF} (hpt : ∀ p F, zOq F → zOq (pt p F).2) (p : zP) (F : zFl) (h : zOq F) : zOq (zsu T c pt p F).2 := by
  have hpd : ∀ p F, zOq F → zOq (zpd T c pt p F).2 := fun p F h => zOq_lp hpt (by decide) (by decide) _ _ _ (hpt p F h)
  exact zOq_lp hpd (by decide) (by decide) _ _ _ (hpd p F h)
theorem zOq_pt {T : zDD} {c : Nat} : ∀ k p F, zOq F → zOq (zpt T c true k p F).2 := by
  intro k
  induction k with
  | zero => intro p F h; exact h
  | succ k ih =>
    intro p F h
    have eb : (if true = true then zfP (T p.1 4) else zfH (T p.1 4)) = zfP (T p.1 4) := rfl
    rw [zpt, eb]
    split
    · exact zOq_s (op := 0) h ⟨by decide, zpNu_le T c p 9999, fun e => absurd e (by decide)⟩
    split
    · rename_i h30
      have h4 : zfP (T p.1 4) ≤ 4 := by
        rw [zfP_i] at h30 ⊢
        split at h30
        · rename_i z; rw [if_pos z]; omega
        · omega
      exact zOq_s (op := 1) h ⟨by decide, by omega, fun _ => h4⟩
    split
    · exact zOq_su ih _ _ h
    split
    · unfold zo2
      split
      · refine zOq_s (zOq_su ih _ _ (zOq_su ih _ _ h)) ?_
        split <;> exact ⟨by decide, by decide, fun e => absurd e (by decide)⟩
      · exact h
    split
    · exact zOq_s (op := 3) (ih _ _ h) ⟨by decide, by decide, fun e => absurd e (by decide)⟩
    · exact h
theorem zOq_sum {T : zDD} {c : Nat} {p : zP} {F : zFl} (h : zOq F) : zOq (zsum T c true p F).2 := zOq_su (zOq_pt 8) p F h
theorem zOq_cmp {T : zDD} {c : Nat} {p : zP} {F : zFl} (h : zOq F) : zOq (zcmp T c p F).2 := by
  have h1 : zOq (zsum T c true p F).2 := zOq_sum h
  unfold zcmp zcm1 zcm2
  split
  · exact zOq_s (op := 10) (zOq_sum h1) ⟨by decide, by decide, fun e => absurd e (by decide)⟩
  split
  · exact zOq_s (op := 11) (zOq_sum h1) ⟨by decide, by decide, fun e => absurd e (by decide)⟩
  split
  · exact zOq_s (op := 12) (zOq_sum h1) ⟨by decide, by decide, fun e => absurd e (by decide)⟩
  · exact h1
theorem zOq_lw {T : zDD} {c wd op : Nat} {pt : zP → zFl → zPF} (hpt : ∀ p F, zOq F → zOq (pt p F).2) (h1 : 4 ≤ op ∧ op ≤ 14) : ∀ n p F, zOq F → zOq (zlw T c wd op pt n p F).2 := by
  intro n
  induction n with
  | zero => intro p F h; exact h
  | succ n ih =>
    intro p F h
    rw [zlw]
    split
    · exact ih _ _ (zOq_s (hpt _ _ h) ⟨h1.2, by decide, fun e => by omega⟩)
    · exact h
theorem zOq_lx {T : zDD} {c wd op : Nat} {pt : zP → zFl → zPF} (hpt : ∀ p F, zOq F → zOq (pt p F).2) (h1 : 4 ≤ op ∧ op ≤ 14) (p : zP) (F : zFl) (h : zOq F) : zOq (zlx T c wd op pt p F).2 := zOq_lw hpt h1 _ _ _ (hpt p F h)
theorem zOq_qf {T : zDD} {c : Nat} : ∀ k p F, zOq F → zOq (zqf T c k p F).2 := by
  intro k
  induction k with
  | zero => intro p F h; exact h
  | succ k ih =>
    intro p F h
    rw [zqf]
    split
    · exact zOq_s (op := 2) (ih _ _ h) ⟨by decide, by decide, fun e => absurd e (by decide)⟩
    split
    · exact zOq_lx (zOq_lx ih (by decide)) (by decide) _ _ h
    split
    · exact zOq_s (op := 0) h ⟨by decide, by decide, fun e => absurd e (by decide)⟩
    · exact zOq_cmp h
theorem zOq_qa {T : zDD} {c : Nat} {p : zP} : zOq (zqa T c p).2 := by
  have h0 : zOq [] := fun q hq => absurd hq List.not_mem_nil
  have h2 : ∀ r : zPF, zOq r.2 → zOq (zqa2 T c r).2 := fun r h => by
    unfold zqa2
    split
    · exact h
    · exact h
  unfold zqa
  split
  · exact h2 _ (zOq_lx (zOq_lx (zOq_qf 8) (by decide)) (by decide) _ _ h0)
  · exact h2 _ (zOq_sum h0)
theorem zqa_typed2 {T : zDD} {c : Nat} {p : zP} {A : zPF} (hE : zTE T c) (hc : c ≤ 1601) (hQ : zok T c 8 p) (hA : zqa T c p = A) (h0 : A.1.2.2.1 = 0) : ∃ ops', zrb A.2 ops' ∧ ztr ops' [] = some [decide ((zpWo T c p 24 29).2 ≤ 2)] ∧ A.2.length ≤ 1600 := by
  have hk := zkp_Wo (f := 24) (l := 29) hE hQ.2.1
  have hQ1 := zkp_ok hk hQ
  have fin : ∀ (K : Nat) (b : Bool) (r : zPF), K ≤ 60 → zgd K b c (zpWo T c p 24 29).1 [] r → zqa2 T c r = A → ∃ ops', zrb A.2 ops' ∧ ztr ops' [] = some [b] ∧ A.2.length ≤ 1600 := by
    intro K b r hK hg hr
    unfold zqa2 at hr
    by_cases c1 : T r.1.1 0 = 0
    · rw [if_pos c1] at hr
      subst hr
      obtain ⟨d1, d2, ops, ops', d3, d4, d5, d6⟩ := hg h0
      have := d5 [] [] (by show 0 + K ≤ 60; omega)
      rw [List.append_nil] at this
      refine ⟨ops', ?_, this, ?_⟩
      · rw [d3]; exact d4.1
      · rw [d3, List.nil_append]; omega
    · rw [if_neg c1] at hr
      subst hr
      exact absurd h0 (zpf_b (by decide))
  unfold zqa at hA
  by_cases cw : (zpWo T c p 24 29).2 ≤ 2
  · rw [if_pos cw] at hA
    rw [decide_eq_true cw]
    exact fin 46 true _ (by decide) (zg_test hE _ _ hQ1) hA
  · rw [if_neg cw] at hA
    rw [decide_eq_false cw]
    exact fin 27 false _ (by decide) (zg_sum hE _ _ hQ1) hA
theorem zcq_r {A ops' : zFl} {M : zMI} (hr : zrb A ops') (hO : zOq A) (hY : zcdY A M 245 0) : (∀ (i op a : Nat), ops'[i]? = some (op, a) → ∃ x, M 245 i = nI x ∧ zcq x op a) ∧ (∀ (i op a : Nat), ops'[i]? = some (op, a) → op = 1 → a ≤ 4) ∧ ops'.length = A.length := by
  obtain ⟨-, r2, r3⟩ := hr
  have hl : A.length = ops'.length := by
    have := congrArg List.length r2
    rw [List.length_map, List.length_map] at this
    exact this
  have key : ∀ (i op a : Nat), ops'[i]? = some (op, a) → ∃ op0 a0, A[i]? = some (op0, a0) ∧ ((op0 = op ∧ a0 = a) ∨ (op = 15 ∧ op0 = 0 ∧ a0 = 1)) := by
    intro i op a hi
    have hlt : i < ops'.length := (List.getElem?_eq_some_iff.mp hi).1
    obtain ⟨q, hq⟩ : ∃ q, A[i]? = some q := ⟨A[i]'(by omega), List.getElem?_eq_getElem (by omega)⟩
    have e1 : (A.map (fun q => zenc q.1 q.2))[i]? = some (zenc q.1 q.2) := by rw [List.getElem?_map, hq]; rfl
    have e2 : (ops'.map (fun q => zenc q.1 q.2))[i]? = some (zenc op a) := by rw [List.getElem?_map, hi]; rfl
    rw [r2, e2] at e1
    have e3 : zenc op a = zenc q.1 q.2 := Option.some.inj e1
    have b1 := hO q (List.mem_of_getElem? hq)
    have b2 := r3 (op, a) (List.mem_of_getElem? hi)
    have b3 : op ≤ 15 ∧ a ≤ 9999 := b2
    refine ⟨q.1, q.2, hq, ?_⟩
    unfold zenc at e3
    rw [if_neg (show ¬ q.1 = 15 by omega)] at e3
    split at e3
    · exact Or.inr ⟨by assumption, by omega, by omega⟩
    · exact Or.inl ⟨by omega, by omega⟩
  refine ⟨fun i op a hi => ?_, fun i op a hi h1 => ?_, hl.symm⟩
  · obtain ⟨op0, a0, h1, h2⟩ := key i op a hi
    obtain ⟨x, h3, h4⟩ := hY i op0 a0 h1
    rw [Nat.zero_add] at h3
    refine ⟨x, h3, ?_⟩
    rcases h2 with ⟨rfl, rfl⟩ | ⟨h2, rfl, rfl⟩
    · rcases h4 with h4 | ⟨h5, h6, h7⟩
      · exact Or.inl h4
      · exact Or.inr ⟨Or.inl ⟨h5, h6⟩, Or.inl h7⟩
    · refine Or.inr ⟨Or.inr h2, ?_⟩
      rcases h4 with h4 | ⟨-, -, h7⟩
      · exact Or.inr h4
      · exact Or.inl h7
  · obtain ⟨op0, a0, h3, h2⟩ := key i op a hi
    rcases h2 with ⟨rfl, rfl⟩ | ⟨h2, -, -⟩
    · exact (hO _ (List.mem_of_getElem? h3)).2.2 h1
    · omega
set_option maxHeartbeats 4000000 in
set_option maxRecDepth 100000 in
theorem sp_mqKind {d t len c : Nat} {M : zMI} {L : zML} {b : Nat → Nat} {T : zDD} {p : zP} (hT : zTok b len T c) (hW : zWds M) (h : zAt M b len T c p.1) (h6 : M 177 6 = p.2.2.2) (k0 : p.2.2.1 = 0) : Sy yX12_qKind YX12_qKind (d + 4) [.ref 177] M L (zRf t) (fun v0 M' L' R' => ∃ k, v0 = some (.int (nI k)) ∧ L = L' ∧ R' = zRf t ∧ zPf M M' ∧ k ≤ 5 ∧ zRp M' b len T c (zpWo T c p 24 29).1 ∧ ((zpWo T c p 24 29).1.2.2.1 = 0 → k = (zpWo T c p 24 29).2)) := by
  refine Sp.of (by decide +kernel) rfl (fun h => by first | exact h | cases h) (Nat.le_of_ble_eq_true rfl) ?_
  intro w G
  have hpc := h.2.2.1
  have T76 : ∀ (k : Nat) (N : zMI), k < 5 → T p.1 4 = 24 + k → zPf M N → zAt N b len T c (p.1 + 1) → N 177 6 = M 177 6 → WP w YX12_qKind (d + 4, SS, 0, 0) G (some (zXp (fun v0 M' L' R' => ∃ k, v0 = some (.int (nI k)) ∧ L = L' ∧ R' = zRf t ∧ zPf M M' ∧ k ≤ 5 ∧ zRp M' b len T c (zpWo T c p 24 29).1 ∧ ((zpWo T c p 24 29).1.2.2.1 = 0 → k = (zpWo T c p 24 29).2)))) 76 [(0, .ref 177)] [.int (nI k)] SS N L (zRf t) := by
    intro k N hk hw hp hA hn6
    obtain ⟨z1, -⟩ := zTok_4 hT hpc (by omega : 24 + k < 30) hw
    have e : zpWo T c p 24 29 = (zpn c p, T p.1 4 - 24) := if_pos ⟨by omega, by omega⟩
    refine wp_istore_n (q := 77) (loc' := [(1, _), (0, _)]) dX12_qKind_76 rfl (by decide) rfl rfl ?_
    refine wp_iload_n (q := 78) dX12_qKind_77 0 rfl rfl ?_
    refine wp_iconst (q := 79) dX12_qKind_78 zq_iconst_5 rfl ?_
    refine wp_icmp_neN (tgt := 90) (q := 82) dX12_qKind_79 (by decide) rfl (by omega) (by omega) (fun _ => ?_) (fun hn => absurd hn (by first | omega | exact fun h => h | exact fun h => h trivial))
    refine wp_iload_n (q := 91) dX12_qKind_90 0 rfl rfl ?_
    refine wp_ireturn dX12_qKind_91 rfl ⟨rfl, ⟨k, rfl, rfl, rfl, hp, by omega, ?_, ?_⟩⟩ rfl rfl
    · rw [e, zpn_o z1]
      exact ⟨z1, fun _ => ⟨hA, by rw [hn6]; exact h6⟩, fun e => absurd k0 e⟩
    · rw [e]
      intro _
      show k = T p.1 4 - 24
      omega
  refine wp_aload_n (q := 1) dX12_qKind_0 0 rfl rfl ?_
  refine wp_aload_n (q := 2) dX12_qKind_1 0 rfl rfl ?_
  refine wp_getR (q := 5) dX12_qKind_2 zf_RX12_167 rfl zsh_177 (zr_177_69 _) rfl ?_
  obtain ⟨o1, ho1⟩ : ∃ o, decide (T p.1 4 = 24) = o := ⟨_, rfl⟩
  refine wp_cvy (q := 8) (sp_mtakes (d := d + 1) (w0 := 24) h hT (zWc_q 0 (zWds_p hW zPf_r) (by decide) rfl rfl (by decide) zsh_227) ho1) zm_X12_takes zl_RX12_263 dX12_qKind_5 rfl (by omega) (Nat.le_of_ble_eq_true rfl) zsh_177 rfl rfl ?_
  rintro _ N1 _ _ ⟨rfl, rfl, rfl, p1', s1', t1, u1⟩
  have p1 := zPf_t zPf_r p1'
  have s1 : N1 177 6 = M 177 6 := s1'
  cases o1 with
  | true =>
    refine wp_if_eq (tgt := 15) (q := 11) dX12_qKind_8 (by decide) rfl (fun hn => absurd hn (by decide)) (fun _ => ?_)
    refine wp_iconst (q := 12) dX12_qKind_11 zq_iconst_0 rfl ?_
    refine wp_goto (tgt := 76) dX12_qKind_12 (by decide) ?_
    refine WP.sub (loc' := [(0, _)]) [0] rfl ?_
    exact T76 0 N1 (by decide) (of_decide_eq_true ho1) p1 (t1 rfl) s1
  | false =>
  have n1 := of_decide_eq_false ho1
  refine wp_if_eq (tgt := 15) (q := 11) dX12_qKind_8 (by decide) rfl (fun _ => ?_) (fun hn => absurd hn (by decide))
  refine wp_aload_n (q := 16) dX12_qKind_15 0 rfl rfl ?_
  refine wp_aload_n (q := 17) dX12_qKind_16 0 rfl rfl ?_
  refine wp_getR (q := 20) dX12_qKind_17 zf_RX12_170 rfl zsh_177 (zr_177_70 _) rfl ?_
  obtain ⟨o2, ho2⟩ : ∃ o, decide (T p.1 4 = 25) = o := ⟨_, rfl⟩
  refine wp_cvy (q := 23) (sp_mtakes (d := d + 1) (w0 := 25) (u1 rfl).1 hT (zWc_q 1 (zWds_p hW p1) (by decide) rfl rfl (by decide) zsh_228) ho2) zm_X12_takes zl_RX12_263 dX12_qKind_20 rfl (by omega) (Nat.le_of_ble_eq_true rfl) zsh_177 rfl rfl ?_
  rintro _ N2 _ _ ⟨rfl, rfl, rfl, p2', s2', t2, u2⟩
  have p2 := zPf_t p1 p2'
  have s2 : N2 177 6 = M 177 6 := s2'.trans s1
  cases o2 with
  | true =>
    refine wp_if_eq (tgt := 30) (q := 26) dX12_qKind_23 (by decide) rfl (fun hn => absurd hn (by decide)) (fun _ => ?_)
    refine wp_iconst (q := 27) dX12_qKind_26 zq_iconst_1 rfl ?_
    refine wp_goto (tgt := 76) dX12_qKind_27 (by decide) ?_
    refine WP.sub (loc' := [(0, _)]) [0] rfl ?_
    exact T76 1 N2 (by decide) (of_decide_eq_true ho2) p2 (t2 rfl) s2
  | false =>
  have n2 := of_decide_eq_false ho2
  refine wp_if_eq (tgt := 30) (q := 26) dX12_qKind_23 (by decide) rfl (fun _ => ?_) (fun hn => absurd hn (by decide))
  refine wp_aload_n (q := 31) dX12_qKind_30 0 rfl rfl ?_
  refine wp_aload_n (q := 32) dX12_qKind_31 0 rfl rfl ?_
  refine wp_getR (q := 35) dX12_qKind_32 zf_RX12_173 rfl zsh_177 (zr_177_71 _) rfl ?_
  obtain ⟨o3, ho3⟩ : ∃ o, decide (T p.1 4 = 26) = o := ⟨_, rfl⟩
  refine wp_cvy (q := 38) (sp_mtakes (d := d + 1) (w0 := 26) (u2 rfl).1 hT (zWc_q 2 (zWds_p hW p2) (by decide) rfl rfl (by decide) zsh_229) ho3) zm_X12_takes zl_RX12_263 dX12_qKind_35 rfl (by omega) (Nat.le_of_ble_eq_true rfl) zsh_177 rfl rfl ?_
  rintro _ N3 _ _ ⟨rfl, rfl, rfl, p3', s3', t3, u3⟩
  have p3 := zPf_t p2 p3'
  have s3 : N3 177 6 = M 177 6 := s3'.trans s2
  cases o3 with
  | true =>
    refine wp_if_eq (tgt := 45) (q := 41) dX12_qKind_38 (by decide) rfl (fun hn => absurd hn (by decide)) (fun _ => ?_)
    refine wp_iconst (q := 42) dX12_qKind_41 zq_iconst_2 rfl ?_
    refine wp_goto (tgt := 76) dX12_qKind_42 (by decide) ?_
    refine WP.sub (loc' := [(0, _)]) [0] rfl ?_
    exact T76 2 N3 (by decide) (of_decide_eq_true ho3) p3 (t3 rfl) s3
  | false =>
  have n3 := of_decide_eq_false ho3
  refine wp_if_eq (tgt := 45) (q := 41) dX12_qKind_38 (by decide) rfl (fun _ => ?_) (fun hn => absurd hn (by decide))
  refine wp_aload_n (q := 46) dX12_qKind_45 0 rfl rfl ?_
  refine wp_aload_n (q := 47) dX12_qKind_46 0 rfl rfl ?_
  refine wp_getR (q := 50) dX12_qKind_47 zf_RX12_176 rfl zsh_177 (zr_177_72 _) rfl ?_
  obtain ⟨o4, ho4⟩ : ∃ o, decide (T p.1 4 = 27) = o := ⟨_, rfl⟩
  refine wp_cvy (q := 53) (sp_mtakes (d := d + 1) (w0 := 27) (u3 rfl).1 hT (zWc_q 3 (zWds_p hW p3) (by decide) rfl rfl (by decide) zsh_230) ho4) zm_X12_takes zl_RX12_263 dX12_qKind_50 rfl (by omega) (Nat.le_of_ble_eq_true rfl) zsh_177 rfl rfl ?_
  rintro _ N4 _ _ ⟨rfl, rfl, rfl, p4', s4', t4, u4⟩
  have p4 := zPf_t p3 p4'
  have s4 : N4 177 6 = M 177 6 := s4'.trans s3
  cases o4 with
  | true =>
    refine wp_if_eq (tgt := 60) (q := 56) dX12_qKind_53 (by decide) rfl (fun hn => absurd hn (by decide)) (fun _ => ?_)
    refine wp_iconst (q := 57) dX12_qKind_56 zq_iconst_3 rfl ?_
    refine wp_goto (tgt := 76) dX12_qKind_57 (by decide) ?_
    refine WP.sub (loc' := [(0, _)]) [0] rfl ?_
    exact T76 3 N4 (by decide) (of_decide_eq_true ho4) p4 (t4 rfl) s4
  | false =>
  have n4 := of_decide_eq_false ho4
  refine wp_if_eq (tgt := 60) (q := 56) dX12_qKind_53 (by decide) rfl (fun _ => ?_) (fun hn => absurd hn (by decide))
  refine wp_aload_n (q := 61) dX12_qKind_60 0 rfl rfl ?_
  refine wp_aload_n (q := 62) dX12_qKind_61 0 rfl rfl ?_
  refine wp_getR (q := 65) dX12_qKind_62 zf_RX12_179 rfl zsh_177 (zr_177_73 _) rfl ?_
  obtain ⟨o5, ho5⟩ : ∃ o, decide (T p.1 4 = 28) = o := ⟨_, rfl⟩
  refine wp_cvy (q := 68) (sp_mtakes (d := d + 1) (w0 := 28) (u4 rfl).1 hT (zWc_q 4 (zWds_p hW p4) (by decide) rfl rfl (by decide) zsh_231) ho5) zm_X12_takes zl_RX12_263 dX12_qKind_65 rfl (by omega) (Nat.le_of_ble_eq_true rfl) zsh_177 rfl rfl ?_
  rintro _ N5 _ _ ⟨rfl, rfl, rfl, p5', s5', t5, u5⟩
  have p5 := zPf_t p4 p5'
  have s5 : N5 177 6 = M 177 6 := s5'.trans s4
  cases o5 with
  | true =>
    refine wp_if_eq (tgt := 75) (q := 71) dX12_qKind_68 (by decide) rfl (fun hn => absurd hn (by decide)) (fun _ => ?_)
    refine wp_iconst (q := 72) dX12_qKind_71 zq_iconst_4 rfl ?_
    refine wp_goto (tgt := 76) dX12_qKind_72 (by decide) ?_
    refine WP.sub (loc' := [(0, _)]) [0] rfl ?_
    exact T76 4 N5 (by decide) (of_decide_eq_true ho5) p5 (t5 rfl) s5
  | false =>
  have n5 := of_decide_eq_false ho5
  refine wp_if_eq (tgt := 75) (q := 71) dX12_qKind_68 (by decide) rfl (fun _ => ?_) (fun hn => absurd hn (by decide))
  refine wp_iconst (q := 76) dX12_qKind_75 zq_iconst_5 rfl ?_
  refine wp_istore_n (q := 77) (loc' := [(1, _), (0, _)]) dX12_qKind_76 rfl (by decide) rfl rfl ?_
  refine wp_iload_n (q := 78) dX12_qKind_77 0 rfl rfl ?_
  refine wp_iconst (q := 79) dX12_qKind_78 zq_iconst_5 rfl ?_
  have hk5 : zRp N5 b len T c p := ⟨hpc, fun _ => ⟨(u5 rfl).1, by rw [s5]; exact h6⟩, fun e => absurd k0 e⟩
  refine wp_icmp_neN (tgt := 90) (q := 82) dX12_qKind_79 (by decide) rfl (by omega) (by omega) (fun hn => absurd hn (by first | omega | exact fun h => h | exact fun h => h trivial)) (fun _ => ?_)
  refine wp_aload_n (q := 83) dX12_qKind_82 1 rfl rfl ?_
  refine wp_aload_n (q := 84) dX12_qKind_83 1 rfl rfl ?_
  refine wp_getR (q := 87) dX12_qKind_84 zf_RX12_182 rfl zsh_177 (zr_177_74 _) rfl ?_
  refine wp_cvy (q := 90) (sp_masksR (d := d) (w0 := 29) hk5 hT (zWc_q 5 (zWds_p hW p5) (by decide) rfl rfl (by decide) zsh_232)) zm_X12_asks zl_RX12_302 dX12_qKind_87 rfl (by omega) (Nat.le_of_ble_eq_true rfl) zsh_177 rfl rfl ?_
  rintro _ N6 _ _ ⟨rfl, rfl, rfl, p6', r6⟩
  refine wp_iload_n (q := 91) dX12_qKind_90 0 rfl rfl ?_
  have eW : (zpWo T c p 29 29).1 = (zpWo T c p 24 29).1 ∧ ((zpWo T c p 24 29).1.2.2.1 = 0 → 5 = (zpWo T c p 24 29).2) := by
    unfold zpWo
    by_cases e29 : T p.1 4 = 29
    · rw [if_pos (by omega), if_pos (by omega)]
      exact ⟨rfl, fun _ => by show 5 = T p.1 4 - 24; omega⟩
    · rw [if_neg (by omega), if_neg (by omega)]
      exact ⟨rfl, fun e => absurd e (zpf_b (by decide))⟩
  exact wp_ireturn dX12_qKind_91 rfl ⟨rfl, ⟨5, rfl, rfl, rfl, zPf_t p5 p6', by decide, by rw [← eW.1]; exact r6, eW.2⟩⟩ rfl rfl

