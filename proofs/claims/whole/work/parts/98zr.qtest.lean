def zTsC (M : zMI) (b : Nat → Nat) (len : Nat) (T : zDD) (c : Nat) (r : zPF) : Prop := ∃ p F f, zSSq M b len T c p F (zWl f) 0 0 ∧ zLwt p.1 f ∧ f.2.2.2.2.2 = 0 ∧ r = (p, zap f.2.2.2.1 (zap f.2.1 F))
def zdkr : List Nat → Prop
  | [] => True
  | x :: V => if x = 25 then True else (1 ≤ x ∧ x ≠ 12) ∧ zdkr V
theorem zdkr_f {P : Nat} {f : zLv} {V : List Nat} (h : zLwt P f) (hw : f.2.2.2.2.2 = 25) : zdkr (zWl f ++ V) := by
  obtain ⟨k, m, n, a, l, w⟩ := f
  obtain ⟨h1, h2, -⟩ := h
  have h1' : m = 0 ∨ m = 13 := h1
  have h2' : a = 0 ∨ a = 14 := h2
  have hw' : w = 25 := hw
  subst hw'
  have b0 : zdkr (25 :: V) := by
    show if 25 = 25 then True else _
    rw [if_pos rfl]
    trivial
  have u : ∀ x V, x ≠ 25 → 1 ≤ x → x ≠ 12 → zdkr V → zdkr (x :: V) := fun x V h0 h1 h2 h3 => by
    show if x = 25 then True else _
    rw [if_neg h0]
    exact ⟨⟨h1, h2⟩, h3⟩
  rcases h1' with rfl | rfl <;> rcases h2' with rfl | rfl
  · exact b0
  · exact u 11 _ (by decide) (by decide) (by decide) b0
  · exact u 10 _ (by decide) (by decide) (by decide) b0
  · exact u 10 _ (by decide) (by decide) (by decide) (u 11 _ (by decide) (by decide) (by decide) b0)
theorem zKvt_w {P o : Nat} {f : zLv} {fr : List zLv} (h : zKvt P o (f :: fr)) (w12 : f.2.2.2.2.2 ≠ 12) : zLwt P f ∧ ((f.2.2.2.2.2 = 0 ∧ fr = []) ∨ (f.2.2.2.2.2 = 25 ∧ 1 ≤ o ∧ zKvt P (o - 1) fr)) := by
  obtain ⟨h1, h2, h3, h4⟩ := h
  refine ⟨h1, ?_⟩
  rcases h4 with ⟨e1, e2⟩ | ⟨e1, e2, e3⟩
  · exact Or.inl ⟨e2, e1⟩
  · refine Or.inr ⟨?_, e2, e3⟩
    rcases h1.2.2.1 with e | e | e
    · exact absurd e e1
    · exact e
    · exact absurd e.1 w12
theorem zhs_f {P : Nat} {f : zLv} {fr : List zLv} (h : zLwt P f) (hw : (f.2.2.2.2.2 = 0 ∧ fr = []) ∨ f.2.2.2.2.2 = 25) : 25 ∈ zWf (f :: fr) ↔ f.2.2.2.2.2 = 25 := by
  obtain ⟨k, m, n, a, l, w⟩ := f
  obtain ⟨h1, h2, -⟩ := h
  have h1' : m = 0 ∨ m = 13 := h1
  have h2' : a = 0 ∨ a = 14 := h2
  have e : (w = 0 ∧ fr = []) ∨ w = 25 := hw
  constructor
  · intro hx
    rcases e with ⟨rfl, rfl⟩ | e
    · rcases h1' with rfl | rfl <;> rcases h2' with rfl | rfl
      · exact absurd hx List.not_mem_nil
      · have hx' : 25 ∈ [11] := hx
        exact absurd hx' (by decide)
      · have hx' : 25 ∈ [10] := hx
        exact absurd hx' (by decide)
      · have hx' : 25 ∈ [10, 11] := hx
        exact absurd hx' (by decide)
    · exact e
  · intro hw25
    have hw25' : w = 25 := hw25
    subst hw25'
    refine List.mem_append.mpr (Or.inl ?_)
    rcases h1' with rfl | rfl <;> rcases h2' with rfl | rfl
    · exact (by decide : 25 ∈ [25])
    · exact (by decide : 25 ∈ [11, 25])
    · exact (by decide : 25 ∈ [10, 25])
    · exact (by decide : 25 ∈ [10, 11, 25])
set_option maxHeartbeats 4000000 in
set_option maxRecDepth 100000 in
theorem sp_mqGoesOnTest {d t len c P : Nat} {M : zMI} {L : zML} {b : Nat → Nat} {T : zDD} {r : zPF} (hT : zTok b len T c) (hW : zWds M) (h : zTsB M b len T c r P) (hrc : r.1.1 < c) : Sy yX12_qGoesOnTest YX12_qGoesOnTest (d + 4) [.ref 177] M L (zRf t) (fun v0 M' L' R' => ∃ o, v0 = some (.int (nI (zb01 o))) ∧ L = L' ∧ R' = zRf t ∧ zSfq 0 M M' ∧ (o = true → zTsA M' b len T c r (P + 1)) ∧ (o = false → zPX M' b len T c r ∨ zTsC M' b len T c r)) := by
  refine Sp.of (by decide +kernel) rfl (fun h => by first | exact h | cases h) (Nat.le_of_ble_eq_true rfl) ?_
  intro w G
  -- an and
  have C87 : ∀ (V : List Nat) (F2 : zFl) (N N0 : zMI) (V' : List Nat) (F' : zFl), zSQq N 0 F2 V 0 → zQfq 0 88 N0 N → zdw zPn V F2 = (V', F') → (∀ N2 : zMI, zSQq N2 0 F' V' 0 → zQfq 0 88 N0 N2 → WP w YX12_qGoesOnTest (d + 4, SS, 0, 0) G (some (zXp (fun v0 M' L' R' => ∃ o, v0 = some (.int (nI (zb01 o))) ∧ L = L' ∧ R' = zRf t ∧ zSfq 0 M M' ∧ (o = true → zTsA M' b len T c r (P + 1)) ∧ (o = false → zPX M' b len T c r ∨ zTsC M' b len T c r)))) 103 [(0, .ref 177)] [] SS N2 L (zRf t)) → WP w YX12_qGoesOnTest (d + 4, SS, 0, 0) G (some (zXp (fun v0 M' L' R' => ∃ o, v0 = some (.int (nI (zb01 o))) ∧ L = L' ∧ R' = zRf t ∧ zSfq 0 M M' ∧ (o = true → zTsA M' b len T c r (P + 1)) ∧ (o = false → zPX M' b len T c r ∨ zTsC M' b len T c r)))) 87 [(0, .ref 177)] [] SS N L (zRf t) := by
    intro V
    induction V with
    | nil =>
      intro F2 N N0 V' F' hQ hq hr kk
      have e : (([] : List Nat), F2) = (V', F') := hr
      cases e
      refine wp_aload_n (q := 88) dX12_qGoesOnTest_87 0 rfl rfl ?_
      refine wp_bipush (q := 90) dX12_qGoesOnTest_88 zq_bipush_10 rfl ?_
      refine wp_cvx (q := 93) (sp_mqIsOn (d := d + 3) (W := []) (v := 10) hQ.2.2.1 hQ.2.2.2.1 (Nat.zero_le _) (by decide) (o := false) rfl) zm_X12_qIsOn zl_RX12_639 dX12_qGoesOnTest_90 rfl (by omega) (Nat.le_of_ble_eq_true rfl) zsh_177 rfl rfl ?_
      refine wp_if_eq (tgt := 103) (q := 96) dX12_qGoesOnTest_93 (by decide) rfl (fun _ => ?_) (fun hn => absurd hn (by decide))
      refine WP.sub (loc' := [(0, _)]) [0] rfl ?_
      exact kk N hQ hq
    | cons y V ih =>
      intro F2 N N0 V' F' hQ hq hr kk
      have e' : (if zPn y then zdw zPn V (F2 ++ [(y + 3, 0)]) else (y :: V, F2)) = (V', F') := hr
      have hl := hQ.2.2.2.2.2
      refine wp_aload_n (q := 88) dX12_qGoesOnTest_87 0 rfl rfl ?_
      refine wp_bipush (q := 90) dX12_qGoesOnTest_88 zq_bipush_10 rfl ?_
      obtain ⟨o3, ho3⟩ : ∃ o, decide ((y :: V).head? = some 10) = o := ⟨_, rfl⟩
      refine wp_cvx (q := 93) (sp_mqIsOn (d := d + 3) (W := y :: V) (v := 10) hQ.2.2.1 hQ.2.2.2.1 (by omega) (by decide) ho3) zm_X12_qIsOn zl_RX12_639 dX12_qGoesOnTest_90 rfl (by omega) (Nat.le_of_ble_eq_true rfl) zsh_177 rfl rfl ?_
      cases o3 with
      | true =>
        have e10 : y = 10 := Option.some.inj (of_decide_eq_true ho3)
        rw [if_pos (show zPn y = true from decide_eq_true e10)] at e'
        refine wp_if_eq (tgt := 103) (q := 96) dX12_qGoesOnTest_93 (by decide) rfl (fun hn => absurd hn (by decide)) (fun _ => ?_)
        refine wp_aload_n (q := 97) dX12_qGoesOnTest_96 0 rfl rfl ?_
        refine wp_cvx (q := 100) (sp_mqDrops (d := d + 2) hQ) zm_X12_qDrops zl_RX12_615 dX12_qGoesOnTest_97 rfl (by omega) (Nat.le_of_ble_eq_true rfl) zsh_177 rfl rfl ?_
        refine wp_goto (tgt := 87) dX12_qGoesOnTest_100 (by decide) ?_
        refine WP.sub (loc' := [(0, _)]) [0] rfl ?_
        exact ih _ _ N0 V' F' (zSQq_pop hQ (zqc_s (by omega) (by omega))) (zQfq_pop hq hQ) e' kk
      | false =>
        have n10 : y ≠ 10 := fun e => (of_decide_eq_false ho3) (by rw [e]; rfl)
        rw [if_neg (show ¬ zPn y = true from fun e => n10 (of_decide_eq_true e))] at e'
        cases e'
        refine wp_if_eq (tgt := 103) (q := 96) dX12_qGoesOnTest_93 (by decide) rfl (fun _ => ?_) (fun hn => absurd hn (by decide))
        refine WP.sub (loc' := [(0, _)]) [0] rfl ?_
        exact kk N hQ hq
  -- an or
  have C137 : ∀ (V : List Nat) (F2 : zFl) (N N0 : zMI) (V' : List Nat) (F' : zFl), zSQq N 0 F2 V 0 → zQfq 0 88 N0 N → zdw zPoo V F2 = (V', F') → (∀ N2 : zMI, zSQq N2 0 F' V' 0 → zQfq 0 88 N0 N2 → WP w YX12_qGoesOnTest (d + 4, SS, 0, 0) G (some (zXp (fun v0 M' L' R' => ∃ o, v0 = some (.int (nI (zb01 o))) ∧ L = L' ∧ R' = zRf t ∧ zSfq 0 M M' ∧ (o = true → zTsA M' b len T c r (P + 1)) ∧ (o = false → zPX M' b len T c r ∨ zTsC M' b len T c r)))) 162 [(0, .ref 177)] [] SS N2 L (zRf t)) → WP w YX12_qGoesOnTest (d + 4, SS, 0, 0) G (some (zXp (fun v0 M' L' R' => ∃ o, v0 = some (.int (nI (zb01 o))) ∧ L = L' ∧ R' = zRf t ∧ zSfq 0 M M' ∧ (o = true → zTsA M' b len T c r (P + 1)) ∧ (o = false → zPX M' b len T c r ∨ zTsC M' b len T c r)))) 137 [(0, .ref 177)] [] SS N L (zRf t) := by
    intro V
    induction V with
    | nil =>
      intro F2 N N0 V' F' hQ hq hr kk
      have e : (([] : List Nat), F2) = (V', F') := hr
      cases e
      refine wp_aload_n (q := 138) dX12_qGoesOnTest_137 0 rfl rfl ?_
      refine wp_bipush (q := 140) dX12_qGoesOnTest_138 zq_bipush_10 rfl ?_
      refine wp_cvx (q := 143) (sp_mqIsOn (d := d + 3) (W := []) (v := 10) hQ.2.2.1 hQ.2.2.2.1 (Nat.zero_le _) (by decide) (o := false) rfl) zm_X12_qIsOn zl_RX12_639 dX12_qGoesOnTest_140 rfl (by omega) (Nat.le_of_ble_eq_true rfl) zsh_177 rfl rfl ?_
      refine wp_if_ne (tgt := 155) (q := 146) dX12_qGoesOnTest_143 (by decide) rfl (fun hn => absurd hn (by decide)) (fun _ => ?_)
      refine wp_aload_n (q := 147) dX12_qGoesOnTest_146 0 rfl rfl ?_
      refine wp_bipush (q := 149) dX12_qGoesOnTest_147 zq_bipush_11 rfl ?_
      refine wp_cvx (q := 152) (sp_mqIsOn (d := d + 3) (W := []) (v := 11) hQ.2.2.1 hQ.2.2.2.1 (Nat.zero_le _) (by decide) (o := false) rfl) zm_X12_qIsOn zl_RX12_639 dX12_qGoesOnTest_149 rfl (by omega) (Nat.le_of_ble_eq_true rfl) zsh_177 rfl rfl ?_
      refine wp_if_eq (tgt := 162) (q := 155) dX12_qGoesOnTest_152 (by decide) rfl (fun _ => ?_) (fun hn => absurd hn (by decide))
      refine WP.sub (loc' := [(0, _)]) [0] rfl ?_
      exact kk N hQ hq
    | cons y V ih =>
      intro F2 N N0 V' F' hQ hq hr kk
      have e' : (if zPoo y then zdw zPoo V (F2 ++ [(y + 3, 0)]) else (y :: V, F2)) = (V', F') := hr
      have hl := hQ.2.2.2.2.2
      have k155 : y = 10 ∨ y = 11 → WP w YX12_qGoesOnTest (d + 4, SS, 0, 0) G (some (zXp (fun v0 M' L' R' => ∃ o, v0 = some (.int (nI (zb01 o))) ∧ L = L' ∧ R' = zRf t ∧ zSfq 0 M M' ∧ (o = true → zTsA M' b len T c r (P + 1)) ∧ (o = false → zPX M' b len T c r ∨ zTsC M' b len T c r)))) 155 [(0, .ref 177)] [] SS N L (zRf t) := by
        intro y3
        rw [if_pos (show zPoo y = true from decide_eq_true y3)] at e'
        refine wp_aload_n (q := 156) dX12_qGoesOnTest_155 0 rfl rfl ?_
        refine wp_cvx (q := 159) (sp_mqDrops (d := d + 2) hQ) zm_X12_qDrops zl_RX12_615 dX12_qGoesOnTest_156 rfl (by omega) (Nat.le_of_ble_eq_true rfl) zsh_177 rfl rfl ?_
        refine wp_goto (tgt := 137) dX12_qGoesOnTest_159 (by decide) ?_
        refine WP.sub (loc' := [(0, _)]) [0] rfl ?_
        exact ih _ _ N0 V' F' (zSQq_pop hQ (zqc_s (by omega) (by omega))) (zQfq_pop hq hQ) e' kk
      refine wp_aload_n (q := 138) dX12_qGoesOnTest_137 0 rfl rfl ?_
      refine wp_bipush (q := 140) dX12_qGoesOnTest_138 zq_bipush_10 rfl ?_
      obtain ⟨o3, ho3⟩ : ∃ o, decide ((y :: V).head? = some 10) = o := ⟨_, rfl⟩
      refine wp_cvx (q := 143) (sp_mqIsOn (d := d + 3) (W := y :: V) (v := 10) hQ.2.2.1 hQ.2.2.2.1 (by omega) (by decide) ho3) zm_X12_qIsOn zl_RX12_639 dX12_qGoesOnTest_140 rfl (by omega) (Nat.le_of_ble_eq_true rfl) zsh_177 rfl rfl ?_
      cases o3 with
      | true =>
        refine wp_if_ne (tgt := 155) (q := 146) dX12_qGoesOnTest_143 (by decide) rfl (fun _ => ?_) (fun hn => absurd hn (by decide))
        refine WP.sub (loc' := [(0, _)]) [0] rfl ?_
        exact k155 (Or.inl (Option.some.inj (of_decide_eq_true ho3)))
      | false =>
      have n10 : y ≠ 10 := fun e => (of_decide_eq_false ho3) (by rw [e]; rfl)
      refine wp_if_ne (tgt := 155) (q := 146) dX12_qGoesOnTest_143 (by decide) rfl (fun hn => absurd hn (by decide)) (fun _ => ?_)
      refine wp_aload_n (q := 147) dX12_qGoesOnTest_146 0 rfl rfl ?_
      refine wp_bipush (q := 149) dX12_qGoesOnTest_147 zq_bipush_11 rfl ?_
      obtain ⟨o4, ho4⟩ : ∃ o, decide ((y :: V).head? = some 11) = o := ⟨_, rfl⟩
      refine wp_cvx (q := 152) (sp_mqIsOn (d := d + 3) (W := y :: V) (v := 11) hQ.2.2.1 hQ.2.2.2.1 (by omega) (by decide) ho4) zm_X12_qIsOn zl_RX12_639 dX12_qGoesOnTest_149 rfl (by omega) (Nat.le_of_ble_eq_true rfl) zsh_177 rfl rfl ?_
      cases o4 with
      | true =>
        refine wp_if_eq (tgt := 162) (q := 155) dX12_qGoesOnTest_152 (by decide) rfl (fun hn => absurd hn (by decide)) (fun _ => ?_)
        refine WP.sub (loc' := [(0, _)]) [0] rfl ?_
        exact k155 (Or.inr (Option.some.inj (of_decide_eq_true ho4)))
      | false =>
      have n11 : y ≠ 11 := fun e => (of_decide_eq_false ho4) (by rw [e]; rfl)
      refine wp_if_eq (tgt := 162) (q := 155) dX12_qGoesOnTest_152 (by decide) rfl (fun _ => ?_) (fun hn => absurd hn (by decide))
      refine WP.sub (loc' := [(0, _)]) [0] rfl ?_
      rw [if_neg (show ¬ zPoo y = true from fun e => by have := of_decide_eq_true e; omega)] at e'
      cases e'
      exact kk N hQ hq
  -- a closing bracket
  have C33 : ∀ (V : List Nat) (F2 : zFl) (N N0 : zMI) (V' : List Nat) (F' : zFl), zSQq N 0 F2 V 0 → zdkr V → zQfq 0 88 N0 N → zdw zPq V F2 = (25 :: V', F') → (∀ N2 : zMI, zSQq N2 0 F' (25 :: V') 0 → zQfq 0 88 N0 N2 → WP w YX12_qGoesOnTest (d + 4, SS, 0, 0) G (some (zXp (fun v0 M' L' R' => ∃ o, v0 = some (.int (nI (zb01 o))) ∧ L = L' ∧ R' = zRf t ∧ zSfq 0 M M' ∧ (o = true → zTsA M' b len T c r (P + 1)) ∧ (o = false → zPX M' b len T c r ∨ zTsC M' b len T c r)))) 49 [(0, .ref 177)] [] SS N2 L (zRf t)) → WP w YX12_qGoesOnTest (d + 4, SS, 0, 0) G (some (zXp (fun v0 M' L' R' => ∃ o, v0 = some (.int (nI (zb01 o))) ∧ L = L' ∧ R' = zRf t ∧ zSfq 0 M M' ∧ (o = true → zTsA M' b len T c r (P + 1)) ∧ (o = false → zPX M' b len T c r ∨ zTsC M' b len T c r)))) 33 [(0, .ref 177)] [] SS N L (zRf t) := by
    intro V
    induction V with
    | nil =>
      intro F2 N N0 V' F' hQ hd hq hr kk
      have e : (([] : List Nat), F2) = (25 :: V', F') := hr
      cases e
    | cons y V ih =>
      intro F2 N N0 V' F' hQ hd hq hr kk
      have e' : (if zPq y then zdw zPq V (F2 ++ [(y + 3, 0)]) else (y :: V, F2)) = (25 :: V', F') := hr
      have hl := hQ.2.2.2.2.2
      refine wp_aload_n (q := 34) dX12_qGoesOnTest_33 0 rfl rfl ?_
      refine wp_bipush (q := 36) dX12_qGoesOnTest_34 zq_bipush_25 rfl ?_
      obtain ⟨o3, ho3⟩ : ∃ o, decide ((y :: V).head? = some 25) = o := ⟨_, rfl⟩
      refine wp_cvx (q := 39) (sp_mqIsOn (d := d + 3) (W := y :: V) (v := 25) hQ.2.2.1 hQ.2.2.2.1 (by omega) (by decide) ho3) zm_X12_qIsOn zl_RX12_639 dX12_qGoesOnTest_36 rfl (by omega) (Nat.le_of_ble_eq_true rfl) zsh_177 rfl rfl ?_
      cases o3 with
      | true =>
        have e25 : y = 25 := Option.some.inj (of_decide_eq_true ho3)
        rw [if_neg (show ¬ zPq y = true from fun e => (of_decide_eq_true e) e25)] at e'
        cases e'
        refine wp_if_ne (tgt := 49) (q := 42) dX12_qGoesOnTest_39 (by decide) rfl (fun _ => ?_) (fun hn => absurd hn (by decide))
        refine WP.sub (loc' := [(0, _)]) [0] rfl ?_
        exact kk N hQ hq
      | false =>
        have n25 : y ≠ 25 := fun e => (of_decide_eq_false ho3) (by rw [e]; rfl)
        rw [if_pos (show zPq y = true from decide_eq_true n25)] at e'
        have hd' : if y = 25 then True else (1 ≤ y ∧ y ≠ 12) ∧ zdkr V := hd
        rw [if_neg n25] at hd'
        refine wp_if_ne (tgt := 49) (q := 42) dX12_qGoesOnTest_39 (by decide) rfl (fun hn => absurd hn (by decide)) (fun _ => ?_)
        refine wp_aload_n (q := 43) dX12_qGoesOnTest_42 0 rfl rfl ?_
        refine wp_cvx (q := 46) (sp_mqDrops (d := d + 2) hQ) zm_X12_qDrops zl_RX12_615 dX12_qGoesOnTest_43 rfl (by omega) (Nat.le_of_ble_eq_true rfl) zsh_177 rfl rfl ?_
        refine wp_goto (tgt := 33) dX12_qGoesOnTest_46 (by decide) ?_
        refine WP.sub (loc' := [(0, _)]) [0] rfl ?_
        exact ih _ _ N0 V' F' (zSQq_pop hQ (zqc_s hd'.1.1 hd'.1.2)) hd'.2 (zQfq_pop hq hQ) e' kk
  have C76 : ∀ (N : zMI) (p : zP) (F : zFl) (f : zLv) (fr : List zLv) (o : Nat), zSSq N b len T c p F (zWf (f :: fr)) 0 0 → zKvt p.1 o (f :: fr) → p.2.1 = nI o → zqks T c (f :: fr) (p, F) = r → P < p.1 → f.2.2.2.2.2 ≠ 12 → zSfq 0 M N → ¬ ((T p.1 0 = 3 ∧ T p.1 2 = 93) ∧ f.2.2.2.2.2 = 25) → WP w YX12_qGoesOnTest (d + 4, SS, 0, 0) G (some (zXp (fun v0 M' L' R' => ∃ o, v0 = some (.int (nI (zb01 o))) ∧ L = L' ∧ R' = zRf t ∧ zSfq 0 M M' ∧ (o = true → zTsA M' b len T c r (P + 1)) ∧ (o = false → zPX M' b len T c r ∨ zTsC M' b len T c r)))) 76 [(0, .ref 177)] [] SS N L (zRf t) := by
    intro N p F f fr o hS hk ho hr hP w12 hf h93
    obtain ⟨a1, a2, a3, a4, a5, a6⟩ := hS
    have hc := zTok_c hT a1
    have hpc := a1.2.2.1
    have hWN := zWds_fq hW hf
    obtain ⟨k1, k2⟩ := zKvt_w hk w12
    have hw0 : f.2.2.2.2.2 = 0 ∨ f.2.2.2.2.2 = 25 := by
      rcases k2 with e | e
      · exact Or.inl e.1
      · exact Or.inr e.1
    have hfr : f.2.2.2.2.2 = 0 → fr = [] := fun e => by
      rcases k2 with e1 | e1
      · exact e1.2
      · omega
    have hfu : 1600 ≤ f.2.2.1 + p.1 ∧ 1600 ≤ f.2.2.2.2.1 + p.1 := by
      rcases k1.2.2.2 with e | e
      · exact absurd e w12
      · exact e
    have hV0 : f.2.2.2.2.2 = 0 → zWf fr = [] := fun e => by rw [hfr e]; rfl
    have dn := zdn_f (V := zWf fr) (F := F) k1 hw0 hV0
    have dO := zdo_f (V := zWf fr) (F := F) k1 hw0 hV0
    have hsq := zhs_f (fr := fr) k1 (by rcases k2 with e | e; exact Or.inl e; exact Or.inr e.1)
    have n1 := zWl_n (f := f) (by omega)
    have lnW : (zWf (f :: fr)).length = (zWl f).length + (zWf fr).length := List.length_append
    have hln := a5.2.2.2.2.2
    obtain ⟨k, m, n, a, l, wk⟩ := f
    have w12' : wk ≠ 12 := w12
    have hw0' : wk = 0 ∨ wk = 25 := hw0
    have n1' : (zWl (k, m, n, a, l, wk)).length = (if m = 0 then 0 else 1) + ((if a = 0 then 0 else 1) + (if wk = 0 then 0 else 1)) := n1
    obtain ⟨o1, ho1⟩ : ∃ o, decide (T p.1 4 = 19) = o := ⟨_, rfl⟩
    refine wp_aload_n (q := 77) dX12_qGoesOnTest_76 0 rfl rfl ?_
    refine wp_aload_n (q := 78) dX12_qGoesOnTest_77 0 rfl rfl ?_
    refine wp_getR (q := 81) dX12_qGoesOnTest_78 zf_RX12_188 rfl zsh_177 (zr_177_76 _) rfl ?_
    refine wp_cvy (q := 84) (sp_mtakes (d := d + 1) (w0 := 19) a1 hT (zWc_q 7 hWN (by decide) rfl rfl (by decide) zsh_234) ho1) zm_X12_takes zl_RX12_263 dX12_qGoesOnTest_81 rfl (by omega) (Nat.le_of_ble_eq_true rfl) zsh_177 rfl rfl ?_
    rintro _ N1 _ _ ⟨rfl, rfl, rfl, p1, s1, t1, u1⟩
    cases o1 with
    | true =>
      have w19 := of_decide_eq_true ho1
      obtain ⟨z1, z2, -⟩ := zTok_4 hT hpc (by decide) w19
      obtain ⟨n', hn'⟩ : ∃ n', n = n' + 1 := ⟨n - 1, by have : 1600 ≤ n + p.1 := hfu.1; omega⟩
      rw [hn', zqks_and w12' w19, zpn_o z1] at hr
      have hA := t1 rfl
      refine wp_if_eq (tgt := 126) (q := 87) dX12_qGoesOnTest_84 (by decide) rfl (fun hn => absurd hn (by decide)) (fun _ => ?_)
      refine WP.sub (loc' := [(0, _)]) [0] rfl ?_
      refine C87 (zWl (k, m, n, a, l, wk) ++ zWf fr) F N1 N1 _ _ (zSQq_p a5 p1) zQfq_r dn ?_
      intro N3 hQ3 hq3
      have hln3 : (zap m F).length = F.length + if m = 0 then 0 else 1 := zap_n
      have hQl : 0 + (zap m F).length + (zWt a wk ++ zWf fr).length ≤ 1600 := hQ3.2.2.2.2.2
      have e46 : N3 177 90 = nI (zWt a wk ++ zWf fr).length := hQ3.2.2.1
      have hlw : (zWt a wk ++ zWf fr).length = (if a = 0 then 0 else 1) + (if wk = 0 then 0 else 1) + (zWf fr).length := by rw [List.length_append, zWt_n]
      refine wp_aload_n (q := 104) dX12_qGoesOnTest_103 0 rfl rfl ?_
      refine wp_getR (q := 107) dX12_qGoesOnTest_104 zf_RX12_224 rfl zsh_177 (zr_177_89 _) rfl ?_
      refine wp_aload_n (q := 108) dX12_qGoesOnTest_107 0 rfl rfl ?_
      refine wp_getI (q := 111) dX12_qGoesOnTest_108 zf_RX12_603 rfl zsh_177 rfl ?_
      rw [e46]
      refine wp_bipush (q := 113) dX12_qGoesOnTest_111 zq_bipush_10 rfl ?_
      refine wp_iast (q := 114) _ dX12_qGoesOnTest_113 zsh_246 rfl (by omega) (by decide) rfl ?_
      refine wp_aload_n (q := 115) dX12_qGoesOnTest_114 0 rfl rfl ?_
      refine wp_dup (q := 116) dX12_qGoesOnTest_115 rfl rfl ?_
      refine wp_getI (q := 119) dX12_qGoesOnTest_116 zf_RX12_603 rfl zsh_177 rfl ?_
      rw [zu_ne (by decide), e46]
      refine wp_iconst (q := 120) dX12_qGoesOnTest_119 zq_iconst_1 rfl ?_
      refine wp_iaddN (q := 121) dX12_qGoesOnTest_120 rfl ?_
      refine wp_putI (q := 124) dX12_qGoesOnTest_121 zf_RX12_603 rfl zsh_177 rfl ?_
      refine wp_iconst (q := 125) dX12_qGoesOnTest_124 zq_iconst_1 rfl ?_
      have hq4 : zQfq 0 88 N3 (zu (zu N3 246 (zWt a wk ++ zWf fr).length (nI 10)) 177 90 (nI ((zWt a wk ++ zWf fr).length + 1))) := zQfq_7 (zQfq_k zQfq_r) (Or.inl rfl) (by omega)
      have hq5 := zQfq_t hq3 hq4
      have eW2 : zWf ((k, 13, n', a, l, wk) :: fr) = 10 :: (zWt a wk ++ zWf fr) := by
        show zWl (k, 13, n', a, l, wk) ++ zWf fr = _
        rw [zWl_t (by omega) (by decide)]
        rfl
      refine wp_zreturn dX12_qGoesOnTest_125 rfl (by first | with_reducible exact znar_0 | with_reducible exact znar_1 | assumption) ⟨rfl, ⟨true, rfl, rfl, rfl, zSfq_t (zSfq_p hf p1) hq5.1, fun _ => ⟨(p.1 + 1, p.2.1, p.2.2.1, p.2.2.2), zap m F, (k, 13, n', a, l, wk), fr, o, ⟨zAt_qq hA hq5 (by decide), by rw [hq5.2 6 (by decide) (by decide) (by decide), s1]; exact a2, a3, by rw [hq5.2 91 (by decide) (by decide) (by decide), p1.2 91 (by decide) (by decide) (by decide) (by decide) (by decide)]; exact a4, zSQq_W (zSQq_push (x := 10) hQ3 (by omega) (by decide)) eW2.symm, ?_⟩, ?_, ho, hr, by show P + 1 ≤ p.1 + 1; omega⟩, fun e => by cases e⟩⟩ rfl rfl
      · rw [eW2, List.length_cons]
        show 0 + (zap m F).length + ((zWt a wk ++ zWf fr).length + 1) + 1 ≤ p.1 + 1
        omega
      · obtain ⟨⟨q1, q2, q3, q3'⟩, q4, q5, q6⟩ := zKvt_m (Nat.le_succ p.1) _ _ hk
        refine ⟨⟨Or.inr rfl, q2, ?_, Or.inr ⟨?_, ?_⟩⟩, q4, q5, q6⟩
        · rcases hw0' with e | e
          · exact Or.inl e
          · exact Or.inr (Or.inl e)
        · show 1600 ≤ n' + (p.1 + 1)
          have : 1600 ≤ n + p.1 := hfu.1
          omega
        · show 1600 ≤ l + (p.1 + 1)
          have : 1600 ≤ l + p.1 := hfu.2
          omega
    | false =>
    have w19 := of_decide_eq_false ho1
    obtain ⟨o2, ho2⟩ : ∃ o, decide (T p.1 4 = 18) = o := ⟨_, rfl⟩
    refine wp_if_eq (tgt := 126) (q := 87) dX12_qGoesOnTest_84 (by decide) rfl (fun _ => ?_) (fun hn => absurd hn (by decide))
    refine wp_aload_n (q := 127) dX12_qGoesOnTest_126 0 rfl rfl ?_
    refine wp_aload_n (q := 128) dX12_qGoesOnTest_127 0 rfl rfl ?_
    refine wp_getR (q := 131) dX12_qGoesOnTest_128 zf_RX12_191 rfl zsh_177 (zr_177_77 _) rfl ?_
    refine wp_cvy (q := 134) (sp_mtakes (d := d + 1) (w0 := 18) (u1 rfl).1 hT (zWc_q 8 (zWds_p hWN p1) (by decide) rfl rfl (by decide) zsh_235) ho2) zm_X12_takes zl_RX12_263 dX12_qGoesOnTest_131 rfl (by omega) (Nat.le_of_ble_eq_true rfl) zsh_177 rfl rfl ?_
    rintro _ N2 _ _ ⟨rfl, rfl, rfl, p2', s2', t2, u2⟩
    have p2 := zPf_t p1 p2'
    have s2 := s2'.trans s1
    cases o2 with
    | true =>
      have w18 := of_decide_eq_true ho2
      obtain ⟨z1, z2, -⟩ := zTok_4 hT hpc (by decide) w18
      obtain ⟨l', hl'⟩ : ∃ l', l = l' + 1 := ⟨l - 1, by have : 1600 ≤ l + p.1 := hfu.2; omega⟩
      rw [hl', zqks_or w12' w18, zpn_o z1] at hr
      have hA := t2 rfl
      refine wp_if_eq (tgt := 185) (q := 137) dX12_qGoesOnTest_134 (by decide) rfl (fun hn => absurd hn (by decide)) (fun _ => ?_)
      refine WP.sub (loc' := [(0, _)]) [0] rfl ?_
      refine C137 (zWl (k, m, n, a, l, wk) ++ zWf fr) F N2 N2 _ _ (zSQq_p a5 p2) zQfq_r dO ?_
      intro N3 hQ3 hq3
      have hln3 : (zap m F).length = F.length + if m = 0 then 0 else 1 := zap_n
      have hln4 : (zap a (zap m F)).length = (zap m F).length + if a = 0 then 0 else 1 := zap_n
      have hln5 : (if wk = 0 then ([] : List Nat) else [wk]).length = if wk = 0 then 0 else 1 := by split <;> rfl
      have hQl : 0 + (zap a (zap m F)).length + ((if wk = 0 then ([] : List Nat) else [wk]) ++ zWf fr).length ≤ 1600 := hQ3.2.2.2.2.2
      have e46 : N3 177 90 = nI ((if wk = 0 then ([] : List Nat) else [wk]) ++ zWf fr).length := hQ3.2.2.1
      have hlw : ((if wk = 0 then ([] : List Nat) else [wk]) ++ zWf fr).length = (if wk = 0 then 0 else 1) + (zWf fr).length := by rw [List.length_append, hln5]
      refine wp_aload_n (q := 163) dX12_qGoesOnTest_162 0 rfl rfl ?_
      refine wp_getR (q := 166) dX12_qGoesOnTest_163 zf_RX12_224 rfl zsh_177 (zr_177_89 _) rfl ?_
      refine wp_aload_n (q := 167) dX12_qGoesOnTest_166 0 rfl rfl ?_
      refine wp_getI (q := 170) dX12_qGoesOnTest_167 zf_RX12_603 rfl zsh_177 rfl ?_
      rw [e46]
      refine wp_bipush (q := 172) dX12_qGoesOnTest_170 zq_bipush_11 rfl ?_
      refine wp_iast (q := 173) _ dX12_qGoesOnTest_172 zsh_246 rfl (by omega) (by decide) rfl ?_
      refine wp_aload_n (q := 174) dX12_qGoesOnTest_173 0 rfl rfl ?_
      refine wp_dup (q := 175) dX12_qGoesOnTest_174 rfl rfl ?_
      refine wp_getI (q := 178) dX12_qGoesOnTest_175 zf_RX12_603 rfl zsh_177 rfl ?_
      rw [zu_ne (by decide), e46]
      refine wp_iconst (q := 179) dX12_qGoesOnTest_178 zq_iconst_1 rfl ?_
      refine wp_iaddN (q := 180) dX12_qGoesOnTest_179 rfl ?_
      refine wp_putI (q := 183) dX12_qGoesOnTest_180 zf_RX12_603 rfl zsh_177 rfl ?_
      refine wp_iconst (q := 184) dX12_qGoesOnTest_183 zq_iconst_1 rfl ?_
      have hq4 : zQfq 0 88 N3 (zu (zu N3 246 ((if wk = 0 then ([] : List Nat) else [wk]) ++ zWf fr).length (nI 11)) 177 90 (nI (((if wk = 0 then ([] : List Nat) else [wk]) ++ zWf fr).length + 1))) := zQfq_7 (zQfq_k zQfq_r) (Or.inl rfl) (by omega)
      have hq5 := zQfq_t hq3 hq4
      have eW2 : zWf ((k, 0, 1600, 14, l', wk) :: fr) = 11 :: ((if wk = 0 then ([] : List Nat) else [wk]) ++ zWf fr) := by
        show zWl (k, 0, 1600, 14, l', wk) ++ zWf fr = _
        rw [zWl_a (by omega) (by decide)]
        rfl
      refine wp_zreturn dX12_qGoesOnTest_184 rfl (by first | with_reducible exact znar_0 | with_reducible exact znar_1 | assumption) ⟨rfl, ⟨true, rfl, rfl, rfl, zSfq_t (zSfq_p hf p2) hq5.1, fun _ => ⟨(p.1 + 1, p.2.1, p.2.2.1, p.2.2.2), zap a (zap m F), (k, 0, 1600, 14, l', wk), fr, o, ⟨zAt_qq hA hq5 (by decide), by rw [hq5.2 6 (by decide) (by decide) (by decide), s2]; exact a2, a3, by rw [hq5.2 91 (by decide) (by decide) (by decide), p2.2 91 (by decide) (by decide) (by decide) (by decide) (by decide)]; exact a4, zSQq_W (zSQq_push (x := 11) hQ3 (by omega) (by decide)) eW2.symm, ?_⟩, ?_, ho, hr, by show P + 1 ≤ p.1 + 1; omega⟩, fun e => by cases e⟩⟩ rfl rfl
      · rw [eW2, List.length_cons]
        show 0 + (zap a (zap m F)).length + (((if wk = 0 then ([] : List Nat) else [wk]) ++ zWf fr).length + 1) + 1 ≤ p.1 + 1
        omega
      · obtain ⟨⟨q1, q2, q3, q3'⟩, q4, q5, q6⟩ := zKvt_m (Nat.le_succ p.1) _ _ hk
        refine ⟨⟨Or.inl rfl, Or.inr rfl, ?_, Or.inr ⟨Nat.le_add_right _ _, ?_⟩⟩, q4, q5, q6⟩
        · rcases hw0' with e | e
          · exact Or.inl e
          · exact Or.inr (Or.inl e)
        · show 1600 ≤ l' + (p.1 + 1)
          have : 1600 ≤ l + p.1 := hfu.2
          omega
    | false =>
    have w18 := of_decide_eq_false ho2
    obtain ⟨u3, u4⟩ := u2 rfl
    have hQ2 := zSQq_p a5 p2
    rw [zqks_end w12' w19 w18] at hr
    refine wp_if_eq (tgt := 185) (q := 137) dX12_qGoesOnTest_134 (by decide) rfl (fun _ => ?_) (fun hn => absurd hn (by decide))
    refine wp_aload_n (q := 186) dX12_qGoesOnTest_185 0 rfl rfl ?_
    refine wp_getI (q := 189) dX12_qGoesOnTest_186 zf_RX12_236 rfl zsh_177 rfl ?_
    rw [u3.2.1]
    refine wp_if_neN (tgt := 208) (q := 192) dX12_qGoesOnTest_189 (by decide) rfl (by omega) (fun hn => absurd hn (by first | omega | exact fun h => h | exact fun h => h trivial)) (fun _ => ?_)
    refine wp_aload_n (q := 193) dX12_qGoesOnTest_192 0 rfl rfl ?_
    by_cases w25 : wk = 25
    · have n93 : ¬ (T p.1 0 = 3 ∧ T p.1 2 = 93) := fun e => h93 ⟨e, w25⟩
      have hz : (zqkm T c wk (p, zap a (zap m F))).1.2.2 = (1, nI (T p.1 1)) := by
        unfold zqkm
        rw [if_neg (by omega)]
        show (zpNS T c p 93).2.2 = _
        rw [show zpNS T c p 93 = zpfh T c p from if_neg (fun e => n93 (zpS_i.mp e))]
        exact zpf_22 a3
      refine wp_cvx (q := 196) (sp_mqHasSquare (d := d) hQ2.2.2.1 hQ2.2.2.2.1 (by omega) (o := true) (decide_eq_true (hsq.mpr w25))) zm_X12_qHasSquare zl_RX12_660 dX12_qGoesOnTest_193 rfl (by omega) (Nat.le_of_ble_eq_true rfl) zsh_177 rfl rfl ?_
      refine wp_if_eq (tgt := 208) (q := 199) dX12_qGoesOnTest_196 (by decide) rfl (fun hn => absurd hn (by decide)) (fun _ => ?_)
      refine wp_aload_n (q := 200) dX12_qGoesOnTest_199 0 rfl rfl ?_
      refine wp_iconst (q := 201) dX12_qGoesOnTest_200 zq_iconst_1 rfl ?_
      refine wp_aload_n (q := 202) dX12_qGoesOnTest_201 0 rfl rfl ?_
      refine wp_getI (q := 205) dX12_qGoesOnTest_202 zf_RX12_242 rfl zsh_177 rfl ?_
      rw [u4]
      refine wp_cvx (q := 208) (sp_mfail (d := d + 3) u3.2.1) zm_X12_fail zl_RX12_266 dX12_qGoesOnTest_205 rfl (by omega) (Nat.le_of_ble_eq_true rfl) zsh_177 rfl rfl ?_
      refine wp_iconst (q := 209) dX12_qGoesOnTest_208 zq_iconst_0 rfl ?_
      exact wp_zreturn dX12_qGoesOnTest_209 rfl (by first | with_reducible exact znar_0 | with_reducible exact znar_1 | assumption) ⟨rfl, ⟨false, rfl, rfl, rfl, zSfq_7 (zSfq_7 (zSfq_p hf p2) (by omega)) (by omega), fun e => (by cases e), fun _ => Or.inl (zqPX hr hz (by decide) (by decide) hrc zBd_5)⟩⟩ rfl rfl
    · have ew : wk = 0 := by omega
      have efr : fr = [] := hfr ew
      subst ew
      subst efr
      refine wp_cvx (q := 196) (sp_mqHasSquare (d := d) hQ2.2.2.1 hQ2.2.2.2.1 (by omega) (o := false) (decide_eq_false (fun e => w25 (hsq.mp e)))) zm_X12_qHasSquare zl_RX12_660 dX12_qGoesOnTest_193 rfl (by omega) (Nat.le_of_ble_eq_true rfl) zsh_177 rfl rfl ?_
      refine wp_if_eq (tgt := 208) (q := 199) dX12_qGoesOnTest_196 (by decide) rfl (fun _ => ?_) (fun hn => absurd hn (by decide))
      refine wp_iconst (q := 209) dX12_qGoesOnTest_208 zq_iconst_0 rfl ?_
      have eZ : zWf [(k, m, n, a, l, 0)] = zWl (k, m, n, a, l, 0) := List.append_nil _
      exact wp_zreturn dX12_qGoesOnTest_209 rfl (by first | with_reducible exact znar_0 | with_reducible exact znar_1 | assumption) ⟨rfl, ⟨false, rfl, rfl, rfl, zSfq_p hf p2, fun e => (by cases e), fun _ => Or.inr ⟨p, F, (k, m, n, a, l, 0), ⟨u3, by rw [s2]; exact a2, a3, by rw [p2.2 91 (by decide) (by decide) (by decide) (by decide) (by decide)]; exact a4, by rw [← eZ]; exact hQ2, by rw [← eZ]; exact a6⟩, k1, rfl, hr.symm⟩⟩⟩ rfl rfl
  have C0 : ∀ (q : Nat) (M2 : zMI) (p : zP) (F : zFl) (f : zLv) (fr : List zLv) (o : Nat), c ≤ q + p.1 → zSSq M2 b len T c p F (zWf (f :: fr)) 0 0 → zKvt p.1 o (f :: fr) → p.2.1 = nI o → zqks T c (f :: fr) (p, F) = r → P < p.1 → f.2.2.2.2.2 ≠ 12 → zSfq 0 M M2 → WP w YX12_qGoesOnTest (d + 4, SS, 0, 0) G (some (zXp (fun v0 M' L' R' => ∃ o, v0 = some (.int (nI (zb01 o))) ∧ L = L' ∧ R' = zRf t ∧ zSfq 0 M M' ∧ (o = true → zTsA M' b len T c r (P + 1)) ∧ (o = false → zPX M' b len T c r ∨ zTsC M' b len T c r)))) 0 [(0, .ref 177)] [] SS M2 L (zRf t) := by
    intro q
    induction q with
    | zero => intro M2 p F f fr o hq hS; exact absurd hS.1.2.2.1 (by omega)
    | succ q ih =>
      intro M2 p F f fr o hq hS hk ho hr hP w12 hf
      obtain ⟨a1, a2, a3, a4, a5, a6⟩ := hS
      have hc := zTok_c hT a1
      have hpc := a1.2.2.1
      have hlen := zTok_len hT hpc
      have hl16 := a1.1.2.1
      have hsg := zSg (s := 93) hT (fun i hi => (a1.1.2.2 i hi).2) hpc (by decide) (by decide)
      obtain ⟨k1, k2⟩ := zKvt_w hk w12
      refine wp_aload_n (q := 1) dX12_qGoesOnTest_0 0 rfl rfl ?_
      refine wp_getI (q := 4) dX12_qGoesOnTest_1 zf_RX12_236 rfl zsh_177 rfl ?_
      rw [a1.2.1]
      refine wp_if_neN (tgt := 76) (q := 7) dX12_qGoesOnTest_4 (by decide) rfl (by omega) (fun hn => absurd hn (by first | omega | exact fun h => h | exact fun h => h trivial)) (fun _ => ?_)
      refine wp_aload_n (q := 8) dX12_qGoesOnTest_7 0 rfl rfl ?_
      refine wp_cvy (q := 11) (sp_mLook (d := d + 3) a1 hT) zm_X12_look zl_RX12_248 dX12_qGoesOnTest_8 rfl (by omega) (Nat.le_of_ble_eq_true rfl) zsh_177 rfl rfl ?_
      rintro _ N1 _ _ ⟨rfl, rfl, rfl, c1, c2, c3, c4⟩
      have hp1 : zPf M2 N1 := ⟨c4, fun k k1 _ _ _ _ => c3 k k1⟩
      have hS1 : zSSq N1 b len T c p F (zWf (f :: fr)) 0 0 := ⟨c1, by rw [c3 6 (by decide)]; exact a2, a3, by rw [c3 91 (by decide)]; exact a4, zSQq_p a5 hp1, a6⟩
      have hf1 := zSfq_p hf hp1
      have hQ1 := zSQq_p a5 hp1
      have hln1 := hQ1.2.2.2.2.2
      have hsq := zhs_f (fr := fr) k1 (by rcases k2 with e | e; exact Or.inl e; exact Or.inr e.1)
      refine wp_bipush (q := 13) dX12_qGoesOnTest_11 zq_bipush_93 rfl ?_
      refine wp_icmp_ne (tgt := 76) (q := 16) dX12_qGoesOnTest_13 (by decide) rfl (fun z93 => ?_) (fun z93 => ?_)
      · skip
        refine WP.sub (loc' := [(0, _)]) [0] rfl ?_
        exact C76 N1 p F f fr o hS1 hk ho hr hP w12 hf1 (fun e => z93 (hsg.mpr e.1))
      · skip
        have h93 := hsg.mp z93
        obtain ⟨z1, z2⟩ := zTok_3 hT hpc h93.1
        refine wp_aload_n (q := 17) dX12_qGoesOnTest_16 0 rfl rfl ?_
        by_cases w25 : f.2.2.2.2.2 = 25
        · have k2' : 1 ≤ o ∧ zKvt p.1 (o - 1) fr := by
            rcases k2 with k2 | k2
            · omega
            · exact k2.2
          obtain ⟨k3, k4⟩ := k2'
          have n19 : T p.1 4 ≠ 19 := by have := zTok_n4 hT hpc (by omega : T p.1 0 ≠ 1); omega
          have n18 : T p.1 4 ≠ 18 := by have := zTok_n4 hT hpc (by omega : T p.1 0 ≠ 1); omega
          rw [show zqks T c (f :: fr) (p, F) = zqks T c fr (zqkm T c f.2.2.2.2.2 (p, zap f.2.2.2.1 (zap f.2.1 F))) from zqks_end w12 n19 n18] at hr
          have hns : zpNS T c p 93 = (p.1 + 1, p.2.1, p.2.2.1, p.2.2.2) := by rw [← zpn_o z1]; exact if_pos (zpS_i.mpr h93)
          have hop : nI o - nI 1 = nI (o - 1) := pk_sub k3
          obtain ⟨F2, hF2⟩ : ∃ F2, zap f.2.2.2.1 (zap f.2.1 F) = F2 := ⟨_, rfl⟩
          have hln : (zap f.2.1 F).length = F.length + if f.2.1 = 0 then 0 else 1 := zap_n
          have hln2 : (zap f.2.2.2.1 (zap f.2.1 F)).length = (zap f.2.1 F).length + if f.2.2.2.1 = 0 then 0 else 1 := zap_n
          have hdm := zdq_f (V := zWf fr) (F := F) k1 w25
          have n1 := zWl_n (f := f) (by omega)
          rw [if_neg (show ¬ f.2.2.2.2.2 = 0 by omega)] at n1
          have lnW : (zWf (f :: fr)).length = (zWl f).length + (zWf fr).length := List.length_append
          rw [hF2] at hr hdm hln2
          have e : zqkm T c f.2.2.2.2.2 (p, F2) = ((p.1 + 1, nI (o - 1), p.2.2.1, p.2.2.2), F2) := by
            unfold zqkm
            rw [if_neg (by omega)]
            show (zpl (zpNS T c p 93), F2) = _
            rw [hns]
            show ((p.1 + 1, p.2.1 - nI 1, p.2.2.1, p.2.2.2), F2) = _
            rw [ho, hop]
          rw [e] at hr
          obtain ⟨f2, fr2, hfr⟩ : ∃ f2 fr2, fr = f2 :: fr2 := by
            cases fr with
            | nil => exact k4.elim
            | cons f2 fr2 => exact ⟨f2, fr2, rfl⟩
          refine wp_cvx (q := 20) (sp_mqHasSquare (d := d) hQ1.2.2.1 hQ1.2.2.2.1 (by omega) (o := true) (decide_eq_true (hsq.mpr w25))) zm_X12_qHasSquare zl_RX12_660 dX12_qGoesOnTest_17 rfl (by omega) (Nat.le_of_ble_eq_true rfl) zsh_177 rfl rfl ?_
          refine wp_if_eq (tgt := 76) (q := 23) dX12_qGoesOnTest_20 (by decide) rfl (fun hn => absurd hn (by decide)) (fun _ => ?_)
          refine wp_aload_n (q := 24) dX12_qGoesOnTest_23 0 rfl rfl ?_
          refine wp_dup (q := 25) dX12_qGoesOnTest_24 rfl rfl ?_
          refine wp_getI (q := 28) dX12_qGoesOnTest_25 zf_RX12_242 rfl zsh_177 rfl ?_
          rw [c2]
          refine wp_iconst (q := 29) dX12_qGoesOnTest_28 zq_iconst_1 rfl ?_
          refine wp_iaddN (q := 30) dX12_qGoesOnTest_29 rfl ?_
          refine wp_putI (q := 33) dX12_qGoesOnTest_30 zf_RX12_242 rfl zsh_177 rfl ?_
          have hg2 := zAt_g c1 hT h93.1
          obtain ⟨N2, hN2⟩ : ∃ N2, zu N1 177 2 (nI (T p.1 1 + 1)) = N2 := ⟨_, rfl⟩
          have hQ2 : zSQq N2 0 F (zWl f ++ zWf fr) 0 := by rw [← hN2]; exact zSQq_7 hQ1 (by decide) (by decide) (by decide)
          have hf2 : zSfq 0 M N2 := by rw [← hN2]; exact zSfq_7 hf1 (by omega)
          have h26 : N2 177 6 = p.2.2.2 := by rw [← hN2, zu_k (by decide)]; exact hS1.2.1
          have h247 : N2 177 91 = nI o := by rw [← hN2, zu_k (by decide), hS1.2.2.2.1, ho]
          rw [hN2] at hg2
          rw [hN2]
          refine WP.sub (loc' := [(0, _)]) [0] rfl ?_
          refine C33 (zWl f ++ zWf fr) F N2 N2 (zWf fr) F2 hQ2 (zdkr_f k1 w25) zQfq_r hdm ?_
          intro N3 hQ3 hq3
          have e46 : N3 177 90 = nI ((zWf fr).length + 1) := hQ3.2.2.1
          have hln6 : 0 + F2.length + ((zWf fr).length + 1) ≤ 1600 := hQ3.2.2.2.2.2
          have e47 : N3 177 91 = nI o := by rw [hq3.2 91 (by decide) (by decide) (by decide)]; exact h247
          refine wp_aload_n (q := 50) dX12_qGoesOnTest_49 0 rfl rfl ?_
          refine wp_dup (q := 51) dX12_qGoesOnTest_50 rfl rfl ?_
          refine wp_getI (q := 54) dX12_qGoesOnTest_51 zf_RX12_603 rfl zsh_177 rfl ?_
          rw [e46]
          refine wp_iconst (q := 55) dX12_qGoesOnTest_54 zq_iconst_1 rfl ?_
          refine wp_isubN (q := 56) dX12_qGoesOnTest_55 (by omega) rfl ?_
          rw [Nat.add_sub_cancel]
          refine wp_putI (q := 59) dX12_qGoesOnTest_56 zf_RX12_603 rfl zsh_177 rfl ?_
          refine wp_aload_n (q := 60) dX12_qGoesOnTest_59 0 rfl rfl ?_
          refine wp_dup (q := 61) dX12_qGoesOnTest_60 rfl rfl ?_
          refine wp_getI (q := 64) dX12_qGoesOnTest_61 zf_RX12_600 rfl zsh_177 rfl ?_
          rw [zu_k (by decide), e47]
          refine wp_iconst (q := 65) dX12_qGoesOnTest_64 zq_iconst_1 rfl ?_
          refine wp_isubN (q := 66) dX12_qGoesOnTest_65 (by omega) rfl ?_
          refine wp_putI (q := 69) dX12_qGoesOnTest_66 zf_RX12_600 rfl zsh_177 rfl ?_
          refine wp_aload_n (q := 70) dX12_qGoesOnTest_69 0 rfl rfl ?_
          have hQ4 : zSQq (zu (zu N3 177 90 (nI (zWf fr).length)) 177 91 (nI (o - 1))) 0 F2 (zWf fr) 0 := zSQq_7 (zSQq_drop hQ3) (by decide) (by decide) (by decide)
          have hq4 : zQfq 0 91 N3 (zu (zu N3 177 90 (nI (zWf fr).length)) 177 91 (nI (o - 1))) := zQfq_7 (zQfq_7 zQfq_r (Or.inr rfl) (by omega)) (Or.inr rfl) (by omega)
          have hE : zTsE (zu (zu N3 177 90 (nI (zWf fr).length)) 177 91 (nI (o - 1))) b len T c r p.1 := by
            have hk4 := zKvt_m (Nat.le_succ p.1) _ _ k4
            rw [hfr] at hk4 hQ4 hr lnW a6 ⊢
            refine ⟨(p.1 + 1, nI (o - 1), p.2.2.1, p.2.2.2), F2, f2, fr2, o - 1, ⟨zAt_qq (zAt_qq hg2 hq3 (by decide)) (by rw [← hfr]; exact hq4) (by decide), ?_, a3, zu_s, hQ4, ?_⟩, hk4, rfl, hr, Nat.lt_succ_self _⟩
            · rw [zu_k (by decide), zu_k (by decide), hq3.2 6 (by decide) (by decide) (by decide)]; exact h26
            · show 0 + F2.length + (zWf (f2 :: fr2)).length + 1 ≤ p.1 + 1
              omega
          refine wp_cvy (q := 73) (sp_mqDropsNots (d := d) hE) zm_X12_qDropsNots zl_RX12_654 dX12_qGoesOnTest_70 rfl (by omega) (Nat.le_of_ble_eq_true rfl) zsh_177 rfl rfl ?_
          rintro _ N5 _ _ ⟨rfl, rfl, rfl, hf5, p5, F5, f5, fr5, o5, x1, x2, x3, x4, x5, x6⟩
          refine wp_goto (tgt := 0) dX12_qGoesOnTest_73 (by decide) ?_
          refine WP.sub (loc' := [(0, _)]) [0] rfl ?_
          exact ih N5 p5 F5 f5 fr5 o5 (by omega) x1 x2 x3 x4 (by omega) x6 (zSfq_t (zSfq_t (zSfq_t hf2 hq3.1) hq4.1) hf5)
        · skip
          refine wp_cvx (q := 20) (sp_mqHasSquare (d := d) hQ1.2.2.1 hQ1.2.2.2.1 (by omega) (o := false) (decide_eq_false (fun e => w25 (hsq.mp e)))) zm_X12_qHasSquare zl_RX12_660 dX12_qGoesOnTest_17 rfl (by omega) (Nat.le_of_ble_eq_true rfl) zsh_177 rfl rfl ?_
          refine wp_if_eq (tgt := 76) (q := 23) dX12_qGoesOnTest_20 (by decide) rfl (fun _ => ?_) (fun hn => absurd hn (by decide))
          refine WP.sub (loc' := [(0, _)]) [0] rfl ?_
          exact C76 N1 p F f fr o hS1 hk ho hr hP w12 hf1 (fun e => w25 e.2)
  obtain ⟨p, F, f, fr, o, h1, h2, h3, h4, h5, h6⟩ := h
  refine WP.sub (loc' := [(0, _)]) [0] rfl ?_
  exact C0 c M p F f fr o (by omega) h1 h2 h3 h4 h5 h6 zSfq_r

