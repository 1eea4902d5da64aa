-- a stack of ints in a row of cells, its top first
def zStk (M : zMI) (ow : Nat) : List Nat → Prop
  | [] => True
  | x :: W => (M ow W.length = nI x ∧ x < 100) ∧ zStk M ow W
theorem zStk_fr {M M' : zMI} {ow : Nat} : ∀ W : List Nat, zStk M ow W → (∀ j, j < W.length → M' ow j = M ow j) → zStk M' ow W
  | [], _, _ => trivial
  | x :: W, h, e => ⟨⟨by rw [e _ (Nat.lt_succ_self _)]; exact h.1.1, h.1.2⟩, zStk_fr W h.2 (fun j hj => e j (Nat.lt_succ_of_lt hj))⟩
theorem zStk_e {M M' : zMI} {ow : Nat} {W : List Nat} (h : zStk M ow W) (e : M' ow = M ow) : zStk M' ow W := zStk_fr W h (fun j _ => by rw [e])
theorem zStk_w {M : zMI} {ow k : Nat} {x : Int32} {W : List Nat} (h : zStk M ow W) (hk : W.length ≤ k) : zStk (zu M ow k x) ow W := zStk_fr W h (fun j hj => zu_k (by omega))
theorem zStk_x {M : zMI} {ow : Nat} : ∀ {W : List Nat} {x : Nat}, zStk M ow W → x ∈ W → x < 100
  | [], _, _, hx => absurd hx List.not_mem_nil
  | y :: W, x, h, hx => by
    rcases List.mem_cons.mp hx with e | e
    · rw [e]; exact h.1.2
    · exact zStk_x h.2 e
def zcdX (F : zFl) (M : zMI) (oc g : Nat) (cd : Nat → Nat → Nat) : Prop := ∀ i op a, F[i]? = some (op, a) → M oc (g + i) = nI (cd op a)
theorem zcdX_s {F : zFl} {M : zMI} {oc g op a v : Nat} {cd : Nat → Nat → Nat} (h : zcdX F M oc g cd) (hv : cd op a = v) : zcdX (F ++ [(op, a)]) (zu M oc (g + F.length) (nI v)) oc g cd := by
  intro i op' a' hi
  by_cases c : i < F.length
  · rw [List.getElem?_append_left c] at hi
    rw [zu_k (by omega)]
    exact h i op' a' hi
  · rw [List.getElem?_append_right (by omega)] at hi
    have h0 : i - F.length = 0 := by
      refine Classical.byContradiction fun hh => ?_
      rw [List.getElem?_eq_none (by simp only [List.length_cons, List.length_nil]; omega)] at hi
      cases hi
    rw [h0] at hi
    have e : (op, a) = (op', a') := Option.some.inj hi
    cases e
    rw [show i = F.length by omega, zu_s, hv]
theorem zcdX_fr {F : zFl} {M M' : zMI} {oc g : Nat} {cd : Nat → Nat → Nat} (h : zcdX F M oc g cd) (e : M' oc = M oc) : zcdX F M' oc g cd := fun i op a hi => by rw [e]; exact h i op a hi
def zlk : List Nat → Int32
  | [] => -1
  | _ :: W => nI W.length
theorem zlk_lt {W : List Nat} (h : W.length ≤ 1700) : zlk W < nI W.length := by
  cases W with
  | nil => show (-1 : Int32) < nI 0; decide
  | cons x W =>
    rw [List.length_cons] at h ⊢
    show nI W.length < nI (W.length + 1)
    exact nI_lt (by omega) (by omega)
def zSQ (M : zMI) (g : Nat) (F : zFl) (W : List Nat) (B : Nat) : Prop := M 177 44 = nI (g + F.length) ∧ zcdX F M 211 g zcd ∧ M 177 46 = nI W.length ∧ zStk M 212 W ∧ M 177 48 = nI B ∧ g + F.length + W.length ≤ 1600
theorem zSQ_fr {M M' : zMI} {g B : Nat} {F : zFl} {W : List Nat} (h : zSQ M g F W B) (h1 : M' 177 44 = M 177 44) (h2 : M' 177 46 = M 177 46) (h3 : M' 177 48 = M 177 48) (h4 : M' 211 = M 211) (h5 : M' 212 = M 212) : zSQ M' g F W B := by
  obtain ⟨a1, a2, a3, a4, a5, a6⟩ := h
  exact ⟨by rw [h1]; exact a1, zcdX_fr a2 h4, by rw [h2]; exact a3, zStk_e a4 h5, by rw [h3]; exact a5, a6⟩
theorem zSQ_p {M M' : zMI} {g B : Nat} {F : zFl} {W : List Nat} (h : zSQ M g F W B) (hp : zPf M M') : zSQ M' g F W B := zSQ_fr h (hp.2 _ (by decide) (by decide) (by decide) (by decide) (by decide)) (hp.2 _ (by decide) (by decide) (by decide) (by decide) (by decide)) (hp.2 _ (by decide) (by decide) (by decide) (by decide) (by decide)) (hp.1 _ (by decide)) (hp.1 _ (by decide))
theorem zSQ_7 {M : zMI} {g B k : Nat} {F : zFl} {W : List Nat} {x : Int32} (h : zSQ M g F W B) (h4 : k ≠ 44) (h6 : k ≠ 46) (h8 : k ≠ 48) : zSQ (zu M 177 k x) g F W B := zSQ_fr h (zu_k (by omega)) (zu_k (by omega)) (zu_k (by omega)) (zu_ne (by decide)) (zu_ne (by decide))
theorem zSQ_code {M : zMI} {g B op a v : Nat} {F : zFl} {W : List Nat} (h : zSQ M g F W B) (hl : g + F.length + W.length + 1 ≤ 1600) (hv : zcd op a = v) : zSQ (zu (zu M 211 (g + F.length) (nI v)) 177 44 (nI (g + F.length + 1))) g (F ++ [(op, a)]) W B := by
  obtain ⟨a1, a2, a3, a4, a5, a6⟩ := h
  have e : (F ++ [(op, a)]).length = F.length + 1 := by rw [List.length_append]; rfl
  exact ⟨by rw [zu_s, e]; rfl, zcdX_fr (zcdX_s a2 hv) (zu_ne (by decide)), by rw [zu_k (by decide), zu_ne (by decide)]; exact a3, zStk_e a4 (by rw [zu_ne (by decide), zu_ne (by decide)]), by rw [zu_k (by decide), zu_ne (by decide)]; exact a5, by omega⟩
theorem zSQ_drop {M : zMI} {g B x : Nat} {F : zFl} {W : List Nat} (h : zSQ M g F (x :: W) B) : zSQ (zu M 177 46 (nI W.length)) g F W B := by
  obtain ⟨a1, a2, a3, a4, a5, a6⟩ := h
  rw [List.length_cons] at a6
  exact ⟨by rw [zu_k (by decide)]; exact a1, zcdX_fr a2 (zu_ne (by decide)), zu_s, zStk_e a4.2 (zu_ne (by decide)), by rw [zu_k (by decide)]; exact a5, by omega⟩
theorem zSQ_push {M : zMI} {g B x : Nat} {F : zFl} {W : List Nat} (h : zSQ M g F W B) (hl : g + F.length + W.length + 1 ≤ 1600) (hx : x < 100) : zSQ (zu (zu M 212 W.length (nI x)) 177 46 (nI (W.length + 1))) g F (x :: W) B := by
  obtain ⟨a1, a2, a3, a4, a5, a6⟩ := h
  exact ⟨by rw [zu_k (by decide), zu_ne (by decide)]; exact a1, zcdX_fr a2 (by rw [zu_ne (by decide), zu_ne (by decide)]), by rw [zu_s]; rfl, ⟨⟨by rw [zu_ne (by decide), zu_s], hx⟩, zStk_e (zStk_w a4 (Nat.le_refl _)) (zu_ne (by decide))⟩, by rw [zu_k (by decide), zu_ne (by decide)]; exact a5, by rw [List.length_cons]; omega⟩
theorem zSQ_set {M : zMI} {g B x y : Nat} {F : zFl} {W : List Nat} (h : zSQ M g F (x :: W) B) (hy : y < 100) : zSQ (zu M 212 W.length (nI y)) g F (y :: W) B := by
  obtain ⟨a1, a2, a3, a4, a5, a6⟩ := h
  exact ⟨by rw [zu_ne (by decide)]; exact a1, zcdX_fr a2 (zu_ne (by decide)), by rw [zu_ne (by decide)]; exact a3, ⟨⟨zu_s, hy⟩, zStk_w a4.2 (Nat.le_refl _)⟩, by rw [zu_ne (by decide)]; exact a5, a6⟩
-- what a sum's reading changes
def zSy (g o k : Nat) : Prop := (o = 177 ∧ (k = 2 ∨ k = 4 ∨ k = 5 ∨ k = 6 ∨ k = 34 ∨ k = 44 ∨ k = 46 ∨ k = 47 ∨ k = 48)) ∨ (o = 211 ∧ g ≤ k ∧ k < 1600) ∨ o = 212
def zSf (g : Nat) (M M' : zMI) : Prop := ∀ o k, ¬ zSy g o k → M' o k = M o k
theorem zSf_r {g : Nat} {M : zMI} : zSf g M M := fun _ _ _ => rfl
theorem zSf_t {g : Nat} {M M' M'' : zMI} (h : zSf g M M') (h' : zSf g M' M'') : zSf g M M'' := fun o k c => by rw [h' o k c, h o k c]
theorem zSf_w {g o k : Nat} {M M' : zMI} {x : Int32} (h : zSf g M M') (hx : zSy g o k) : zSf g M (zu M' o k x) := fun o' k' c => by
  rw [zu_at, if_neg (fun e => c (by rw [e.1, e.2]; exact hx))]
  exact h o' k' c
theorem zSf_p {g : Nat} {M M' M'' : zMI} (h : zSf g M M') (hp : zPf M' M'') : zSf g M M'' := fun o k c => by
  rw [← h o k c]
  by_cases e : o = 177
  · subst e
    unfold zSy at c
    exact hp.2 k (by omega) (by omega) (by omega) (by omega) (by omega)
  · rw [hp.1 o e]
theorem zSf_7 {g k : Nat} {M M' : zMI} {x : Int32} (h : zSf g M M') (hk : k = 2 ∨ k = 4 ∨ k = 5 ∨ k = 6 ∨ k = 34 ∨ k = 44 ∨ k = 46 ∨ k = 47 ∨ k = 48) : zSf g M (zu M' 177 k x) := zSf_w h (Or.inl ⟨rfl, hk⟩)
theorem zSf_c {g k : Nat} {M M' : zMI} {x : Int32} (h : zSf g M M') (h1 : g ≤ k) (h2 : k < 1600) : zSf g M (zu M' 211 k x) := zSf_w h (Or.inr (Or.inl ⟨rfl, h1, h2⟩))
theorem zSf_k {g k : Nat} {M M' : zMI} {x : Int32} (h : zSf g M M') : zSf g M (zu M' 212 k x) := zSf_w h (Or.inr (Or.inr rfl))
set_option maxHeartbeats 4000000 in
set_option maxRecDepth 100000 in
theorem sp_mcode {d t n v : Nat} {M : zMI} {L : zML} (h : M 177 44 = nI n) (hn : n < 3200) : Sx yX12_code YX12_code (d) [.ref 177, .int (nI v)] M L (zRf t) (none) (zu (zu M 211 n (nI v)) 177 44 (nI (n + 1))) L (zRf t) := by
  refine Sp.of (by decide +kernel) rfl (fun h => by first | exact h | cases h) (Nat.le_of_ble_eq_true rfl) ?_
  intro w G
  refine wp_aload_n (q := 1) dX12_code_0 0 rfl rfl ?_
  refine wp_getR (q := 4) dX12_code_1 zf_RX12_115 rfl zsh_177 (zr_177_43 _) rfl ?_
  refine wp_iconst (q := 5) dX12_code_4 zq_iconst_0 rfl ?_
  refine wp_aload_n (q := 6) dX12_code_5 0 rfl rfl ?_
  refine wp_getI (q := 9) dX12_code_6 zf_RX12_313 rfl zsh_177 rfl ?_
  rw [h]
  refine wp_iaddN (q := 10) dX12_code_9 rfl ?_
  refine wp_iload_n (q := 11) dX12_code_10 1 rfl rfl ?_
  refine wp_iast (q := 12) _ dX12_code_11 zsh_211 rfl (by omega) (by decide) rfl ?_
  refine wp_aload_n (q := 13) dX12_code_12 0 rfl rfl ?_
  refine wp_dup (q := 14) dX12_code_13 rfl rfl ?_
  refine wp_getI (q := 17) dX12_code_14 zf_RX12_313 rfl zsh_177 rfl ?_
  rw [zu_ne (by decide), h]
  refine wp_iconst (q := 18) dX12_code_17 zq_iconst_1 rfl ?_
  refine wp_iaddN (q := 19) dX12_code_18 rfl ?_
  refine wp_putI (q := 22) dX12_code_19 zf_RX12_313 rfl zsh_177 rfl ?_
  rw [Nat.zero_add]
  exact wp_return dX12_code_22 rfl ⟨rfl, rfl, rfl, rfl, rfl⟩ rfl rfl
set_option maxHeartbeats 4000000 in
set_option maxRecDepth 100000 in
theorem sp_mopens {d t m n v : Nat} {y : Int32} {M : zMI} {L : zML} (h : M 177 47 = nI m) (hm : m < 6) (h2 : M 177 46 = nI n) (hn : n < 1700) : Sx yX12_opens YX12_opens (d + 1) [.ref 177, .int (nI v), .int y] M L (zRf t) (none) (zu (zu (zu M 177 47 (nI (m + 1))) 212 n (nI v)) 177 46 (nI (n + 1))) L (zRf t) := by
  refine Sp.of (by decide +kernel) rfl (fun h => by first | exact h | cases h) (Nat.le_of_ble_eq_true rfl) ?_
  intro w G
  refine wp_aload_n (q := 1) dX12_opens_0 0 rfl rfl ?_
  refine wp_getI (q := 4) dX12_opens_1 zf_RX12_319 rfl zsh_177 rfl ?_
  rw [h]
  refine wp_bipush (q := 6) dX12_opens_4 zq_bipush_6 rfl ?_
  refine wp_icmp_neN (tgt := 16) (q := 9) dX12_opens_6 (by decide) rfl (by omega) (by omega) (fun _ => ?_) (fun hn => absurd hn (by first | omega | exact fun h => h | exact fun h => h trivial))
  refine wp_aload_n (q := 17) dX12_opens_16 0 rfl rfl ?_
  refine wp_dup (q := 18) dX12_opens_17 rfl rfl ?_
  refine wp_getI (q := 21) dX12_opens_18 zf_RX12_319 rfl zsh_177 rfl ?_
  rw [h]
  refine wp_iconst (q := 22) dX12_opens_21 zq_iconst_1 rfl ?_
  refine wp_iaddN (q := 23) dX12_opens_22 rfl ?_
  refine wp_putI (q := 26) dX12_opens_23 zf_RX12_319 rfl zsh_177 rfl ?_
  refine wp_aload_n (q := 27) dX12_opens_26 0 rfl rfl ?_
  refine wp_getR (q := 30) dX12_opens_27 zf_RX12_118 rfl zsh_177 (zr_177_45 _) rfl ?_
  refine wp_aload_n (q := 31) dX12_opens_30 0 rfl rfl ?_
  refine wp_getI (q := 34) dX12_opens_31 zf_RX12_316 rfl zsh_177 rfl ?_
  rw [zu_k (by decide), h2]
  refine wp_iload_n (q := 35) dX12_opens_34 1 rfl rfl ?_
  refine wp_iast (q := 36) _ dX12_opens_35 zsh_212 rfl (by omega) (by decide) rfl ?_
  refine wp_aload_n (q := 37) dX12_opens_36 0 rfl rfl ?_
  refine wp_dup (q := 38) dX12_opens_37 rfl rfl ?_
  refine wp_getI (q := 41) dX12_opens_38 zf_RX12_316 rfl zsh_177 rfl ?_
  rw [zu_ne (by decide), zu_k (by decide), h2]
  refine wp_iconst (q := 42) dX12_opens_41 zq_iconst_1 rfl ?_
  refine wp_iaddN (q := 43) dX12_opens_42 rfl ?_
  refine wp_putI (q := 46) dX12_opens_43 zf_RX12_316 rfl zsh_177 rfl ?_
  exact wp_return dX12_opens_46 rfl ⟨rfl, rfl, rfl, rfl, rfl⟩ rfl rfl
set_option maxHeartbeats 4000000 in
set_option maxRecDepth 100000 in
theorem sp_mopensB {d t v : Nat} {y : Int32} {M : zMI} {L : zML} (h : M 177 47 = nI 6) (h5 : M 177 5 = nI 0) : Sx yX12_opens YX12_opens (d + 1) [.ref 177, .int (nI v), .int y] M L (zRf t) (none) (zu (zu M 177 5 (nI 4)) 177 6 y) L (zRf t) := by
  refine Sp.of (by decide +kernel) rfl (fun h => by first | exact h | cases h) (Nat.le_of_ble_eq_true rfl) ?_
  intro w G
  refine wp_aload_n (q := 1) dX12_opens_0 0 rfl rfl ?_
  refine wp_getI (q := 4) dX12_opens_1 zf_RX12_319 rfl zsh_177 rfl ?_
  rw [h]
  refine wp_bipush (q := 6) dX12_opens_4 zq_bipush_6 rfl ?_
  refine wp_icmp_neN (tgt := 16) (q := 9) dX12_opens_6 (by decide) rfl (by omega) (by omega) (fun hn => absurd hn (by first | omega | exact fun h => h | exact fun h => h trivial)) (fun _ => ?_)
  refine wp_aload_n (q := 10) dX12_opens_9 0 rfl rfl ?_
  refine wp_iconst (q := 11) dX12_opens_10 zq_iconst_4 rfl ?_
  refine wp_iload_n (q := 12) dX12_opens_11 2 rfl rfl ?_
  refine wp_cvx (q := 15) (sp_mfail (d := 0) h5) zm_X12_fail zl_RX12_266 dX12_opens_12 rfl (by omega) (Nat.le_of_ble_eq_true rfl) zsh_177 rfl rfl ?_
  exact wp_return dX12_opens_15 rfl ⟨rfl, rfl, rfl, rfl, rfl⟩ rfl rfl
set_option maxHeartbeats 4000000 in
set_option maxRecDepth 100000 in
theorem sp_misOn {d t v : Nat} {M : zMI} {L : zML} {W : List Nat} (h : M 177 46 = nI W.length) (hk : zStk M 212 W) (hl : W.length ≤ 1600) (hv : v < 100) {o : Bool} (ho : decide (W.head? = some v) = o) : Sx yX12_isOn YX12_isOn (d) [.ref 177, .int (nI v)] M L (zRf t) (some (.int (nI (zb01 o)))) M L (zRf t) := by
  refine Sp.of (by decide +kernel) rfl (fun h => by first | exact h | cases h) (Nat.le_of_ble_eq_true rfl) ?_
  intro w G
  cases W with
  | nil =>
    have h : M 177 46 = nI 0 := h
    have ho1 : o = false := by rw [← ho]; rfl
    rw [ho1, zb01_f]
    refine wp_aload_n (q := 1) dX12_isOn_0 0 rfl rfl ?_
    refine wp_getI (q := 4) dX12_isOn_1 zf_RX12_316 rfl zsh_177 rfl ?_
    rw [h]
    refine wp_if_leN (tgt := 26) (q := 7) dX12_isOn_4 (by decide) rfl (by omega) (fun _ => ?_) (fun hn => absurd hn (by first | omega | exact fun h => h | exact fun h => h trivial))
    refine wp_iconst (q := 27) dX12_isOn_26 zq_iconst_0 rfl ?_
    exact wp_zreturn dX12_isOn_27 rfl (by first | with_reducible exact znar_0 | with_reducible exact znar_1 | assumption) ⟨rfl, rfl, rfl, rfl, rfl⟩ rfl rfl
  | cons x W =>
    obtain ⟨⟨k1, k2⟩, k3⟩ := hk
    rw [List.length_cons] at h hl
    have ho1 : o = decide (x = v) := by rw [← ho]; simp
    refine wp_aload_n (q := 1) dX12_isOn_0 0 rfl rfl ?_
    refine wp_getI (q := 4) dX12_isOn_1 zf_RX12_316 rfl zsh_177 rfl ?_
    rw [h]
    refine wp_if_leN (tgt := 26) (q := 7) dX12_isOn_4 (by decide) rfl (by omega) (fun hn => absurd hn (by first | omega | exact fun h => h | exact fun h => h trivial)) (fun _ => ?_)
    refine wp_aload_n (q := 8) dX12_isOn_7 0 rfl rfl ?_
    refine wp_getR (q := 11) dX12_isOn_8 zf_RX12_118 rfl zsh_177 (zr_177_45 _) rfl ?_
    refine wp_aload_n (q := 12) dX12_isOn_11 0 rfl rfl ?_
    refine wp_getI (q := 15) dX12_isOn_12 zf_RX12_316 rfl zsh_177 rfl ?_
    rw [h]
    refine wp_iconst (q := 16) dX12_isOn_15 zq_iconst_1 rfl ?_
    refine wp_isubN (q := 17) dX12_isOn_16 (by omega) rfl ?_
    refine wp_iald (q := 18) _ dX12_isOn_17 zsh_212 rfl (by omega) (by decide) rfl ?_
    rw [Nat.add_sub_cancel, k1]
    refine wp_iload_n (q := 19) dX12_isOn_18 1 rfl rfl ?_
    refine wp_icmp_neN (tgt := 26) (q := 22) dX12_isOn_19 (by decide) rfl (by omega) (by omega) (fun e => ?_) (fun e => ?_)
    · skip
      rw [ho1, decide_eq_false e, zb01_f]
      refine wp_iconst (q := 27) dX12_isOn_26 zq_iconst_0 rfl ?_
      exact wp_zreturn dX12_isOn_27 rfl (by first | with_reducible exact znar_0 | with_reducible exact znar_1 | assumption) ⟨rfl, rfl, rfl, rfl, rfl⟩ rfl rfl
    · skip
      rw [ho1, decide_eq_true e, zb01_t]
      refine wp_iconst (q := 23) dX12_isOn_22 zq_iconst_1 rfl ?_
      refine wp_goto (tgt := 27) dX12_isOn_23 (by decide) ?_
      exact wp_zreturn dX12_isOn_27 rfl (by first | with_reducible exact znar_0 | with_reducible exact znar_1 | assumption) ⟨rfl, rfl, rfl, rfl, rfl⟩ rfl rfl
set_option maxHeartbeats 4000000 in
set_option maxRecDepth 100000 in
theorem sp_mdrops {d t g B x : Nat} {M : zMI} {L : zML} {F : zFl} {W : List Nat} (h : zSQ M g F (x :: W) B) : Sx yX12_drops YX12_drops (d + 1) [.ref 177] M L (zRf t) (none) (zu (zu (zu M 177 46 (nI W.length)) 211 (g + F.length) (nI x)) 177 44 (nI (g + F.length + 1))) L (zRf t) := by
  refine Sp.of (by decide +kernel) rfl (fun h => by first | exact h | cases h) (Nat.le_of_ble_eq_true rfl) ?_
  intro w G
  obtain ⟨a1, a2, a3, ⟨⟨a4, a5⟩, a6⟩, a7, a8⟩ := h
  rw [List.length_cons] at a3 a8
  refine wp_aload_n (q := 1) dX12_drops_0 0 rfl rfl ?_
  refine wp_dup (q := 2) dX12_drops_1 rfl rfl ?_
  refine wp_getI (q := 5) dX12_drops_2 zf_RX12_316 rfl zsh_177 rfl ?_
  rw [a3]
  refine wp_iconst (q := 6) dX12_drops_5 zq_iconst_1 rfl ?_
  refine wp_isubN (q := 7) dX12_drops_6 (by omega) rfl ?_
  rw [Nat.add_sub_cancel]
  refine wp_putI (q := 10) dX12_drops_7 zf_RX12_316 rfl zsh_177 rfl ?_
  refine wp_aload_n (q := 11) dX12_drops_10 0 rfl rfl ?_
  refine wp_aload_n (q := 12) dX12_drops_11 0 rfl rfl ?_
  refine wp_getR (q := 15) dX12_drops_12 zf_RX12_118 rfl zsh_177 (zr_177_45 _) rfl ?_
  refine wp_aload_n (q := 16) dX12_drops_15 0 rfl rfl ?_
  refine wp_getI (q := 19) dX12_drops_16 zf_RX12_316 rfl zsh_177 rfl ?_
  refine wp_iald (q := 20) _ dX12_drops_19 zsh_212 rfl (by omega) (by decide) rfl ?_
  rw [zu_ne (by decide), a4]
  refine wp_cvx (q := 23) (sp_mcode (d := 0) (n := g + F.length) (by rw [zu_k (by decide)]; exact a1) (by omega)) zm_X12_code zl_RX12_362 dX12_drops_20 rfl (by omega) (Nat.le_of_ble_eq_true rfl) zsh_177 rfl rfl ?_
  exact wp_return dX12_drops_23 rfl ⟨rfl, rfl, rfl, rfl, rfl⟩ rfl rfl
theorem zSQ_pop {M : zMI} {g B x op a : Nat} {F : zFl} {W : List Nat} (h : zSQ M g F (x :: W) B) (hv : zcd op a = x) : zSQ (zu (zu (zu M 177 46 (nI W.length)) 211 (g + F.length) (nI x)) 177 44 (nI (g + F.length + 1))) g (F ++ [(op, a)]) W B := zSQ_code (zSQ_drop h) (by have := h.2.2.2.2.2; rw [List.length_cons] at this; omega) hv
set_option maxHeartbeats 4000000 in
set_option maxRecDepth 100000 in
theorem sp_misMark {d t x : Nat} {M : zMI} {L : zML} (hx : x < 100) : Sx yX12_isMark YX12_isMark (d) [.ref 177, .int (nI x)] M L (zRf t) (some (.int (nI (zb01 (!zPm x))))) M L (zRf t) := by
  refine Sp.of (by decide +kernel) rfl (fun h => by first | exact h | cases h) (Nat.le_of_ble_eq_true rfl) ?_
  intro w G
  refine wp_iload_n (q := 1) dX12_isMark_0 1 rfl rfl ?_
  refine wp_bipush (q := 3) dX12_isMark_1 zq_bipush_20 rfl ?_
  refine wp_icmp_ltN (tgt := 16) (q := 6) dX12_isMark_3 (by decide) rfl (by omega) (by omega) (fun c1 => ?_) (fun c1 => ?_)
  · skip
    rw [show zPm x = true from decide_eq_true (by omega)]
    refine wp_iconst (q := 17) dX12_isMark_16 zq_iconst_0 rfl ?_
    exact wp_zreturn dX12_isMark_17 rfl (by first | with_reducible exact znar_0 | with_reducible exact znar_1 | assumption) ⟨rfl, rfl, rfl, rfl, rfl⟩ rfl rfl
  · skip
    refine wp_iload_n (q := 7) dX12_isMark_6 1 rfl rfl ?_
    refine wp_bipush (q := 9) dX12_isMark_7 zq_bipush_24 rfl ?_
    refine wp_icmp_gtN (tgt := 16) (q := 12) dX12_isMark_9 (by decide) rfl (by omega) (by omega) (fun c2 => ?_) (fun c2 => ?_)
    · skip
      rw [show zPm x = true from decide_eq_true (by omega)]
      refine wp_iconst (q := 17) dX12_isMark_16 zq_iconst_0 rfl ?_
      exact wp_zreturn dX12_isMark_17 rfl (by first | with_reducible exact znar_0 | with_reducible exact znar_1 | assumption) ⟨rfl, rfl, rfl, rfl, rfl⟩ rfl rfl
    · skip
      rw [show zPm x = false from decide_eq_false (fun e => e (by omega))]
      refine wp_iconst (q := 13) dX12_isMark_12 zq_iconst_1 rfl ?_
      refine wp_goto (tgt := 17) dX12_isMark_13 (by decide) ?_
      exact wp_zreturn dX12_isMark_17 rfl (by first | with_reducible exact znar_0 | with_reducible exact znar_1 | assumption) ⟨rfl, rfl, rfl, rfl, rfl⟩ rfl rfl

