-- the question's codes
def zqc (op a : Nat) : Nat := if op = 0 then 1000 + a else if op = 1 then 40 + a else if op = 2 then 12 else if op = 3 then 60 else if op = 15 then 13 else op - 3
def zcdY (F : zFl) (M : zMI) (oc g : Nat) : Prop := ∀ i op a, F[i]? = some (op, a) → ∃ v, M oc (g + i) = nI v ∧ (v = zqc op a ∨ (op = 0 ∧ a = 1 ∧ v = 13))
theorem zcdY_v {F : zFl} {M : zMI} {oc g op a v : Nat} (h : zcdY F M oc g) (hv : v = zqc op a ∨ (op = 0 ∧ a = 1 ∧ v = 13)) : zcdY (F ++ [(op, a)]) (zu M oc (g + F.length) (nI v)) oc g := by
  intro i op' a' hi
  by_cases c : i < F.length
  · rw [List.getElem?_append_left c] at hi
    rw [zu_k (by omega)]
    exact h i op' a' hi
  · rw [List.getElem?_append_right (by omega)] at hi
    have h0 : i - F.length = 0 := by
      refine Classical.byContradiction fun hh => ?_
      rw [List.getElem?_eq_none (by simp only [List.length_cons, List.length_nil]; omega)] at hi
      cases hi
    rw [h0] at hi
    have e : (op, a) = (op', a') := Option.some.inj hi
    cases e
    rw [show i = F.length by omega, zu_s]
    exact ⟨v, rfl, hv⟩
theorem zcdY_s {F : zFl} {M : zMI} {oc g op a v : Nat} (h : zcdY F M oc g) (hv : zqc op a = v) : zcdY (F ++ [(op, a)]) (zu M oc (g + F.length) (nI v)) oc g := zcdY_v h (Or.inl hv.symm)
theorem zcdY_fr {F : zFl} {M M' : zMI} {oc g : Nat} (h : zcdY F M oc g) (e : M' oc = M oc) : zcdY F M' oc g := fun i op a hi => by rw [e]; exact h i op a hi
def zSQq (M : zMI) (g : Nat) (F : zFl) (W : List Nat) (B : Nat) : Prop := M 177 88 = nI (g + F.length) ∧ zcdY F M 245 g ∧ M 177 90 = nI W.length ∧ zStk M 246 W ∧ M 177 92 = nI B ∧ g + F.length + W.length ≤ 1600
theorem zSQq_fr {M M' : zMI} {g B : Nat} {F : zFl} {W : List Nat} (h : zSQq M g F W B) (h1 : M' 177 88 = M 177 88) (h2 : M' 177 90 = M 177 90) (h3 : M' 177 92 = M 177 92) (h4 : M' 245 = M 245) (h5 : M' 246 = M 246) : zSQq M' g F W B := by
  obtain ⟨a1, a2, a3, a4, a5, a6⟩ := h
  exact ⟨by rw [h1]; exact a1, zcdY_fr a2 h4, by rw [h2]; exact a3, zStk_e a4 h5, by rw [h3]; exact a5, a6⟩
theorem zSQq_p {M M' : zMI} {g B : Nat} {F : zFl} {W : List Nat} (h : zSQq M g F W B) (hp : zPf M M') : zSQq M' g F W B := zSQq_fr h (hp.2 _ (by decide) (by decide) (by decide) (by decide) (by decide)) (hp.2 _ (by decide) (by decide) (by decide) (by decide) (by decide)) (hp.2 _ (by decide) (by decide) (by decide) (by decide) (by decide)) (hp.1 _ (by decide)) (hp.1 _ (by decide))
theorem zSQq_7 {M : zMI} {g B k : Nat} {F : zFl} {W : List Nat} {x : Int32} (h : zSQq M g F W B) (h4 : k ≠ 88) (h6 : k ≠ 90) (h8 : k ≠ 92) : zSQq (zu M 177 k x) g F W B := zSQq_fr h (zu_k (by omega)) (zu_k (by omega)) (zu_k (by omega)) (zu_ne (by decide)) (zu_ne (by decide))
theorem zSQq_code {M : zMI} {g B op a v : Nat} {F : zFl} {W : List Nat} (h : zSQq M g F W B) (hl : g + F.length + W.length + 1 ≤ 1600) (hv : zqc op a = v) : zSQq (zu (zu M 245 (g + F.length) (nI v)) 177 88 (nI (g + F.length + 1))) g (F ++ [(op, a)]) W B := by
  obtain ⟨a1, a2, a3, a4, a5, a6⟩ := h
  have e : (F ++ [(op, a)]).length = F.length + 1 := by rw [List.length_append]; rfl
  exact ⟨by rw [zu_s, e]; rfl, zcdY_fr (zcdY_s a2 hv) (zu_ne (by decide)), by rw [zu_k (by decide), zu_ne (by decide)]; exact a3, zStk_e a4 (by rw [zu_ne (by decide), zu_ne (by decide)]), by rw [zu_k (by decide), zu_ne (by decide)]; exact a5, by omega⟩
theorem zSQq_drop {M : zMI} {g B x : Nat} {F : zFl} {W : List Nat} (h : zSQq M g F (x :: W) B) : zSQq (zu M 177 90 (nI W.length)) g F W B := by
  obtain ⟨a1, a2, a3, a4, a5, a6⟩ := h
  rw [List.length_cons] at a6
  exact ⟨by rw [zu_k (by decide)]; exact a1, zcdY_fr a2 (zu_ne (by decide)), zu_s, zStk_e a4.2 (zu_ne (by decide)), by rw [zu_k (by decide)]; exact a5, by omega⟩
theorem zSQq_push {M : zMI} {g B x : Nat} {F : zFl} {W : List Nat} (h : zSQq M g F W B) (hl : g + F.length + W.length + 1 ≤ 1600) (hx : x < 100) : zSQq (zu (zu M 246 W.length (nI x)) 177 90 (nI (W.length + 1))) g F (x :: W) B := by
  obtain ⟨a1, a2, a3, a4, a5, a6⟩ := h
  exact ⟨by rw [zu_k (by decide), zu_ne (by decide)]; exact a1, zcdY_fr a2 (by rw [zu_ne (by decide), zu_ne (by decide)]), by rw [zu_s]; rfl, ⟨⟨by rw [zu_ne (by decide), zu_s], hx⟩, zStk_e (zStk_w a4 (Nat.le_refl _)) (zu_ne (by decide))⟩, by rw [zu_k (by decide), zu_ne (by decide)]; exact a5, by rw [List.length_cons]; omega⟩
theorem zSQq_set {M : zMI} {g B x y : Nat} {F : zFl} {W : List Nat} (h : zSQq M g F (x :: W) B) (hy : y < 100) : zSQq (zu M 246 W.length (nI y)) g F (y :: W) B := by
  obtain ⟨a1, a2, a3, a4, a5, a6⟩ := h
  exact ⟨by rw [zu_ne (by decide)]; exact a1, zcdY_fr a2 (zu_ne (by decide)), by rw [zu_ne (by decide)]; exact a3, ⟨⟨zu_s, hy⟩, zStk_w a4.2 (Nat.le_refl _)⟩, by rw [zu_ne (by decide)]; exact a5, a6⟩
-- what a sum's reading changes
def zSyq (g o k : Nat) : Prop := (o = 177 ∧ (k = 2 ∨ k = 4 ∨ k = 5 ∨ k = 6 ∨ k = 34 ∨ k = 88 ∨ k = 90 ∨ k = 91 ∨ k = 92)) ∨ (o = 245 ∧ g ≤ k ∧ k < 1700) ∨ o = 246
def zSfq (g : Nat) (M M' : zMI) : Prop := ∀ o k, ¬ zSyq g o k → M' o k = M o k
theorem zSfq_r {g : Nat} {M : zMI} : zSfq g M M := fun _ _ _ => rfl
theorem zSfq_t {g : Nat} {M M' M'' : zMI} (h : zSfq g M M') (h' : zSfq g M' M'') : zSfq g M M'' := fun o k c => by rw [h' o k c, h o k c]
theorem zSfq_w {g o k : Nat} {M M' : zMI} {x : Int32} (h : zSfq g M M') (hx : zSyq g o k) : zSfq g M (zu M' o k x) := fun o' k' c => by
  rw [zu_at, if_neg (fun e => c (by rw [e.1, e.2]; exact hx))]
  exact h o' k' c
theorem zSfq_p {g : Nat} {M M' M'' : zMI} (h : zSfq g M M') (hp : zPf M' M'') : zSfq g M M'' := fun o k c => by
  rw [← h o k c]
  by_cases e : o = 177
  · subst e
    unfold zSyq at c
    exact hp.2 k (by omega) (by omega) (by omega) (by omega) (by omega)
  · rw [hp.1 o e]
theorem zSfq_7 {g k : Nat} {M M' : zMI} {x : Int32} (h : zSfq g M M') (hk : k = 2 ∨ k = 4 ∨ k = 5 ∨ k = 6 ∨ k = 34 ∨ k = 88 ∨ k = 90 ∨ k = 91 ∨ k = 92) : zSfq g M (zu M' 177 k x) := zSfq_w h (Or.inl ⟨rfl, hk⟩)
theorem zSfq_c {g k : Nat} {M M' : zMI} {x : Int32} (h : zSfq g M M') (h1 : g ≤ k) (h2 : k < 1600) : zSfq g M (zu M' 245 k x) := zSfq_w h (Or.inr (Or.inl ⟨rfl, h1, by omega⟩))
theorem zSfq_k {g k : Nat} {M M' : zMI} {x : Int32} (h : zSfq g M M') : zSfq g M (zu M' 246 k x) := zSfq_w h (Or.inr (Or.inr rfl))
set_option maxHeartbeats 4000000 in
set_option maxRecDepth 100000 in
theorem sp_mqCode {d t n v : Nat} {M : zMI} {L : zML} (h : M 177 88 = nI n) (hn : n < 1700) : Sx yX12_qCode YX12_qCode (d) [.ref 177, .int (nI v)] M L (zRf t) (none) (zu (zu M 245 n (nI v)) 177 88 (nI (n + 1))) L (zRf t) := by
  refine Sp.of (by decide +kernel) rfl (fun h => by first | exact h | cases h) (Nat.le_of_ble_eq_true rfl) ?_
  intro w G
  refine wp_aload_n (q := 1) dX12_qCode_0 0 rfl rfl ?_
  refine wp_getR (q := 4) dX12_qCode_1 zf_RX12_221 rfl zsh_177 (zr_177_87 _) rfl ?_
  refine wp_aload_n (q := 5) dX12_qCode_4 0 rfl rfl ?_
  refine wp_getI (q := 8) dX12_qCode_5 zf_RX12_597 rfl zsh_177 rfl ?_
  rw [h]
  refine wp_iload_n (q := 9) dX12_qCode_8 1 rfl rfl ?_
  refine wp_iast (q := 10) _ dX12_qCode_9 zsh_245 rfl (by omega) (by decide) rfl ?_
  refine wp_aload_n (q := 11) dX12_qCode_10 0 rfl rfl ?_
  refine wp_dup (q := 12) dX12_qCode_11 rfl rfl ?_
  refine wp_getI (q := 15) dX12_qCode_12 zf_RX12_597 rfl zsh_177 rfl ?_
  rw [zu_ne (by decide), h]
  refine wp_iconst (q := 16) dX12_qCode_15 zq_iconst_1 rfl ?_
  refine wp_iaddN (q := 17) dX12_qCode_16 rfl ?_
  refine wp_putI (q := 20) dX12_qCode_17 zf_RX12_597 rfl zsh_177 rfl ?_
  exact wp_return dX12_qCode_20 rfl ⟨rfl, rfl, rfl, rfl, rfl⟩ rfl rfl
set_option maxHeartbeats 4000000 in
set_option maxRecDepth 100000 in
theorem sp_mqOpens {d t m n v : Nat} {y : Int32} {M : zMI} {L : zML} (h5 : M 177 5 = nI 0) (h : M 177 91 = nI m) (hm : m < 6) (h2 : M 177 90 = nI n) (hn : n < 1700) : Sx yX12_qOpens YX12_qOpens (d + 1) [.ref 177, .int (nI v), .int y] M L (zRf t) (none) (zu (zu (zu M 177 91 (nI (m + 1))) 246 n (nI v)) 177 90 (nI (n + 1))) L (zRf t) := by
  refine Sp.of (by decide +kernel) rfl (fun h => by first | exact h | cases h) (Nat.le_of_ble_eq_true rfl) ?_
  intro w G
  refine wp_aload_n (q := 1) dX12_qOpens_0 0 rfl rfl ?_
  refine wp_getI (q := 4) dX12_qOpens_1 zf_RX12_236 rfl zsh_177 rfl ?_
  rw [h5]
  refine wp_if_eqN (tgt := 8) (q := 7) dX12_qOpens_4 (by decide) rfl (by omega) (fun _ => ?_) (fun hn => absurd hn (by first | omega | exact fun h => h | exact fun h => h trivial))
  refine wp_aload_n (q := 9) dX12_qOpens_8 0 rfl rfl ?_
  refine wp_getI (q := 12) dX12_qOpens_9 zf_RX12_600 rfl zsh_177 rfl ?_
  rw [h]
  refine wp_bipush (q := 14) dX12_qOpens_12 zq_bipush_6 rfl ?_
  refine wp_icmp_neN (tgt := 24) (q := 17) dX12_qOpens_14 (by decide) rfl (by omega) (by omega) (fun _ => ?_) (fun hn => absurd hn (by first | omega | exact fun h => h | exact fun h => h trivial))
  refine wp_aload_n (q := 25) dX12_qOpens_24 0 rfl rfl ?_
  refine wp_dup (q := 26) dX12_qOpens_25 rfl rfl ?_
  refine wp_getI (q := 29) dX12_qOpens_26 zf_RX12_600 rfl zsh_177 rfl ?_
  rw [h]
  refine wp_iconst (q := 30) dX12_qOpens_29 zq_iconst_1 rfl ?_
  refine wp_iaddN (q := 31) dX12_qOpens_30 rfl ?_
  refine wp_putI (q := 34) dX12_qOpens_31 zf_RX12_600 rfl zsh_177 rfl ?_
  refine wp_aload_n (q := 35) dX12_qOpens_34 0 rfl rfl ?_
  refine wp_getR (q := 38) dX12_qOpens_35 zf_RX12_224 rfl zsh_177 (zr_177_89 _) rfl ?_
  refine wp_aload_n (q := 39) dX12_qOpens_38 0 rfl rfl ?_
  refine wp_getI (q := 42) dX12_qOpens_39 zf_RX12_603 rfl zsh_177 rfl ?_
  rw [zu_k (by decide), h2]
  refine wp_iload_n (q := 43) dX12_qOpens_42 1 rfl rfl ?_
  refine wp_iast (q := 44) _ dX12_qOpens_43 zsh_246 rfl (by omega) (by decide) rfl ?_
  refine wp_aload_n (q := 45) dX12_qOpens_44 0 rfl rfl ?_
  refine wp_dup (q := 46) dX12_qOpens_45 rfl rfl ?_
  refine wp_getI (q := 49) dX12_qOpens_46 zf_RX12_603 rfl zsh_177 rfl ?_
  rw [zu_ne (by decide), zu_k (by decide), h2]
  refine wp_iconst (q := 50) dX12_qOpens_49 zq_iconst_1 rfl ?_
  refine wp_iaddN (q := 51) dX12_qOpens_50 rfl ?_
  refine wp_putI (q := 54) dX12_qOpens_51 zf_RX12_603 rfl zsh_177 rfl ?_
  exact wp_return dX12_qOpens_54 rfl ⟨rfl, rfl, rfl, rfl, rfl⟩ rfl rfl
set_option maxHeartbeats 4000000 in
set_option maxRecDepth 100000 in
theorem sp_mqOpensB {d t v : Nat} {y : Int32} {M : zMI} {L : zML} (h : M 177 91 = nI 6) (h5 : M 177 5 = nI 0) : Sx yX12_qOpens YX12_qOpens (d + 1) [.ref 177, .int (nI v), .int y] M L (zRf t) (none) (zu (zu M 177 5 (nI 4)) 177 6 y) L (zRf t) := by
  refine Sp.of (by decide +kernel) rfl (fun h => by first | exact h | cases h) (Nat.le_of_ble_eq_true rfl) ?_
  intro w G
  refine wp_aload_n (q := 1) dX12_qOpens_0 0 rfl rfl ?_
  refine wp_getI (q := 4) dX12_qOpens_1 zf_RX12_236 rfl zsh_177 rfl ?_
  rw [h5]
  refine wp_if_eqN (tgt := 8) (q := 7) dX12_qOpens_4 (by decide) rfl (by omega) (fun _ => ?_) (fun hn => absurd hn (by first | omega | exact fun h => h | exact fun h => h trivial))
  refine wp_aload_n (q := 9) dX12_qOpens_8 0 rfl rfl ?_
  refine wp_getI (q := 12) dX12_qOpens_9 zf_RX12_600 rfl zsh_177 rfl ?_
  rw [h]
  refine wp_bipush (q := 14) dX12_qOpens_12 zq_bipush_6 rfl ?_
  refine wp_icmp_neN (tgt := 24) (q := 17) dX12_qOpens_14 (by decide) rfl (by omega) (by omega) (fun hn => absurd hn (by first | omega | exact fun h => h | exact fun h => h trivial)) (fun _ => ?_)
  refine wp_aload_n (q := 18) dX12_qOpens_17 0 rfl rfl ?_
  refine wp_iconst (q := 19) dX12_qOpens_18 zq_iconst_4 rfl ?_
  refine wp_iload_n (q := 20) dX12_qOpens_19 2 rfl rfl ?_
  refine wp_cvx (q := 23) (sp_mfail (d := 0) h5) zm_X12_fail zl_RX12_266 dX12_qOpens_20 rfl (by omega) (Nat.le_of_ble_eq_true rfl) zsh_177 rfl rfl ?_
  exact wp_return dX12_qOpens_23 rfl ⟨rfl, rfl, rfl, rfl, rfl⟩ rfl rfl
set_option maxHeartbeats 4000000 in
set_option maxRecDepth 100000 in
theorem sp_mqIsOn {d t v : Nat} {M : zMI} {L : zML} {W : List Nat} (h : M 177 90 = nI W.length) (hk : zStk M 246 W) (hl : W.length ≤ 1600) (hv : v < 100) {o : Bool} (ho : decide (W.head? = some v) = o) : Sx yX12_qIsOn YX12_qIsOn (d) [.ref 177, .int (nI v)] M L (zRf t) (some (.int (nI (zb01 o)))) M L (zRf t) := by
  refine Sp.of (by decide +kernel) rfl (fun h => by first | exact h | cases h) (Nat.le_of_ble_eq_true rfl) ?_
  intro w G
  cases W with
  | nil =>
    have h : M 177 90 = nI 0 := h
    have ho1 : o = false := by rw [← ho]; rfl
    rw [ho1, zb01_f]
    refine wp_aload_n (q := 1) dX12_qIsOn_0 0 rfl rfl ?_
    refine wp_getI (q := 4) dX12_qIsOn_1 zf_RX12_603 rfl zsh_177 rfl ?_
    rw [h]
    refine wp_if_leN (tgt := 26) (q := 7) dX12_qIsOn_4 (by decide) rfl (by omega) (fun _ => ?_) (fun hn => absurd hn (by first | omega | exact fun h => h | exact fun h => h trivial))
    refine wp_iconst (q := 27) dX12_qIsOn_26 zq_iconst_0 rfl ?_
    exact wp_zreturn dX12_qIsOn_27 rfl (by first | with_reducible exact znar_0 | with_reducible exact znar_1 | assumption) ⟨rfl, rfl, rfl, rfl, rfl⟩ rfl rfl
  | cons x W =>
    obtain ⟨⟨k1, k2⟩, k3⟩ := hk
    rw [List.length_cons] at h hl
    have ho1 : o = decide (x = v) := by rw [← ho]; simp
    refine wp_aload_n (q := 1) dX12_qIsOn_0 0 rfl rfl ?_
    refine wp_getI (q := 4) dX12_qIsOn_1 zf_RX12_603 rfl zsh_177 rfl ?_
    rw [h]
    refine wp_if_leN (tgt := 26) (q := 7) dX12_qIsOn_4 (by decide) rfl (by omega) (fun hn => absurd hn (by first | omega | exact fun h => h | exact fun h => h trivial)) (fun _ => ?_)
    refine wp_aload_n (q := 8) dX12_qIsOn_7 0 rfl rfl ?_
    refine wp_getR (q := 11) dX12_qIsOn_8 zf_RX12_224 rfl zsh_177 (zr_177_89 _) rfl ?_
    refine wp_aload_n (q := 12) dX12_qIsOn_11 0 rfl rfl ?_
    refine wp_getI (q := 15) dX12_qIsOn_12 zf_RX12_603 rfl zsh_177 rfl ?_
    rw [h]
    refine wp_iconst (q := 16) dX12_qIsOn_15 zq_iconst_1 rfl ?_
    refine wp_isubN (q := 17) dX12_qIsOn_16 (by omega) rfl ?_
    refine wp_iald (q := 18) _ dX12_qIsOn_17 zsh_246 rfl (by omega) (by decide) rfl ?_
    rw [Nat.add_sub_cancel, k1]
    refine wp_iload_n (q := 19) dX12_qIsOn_18 1 rfl rfl ?_
    refine wp_icmp_neN (tgt := 26) (q := 22) dX12_qIsOn_19 (by decide) rfl (by omega) (by omega) (fun e => ?_) (fun e => ?_)
    · skip
      rw [ho1, decide_eq_false e, zb01_f]
      refine wp_iconst (q := 27) dX12_qIsOn_26 zq_iconst_0 rfl ?_
      exact wp_zreturn dX12_qIsOn_27 rfl (by first | with_reducible exact znar_0 | with_reducible exact znar_1 | assumption) ⟨rfl, rfl, rfl, rfl, rfl⟩ rfl rfl
    · skip
      rw [ho1, decide_eq_true e, zb01_t]
      refine wp_iconst (q := 23) dX12_qIsOn_22 zq_iconst_1 rfl ?_
      refine wp_goto (tgt := 27) dX12_qIsOn_23 (by decide) ?_
      exact wp_zreturn dX12_qIsOn_27 rfl (by first | with_reducible exact znar_0 | with_reducible exact znar_1 | assumption) ⟨rfl, rfl, rfl, rfl, rfl⟩ rfl rfl
set_option maxHeartbeats 4000000 in
set_option maxRecDepth 100000 in
theorem sp_mqDrops {d t g B x : Nat} {M : zMI} {L : zML} {F : zFl} {W : List Nat} (h : zSQq M g F (x :: W) B) : Sx yX12_qDrops YX12_qDrops (d + 1) [.ref 177] M L (zRf t) (none) (zu (zu (zu M 177 90 (nI W.length)) 245 (g + F.length) (nI x)) 177 88 (nI (g + F.length + 1))) L (zRf t) := by
  refine Sp.of (by decide +kernel) rfl (fun h => by first | exact h | cases h) (Nat.le_of_ble_eq_true rfl) ?_
  intro w G
  obtain ⟨a1, a2, a3, ⟨⟨a4, a5⟩, a6⟩, a7, a8⟩ := h
  rw [List.length_cons] at a3 a8
  refine wp_aload_n (q := 1) dX12_qDrops_0 0 rfl rfl ?_
  refine wp_dup (q := 2) dX12_qDrops_1 rfl rfl ?_
  refine wp_getI (q := 5) dX12_qDrops_2 zf_RX12_603 rfl zsh_177 rfl ?_
  rw [a3]
  refine wp_iconst (q := 6) dX12_qDrops_5 zq_iconst_1 rfl ?_
  refine wp_isubN (q := 7) dX12_qDrops_6 (by omega) rfl ?_
  rw [Nat.add_sub_cancel]
  refine wp_putI (q := 10) dX12_qDrops_7 zf_RX12_603 rfl zsh_177 rfl ?_
  refine wp_aload_n (q := 11) dX12_qDrops_10 0 rfl rfl ?_
  refine wp_aload_n (q := 12) dX12_qDrops_11 0 rfl rfl ?_
  refine wp_getR (q := 15) dX12_qDrops_12 zf_RX12_224 rfl zsh_177 (zr_177_89 _) rfl ?_
  refine wp_aload_n (q := 16) dX12_qDrops_15 0 rfl rfl ?_
  refine wp_getI (q := 19) dX12_qDrops_16 zf_RX12_603 rfl zsh_177 rfl ?_
  refine wp_iald (q := 20) _ dX12_qDrops_19 zsh_246 rfl (by omega) (by decide) rfl ?_
  rw [zu_ne (by decide), a4]
  refine wp_cvx (q := 23) (sp_mqCode (d := 0) (n := g + F.length) (by rw [zu_k (by decide)]; exact a1) (by omega)) zm_X12_qCode zl_RX12_606 dX12_qDrops_20 rfl (by omega) (Nat.le_of_ble_eq_true rfl) zsh_177 rfl rfl ?_
  exact wp_return dX12_qDrops_23 rfl ⟨rfl, rfl, rfl, rfl, rfl⟩ rfl rfl
theorem zSQq_pop {M : zMI} {g B x op a : Nat} {F : zFl} {W : List Nat} (h : zSQq M g F (x :: W) B) (hv : zqc op a = x) : zSQq (zu (zu (zu M 177 90 (nI W.length)) 245 (g + F.length) (nI x)) 177 88 (nI (g + F.length + 1))) g (F ++ [(op, a)]) W B := zSQq_code (zSQq_drop h) (by have := h.2.2.2.2.2; rw [List.length_cons] at this; omega) hv
set_option maxHeartbeats 4000000 in
set_option maxRecDepth 100000 in
theorem sp_mqIsBracket {d x : Nat} {M : zMI} {L : zML} {R : zMR} (hx : x < 100) : Sx yX12_qIsBracket YX12_qIsBracket (d) [.int (nI x)] M L R (some (.int (nI (zb01 (!zPm x))))) M L R := by
  refine Sp.of (by decide +kernel) rfl (fun h => by first | exact h | cases h) (Nat.le_of_ble_eq_true rfl) ?_
  intro w G
  refine wp_iload_n (q := 1) dX12_qIsBracket_0 0 rfl rfl ?_
  refine wp_bipush (q := 3) dX12_qIsBracket_1 zq_bipush_20 rfl ?_
  refine wp_icmp_ltN (tgt := 16) (q := 6) dX12_qIsBracket_3 (by decide) rfl (by omega) (by omega) (fun c1 => ?_) (fun c1 => ?_)
  · skip
    rw [show zPm x = true from decide_eq_true (by omega)]
    refine wp_iconst (q := 17) dX12_qIsBracket_16 zq_iconst_0 rfl ?_
    exact wp_zreturn dX12_qIsBracket_17 rfl (by first | with_reducible exact znar_0 | with_reducible exact znar_1 | assumption) ⟨rfl, rfl, rfl, rfl, rfl⟩ rfl rfl
  · skip
    refine wp_iload_n (q := 7) dX12_qIsBracket_6 0 rfl rfl ?_
    refine wp_bipush (q := 9) dX12_qIsBracket_7 zq_bipush_24 rfl ?_
    refine wp_icmp_gtN (tgt := 16) (q := 12) dX12_qIsBracket_9 (by decide) rfl (by omega) (by omega) (fun c2 => ?_) (fun c2 => ?_)
    · skip
      rw [show zPm x = true from decide_eq_true (by omega)]
      refine wp_iconst (q := 17) dX12_qIsBracket_16 zq_iconst_0 rfl ?_
      exact wp_zreturn dX12_qIsBracket_17 rfl (by first | with_reducible exact znar_0 | with_reducible exact znar_1 | assumption) ⟨rfl, rfl, rfl, rfl, rfl⟩ rfl rfl
    · skip
      rw [show zPm x = false from decide_eq_false (fun e => e (by omega))]
      refine wp_iconst (q := 13) dX12_qIsBracket_12 zq_iconst_1 rfl ?_
      refine wp_goto (tgt := 17) dX12_qIsBracket_13 (by decide) ?_
      exact wp_zreturn dX12_qIsBracket_17 rfl (by first | with_reducible exact znar_0 | with_reducible exact znar_1 | assumption) ⟨rfl, rfl, rfl, rfl, rfl⟩ rfl rfl
set_option maxHeartbeats 4000000 in
set_option maxRecDepth 100000 in
theorem sp_mqBracket {d t : Nat} {M : zMI} {L : zML} {W1 W0 : List Nat} (h : M 177 90 = nI (W1 ++ W0).length) (hb : M 177 92 = nI W0.length) (hk : zStk M 246 (W1 ++ W0)) (hl : (W1 ++ W0).length ≤ 1600) : Sx yX12_qBracket YX12_qBracket (d + 1) [.ref 177] M L (zRf t) (some (.int (zLm W1))) M L (zRf t) := by
  refine Sp.of (by decide +kernel) rfl (fun h => by first | exact h | cases h) (Nat.le_of_ble_eq_true rfl) ?_
  intro w G
  have loop : ∀ V : List Nat, zStk M 246 (V ++ W0) → (V ++ W0).length ≤ 1600 → zLm V = zLm W1 → WP w YX12_qBracket (d + 1, SS, 0, 0) G (some (zX (some (.int (zLm W1))) M L (zRf t))) 7 [(1, .int (zlk (V ++ W0))), (0, .ref 177)] [] SS M L (zRf t) := by
    intro V
    induction V with
    | nil =>
      intro hk hl e
      have hl' : W0.length ≤ 1600 := hl
      have hz : zlk ([] ++ W0) < nI W0.length := zlk_lt (W := W0) (by omega)
      refine wp_iload_n (q := 8) dX12_qBracket_7 0 rfl rfl ?_
      refine wp_aload_n (q := 9) dX12_qBracket_8 1 rfl rfl ?_
      refine wp_getI (q := 12) dX12_qBracket_9 zf_RX12_609 rfl zsh_177 rfl ?_
      rw [hb]
      refine wp_icmp_lt (tgt := 33) (q := 15) dX12_qBracket_12 (by decide) rfl (fun _ => ?_) (fun hn => absurd hn (by exact fun e => e hz))
      refine wp_iload_n (q := 34) dX12_qBracket_33 0 rfl rfl ?_
      refine wp_aload_n (q := 35) dX12_qBracket_34 1 rfl rfl ?_
      refine wp_getI (q := 38) dX12_qBracket_35 zf_RX12_609 rfl zsh_177 rfl ?_
      rw [hb]
      refine wp_icmp_lt (tgt := 50) (q := 41) dX12_qBracket_38 (by decide) rfl (fun _ => ?_) (fun hn => absurd hn (by exact fun e => e hz))
      rw [← e]
      refine wp_iconst (q := 51) dX12_qBracket_50 zq_iconst_m1 rfl ?_
      exact wp_ireturn dX12_qBracket_51 rfl ⟨rfl, rfl, rfl, rfl, rfl⟩ rfl rfl
    | cons x V ih =>
      intro hk hl e
      have hk' : ((M 246 (V ++ W0).length = nI x ∧ x < 100) ∧ zStk M 246 (V ++ W0)) := hk
      have hl' : (V ++ W0).length + 1 ≤ 1600 := hl
      have e' : (if zPm x then zLm V else nI x) = zLm W1 := e
      have hB : W0.length ≤ (V ++ W0).length := by rw [List.length_append]; omega
      obtain ⟨⟨k1, k2⟩, k3⟩ := hk'
      rw [zlk_s (n := (V ++ W0).length) (W := x :: V ++ W0) rfl]
      refine wp_iload_n (q := 8) dX12_qBracket_7 0 rfl rfl ?_
      refine wp_aload_n (q := 9) dX12_qBracket_8 1 rfl rfl ?_
      refine wp_getI (q := 12) dX12_qBracket_9 zf_RX12_609 rfl zsh_177 rfl ?_
      rw [hb]
      refine wp_icmp_ltN (tgt := 33) (q := 15) dX12_qBracket_12 (by decide) rfl (by omega) (by omega) (fun hn => absurd hn (by first | omega | exact fun h => h | exact fun h => h trivial)) (fun _ => ?_)
      refine wp_aload_n (q := 16) dX12_qBracket_15 1 rfl rfl ?_
      refine wp_getR (q := 19) dX12_qBracket_16 zf_RX12_224 rfl zsh_177 (zr_177_89 _) rfl ?_
      refine wp_iload_n (q := 20) dX12_qBracket_19 0 rfl rfl ?_
      refine wp_iald (q := 21) _ dX12_qBracket_20 zsh_246 rfl (by omega) (by decide) rfl ?_
      rw [k1]
      refine wp_csx (q := 24) (sp_mqIsBracket (d := 0) k2) zm_X12_qIsBracket zl_RX12_612 dX12_qBracket_21 rfl (by omega) (Nat.le_of_ble_eq_true rfl) rfl ?_
      cases hz : zPm x with
      | false =>
        rw [hz] at e'
        have e2 : nI x = zLm W1 := e'
        refine wp_if_ne (tgt := 33) (q := 27) dX12_qBracket_24 (by decide) rfl (fun _ => ?_) (fun hn => absurd hn (by decide))
        refine wp_iload_n (q := 34) dX12_qBracket_33 0 rfl rfl ?_
        refine wp_aload_n (q := 35) dX12_qBracket_34 1 rfl rfl ?_
        refine wp_getI (q := 38) dX12_qBracket_35 zf_RX12_609 rfl zsh_177 rfl ?_
        rw [hb]
        refine wp_icmp_ltN (tgt := 50) (q := 41) dX12_qBracket_38 (by decide) rfl (by omega) (by omega) (fun hn => absurd hn (by first | omega | exact fun h => h | exact fun h => h trivial)) (fun _ => ?_)
        refine wp_aload_n (q := 42) dX12_qBracket_41 1 rfl rfl ?_
        refine wp_getR (q := 45) dX12_qBracket_42 zf_RX12_224 rfl zsh_177 (zr_177_89 _) rfl ?_
        refine wp_iload_n (q := 46) dX12_qBracket_45 0 rfl rfl ?_
        refine wp_iald (q := 47) _ dX12_qBracket_46 zsh_246 rfl (by omega) (by decide) rfl ?_
        rw [k1, e2]
        refine wp_goto (tgt := 51) dX12_qBracket_47 (by decide) ?_
        exact wp_ireturn dX12_qBracket_51 rfl ⟨rfl, rfl, rfl, rfl, rfl⟩ rfl rfl
      | true =>
        rw [hz] at e'
        have e2 : zLm V = zLm W1 := e'
        refine wp_if_ne (tgt := 33) (q := 27) dX12_qBracket_24 (by decide) rfl (fun hn => absurd hn (by decide)) (fun _ => ?_)
        by_cases c0 : (V ++ W0).length = 0
        · rw [c0]
          refine wp_iinc (q := 30) (loc' := [(1, _), (0, _)]) dX12_qBracket_27 0 rfl rfl (by decide) rfl rfl ?_
          refine wp_goto (tgt := 7) dX12_qBracket_30 (by decide) ?_
          rw [show nI 0 + Int32.ofInt (-1) = zlk (V ++ W0) by rw [zlk_0 c0]; rfl]
          refine WP.sub (loc' := [(1, _), (0, _)]) [0, 1] rfl ?_
          exact ih k3 (by omega) e2
        · obtain ⟨n, hn⟩ : ∃ n, (V ++ W0).length = n + 1 := ⟨(V ++ W0).length - 1, by omega⟩
          rw [hn]
          refine wp_iincM (q := 30) (loc' := [(1, _), (0, _)]) dX12_qBracket_27 0 rfl (by decide) rfl rfl ?_
          refine wp_goto (tgt := 7) dX12_qBracket_30 (by decide) ?_
          rw [← zlk_s hn]
          refine WP.sub (loc' := [(1, _), (0, _)]) [0, 1] rfl ?_
          exact ih k3 (by omega) e2
  refine wp_aload_n (q := 1) dX12_qBracket_0 0 rfl rfl ?_
  refine wp_getI (q := 4) dX12_qBracket_1 zf_RX12_603 rfl zsh_177 rfl ?_
  rw [h]
  by_cases c0 : (W1 ++ W0).length = 0
  · rw [c0]
    refine wp_iconst (q := 5) dX12_qBracket_4 zq_iconst_1 rfl ?_
    refine wp_isub (q := 6) dX12_qBracket_5 rfl ?_
    refine wp_istore_n (q := 7) (loc' := [(1, _), (0, _)]) dX12_qBracket_6 rfl (by decide) rfl rfl ?_
    rw [show nI 0 - nI 1 = zlk (W1 ++ W0) by rw [zlk_0 c0]; rfl]
    refine WP.sub (loc' := [(1, _), (0, _)]) [0, 1] rfl ?_
    exact loop W1 hk hl rfl
  · obtain ⟨n, hn⟩ : ∃ n, (W1 ++ W0).length = n + 1 := ⟨(W1 ++ W0).length - 1, by omega⟩
    rw [hn]
    refine wp_iconst (q := 5) dX12_qBracket_4 zq_iconst_1 rfl ?_
    refine wp_isubN (q := 6) dX12_qBracket_5 (by omega) rfl ?_
    refine wp_istore_n (q := 7) (loc' := [(1, _), (0, _)]) dX12_qBracket_6 rfl (by decide) rfl rfl ?_
    rw [Nat.add_sub_cancel, ← zlk_s hn]
    refine WP.sub (loc' := [(1, _), (0, _)]) [0, 1] rfl ?_
    exact loop W1 hk hl rfl
def zQfq (g j : Nat) (M M' : zMI) : Prop := zSfq g M M' ∧ ∀ k, k ≠ 88 → k ≠ 90 → k ≠ j → M' 177 k = M 177 k
theorem zQfq_r {g j : Nat} {M : zMI} : zQfq g j M M := ⟨zSfq_r, fun _ _ _ _ => rfl⟩
theorem zQfq_t {g j : Nat} {M M' M'' : zMI} (h : zQfq g j M M') (h' : zQfq g j M' M'') : zQfq g j M M'' := ⟨zSfq_t h.1 h'.1, fun k a b c => by rw [h'.2 k a b c, h.2 k a b c]⟩
theorem zQfq_7 {g j k : Nat} {M M' : zMI} {x : Int32} (h : zQfq g j M M') (hj : j = 88 ∨ j = 91) (hk : k = 88 ∨ k = 90 ∨ k = j) : zQfq g j M (zu M' 177 k x) := ⟨zSfq_7 h.1 (by omega), fun i j1 j2 j3 => by rw [zu_k (by omega)]; exact h.2 i j1 j2 j3⟩
theorem zQfq_c {g j k : Nat} {M M' : zMI} {x : Int32} (h : zQfq g j M M') (h1 : g ≤ k) (h2 : k < 1600) : zQfq g j M (zu M' 245 k x) := ⟨zSfq_c h.1 h1 h2, fun i j1 j2 j3 => by rw [zu_ne (by decide)]; exact h.2 i j1 j2 j3⟩
theorem zQfq_k {g j k : Nat} {M M' : zMI} {x : Int32} (h : zQfq g j M M') : zQfq g j M (zu M' 246 k x) := ⟨zSfq_k h.1, fun i j1 j2 j3 => by rw [zu_ne (by decide)]; exact h.2 i j1 j2 j3⟩
theorem zSfq_o {g x : Nat} {M M' : zMI} (h : zSfq g M M') (h1 : x ≠ 177) (h2 : x ≠ 245) (h3 : x ≠ 246) : M' x = M x := funext fun k => h x k (by unfold zSyq; omega)
theorem zAt_qq {M M' : zMI} {g j : Nat} {b : Nat → Nat} {len c i : Nat} {T : zDD} (h : zAt M b len T c i) (hq : zQfq g j M M') (hj : 6 < j) : zAt M' b len T c i := by
  unfold zAt zTa at *
  rw [hq.2 2 (by decide) (by decide) (by omega), hq.2 3 (by decide) (by decide) (by omega), hq.2 4 (by decide) (by decide) (by omega), hq.2 5 (by decide) (by decide) (by omega), zSfq_o hq.1 (by decide) (by decide) (by decide)]
  exact h
theorem zWds_fq {M M' : zMI} {g : Nat} (h : zWds M) (hq : zSfq g M M') : zWds M' := by
  refine ⟨fun w hw => ?_, fun j hj => ?_⟩
  · have := h.1 w hw
    unfold zWd at *
    rw [zSfq_o hq (by omega) (by omega) (by omega)]
    exact this
  · have := h.2 j hj
    unfold zWd at *
    rw [zSfq_o hq (by omega) (by omega) (by omega)]
    exact this
def zdkk : List Nat → Prop
  | [] => True
  | x :: V => if zPm x then (1 ≤ x ∧ x ≤ 4) ∧ zdkk V else True
theorem zqc_s {x : Nat} (h : 1 ≤ x) (h12 : x ≠ 12) : zqc (x + 3) 0 = x := by
  unfold zqc
  rw [if_neg (by omega), if_neg (by omega), if_neg (by omega), if_neg (by omega), if_neg (by omega), Nat.add_sub_cancel]
-- dropping one
theorem zQfq_pop {g B x : Nat} {M M' : zMI} {F : zFl} {W : List Nat} {y1 y2 y3 : Int32} (h : zQfq g 88 M M') (hq : zSQq M' g F (x :: W) B) : zQfq g 88 M (zu (zu (zu M' 177 90 y1) 245 (g + F.length) y2) 177 88 y3) := zQfq_7 (zQfq_c (zQfq_7 h (Or.inl rfl) (by omega)) (by omega) (by have := hq.2.2.2.2.2; rw [List.length_cons] at this; omega)) (Or.inl rfl) (by omega)
set_option maxHeartbeats 4000000 in
set_option maxRecDepth 100000 in
theorem sp_mqDropsToBracket {d t g : Nat} {M : zMI} {L : zML} {F F' : zFl} {W1 W0 W1' : List Nat} (h : zSQq M g F (W1 ++ W0) W0.length) (hw : zdkk W1) (hr : zdw zPm W1 F = (W1', F')) : Sy yX12_qDropsToBracket YX12_qDropsToBracket (d + 2) [.ref 177] M L (zRf t) (fun v0 M' L' R' => v0 = none ∧ L = L' ∧ R' = zRf t ∧ zSQq M' g F' (W1' ++ W0) W0.length ∧ zQfq g 88 M M') := by
  refine Sp.of (by decide +kernel) rfl (fun h => by first | exact h | cases h) (Nat.le_of_ble_eq_true rfl) ?_
  intro w G
  have loop : ∀ (V : List Nat) (F2 : zFl) (M2 : zMI), zSQq M2 g F2 (V ++ W0) W0.length → zdkk V → zQfq g 88 M M2 → zdw zPm V F2 = (W1', F') → WP w YX12_qDropsToBracket (d + 2, SS, 0, 0) G (some (zXp (fun v0 M' L' R' => v0 = none ∧ L = L' ∧ R' = zRf t ∧ zSQq M' g F' (W1' ++ W0) W0.length ∧ zQfq g 88 M M'))) 0 [(0, .ref 177)] [] SS M2 L (zRf t) := by
    intro V
    induction V with
    | nil =>
      intro F2 M2 h2 hw2 hq hr2
      have e : (([] : List Nat), F2) = (W1', F') := hr2
      cases e
      have h46 : M2 177 90 = nI W0.length := h2.2.2.1
      have hl := h2.2.2.2.2.2
      have hl' : g + F'.length + W0.length ≤ 1600 := hl
      refine wp_aload_n (q := 1) dX12_qDropsToBracket_0 0 rfl rfl ?_
      refine wp_getI (q := 4) dX12_qDropsToBracket_1 zf_RX12_603 rfl zsh_177 rfl ?_
      rw [h46]
      refine wp_aload_n (q := 5) dX12_qDropsToBracket_4 0 rfl rfl ?_
      refine wp_getI (q := 8) dX12_qDropsToBracket_5 zf_RX12_609 rfl zsh_177 rfl ?_
      rw [h2.2.2.2.2.1]
      refine wp_icmp_leN (tgt := 35) (q := 11) dX12_qDropsToBracket_8 (by decide) rfl (by omega) (by omega) (fun _ => ?_) (fun hn => absurd hn (by first | omega | exact fun h => h | exact fun h => h trivial))
      exact wp_return dX12_qDropsToBracket_35 rfl ⟨rfl, ⟨rfl, rfl, rfl, h2, hq⟩⟩ rfl rfl
    | cons x V ih =>
      intro F2 M2 h2 hw2 hq hr2
      have e' : (if zPm x then zdw zPm V (F2 ++ [(x + 3, 0)]) else (x :: V, F2)) = (W1', F') := hr2
      have h2' : zSQq M2 g F2 (x :: (V ++ W0)) W0.length := h2
      have h46 : M2 177 90 = nI ((V ++ W0).length + 1) := h2.2.2.1
      have hl' : g + F2.length + ((V ++ W0).length + 1) ≤ 1600 := h2.2.2.2.2.2
      have hB : W0.length ≤ (V ++ W0).length := by rw [List.length_append]; omega
      obtain ⟨⟨k1, k2⟩, k3⟩ := h2'.2.2.2.1
      refine wp_aload_n (q := 1) dX12_qDropsToBracket_0 0 rfl rfl ?_
      refine wp_getI (q := 4) dX12_qDropsToBracket_1 zf_RX12_603 rfl zsh_177 rfl ?_
      rw [h46]
      refine wp_aload_n (q := 5) dX12_qDropsToBracket_4 0 rfl rfl ?_
      refine wp_getI (q := 8) dX12_qDropsToBracket_5 zf_RX12_609 rfl zsh_177 rfl ?_
      rw [h2.2.2.2.2.1]
      refine wp_icmp_leN (tgt := 35) (q := 11) dX12_qDropsToBracket_8 (by decide) rfl (by omega) (by omega) (fun hn => absurd hn (by first | omega | exact fun h => h | exact fun h => h trivial)) (fun _ => ?_)
      refine wp_aload_n (q := 12) dX12_qDropsToBracket_11 0 rfl rfl ?_
      refine wp_getR (q := 15) dX12_qDropsToBracket_12 zf_RX12_224 rfl zsh_177 (zr_177_89 _) rfl ?_
      refine wp_aload_n (q := 16) dX12_qDropsToBracket_15 0 rfl rfl ?_
      refine wp_getI (q := 19) dX12_qDropsToBracket_16 zf_RX12_603 rfl zsh_177 rfl ?_
      rw [h46]
      refine wp_iconst (q := 20) dX12_qDropsToBracket_19 zq_iconst_1 rfl ?_
      refine wp_isubN (q := 21) dX12_qDropsToBracket_20 (by omega) rfl ?_
      refine wp_iald (q := 22) _ dX12_qDropsToBracket_21 zsh_246 rfl (by omega) (by decide) rfl ?_
      rw [Nat.add_sub_cancel, k1]
      refine wp_csx (q := 25) (sp_mqIsBracket (d := 1) k2) zm_X12_qIsBracket zl_RX12_612 dX12_qDropsToBracket_22 rfl (by omega) (Nat.le_of_ble_eq_true rfl) rfl ?_
      cases hz : zPm x with
      | false =>
        rw [hz] at e'
        have e2 : (x :: V, F2) = (W1', F') := e'
        cases e2
        refine wp_if_ne (tgt := 35) (q := 28) dX12_qDropsToBracket_25 (by decide) rfl (fun _ => ?_) (fun hn => absurd hn (by decide))
        exact wp_return dX12_qDropsToBracket_35 rfl ⟨rfl, ⟨rfl, rfl, rfl, h2, hq⟩⟩ rfl rfl
      | true =>
        rw [hz] at e'
        have e2 : zdw zPm V (F2 ++ [(x + 3, 0)]) = (W1', F') := e'
        have hw3 : (if zPm x then (1 ≤ x ∧ x ≤ 4) ∧ zdkk V else True) := hw2
        rw [hz] at hw3
        have hw4 : (1 ≤ x ∧ x ≤ 4) ∧ zdkk V := hw3
        have hx4 := hw4.1
        refine wp_if_ne (tgt := 35) (q := 28) dX12_qDropsToBracket_25 (by decide) rfl (fun hn => absurd hn (by decide)) (fun _ => ?_)
        refine wp_aload_n (q := 29) dX12_qDropsToBracket_28 0 rfl rfl ?_
        refine wp_cvx (q := 32) (sp_mqDrops (d := 0) h2') zm_X12_qDrops zl_RX12_615 dX12_qDropsToBracket_29 rfl (by omega) (Nat.le_of_ble_eq_true rfl) zsh_177 rfl rfl ?_
        refine wp_goto (tgt := 0) dX12_qDropsToBracket_32 (by decide) ?_
        refine WP.sub (loc' := [(0, _)]) [0] rfl ?_
        refine ih _ _ (zSQq_pop h2' ?_) hw4.2 (zQfq_pop hq h2') e2
        exact zqc_s hx4.1 (by omega)
  refine WP.sub (loc' := [(0, _)]) [0] rfl ?_
  exact loop W1 F M h hw zQfq_r hr
theorem zSQq_all {M : zMI} {g B : Nat} {F : zFl} {W : List Nat} (h : zSQq M g F W B) (hl : g + F.length + W.length + 1 ≤ 1600) : zSQq (zu (zu M 245 (g + F.length) (nI 13)) 177 88 (nI (g + F.length + 1))) g (F ++ [(0, 1)]) W B := by
  obtain ⟨a1, a2, a3, a4, a5, a6⟩ := h
  have e : (F ++ [(0, 1)]).length = F.length + 1 := by rw [List.length_append]; rfl
  exact ⟨by rw [zu_s, e]; rfl, zcdY_fr (zcdY_v a2 (Or.inr ⟨rfl, rfl, rfl⟩)) (zu_ne (by decide)), by rw [zu_k (by decide), zu_ne (by decide)]; exact a3, zStk_e a4 (by rw [zu_ne (by decide), zu_ne (by decide)]), by rw [zu_k (by decide), zu_ne (by decide)]; exact a5, by omega⟩

