-- seats: the rows in the order tried, the fewest and the first row of them
def zps (W : Nat → Nat → Nat → Nat) (q : List Nat) : Nat → Nat
  | 0 => 0
  | i + 1 => zps W q i + (if i < 2 then 0 else W (q.getD (i - 2) 0) (q.getD (i - 1) 0) (q.getD i 0))
def zco (W : Nat → Nat → Nat → Nat) (n : Nat) (q : List Nat) : Nat := zps W q n + W (q.getD (n - 2) 0) (q.getD (n - 1) 0) (q.getD 0 0) + W (q.getD (n - 1) 0) (q.getD 0 0) (q.getD 1 0)
def zbt (W : Nat → Nat → Nat → Nat) (n : Nat) (a : Nat × List Nat) (q : List Nat) : Nat × List Nat := if zco W n q < a.1 then (zco W n q, q) else a
def zxt (n : Nat) : Nat → List Nat → List (List Nat)
  | 0, q => [q]
  | k + 1, q => (List.range' 1 (n - 1)).flatMap (fun x => if q.contains x then [] else zxt n k (q ++ [x]))
theorem zxt_pre (n : Nat) : ∀ k q r, r ∈ zxt n k q → ∃ s, r = q ++ s := by
  intro k
  induction k with
  | zero =>
    intro q r h
    rw [zxt, List.mem_singleton] at h
    exact ⟨[], by rw [h, List.append_nil]⟩
  | succ k ih =>
    intro q r h
    rw [zxt, List.mem_flatMap] at h
    obtain ⟨x, -, hx⟩ := h
    split at hx
    · exact absurd hx (List.not_mem_nil)
    · obtain ⟨s, hs⟩ := ih _ _ hx
      exact ⟨x :: s, by rw [hs, List.append_assoc]; rfl⟩
theorem zgd_l {q s : List Nat} {i : Nat} (h : i < q.length) : (q ++ s).getD i 0 = q.getD i 0 := by
  rw [List.getD_eq_getElem?_getD, List.getD_eq_getElem?_getD, List.getElem?_append_left h]
theorem zgd_e {q : List Nat} {x : Nat} : (q ++ [x]).getD q.length 0 = x := by
  rw [List.getD_eq_getElem?_getD, List.getElem?_append_right (Nat.le_refl _), Nat.sub_self]; rfl
theorem zps_pre (W : Nat → Nat → Nat → Nat) (q s : List Nat) : ∀ p, p ≤ q.length → zps W (q ++ s) p = zps W q p := by
  intro p
  induction p with
  | zero => intro _; rfl
  | succ p ih =>
    intro h
    rw [zps, zps, ih (by omega), zgd_l (by omega), zgd_l (by omega), zgd_l (by omega)]
theorem zps_mono (W : Nat → Nat → Nat → Nat) (q : List Nat) (p : Nat) : ∀ k, zps W q p ≤ zps W q (p + k) := by
  intro k
  induction k with
  | zero => exact Nat.le_refl _
  | succ k ih => rw [← Nat.add_assoc, zps]; omega
theorem zps_le {W : Nat → Nat → Nat → Nat} (hW : ∀ a b c, W a b c ≤ 100000000) (q : List Nat) : ∀ p, zps W q p ≤ 100000000 * p := by
  intro p
  induction p with
  | zero => exact Nat.le_refl _
  | succ p ih =>
    rw [zps]
    have := hW (q.getD (p - 2) 0) (q.getD (p - 1) 0) (q.getD p 0)
    split <;> omega
theorem zprune (W : Nat → Nat → Nat → Nat) {n k : Nat} {q : List Nat} {F : Nat} {B : List Nat} (hq : q.length + k = n) (h : F ≤ zps W q q.length) : (zxt n k q).foldl (zbt W n) (F, B) = (F, B) := by
  have hall : ∀ r, r ∈ zxt n k q → F ≤ zco W n r := by
    intro r hr
    obtain ⟨s, rfl⟩ := zxt_pre n k q r hr
    have h1 := zps_pre W q s q.length (Nat.le_refl _)
    have h2 := zps_mono W (q ++ s) q.length k
    rw [hq] at h2
    unfold zco
    omega
  generalize zxt n k q = l at hall
  induction l with
  | nil => rfl
  | cons r l ih =>
    rw [List.foldl_cons]
    have h1 := hall r (List.mem_cons_self)
    rw [show zbt W n (F, B) r = (F, B) from if_neg (by show ¬ zco W n r < F; omega)]
    exact ih (fun r' hr' => hall r' (List.mem_cons_of_mem _ hr'))
theorem zbt_le (W : Nat → Nat → Nat → Nat) (n : Nat) (l : List (List Nat)) : ∀ a, (l.foldl (zbt W n) a).1 ≤ a.1 := by
  induction l with
  | nil => intro a; exact Nat.le_refl _
  | cons r l ih =>
    intro a
    rw [List.foldl_cons]
    refine Nat.le_trans (ih _) ?_
    unfold zbt
    split
    · omega
    · exact Nat.le_refl _
def zW (tb : zTb) (v : Nat → Nat) (a s b : Nat) : Nat := (10000 - zoR tb v s b) * (10000 - zoL tb v a s)
theorem zW_le (tb : zTb) (v : Nat → Nat) (a s b : Nat) : zW tb v a s b ≤ 100000000 := zm8 (Nat.sub_le _ _) (Nat.sub_le _ _)
def zRt (M : zMI) (n : Nat) (tb : zTb) (v : Nat → Nat) : Prop := M 167 4 = nI n ∧ n ≤ 8 ∧ ∀ r l, r < n → l < n → M 168 (8 * r + l) = nI (zoR tb v r l) ∧ M 169 (8 * r + l) = nI (zoL tb v r l)
set_option maxHeartbeats 4000000 in
set_option maxRecDepth 100000 in
theorem sp_without {d t n a s b : Nat} {M : zMI} {L : zML} {tb : zTb} {v : Nat → Nat} (hR : zRt M n tb v) (ha : a < n) (hs : s < n) (hb : b < n) : Sx yX6_without YX6_without (d) [.ref 167, .int (nI a), .int (nI s), .int (nI b)] M L (zRf t) (some (.long (lN (zW tb v a s b)))) M L (zRf t) := by
  refine Sp.of (by decide +kernel) rfl (fun h => by first | exact h | cases h) (Nat.le_of_ble_eq_true rfl) ?_
  intro w G
  obtain ⟨h4, h8, hT⟩ := hR
  have e1 := (hT s b hs hb).1
  have e2 := (hT a s ha hs).2
  have b1 := zo_sum tb v s b
  have b2 := zo_sum tb v a s
  unfold zW
  obtain ⟨r, hr⟩ : ∃ r, zoR tb v s b = r := ⟨_, rfl⟩
  obtain ⟨l, hl⟩ : ∃ l, zoL tb v a s = l := ⟨_, rfl⟩
  rw [hr] at e1 b1 ⊢
  rw [hl] at e2 b2 ⊢
  have c1 : r ≤ 10000 := by omega
  have c2 : l ≤ 10000 := by omega
  have m1 := zm8 (show 10000 - r ≤ 10000 by omega) (show 10000 - l ≤ 10000 by omega)
  refine wp_aload_n (q := 1) dX6_without_0 0 rfl rfl ?_
  refine wp_getR (q := 4) dX6_without_1 zf_RX6_9 rfl zsh_167 (zr_167_1 _) rfl ?_
  refine wp_bipush (q := 6) dX6_without_4 zq_bipush_8 rfl ?_
  refine wp_iload_n (q := 7) dX6_without_6 2 rfl rfl ?_
  refine wp_imulN (q := 8) dX6_without_7 rfl ?_
  refine wp_iload_n (q := 9) dX6_without_8 3 rfl rfl ?_
  refine wp_iaddN (q := 10) dX6_without_9 rfl ?_
  refine wp_iald (q := 11) _ dX6_without_10 zsh_168 rfl (by omega) (by decide) rfl ?_
  rw [e1]
  refine wp_i2lN (q := 12) dX6_without_11 (by omega) rfl ?_
  refine wp_lstore (q := 14) (loc' := [(4, _), (0, _), (1, _), (2, _), (3, _)]) dX6_without_12 (by decide) rfl rfl ?_
  refine wp_aload_n (q := 15) dX6_without_14 1 rfl rfl ?_
  refine wp_getR (q := 18) dX6_without_15 zf_RX6_15 rfl zsh_167 (zr_167_2 _) rfl ?_
  refine wp_bipush (q := 20) dX6_without_18 zq_bipush_8 rfl ?_
  refine wp_iload_n (q := 21) dX6_without_20 2 rfl rfl ?_
  refine wp_imulN (q := 22) dX6_without_21 rfl ?_
  refine wp_iload_n (q := 23) dX6_without_22 3 rfl rfl ?_
  refine wp_iaddN (q := 24) dX6_without_23 rfl ?_
  refine wp_iald (q := 25) _ dX6_without_24 zsh_169 rfl (by omega) (by decide) rfl ?_
  rw [e2]
  refine wp_i2lN (q := 26) dX6_without_25 (by omega) rfl ?_
  refine wp_lstore (q := 28) (loc' := [(6, _), (4, _), (0, _), (1, _), (2, _), (3, _)]) dX6_without_26 (by decide) rfl rfl ?_
  refine wp_ldc2_w (q := 31) dX6_without_28 zk_RX6_75 rfl ?_
  rw [zlitL 10000]
  refine wp_lload (q := 33) dX6_without_31 1 rfl rfl ?_
  refine wp_lsubN (q := 34) dX6_without_33 (by omega) rfl ?_
  refine wp_ldc2_w (q := 37) dX6_without_34 zk_RX6_75 rfl ?_
  rw [zlitL 10000]
  refine wp_lload (q := 39) dX6_without_37 0 rfl rfl ?_
  refine wp_lsubN (q := 40) dX6_without_39 (by omega) rfl ?_
  refine wp_lmulN (q := 41) dX6_without_40 rfl ?_
  exact wp_lreturn dX6_without_41 rfl ⟨rfl, rfl, rfl, rfl, rfl⟩ rfl rfl
def zRq (M : zMI) (q : List Nat) : Prop := ∀ i, i < q.length → M 170 i = nI (q.getD i 0)
def zRb (M : zMI) (L : zML) (n : Nat) (a : Nat × List Nat) : Prop := L 167 6 = lN a.1 ∧ a.1 ≤ 1000000000000 ∧ (a.1 < 1000000000000 → ∀ i, i < n → M 171 i = nI (a.2.getD i 0))
theorem zgd_lt {q : List Nat} {n i : Nat} (h : ∀ x, x ∈ q → x < n) (hi : i < q.length) : q.getD i 0 < n := by
  rw [List.getD_eq_getElem?_getD, List.getElem?_eq_getElem hi]
  exact h _ (List.getElem_mem hi)
set_option maxHeartbeats 4000000 in
set_option maxRecDepth 100000 in
theorem sp_close {d t n : Nat} {M : zMI} {L : zML} {tb : zTb} {v : Nat → Nat} {q : List Nat} {a : Nat × List Nat} (hR : zRt M n tb v) (h2 : 2 ≤ n) (hq : zRq M q) (hl : q.length = n) (hlt : ∀ x, x ∈ q → x < n) (ha : zRb M L n a) : Sy yX6_close YX6_close (d + 1) [.ref 167, .long (lN (zps (zW tb v) q n))] M L (zRf t) (fun v0 M' L' R' => v0 = none ∧ R' = zRf t ∧ zRb M' L' n (zbt (zW tb v) n a q) ∧ (∀ o k, o ≠ 167 ∨ k ≠ 6 → L' o k = L o k) ∧ ∀ x, x ≠ 171 → M' x = M x) := by
  refine Sp.of (by decide +kernel) rfl (fun h => by first | exact h | cases h) (Nat.le_of_ble_eq_true rfl) ?_
  intro w G
  have hR' := hR
  obtain ⟨h4, h8, hT⟩ := hR
  obtain ⟨f1, f2, f3⟩ := ha
  have g0 := zgd_lt (i := 0) hlt (by omega)
  have g1 := zgd_lt (i := 1) hlt (by omega)
  have gm := zgd_lt (i := n - 1) hlt (by omega)
  have gp := zgd_lt (i := n - 2) hlt (by omega)
  have q0 := hq 0 (by omega)
  have q1 := hq 1 (by omega)
  have qm := hq (n - 1) (by omega)
  have qp := hq (n - 2) (by omega)
  have w1 := zW_le tb v (q.getD (n - 2) 0) (q.getD (n - 1) 0) (q.getD 0 0)
  have w2 := zW_le tb v (q.getD (n - 1) 0) (q.getD 0 0) (q.getD 1 0)
  have w3 := zps_le (zW_le tb v) q n
  have hco : zps (zW tb v) q n + zW tb v (q.getD (n - 2) 0) (q.getD (n - 1) 0) (q.getD 0 0) + zW tb v (q.getD (n - 1) 0) (q.getD 0 0) (q.getD 1 0) = zco (zW tb v) n q := rfl
  refine wp_aload_n (q := 1) dX6_close_0 0 rfl rfl ?_
  refine wp_getI (q := 4) dX6_close_1 zf_RX6_21 rfl zsh_167 rfl ?_
  rw [h4]
  refine wp_iconst (q := 5) dX6_close_4 zq_iconst_1 rfl ?_
  refine wp_isubN (q := 6) dX6_close_5 (by omega) rfl ?_
  refine wp_istore_n (q := 7) (loc' := [(3, _), (0, _), (1, _)]) dX6_close_6 rfl (by decide) rfl rfl ?_
  refine wp_iload_n (q := 8) dX6_close_7 0 rfl rfl ?_
  refine wp_iconst (q := 9) dX6_close_8 zq_iconst_1 rfl ?_
  refine wp_icmp_geN (tgt := 13) (q := 12) dX6_close_9 (by decide) rfl (by omega) (by omega) (fun _ => ?_) (fun hn => absurd hn (by omega))
  refine wp_lload_n (q := 14) dX6_close_13 2 rfl rfl ?_
  refine wp_aload_n (q := 15) dX6_close_14 1 rfl rfl ?_
  refine wp_aload_n (q := 16) dX6_close_15 1 rfl rfl ?_
  refine wp_getR (q := 19) dX6_close_16 zf_RX6_18 rfl zsh_167 (zr_167_3 _) rfl ?_
  refine wp_iload_n (q := 20) dX6_close_19 0 rfl rfl ?_
  refine wp_iconst (q := 21) dX6_close_20 zq_iconst_1 rfl ?_
  refine wp_isubN (q := 22) dX6_close_21 (by omega) rfl ?_
  refine wp_iald (q := 23) _ dX6_close_22 zsh_170 rfl (by omega) (by decide) rfl ?_
  rw [show n - 1 - 1 = n - 2 by omega, qp]
  refine wp_aload_n (q := 24) dX6_close_23 1 rfl rfl ?_
  refine wp_getR (q := 27) dX6_close_24 zf_RX6_18 rfl zsh_167 (zr_167_3 _) rfl ?_
  refine wp_iload_n (q := 28) dX6_close_27 0 rfl rfl ?_
  refine wp_iald (q := 29) _ dX6_close_28 zsh_170 rfl (by omega) (by decide) rfl ?_
  rw [qm]
  refine wp_aload_n (q := 30) dX6_close_29 1 rfl rfl ?_
  refine wp_getR (q := 33) dX6_close_30 zf_RX6_18 rfl zsh_167 (zr_167_3 _) rfl ?_
  refine wp_iconst (q := 34) dX6_close_33 zq_iconst_0 rfl ?_
  refine wp_iald (q := 35) _ dX6_close_34 zsh_170 rfl (by omega) (by decide) rfl ?_
  rw [q0]
  refine wp_cvx (q := 38) (sp_without (d := d) hR' gp gm g0) zm_X6_without zl_RX6_65 dX6_close_35 rfl (by omega) (Nat.le_of_ble_eq_true rfl) zsh_167 rfl rfl ?_
  refine wp_laddN (q := 39) dX6_close_38 rfl ?_
  refine wp_aload_n (q := 40) dX6_close_39 1 rfl rfl ?_
  refine wp_aload_n (q := 41) dX6_close_40 1 rfl rfl ?_
  refine wp_getR (q := 44) dX6_close_41 zf_RX6_18 rfl zsh_167 (zr_167_3 _) rfl ?_
  refine wp_iload_n (q := 45) dX6_close_44 0 rfl rfl ?_
  refine wp_iald (q := 46) _ dX6_close_45 zsh_170 rfl (by omega) (by decide) rfl ?_
  rw [qm]
  refine wp_aload_n (q := 47) dX6_close_46 1 rfl rfl ?_
  refine wp_getR (q := 50) dX6_close_47 zf_RX6_18 rfl zsh_167 (zr_167_3 _) rfl ?_
  refine wp_iconst (q := 51) dX6_close_50 zq_iconst_0 rfl ?_
  refine wp_iald (q := 52) _ dX6_close_51 zsh_170 rfl (by omega) (by decide) rfl ?_
  rw [q0]
  refine wp_aload_n (q := 53) dX6_close_52 1 rfl rfl ?_
  refine wp_getR (q := 56) dX6_close_53 zf_RX6_18 rfl zsh_167 (zr_167_3 _) rfl ?_
  refine wp_iconst (q := 57) dX6_close_56 zq_iconst_1 rfl ?_
  refine wp_iald (q := 58) _ dX6_close_57 zsh_170 rfl (by omega) (by decide) rfl ?_
  rw [q1]
  refine wp_cvx (q := 61) (sp_without (d := d) hR' gm g0 g1) zm_X6_without zl_RX6_65 dX6_close_58 rfl (by omega) (Nat.le_of_ble_eq_true rfl) zsh_167 rfl rfl ?_
  refine wp_laddN (q := 62) dX6_close_61 rfl ?_
  rw [hco]
  have hcb : zco (zW tb v) n q ≤ 1000000000 := by omega
  refine wp_lstore (q := 64) (loc' := [(4, _), (3, _), (0, _), (1, _)]) dX6_close_62 (by decide) rfl rfl ?_
  refine wp_lload (q := 66) dX6_close_64 0 rfl rfl ?_
  refine wp_aload_n (q := 67) dX6_close_66 2 rfl rfl ?_
  refine wp_getL (q := 70) dX6_close_67 zf_RX6_28 rfl zsh_167 rfl ?_
  rw [f1]
  refine wp_lcmp_geN (tgt := 97) (q := 74) dX6_close_70 rfl dX6_close_71 (by decide) rfl (by omega) (by omega) (fun hge => ?_) (fun hge => ?_)
  · skip
    refine wp_return dX6_close_97 rfl ⟨rfl, ⟨rfl, rfl, ?_, fun _ _ _ => rfl, fun _ _ => rfl⟩⟩ rfl rfl
    rw [show zbt (zW tb v) n a q = a from if_neg (by omega)]
    exact ⟨f1, f2, f3⟩
  · skip
    refine wp_aload_n (q := 75) dX6_close_74 2 rfl rfl ?_
    refine wp_lload (q := 77) dX6_close_75 0 rfl rfl ?_
    refine wp_putL (q := 80) dX6_close_77 zf_RX6_28 rfl zsh_167 rfl ?_
    refine wp_aload_n (q := 81) dX6_close_80 2 rfl rfl ?_
    refine wp_getR (q := 84) dX6_close_81 zf_RX6_18 rfl zsh_167 (zr_167_3 _) rfl ?_
    refine wp_iconst (q := 85) dX6_close_84 zq_iconst_0 rfl ?_
    refine wp_aload_n (q := 86) dX6_close_85 2 rfl rfl ?_
    refine wp_getR (q := 89) dX6_close_86 zf_RX6_25 rfl zsh_167 (zr_167_5 _) rfl ?_
    refine wp_iconst (q := 90) dX6_close_89 zq_iconst_0 rfl ?_
    refine wp_aload_n (q := 91) dX6_close_90 2 rfl rfl ?_
    refine wp_getI (q := 94) dX6_close_91 zf_RX6_21 rfl zsh_167 rfl ?_
    rw [h4]
    refine wp_copy (q := 97) dX6_close_94 zl_RX6_69 zsh_170 zsh_171 rfl rfl rfl (by omega) (by omega) (by decide) (by decide) (by omega) (by decide) rfl ?_
    refine wp_return dX6_close_97 rfl ⟨rfl, ⟨rfl, rfl, ?_, fun o k hk => ?_, fun x hx => zcp_ne hx⟩⟩ rfl rfl
    · rw [show zbt (zW tb v) n a q = (zco (zW tb v) n q, q) from if_pos hge]
      refine ⟨zu_s, by omega, fun _ i hi => ?_⟩
      rw [zcp_eq, if_pos hi]
      exact hq i (by omega)
    · by_cases e : o = 167
      · subst e
        exact zu_k (by omega)
      · exact congrFun (zu_ne e) k

