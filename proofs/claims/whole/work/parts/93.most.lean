def zod (num c : Nat) : Nat := num / 3 ^ c % 3
theorem zod_lt (num c : Nat) : zod num c < 3 := Nat.mod_lt _ (by decide)
def zPo (tb : zTb) (v : Nat → Nat) (n c o : Nat) : Nat := if o = 0 then zoR tb v c ((c + 1) % n) else if o = 1 then zoL tb v c ((c + 1) % n) else zoN tb v c ((c + 1) % n)
def zpo (tb : zTb) (v : Nat → Nat) (n num : Nat) : Nat → Bool
  | 0 => true
  | c + 1 => zpo tb v n num c && decide (zPo tb v n c (zod num c) ≠ 0)
theorem zpo_f {tb : zTb} {v : Nat → Nat} {n num c : Nat} (h : zpo tb v n num c = false) : ∀ k, zpo tb v n num (c + k) = false := by
  intro k
  induction k with
  | zero => exact h
  | succ k ih => show (zpo tb v n num (c + k) && _) = false; rw [ih, Bool.false_and]
theorem zpo_i {tb : zTb} {v : Nat → Nat} {n num : Nat} : ∀ k, zpo tb v n num k = true ↔ ∀ c, c < k → zPo tb v n c (zod num c) ≠ 0 := by
  intro k
  induction k with
  | zero => exact ⟨fun _ c hc => absurd hc (Nat.not_lt_zero _), fun _ => rfl⟩
  | succ k ih =>
    show (zpo tb v n num k && decide (zPo tb v n k (zod num k) ≠ 0)) = true ↔ _
    rw [Bool.and_eq_true, ih, decide_eq_true_eq]
    constructor
    · rintro ⟨a, b⟩ c hc
      by_cases e : c = k
      · rw [e]; exact b
      · exact a c (by omega)
    · intro a
      exact ⟨fun c hc => a c (by omega), a k (by omega)⟩
def znq (n num s : Nat) : Bool := decide (zod num s ≠ 0) && decide (zod num ((s + n - 1) % n) ≠ 1)
def zno (tb : zTb) (v : Nat → Nat) (n num : Nat) : Nat := if zpo tb v n num n = true then nC (znq n num) n + 1 else 0
def zmx (f : Nat → Nat) : Nat → Nat
  | 0 => 0
  | i + 1 => if zmx f i < f i then f i else zmx f i
theorem zmx_ge {f : Nat → Nat} : ∀ i j, j < i → f j ≤ zmx f i := by
  intro i
  induction i with
  | zero => intro j hj; omega
  | succ i ih =>
    intro j hj
    rw [zmx]
    by_cases e : j = i
    · subst e
      split <;> omega
    · have := ih j (by omega)
      split <;> omega
theorem zmx_le {f : Nat → Nat} {b : Nat} : ∀ i, (∀ j, j < i → f j ≤ b) → zmx f i ≤ b := by
  intro i
  induction i with
  | zero => intro _; exact Nat.zero_le _
  | succ i ih =>
    intro h
    rw [zmx]
    split
    · exact h i (by omega)
    · exact ih (fun j hj => h j (by omega))
-- the choice of outcomes as one number
def zsmO (o : Nat → Nat) : Nat → Nat
  | 0 => 0
  | c + 1 => zsmO o c + o c * 3 ^ c
theorem zsm_lt {o : Nat → Nat} (h : ∀ c, o c < 3) : ∀ n, zsmO o n < 3 ^ n := by
  intro n
  induction n with
  | zero => exact Nat.one_pos
  | succ n ih =>
    have : o n * 3 ^ n ≤ 2 * 3 ^ n := Nat.mul_le_mul (by have := h n; omega) (Nat.le_refl _)
    rw [zsmO, Nat.pow_succ]
    omega
theorem zsm_o {o : Nat → Nat} (h : ∀ c, o c < 3) : ∀ n c, c < n → zod (zsmO o n) c = o c := by
  intro n
  induction n with
  | zero => intro c hc; omega
  | succ n ih =>
    intro c hc
    unfold zod
    rw [zsmO]
    by_cases e : c = n
    · subst e
      rw [Nat.add_mul_div_right _ _ (Nat.pow_pos (by decide)), Nat.div_eq_of_lt (zsm_lt h c), Nat.zero_add, Nat.mod_eq_of_lt (h c)]
    · have e2 : o n * 3 ^ n = (o n * 3 ^ (n - c - 1)) * 3 * 3 ^ c := by
        rw [Nat.mul_assoc, Nat.mul_assoc, show 3 ^ n = 3 ^ (n - c - 1) * (3 * 3 ^ c) by rw [show 3 * 3 ^ c = 3 ^ (c + 1) from by rw [Nat.pow_succ, Nat.mul_comm], ← Nat.pow_add]; congr 1; omega]
      rw [e2, Nat.add_mul_div_right _ _ (Nat.pow_pos (by decide)), Nat.add_mul_mod_self_right]
      exact ih c (by omega)
theorem zmo_ge {tb : zTb} {v : Nat → Nat} {n : Nat} : ∀ i a, a < i → zcan tb v n a n = true → zpc a ≤ zmo tb v n i := by
  intro i
  induction i with
  | zero => intro a ha; omega
  | succ i ih =>
    intro a ha hc
    rw [zmo]
    by_cases e : a = i
    · subst e
      split
      · exact Nat.le_refl _
      · rename_i h
        exact Nat.le_of_not_lt (fun c => h ⟨c, hc⟩)
    · have := ih a (by omega) hc
      split
      · rename_i h
        omega
      · exact this
theorem zmo_lb {tb : zTb} {v : Nat → Nat} {n b : Nat} : ∀ i, (∀ a, a < i → zcan tb v n a n = true → zpc a ≤ b) → zmo tb v n i ≤ b := by
  intro i
  induction i with
  | zero => intro _; exact Nat.zero_le _
  | succ i ih =>
    intro h
    rw [zmo]
    split
    · rename_i c
      exact h i (by omega) c.2
    · exact ih (fun a ha => h a (by omega))
theorem zcan_i {tb : zTb} {v : Nat → Nat} {n a : Nat} : ∀ k, zcan tb v n a k = true ↔ ∀ c, c < k → zcan1 tb v n a c = true := by
  intro k
  induction k with
  | zero => exact ⟨fun _ c hc => absurd hc (Nat.not_lt_zero _), fun _ => rfl⟩
  | succ k ih =>
    show (zcan tb v n a k && zcan1 tb v n a k) = true ↔ _
    rw [Bool.and_eq_true, ih]
    constructor
    · rintro ⟨a1, b⟩ c hc
      by_cases e : c = k
      · rw [e]; exact b
      · exact a1 c (by omega)
    · intro a1
      exact ⟨fun c hc => a1 c (by omega), a1 k (by omega)⟩
theorem nC_mono {f g : Nat → Bool} : ∀ n, (∀ i, i < n → f i = true → g i = true) → nC f n ≤ nC g n := by
  intro n
  induction n with
  | zero => intro _; exact Nat.le_refl _
  | succ n ih =>
    intro h
    have h1 := ih (fun i hi => h i (by omega))
    have h2 := h n (by omega)
    rw [nC, nC]
    by_cases c : f n = true
    · rw [if_pos c, if_pos (h2 c)]
      omega
    · rw [if_neg c]
      omega
theorem zpc_n {a n : Nat} (h8 : n ≤ 8) (ha : a < 2 ^ n) : zpc a = nC (fun s => a.testBit s) n := by
  have e : zmk (fun s => a.testBit s) n = a := by
    apply Nat.eq_of_testBit_eq
    intro s
    rw [zmk_bit]
    by_cases c : s < n
    · rw [decide_eq_true c, Bool.true_and]
    · rw [decide_eq_false c, Bool.false_and, Nat.testBit_lt_two_pow (Nat.lt_of_lt_of_le ha (Nat.pow_le_pow_right (by decide) (by omega)))]
  have := zmk_pc (fun s => a.testBit s) h8
  rw [e] at this
  exact this
theorem zno_mo {tb : zTb} {v : Nat → Nat} {n : Nat} (h2 : 2 ≤ n) (h8 : n ≤ 8) : zmx (zno tb v n) (3 ^ n) = zmo tb v n (2 ^ n) + 1 := by
  have hm : ∀ s, s < n → (s + 1) % n < n ∧ (s + n - 1) % n < n := fun s _ => ⟨Nat.mod_lt _ (by omega), Nat.mod_lt _ (by omega)⟩
  -- a choice from a group
  have key : ∀ a, a < 2 ^ n → zcan tb v n a n = true → zpc a + 1 ≤ zmx (zno tb v n) (3 ^ n) := by
    intro a ha hc
    rw [zcan_i] at hc
    obtain ⟨o, ho⟩ : ∃ o : Nat → Nat, ∀ c, o c < 3 ∧ (c < n → zPo tb v n c (o c) ≠ 0 ∧ (a.testBit c = true → o c ≠ 0) ∧ (a.testBit ((c + 1) % n) = true → o c ≠ 1)) := by
      have : ∀ c, ∃ x, x < 3 ∧ (c < n → zPo tb v n c x ≠ 0 ∧ (a.testBit c = true → x ≠ 0) ∧ (a.testBit ((c + 1) % n) = true → x ≠ 1)) := by
        intro c
        by_cases cn : c < n
        · have h1 := hc c cn
          unfold zcan1 at h1
          rw [Bool.or_eq_true, Bool.or_eq_true, Bool.and_eq_true, Bool.and_eq_true, decide_eq_true_eq, decide_eq_true_eq, decide_eq_true_eq] at h1
          rcases h1 with (⟨p, q⟩ | ⟨p, q⟩) | p
          · refine ⟨0, by decide, fun _ => ⟨?_, fun e => ?_, fun _ => by decide⟩⟩
            · show zoR tb v c ((c + 1) % n) ≠ 0
              omega
            · rw [e] at q
              exact absurd q (by decide)
          · refine ⟨1, by decide, fun _ => ⟨?_, fun _ => by decide, fun e => ?_⟩⟩
            · show zoL tb v c ((c + 1) % n) ≠ 0
              omega
            · rw [e] at q
              exact absurd q (by decide)
          · refine ⟨2, by decide, fun _ => ⟨?_, fun _ => by decide, fun _ => by decide⟩⟩
            show zoN tb v c ((c + 1) % n) ≠ 0
            omega
        · exact ⟨0, by decide, fun c => absurd c cn⟩
      exact ⟨fun c => Classical.choose (this c), fun c => Classical.choose_spec (this c)⟩
    have ho3 : ∀ c, o c < 3 := fun c => (ho c).1
    have hlt := zsm_lt ho3 n
    have hge := zmx_ge (f := zno tb v n) (3 ^ n) _ hlt
    have hp : zpo tb v n (zsmO o n) n = true := by
      rw [zpo_i]
      intro c hc
      rw [zsm_o ho3 n c hc]
      exact ((ho c).2 hc).1
    unfold zno at hge
    rw [if_pos hp] at hge
    refine Nat.le_trans ?_ hge
    rw [zpc_n h8 ha]
    refine Nat.add_le_add_right (nC_mono n (fun s hs hb => ?_)) 1
    show (decide (zod (zsmO o n) s ≠ 0) && decide (zod (zsmO o n) ((s + n - 1) % n) ≠ 1)) = true
    rw [zsm_o ho3 n s hs, zsm_o ho3 n _ (hm s hs).2, Bool.and_eq_true, decide_eq_true_eq, decide_eq_true_eq]
    refine ⟨((ho s).2 hs).2.1 hb, ((ho ((s + n - 1) % n)).2 (hm s hs).2).2.2 ?_⟩
    rw [zmod2 hs]
    exact hb
  -- a group from a choice
  have yek : ∀ num, zno tb v n num ≤ zmo tb v n (2 ^ n) + 1 := by
    intro num
    unfold zno
    by_cases hp : zpo tb v n num n = true
    · rw [if_pos hp]
      rw [zpo_i] at hp
      have hge := zmo_ge (tb := tb) (v := v) (n := n) (2 ^ n) (zmk (znq n num) n) (zmk_lt _ _) (by
        rw [zcan_i]
        intro c hc
        have hb : ∀ s, s < n → (zmk (znq n num) n).testBit s = znq n num s := fun s hs => by rw [zmk_bit, decide_eq_true hs, Bool.true_and]
        unfold zcan1
        rw [hb c hc, hb _ (hm c hc).1, Bool.or_eq_true, Bool.or_eq_true, Bool.and_eq_true, Bool.and_eq_true, decide_eq_true_eq, decide_eq_true_eq, decide_eq_true_eq]
        have h1 := hp c hc
        have h3 := zod_lt num c
        have hcs : zod num c = 0 ∨ zod num c = 1 ∨ zod num c = 2 := by omega
        rcases hcs with e | e | e
        · refine Or.inl (Or.inl ⟨?_, ?_⟩)
          · rw [e] at h1
            exact Nat.pos_of_ne_zero h1
          · unfold znq
            rw [e]
            rfl
        · refine Or.inl (Or.inr ⟨?_, ?_⟩)
          · rw [e] at h1
            exact Nat.pos_of_ne_zero h1
          · unfold znq
            rw [zmod1 hc, e, Bool.and_comm]
            rfl
        · refine Or.inr ?_
          rw [e] at h1
          exact Nat.pos_of_ne_zero h1)
      rw [zmk_pc _ h8] at hge
      omega
    · rw [if_neg hp]
      omega
  refine Nat.le_antisymm (zmx_le _ (fun j _ => yek j)) ?_
  have hpos : 1 ≤ zmx (zno tb v n) (3 ^ n) := by
    obtain ⟨o, ho⟩ : ∃ o : Nat → Nat, ∀ c, o c < 3 ∧ zPo tb v n c (o c) ≠ 0 := by
      have : ∀ c, ∃ x, x < 3 ∧ zPo tb v n c x ≠ 0 := by
        intro c
        have hs := zo_sum tb v c ((c + 1) % n)
        by_cases c0 : zoR tb v c ((c + 1) % n) = 0
        · by_cases c1 : zoL tb v c ((c + 1) % n) = 0
          · refine ⟨2, by decide, ?_⟩
            show zoN tb v c ((c + 1) % n) ≠ 0
            omega
          · exact ⟨1, by decide, c1⟩
        · exact ⟨0, by decide, c0⟩
      exact ⟨fun c => Classical.choose (this c), fun c => Classical.choose_spec (this c)⟩
    have ho3 : ∀ c, o c < 3 := fun c => (ho c).1
    have hge := zmx_ge (f := zno tb v n) (3 ^ n) _ (zsm_lt ho3 n)
    have hv : 1 ≤ zno tb v n (zsmO o n) := by
      unfold zno
      rw [if_pos (by rw [zpo_i]; intro c hc; rw [zsm_o ho3 n c hc]; exact (ho c).2)]
      omega
    omega
  have := zmo_lb (tb := tb) (v := v) (n := n) (b := zmx (zno tb v n) (3 ^ n) - 1) (2 ^ n) (fun a ha hc => by have := key a ha hc; omega)
  omega
theorem zdn_le {a b : Nat} (ha : a < 1000) (hb : b < 1000) : zdn a ≤ zdn b ↔ a ≤ b := by
  have hz : ∀ k, k < 1000 → (zdn k).toInt = (k : Int) - 1 := by
    intro k hk
    unfold zdn
    split
    · rename_i e
      rw [e]
      rfl
    · rw [nI_toInt (by omega)]
      omega
  rw [Int32.le_iff_toInt_le, hz a ha, hz b hb]
  omega
set_option maxHeartbeats 4000000 in
set_option maxRecDepth 100000 in
theorem sp_mnoneBy {d t n num : Nat} {M : zMI} {L : zML} {tb : zTb} {v : Nat → Nat} (hn : M 204 2 = nI n) (h2 : 2 ≤ n) (h8 : n ≤ 8) (hP : ∀ c o, c < n → o < 3 → M 218 (3 * c + o) = nI (zPo tb v n c o)) (hnum : num < 10000) : Sy yX12_noneBy YX12_noneBy (d + 2) [.ref 177, .int (nI num)] M L (zRf t) (fun v0 M' L' R' => v0 = some (.int (zdn (zno tb v n num))) ∧ L = L' ∧ R' = zRf t ∧ ∀ x, x ≠ 217 → M' x = M x) := by
  refine Sp.of (by decide +kernel) rfl (fun h => by first | exact h | cases h) (Nat.le_of_ble_eq_true rfl) ?_
  intro w G
  have hPle : ∀ c o, zPo tb v n c o ≤ 10000 := by
    intro c o
    have := zo_sum tb v c ((c + 1) % n)
    unfold zPo
    split
    · omega
    · split <;> omega
  have hdv : ∀ c, num / 3 ^ c ≤ num := fun c => Nat.div_le_self _ _
  have loop2 : ∀ q s (M2 : zMI), zpo tb v n num n = true → s + q = n → (∀ i, i < n → M2 217 i = nI (zod num i)) → (∀ x, x ≠ 217 → M2 x = M x) → WP w YX12_noneBy (d + 2, SS, 0, 0) G (some (zXp (fun v0 M' L' R' => v0 = some (.int (zdn (zno tb v n num))) ∧ L = L' ∧ R' = zRf t ∧ ∀ x, x ≠ 217 → M' x = M x))) 56 [(4, .int (nI s)), (3, .int (nI (nC (znq n num) s))), (0, .ref 177)] [] SS M2 L (zRf t) := by
    intro q
    induction q with
    | zero =>
      intro s M2 hp hq hM hf
      rw [show s = n by omega]
      refine wp_iload (q := 58) dX12_noneBy_56 0 rfl rfl ?_
      refine wp_aload_n (q := 59) dX12_noneBy_58 2 rfl rfl ?_
      refine wp_cvx (q := 62) (sp_mpm (d := 0) (show M2 204 2 = nI n by rw [hf 204 (by decide)]; exact hn)) zm_X12_peopleMany zl_RX12_408 dX12_noneBy_59 rfl (by omega) (Nat.le_of_ble_eq_true rfl) zsh_177 rfl rfl ?_
      refine wp_icmp_geN (tgt := 99) (q := 65) dX12_noneBy_62 (by decide) rfl (by omega) (by omega) (fun _ => ?_) (fun hn => absurd hn (by first | omega | exact fun h => h | exact fun h => h trivial))
      refine wp_iload_n (q := 100) dX12_noneBy_99 1 rfl rfl ?_
      refine wp_ireturn dX12_noneBy_100 rfl ⟨rfl, ⟨?_, rfl, rfl, hf⟩⟩ rfl rfl
      unfold zno zdn
      rw [if_pos hp, if_neg (by omega), Nat.add_sub_cancel]
    | succ q ih =>
      intro s M2 hp hq hM hf
      have hs : s < n := by omega
      have hbm : (s + n - 1) % n < n := Nat.mod_lt _ (by omega)
      have hle : nC (znq n num) s ≤ s := nC_le
      have ih1 := ih (s + 1) M2 hp (by omega) hM hf
      have o1 := zod_lt num s
      have o2 := zod_lt num ((s + n - 1) % n)
      rw [nC] at ih1
      refine wp_iload (q := 58) dX12_noneBy_56 0 rfl rfl ?_
      refine wp_aload_n (q := 59) dX12_noneBy_58 2 rfl rfl ?_
      refine wp_cvx (q := 62) (sp_mpm (d := 0) (show M2 204 2 = nI n by rw [hf 204 (by decide)]; exact hn)) zm_X12_peopleMany zl_RX12_408 dX12_noneBy_59 rfl (by omega) (Nat.le_of_ble_eq_true rfl) zsh_177 rfl rfl ?_
      refine wp_icmp_geN (tgt := 99) (q := 65) dX12_noneBy_62 (by decide) rfl (by omega) (by omega) (fun hn => absurd hn (by first | omega | exact fun h => h | exact fun h => h trivial)) (fun _ => ?_)
      refine wp_aload_n (q := 66) dX12_noneBy_65 2 rfl rfl ?_
      refine wp_getR (q := 69) dX12_noneBy_66 zf_RX12_133 rfl zsh_177 (zr_177_54 _) rfl ?_
      refine wp_iload (q := 71) dX12_noneBy_69 0 rfl rfl ?_
      refine wp_iald (q := 72) _ dX12_noneBy_71 zsh_217 rfl (by omega) (by decide) rfl ?_
      rw [hM s hs]
      refine wp_if_eqN (tgt := 93) (q := 75) dX12_noneBy_72 (by decide) rfl (by omega) (fun c => ?_) (fun c => ?_)
      · skip
        refine wp_iincN (q := 96) (loc' := [(4, _), (3, _), (0, _)]) (n := 1) dX12_noneBy_93 rfl 0 rfl (by decide) rfl rfl ?_
        refine wp_goto (tgt := 56) dX12_noneBy_96 (by decide) ?_
        rw [if_neg (by unfold znq; rw [c, decide_eq_false (by decide : ¬ 0 ≠ 0), Bool.false_and]; decide), Nat.add_zero] at ih1
        refine WP.sub (loc' := [(4, _), (3, _), (0, _)]) [0, 1, 2] rfl ?_
        exact ih1
      · skip
        refine wp_aload_n (q := 76) dX12_noneBy_75 2 rfl rfl ?_
        refine wp_getR (q := 79) dX12_noneBy_76 zf_RX12_133 rfl zsh_177 (zr_177_54 _) rfl ?_
        refine wp_aload_n (q := 80) dX12_noneBy_79 2 rfl rfl ?_
        refine wp_iload (q := 82) dX12_noneBy_80 0 rfl rfl ?_
        refine wp_cvx (q := 85) (sp_mbehind (d := 0) (show M2 204 2 = nI n by rw [hf 204 (by decide)]; exact hn) h8 hs) zm_X12_behind zl_RX12_453 dX12_noneBy_82 rfl (by omega) (Nat.le_of_ble_eq_true rfl) zsh_177 rfl rfl ?_
        refine wp_iald (q := 86) _ dX12_noneBy_85 zsh_217 rfl (by omega) (by decide) rfl ?_
        rw [hM _ hbm]
        refine wp_iconst (q := 87) dX12_noneBy_86 zq_iconst_1 rfl ?_
        refine wp_icmp_eqN (tgt := 93) (q := 90) dX12_noneBy_87 (by decide) rfl (by omega) (by omega) (fun c' => ?_) (fun c' => ?_)
        · skip
          refine wp_iincN (q := 96) (loc' := [(4, _), (3, _), (0, _)]) (n := 1) dX12_noneBy_93 rfl 0 rfl (by decide) rfl rfl ?_
          refine wp_goto (tgt := 56) dX12_noneBy_96 (by decide) ?_
          rw [if_neg (by unfold znq; rw [c', decide_eq_false (by decide : ¬ 1 ≠ 1), Bool.and_false]; decide), Nat.add_zero] at ih1
          refine WP.sub (loc' := [(4, _), (3, _), (0, _)]) [0, 1, 2] rfl ?_
          exact ih1
        · skip
          refine wp_iincN (q := 93) (loc' := [(3, _), (4, _), (0, _)]) (n := 1) dX12_noneBy_90 rfl 1 rfl (by decide) rfl rfl ?_
          refine wp_iincN (q := 96) (loc' := [(4, _), (3, _), (0, _)]) (n := 1) dX12_noneBy_93 rfl 1 rfl (by decide) rfl rfl ?_
          refine wp_goto (tgt := 56) dX12_noneBy_96 (by decide) ?_
          rw [if_pos (by unfold znq; rw [decide_eq_true c, decide_eq_true c']; rfl)] at ih1
          refine WP.sub (loc' := [(4, _), (3, _), (0, _)]) [0, 1, 2] rfl ?_
          exact ih1
  have loop : ∀ q c (M2 : zMI), c + q = n → zpo tb v n num c = true → (∀ i, i < c → M2 217 i = nI (zod num i)) → (∀ x, x ≠ 217 → M2 x = M x) → WP w YX12_noneBy (d + 2, SS, 0, 0) G (some (zXp (fun v0 M' L' R' => v0 = some (.int (zdn (zno tb v n num))) ∧ L = L' ∧ R' = zRf t ∧ ∀ x, x ≠ 217 → M' x = M x))) 4 [(3, .int (nI c)), (2, .int (nI (num / 3 ^ c))), (0, .ref 177), (1, .int (nI num))] [] SS M2 L (zRf t) := by
    intro q
    induction q with
    | zero =>
      intro c M2 hq hp hM hf
      rw [show c = n by omega] at hp hM ⊢
      refine wp_iload_n (q := 5) dX12_noneBy_4 0 rfl rfl ?_
      refine wp_aload_n (q := 6) dX12_noneBy_5 2 rfl rfl ?_
      refine wp_cvx (q := 9) (sp_mcm (d := 0) (show M2 204 2 = nI n by rw [hf 204 (by decide)]; exact hn) h8) zm_X12_crackerMany zl_RX12_463 dX12_noneBy_6 rfl (by omega) (Nat.le_of_ble_eq_true rfl) zsh_177 rfl rfl ?_
      rw [if_neg (by omega)]
      refine wp_icmp_geN (tgt := 51) (q := 12) dX12_noneBy_9 (by decide) rfl (by omega) (by omega) (fun _ => ?_) (fun hn => absurd hn (by first | omega | exact fun h => h | exact fun h => h trivial))
      refine wp_iconst (q := 52) dX12_noneBy_51 zq_iconst_0 rfl ?_
      refine wp_istore_n (q := 53) (loc' := [(3, _), (2, _), (0, _), (1, _)]) dX12_noneBy_52 rfl (by decide) rfl rfl ?_
      refine wp_iconst (q := 54) dX12_noneBy_53 zq_iconst_0 rfl ?_
      refine wp_istore (q := 56) (loc' := [(4, _), (3, _), (2, _), (0, _), (1, _)]) dX12_noneBy_54 (by decide) rfl rfl ?_
      refine WP.sub (loc' := [(4, _), (3, _), (0, _)]) [0, 1, 3] rfl ?_
      exact loop2 n 0 M2 hp (Nat.zero_add _) hM hf
    | succ q ih =>
      intro c M2 hq hp hM hf
      have hc : c < n := by omega
      have h1 := hdv c
      have o1 := zod_lt num c
      have hP1 := hPle c (zod num c)
      refine wp_iload_n (q := 5) dX12_noneBy_4 0 rfl rfl ?_
      refine wp_aload_n (q := 6) dX12_noneBy_5 2 rfl rfl ?_
      refine wp_cvx (q := 9) (sp_mcm (d := 0) (show M2 204 2 = nI n by rw [hf 204 (by decide)]; exact hn) h8) zm_X12_crackerMany zl_RX12_463 dX12_noneBy_6 rfl (by omega) (Nat.le_of_ble_eq_true rfl) zsh_177 rfl rfl ?_
      rw [if_neg (by omega)]
      refine wp_icmp_geN (tgt := 51) (q := 12) dX12_noneBy_9 (by decide) rfl (by omega) (by omega) (fun hn => absurd hn (by first | omega | exact fun h => h | exact fun h => h trivial)) (fun _ => ?_)
      refine wp_aload_n (q := 13) dX12_noneBy_12 2 rfl rfl ?_
      refine wp_getR (q := 16) dX12_noneBy_13 zf_RX12_133 rfl zsh_177 (zr_177_54 _) rfl ?_
      refine wp_iload_n (q := 17) dX12_noneBy_16 0 rfl rfl ?_
      refine wp_iload_n (q := 18) dX12_noneBy_17 1 rfl rfl ?_
      refine wp_iconst (q := 19) dX12_noneBy_18 zq_iconst_3 rfl ?_
      refine wp_iremN (q := 20) dX12_noneBy_19 (by omega) (by omega) (by omega) rfl ?_
      rw [show num / 3 ^ c % 3 = zod num c from rfl]
      refine wp_iast (q := 21) _ dX12_noneBy_20 zsh_217 rfl (by omega) (by decide) rfl ?_
      refine wp_iload_n (q := 22) dX12_noneBy_21 1 rfl rfl ?_
      refine wp_iconst (q := 23) dX12_noneBy_22 zq_iconst_3 rfl ?_
      refine wp_idivN (q := 24) dX12_noneBy_23 (by omega) (by omega) (by omega) rfl ?_
      refine wp_istore_n (q := 25) (loc' := [(2, _), (3, _), (0, _), (1, _)]) dX12_noneBy_24 rfl (by decide) rfl rfl ?_
      refine wp_aload_n (q := 26) dX12_noneBy_25 2 rfl rfl ?_
      refine wp_getR (q := 29) dX12_noneBy_26 zf_RX12_136 rfl zsh_177 (zr_177_55 _) rfl ?_
      refine wp_iconst (q := 30) dX12_noneBy_29 zq_iconst_3 rfl ?_
      refine wp_iload_n (q := 31) dX12_noneBy_30 1 rfl rfl ?_
      refine wp_imulN (q := 32) dX12_noneBy_31 rfl ?_
      refine wp_aload_n (q := 33) dX12_noneBy_32 2 rfl rfl ?_
      refine wp_getR (q := 36) dX12_noneBy_33 zf_RX12_133 rfl zsh_177 (zr_177_54 _) rfl ?_
      refine wp_iload_n (q := 37) dX12_noneBy_36 1 rfl rfl ?_
      refine wp_iald (q := 38) _ dX12_noneBy_37 zsh_217 rfl (by omega) (by decide) rfl ?_
      rw [zu_s]
      refine wp_iaddN (q := 39) dX12_noneBy_38 rfl ?_
      refine wp_iald (q := 40) _ dX12_noneBy_39 zsh_218 rfl (by omega) (by decide) rfl ?_
      rw [zu_ne (by decide), hf 218 (by decide), hP c _ hc o1]
      refine wp_if_neN (tgt := 45) (q := 43) dX12_noneBy_40 (by decide) rfl (by omega) (fun e => ?_) (fun e => ?_)
      · skip
        refine wp_iincN (q := 48) (loc' := [(3, _), (2, _), (0, _), (1, _)]) (n := 1) dX12_noneBy_45 rfl 1 rfl (by decide) rfl rfl ?_
        refine wp_goto (tgt := 4) dX12_noneBy_48 (by decide) ?_
        rw [Nat.div_div_eq_div_mul, ← Nat.pow_succ]
        refine WP.sub (loc' := [(3, _), (2, _), (0, _), (1, _)]) [0, 1, 2, 3] rfl ?_
        refine ih (c + 1) _ (by omega) ?_ (fun i hi => ?_) (fun x hx => by rw [zu_ne hx]; exact hf x hx)
        · show (zpo tb v n num c && decide _) = true
          rw [hp, Bool.true_and, decide_eq_true_eq]
          exact e
        · by_cases e2 : i = c
          · rw [e2, zu_s]
          · rw [zu_k e2]
            exact hM i (by omega)
      · skip
        refine wp_iconst (q := 44) dX12_noneBy_43 zq_iconst_m1 rfl ?_
        refine wp_ireturn dX12_noneBy_44 rfl ⟨rfl, ⟨?_, rfl, rfl, fun x hx => by rw [zu_ne hx]; exact hf x hx⟩⟩ rfl rfl
        unfold zno
        have hf1 : zpo tb v n num (c + 1) = false := by
          show (zpo tb v n num c && decide _) = false
          rw [hp, Bool.true_and, decide_eq_false_iff_not]
          exact fun k => k e
        have hf2 := zpo_f hf1 q
        rw [show c + 1 + q = n by omega] at hf2
        rw [hf2, if_neg (by decide)]
        rfl
  refine wp_iload_n (q := 1) dX12_noneBy_0 1 rfl rfl ?_
  refine wp_istore_n (q := 2) (loc' := [(2, _), (0, _), (1, _)]) dX12_noneBy_1 rfl (by decide) rfl rfl ?_
  refine wp_iconst (q := 3) dX12_noneBy_2 zq_iconst_0 rfl ?_
  refine wp_istore_n (q := 4) (loc' := [(3, _), (2, _), (0, _), (1, _)]) dX12_noneBy_3 rfl (by decide) rfl rfl ?_
  refine WP.sub (loc' := [(3, _), (2, _), (0, _), (1, _)]) [0, 1, 2, 3] rfl ?_
  have := loop n 0 M (Nat.zero_add _) rfl (fun i hi => absurd hi (Nat.not_lt_zero _)) (fun x _ => rfl)
  rw [Nat.pow_zero, Nat.div_one] at this
  exact this
theorem zYf_t {M M' M'' : zMI} {L L' L'' : zML} (h : zYf M M' L L') (h' : zYf M' M'' L' L'') : zYf M M'' L L'' := fun x hx => ⟨by rw [(h' x hx).1, (h x hx).1], by rw [(h' x hx).2, (h x hx).2]⟩
-- a cell of the reference that holds nothing over
def zSp (x : Nat) : Prop := x = 212 ∨ x = 213 ∨ x = 214 ∨ (216 ≤ x ∧ x ≤ 225) ∨ (245 ≤ x ∧ x ≤ 247)
theorem zMo_s {M M' : zMI} {L L' : zML} {n : Nat} {g : zGd} {v : Nat → Nat} {hs : List (Nat → Nat)} {m : zMs} (h : zMo M L n g v hs m) (e : ∀ x, ¬ zSp x → M' x = M x) (e2 : ∀ x, x ≤ 205 → L' x = L x) : zMo M' L' n g v hs m :=
  zMo_fr h (fun x hx => e x (by unfold zKp at hx; unfold zSp; omega)) (fun k _ => by rw [e 177 (by unfold zSp; omega)]) (e2 205 (by decide)) (by rw [e2 177 (by decide)])
theorem zYf_s {M M' : zMI} {L L' : zML} (e : ∀ x, ¬ zSp x → M' x = M x) (e2 : ∀ x, x ≤ 205 → L' x = L x) : zYf M M' L L' := fun x hx => ⟨e x (by unfold zSp; omega), e2 x (by omega)⟩
theorem zno_le (tb : zTb) (v : Nat → Nat) (n num : Nat) : zno tb v n num ≤ n + 1 := by
  unfold zno
  split
  · exact Nat.add_le_add_right nC_le 1
  · exact Nat.zero_le _
set_option maxHeartbeats 4000000 in
set_option maxRecDepth 100000 in
theorem sp_mmost {d t n : Nat} {M : zMI} {L : zML} {g : zGd} {v : Nat → Nat} {hs : List (Nat → Nat)} {m : zMs} (h : zMo M L n g v hs m) (h2 : 2 ≤ n) : Sy yX12_most YX12_most (d + 7) [.ref 177] M L (zRf t) (zMn M L t n g v hs m (.int (nI (zmo g.2.2.2.2.2 v n (2 ^ n))))) := by
  refine Sp.of (by decide +kernel) rfl (fun h => by first | exact h | cases h) (Nat.le_of_ble_eq_true rfl) ?_
  intro w G
  have hn := h.1.1
  have h8 := h.1.2.1.1.1
  have h38 : 3 ^ 8 = 6561 := by decide
  have h3 : ∀ i, i ≤ n → 3 ^ i ≤ 6561 := fun i hi => by rw [← h38]; exact Nat.pow_le_pow_right (by decide) (by omega)
  obtain ⟨tb, htb⟩ : ∃ tb, g.2.2.2.2.2 = tb := ⟨_, rfl⟩
  have hres := zno_mo (tb := tb) (v := v) h2 h8
  have hz1 : ∀ i, zno tb v n i ≤ 9 := fun i => Nat.le_trans (zno_le tb v n i) (by omega)
  have hz2 : ∀ i, zmx (zno tb v n) i ≤ 9 := fun i => zmx_le i (fun j _ => hz1 j)
  have h3n := h3 n (Nat.le_refl _)
  have loopB : ∀ q i (M2 : zMI) (L2 : zML), i + q = 3 ^ n → zMo M2 L2 n g v hs m → zYf M M2 L L2 → (∀ c o, c < n → o < 3 → M2 218 (3 * c + o) = nI (zPo tb v n c o)) → WP w YX12_most (d + 7, SS, 0, 0) G (some (zXp (zMn M L t n g v hs m (.int (nI (zmo g.2.2.2.2.2 v n (2 ^ n))))))) 80 [(3, .int (nI i)), (2, .int (zdn (zmx (zno tb v n) i))), (1, .int (nI (3 ^ n))), (0, .ref 177)] [] SS M2 L2 (zRf t) := by
    intro q
    induction q with
    | zero =>
      intro i M2 L2 hi hM hY hP
      rw [show i = 3 ^ n by omega, hres]
      refine wp_iload_n (q := 81) dX12_most_80 0 rfl rfl ?_
      refine wp_iload_n (q := 82) dX12_most_81 2 rfl rfl ?_
      refine wp_icmp_geN (tgt := 106) (q := 85) dX12_most_82 (by decide) rfl (by omega) (by omega) (fun _ => ?_) (fun hn => absurd hn (by first | omega | exact fun h => h | exact fun h => h trivial))
      refine wp_iload_n (q := 107) dX12_most_106 1 rfl rfl ?_
      refine wp_ireturn dX12_most_107 rfl ⟨rfl, ⟨?_, rfl, hM, hY⟩⟩ rfl rfl
      rw [htb]
      unfold zdn
      rw [if_neg (by omega), Nat.add_sub_cancel]
    | succ q ih =>
      intro i M2 L2 hi hM hY hP
      have k1 := hz1 i
      have k2 := hz2 i
      have ih1 := fun M3 L3 => ih (i + 1) M3 L3 (by omega)
      rw [zmx] at ih1
      refine wp_iload_n (q := 81) dX12_most_80 0 rfl rfl ?_
      refine wp_iload_n (q := 82) dX12_most_81 2 rfl rfl ?_
      refine wp_icmp_geN (tgt := 106) (q := 85) dX12_most_82 (by decide) rfl (by omega) (by omega) (fun hn => absurd hn (by first | omega | exact fun h => h | exact fun h => h trivial)) (fun _ => ?_)
      refine wp_aload_n (q := 86) dX12_most_85 3 rfl rfl ?_
      refine wp_iload_n (q := 87) dX12_most_86 0 rfl rfl ?_
      refine wp_cvy (q := 90) (sp_mnoneBy (d := 0) hM.1.1 h2 h8 hP (by omega)) zm_X12_noneBy zl_RX12_493 dX12_most_87 rfl (by omega) (Nat.le_of_ble_eq_true rfl) zsh_177 rfl rfl ?_
      rintro _ M3 L3 _ ⟨rfl, rfl, rfl, f3⟩
      have hM3 := zMo_s (L' := L2) hM (fun x hx => f3 x (by unfold zSp at hx; omega)) (fun x _ => rfl)
      have hY3 := zYf_t hY (zYf_s (L' := L2) (fun x hx => f3 x (by unfold zSp at hx; omega)) (fun x _ => rfl))
      have hP3 : ∀ c o, c < n → o < 3 → M3 218 (3 * c + o) = nI (zPo tb v n c o) := fun c o hc ho => by rw [f3 218 (by decide)]; exact hP c o hc ho
      refine wp_iload_n (q := 91) dX12_most_90 1 rfl rfl ?_
      refine wp_icmp_le (tgt := 100) (q := 94) dX12_most_91 (by decide) rfl (fun c => ?_) (fun c => ?_)
      · skip
        have c2 := (zdn_le (by omega) (by omega)).mp c
        rw [if_neg (by omega)] at ih1
        refine wp_iincN (q := 103) (loc' := [(3, _), (2, _), (1, _), (0, _)]) (n := 1) dX12_most_100 rfl 0 rfl (by decide) rfl rfl ?_
        refine wp_goto (tgt := 80) dX12_most_103 (by decide) ?_
        refine WP.sub (loc' := [(3, _), (2, _), (1, _), (0, _)]) [0, 1, 2, 3] rfl ?_
        exact ih1 M3 _ hM3 hY3 hP3
      · skip
        have c2 : ¬ zno tb v n i ≤ zmx (zno tb v n) i := fun e => c ((zdn_le (by omega) (by omega)).mpr e)
        rw [if_pos (by omega)] at ih1
        refine wp_aload_n (q := 95) dX12_most_94 3 rfl rfl ?_
        refine wp_iload_n (q := 96) dX12_most_95 0 rfl rfl ?_
        refine wp_cvy (q := 99) (sp_mnoneBy (d := 0) hM3.1.1 h2 h8 hP3 (by omega)) zm_X12_noneBy zl_RX12_493 dX12_most_96 rfl (by omega) (Nat.le_of_ble_eq_true rfl) zsh_177 rfl rfl ?_
        rintro _ M4 L4 _ ⟨rfl, rfl, rfl, f4⟩
        have hM4 := zMo_s (L' := L2) hM3 (fun x hx => f4 x (by unfold zSp at hx; omega)) (fun x _ => rfl)
        have hY4 := zYf_t hY3 (zYf_s (L' := L2) (fun x hx => f4 x (by unfold zSp at hx; omega)) (fun x _ => rfl))
        have hP4 : ∀ c o, c < n → o < 3 → M4 218 (3 * c + o) = nI (zPo tb v n c o) := fun c o hc ho => by rw [f4 218 (by decide)]; exact hP3 c o hc ho
        refine wp_istore_n (q := 100) (loc' := [(2, _), (3, _), (1, _), (0, _)]) dX12_most_99 rfl (by decide) rfl rfl ?_
        refine wp_iincN (q := 103) (loc' := [(3, _), (2, _), (1, _), (0, _)]) (n := 1) dX12_most_100 rfl 1 rfl (by decide) rfl rfl ?_
        refine wp_goto (tgt := 80) dX12_most_103 (by decide) ?_
        refine WP.sub (loc' := [(3, _), (2, _), (1, _), (0, _)]) [0, 1, 2, 3] rfl ?_
        exact ih1 M4 _ hM4 hY4 hP4
  have loopA : ∀ q i (M2 : zMI) (L2 : zML), i + q = n → zMo M2 L2 n g v hs m → zYf M M2 L L2 → (∀ c o, c < i → o < 3 → M2 218 (3 * c + o) = nI (zPo tb v n c o)) → WP w YX12_most (d + 7, SS, 0, 0) G (some (zXp (zMn M L t n g v hs m (.int (nI (zmo g.2.2.2.2.2 v n (2 ^ n))))))) 13 [(2, .int (nI i)), (1, .int (nI (3 ^ i))), (0, .ref 177)] [] SS M2 L2 (zRf t) := by
    intro q
    induction q with
    | zero =>
      intro i M2 L2 hi hM hY hP
      rw [show i = n by omega] at hP ⊢
      refine wp_iload_n (q := 14) dX12_most_13 0 rfl rfl ?_
      refine wp_aload_n (q := 15) dX12_most_14 2 rfl rfl ?_
      refine wp_cvx (q := 18) (sp_mcm (d := 0) hM.1.1 h8) zm_X12_crackerMany zl_RX12_463 dX12_most_15 rfl (by omega) (Nat.le_of_ble_eq_true rfl) zsh_177 rfl rfl ?_
      rw [if_neg (by omega)]
      refine wp_icmp_geN (tgt := 76) (q := 21) dX12_most_18 (by decide) rfl (by omega) (by omega) (fun _ => ?_) (fun hn => absurd hn (by first | omega | exact fun h => h | exact fun h => h trivial))
      refine wp_iconst (q := 77) dX12_most_76 zq_iconst_m1 rfl ?_
      refine wp_istore_n (q := 78) (loc' := [(2, _), (1, _), (0, _)]) dX12_most_77 rfl (by decide) rfl rfl ?_
      refine wp_iconst (q := 79) dX12_most_78 zq_iconst_0 rfl ?_
      refine wp_istore_n (q := 80) (loc' := [(3, _), (2, _), (1, _), (0, _)]) dX12_most_79 rfl (by decide) rfl rfl ?_
      refine WP.sub (loc' := [(3, _), (2, _), (1, _), (0, _)]) [0, 1, 2, 3] rfl ?_
      exact loopB (3 ^ n) 0 M2 L2 (Nat.zero_add _) hM hY hP
    | succ q ih =>
      intro i M2 L2 hi hM hY hP
      have hin : i < n := by omega
      have k3 := h3 i (by omega)
      refine wp_iload_n (q := 14) dX12_most_13 0 rfl rfl ?_
      refine wp_aload_n (q := 15) dX12_most_14 2 rfl rfl ?_
      refine wp_cvx (q := 18) (sp_mcm (d := 0) hM.1.1 h8) zm_X12_crackerMany zl_RX12_463 dX12_most_15 rfl (by omega) (Nat.le_of_ble_eq_true rfl) zsh_177 rfl rfl ?_
      rw [if_neg (by omega)]
      refine wp_icmp_geN (tgt := 76) (q := 21) dX12_most_18 (by decide) rfl (by omega) (by omega) (fun hn => absurd hn (by first | omega | exact fun h => h | exact fun h => h trivial)) (fun _ => ?_)
      refine wp_iload_n (q := 22) dX12_most_21 1 rfl rfl ?_
      refine wp_iconst (q := 23) dX12_most_22 zq_iconst_3 rfl ?_
      refine wp_imulN (q := 24) dX12_most_23 rfl ?_
      refine wp_istore_n (q := 25) (loc' := [(1, _), (2, _), (0, _)]) dX12_most_24 rfl (by decide) rfl rfl ?_
      refine wp_aload_n (q := 26) dX12_most_25 2 rfl rfl ?_
      refine wp_getR (q := 29) dX12_most_26 zf_RX12_136 rfl zsh_177 (zr_177_55 _) rfl ?_
      refine wp_iconst (q := 30) dX12_most_29 zq_iconst_3 rfl ?_
      refine wp_iload_n (q := 31) dX12_most_30 1 rfl rfl ?_
      refine wp_imulN (q := 32) dX12_most_31 rfl ?_
      refine wp_aload_n (q := 33) dX12_most_32 2 rfl rfl ?_
      refine wp_iload_n (q := 34) dX12_most_33 1 rfl rfl ?_
      refine wp_iconst (q := 35) dX12_most_34 zq_iconst_0 rfl ?_
      refine wp_cvy (q := 38) (sp_moddsAt (d := 0) (hd := 0) hM.1 hin (by decide) (rfl : _ = zoR g.2.2.2.2.2 v i ((i + 1) % n))) zm_X12_oddsAt zl_RX12_448 dX12_most_35 rfl (by omega) (Nat.le_of_ble_eq_true rfl) zsh_177 rfl rfl ?_
      rintro _ M3 L3 _ ⟨rfl, rfl, t3⟩
      have hM3 := zMo_o hM t3
      have hY3 := zYf_t hY (zYf_o t3)
      have e3 := t3.1 218 (by decide) (by decide)
      refine wp_iast (q := 39) _ dX12_most_38 zsh_218 rfl (by omega) (by decide) rfl ?_
      obtain ⟨M4, hM4⟩ : ∃ M4, zu M3 218 (3 * i) (nI (zoR g.2.2.2.2.2 v i ((i + 1) % n))) = M4 := ⟨_, rfl⟩
      rw [hM4]
      have s4 : zMo M4 L3 n g v hs m := by rw [← hM4]; exact zMo_s hM3 (fun x hx => zu_ne (by unfold zSp at hx; omega)) (fun x _ => rfl)
      have y4 : zYf M M4 L L3 := by rw [← hM4]; exact zYf_t hY3 (zYf_s (fun x hx => zu_ne (by unfold zSp at hx; omega)) (fun x _ => rfl))
      refine wp_aload_n (q := 40) dX12_most_39 2 rfl rfl ?_
      refine wp_getR (q := 43) dX12_most_40 zf_RX12_136 rfl zsh_177 (zr_177_55 _) rfl ?_
      refine wp_iconst (q := 44) dX12_most_43 zq_iconst_3 rfl ?_
      refine wp_iload_n (q := 45) dX12_most_44 1 rfl rfl ?_
      refine wp_imulN (q := 46) dX12_most_45 rfl ?_
      refine wp_iconst (q := 47) dX12_most_46 zq_iconst_1 rfl ?_
      refine wp_iaddN (q := 48) dX12_most_47 rfl ?_
      refine wp_aload_n (q := 49) dX12_most_48 2 rfl rfl ?_
      refine wp_iload_n (q := 50) dX12_most_49 1 rfl rfl ?_
      refine wp_iconst (q := 51) dX12_most_50 zq_iconst_1 rfl ?_
      refine wp_cvy (q := 54) (sp_moddsAt (d := 0) (hd := 1) s4.1 hin (by decide) (rfl : _ = zoL g.2.2.2.2.2 v i ((i + 1) % n))) zm_X12_oddsAt zl_RX12_448 dX12_most_51 rfl (by omega) (Nat.le_of_ble_eq_true rfl) zsh_177 rfl rfl ?_
      rintro _ M5 L5 _ ⟨rfl, rfl, t5⟩
      have e5 := t5.1 218 (by decide) (by decide)
      refine wp_iast (q := 55) _ dX12_most_54 zsh_218 rfl (by omega) (by decide) rfl ?_
      obtain ⟨M6, hM6⟩ : ∃ M6, zu M5 218 (3 * i + 1) (nI (zoL g.2.2.2.2.2 v i ((i + 1) % n))) = M6 := ⟨_, rfl⟩
      rw [hM6]
      have s6 : zMo M6 L5 n g v hs m := by rw [← hM6]; exact zMo_s (zMo_o s4 t5) (fun x hx => zu_ne (by unfold zSp at hx; omega)) (fun x _ => rfl)
      have y6 : zYf M M6 L L5 := by rw [← hM6]; exact zYf_t (zYf_t y4 (zYf_o t5)) (zYf_s (fun x hx => zu_ne (by unfold zSp at hx; omega)) (fun x _ => rfl))
      refine wp_aload_n (q := 56) dX12_most_55 2 rfl rfl ?_
      refine wp_getR (q := 59) dX12_most_56 zf_RX12_136 rfl zsh_177 (zr_177_55 _) rfl ?_
      refine wp_iconst (q := 60) dX12_most_59 zq_iconst_3 rfl ?_
      refine wp_iload_n (q := 61) dX12_most_60 1 rfl rfl ?_
      refine wp_imulN (q := 62) dX12_most_61 rfl ?_
      refine wp_iconst (q := 63) dX12_most_62 zq_iconst_2 rfl ?_
      refine wp_iaddN (q := 64) dX12_most_63 rfl ?_
      refine wp_aload_n (q := 65) dX12_most_64 2 rfl rfl ?_
      refine wp_iload_n (q := 66) dX12_most_65 1 rfl rfl ?_
      refine wp_cvy (q := 69) (sp_mnobodyAt (d := 0) s6.1 hin (rfl : _ = zoN g.2.2.2.2.2 v i ((i + 1) % n))) zm_X12_nobodyAt zl_RX12_480 dX12_most_66 rfl (by omega) (Nat.le_of_ble_eq_true rfl) zsh_177 rfl rfl ?_
      rintro _ M7 L7 _ ⟨rfl, rfl, t7⟩
      have e7 := t7.1 218 (by decide) (by decide)
      refine wp_iast (q := 70) _ dX12_most_69 zsh_218 rfl (by omega) (by decide) rfl ?_
      obtain ⟨M8, hM8⟩ : ∃ M8, zu M7 218 (3 * i + 2) (nI (zoN g.2.2.2.2.2 v i ((i + 1) % n))) = M8 := ⟨_, rfl⟩
      rw [hM8]
      have s8 : zMo M8 L7 n g v hs m := by rw [← hM8]; exact zMo_s (zMo_o s6 t7) (fun x hx => zu_ne (by unfold zSp at hx; omega)) (fun x _ => rfl)
      have y8 : zYf M M8 L L7 := by rw [← hM8]; exact zYf_t (zYf_t y6 (zYf_o t7)) (zYf_s (fun x hx => zu_ne (by unfold zSp at hx; omega)) (fun x _ => rfl))
      refine wp_iincN (q := 73) (loc' := [(2, _), (1, _), (0, _)]) (n := 1) dX12_most_70 rfl 1 rfl (by decide) rfl rfl ?_
      refine wp_goto (tgt := 13) dX12_most_73 (by decide) ?_
      rw [← Nat.pow_succ]
      refine WP.sub (loc' := [(2, _), (1, _), (0, _)]) [0, 1, 2] rfl ?_
      refine ih (i + 1) M8 L7 (by omega) s8 y8 (fun c o hc ho => ?_)
      rw [← hM8]
      by_cases c1 : 3 * c + o = 3 * i + 2
      · rw [c1, zu_s, show c = i by omega, show o = 2 by omega, ← htb]
        rfl
      rw [zu_k c1, e7, ← hM6]
      by_cases c2 : 3 * c + o = 3 * i + 1
      · rw [c2, zu_s, show c = i by omega, show o = 1 by omega, ← htb]
        rfl
      rw [zu_k c2, e5, ← hM4]
      by_cases c3 : 3 * c + o = 3 * i
      · rw [c3, zu_s, show c = i by omega, show o = 0 by omega, ← htb]
        rfl
      rw [zu_k c3, e3]
      exact hP c o (by omega) ho
  refine wp_aload_n (q := 1) dX12_most_0 0 rfl rfl ?_
  refine wp_cvx (q := 4) (sp_mcm (d := 0) hn h8) zm_X12_crackerMany zl_RX12_463 dX12_most_1 rfl (by omega) (Nat.le_of_ble_eq_true rfl) zsh_177 rfl rfl ?_
  rw [if_neg (by omega)]
  refine wp_if_neN (tgt := 9) (q := 7) dX12_most_4 (by decide) rfl (by omega) (fun _ => ?_) (fun hn => absurd hn (by first | omega | exact fun h => h | exact fun h => h trivial))
  refine wp_iconst (q := 10) dX12_most_9 zq_iconst_1 rfl ?_
  refine wp_istore_n (q := 11) (loc' := [(1, _), (0, _)]) dX12_most_10 rfl (by decide) rfl rfl ?_
  refine wp_iconst (q := 12) dX12_most_11 zq_iconst_0 rfl ?_
  refine wp_istore_n (q := 13) (loc' := [(2, _), (1, _), (0, _)]) dX12_most_12 rfl (by decide) rfl rfl ?_
  refine WP.sub (loc' := [(2, _), (1, _), (0, _)]) [0, 1, 2] rfl ?_
  exact loopA n 0 M L (Nat.zero_add _) h zYf_r (fun c o hc _ => absurd hc (Nat.not_lt_zero _))
set_option maxHeartbeats 4000000 in
set_option maxRecDepth 100000 in
theorem sp_mmostN {d t n : Nat} {M : zMI} {L : zML} {g : zGd} {v : Nat → Nat} {hs : List (Nat → Nat)} {m : zMs} (h : zMo M L n g v hs m) (h2 : n < 2) : Sy yX12_most YX12_most (d + 7) [.ref 177] M L (zRf t) (zMn M L t n g v hs m (.int (-1))) := by
  refine Sp.of (by decide +kernel) rfl (fun h => by first | exact h | cases h) (Nat.le_of_ble_eq_true rfl) ?_
  intro w G
  refine wp_aload_n (q := 1) dX12_most_0 0 rfl rfl ?_
  refine wp_cvx (q := 4) (sp_mcm (d := 0) h.1.1 h.1.2.1.1.1) zm_X12_crackerMany zl_RX12_463 dX12_most_1 rfl (by omega) (Nat.le_of_ble_eq_true rfl) zsh_177 rfl rfl ?_
  rw [if_pos h2]
  refine wp_if_neN (tgt := 9) (q := 7) dX12_most_4 (by decide) rfl (by omega) (fun hn => absurd hn (by first | omega | exact fun h => h | exact fun h => h trivial)) (fun _ => ?_)
  refine wp_iconst (q := 8) dX12_most_7 zq_iconst_m1 rfl ?_
  exact wp_ireturn dX12_most_8 rfl ⟨rfl, ⟨rfl, rfl, h, zYf_r⟩⟩ rfl rfl

