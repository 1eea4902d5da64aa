def zla (f : Nat) : Int32 := nI f - nI 8
theorem zla_s : ∀ f, f < 17 → zla f + Int32.ofInt 1 = zla (f + 1) := by decide +kernel
theorem zla_8 : ∀ f, f < 18 → (zla f ≤ nI 8 ↔ f ≤ 16) := by decide +kernel
theorem zla_e : ∀ f, f < 17 → ∀ i, i < 17 → (nI i - nI 8 = zla f ↔ i = f) := by decide +kernel
theorem zla_p : ∀ f, f < 17 → zla f + nI 8 = nI f := by decide +kernel
theorem zsz1 : ∀ i, i < 17 → 0 ≤ nI i - nI 8 → nI i - nI 8 = nI (zab i) := by decide +kernel
theorem zsz2 : ∀ i, i < 17 → ¬ 0 ≤ nI i - nI 8 → -(nI i - nI 8) = nI (zab i) := by decide +kernel
theorem zsub_lt1 {a b : Nat} (ha : a < 1000) (hb : b < 1000) : nI a - nI b < nI 1 ↔ a < b + 1 := by
  rw [nI_I a, nI_I b, iI_sub, Int32.lt_iff_toInt_lt, iI_t (by omega) (by omega), nI_toInt (by omega)]
  omega
def zwm (c : Nat → Nat) (h to : Nat) : Nat → Nat
  | 0 => 1000000
  | k + 1 => if c k < zwm c h to k - zab to ∧ to + 1 ≤ h + k then c k + zab to else zwm c h to k
def zwf (v : Nat → Nat) (f : Nat) : Nat → Nat → Nat
  | 0 => fun i => if i = f then 0 else 1000000
  | s + 1 => fun to => zwm (zwf v f s) (ht v s) to 17
theorem zwm_b {c : Nat → Nat} {h to : Nat} (ht : to < 17) : ∀ k, zab to ≤ zwm c h to k ∧ zwm c h to k ≤ 1000000 := by
  have h8 := zab_le ht
  intro k
  induction k with
  | zero => exact ⟨by rw [zwm]; omega, Nat.le_refl _⟩
  | succ k ih =>
    rw [zwm]
    split
    · rename_i e
      omega
    · exact ih
theorem zwm_i {c : Nat → Nat} {h to b : Nat} (ht : to < 17) (hb : b ≤ 1000000) : ∀ k, b ≤ zwm c h to k ↔ ∀ j, j < k → to + 1 ≤ h + j → b ≤ c j + zab to := by
  intro k
  induction k with
  | zero => exact ⟨fun _ j hj => absurd hj (Nat.not_lt_zero _), fun _ => hb⟩
  | succ k ih =>
    have h1 := zwm_b (c := c) (h := h) ht k
    rw [zwm]
    constructor
    · intro e j hj hv
      by_cases ek : j = k
      · subst ek
        split at e
        · exact e
        · rename_i c2
          have c3 : ¬ c j < zwm c h to j - zab to := fun e2 => c2 ⟨e2, hv⟩
          omega
      · refine ih.mp ?_ j (by omega) hv
        split at e
        · omega
        · exact e
    · intro e
      have e1 := ih.mpr (fun j hj hv => e j (by omega) hv)
      split
      · rename_i c2
        exact e k (by omega) c2.2
      · exact e1
theorem zmt_i {c : Nat → Nat} {b : Nat} (hb : b ≤ 1000000) : ∀ k, k ≤ 17 → (b ≤ zmt c k ↔ ∀ j, 17 - k ≤ j → j < 17 → b ≤ c j) := by
  intro k
  induction k with
  | zero => intro _; exact ⟨fun _ j h1 h2 => by omega, fun _ => hb⟩
  | succ k ih =>
    intro hk
    rw [zmt, Nat.le_min, ih (by omega)]
    constructor
    · rintro ⟨a, e⟩ j h1 h2
      by_cases ej : j = 16 - k
      · rw [ej]; exact e
      · exact a j (by omega) h2
    · intro a
      exact ⟨fun j h1 h2 => a j (by omega) h2, a (16 - k) (by omega) (by omega)⟩
theorem zwf_le {v : Nat → Nat} {f : Nat} : ∀ s i, i < 17 → zwf v f s i ≤ 1000000 := by
  intro s i hi
  cases s with
  | zero => show (if i = f then 0 else 1000000) ≤ _; split <;> omega
  | succ s => exact (zwm_b hi 17).2
theorem zwf_m {v : Nat → Nat} {f : Nat} : ∀ s i, i < 17 → zwf v f s i = min 1000000 (zgc v f s i) := by
  intro s
  induction s with
  | zero =>
    intro i _
    show (if i = f then 0 else 1000000) = min 1000000 (if i = f then 0 else 1000000)
    split <;> rfl
  | succ s ih =>
    intro i hi
    have h8 := zab_le hi
    have key : ∀ b, b ≤ 1000000 → (b ≤ zwm (zwf v f s) (ht v s) i 17 ↔ b ≤ zstp (zgc v f s) (ht v s) i) := by
      intro b hb
      rw [zwm_i hi hb]
      unfold zstp
      by_cases c : i + 1 - ht v s < 17
      · rw [if_pos c]
        have h1 : b ≤ zmt (zgc v f s) (17 - (i + 1 - ht v s)) + zab i ↔ b - zab i ≤ zmt (zgc v f s) (17 - (i + 1 - ht v s)) := by omega
        rw [h1, zmt_i (by omega) _ (by omega)]
        constructor
        · intro e j h1 h2
          have := e j h2 (by omega)
          rw [ih j h2] at this
          omega
        · intro e j h1 h2
          have := e j (by omega) h1
          rw [ih j h1]
          omega
      · rw [if_neg c]
        exact ⟨fun _ => hb, fun _ j h1 h2 => by omega⟩
    show zwm (zwf v f s) (ht v s) i 17 = min 1000000 (zstp (zgc v f s) (ht v s) i)
    have hb := (zwm_b (c := zwf v f s) (h := ht v s) hi 17).2
    refine Nat.le_antisymm (Nat.le_min.mpr ⟨hb, (key _ hb).mp (Nat.le_refl _)⟩) ((key _ (Nat.min_le_left _ _)).mpr (Nat.min_le_right _ _))
set_option maxHeartbeats 4000000 in
set_option maxRecDepth 100000 in
theorem sp_msize {d i : Nat} {M : zMI} {L : zML} {R : zMR} (hi : i < 17) : Sx yX12_size YX12_size (d) [.int (nI i - nI 8)] M L R (some (.int (nI (zab i)))) M L R := by
  refine Sp.of (by decide +kernel) rfl (fun h => by first | exact h | cases h) (Nat.le_of_ble_eq_true rfl) ?_
  intro w G
  refine wp_iload_n (q := 1) dX12_size_0 0 rfl rfl ?_
  refine wp_if_ge (tgt := 9) (q := 4) dX12_size_1 (by decide) rfl (fun c => ?_) (fun c => ?_)
  · skip
    rw [← zsz1 i hi c]
    refine wp_iload_n (q := 10) dX12_size_9 0 rfl rfl ?_
    exact wp_ireturn dX12_size_10 rfl ⟨rfl, rfl, rfl, rfl, rfl⟩ rfl rfl
  · skip
    rw [← zsz2 i hi c]
    refine wp_iload_n (q := 5) dX12_size_4 0 rfl rfl ?_
    refine wp_ineg (q := 6) dX12_size_5 rfl ?_
    refine wp_goto (tgt := 10) dX12_size_6 (by decide) ?_
    exact wp_ireturn dX12_size_10 rfl ⟨rfl, rfl, rfl, rfl, rfl⟩ rfl rfl
set_option maxHeartbeats 4000000 in
set_option maxRecDepth 100000 in
theorem sp_mgiftsBy {d t n f : Nat} {M : zMI} {L : zML} {v : Nat → Nat} (hn : M 204 2 = nI n) (h : zNw M n v) (hf : f < 17) : Sy yX12_giftsBy YX12_giftsBy (d + 1) [.ref 177, .int (zla f)] M L (zRf t) (fun v0 M' L' R' => v0 = some (.int (nI (zwf v f n f))) ∧ L = L' ∧ R' = zRf t ∧ ∀ x, x ≠ 223 → x ≠ 224 → M' x = M x) := by
  refine Sp.of (by decide +kernel) rfl (fun h => by first | exact h | cases h) (Nat.le_of_ble_eq_true rfl) ?_
  intro w G
  have h8 := h.1.1
  have hgo : ∀ {M2 : zMI}, (∀ x, x ≠ 223 → x ≠ 224 → M2 x = M x) → M2 204 2 = nI n ∧ zNw M2 n v := fun e => ⟨by rw [e 204 (by decide) (by decide)]; exact hn, zNw_fr h (e 215 (by decide) (by decide))⟩
  have copy : ∀ s, s < n → (∀ M3 : zMI, (∀ i, i < 17 → M3 223 i = nI (zwf v f (s + 1) i)) → (∀ x, x ≠ 223 → x ≠ 224 → M3 x = M x) → WP w YX12_giftsBy (d + 1, SS, 0, 0) G (some (zXp (fun v0 M' L' R' => v0 = some (.int (nI (zwf v f n f))) ∧ L = L' ∧ R' = zRf t ∧ ∀ x, x ≠ 223 → x ≠ 224 → M' x = M x))) 37 [(2, .int (nI (s + 1))), (0, .ref 177), (1, .int (zla f))] [] SS M3 L (zRf t)) → ∀ q k (M2 : zMI), k + q = 17 → (∀ i, i < 17 → M2 224 i = nI (zwf v f (s + 1) i)) → (∀ i, i < k → M2 223 i = nI (zwf v f (s + 1) i)) → (∀ x, x ≠ 223 → x ≠ 224 → M2 x = M x) → WP w YX12_giftsBy (d + 1, SS, 0, 0) G (some (zXp (fun v0 M' L' R' => v0 = some (.int (nI (zwf v f n f))) ∧ L = L' ∧ R' = zRf t ∧ ∀ x, x ≠ 223 → x ≠ 224 → M' x = M x))) 145 [(3, .int (nI k)), (2, .int (nI s)), (0, .ref 177), (1, .int (zla f))] [] SS M2 L (zRf t) := by
    intro s hs cont q
    induction q with
    | zero =>
      intro k M2 hk h1 h2 h3
      rw [show k = 17 by omega] at h2 ⊢
      refine wp_iload_n (q := 146) dX12_giftsBy_145 0 rfl rfl ?_
      refine wp_bipush (q := 148) dX12_giftsBy_146 zq_bipush_17 rfl ?_
      refine wp_icmp_geN (tgt := 169) (q := 151) dX12_giftsBy_148 (by decide) rfl (by omega) (by omega) (fun _ => ?_) (fun hn => absurd hn (by first | omega | exact fun h => h | exact fun h => h trivial))
      refine wp_iincN (q := 172) (loc' := [(2, _), (3, _), (0, _), (1, _)]) (n := 1) dX12_giftsBy_169 rfl 1 rfl (by decide) rfl rfl ?_
      refine wp_goto (tgt := 37) dX12_giftsBy_172 (by decide) ?_
      refine WP.sub (loc' := [(2, _), (0, _), (1, _)]) [0, 2, 3] rfl ?_
      exact cont M2 h2 h3
    | succ q ih =>
      intro k M2 hk h1 h2 h3
      refine wp_iload_n (q := 146) dX12_giftsBy_145 0 rfl rfl ?_
      refine wp_bipush (q := 148) dX12_giftsBy_146 zq_bipush_17 rfl ?_
      refine wp_icmp_geN (tgt := 169) (q := 151) dX12_giftsBy_148 (by decide) rfl (by omega) (by omega) (fun hn => absurd hn (by first | omega | exact fun h => h | exact fun h => h trivial)) (fun _ => ?_)
      refine wp_aload_n (q := 152) dX12_giftsBy_151 2 rfl rfl ?_
      refine wp_getR (q := 155) dX12_giftsBy_152 zf_RX12_151 rfl zsh_177 (zr_177_62 _) rfl ?_
      refine wp_iload_n (q := 156) dX12_giftsBy_155 0 rfl rfl ?_
      refine wp_aload_n (q := 157) dX12_giftsBy_156 2 rfl rfl ?_
      refine wp_getR (q := 160) dX12_giftsBy_157 zf_RX12_154 rfl zsh_177 (zr_177_63 _) rfl ?_
      refine wp_iload_n (q := 161) dX12_giftsBy_160 0 rfl rfl ?_
      refine wp_iald (q := 162) _ dX12_giftsBy_161 zsh_224 rfl (by omega) (by decide) rfl ?_
      rw [h1 k (by omega)]
      refine wp_iast (q := 163) _ dX12_giftsBy_162 zsh_223 rfl (by omega) (by decide) rfl ?_
      refine wp_iincN (q := 166) (loc' := [(3, _), (2, _), (0, _), (1, _)]) (n := 1) dX12_giftsBy_163 rfl 0 rfl (by decide) rfl rfl ?_
      refine wp_goto (tgt := 145) dX12_giftsBy_166 (by decide) ?_
      refine WP.sub (loc' := [(3, _), (2, _), (0, _), (1, _)]) [0, 1, 2, 3] rfl ?_
      refine ih (k + 1) _ (by omega) (fun i hi => by rw [zu_ne (by decide)]; exact h1 i hi) (fun i hi => ?_) (fun x x1 x2 => by rw [zu_ne x1]; exact h3 x x1 x2)
      by_cases e : i = k
      · rw [e, zu_s]
      · rw [zu_k e]
        exact h2 i (by omega)
  have inner : ∀ s to, s < n → to < 17 → ∀ q fr (M2 : zMI), fr + q = 17 → (∀ i, i < 17 → M2 223 i = nI (zwf v f s i)) → (∀ i, i < to → M2 224 i = nI (zwf v f (s + 1) i)) → M2 224 to = nI (zwm (zwf v f s) (ht v s) to fr) → (∀ x, x ≠ 223 → x ≠ 224 → M2 x = M x) → (∀ M3 : zMI, (∀ i, i < 17 → M3 223 i = nI (zwf v f s i)) → (∀ i, i < to + 1 → M3 224 i = nI (zwf v f (s + 1) i)) → (∀ x, x ≠ 223 → x ≠ 224 → M3 x = M x) → WP w YX12_giftsBy (d + 1, SS, 0, 0) G (some (zXp (fun v0 M' L' R' => v0 = some (.int (nI (zwf v f n f))) ∧ L = L' ∧ R' = zRf t ∧ ∀ x, x ≠ 223 → x ≠ 224 → M' x = M x))) 47 [(3, .int (nI (to + 1))), (2, .int (nI s)), (0, .ref 177), (1, .int (zla f))] [] SS M3 L (zRf t)) → WP w YX12_giftsBy (d + 1, SS, 0, 0) G (some (zXp (fun v0 M' L' R' => v0 = some (.int (nI (zwf v f n f))) ∧ L = L' ∧ R' = zRf t ∧ ∀ x, x ≠ 223 → x ≠ 224 → M' x = M x))) 65 [(4, .int (nI fr)), (3, .int (nI to)), (2, .int (nI s)), (0, .ref 177), (1, .int (zla f))] [] SS M2 L (zRf t) := by
    intro s to hs hto q
    induction q with
    | zero =>
      intro fr M2 hq h1 h2 h3 h4 cont
      rw [show fr = 17 by omega] at h3 ⊢
      refine wp_iload (q := 67) dX12_giftsBy_65 0 rfl rfl ?_
      refine wp_bipush (q := 69) dX12_giftsBy_67 zq_bipush_17 rfl ?_
      refine wp_icmp_geN (tgt := 137) (q := 72) dX12_giftsBy_69 (by decide) rfl (by omega) (by omega) (fun _ => ?_) (fun hn => absurd hn (by first | omega | exact fun h => h | exact fun h => h trivial))
      refine wp_iincN (q := 140) (loc' := [(3, _), (4, _), (2, _), (0, _), (1, _)]) (n := 1) dX12_giftsBy_137 rfl 1 rfl (by decide) rfl rfl ?_
      refine wp_goto (tgt := 47) dX12_giftsBy_140 (by decide) ?_
      refine WP.sub (loc' := [(3, _), (2, _), (0, _), (1, _)]) [0, 2, 3, 4] rfl ?_
      refine cont M2 h1 (fun i hi => ?_) h4
      by_cases e : i = to
      · rw [e]; exact h3
      · exact h2 i (by omega)
    | succ q ih =>
      intro fr M2 hq h1 h2 h3 h4 cont
      obtain ⟨c, hc⟩ : ∃ c, zwf v f s = c := ⟨_, rfl⟩
      have hfr : fr < 17 := by omega
      have hcl := zwf_le (v := v) (f := f) s fr hfr
      have hw := zwm_b (c := c) (h := ht v s) hto fr
      have ha := zab_le hto
      have hh := h.1.2.2.2.1 s hs
      have ihn := fun M3 => ih (fr + 1) M3 (by omega)
      rw [zwm] at ihn
      rw [hc] at h1 h3 hcl ihn cont
      obtain ⟨z, hz⟩ : ∃ z, zwm c (ht v s) to fr = z := ⟨_, rfl⟩
      rw [hz] at h3 hw ihn
      have e1 := h1 fr hfr
      have skp : ¬ (c fr < z - zab to ∧ to + 1 ≤ ht v s + fr) → WP w YX12_giftsBy (d + 1, SS, 0, 0) G (some (zXp (fun v0 M' L' R' => v0 = some (.int (nI (zwf v f n f))) ∧ L = L' ∧ R' = zRf t ∧ ∀ x, x ≠ 223 → x ≠ 224 → M' x = M x))) 131 [(4, .int (nI fr)), (3, .int (nI to)), (2, .int (nI s)), (0, .ref 177), (1, .int (zla f))] [] SS M2 L (zRf t) := by
        intro hno
        rw [if_neg hno] at ihn
        refine wp_iincN (q := 134) (loc' := [(4, _), (3, _), (2, _), (0, _), (1, _)]) (n := 1) dX12_giftsBy_131 rfl 0 rfl (by decide) rfl rfl ?_
        refine wp_goto (tgt := 65) dX12_giftsBy_134 (by decide) ?_
        refine WP.sub (loc' := [(4, _), (3, _), (2, _), (0, _), (1, _)]) [0, 1, 2, 3, 4] rfl ?_
        exact ihn M2 h1 h2 h3 h4 cont
      refine wp_iload (q := 67) dX12_giftsBy_65 0 rfl rfl ?_
      refine wp_bipush (q := 69) dX12_giftsBy_67 zq_bipush_17 rfl ?_
      refine wp_icmp_geN (tgt := 137) (q := 72) dX12_giftsBy_69 (by decide) rfl (by omega) (by omega) (fun hn => absurd hn (by first | omega | exact fun h => h | exact fun h => h trivial)) (fun _ => ?_)
      refine wp_aload_n (q := 73) dX12_giftsBy_72 3 rfl rfl ?_
      refine wp_getR (q := 76) dX12_giftsBy_73 zf_RX12_151 rfl zsh_177 (zr_177_62 _) rfl ?_
      refine wp_iload (q := 78) dX12_giftsBy_76 0 rfl rfl ?_
      refine wp_iald (q := 79) _ dX12_giftsBy_78 zsh_223 rfl (by omega) (by decide) rfl ?_
      rw [e1]
      refine wp_aload_n (q := 80) dX12_giftsBy_79 3 rfl rfl ?_
      refine wp_getR (q := 83) dX12_giftsBy_80 zf_RX12_154 rfl zsh_177 (zr_177_63 _) rfl ?_
      refine wp_iload_n (q := 84) dX12_giftsBy_83 1 rfl rfl ?_
      refine wp_iald (q := 85) _ dX12_giftsBy_84 zsh_224 rfl (by omega) (by decide) rfl ?_
      rw [h3]
      refine wp_iload_n (q := 86) dX12_giftsBy_85 1 rfl rfl ?_
      refine wp_bipush (q := 88) dX12_giftsBy_86 zq_bipush_8 rfl ?_
      refine wp_isub (q := 89) dX12_giftsBy_88 rfl ?_
      refine wp_csx (q := 92) (sp_msize (d := 0) hto) zm_X12_size zl_RX12_555 dX12_giftsBy_89 rfl (by omega) (Nat.le_of_ble_eq_true rfl) rfl ?_
      refine wp_isubN (q := 93) dX12_giftsBy_92 (by omega) rfl ?_
      refine wp_icmp_geN (tgt := 131) (q := 96) dX12_giftsBy_93 (by decide) rfl (by omega) (by omega) (fun c1 => ?_) (fun c1 => ?_)
      · skip
        refine WP.sub (loc' := [(4, _), (3, _), (2, _), (0, _), (1, _)]) [0, 1, 2, 3, 4] rfl ?_
        exact skp (by omega)
      · skip
        refine wp_aload_n (q := 97) dX12_giftsBy_96 3 rfl rfl ?_
        refine wp_iload_n (q := 98) dX12_giftsBy_97 2 rfl rfl ?_
        refine wp_cvx (q := 101) (sp_mhats (d := 0) (hgo h4).2 hs) zm_X12_hatsOf zl_RX12_460 dX12_giftsBy_98 rfl (by omega) (Nat.le_of_ble_eq_true rfl) zsh_177 rfl rfl ?_
        refine wp_iload (q := 103) dX12_giftsBy_101 0 rfl rfl ?_
        refine wp_iaddN (q := 104) dX12_giftsBy_103 rfl ?_
        refine wp_iload_n (q := 105) dX12_giftsBy_104 1 rfl rfl ?_
        refine wp_isub (q := 106) dX12_giftsBy_105 rfl ?_
        refine wp_iconst (q := 107) dX12_giftsBy_106 zq_iconst_1 rfl ?_
        refine wp_icmp_lt (tgt := 131) (q := 110) dX12_giftsBy_107 (by decide) rfl (fun c2 => ?_) (fun c2 => ?_)
        · skip
          have c2' := (zsub_lt1 (by omega) (by omega)).mp c2
          refine WP.sub (loc' := [(4, _), (3, _), (2, _), (0, _), (1, _)]) [0, 1, 2, 3, 4] rfl ?_
          exact skp (by omega)
        · skip
          have c2' : ¬ ht v s + fr < to + 1 := fun e => c2 ((zsub_lt1 (by omega) (by omega)).mpr e)
          rw [if_pos ⟨by omega, by omega⟩] at ihn
          refine wp_aload_n (q := 111) dX12_giftsBy_110 3 rfl rfl ?_
          refine wp_getR (q := 114) dX12_giftsBy_111 zf_RX12_154 rfl zsh_177 (zr_177_63 _) rfl ?_
          refine wp_iload_n (q := 115) dX12_giftsBy_114 1 rfl rfl ?_
          refine wp_aload_n (q := 116) dX12_giftsBy_115 3 rfl rfl ?_
          refine wp_getR (q := 119) dX12_giftsBy_116 zf_RX12_151 rfl zsh_177 (zr_177_62 _) rfl ?_
          refine wp_iload (q := 121) dX12_giftsBy_119 0 rfl rfl ?_
          refine wp_iald (q := 122) _ dX12_giftsBy_121 zsh_223 rfl (by omega) (by decide) rfl ?_
          rw [e1]
          refine wp_iload_n (q := 123) dX12_giftsBy_122 1 rfl rfl ?_
          refine wp_bipush (q := 125) dX12_giftsBy_123 zq_bipush_8 rfl ?_
          refine wp_isub (q := 126) dX12_giftsBy_125 rfl ?_
          refine wp_csx (q := 129) (sp_msize (d := 0) hto) zm_X12_size zl_RX12_555 dX12_giftsBy_126 rfl (by omega) (Nat.le_of_ble_eq_true rfl) rfl ?_
          refine wp_iaddN (q := 130) dX12_giftsBy_129 rfl ?_
          refine wp_iast (q := 131) _ dX12_giftsBy_130 zsh_224 rfl (by omega) (by decide) rfl ?_
          refine wp_iincN (q := 134) (loc' := [(4, _), (3, _), (2, _), (0, _), (1, _)]) (n := 1) dX12_giftsBy_131 rfl 0 rfl (by decide) rfl rfl ?_
          refine wp_goto (tgt := 65) dX12_giftsBy_134 (by decide) ?_
          refine WP.sub (loc' := [(4, _), (3, _), (2, _), (0, _), (1, _)]) [0, 1, 2, 3, 4] rfl ?_
          refine ihn _ (fun i hi => by rw [zu_ne (by decide)]; exact h1 i hi) (fun i hi => by rw [zu_k (by omega)]; exact h2 i hi) zu_s (fun x x1 x2 => by rw [zu_ne x2]; exact h4 x x1 x2) cont
  have mid : ∀ s, s < n → (∀ M3 : zMI, (∀ i, i < 17 → M3 223 i = nI (zwf v f (s + 1) i)) → (∀ x, x ≠ 223 → x ≠ 224 → M3 x = M x) → WP w YX12_giftsBy (d + 1, SS, 0, 0) G (some (zXp (fun v0 M' L' R' => v0 = some (.int (nI (zwf v f n f))) ∧ L = L' ∧ R' = zRf t ∧ ∀ x, x ≠ 223 → x ≠ 224 → M' x = M x))) 37 [(2, .int (nI (s + 1))), (0, .ref 177), (1, .int (zla f))] [] SS M3 L (zRf t)) → ∀ q to (M2 : zMI), to + q = 17 → (∀ i, i < 17 → M2 223 i = nI (zwf v f s i)) → (∀ i, i < to → M2 224 i = nI (zwf v f (s + 1) i)) → (∀ x, x ≠ 223 → x ≠ 224 → M2 x = M x) → WP w YX12_giftsBy (d + 1, SS, 0, 0) G (some (zXp (fun v0 M' L' R' => v0 = some (.int (nI (zwf v f n f))) ∧ L = L' ∧ R' = zRf t ∧ ∀ x, x ≠ 223 → x ≠ 224 → M' x = M x))) 47 [(3, .int (nI to)), (2, .int (nI s)), (0, .ref 177), (1, .int (zla f))] [] SS M2 L (zRf t) := by
    intro s hs cont q
    induction q with
    | zero =>
      intro to M2 hq h1 h2 h3
      rw [show to = 17 by omega] at h2 ⊢
      refine wp_iload_n (q := 48) dX12_giftsBy_47 0 rfl rfl ?_
      refine wp_bipush (q := 50) dX12_giftsBy_48 zq_bipush_17 rfl ?_
      refine wp_icmp_geN (tgt := 143) (q := 53) dX12_giftsBy_50 (by decide) rfl (by omega) (by omega) (fun _ => ?_) (fun hn => absurd hn (by first | omega | exact fun h => h | exact fun h => h trivial))
      refine wp_iconst (q := 144) dX12_giftsBy_143 zq_iconst_0 rfl ?_
      refine wp_istore_n (q := 145) (loc' := [(3, _), (2, _), (0, _), (1, _)]) dX12_giftsBy_144 rfl (by decide) rfl rfl ?_
      refine WP.sub (loc' := [(3, _), (2, _), (0, _), (1, _)]) [0, 1, 2, 3] rfl ?_
      exact copy s hs cont 17 0 M2 (by decide) h2 (fun i hi => absurd hi (Nat.not_lt_zero _)) h3
    | succ q ih =>
      intro to M2 hq h1 h2 h3
      refine wp_iload_n (q := 48) dX12_giftsBy_47 0 rfl rfl ?_
      refine wp_bipush (q := 50) dX12_giftsBy_48 zq_bipush_17 rfl ?_
      refine wp_icmp_geN (tgt := 143) (q := 53) dX12_giftsBy_50 (by decide) rfl (by omega) (by omega) (fun hn => absurd hn (by first | omega | exact fun h => h | exact fun h => h trivial)) (fun _ => ?_)
      refine wp_aload_n (q := 54) dX12_giftsBy_53 2 rfl rfl ?_
      refine wp_getR (q := 57) dX12_giftsBy_54 zf_RX12_154 rfl zsh_177 (zr_177_63 _) rfl ?_
      refine wp_iload_n (q := 58) dX12_giftsBy_57 0 rfl rfl ?_
      refine wp_ldc_w (q := 61) dX12_giftsBy_58 zk_RX12_554 rfl ?_
      refine wp_iast (q := 62) _ dX12_giftsBy_61 zsh_224 rfl (by omega) (by decide) rfl ?_
      refine wp_iconst (q := 63) dX12_giftsBy_62 zq_iconst_0 rfl ?_
      refine wp_istore (q := 65) (loc' := [(4, _), (3, _), (2, _), (0, _), (1, _)]) dX12_giftsBy_63 (by decide) rfl rfl ?_
      refine WP.sub (loc' := [(4, _), (3, _), (2, _), (0, _), (1, _)]) [0, 1, 2, 3, 4] rfl ?_
      exact inner s to hs (by omega) 17 0 _ (by decide) (fun i hi => by rw [zu_ne (by decide)]; exact h1 i hi) (fun i hi => by rw [zu_k (by omega)]; exact h2 i hi) zu_s (fun x x1 x2 => by rw [zu_ne x2]; exact h3 x x1 x2) (fun M3 g1 g2 g3 => ih (to + 1) M3 (by omega) g1 g2 g3)
  have outer : ∀ q s (M2 : zMI), s + q = n → (∀ i, i < 17 → M2 223 i = nI (zwf v f s i)) → (∀ x, x ≠ 223 → x ≠ 224 → M2 x = M x) → WP w YX12_giftsBy (d + 1, SS, 0, 0) G (some (zXp (fun v0 M' L' R' => v0 = some (.int (nI (zwf v f n f))) ∧ L = L' ∧ R' = zRf t ∧ ∀ x, x ≠ 223 → x ≠ 224 → M' x = M x))) 37 [(2, .int (nI s)), (0, .ref 177), (1, .int (zla f))] [] SS M2 L (zRf t) := by
    intro q
    induction q with
    | zero =>
      intro s M2 hq h1 h2
      rw [show s = n by omega] at h1 ⊢
      have hfm := zla_p f hf
      refine wp_iload_n (q := 38) dX12_giftsBy_37 0 rfl rfl ?_
      refine wp_aload_n (q := 39) dX12_giftsBy_38 1 rfl rfl ?_
      refine wp_cvx (q := 42) (sp_mpm (d := 0) (hgo h2).1) zm_X12_peopleMany zl_RX12_408 dX12_giftsBy_39 rfl (by omega) (Nat.le_of_ble_eq_true rfl) zsh_177 rfl rfl ?_
      refine wp_icmp_geN (tgt := 175) (q := 45) dX12_giftsBy_42 (by decide) rfl (by omega) (by omega) (fun _ => ?_) (fun hn => absurd hn (by first | omega | exact fun h => h | exact fun h => h trivial))
      refine wp_aload_n (q := 176) dX12_giftsBy_175 1 rfl rfl ?_
      refine wp_getR (q := 179) dX12_giftsBy_176 zf_RX12_151 rfl zsh_177 (zr_177_62 _) rfl ?_
      refine wp_iload_n (q := 180) dX12_giftsBy_179 2 rfl rfl ?_
      refine wp_bipush (q := 182) dX12_giftsBy_180 zq_bipush_8 rfl ?_
      refine wp_iadd (q := 183) dX12_giftsBy_182 rfl ?_
      rw [hfm]
      refine wp_iald (q := 184) _ dX12_giftsBy_183 zsh_223 rfl (by omega) (by decide) rfl ?_
      rw [h1 f hf]
      exact wp_ireturn dX12_giftsBy_184 rfl ⟨rfl, ⟨rfl, rfl, rfl, h2⟩⟩ rfl rfl
    | succ q ih =>
      intro s M2 hq h1 h2
      refine wp_iload_n (q := 38) dX12_giftsBy_37 0 rfl rfl ?_
      refine wp_aload_n (q := 39) dX12_giftsBy_38 1 rfl rfl ?_
      refine wp_cvx (q := 42) (sp_mpm (d := 0) (hgo h2).1) zm_X12_peopleMany zl_RX12_408 dX12_giftsBy_39 rfl (by omega) (Nat.le_of_ble_eq_true rfl) zsh_177 rfl rfl ?_
      refine wp_icmp_geN (tgt := 175) (q := 45) dX12_giftsBy_42 (by decide) rfl (by omega) (by omega) (fun hn => absurd hn (by first | omega | exact fun h => h | exact fun h => h trivial)) (fun _ => ?_)
      refine wp_iconst (q := 46) dX12_giftsBy_45 zq_iconst_0 rfl ?_
      refine wp_istore_n (q := 47) (loc' := [(3, _), (2, _), (0, _), (1, _)]) dX12_giftsBy_46 rfl (by decide) rfl rfl ?_
      refine WP.sub (loc' := [(3, _), (2, _), (0, _), (1, _)]) [0, 1, 2, 3] rfl ?_
      exact mid s (by omega) (fun M3 g1 g2 => ih (s + 1) M3 (by omega) g1 g2) 17 0 M2 (by decide) h1 (fun i hi => absurd hi (Nat.not_lt_zero _)) h2
  have first : ∀ q i (M2 : zMI), i + q = 17 → (∀ j, j < i → M2 223 j = nI (zwf v f 0 j)) → (∀ x, x ≠ 223 → x ≠ 224 → M2 x = M x) → WP w YX12_giftsBy (d + 1, SS, 0, 0) G (some (zXp (fun v0 M' L' R' => v0 = some (.int (nI (zwf v f n f))) ∧ L = L' ∧ R' = zRf t ∧ ∀ x, x ≠ 223 → x ≠ 224 → M' x = M x))) 2 [(2, .int (nI i)), (0, .ref 177), (1, .int (zla f))] [] SS M2 L (zRf t) := by
    intro q
    induction q with
    | zero =>
      intro i M2 hq h1 h2
      rw [show i = 17 by omega] at h1 ⊢
      refine wp_iload_n (q := 3) dX12_giftsBy_2 0 rfl rfl ?_
      refine wp_bipush (q := 5) dX12_giftsBy_3 zq_bipush_17 rfl ?_
      refine wp_icmp_geN (tgt := 35) (q := 8) dX12_giftsBy_5 (by decide) rfl (by omega) (by omega) (fun _ => ?_) (fun hn => absurd hn (by first | omega | exact fun h => h | exact fun h => h trivial))
      refine wp_iconst (q := 36) dX12_giftsBy_35 zq_iconst_0 rfl ?_
      refine wp_istore_n (q := 37) (loc' := [(2, _), (0, _), (1, _)]) dX12_giftsBy_36 rfl (by decide) rfl rfl ?_
      refine WP.sub (loc' := [(2, _), (0, _), (1, _)]) [0, 1, 2] rfl ?_
      exact outer n 0 M2 (Nat.zero_add _) h1 h2
    | succ q ih =>
      intro i M2 hq h1 h2
      have hie := zla_e f hf i (by omega)
      have nxt : ∀ x, x = zwf v f 0 i → (∀ j, j < i + 1 → (zu M2 223 i (nI x)) 223 j = nI (zwf v f 0 j)) ∧ ∀ y, y ≠ 223 → y ≠ 224 → (zu M2 223 i (nI x)) y = M y := by
        intro x hx
        refine ⟨fun j hj => ?_, fun y y1 y2 => by rw [zu_ne y1]; exact h2 y y1 y2⟩
        by_cases e : j = i
        · rw [e, zu_s, hx]
        · rw [zu_k e]
          exact h1 j (by omega)
      refine wp_iload_n (q := 3) dX12_giftsBy_2 0 rfl rfl ?_
      refine wp_bipush (q := 5) dX12_giftsBy_3 zq_bipush_17 rfl ?_
      refine wp_icmp_geN (tgt := 35) (q := 8) dX12_giftsBy_5 (by decide) rfl (by omega) (by omega) (fun hn => absurd hn (by first | omega | exact fun h => h | exact fun h => h trivial)) (fun _ => ?_)
      refine wp_aload_n (q := 9) dX12_giftsBy_8 1 rfl rfl ?_
      refine wp_getR (q := 12) dX12_giftsBy_9 zf_RX12_151 rfl zsh_177 (zr_177_62 _) rfl ?_
      refine wp_iload_n (q := 13) dX12_giftsBy_12 0 rfl rfl ?_
      refine wp_iload_n (q := 14) dX12_giftsBy_13 0 rfl rfl ?_
      refine wp_bipush (q := 16) dX12_giftsBy_14 zq_bipush_8 rfl ?_
      refine wp_isub (q := 17) dX12_giftsBy_16 rfl ?_
      refine wp_iload_n (q := 18) dX12_giftsBy_17 2 rfl rfl ?_
      refine wp_icmp_ne (tgt := 25) (q := 21) dX12_giftsBy_18 (by decide) rfl (fun c => ?_) (fun c => ?_)
      · skip
        have c' : i ≠ f := fun e => c (hie.mpr e)
        obtain ⟨g1, g2⟩ := nxt 1000000 (by show _ = if i = f then 0 else 1000000; rw [if_neg c'])
        refine wp_ldc_w (q := 28) dX12_giftsBy_25 zk_RX12_554 rfl ?_
        refine wp_iast (q := 29) _ dX12_giftsBy_28 zsh_223 rfl (by omega) (by decide) rfl ?_
        refine wp_iincN (q := 32) (loc' := [(2, _), (0, _), (1, _)]) (n := 1) dX12_giftsBy_29 rfl 0 rfl (by decide) rfl rfl ?_
        refine wp_goto (tgt := 2) dX12_giftsBy_32 (by decide) ?_
        refine WP.sub (loc' := [(2, _), (0, _), (1, _)]) [0, 1, 2] rfl ?_
        exact ih (i + 1) _ (by omega) g1 g2
      · skip
        have c' : i = f := hie.mp c
        obtain ⟨g1, g2⟩ := nxt 0 (by show _ = if i = f then 0 else 1000000; rw [if_pos c'])
        refine wp_iconst (q := 22) dX12_giftsBy_21 zq_iconst_0 rfl ?_
        refine wp_goto (tgt := 28) dX12_giftsBy_22 (by decide) ?_
        refine wp_iast (q := 29) _ dX12_giftsBy_28 zsh_223 rfl (by omega) (by decide) rfl ?_
        refine wp_iincN (q := 32) (loc' := [(2, _), (0, _), (1, _)]) (n := 1) dX12_giftsBy_29 rfl 0 rfl (by decide) rfl rfl ?_
        refine wp_goto (tgt := 2) dX12_giftsBy_32 (by decide) ?_
        refine WP.sub (loc' := [(2, _), (0, _), (1, _)]) [0, 1, 2] rfl ?_
        exact ih (i + 1) _ (by omega) g1 g2
  refine wp_iconst (q := 1) dX12_giftsBy_0 zq_iconst_0 rfl ?_
  refine wp_istore_n (q := 2) (loc' := [(2, _), (0, _), (1, _)]) dX12_giftsBy_1 rfl (by decide) rfl rfl ?_
  refine WP.sub (loc' := [(2, _), (0, _), (1, _)]) [0, 1, 2] rfl ?_
  exact first 17 0 M (by decide) (fun j hj => absurd hj (Nat.not_lt_zero _)) (fun x _ _ => rfl)
set_option maxHeartbeats 4000000 in
set_option maxRecDepth 100000 in
theorem sp_mgifts {d t n : Nat} {M : zMI} {L : zML} {g : zGd} {v : Nat → Nat} {hs : List (Nat → Nat)} {m : zMs} (h : zMo M L n g v hs m) (h2 : 2 ≤ n) (hn0 : n ≤ nS (ht v) n) : Sy yX12_gifts YX12_gifts (d + 2) [.ref 177] M L (zRf t) (zMn M L t n g v hs m (.int (nI (zgm v n 17)))) := by
  refine Sp.of (by decide +kernel) rfl (fun h => by first | exact h | cases h) (Nat.le_of_ble_eq_true rfl) ?_
  intro w G
  have hn := h.1.1
  have hnw := h.1.2.1
  have h8 := hnw.1.1
  have h99 := hnw.1.2.2.2.1
  have hb : nS (ht v) n ≤ 99 * n := nS_le (fun j hj => h99 j hj)
  have loop : ∀ q f (M2 : zMI), f + q = 17 → zMo M2 L n g v hs m → zYf M M2 L L → WP w YX12_gifts (d + 2, SS, 0, 0) G (some (zXp (zMn M L t n g v hs m (.int (nI (zgm v n 17)))))) 27 [(2, .int (zla f)), (1, .int (nI (zgm v n f))), (0, .ref 177)] [] SS M2 L (zRf t) := by
    intro q
    induction q with
    | zero =>
      intro f M2 hq hM hY
      rw [show f = 17 by omega]
      refine wp_iload_n (q := 28) dX12_gifts_27 0 rfl rfl ?_
      refine wp_bipush (q := 30) dX12_gifts_28 zq_bipush_8 rfl ?_
      refine wp_icmp_gt (tgt := 54) (q := 33) dX12_gifts_30 (by decide) rfl (fun _ => ?_) (fun hn => absurd hn (by exact fun c => c (Int32.not_le.mp (fun e => absurd ((zla_8 17 (by decide)).mp e) (by decide)))))
      refine wp_iload_n (q := 55) dX12_gifts_54 1 rfl rfl ?_
      exact wp_ireturn dX12_gifts_55 rfl ⟨rfl, ⟨rfl, rfl, hM, hY⟩⟩ rfl rfl
    | succ q ih =>
      intro f M2 hq hM hY
      have hf : f < 17 := by omega
      have hf1 := (zla_8 f (by omega)).mpr (by omega)
      have hfs := zla_s f hf
      have k1 := zgm_le v n f
      have k2 := zwf_le (v := v) (f := f) n f hf
      have k3 := zwf_m (v := v) (f := f) n f hf
      have ih1 := fun M3 => ih (f + 1) M3 (by omega)
      have hzs : zgm v n (f + 1) = min (zgm v n f) (zgc v f n f) := rfl
      rw [hzs] at ih1
      refine wp_iload_n (q := 28) dX12_gifts_27 0 rfl rfl ?_
      refine wp_bipush (q := 30) dX12_gifts_28 zq_bipush_8 rfl ?_
      refine wp_icmp_gt (tgt := 54) (q := 33) dX12_gifts_30 (by decide) rfl (fun hn => absurd hn (by exact Int32.not_lt.mpr hf1)) (fun _ => ?_)
      refine wp_aload_n (q := 34) dX12_gifts_33 2 rfl rfl ?_
      refine wp_iload_n (q := 35) dX12_gifts_34 0 rfl rfl ?_
      refine wp_cvy (q := 38) (sp_mgiftsBy (d := 0) hM.1.1 hM.1.2.1 hf) zm_X12_giftsBy zl_RX12_558 dX12_gifts_35 rfl (by omega) (Nat.le_of_ble_eq_true rfl) zsh_177 rfl rfl ?_
      rintro _ M3 L3 _ ⟨rfl, rfl, rfl, e3⟩
      have hM3 := zMo_s (L' := L) hM (fun x hx => e3 x (by unfold zSp at hx; omega) (by unfold zSp at hx; omega)) (fun x _ => rfl)
      have hY3 := zYf_t hY (zYf_s (L' := L) (fun x hx => e3 x (by unfold zSp at hx; omega) (by unfold zSp at hx; omega)) (fun x _ => rfl))
      refine wp_iload_n (q := 39) dX12_gifts_38 1 rfl rfl ?_
      refine wp_icmp_geN (tgt := 48) (q := 42) dX12_gifts_39 (by decide) rfl (by omega) (by omega) (fun c => ?_) (fun c => ?_)
      · skip
        rw [show min (zgm v n f) (zgc v f n f) = zgm v n f by omega] at ih1
        refine wp_iinc (q := 51) (loc' := [(2, _), (1, _), (0, _)]) dX12_gifts_48 0 rfl rfl (by decide) rfl rfl ?_
        rw [hfs]
        refine wp_goto (tgt := 27) dX12_gifts_51 (by decide) ?_
        refine WP.sub (loc' := [(2, _), (1, _), (0, _)]) [0, 1, 2] rfl ?_
        exact ih1 M3 hM3 hY3
      · skip
        rw [show min (zgm v n f) (zgc v f n f) = zwf v f n f by omega] at ih1
        refine wp_aload_n (q := 43) dX12_gifts_42 2 rfl rfl ?_
        refine wp_iload_n (q := 44) dX12_gifts_43 0 rfl rfl ?_
        refine wp_cvy (q := 47) (sp_mgiftsBy (d := 0) hM3.1.1 hM3.1.2.1 hf) zm_X12_giftsBy zl_RX12_558 dX12_gifts_44 rfl (by omega) (Nat.le_of_ble_eq_true rfl) zsh_177 rfl rfl ?_
        rintro _ M4 L4 _ ⟨rfl, rfl, rfl, e4⟩
        have hM4 := zMo_s (L' := L) hM3 (fun x hx => e4 x (by unfold zSp at hx; omega) (by unfold zSp at hx; omega)) (fun x _ => rfl)
        have hY4 := zYf_t hY3 (zYf_s (L' := L) (fun x hx => e4 x (by unfold zSp at hx; omega) (by unfold zSp at hx; omega)) (fun x _ => rfl))
        refine wp_istore_n (q := 48) (loc' := [(1, _), (2, _), (0, _)]) dX12_gifts_47 rfl (by decide) rfl rfl ?_
        refine wp_iinc (q := 51) (loc' := [(2, _), (1, _), (0, _)]) dX12_gifts_48 1 rfl rfl (by decide) rfl rfl ?_
        rw [hfs]
        refine wp_goto (tgt := 27) dX12_gifts_51 (by decide) ?_
        refine WP.sub (loc' := [(2, _), (1, _), (0, _)]) [0, 1, 2] rfl ?_
        exact ih1 M4 hM4 hY4
  refine wp_aload_n (q := 1) dX12_gifts_0 0 rfl rfl ?_
  refine wp_cvx (q := 4) (sp_mcm (d := 0) hn h8) zm_X12_crackerMany zl_RX12_463 dX12_gifts_1 rfl (by omega) (Nat.le_of_ble_eq_true rfl) zsh_177 rfl rfl ?_
  rw [if_neg (by omega)]
  refine wp_if_eqN (tgt := 18) (q := 7) dX12_gifts_4 (by decide) rfl (by omega) (fun hn => absurd hn (by first | omega | exact fun h => h | exact fun h => h trivial)) (fun _ => ?_)
  refine wp_aload_n (q := 8) dX12_gifts_7 0 rfl rfl ?_
  refine wp_cvx (q := 11) (sp_mhatsAll (d := 0) hn hnw) zm_X12_hatsAll zl_RX12_469 dX12_gifts_8 rfl (by omega) (Nat.le_of_ble_eq_true rfl) zsh_177 rfl rfl ?_
  refine wp_aload_n (q := 12) dX12_gifts_11 0 rfl rfl ?_
  refine wp_cvx (q := 15) (sp_mpm (d := 0) hn) zm_X12_peopleMany zl_RX12_408 dX12_gifts_12 rfl (by omega) (Nat.le_of_ble_eq_true rfl) zsh_177 rfl rfl ?_
  refine wp_icmp_geN (tgt := 20) (q := 18) dX12_gifts_15 (by decide) rfl (by omega) (by omega) (fun _ => ?_) (fun hn => absurd hn (by first | omega | exact fun h => h | exact fun h => h trivial))
  refine wp_ldc_w (q := 23) dX12_gifts_20 zk_RX12_554 rfl ?_
  refine wp_istore_n (q := 24) (loc' := [(1, _), (0, _)]) dX12_gifts_23 rfl (by decide) rfl rfl ?_
  refine wp_bipush (q := 26) dX12_gifts_24 zq_bipush_m8 rfl ?_
  refine wp_istore_n (q := 27) (loc' := [(2, _), (1, _), (0, _)]) dX12_gifts_26 rfl (by decide) rfl rfl ?_
  refine WP.sub (loc' := [(2, _), (1, _), (0, _)]) [0, 1, 2] rfl ?_
  exact loop 17 0 M (by decide) h zYf_r
set_option maxHeartbeats 4000000 in
set_option maxRecDepth 100000 in
theorem sp_mgiftsN {d t n : Nat} {M : zMI} {L : zML} {g : zGd} {v : Nat → Nat} {hs : List (Nat → Nat)} {m : zMs} (h : zMo M L n g v hs m) (hN : ¬ (2 ≤ n ∧ n ≤ nS (ht v) n)) : Sy yX12_gifts YX12_gifts (d + 2) [.ref 177] M L (zRf t) (zMn M L t n g v hs m (.int (-1))) := by
  refine Sp.of (by decide +kernel) rfl (fun h => by first | exact h | cases h) (Nat.le_of_ble_eq_true rfl) ?_
  intro w G
  have hn := h.1.1
  have hnw := h.1.2.1
  have h8 := hnw.1.1
  have h99 := hnw.1.2.2.2.1
  have hb : nS (ht v) n ≤ 99 * n := nS_le (fun j hj => h99 j hj)
  refine wp_aload_n (q := 1) dX12_gifts_0 0 rfl rfl ?_
  refine wp_cvx (q := 4) (sp_mcm (d := 0) hn h8) zm_X12_crackerMany zl_RX12_463 dX12_gifts_1 rfl (by omega) (Nat.le_of_ble_eq_true rfl) zsh_177 rfl rfl ?_
  by_cases c2 : 2 ≤ n
  · rw [if_neg (by omega)]
    refine wp_if_eqN (tgt := 18) (q := 7) dX12_gifts_4 (by decide) rfl (by omega) (fun hn => absurd hn (by first | omega | exact fun h => h | exact fun h => h trivial)) (fun _ => ?_)
    refine wp_aload_n (q := 8) dX12_gifts_7 0 rfl rfl ?_
    refine wp_cvx (q := 11) (sp_mhatsAll (d := 0) hn hnw) zm_X12_hatsAll zl_RX12_469 dX12_gifts_8 rfl (by omega) (Nat.le_of_ble_eq_true rfl) zsh_177 rfl rfl ?_
    refine wp_aload_n (q := 12) dX12_gifts_11 0 rfl rfl ?_
    refine wp_cvx (q := 15) (sp_mpm (d := 0) hn) zm_X12_peopleMany zl_RX12_408 dX12_gifts_12 rfl (by omega) (Nat.le_of_ble_eq_true rfl) zsh_177 rfl rfl ?_
    refine wp_icmp_geN (tgt := 20) (q := 18) dX12_gifts_15 (by decide) rfl (by omega) (by omega) (fun hn => absurd hn (by exact fun c => hN ⟨c2, c⟩)) (fun _ => ?_)
    refine wp_iconst (q := 19) dX12_gifts_18 zq_iconst_m1 rfl ?_
    exact wp_ireturn dX12_gifts_19 rfl ⟨rfl, ⟨rfl, rfl, h, zYf_r⟩⟩ rfl rfl
  · rw [if_pos (by omega)]
    refine wp_if_eqN (tgt := 18) (q := 7) dX12_gifts_4 (by decide) rfl (by omega) (fun _ => ?_) (fun hn => absurd hn (by first | omega | exact fun h => h | exact fun h => h trivial))
    refine wp_iconst (q := 19) dX12_gifts_18 zq_iconst_m1 rfl ?_
    exact wp_ireturn dX12_gifts_19 rfl ⟨rfl, ⟨rfl, rfl, h, zYf_r⟩⟩ rfl rfl

