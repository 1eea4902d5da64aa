theorem zlkv_l {b : Nat → Nat} {len s : Nat} (hb : s < len → b s < 256) : (nI 97 ≤ zlkv b len s ∧ zlkv b len s ≤ nI 122) ↔ (s < len ∧ zcl (b s) = 1) := by
  unfold zlkv
  by_cases c : s < len
  · rw [if_pos c]
    have h := hb c
    rw [Int32.le_iff_toInt_le, Int32.le_iff_toInt_le, nI_toInt (by omega), nI_toInt (by omega), nI_toInt (by omega), zcl_1i]
    omega
  · rw [if_neg c]
    constructor
    · intro e
      exact absurd e.1 (by decide)
    · intro e
      exact absurd e.1 c
theorem zlkv_d {b : Nat → Nat} {len s : Nat} (hb : s < len → b s < 256) : (nI 48 ≤ zlkv b len s ∧ zlkv b len s ≤ nI 57) ↔ (s < len ∧ zcl (b s) = 2) := by
  unfold zlkv
  by_cases c : s < len
  · rw [if_pos c]
    have h := hb c
    rw [Int32.le_iff_toInt_le, Int32.le_iff_toInt_le, nI_toInt (by omega), nI_toInt (by omega), nI_toInt (by omega), zcl_2i]
    omega
  · rw [if_neg c]
    constructor
    · intro e
      exact absurd e.1 (by decide)
    · intro e
      exact absurd e.1 c
theorem zlt_1 {x : Nat} (h : x < 256) : (nI 97 ≤ nI x ∧ nI x ≤ nI 122) ↔ zcl x = 1 := by
  rw [Int32.le_iff_toInt_le, Int32.le_iff_toInt_le, nI_toInt (by omega), nI_toInt (by omega), nI_toInt (by omega), zcl_1i]
  omega
theorem zlt_2 {x : Nat} (h : x < 256) : (nI 48 ≤ nI x ∧ nI x ≤ nI 57) ↔ zcl x = 2 := by
  rw [Int32.le_iff_toInt_le, Int32.le_iff_toInt_le, nI_toInt (by omega), nI_toInt (by omega), nI_toInt (by omega), zcl_2i]
  omega
-- a start of a token: what stands there
def zSs (b : Nat → Nat) (len a s r : Nat) : Prop := a ≤ s ∧ s ≤ len ∧ (∀ k, a ≤ k → k < s → zcl (b k) = 0) ∧ (s < len → zcl (b s) ≠ 0) ∧ (s < len → zcl (b s) ≠ 3 → s + r ≤ len ∧ (∀ k, s ≤ k → k < s + r → zcl (b k) = zcl (b s)) ∧ (s + r < len → zcl (b (s + r)) ≠ zcl (b s)) ∧ 1 ≤ r)
set_option maxHeartbeats 4000000 in
set_option maxRecDepth 100000 in
theorem sp_misHere {d t a s r len wa wl : Nat} {e : Int32} {M : zMI} {L : zML} {b wd : Nat → Nat} (h : zTa M b len) (h0 : M 177 5 = nI 0) (ha : M 177 2 = nI a) (he : M 177 4 = e) (hS : zSs b len a s r) (hs : SS[wa]? = some (.inl (wl, .char))) (hwa : wa ≠ 177) (hwl : wl ≤ 10) (hw : ∀ i, i < wl → M wa i = nI (wd i) ∧ wd i < 65536) {o : Bool} (ho : (s < len ∧ zcl (b s) = 1 ∧ e ≠ nI s ∧ r = wl ∧ ∀ i, i < wl → b (s + i) = wd i) ↔ o = true) : Sy yX12_isHere YX12_isHere (d + 1) [.ref 177, .ref wa] M L (zRf t) (fun v0 M' L' R' => v0 = some (.int (nI (zb01 o))) ∧ L = L' ∧ R' = zRf t ∧ M' 177 2 = nI s ∧ (∀ k, k ≠ 2 → M' 177 k = M 177 k) ∧ ∀ x, x ≠ 177 → M' x = M x) := by
  refine Sp.of (by decide +kernel) rfl (fun h => by first | exact h | cases h) (Nat.le_of_ble_eq_true rfl) ?_
  intro w G
  obtain ⟨hlen, hl, hb⟩ := id h
  obtain ⟨s1, s2, s3, s4, s5⟩ := hS
  have hno : ¬ (s < len ∧ zcl (b s) = 1 ∧ e ≠ nI s ∧ r = wl ∧ ∀ i, i < wl → b (s + i) = wd i) → nI 0 = nI (zb01 o) := fun x => by
    cases o with
    | false => rfl
    | true => exact absurd (ho.mpr rfl) x
  have hyes : (s < len ∧ zcl (b s) = 1 ∧ e ≠ nI s ∧ r = wl ∧ ∀ i, i < wl → b (s + i) = wd i) → nI 1 = nI (zb01 o) := fun x => by
    rw [ho.mp x]
    rfl
  have fin : ∀ (M2 : zMI), M2 177 2 = nI s → (∀ k, k ≠ 2 → M2 177 k = M 177 k) → (∀ x, x ≠ 177 → M2 x = M x) → ¬ (s < len ∧ zcl (b s) = 1 ∧ e ≠ nI s ∧ r = wl ∧ ∀ i, i < wl → b (s + i) = wd i) → WP w YX12_isHere (d + 1, SS, 0, 0) G (some (zXp (fun v0 M' L' R' => v0 = some (.int (nI (zb01 o))) ∧ L = L' ∧ R' = zRf t ∧ M' 177 2 = nI s ∧ (∀ k, k ≠ 2 → M' 177 k = M 177 k) ∧ ∀ x, x ≠ 177 → M' x = M x))) 28 [(0, .ref 177), (1, .ref wa)] [] SS M2 L (zRf t) := by
    intro M2 g1 g2 g3 hx
    have h3 := hno hx
    refine wp_iconst (q := 29) dX12_isHere_28 zq_iconst_0 rfl ?_
    exact wp_zreturn dX12_isHere_29 rfl (by first | with_reducible exact znar_0 | with_reducible exact znar_1 | assumption) ⟨rfl, ⟨by rw [h3], rfl, rfl, g1, g2, g3⟩⟩ rfl rfl
  have cmp : s < len → zcl (b s) = 1 → e ≠ nI s → r = wl → ∀ q i (M2 : zMI), i + q = wl → M2 177 2 = nI s → (∀ k, k ≠ 2 → M2 177 k = M 177 k) → (∀ x, x ≠ 177 → M2 x = M x) → (∀ j, j < i → b (s + j) = wd j) → WP w YX12_isHere (d + 1, SS, 0, 0) G (some (zXp (fun v0 M' L' R' => v0 = some (.int (nI (zb01 o))) ∧ L = L' ∧ R' = zRf t ∧ M' 177 2 = nI s ∧ (∀ k, k ≠ 2 → M' 177 k = M 177 k) ∧ ∀ x, x ≠ 177 → M' x = M x))) 76 [(3, .int (nI i)), (0, .ref 177), (1, .ref wa)] [] SS M2 L (zRf t) := by
    intro k1 k2 k3 k4 q
    induction q with
    | zero =>
      intro i M2 hi g1 g2 g3 hd
      rw [show i = wl by omega] at hd ⊢
      have h3 := hyes ⟨k1, k2, k3, k4, hd⟩
      refine wp_iload_n (q := 77) dX12_isHere_76 0 rfl rfl ?_
      refine wp_aload_n (q := 78) dX12_isHere_77 2 rfl rfl ?_
      refine wp_alen (q := 79) dX12_isHere_78 (by first | assumption | rfl) (by simp [zTys]) rfl ?_
      refine wp_icmp_geN (tgt := 107) (q := 82) dX12_isHere_79 (by decide) rfl (by omega) (by omega) (fun _ => ?_) (fun hn => absurd hn (by first | omega | exact fun h => h | exact fun h => h trivial))
      refine wp_iconst (q := 108) dX12_isHere_107 zq_iconst_1 rfl ?_
      exact wp_zreturn dX12_isHere_108 rfl (by first | with_reducible exact znar_0 | with_reducible exact znar_1 | assumption) ⟨rfl, ⟨by rw [h3], rfl, rfl, g1, g2, g3⟩⟩ rfl rfl
    | succ q ih =>
      intro i M2 hi g1 g2 g3 hd
      have hrl := (s5 k1 (by omega)).1
      have hbi := hb (s + i) (by omega)
      have hwi := hw i (by omega)
      refine wp_iload_n (q := 77) dX12_isHere_76 0 rfl rfl ?_
      refine wp_aload_n (q := 78) dX12_isHere_77 2 rfl rfl ?_
      refine wp_alen (q := 79) dX12_isHere_78 (by first | assumption | rfl) (by simp [zTys]) rfl ?_
      refine wp_icmp_geN (tgt := 107) (q := 82) dX12_isHere_79 (by decide) rfl (by omega) (by omega) (fun hn => absurd hn (by first | omega | exact fun h => h | exact fun h => h trivial)) (fun _ => ?_)
      refine wp_aload_n (q := 83) dX12_isHere_82 1 rfl rfl ?_
      refine wp_getR (q := 86) dX12_isHere_83 zf_RX12_7 rfl zsh_177 (zr_177_0 _) rfl ?_
      refine wp_aload_n (q := 87) dX12_isHere_86 1 rfl rfl ?_
      refine wp_getI (q := 90) dX12_isHere_87 zf_RX12_242 rfl zsh_177 rfl ?_
      rw [g1]
      refine wp_iload_n (q := 91) dX12_isHere_90 0 rfl rfl ?_
      refine wp_iaddN (q := 92) dX12_isHere_91 rfl ?_
      refine wp_iald (q := 93) _ dX12_isHere_92 zsh_178 rfl (by omega) (by decide) rfl ?_
      rw [g3 178 (by decide), hbi.1]
      refine wp_aload_n (q := 94) dX12_isHere_93 2 rfl rfl ?_
      refine wp_iload_n (q := 95) dX12_isHere_94 0 rfl rfl ?_
      refine wp_cald (q := 96) _ dX12_isHere_95 (by first | assumption | rfl) rfl (by omega) (by omega) rfl ?_
      rw [g3 wa hwa, hwi.1]
      refine wp_icmp_eqN (tgt := 101) (q := 99) dX12_isHere_96 (by decide) rfl (by omega) (by omega) (fun c => ?_) (fun c => ?_)
      · skip
        refine wp_iincN (q := 104) (loc' := [(3, _), (0, _), (1, _)]) (n := 1) dX12_isHere_101 rfl 0 rfl (by decide) rfl rfl ?_
        refine wp_goto (tgt := 76) dX12_isHere_104 (by decide) ?_
        refine WP.sub (loc' := [(3, _), (0, _), (1, _)]) [0, 1, 2] rfl ?_
        refine ih (i + 1) M2 (by omega) g1 g2 g3 (fun j hj => ?_)
        by_cases ej : j = i
        · rw [ej]; exact c
        · exact hd j (by omega)
      · skip
        have h3 := hno (fun x => c (x.2.2.2.2 i (by omega)))
        refine wp_iconst (q := 100) dX12_isHere_99 zq_iconst_0 rfl ?_
        exact wp_zreturn dX12_isHere_100 rfl (by first | with_reducible exact znar_0 | with_reducible exact znar_1 | assumption) ⟨rfl, ⟨by rw [h3], rfl, rfl, g1, g2, g3⟩⟩ rfl rfl
  have run : s < len → zcl (b s) = 1 → e ≠ nI s → ∀ q k (M2 : zMI), k + q = s + r → s ≤ k → M2 177 2 = nI s → (∀ k, k ≠ 2 → M2 177 k = M 177 k) → (∀ x, x ≠ 177 → M2 x = M x) → WP w YX12_isHere (d + 1, SS, 0, 0) G (some (zXp (fun v0 M' L' R' => v0 = some (.int (nI (zb01 o))) ∧ L = L' ∧ R' = zRf t ∧ M' 177 2 = nI s ∧ (∀ k, k ≠ 2 → M' 177 k = M 177 k) ∧ ∀ x, x ≠ 177 → M' x = M x))) 35 [(2, .int (nI k)), (0, .ref 177), (1, .ref wa)] [] SS M2 L (zRf t) := by
    intro k1 k2 k3
    have hr5 := s5 k1 (by omega)
    obtain ⟨r1, r2, r3, r4⟩ := hr5
    have at61 : ∀ (M2 : zMI), M2 177 2 = nI s → (∀ k, k ≠ 2 → M2 177 k = M 177 k) → (∀ x, x ≠ 177 → M2 x = M x) → WP w YX12_isHere (d + 1, SS, 0, 0) G (some (zXp (fun v0 M' L' R' => v0 = some (.int (nI (zb01 o))) ∧ L = L' ∧ R' = zRf t ∧ M' 177 2 = nI s ∧ (∀ k, k ≠ 2 → M' 177 k = M 177 k) ∧ ∀ x, x ≠ 177 → M' x = M x))) 61 [(2, .int (nI (s + r))), (0, .ref 177), (1, .ref wa)] [] SS M2 L (zRf t) := by
      intro M2 g1 g2 g3
      refine wp_iload_n (q := 62) dX12_isHere_61 0 rfl rfl ?_
      refine wp_aload_n (q := 63) dX12_isHere_62 1 rfl rfl ?_
      refine wp_getI (q := 66) dX12_isHere_63 zf_RX12_242 rfl zsh_177 rfl ?_
      rw [g1]
      refine wp_isubN (q := 67) dX12_isHere_66 (by omega) rfl ?_
      rw [show s + r - s = r by omega]
      refine wp_aload_n (q := 68) dX12_isHere_67 2 rfl rfl ?_
      refine wp_alen (q := 69) dX12_isHere_68 (by first | assumption | rfl) (by simp [zTys]) rfl ?_
      refine wp_icmp_eqN (tgt := 74) (q := 72) dX12_isHere_69 (by decide) rfl (by omega) (by omega) (fun c => ?_) (fun c => ?_)
      · skip
        refine wp_iconst (q := 75) dX12_isHere_74 zq_iconst_0 rfl ?_
        refine wp_istore_n (q := 76) (loc' := [(3, _), (2, _), (0, _), (1, _)]) dX12_isHere_75 rfl (by decide) rfl rfl ?_
        refine WP.sub (loc' := [(3, _), (0, _), (1, _)]) [0, 2, 3] rfl ?_
        exact cmp k1 k2 k3 c wl 0 M2 (Nat.zero_add _) g1 g2 g3 (fun j hj => absurd hj (Nat.not_lt_zero _))
      · skip
        have h3 := hno (fun x => c x.2.2.2.1)
        refine wp_iconst (q := 73) dX12_isHere_72 zq_iconst_0 rfl ?_
        exact wp_zreturn dX12_isHere_73 rfl (by first | with_reducible exact znar_0 | with_reducible exact znar_1 | assumption) ⟨rfl, ⟨by rw [h3], rfl, rfl, g1, g2, g3⟩⟩ rfl rfl
    intro q
    induction q with
    | zero =>
      intro k M2 hk hsk g1 g2 g3
      rw [show k = s + r by omega]
      refine wp_iload_n (q := 36) dX12_isHere_35 0 rfl rfl ?_
      refine wp_aload_n (q := 37) dX12_isHere_36 1 rfl rfl ?_
      refine wp_getI (q := 40) dX12_isHere_37 zf_RX12_245 rfl zsh_177 rfl ?_
      rw [g2 3 (by decide), hlen]
      refine wp_icmp_geN (tgt := 61) (q := 43) dX12_isHere_40 (by decide) rfl (by omega) (by omega) (fun c => ?_) (fun c => ?_)
      · skip
        refine WP.sub (loc' := [(2, _), (0, _), (1, _)]) [0, 1, 2] rfl ?_
        exact at61 M2 g1 g2 g3
      · skip
        have hbs := hb (s + r) c
        have hne := r3 c
        rw [k2] at hne
        refine wp_aload_n (q := 44) dX12_isHere_43 1 rfl rfl ?_
        refine wp_getR (q := 47) dX12_isHere_44 zf_RX12_7 rfl zsh_177 (zr_177_0 _) rfl ?_
        refine wp_iload_n (q := 48) dX12_isHere_47 0 rfl rfl ?_
        refine wp_iald (q := 49) _ dX12_isHere_48 zsh_178 rfl (by omega) (by decide) rfl ?_
        rw [g3 178 (by decide), hbs.1]
        refine wp_csx (q := 52) (sp_misLetter (d := 0) (o := false) ⟨fun x => absurd ((zlt_1 hbs.2).mp x) hne, fun x => by cases x⟩) zm_X12_isLetter zl_RX12_252 dX12_isHere_49 rfl (by omega) (Nat.le_of_ble_eq_true rfl) rfl ?_
        rw [zb01_f]
        refine wp_if_eqN (tgt := 61) (q := 55) dX12_isHere_52 (by decide) rfl (by omega) (fun _ => ?_) (fun hn => absurd hn (by first | omega | exact fun h => h | exact fun h => h trivial))
        refine WP.sub (loc' := [(2, _), (0, _), (1, _)]) [0, 1, 2] rfl ?_
        exact at61 M2 g1 g2 g3
    | succ q ih =>
      intro k M2 hk hsk g1 g2 g3
      have hbs := hb k (by omega)
      have hle := r2 k hsk (by omega)
      rw [k2] at hle
      have hle2 := zcl_1i.mp hle
      refine wp_iload_n (q := 36) dX12_isHere_35 0 rfl rfl ?_
      refine wp_aload_n (q := 37) dX12_isHere_36 1 rfl rfl ?_
      refine wp_getI (q := 40) dX12_isHere_37 zf_RX12_245 rfl zsh_177 rfl ?_
      rw [g2 3 (by decide), hlen]
      refine wp_icmp_geN (tgt := 61) (q := 43) dX12_isHere_40 (by decide) rfl (by omega) (by omega) (fun hn => absurd hn (by first | omega | exact fun h => h | exact fun h => h trivial)) (fun _ => ?_)
      refine wp_aload_n (q := 44) dX12_isHere_43 1 rfl rfl ?_
      refine wp_getR (q := 47) dX12_isHere_44 zf_RX12_7 rfl zsh_177 (zr_177_0 _) rfl ?_
      refine wp_iload_n (q := 48) dX12_isHere_47 0 rfl rfl ?_
      refine wp_iald (q := 49) _ dX12_isHere_48 zsh_178 rfl (by omega) (by decide) rfl ?_
      rw [g3 178 (by decide), hbs.1]
      refine wp_csx (q := 52) (sp_misLetter (d := 0) (o := true) ⟨fun _ => rfl, fun _ => (zlt_1 hbs.2).mpr hle⟩) zm_X12_isLetter zl_RX12_252 dX12_isHere_49 rfl (by omega) (Nat.le_of_ble_eq_true rfl) rfl ?_
      rw [zb01_t]
      refine wp_if_eqN (tgt := 61) (q := 55) dX12_isHere_52 (by decide) rfl (by omega) (fun hn => absurd hn (by first | omega | exact fun h => h | exact fun h => h trivial)) (fun _ => ?_)
      refine wp_iincN (q := 58) (loc' := [(2, _), (0, _), (1, _)]) (n := 1) dX12_isHere_55 rfl 0 rfl (by decide) rfl rfl ?_
      refine wp_goto (tgt := 35) dX12_isHere_58 (by decide) ?_
      refine WP.sub (loc' := [(2, _), (0, _), (1, _)]) [0, 1, 2] rfl ?_
      exact ih (k + 1) M2 (by omega) (by omega) g1 g2 g3
  refine wp_aload_n (q := 1) dX12_isHere_0 0 rfl rfl ?_
  refine wp_getI (q := 4) dX12_isHere_1 zf_RX12_236 rfl zsh_177 rfl ?_
  rw [h0]
  refine wp_if_neN (tgt := 28) (q := 7) dX12_isHere_4 (by decide) rfl (by omega) (fun hn => absurd hn (by first | omega | exact fun h => h | exact fun h => h trivial)) (fun _ => ?_)
  refine wp_aload_n (q := 8) dX12_isHere_7 0 rfl rfl ?_
  refine wp_cvy (q := 11) (sp_mlook (d := 0) h ha s1 s2 s3 s4) zm_X12_look zl_RX12_248 dX12_isHere_8 rfl (by omega) (Nat.le_of_ble_eq_true rfl) zsh_177 rfl rfl ?_
  rintro _ M2 L2 _ ⟨rfl, rfl, rfl, g1, g2, g3⟩
  by_cases c : s < len ∧ zcl (b s) = 1
  · skip
    refine wp_csx (q := 14) (sp_misLetter (d := 0) (o := true) ⟨fun _ => rfl, fun _ => (zlkv_l (fun c => (hb s c).2)).mpr c⟩) zm_X12_isLetter zl_RX12_252 dX12_isHere_11 rfl (by omega) (Nat.le_of_ble_eq_true rfl) rfl ?_
    rw [zb01_t]
    refine wp_if_eqN (tgt := 28) (q := 17) dX12_isHere_14 (by decide) rfl (by omega) (fun hn => absurd hn (by first | omega | exact fun h => h | exact fun h => h trivial)) (fun _ => ?_)
    refine wp_aload_n (q := 18) dX12_isHere_17 0 rfl rfl ?_
    refine wp_getI (q := 21) dX12_isHere_18 zf_RX12_242 rfl zsh_177 rfl ?_
    rw [g1]
    refine wp_aload_n (q := 22) dX12_isHere_21 0 rfl rfl ?_
    refine wp_getI (q := 25) dX12_isHere_22 zf_RX12_256 rfl zsh_177 rfl ?_
    rw [g2 4 (by decide), he]
    refine wp_icmp_ne (tgt := 30) (q := 28) dX12_isHere_25 (by decide) rfl (fun k3 => ?_) (fun k3 => ?_)
    · skip
      refine wp_aload_n (q := 31) dX12_isHere_30 0 rfl rfl ?_
      refine wp_getI (q := 34) dX12_isHere_31 zf_RX12_242 rfl zsh_177 rfl ?_
      rw [g1]
      refine wp_istore_n (q := 35) (loc' := [(2, _), (0, _), (1, _)]) dX12_isHere_34 rfl (by decide) rfl rfl ?_
      refine WP.sub (loc' := [(2, _), (0, _), (1, _)]) [0, 1, 2] rfl ?_
      exact run c.1 c.2 (fun x => k3 x.symm) r s M2 rfl (Nat.le_refl _) g1 g2 g3
    · skip
      refine WP.sub (loc' := [(0, _), (1, _)]) [0, 1] rfl ?_
      exact fin M2 g1 g2 g3 (fun x => x.2.2.1 k3.symm)
  · skip
    refine wp_csx (q := 14) (sp_misLetter (d := 0) (o := false) ⟨fun x => absurd ((zlkv_l (fun c => (hb s c).2)).mp x) c, fun x => by cases x⟩) zm_X12_isLetter zl_RX12_252 dX12_isHere_11 rfl (by omega) (Nat.le_of_ble_eq_true rfl) rfl ?_
    rw [zb01_f]
    refine wp_if_eqN (tgt := 28) (q := 17) dX12_isHere_14 (by decide) rfl (by omega) (fun _ => ?_) (fun hn => absurd hn (by first | omega | exact fun h => h | exact fun h => h trivial))
    refine WP.sub (loc' := [(0, _), (1, _)]) [0, 1] rfl ?_
    exact fin M2 g1 g2 g3 (fun x => c ⟨x.1, x.2.1⟩)

