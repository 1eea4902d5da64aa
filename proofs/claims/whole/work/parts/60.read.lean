def zwv (T : zDD) (j : Nat) : Nat := if T j 0 = 1 ∧ T j 3 ≤ 6 then zfk (T j 2) 30 0 else 99
def zTok (b : Nat → Nat) (len : Nat) (T : zDD) (c : Nat) : Prop := 1 ≤ c ∧ c ≤ len + 1 ∧ (∀ j, j + 1 < c → zTk b len T j) ∧ T (c - 1) 0 = 0 ∧ T (c - 1) 1 = len ∧ T (c - 1) 2 = 0 ∧ T (c - 1) 3 = 0 ∧ zGp b T (c - 1) len ∧ ∀ j, j < c → T j 4 = zwv T j
theorem zTok_TE {b : Nat → Nat} {len c : Nat} {T : zDD} (h : zTok b len T c) : zTE T c := by
  obtain ⟨h1, -, h2, h3, h4, h5, h6, h7, h8⟩ := h
  refine ⟨h1, h3, ?_, fun i hi h0 => ?_⟩
  · rw [h8 _ (by omega)]
    unfold zwv
    rw [if_neg (by omega)]
    decide
  · by_cases e : i = c - 1
    · exact e
    · have := (zTk_k (h2 i (by omega))).1
      omega
theorem zcl_1 {x : Nat} (h : zcl x = 1) : 97 ≤ x ∧ x ≤ 122 := by
  unfold zcl at h
  split at h
  · assumption
  · split at h
    · omega
    · split at h <;> omega
theorem zcl_2 {x : Nat} (h : zcl x = 2) : 48 ≤ x ∧ x ≤ 57 := by
  unfold zcl at h
  split at h
  · omega
  · split at h
    · assumption
    · split at h <;> omega
theorem zTk_b {b : Nat → Nat} {len j : Nat} {T : zDD} (hl : len ≤ 1600) (hb : ∀ i, i < len → b i < 256) (h : zTk b len T j) : T j 0 ≤ 4 ∧ T j 1 ≤ 1600 ∧ T j 2 < 2147483648 ∧ T j 3 ≤ 1600 := by
  have hk := zTk_k h
  obtain ⟨a1, a2, a3, a4, a5, a6, a7, a8⟩ := h
  have h3 := zcl_le (b (T j 1))
  refine ⟨hk.2.1, by omega, ?_, ?_⟩
  · have hc : zcl (b (T j 1)) = 1 ∨ zcl (b (T j 1)) = 2 ∨ zcl (b (T j 1)) = 3 := by omega
    have he : zcl (b (T j 1)) ≠ 3 → zEd T j = T j 1 + T j 3 := fun c => by unfold zEd; rw [if_neg (fun e => c (hk.2.2.mp e))]
    rcases hc with c | c | c
    · have e := he (by omega)
      rw [a7 c]
      have h1 := zeL_lt (zby b (T j 1) (min (T j 3) 6)) (fun x hx => by
        obtain ⟨k, hk1, rfl⟩ := List.mem_map.mp hx
        have hk2 := List.mem_range.mp hk1
        exact (zcl_1 ((a4 (T j 1 + k) (by omega) (by omega)).trans c)).2)
      rw [zby_len] at h1
      have h2 : 27 ^ (min (T j 3) 6) ≤ 27 ^ 6 := Nat.pow_le_pow_right (by decide) (by omega)
      have h3 : 27 ^ 6 < 2147483648 := by decide
      omega
    · have e := he (by omega)
      rw [a8 c]
      have h1 := zeN_lt (min (T j 3) 4) b (T j 1) (fun k hk1 => (zcl_2 ((a4 (T j 1 + k) (by omega) (by omega)).trans c)).2)
      have h2 : 10 ^ (min (T j 3) 4) ≤ 10 ^ 4 := Nat.pow_le_pow_right (by decide) (by omega)
      have h3 : 10 ^ 4 < 2147483648 := by decide
      omega
    · rw [(a5 c).2.1]
      have := hb (T j 1) (by omega)
      omega
  · by_cases c : zcl (b (T j 1)) = 3
    · rw [(a5 c).2.2]
      omega
    · have : zEd T j = T j 1 + T j 3 := by unfold zEd; rw [if_neg (fun e => c (hk.2.2.mp e))]
      omega
theorem zTok_b {b : Nat → Nat} {len c : Nat} {T : zDD} (hl : len ≤ 1600) (hb : ∀ i, i < len → b i < 256) (h : zTok b len T c) : ∀ j, j < c → T j 0 ≤ 4 ∧ T j 1 ≤ 1600 ∧ T j 2 < 2147483648 ∧ T j 3 ≤ 1600 := by
  obtain ⟨h1, -, h2, h3, h4, h5, h6, h7, h8⟩ := h
  intro j hj
  by_cases e : j = c - 1
  · rw [e, h3, h4, h5, h6]
    omega
  · exact zTk_b hl hb (h2 j (by omega))
def zTf (T : zDD) : zDD := fun j f => if f = 4 then zwv T j else T j f
theorem zTf_ne {T : zDD} {j f : Nat} (h : f ≠ 4) : zTf T j f = T j f := if_neg h
theorem zTf_k {b : Nat → Nat} {i j : Nat} {T T' : zDD} (h : zTk b i T j) (e : ∀ f, f < 4 → T' j f = T j f) : zTk b i T' j := by
  have ee : zEd T' j = zEd T j := by unfold zEd; rw [e 0 (by decide), e 1 (by decide), e 3 (by decide)]
  unfold zTk at h ⊢
  rw [ee, e 0 (by decide), e 1 (by decide), e 2 (by decide), e 3 (by decide)]
  exact h
theorem zGp_c {b : Nat → Nat} {T T' : zDD} {cnt i : Nat} (h : zGp b T cnt i) (e : ∀ j, j < cnt → ∀ f, f < 4 → T' j f = T j f) : zGp b T' cnt i := by
  intro j hj
  have h1 := h j hj
  have e1 : zgE T' j = zgE T j := by
    unfold zgE
    by_cases c : j = 0
    · rw [if_pos c, if_pos c]
    · rw [if_neg c, if_neg c]
      unfold zEd
      rw [e _ (by omega) 0 (by decide), e _ (by omega) 1 (by decide), e _ (by omega) 3 (by decide)]
  have e2 : zgS T' cnt i j = zgS T cnt i j := by
    unfold zgS
    by_cases c : j = cnt
    · rw [if_pos c, if_pos c]
    · rw [if_neg c, if_neg c, e j (by omega) 1 (by decide)]
  rw [e1, e2]
  exact h1
theorem zSc_end {b : Nat → Nat} {len : Nat} {s : zTK} (h : zSc b len s) : zTok b len (zTf (ztst 0 len s).1) (s.2.1 + 1) := by
  obtain ⟨h1, h2, h3, h4⟩ := h
  have eo : ∀ j f, j < s.2.1 → f < 4 → zTf (ztst 0 len s).1 j f = s.1 j f := fun j f hj hf => by
    rw [zTf_ne (by omega)]
    show zu (zu (zu (zu s.1 s.2.1 0 _) s.2.1 1 len) s.2.1 2 0) s.2.1 3 0 j f = _
    rw [zu_ne (by omega), zu_ne (by omega), zu_ne (by omega), zu_ne (by omega)]
  refine ⟨by omega, by omega, fun j hj => zTf_k (h3 j (by omega)) (fun f hf => eo j f (by omega) hf), ?_, ?_, ?_, ?_, ?_, fun j hj => ?_⟩
  · rw [show s.2.1 + 1 - 1 = s.2.1 by omega, zTf_ne (by decide)]
    simp [ztst, zu_at, ztg]
  · rw [show s.2.1 + 1 - 1 = s.2.1 by omega, zTf_ne (by decide)]
    simp [ztst, zu_at]
  · rw [show s.2.1 + 1 - 1 = s.2.1 by omega, zTf_ne (by decide)]
    simp [ztst, zu_at]
  · rw [show s.2.1 + 1 - 1 = s.2.1 by omega, zTf_ne (by decide)]
    simp [ztst, zu_at]
  · rw [show s.2.1 + 1 - 1 = s.2.1 by omega]
    exact zGp_c h4 (fun j hj f hf => eo j f hj hf)
  · show zwv (ztst 0 len s).1 j = zwv (zTf (ztst 0 len s).1) j
    unfold zwv
    rw [zTf_ne (by decide), zTf_ne (by decide), zTf_ne (by decide)]
set_option maxHeartbeats 4000000 in
set_option maxRecDepth 100000 in
theorem sp_tread {d t len : Nat} {M : zMI} {L : zML} {b : Nat → Nat} (hl : len ≤ 1600) (hb : ∀ i, i < len → M 1 i = nI (b i) ∧ b i < 256) (hk : zkn M) : Sy yX10_read YX10_read (d + 2) [.ref 2, .ref 1, .int (nI len)] M L (zRf t) (fun v0 M' L' R' => v0 = none ∧ L = L' ∧ R' = zRf t ∧ (∃ T c, zTT M' T c (0, nI 0, 0, -1) ∧ zTok b len T c) ∧ ∀ x, (x < 2 ∨ 7 < x) → M' x = M x) := by
  refine Sp.of (by decide +kernel) rfl (fun h => by first | exact h | cases h) (Nat.le_of_ble_eq_true rfl) ?_
  intro w G
  have loop2 : ∀ (s : zTK), zSc b len s → ∀ k j (M3 : zMI), j + k = s.2.1 + 1 → zMK M3 (ztst 0 len s) → (∀ j', j' < j → M3 7 j' = zwd (zwv (ztst 0 len s).1 j')) → M3 2 8 = nI 0 → M3 2 9 = nI 0 → M3 2 10 = nI 0 → M3 2 11 = -1 → (∀ x, (x < 2 ∨ 7 < x) → M3 x = M x) → WP w YX10_read (d + 2, SS, 0, 0) G (some (zXp (fun v0 M' L' R' => v0 = none ∧ L = L' ∧ R' = zRf t ∧ (∃ T c, zTT M' T c (0, nI 0, 0, -1) ∧ zTok b len T c) ∧ ∀ x, (x < 2 ∨ 7 < x) → M' x = M x))) 65 [(3, .int (nI j)), (0, .ref 2), (1, .ref 1), (2, .int (nI len))] [] SS M3 L (zRf t) := by
    intro s hs
    have htok := zSc_end hs
    have hbd := zTok_b hl (fun i hi => (hb i hi).2) htok
    have hcl := hs.1
    intro k
    induction k with
    | zero =>
      intro j M3 hj h3 hw e8 e9 e10 e11 hx
      refine wp_iload_n (q := 66) dX10_read_65 0 rfl rfl ?_
      refine wp_aload_n (q := 67) dX10_read_66 1 rfl rfl ?_
      refine wp_getI (q := 70) dX10_read_67 zf_RX10_30 rfl zsh_2 rfl ?_
      rw [h3.2.1, show (ztst 0 len s).2.1 = s.2.1 + 1 from rfl]
      refine wp_icmp_geN (tgt := 120) (q := 73) dX10_read_70 (by decide) rfl (by omega) (by omega) (fun _ => ?_) (fun hn => absurd hn (by omega))
      refine wp_return dX10_read_120 rfl ⟨rfl, ⟨rfl, rfl, rfl, ⟨zTf (ztst 0 len s).1, s.2.1 + 1, ⟨by omega, by omega, by show 0 < s.2.1 + 1; omega, by decide, h3.2.1, e8, e9, e10, e11, fun i hi => ?_⟩, htok⟩, hx⟩⟩ rfl rfl
      obtain ⟨b0, b1, b2, b3⟩ := hbd i hi
      obtain ⟨c0, c1, c2, c3⟩ := h3.2.2.2 i hi
      refine ⟨?_, b0, ?_, b1, ?_, b2, ?_, b3, hw i (by omega)⟩
      · rw [zTf_ne (by decide)]; exact c0
      · rw [zTf_ne (by decide)]; exact c1
      · rw [zTf_ne (by decide)]; exact c2
      · rw [zTf_ne (by decide)]; exact c3
    | succ k ih =>
      intro j M3 hj h3 hw e8 e9 e10 e11 hx
      obtain ⟨b0, b1, b2, b3⟩ := hbd j (by omega)
      rw [zTf_ne (by decide)] at b0 b1 b2 b3
      obtain ⟨c0, c1, c2, c3⟩ := h3.2.2.2 j (by show j < s.2.1 + 1; omega)
      have hkn : zkn M3 := fun w hw => by rw [hx 8 (by omega)]; exact hk w hw
      have store : ∀ v, v = zwd (zwv (ztst 0 len s).1 j) → WP w YX10_read (d + 2, SS, 0, 0) G (some (zXp (fun v0 M' L' R' => v0 = none ∧ L = L' ∧ R' = zRf t ∧ (∃ T c, zTT M' T c (0, nI 0, 0, -1) ∧ zTok b len T c) ∧ ∀ x, (x < 2 ∨ 7 < x) → M' x = M x))) 113 [(3, .int (nI j)), (0, .ref 2), (1, .ref 1), (2, .int (nI len))] [.int v, .int (nI j), .ref 7] SS M3 L (zRf t) := by
        intro v hv
        refine wp_iast (q := 114) _ dX10_read_113 zsh_7 rfl (by omega) (by decide) rfl ?_
        refine wp_iincN (q := 117) (loc' := [(3, _), (0, _), (1, _), (2, _)]) (n := 1) dX10_read_114 rfl 0 rfl (by decide) rfl rfl ?_
        refine wp_goto (tgt := 65) dX10_read_117 (by decide) ?_
        refine WP.sub (loc' := [(3, _), (0, _), (1, _), (2, _)]) [0, 1, 2, 3] rfl ?_
        refine ih (j + 1) _ (by omega) ⟨h3.1, by rw [zu_ne (by decide)]; exact h3.2.1, by rw [zu_ne (by decide)]; exact h3.2.2.1, fun j' hj' => by rw [zu_ne (by decide), zu_ne (by decide), zu_ne (by decide), zu_ne (by decide)]; exact h3.2.2.2 j' hj'⟩ (fun j' hj' => ?_) (by rw [zu_ne (by decide)]; exact e8) (by rw [zu_ne (by decide)]; exact e9) (by rw [zu_ne (by decide)]; exact e10) (by rw [zu_ne (by decide)]; exact e11) (fun x hx' => by rw [zu_ne (by omega)]; exact hx x hx')
        by_cases e : j' = j
        · subst e; rw [zu_s]; exact hv
        · rw [zu_k e]; exact hw j' (by omega)
      have none1 : ¬ ((ztst 0 len s).1 j 0 = 1 ∧ (ztst 0 len s).1 j 3 ≤ 6) → WP w YX10_read (d + 2, SS, 0, 0) G (some (zXp (fun v0 M' L' R' => v0 = none ∧ L = L' ∧ R' = zRf t ∧ (∃ T c, zTT M' T c (0, nI 0, 0, -1) ∧ zTok b len T c) ∧ ∀ x, (x < 2 ∨ 7 < x) → M' x = M x))) 112 [(3, .int (nI j)), (0, .ref 2), (1, .ref 1), (2, .int (nI len))] [.int (nI j), .ref 7] SS M3 L (zRf t) := by
        intro hn
        refine wp_iconst (q := 113) dX10_read_112 zq_iconst_m1 rfl ?_
        refine WP.sub (loc' := [(3, _), (0, _), (1, _), (2, _)]) [0, 1, 2, 3] rfl ?_
        exact store _ (by unfold zwv; rw [if_neg hn]; rfl)
      refine wp_iload_n (q := 66) dX10_read_65 0 rfl rfl ?_
      refine wp_aload_n (q := 67) dX10_read_66 1 rfl rfl ?_
      refine wp_getI (q := 70) dX10_read_67 zf_RX10_30 rfl zsh_2 rfl ?_
      rw [h3.2.1, show (ztst 0 len s).2.1 = s.2.1 + 1 from rfl]
      refine wp_icmp_geN (tgt := 120) (q := 73) dX10_read_70 (by decide) rfl (by omega) (by omega) (fun hn => absurd hn (by omega)) (fun _ => ?_)
      refine wp_aload_n (q := 74) dX10_read_73 1 rfl rfl ?_
      refine wp_getR (q := 77) dX10_read_74 zf_RX10_24 rfl zsh_2 (zr_2_4 _) rfl ?_
      refine wp_iload_n (q := 78) dX10_read_77 0 rfl rfl ?_
      refine wp_aload_n (q := 79) dX10_read_78 1 rfl rfl ?_
      refine wp_getR (q := 82) dX10_read_79 zf_RX10_9 rfl zsh_2 (zr_2_0 _) rfl ?_
      refine wp_iload_n (q := 83) dX10_read_82 0 rfl rfl ?_
      refine wp_iald (q := 84) _ dX10_read_83 zsh_3 rfl (by omega) (by decide) rfl ?_
      rw [c0]
      refine wp_iconst (q := 85) dX10_read_84 zq_iconst_1 rfl ?_
      refine wp_icmp_neN (tgt := 112) (q := 88) dX10_read_85 (by decide) rfl (by omega) (by omega) (fun d0 => ?_) (fun d0 => ?_)
      · skip
        refine WP.sub (loc' := [(3, _), (0, _), (1, _), (2, _)]) [0, 1, 2, 3] rfl ?_
        exact none1 (fun e => d0 e.1)
      · skip
        refine wp_aload_n (q := 89) dX10_read_88 1 rfl rfl ?_
        refine wp_getR (q := 92) dX10_read_89 zf_RX10_21 rfl zsh_2 (zr_2_3 _) rfl ?_
        refine wp_iload_n (q := 93) dX10_read_92 0 rfl rfl ?_
        refine wp_iald (q := 94) _ dX10_read_93 zsh_6 rfl (by omega) (by decide) rfl ?_
        rw [c3]
        refine wp_bipush (q := 96) dX10_read_94 zq_bipush_6 rfl ?_
        refine wp_icmp_gtN (tgt := 112) (q := 99) dX10_read_96 (by decide) rfl (by omega) (by omega) (fun d1 => ?_) (fun d1 => ?_)
        · skip
          refine WP.sub (loc' := [(3, _), (0, _), (1, _), (2, _)]) [0, 1, 2, 3] rfl ?_
          exact none1 (fun e => by omega)
        · skip
          refine wp_aload_n (q := 100) dX10_read_99 1 rfl rfl ?_
          refine wp_aload_n (q := 101) dX10_read_100 1 rfl rfl ?_
          refine wp_getR (q := 104) dX10_read_101 zf_RX10_18 rfl zsh_2 (zr_2_2 _) rfl ?_
          refine wp_iload_n (q := 105) dX10_read_104 0 rfl rfl ?_
          refine wp_iald (q := 106) _ dX10_read_105 zsh_5 rfl (by omega) (by decide) rfl ?_
          rw [c2]
          refine wp_cvx (q := 109) (sp_wordOf (d := 0) hkn b2) zm_X10_wordOf zl_RX10_71 dX10_read_106 rfl (by omega) (Nat.le_of_ble_eq_true rfl) zsh_2 rfl rfl ?_
          refine wp_goto (tgt := 113) dX10_read_109 (by decide) ?_
          refine WP.sub (loc' := [(3, _), (0, _), (1, _), (2, _)]) [0, 1, 2, 3] rfl ?_
          exact store _ (by unfold zwv; rw [if_pos ⟨d0, d1⟩])
  have loop : ∀ k i (M2 : zMI) (s : zTK), i + k = len → zMK M2 s → zSc b i s → M2 2 8 = nI 0 → M2 2 9 = nI 0 → M2 2 10 = nI 0 → M2 2 11 = -1 → (∀ x, (x < 2 ∨ 7 < x) → M2 x = M x) → WP w YX10_read (d + 2, SS, 0, 0) G (some (zXp (fun v0 M' L' R' => v0 = none ∧ L = L' ∧ R' = zRf t ∧ (∃ T c, zTT M' T c (0, nI 0, 0, -1) ∧ zTok b len T c) ∧ ∀ x, (x < 2 ∨ 7 < x) → M' x = M x))) 32 [(3, .int (nI i)), (0, .ref 2), (1, .ref 1), (2, .int (nI len))] [] SS M2 L (zRf t) := by
    intro k
    induction k with
    | zero =>
      intro i M2 s hi h2 hs e8 e9 e10 e11 hx
      have hil : i = len := by omega
      subst hil
      have hr3 := zrn_le b i
      refine wp_iload_n (q := 33) dX10_read_32 0 rfl rfl ?_
      refine wp_iload_n (q := 34) dX10_read_33 3 rfl rfl ?_
      refine wp_icmp_geN (tgt := 57) (q := 37) dX10_read_34 (by decide) rfl (by omega) (by omega) (fun _ => ?_) (fun hn => absurd hn (by omega))
      refine wp_aload_n (q := 58) dX10_read_57 1 rfl rfl ?_
      refine wp_iconst (q := 59) dX10_read_58 zq_iconst_0 rfl ?_
      refine wp_iload_n (q := 60) dX10_read_59 3 rfl rfl ?_
      refine wp_cvy (q := 63) (sp_start (d := 0) (k := 0) (pl := i) h2 (by decide) (by have := hs.2.1; omega) (by have := hs.1; omega)) zm_X10_start zl_RX10_68 dX10_read_60 rfl (by omega) (Nat.le_of_ble_eq_true rfl) zsh_2 rfl rfl ?_
      rintro _ M3 _ _ ⟨rfl, rfl, rfl, h3, hk3⟩
      refine wp_iconst (q := 64) dX10_read_63 zq_iconst_0 rfl ?_
      refine wp_istore_n (q := 65) (loc' := [(3, _), (0, _), (1, _), (2, _)]) dX10_read_64 rfl (by decide) rfl rfl ?_
      refine WP.sub (loc' := [(3, _), (0, _), (1, _), (2, _)]) [0, 1, 2, 3] rfl ?_
      exact loop2 s hs (s.2.1 + 1) 0 M3 (Nat.zero_add _) h3 (fun j' hj' => absurd hj' (Nat.not_lt_zero _)) (by rw [hk3.2 8 (by decide) (by decide)]; exact e8) (by rw [hk3.2 9 (by decide) (by decide)]; exact e9) (by rw [hk3.2 10 (by decide) (by decide)]; exact e10) (by rw [hk3.2 11 (by decide) (by decide)]; exact e11) (fun x hx' => by rw [hk3.1 x (by omega) (by omega) (by omega) (by omega) (by omega)]; exact hx x hx')
    | succ k ih =>
      intro i M2 s hi h2 hs e8 e9 e10 e11 hx
      have hr3 := zrn_le b i
      obtain ⟨t1, t2⟩ := hb i (by omega)
      have hpre : s.2.2 ≠ 3 → 1 ≤ s.2.1 ∧ s.1 (s.2.1 - 1) 3 ≤ 1600 := by
        intro c
        have hi : 0 < i ∧ zcl (b (i - 1)) ≠ 0 := by
          rw [hs.2.1] at c
          unfold zrn at c
          split at c
          · exact absurd rfl c
          · split at c
            · exact absurd rfl c
            · exact ⟨by omega, by assumption⟩
        obtain ⟨l1, l2, l3⟩ := zSc_last hs hi.1 hi.2
        exact ⟨l1, (zTk_b (len := i) (by omega) (fun i' hi' => (hb i' (by omega)).2) (hs.2.2.1 _ (by omega))).2.2.2⟩
      refine wp_iload_n (q := 33) dX10_read_32 0 rfl rfl ?_
      refine wp_iload_n (q := 34) dX10_read_33 3 rfl rfl ?_
      refine wp_icmp_geN (tgt := 57) (q := 37) dX10_read_34 (by decide) rfl (by omega) (by omega) (fun hn => absurd hn (by omega)) (fun _ => ?_)
      refine wp_iload_n (q := 38) dX10_read_37 0 rfl rfl ?_
      refine wp_aload_n (q := 39) dX10_read_38 2 rfl rfl ?_
      refine wp_alen (q := 40) dX10_read_39 zsh_1 (by simp [zTys]) rfl ?_
      refine wp_icmp_geN (tgt := 57) (q := 43) dX10_read_40 (by decide) rfl (by omega) (by omega) (fun hn => absurd hn (by omega)) (fun _ => ?_)
      refine wp_aload_n (q := 44) dX10_read_43 1 rfl rfl ?_
      refine wp_aload_n (q := 45) dX10_read_44 2 rfl rfl ?_
      refine wp_iload_n (q := 46) dX10_read_45 0 rfl rfl ?_
      refine wp_iald (q := 47) _ dX10_read_46 zsh_1 rfl (by omega) (by decide) rfl ?_
      rw [hx 1 (by omega), t1]
      refine wp_iload_n (q := 48) dX10_read_47 0 rfl rfl ?_
      refine wp_cvy (q := 51) (sp_take (d := 0) (pl := i) h2 t2 (by have := hs.2.1; omega) (by have := hs.1; omega) hpre) zm_X10_take zl_RX10_64 dX10_read_48 rfl (by omega) (Nat.le_of_ble_eq_true rfl) zsh_2 rfl rfl ?_
      rintro _ M3 _ _ ⟨rfl, rfl, rfl, h3, hk3⟩
      refine wp_iincN (q := 54) (loc' := [(3, _), (0, _), (1, _), (2, _)]) (n := 1) dX10_read_51 rfl 0 rfl (by decide) rfl rfl ?_
      refine wp_goto (tgt := 32) dX10_read_54 (by decide) ?_
      refine WP.sub (loc' := [(3, _), (0, _), (1, _), (2, _)]) [0, 1, 2, 3] rfl ?_
      exact ih (i + 1) M3 _ (by omega) h3 (zSc_k hs) (by rw [hk3.2 8 (by decide) (by decide)]; exact e8) (by rw [hk3.2 9 (by decide) (by decide)]; exact e9) (by rw [hk3.2 10 (by decide) (by decide)]; exact e10) (by rw [hk3.2 11 (by decide) (by decide)]; exact e11) (fun x hx' => by rw [hk3.1 x (by omega) (by omega) (by omega) (by omega) (by omega)]; exact hx x hx')
  refine wp_aload_n (q := 1) dX10_read_0 0 rfl rfl ?_
  refine wp_iconst (q := 2) dX10_read_1 zq_iconst_0 rfl ?_
  refine wp_putI (q := 5) dX10_read_2 zf_RX10_30 rfl zsh_2 rfl ?_
  refine wp_aload_n (q := 6) dX10_read_5 0 rfl rfl ?_
  refine wp_iconst (q := 7) dX10_read_6 zq_iconst_3 rfl ?_
  refine wp_putI (q := 10) dX10_read_7 zf_RX10_34 rfl zsh_2 rfl ?_
  refine wp_aload_n (q := 11) dX10_read_10 0 rfl rfl ?_
  refine wp_iconst (q := 12) dX10_read_11 zq_iconst_0 rfl ?_
  refine wp_putI (q := 15) dX10_read_12 zf_RX10_37 rfl zsh_2 rfl ?_
  refine wp_aload_n (q := 16) dX10_read_15 0 rfl rfl ?_
  refine wp_iconst (q := 17) dX10_read_16 zq_iconst_0 rfl ?_
  refine wp_putI (q := 20) dX10_read_17 zf_RX10_40 rfl zsh_2 rfl ?_
  refine wp_aload_n (q := 21) dX10_read_20 0 rfl rfl ?_
  refine wp_iconst (q := 22) dX10_read_21 zq_iconst_0 rfl ?_
  refine wp_putI (q := 25) dX10_read_22 zf_RX10_43 rfl zsh_2 rfl ?_
  refine wp_aload_n (q := 26) dX10_read_25 0 rfl rfl ?_
  refine wp_iconst (q := 27) dX10_read_26 zq_iconst_m1 rfl ?_
  refine wp_putI (q := 30) dX10_read_27 zf_RX10_46 rfl zsh_2 rfl ?_
  refine wp_iconst (q := 31) dX10_read_30 zq_iconst_0 rfl ?_
  refine wp_istore_n (q := 32) (loc' := [(3, _), (0, _), (1, _), (2, _)]) dX10_read_31 rfl (by decide) rfl rfl ?_
  refine WP.sub (loc' := [(3, _), (0, _), (1, _), (2, _)]) [0, 1, 2, 3] rfl ?_
  refine loop len 0 _ (fun _ _ => 0, 0, 3) (Nat.zero_add _) ⟨Nat.zero_le _, ?_, ?_, fun j hj => absurd hj (Nat.not_lt_zero _)⟩ (zSc_0 b _) ?_ ?_ ?_ ?_ (fun x hx => ?_)
  · simp [zu_at]
  · simp [zu_at]
  · simp [zu_at]
  · simp [zu_at]
  · simp [zu_at]
  · simp [zu_at]
  · rw [zu_ne (by omega), zu_ne (by omega), zu_ne (by omega), zu_ne (by omega), zu_ne (by omega), zu_ne (by omega)]

