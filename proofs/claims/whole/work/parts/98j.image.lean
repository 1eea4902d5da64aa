set_option maxHeartbeats 4000000 in
set_option maxRecDepth 100000 in
theorem sp_mchecked {d a ln k : Nat} {M : zMI} {L : zML} {R : zMR} {b : Nat → Nat} (hs : SS[a]? = some (.inl (ln, .int))) (hk : k ≤ ln) (hln : ln ≤ 1600) (hb : ∀ i, i < k → M a i = nI (b i) ∧ b i < 256) : Sx yX12_checked YX12_checked (d) [.ref a, .int (nI k)] M L R (some (.int (nI (zchk b k)))) M L R := by
  refine Sp.of (by decide +kernel) rfl (fun h => by first | exact h | cases h) (Nat.le_of_ble_eq_true rfl) ?_
  intro w G
  have loop : ∀ q i, i + q = k → WP w YX12_checked (d, SS, 0, 0) G (some (zX (some (.int (nI (zchk b k)))) M L R)) 6 [(3, .int (nI i)), (2, .int (nI (zchk b i))), (0, .ref a), (1, .int (nI k))] [] SS M L R := by
    intro q
    induction q with
    | zero =>
      intro i hi
      refine wp_iload_n (q := 7) dX12_checked_6 0 rfl rfl ?_
      refine wp_iload_n (q := 8) dX12_checked_7 3 rfl rfl ?_
      refine wp_icmp_geN (tgt := 29) (q := 11) dX12_checked_8 (by decide) rfl (by omega) (by omega) (fun _ => ?_) (fun hn => absurd hn (by first | omega | exact fun h => h | exact fun h => h trivial))
      rw [show i = k by omega]
      refine wp_iload_n (q := 30) dX12_checked_29 1 rfl rfl ?_
      exact wp_ireturn dX12_checked_30 rfl ⟨rfl, rfl, rfl, rfl, rfl⟩ rfl rfl
    | succ q ih =>
      intro i hi
      have hlt := zchk_lt b i
      obtain ⟨b1, b2⟩ := hb i (by omega)
      refine wp_iload_n (q := 7) dX12_checked_6 0 rfl rfl ?_
      refine wp_iload_n (q := 8) dX12_checked_7 3 rfl rfl ?_
      refine wp_icmp_geN (tgt := 29) (q := 11) dX12_checked_8 (by decide) rfl (by omega) (by omega) (fun hn => absurd hn (by first | omega | exact fun h => h | exact fun h => h trivial)) (fun _ => ?_)
      refine wp_iconst (q := 12) dX12_checked_11 zq_iconst_3 rfl ?_
      refine wp_iload_n (q := 13) dX12_checked_12 1 rfl rfl ?_
      refine wp_imulN (q := 14) dX12_checked_13 rfl ?_
      refine wp_aload_n (q := 15) dX12_checked_14 2 rfl rfl ?_
      refine wp_iload_n (q := 16) dX12_checked_15 0 rfl rfl ?_
      refine wp_iald (q := 17) _ dX12_checked_16 (by first | assumption | rfl) rfl (by omega) (by omega) rfl ?_
      rw [b1]
      refine wp_iaddN (q := 18) dX12_checked_17 rfl ?_
      refine wp_sipush (q := 21) dX12_checked_18 zq_sipush_251 rfl ?_
      refine wp_iremN (q := 22) dX12_checked_21 (by omega) (by omega) (by omega) rfl ?_
      refine wp_istore_n (q := 23) (loc' := [(2, _), (3, _), (0, _), (1, _)]) dX12_checked_22 rfl (by decide) rfl rfl ?_
      refine wp_iincN (q := 26) (loc' := [(3, _), (2, _), (0, _), (1, _)]) (n := 1) dX12_checked_23 rfl 1 rfl (by decide) rfl rfl ?_
      refine wp_goto (tgt := 6) dX12_checked_26 (by decide) ?_
      refine WP.sub (loc' := [(3, _), (2, _), (0, _), (1, _)]) [0, 1, 2, 3] rfl ?_
      exact ih (i + 1) (by omega)
  refine wp_sipush (q := 3) dX12_checked_0 zq_sipush_227 rfl ?_
  refine wp_istore_n (q := 4) (loc' := [(2, _), (0, _), (1, _)]) dX12_checked_3 rfl (by decide) rfl rfl ?_
  refine wp_iconst (q := 5) dX12_checked_4 zq_iconst_0 rfl ?_
  refine wp_istore_n (q := 6) (loc' := [(3, _), (2, _), (0, _), (1, _)]) dX12_checked_5 rfl (by decide) rfl rfl ?_
  refine WP.sub (loc' := [(3, _), (2, _), (0, _), (1, _)]) [0, 1, 2, 3] rfl ?_
  exact loop k 0 (Nat.zero_add _)
def zImQ (M0 M : zMI) (k : Nat) (f : Nat → Nat) : Prop := M 177 98 = nI k ∧ (∀ i, i < k → M 248 i = nI (f i)) ∧ (∀ j, j ≠ 98 → M 177 j = M0 177 j) ∧ ∀ x, x ≠ 177 → x ≠ 248 → M x = M0 x
set_option maxHeartbeats 4000000 in
set_option maxRecDepth 100000 in
theorem sp_mwrites {d t k x : Nat} {M0 M : zMI} {L : zML} {f : Nat → Nat} (h : zImQ M0 M k f) (h55 : k < 55) (hx : f k = x) : Sy yX12_writes YX12_writes (d) [.ref 177, .int (nI x)] M L (zRf t) (fun v0 M' L' R' => v0 = none ∧ L = L' ∧ R' = zRf t ∧ zImQ M0 M' (k + 1) f) := by
  refine Sp.of (by decide +kernel) rfl (fun h => by first | exact h | cases h) (Nat.le_of_ble_eq_true rfl) ?_
  intro w G
  obtain ⟨a1, a2, a3, a4⟩ := h
  refine wp_aload_n (q := 1) dX12_writes_0 0 rfl rfl ?_
  refine wp_getR (q := 4) dX12_writes_1 zf_RX12_230 rfl zsh_177 (zr_177_97 _) rfl ?_
  refine wp_aload_n (q := 5) dX12_writes_4 0 rfl rfl ?_
  refine wp_getI (q := 8) dX12_writes_5 zf_RX12_714 rfl zsh_177 rfl ?_
  rw [a1]
  refine wp_iload_n (q := 9) dX12_writes_8 1 rfl rfl ?_
  refine wp_iast (q := 10) _ dX12_writes_9 zsh_248 rfl (by omega) (by decide) rfl ?_
  refine wp_aload_n (q := 11) dX12_writes_10 0 rfl rfl ?_
  refine wp_dup (q := 12) dX12_writes_11 rfl rfl ?_
  refine wp_getI (q := 15) dX12_writes_12 zf_RX12_714 rfl zsh_177 rfl ?_
  rw [zu_ne (by decide), a1]
  refine wp_iconst (q := 16) dX12_writes_15 zq_iconst_1 rfl ?_
  refine wp_iaddN (q := 17) dX12_writes_16 rfl ?_
  refine wp_putI (q := 20) dX12_writes_17 zf_RX12_714 rfl zsh_177 rfl ?_
  refine wp_return dX12_writes_20 rfl ⟨rfl, ⟨rfl, rfl, rfl, zu_s, fun i hi => ?_, fun j hj => by rw [zu_k hj, zu_ne (by decide)]; exact a3 j hj, fun x h0 h1 => by rw [zu_ne h0, zu_ne h1]; exact a4 x h0 h1⟩⟩ rfl rfl
  rw [zu_ne (by decide)]
  by_cases e : i = k
  · rw [e, zu_s, hx]
  · rw [zu_k e]
    exact a2 i (by omega)
set_option maxHeartbeats 4000000 in
set_option maxRecDepth 100000 in
theorem sp_mimage {d t n : Nat} {M : zMI} {L : zML} {g : zGd} {v : Nat → Nat} {hs : List (Nat → Nat)} {m : zMs} (h : zMo M L n g v hs m) : Sy yX12_image YX12_image (d + 1) [.ref 177] M L (zRf t) (zMn M L t n g v hs (zMi m (7 + 6 * n) (zib n v)) (.int (nI (7 + 6 * n)))) := by
  refine Sp.of (by decide +kernel) rfl (fun h => by first | exact h | cases h) (Nat.le_of_ble_eq_true rfl) ?_
  intro w G
  have hnw := h.1.2.1
  have hv := hnw.1
  have h8 := hv.1
  obtain ⟨v8, vw, vi, v99, vg, w0, w1, w2⟩ := id hv
  have hv9 : ∀ j, j < 3 → v j ≤ 9999 := fun j hj => by
    have hc : j = 0 ∨ j = 1 ∨ j = 2 := by omega
    rcases hc with rfl | rfl | rfl
    · exact w0
    · exact w1
    · exact w2
  have hvs : ∀ j, j < 6 * n → v (3 + j) ≤ 255 := fun j hj => by
    have hs1 : j / 6 < n := by omega
    have q1 := vw _ hs1
    have q2 := v99 _ hs1
    have q3 := vg _ 0 hs1 (by decide)
    have q4 := vg _ 1 hs1 (by decide)
    have hc : j % 6 = 0 ∨ j % 6 = 1 ∨ j % 6 = 2 ∨ j % 6 = 3 ∨ j % 6 = 4 ∨ j % 6 = 5 := by omega
    rcases hc with e | e | e | e | e | e
    · have q : v (3 + 6 * (j / 6)) < n := q1
      rw [show 3 + j = 3 + 6 * (j / 6) by omega]; omega
    · have q : v (4 + 6 * (j / 6)) ≤ 99 := q2
      rw [show 3 + j = 4 + 6 * (j / 6) by omega]; omega
    · have q : v (5 + 6 * (j / 6) + 2 * 0) ≤ 2 := q3.1
      rw [show 3 + j = 5 + 6 * (j / 6) + 2 * 0 by omega]; omega
    · have q : v (6 + 6 * (j / 6) + 2 * 0) ≤ 9 := q3.2
      rw [show 3 + j = 6 + 6 * (j / 6) + 2 * 0 by omega]; omega
    · have q : v (5 + 6 * (j / 6) + 2 * 1) ≤ 2 := q4.1
      rw [show 3 + j = 5 + 6 * (j / 6) + 2 * 1 by omega]; omega
    · have q : v (6 + 6 * (j / 6) + 2 * 1) ≤ 9 := q4.2
      rw [show 3 + j = 6 + 6 * (j / 6) + 2 * 1 by omega]; omega
  obtain ⟨f, hf⟩ : ∃ f, zib n v = f := ⟨_, rfl⟩
  have f0 : ∀ j, j < 3 → f (2 * j) = v j / 256 ∧ f (2 * j + 1) = v j % 256 := fun j hj => by
    rw [← hf]
    unfold zib zib0
    rw [if_pos (by omega), if_pos (by omega), if_pos (by omega), if_pos (by omega), if_pos (by omega), if_neg (by omega)]
    rw [show 2 * j / 2 = j by omega, show (2 * j + 1) / 2 = j by omega]
    exact ⟨rfl, rfl⟩
  have f1 : ∀ j, j < 6 * n → f (6 + j) = v (3 + j) := fun j hj => by
    rw [← hf]
    unfold zib zib0
    rw [if_pos (by omega), if_neg (by omega), show 6 + j - 3 = 3 + j by omega]
  have f2 : f (6 + 6 * n) = zchk f (6 + 6 * n) := by
    rw [← hf]
    show (if 6 + 6 * n < 6 + 6 * n then _ else _) = _
    rw [if_neg (by omega)]
    refine zchk_c _ (fun j hj => ?_)
    unfold zib
    rw [if_pos hj]
  have f9 : ∀ i, i < 6 + 6 * n → f i < 256 := fun i hi => by
    by_cases c : i < 6
    · have q := f0 (i / 2) (by omega)
      have q2 := hv9 (i / 2) (by omega)
      by_cases e : i % 2 = 0
      · rw [show i = 2 * (i / 2) by omega, q.1]; omega
      · rw [show i = 2 * (i / 2) + 1 by omega, q.2]; omega
    · have q := hvs (i - 6) (by omega)
      have q1 := f1 (i - 6) (by omega)
      rw [show i = 6 + (i - 6) by omega, q1]
      omega
  have hgo : ∀ {M2 : zMI} {k : Nat}, zImQ M M2 k f → M2 204 2 = nI n ∧ M2 215 = M 215 := fun e => ⟨by rw [e.2.2.2 204 (by decide) (by decide)]; exact h.1.1, e.2.2.2 215 (by decide) (by decide)⟩
  have loop2 : ∀ q j (M2 : zMI), j + q = 6 * n → zImQ M M2 (6 + j) f → WP w YX12_image (d + 1, SS, 0, 0) G (some (zXp (zMn M L t n g v hs (zMi m (7 + 6 * n) (zib n v)) (.int (nI (7 + 6 * n)))))) 48 [(1, .int (nI j)), (0, .ref 177)] [] SS M2 L (zRf t) := by
    intro q
    induction q with
    | zero =>
      intro j M2 hj hM
      rw [show j = 6 * n by omega] at hM ⊢
      have hz := zchk_lt f (6 + 6 * n)
      refine wp_iload_n (q := 49) dX12_image_48 0 rfl rfl ?_
      refine wp_bipush (q := 51) dX12_image_49 zq_bipush_6 rfl ?_
      refine wp_aload_n (q := 52) dX12_image_51 1 rfl rfl ?_
      refine wp_cvx (q := 55) (sp_mpm (d := 0) (hgo hM).1) zm_X12_peopleMany zl_RX12_408 dX12_image_52 rfl (by omega) (Nat.le_of_ble_eq_true rfl) zsh_177 rfl rfl ?_
      refine wp_imulN (q := 56) dX12_image_55 rfl ?_
      refine wp_icmp_geN (tgt := 77) (q := 59) dX12_image_56 (by decide) rfl (by omega) (by omega) (fun _ => ?_) (fun hn => absurd hn (by first | omega | exact fun h => h | exact fun h => h trivial))
      refine wp_aload_n (q := 78) dX12_image_77 1 rfl rfl ?_
      refine wp_aload_n (q := 79) dX12_image_78 1 rfl rfl ?_
      refine wp_getR (q := 82) dX12_image_79 zf_RX12_230 rfl zsh_177 (zr_177_97 _) rfl ?_
      refine wp_aload_n (q := 83) dX12_image_82 1 rfl rfl ?_
      refine wp_getI (q := 86) dX12_image_83 zf_RX12_714 rfl zsh_177 rfl ?_
      rw [hM.1]
      refine wp_csx (q := 89) (sp_mchecked (d := 0) (k := 6 + 6 * n) (b := f) zsh_248 (by omega) (by decide) (fun i hi => ⟨hM.2.1 i hi, f9 i hi⟩)) zm_X12_checked zl_RX12_720 dX12_image_86 rfl (by omega) (Nat.le_of_ble_eq_true rfl) rfl ?_
      refine wp_cvy (q := 92) (sp_mwrites (d := 0) hM (by omega) f2) zm_X12_writes zl_RX12_717 dX12_image_89 rfl (by omega) (Nat.le_of_ble_eq_true rfl) zsh_177 rfl rfl ?_
      rintro _ M3 L3 _ ⟨rfl, rfl, rfl, m3⟩
      refine wp_aload_n (q := 93) dX12_image_92 1 rfl rfl ?_
      refine wp_getI (q := 96) dX12_image_93 zf_RX12_714 rfl zsh_177 rfl ?_
      rw [m3.1, show 6 + 6 * n + 1 = 7 + 6 * n by omega]
      have m4 := m3
      rw [show 6 + 6 * n + 1 = 7 + 6 * n by omega] at m4
      refine wp_ireturn dX12_image_96 rfl ⟨rfl, ⟨rfl, rfl, zMo_m h (fun x x1 x2 x3 x4 => m3.2.2.2 x x1 x4) (fun k hk => m3.2.2.1 k (by omega)) rfl ?_, fun x hx => ⟨m3.2.2.2 x (by omega) (by omega), rfl⟩⟩⟩ rfl rfl
      obtain ⟨c1, c2, c3, c4, c5, c6, c7, c8, c9, c10, c11⟩ := h.2.2.2.1
      rw [hf]
      exact ⟨by rw [m4.2.2.1 1 (by decide)]; exact c1, c2, fun i hi => by rw [m4.2.2.2 178 (by decide) (by decide)]; exact c3 i hi, fun i hi => by rw [m4.2.2.2 179 (by decide) (by decide)]; exact c4 i hi, c5, c6, by rw [m4.2.2.1 7 (by decide)]; exact c7, by rw [m4.2.2.1 8 (by decide)]; exact c8, m4.1, (by show 7 + 6 * n ≤ 55; omega), m4.2.1⟩
    | succ q ih =>
      intro j M2 hj hM
      have hj6 : j < 6 * n := by omega
      have hb := hvs j hj6
      have e := hnw.2 (3 + j) (by omega)
      refine wp_iload_n (q := 49) dX12_image_48 0 rfl rfl ?_
      refine wp_bipush (q := 51) dX12_image_49 zq_bipush_6 rfl ?_
      refine wp_aload_n (q := 52) dX12_image_51 1 rfl rfl ?_
      refine wp_cvx (q := 55) (sp_mpm (d := 0) (hgo hM).1) zm_X12_peopleMany zl_RX12_408 dX12_image_52 rfl (by omega) (Nat.le_of_ble_eq_true rfl) zsh_177 rfl rfl ?_
      refine wp_imulN (q := 56) dX12_image_55 rfl ?_
      refine wp_icmp_geN (tgt := 77) (q := 59) dX12_image_56 (by decide) rfl (by omega) (by omega) (fun hn => absurd hn (by first | omega | exact fun h => h | exact fun h => h trivial)) (fun _ => ?_)
      refine wp_aload_n (q := 60) dX12_image_59 1 rfl rfl ?_
      refine wp_aload_n (q := 61) dX12_image_60 1 rfl rfl ?_
      refine wp_getR (q := 64) dX12_image_61 zf_RX12_127 rfl zsh_177 (zr_177_52 _) rfl ?_
      refine wp_iconst (q := 65) dX12_image_64 zq_iconst_3 rfl ?_
      refine wp_iload_n (q := 66) dX12_image_65 0 rfl rfl ?_
      refine wp_iaddN (q := 67) dX12_image_66 rfl ?_
      refine wp_iald (q := 68) _ dX12_image_67 zsh_215 rfl (by omega) (by decide) rfl ?_
      rw [(hgo hM).2, e]
      refine wp_cvy (q := 71) (sp_mwrites (d := 0) hM (by omega) (f1 j hj6)) zm_X12_writes zl_RX12_717 dX12_image_68 rfl (by omega) (Nat.le_of_ble_eq_true rfl) zsh_177 rfl rfl ?_
      rintro _ M3 L3 _ ⟨rfl, rfl, rfl, m3⟩
      refine wp_iincN (q := 74) (loc' := [(1, _), (0, _)]) (n := 1) dX12_image_71 rfl 0 rfl (by decide) rfl rfl ?_
      refine wp_goto (tgt := 48) dX12_image_74 (by decide) ?_
      refine WP.sub (loc' := [(1, _), (0, _)]) [0, 1] rfl ?_
      exact ih (j + 1) M3 (by omega) (by rw [show 6 + (j + 1) = 6 + j + 1 by omega]; exact m3)
  have loop1 : ∀ q j (M2 : zMI), j + q = 3 → zImQ M M2 (2 * j) f → WP w YX12_image (d + 1, SS, 0, 0) G (some (zXp (zMn M L t n g v hs (zMi m (7 + 6 * n) (zib n v)) (.int (nI (7 + 6 * n)))))) 7 [(1, .int (nI j)), (0, .ref 177)] [] SS M2 L (zRf t) := by
    intro q
    induction q with
    | zero =>
      intro j M2 hj hM
      rw [show j = 3 by omega] at hM ⊢
      refine wp_iload_n (q := 8) dX12_image_7 0 rfl rfl ?_
      refine wp_iconst (q := 9) dX12_image_8 zq_iconst_3 rfl ?_
      refine wp_icmp_geN (tgt := 46) (q := 12) dX12_image_9 (by decide) rfl (by omega) (by omega) (fun _ => ?_) (fun hn => absurd hn (by first | omega | exact fun h => h | exact fun h => h trivial))
      refine wp_iconst (q := 47) dX12_image_46 zq_iconst_0 rfl ?_
      refine wp_istore_n (q := 48) (loc' := [(1, _), (0, _)]) dX12_image_47 rfl (by decide) rfl rfl ?_
      refine WP.sub (loc' := [(1, _), (0, _)]) [0, 1] rfl ?_
      exact loop2 (6 * n) 0 M2 (Nat.zero_add _) hM
    | succ q ih =>
      intro j M2 hj hM
      have hj3 : j < 3 := by omega
      have hb := hv9 j hj3
      have e := hnw.2 j (by omega)
      obtain ⟨g1, g2⟩ := f0 j hj3
      refine wp_iload_n (q := 8) dX12_image_7 0 rfl rfl ?_
      refine wp_iconst (q := 9) dX12_image_8 zq_iconst_3 rfl ?_
      refine wp_icmp_geN (tgt := 46) (q := 12) dX12_image_9 (by decide) rfl (by omega) (by omega) (fun hn => absurd hn (by first | omega | exact fun h => h | exact fun h => h trivial)) (fun _ => ?_)
      refine wp_aload_n (q := 13) dX12_image_12 1 rfl rfl ?_
      refine wp_aload_n (q := 14) dX12_image_13 1 rfl rfl ?_
      refine wp_getR (q := 17) dX12_image_14 zf_RX12_127 rfl zsh_177 (zr_177_52 _) rfl ?_
      refine wp_iload_n (q := 18) dX12_image_17 0 rfl rfl ?_
      refine wp_iald (q := 19) _ dX12_image_18 zsh_215 rfl (by omega) (by decide) rfl ?_
      rw [(hgo hM).2, e]
      refine wp_sipush (q := 22) dX12_image_19 zq_sipush_256 rfl ?_
      refine wp_idivN (q := 23) dX12_image_22 (by omega) (by omega) (by omega) rfl ?_
      refine wp_cvy (q := 26) (sp_mwrites (d := 0) hM (by omega) g1) zm_X12_writes zl_RX12_717 dX12_image_23 rfl (by omega) (Nat.le_of_ble_eq_true rfl) zsh_177 rfl rfl ?_
      rintro _ M3 L3 _ ⟨rfl, rfl, rfl, m3⟩
      refine wp_aload_n (q := 27) dX12_image_26 1 rfl rfl ?_
      refine wp_aload_n (q := 28) dX12_image_27 1 rfl rfl ?_
      refine wp_getR (q := 31) dX12_image_28 zf_RX12_127 rfl zsh_177 (zr_177_52 _) rfl ?_
      refine wp_iload_n (q := 32) dX12_image_31 0 rfl rfl ?_
      refine wp_iald (q := 33) _ dX12_image_32 zsh_215 rfl (by omega) (by decide) rfl ?_
      rw [(hgo m3).2, e]
      refine wp_sipush (q := 36) dX12_image_33 zq_sipush_256 rfl ?_
      refine wp_iremN (q := 37) dX12_image_36 (by omega) (by omega) (by omega) rfl ?_
      refine wp_cvy (q := 40) (sp_mwrites (d := 0) m3 (by omega) g2) zm_X12_writes zl_RX12_717 dX12_image_37 rfl (by omega) (Nat.le_of_ble_eq_true rfl) zsh_177 rfl rfl ?_
      rintro _ M4 L4 _ ⟨rfl, rfl, rfl, m4⟩
      refine wp_iincN (q := 43) (loc' := [(1, _), (0, _)]) (n := 1) dX12_image_40 rfl 0 rfl (by decide) rfl rfl ?_
      refine wp_goto (tgt := 7) dX12_image_43 (by decide) ?_
      refine WP.sub (loc' := [(1, _), (0, _)]) [0, 1] rfl ?_
      exact ih (j + 1) M4 (by omega) (by rw [show 2 * (j + 1) = 2 * j + 1 + 1 by omega]; exact m4)
  refine wp_aload_n (q := 1) dX12_image_0 0 rfl rfl ?_
  refine wp_iconst (q := 2) dX12_image_1 zq_iconst_0 rfl ?_
  refine wp_putI (q := 5) dX12_image_2 zf_RX12_714 rfl zsh_177 rfl ?_
  refine wp_iconst (q := 6) dX12_image_5 zq_iconst_0 rfl ?_
  refine wp_istore_n (q := 7) (loc' := [(1, _), (0, _)]) dX12_image_6 rfl (by decide) rfl rfl ?_
  refine WP.sub (loc' := [(1, _), (0, _)]) [0, 1] rfl ?_
  exact loop1 3 0 _ (by decide) ⟨zu_s, fun i hi => absurd hi (Nat.not_lt_zero _), fun j hj => zu_k hj, fun x x1 _ => zu_ne x1⟩

