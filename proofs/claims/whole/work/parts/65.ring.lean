theorem zs_RX11_212 : Cond.fieldLink RX11 212 "CrackerRing" "LETTER_WEIGHTS" "[I" ∈ lw_g := zq_4 53 rfl rfl
theorem zCm_t {M M' : zMI} {m : zMs} {k : Nat} {b : Nat → Nat} (h : zCm M m) (hk : k ≤ 1600) (hb : ∀ i, i < k → M 1 i = nI (b i) ∧ b i < 256) (e : M' 0 1 = nI k) (e0 : ∀ j, j ≠ 1 → M' 0 j = M 0 j) (e1 : ∀ x, x ≠ 0 → M' x = M x) : zCm M' (zMt m k b) := by
  obtain ⟨c1, c2, c3, c4, c5, c6, c7, c8, c9, c10, c11⟩ := h
  exact ⟨e, hk, fun i hi => by rw [e1 1 (by decide)]; exact hb i hi, fun i hi => by rw [e1 176 (by decide)]; exact c4 i hi, by rw [e0 15 (by decide)]; exact c5, c6, by rw [e0 16 (by decide)]; exact c7, by rw [e0 17 (by decide)]; exact c8, by rw [e0 14 (by decide)]; exact c9, c10, fun i hi => by rw [e1 175 (by decide)]; exact c11 i hi⟩
set_option maxHeartbeats 4000000 in
set_option maxRecDepth 100000 in
theorem sp_end {d t n e : Nat} {M : zMI} {L : zML} {g : zGd} {v : Nat → Nat} {hs : List (Nat → Nat)} {m : zMs} (h : zCI M L t n g v hs m) (he : e ≤ m.1) : Sy yX11_end YX11_end (d + 1) [.ref 0, .int (nI e)] M L (zRf t) (zAn M L t n g v hs (zMt m e m.2.1) (.int (nI 1))) := by
  refine Sp.of (by decide +kernel) rfl (fun h => by first | exact h | cases h) (Nat.le_of_ble_eq_true rfl) ?_
  intro w G
  obtain ⟨c1, c2, c3, -⟩ := zCI_cm h
  refine wp_iload_n (q := 1) dX11_end_0 1 rfl rfl ?_
  refine wp_if_ltN (tgt := 12) (q := 4) dX11_end_1 (by decide) rfl (by omega) (fun hn => absurd hn (by first | omega | exact fun h => h | exact fun h => h trivial)) (fun _ => ?_)
  refine wp_iload_n (q := 5) dX11_end_4 1 rfl rfl ?_
  refine wp_aload_n (q := 6) dX11_end_5 0 rfl rfl ?_
  refine wp_getI (q := 9) dX11_end_6 zf_RX11_13 rfl zsh_0 rfl ?_
  rw [c1]
  refine wp_icmp_leN (tgt := 18) (q := 12) dX11_end_9 (by decide) rfl (by omega) (by omega) (fun _ => ?_) (fun hn => absurd hn (by first | omega | exact fun h => h | exact fun h => h trivial))
  refine wp_aload_n (q := 19) dX11_end_18 0 rfl rfl ?_
  refine wp_iload_n (q := 20) dX11_end_19 1 rfl rfl ?_
  refine wp_putI (q := 23) dX11_end_20 zf_RX11_13 rfl zsh_0 rfl ?_
  refine wp_iconst (q := 24) dX11_end_23 zq_iconst_1 rfl ?_
  exact wp_zreturn dX11_end_24 rfl (by first | with_reducible exact znar_0 | with_reducible exact znar_1 | assumption) ⟨rfl, ⟨rfl, rfl, zCI_m h (fun x x1 x2 x3 x4 x5 => zu_ne x2) (zCm_t (zCI_cm h) (by omega) (fun i hi => c3 i (by omega)) zu_s (fun j hj => zu_k hj) (fun x hx => zu_ne hx)), fun x hx => ⟨zu_ne (by omega), rfl⟩⟩⟩ rfl rfl
set_option maxHeartbeats 4000000 in
set_option maxRecDepth 100000 in
theorem sp_endN {d t n : Nat} {x : Int32} {M : zMI} {L : zML} {g : zGd} {v : Nat → Nat} {hs : List (Nat → Nat)} {m : zMs} (h : zCI M L t n g v hs m) (he : ¬ zin x (m.1 + 1)) : Sy yX11_end YX11_end (d + 1) [.ref 0, .int x] M L (zRf t) (zAn M L t n g v hs (zMup m 0) (.int (nI 0))) := by
  refine Sp.of (by decide +kernel) rfl (fun h => by first | exact h | cases h) (Nat.le_of_ble_eq_true rfl) ?_
  intro w G
  obtain ⟨c1, c2, c3, -⟩ := zCI_cm h
  refine wp_iload_n (q := 1) dX11_end_0 1 rfl rfl ?_
  refine wp_if_lt (tgt := 12) (q := 4) dX11_end_1 (by decide) rfl (fun hz => ?_) (fun hz => ?_)
  · skip
    refine wp_aload_n (q := 13) dX11_end_12 0 rfl rfl ?_
    refine wp_iconst (q := 14) dX11_end_13 zq_iconst_0 rfl ?_
    refine wp_cvx (q := 17) (sp_deny (d := 0) (k := 0) (by decide)) zm_X11_deny zl_RX11_124 dX11_end_14 rfl (by omega) (Nat.le_of_ble_eq_true rfl) zsh_0 rfl rfl ?_
    exact wp_zreturn dX11_end_17 rfl (by first | with_reducible exact znar_0 | with_reducible exact znar_1 | assumption) ⟨rfl, ⟨rfl, rfl, zCI_rf h (by decide), zXf_rf⟩⟩ rfl rfl
  · skip
    refine wp_iload_n (q := 5) dX11_end_4 1 rfl rfl ?_
    refine wp_aload_n (q := 6) dX11_end_5 0 rfl rfl ?_
    refine wp_getI (q := 9) dX11_end_6 zf_RX11_13 rfl zsh_0 rfl ?_
    rw [c1]
    refine wp_icmp_le (tgt := 18) (q := 12) dX11_end_9 (by decide) rfl (fun hn => absurd hn (by exact fun c => he ⟨Int32.not_lt.mp hz, by rw [Int32.lt_iff_toInt_lt, nI_toInt (by omega)]; rw [Int32.le_iff_toInt_le, nI_toInt (by omega)] at c; omega⟩)) (fun _ => ?_)
    refine wp_aload_n (q := 13) dX11_end_12 0 rfl rfl ?_
    refine wp_iconst (q := 14) dX11_end_13 zq_iconst_0 rfl ?_
    refine wp_cvx (q := 17) (sp_deny (d := 0) (k := 0) (by decide)) zm_X11_deny zl_RX11_124 dX11_end_14 rfl (by omega) (Nat.le_of_ble_eq_true rfl) zsh_0 rfl rfl ?_
    exact wp_zreturn dX11_end_17 rfl (by first | with_reducible exact znar_0 | with_reducible exact znar_1 | assumption) ⟨rfl, ⟨rfl, rfl, zCI_rf h (by decide), zXf_rf⟩⟩ rfl rfl
set_option maxHeartbeats 4000000 in
set_option maxRecDepth 100000 in
theorem sp_fault {d t n : Nat} {x : Int32} {M : zMI} {L : zML} {g : zGd} {v : Nat → Nat} {hs : List (Nat → Nat)} {m : zMs} (h : zCI M L t n g v hs m) : Sy yX11_fault YX11_fault (d) [.ref 0, .int x] M L (zRf t) (zAn M L t n g v hs m (.int (if x = 0 then m.2.2.2.2.1 else if x = nI 1 then m.2.2.2.2.2.1 else -1))) := by
  refine Sp.of (by decide +kernel) rfl (fun h => by first | exact h | cases h) (Nat.le_of_ble_eq_true rfl) ?_
  intro w G
  obtain ⟨c1, c2, c3, c4, c5, c6, c7, c8, c9, c10, c11⟩ := zCI_cm h
  refine wp_iload_n (q := 1) dX11_fault_0 1 rfl rfl ?_
  refine wp_if_ne (tgt := 9) (q := 4) dX11_fault_1 (by decide) rfl (fun h0 => ?_) (fun h0 => ?_)
  · skip
    refine wp_iload_n (q := 10) dX11_fault_9 1 rfl rfl ?_
    refine wp_iconst (q := 11) dX11_fault_10 zq_iconst_1 rfl ?_
    refine wp_icmp_ne (tgt := 21) (q := 14) dX11_fault_11 (by decide) rfl (fun h1 => ?_) (fun h1 => ?_)
    · skip
      refine wp_iconst (q := 22) dX11_fault_21 zq_iconst_m1 rfl ?_
      exact wp_ireturn dX11_fault_22 rfl ⟨rfl, ⟨by rw [if_neg h0, if_neg h1], rfl, h, zXf_r⟩⟩ rfl rfl
    · skip
      refine wp_aload_n (q := 15) dX11_fault_14 0 rfl rfl ?_
      refine wp_getI (q := 18) dX11_fault_15 zf_RX11_110 rfl zsh_0 rfl ?_
      rw [c8]
      refine wp_goto (tgt := 22) dX11_fault_18 (by decide) ?_
      exact wp_ireturn dX11_fault_22 rfl ⟨rfl, ⟨by rw [if_neg h0, if_pos h1], rfl, h, zXf_r⟩⟩ rfl rfl
  · skip
    refine wp_aload_n (q := 5) dX11_fault_4 0 rfl rfl ?_
    refine wp_getI (q := 8) dX11_fault_5 zf_RX11_107 rfl zsh_0 rfl ?_
    rw [c7]
    exact wp_ireturn dX11_fault_8 rfl ⟨rfl, ⟨by rw [if_pos h0], rfl, h, zXf_r⟩⟩ rfl rfl
set_option maxHeartbeats 4000000 in
set_option maxRecDepth 100000 in
theorem sp_status {d t n k : Nat} {M : zMI} {L : zML} {g : zGd} {v : Nat → Nat} {hs : List (Nat → Nat)} {m : zMs} (h : zCI M L t n g v hs m) (hk : k < 6) : Sy yX11_status YX11_status (d) [.ref 0, .int (nI k)] M L (zRf t) (zAn M L t n g v hs m (.int (m.2.2.1 k))) := by
  refine Sp.of (by decide +kernel) rfl (fun h => by first | exact h | cases h) (Nat.le_of_ble_eq_true rfl) ?_
  intro w G
  obtain ⟨c1, c2, c3, c4, c5, c6, c7, c8, c9, c10, c11⟩ := zCI_cm h
  refine wp_iload_n (q := 1) dX11_status_0 1 rfl rfl ?_
  refine wp_if_ltN (tgt := 19) (q := 4) dX11_status_1 (by decide) rfl (by omega) (fun hn => absurd hn (by first | omega | exact fun h => h | exact fun h => h trivial)) (fun _ => ?_)
  refine wp_iload_n (q := 5) dX11_status_4 1 rfl rfl ?_
  refine wp_bipush (q := 7) dX11_status_5 zq_bipush_6 rfl ?_
  refine wp_icmp_geN (tgt := 19) (q := 10) dX11_status_7 (by decide) rfl (by omega) (by omega) (fun hn => absurd hn (by first | omega | exact fun h => h | exact fun h => h trivial)) (fun _ => ?_)
  refine wp_aload_n (q := 11) dX11_status_10 0 rfl rfl ?_
  refine wp_getR (q := 14) dX11_status_11 zf_RX11_113 rfl zsh_0 (zr_0_18 _) rfl ?_
  refine wp_iload_n (q := 15) dX11_status_14 1 rfl rfl ?_
  refine wp_iald (q := 16) _ dX11_status_15 zsh_176 rfl (by omega) (by decide) rfl ?_
  rw [c4 k hk]
  refine wp_goto (tgt := 20) dX11_status_16 (by decide) ?_
  exact wp_ireturn dX11_status_20 rfl ⟨rfl, ⟨rfl, rfl, h, zXf_r⟩⟩ rfl rfl
set_option maxHeartbeats 4000000 in
set_option maxRecDepth 100000 in
theorem sp_statusN {d t n : Nat} {x : Int32} {M : zMI} {L : zML} {g : zGd} {v : Nat → Nat} {hs : List (Nat → Nat)} {m : zMs} (h : zCI M L t n g v hs m) (hk : ¬ zin x 6) : Sy yX11_status YX11_status (d) [.ref 0, .int x] M L (zRf t) (zAn M L t n g v hs m (.int (-1))) := by
  refine Sp.of (by decide +kernel) rfl (fun h => by first | exact h | cases h) (Nat.le_of_ble_eq_true rfl) ?_
  intro w G
  refine wp_iload_n (q := 1) dX11_status_0 1 rfl rfl ?_
  refine wp_if_lt (tgt := 19) (q := 4) dX11_status_1 (by decide) rfl (fun hz => ?_) (fun hz => ?_)
  · skip
    refine wp_iconst (q := 20) dX11_status_19 zq_iconst_m1 rfl ?_
    exact wp_ireturn dX11_status_20 rfl ⟨rfl, ⟨rfl, rfl, h, zXf_r⟩⟩ rfl rfl
  · skip
    refine wp_iload_n (q := 5) dX11_status_4 1 rfl rfl ?_
    refine wp_bipush (q := 7) dX11_status_5 zq_bipush_6 rfl ?_
    refine wp_icmp_ge (tgt := 19) (q := 10) dX11_status_7 (by decide) rfl (fun _ => ?_) (fun hn => absurd hn (by exact fun c => hk ⟨Int32.not_lt.mp hz, Int32.not_le.mp c⟩))
    refine wp_iconst (q := 20) dX11_status_19 zq_iconst_m1 rfl ?_
    exact wp_ireturn dX11_status_20 rfl ⟨rfl, ⟨rfl, rfl, h, zXf_r⟩⟩ rfl rfl
set_option maxHeartbeats 4000000 in
set_option maxRecDepth 100000 in
theorem sp_octet {d t n k : Nat} {M : zMI} {L : zML} {g : zGd} {v : Nat → Nat} {hs : List (Nat → Nat)} {m : zMs} (h : zCI M L t n g v hs m) (hk : k < m.2.2.2.2.2.2.1) : Sy yX11_octet YX11_octet (d) [.ref 0, .int (nI k)] M L (zRf t) (zAn M L t n g v hs m (.int (nI (m.2.2.2.2.2.2.2 k)))) := by
  refine Sp.of (by decide +kernel) rfl (fun h => by first | exact h | cases h) (Nat.le_of_ble_eq_true rfl) ?_
  intro w G
  obtain ⟨c1, c2, c3, c4, c5, c6, c7, c8, c9, c10, c11⟩ := zCI_cm h
  refine wp_iload_n (q := 1) dX11_octet_0 1 rfl rfl ?_
  refine wp_if_ltN (tgt := 21) (q := 4) dX11_octet_1 (by decide) rfl (by omega) (fun hn => absurd hn (by first | omega | exact fun h => h | exact fun h => h trivial)) (fun _ => ?_)
  refine wp_iload_n (q := 5) dX11_octet_4 1 rfl rfl ?_
  refine wp_aload_n (q := 6) dX11_octet_5 0 rfl rfl ?_
  refine wp_getI (q := 9) dX11_octet_6 zf_RX11_101 rfl zsh_0 rfl ?_
  rw [c9]
  refine wp_icmp_geN (tgt := 21) (q := 12) dX11_octet_9 (by decide) rfl (by omega) (by omega) (fun hn => absurd hn (by first | omega | exact fun h => h | exact fun h => h trivial)) (fun _ => ?_)
  refine wp_aload_n (q := 13) dX11_octet_12 0 rfl rfl ?_
  refine wp_getR (q := 16) dX11_octet_13 zf_RX11_98 rfl zsh_0 (zr_0_13 _) rfl ?_
  refine wp_iload_n (q := 17) dX11_octet_16 1 rfl rfl ?_
  refine wp_iald (q := 18) _ dX11_octet_17 zsh_175 rfl (by omega) (by decide) rfl ?_
  rw [c11 k hk]
  refine wp_goto (tgt := 22) dX11_octet_18 (by decide) ?_
  exact wp_ireturn dX11_octet_22 rfl ⟨rfl, ⟨rfl, rfl, h, zXf_r⟩⟩ rfl rfl
set_option maxHeartbeats 4000000 in
set_option maxRecDepth 100000 in
theorem sp_octetN {d t n : Nat} {x : Int32} {M : zMI} {L : zML} {g : zGd} {v : Nat → Nat} {hs : List (Nat → Nat)} {m : zMs} (h : zCI M L t n g v hs m) (hk : ¬ zin x m.2.2.2.2.2.2.1) : Sy yX11_octet YX11_octet (d) [.ref 0, .int x] M L (zRf t) (zAn M L t n g v hs m (.int (-1))) := by
  refine Sp.of (by decide +kernel) rfl (fun h => by first | exact h | cases h) (Nat.le_of_ble_eq_true rfl) ?_
  intro w G
  obtain ⟨c1, c2, c3, c4, c5, c6, c7, c8, c9, c10, c11⟩ := zCI_cm h
  refine wp_iload_n (q := 1) dX11_octet_0 1 rfl rfl ?_
  refine wp_if_lt (tgt := 21) (q := 4) dX11_octet_1 (by decide) rfl (fun hz => ?_) (fun hz => ?_)
  · skip
    refine wp_iconst (q := 22) dX11_octet_21 zq_iconst_m1 rfl ?_
    exact wp_ireturn dX11_octet_22 rfl ⟨rfl, ⟨rfl, rfl, h, zXf_r⟩⟩ rfl rfl
  · skip
    refine wp_iload_n (q := 5) dX11_octet_4 1 rfl rfl ?_
    refine wp_aload_n (q := 6) dX11_octet_5 0 rfl rfl ?_
    refine wp_getI (q := 9) dX11_octet_6 zf_RX11_101 rfl zsh_0 rfl ?_
    rw [c9]
    refine wp_icmp_ge (tgt := 21) (q := 12) dX11_octet_9 (by decide) rfl (fun _ => ?_) (fun hn => absurd hn (by exact fun c => hk ⟨Int32.not_lt.mp hz, Int32.not_le.mp c⟩))
    refine wp_iconst (q := 22) dX11_octet_21 zq_iconst_m1 rfl ?_
    exact wp_ireturn dX11_octet_22 rfl ⟨rfl, ⟨rfl, rfl, h, zXf_r⟩⟩ rfl rfl
def zMdr (m : zMs) (s : Nat) : zMs := (m.1, m.2.1, m.2.2.1, s, m.2.2.2.2)
theorem zCm_dr {M : zMI} {m : zMs} {s : Nat} (h : zCm M m) (hs : s < 2147483648) : zCm (zu M 0 15 (nI s)) (zMdr m s) := by
  obtain ⟨c1, c2, c3, c4, c5, c6, c7, c8, c9, c10, c11⟩ := h
  exact ⟨by rw [zu_k (by decide)]; exact c1, c2, fun i hi => by rw [zu_ne (by decide)]; exact c3 i hi, fun i hi => by rw [zu_ne (by decide)]; exact c4 i hi, zu_s, hs, by rw [zu_k (by decide)]; exact c7, by rw [zu_k (by decide)]; exact c8, by rw [zu_k (by decide)]; exact c9, c10, fun i hi => by rw [zu_ne (by decide)]; exact c11 i hi⟩
set_option maxHeartbeats 4000000 in
set_option maxRecDepth 100000 in
theorem sp_seed {d t n s : Nat} {M : zMI} {L : zML} {g : zGd} {v : Nat → Nat} {hs : List (Nat → Nat)} {m : zMs} (h : zCI M L t n g v hs m) (hk : s < 2147483648) : Sy yX11_seed YX11_seed (d + 1) [.ref 0, .int (nI s)] M L (zRf t) (zAn M L t n g v hs (zMdr m s) (.int (nI 1))) := by
  refine Sp.of (by decide +kernel) rfl (fun h => by first | exact h | cases h) (Nat.le_of_ble_eq_true rfl) ?_
  intro w G
  refine wp_iload_n (q := 1) dX11_seed_0 1 rfl rfl ?_
  refine wp_if_geN (tgt := 10) (q := 4) dX11_seed_1 (by decide) rfl (by omega) (fun _ => ?_) (fun hn => absurd hn (by first | omega | exact fun h => h | exact fun h => h trivial))
  refine wp_aload_n (q := 11) dX11_seed_10 0 rfl rfl ?_
  refine wp_iload_n (q := 12) dX11_seed_11 1 rfl rfl ?_
  refine wp_putI (q := 15) dX11_seed_12 zf_RX11_104 rfl zsh_0 rfl ?_
  refine wp_iconst (q := 16) dX11_seed_15 zq_iconst_1 rfl ?_
  exact wp_zreturn dX11_seed_16 rfl (by first | with_reducible exact znar_0 | with_reducible exact znar_1 | assumption) ⟨rfl, ⟨rfl, rfl, zCI_m h (fun x x1 x2 x3 x4 x5 => zu_ne x2) (zCm_dr (zCI_cm h) hk), fun x hx => ⟨zu_ne (by omega), rfl⟩⟩⟩ rfl rfl
set_option maxHeartbeats 4000000 in
set_option maxRecDepth 100000 in
theorem sp_seedN {d t n : Nat} {x : Int32} {M : zMI} {L : zML} {g : zGd} {v : Nat → Nat} {hs : List (Nat → Nat)} {m : zMs} (h : zCI M L t n g v hs m) (hk : x < 0) : Sy yX11_seed YX11_seed (d + 1) [.ref 0, .int x] M L (zRf t) (zAn M L t n g v hs (zMup m 5) (.int (nI 0))) := by
  refine Sp.of (by decide +kernel) rfl (fun h => by first | exact h | cases h) (Nat.le_of_ble_eq_true rfl) ?_
  intro w G
  refine wp_iload_n (q := 1) dX11_seed_0 1 rfl rfl ?_
  refine wp_if_ge (tgt := 10) (q := 4) dX11_seed_1 (by decide) rfl (fun hn => absurd hn (by exact Int32.not_le.mpr hk)) (fun _ => ?_)
  refine wp_aload_n (q := 5) dX11_seed_4 0 rfl rfl ?_
  refine wp_iconst (q := 6) dX11_seed_5 zq_iconst_5 rfl ?_
  refine wp_cvx (q := 9) (sp_deny (d := 0) (k := 5) (by decide)) zm_X11_deny zl_RX11_124 dX11_seed_6 rfl (by omega) (Nat.le_of_ble_eq_true rfl) zsh_0 rfl rfl ?_
  exact wp_zreturn dX11_seed_9 rfl (by first | with_reducible exact znar_0 | with_reducible exact znar_1 | assumption) ⟨rfl, ⟨rfl, rfl, zCI_rf h (by decide), zXf_rf⟩⟩ rfl rfl
theorem zCI_ct {M : zMI} {L : zML} {t n : Nat} {g : zGd} {v : Nat → Nat} {hs : List (Nat → Nat)} {m : zMs} (h : zCI M L t n g v hs m) : zCt M t n g := h.2.2.1
set_option maxHeartbeats 4000000 in
set_option maxRecDepth 100000 in
theorem sp_box {d t n k : Nat} {M : zMI} {L : zML} {g : zGd} {v : Nat → Nat} {hs : List (Nat → Nat)} {m : zMs} (h : zCI M L t n g v hs m) (hk : k < g.2.1) : Sy yX11_box YX11_box (d) [.ref 0, .int (nI k)] M L (zRf t) (zAn M L t n g v hs m (.int (nI (g.2.2.2.1 k)))) := by
  refine Sp.of (by decide +kernel) rfl (fun h => by first | exact h | cases h) (Nat.le_of_ble_eq_true rfl) ?_
  intro w G
  obtain ⟨s0, s1, s2, s3, s4, s5, s6, s7, s8, s11⟩ := zTab_s h.1
  obtain ⟨r2, r3, r4, r5, r6, r8, r9, r13, r14⟩ := zTab_r (t := t) h.1
  obtain ⟨c1, c2, c3, c4, c5, c6, c7, c8, c9⟩ := zCI_ct h
  refine wp_iload_n (q := 1) dX11_box_0 1 rfl rfl ?_
  refine wp_if_ltN (tgt := 27) (q := 4) dX11_box_1 (by decide) rfl (by omega) (fun hn => absurd hn (by first | omega | exact fun h => h | exact fun h => h trivial)) (fun _ => ?_)
  refine wp_iload_n (q := 5) dX11_box_4 1 rfl rfl ?_
  refine wp_aload_n (q := 6) dX11_box_5 0 rfl rfl ?_
  refine wp_getR (q := 9) dX11_box_6 zf_RX11_36 rfl zsh_0 (zr_0_4 _) rfl ?_
  refine wp_getI (q := 12) dX11_box_9 zf_RX11_172 rfl (by first | assumption | rfl) rfl ?_
  rw [c3]
  refine wp_icmp_geN (tgt := 27) (q := 15) dX11_box_12 (by decide) rfl (by omega) (by omega) (fun hn => absurd hn (by first | omega | exact fun h => h | exact fun h => h trivial)) (fun _ => ?_)
  refine wp_aload_n (q := 16) dX11_box_15 0 rfl rfl ?_
  refine wp_getR (q := 19) dX11_box_16 zf_RX11_36 rfl zsh_0 (zr_0_4 _) rfl ?_
  refine wp_getR (q := 22) dX11_box_19 zf_RX11_230 rfl (by first | assumption | rfl) (by first | assumption | rfl) rfl ?_
  refine wp_iload_n (q := 23) dX11_box_22 1 rfl rfl ?_
  refine wp_iald (q := 24) _ dX11_box_23 (by first | assumption | rfl) rfl (by omega) (by decide) rfl ?_
  rw [(c6 k hk).1]
  refine wp_goto (tgt := 28) dX11_box_24 (by decide) ?_
  exact wp_ireturn dX11_box_28 rfl ⟨rfl, ⟨rfl, rfl, h, zXf_r⟩⟩ rfl rfl
set_option maxHeartbeats 4000000 in
set_option maxRecDepth 100000 in
theorem sp_boxN {d t n : Nat} {x : Int32} {M : zMI} {L : zML} {g : zGd} {v : Nat → Nat} {hs : List (Nat → Nat)} {m : zMs} (h : zCI M L t n g v hs m) (hk : ¬ zin x g.2.1) : Sy yX11_box YX11_box (d) [.ref 0, .int x] M L (zRf t) (zAn M L t n g v hs m (.int (-1))) := by
  refine Sp.of (by decide +kernel) rfl (fun h => by first | exact h | cases h) (Nat.le_of_ble_eq_true rfl) ?_
  intro w G
  obtain ⟨s0, s1, s2, s3, s4, s5, s6, s7, s8, s11⟩ := zTab_s h.1
  obtain ⟨r2, r3, r4, r5, r6, r8, r9, r13, r14⟩ := zTab_r (t := t) h.1
  obtain ⟨c1, c2, c3, c4, c5, c6, c7, c8, c9⟩ := zCI_ct h
  refine wp_iload_n (q := 1) dX11_box_0 1 rfl rfl ?_
  refine wp_if_lt (tgt := 27) (q := 4) dX11_box_1 (by decide) rfl (fun hz => ?_) (fun hz => ?_)
  · skip
    refine wp_iconst (q := 28) dX11_box_27 zq_iconst_m1 rfl ?_
    exact wp_ireturn dX11_box_28 rfl ⟨rfl, ⟨rfl, rfl, h, zXf_r⟩⟩ rfl rfl
  · skip
    refine wp_iload_n (q := 5) dX11_box_4 1 rfl rfl ?_
    refine wp_aload_n (q := 6) dX11_box_5 0 rfl rfl ?_
    refine wp_getR (q := 9) dX11_box_6 zf_RX11_36 rfl zsh_0 (zr_0_4 _) rfl ?_
    refine wp_getI (q := 12) dX11_box_9 zf_RX11_172 rfl (by first | assumption | rfl) rfl ?_
    rw [c3]
    refine wp_icmp_ge (tgt := 27) (q := 15) dX11_box_12 (by decide) rfl (fun _ => ?_) (fun hn => absurd hn (by exact fun c => hk ⟨Int32.not_lt.mp hz, Int32.not_le.mp c⟩))
    refine wp_iconst (q := 28) dX11_box_27 zq_iconst_m1 rfl ?_
    exact wp_ireturn dX11_box_28 rfl ⟨rfl, ⟨rfl, rfl, h, zXf_r⟩⟩ rfl rfl
set_option maxHeartbeats 4000000 in
set_option maxRecDepth 100000 in
theorem sp_letterOf {d t nm k : Nat} {M : zMI} {L : zML} (hn : nm < 2147483648) (hk : k < 6) : Sx yX11_letterOf YX11_letterOf (d) [.ref 0, .int (nI nm), .int (nI k)] M L (zRf t) (some (.int (nI (nm / 27 ^ k % 27)))) M L (zRf t) := by
  refine Sp.of (by decide +kernel) rfl (fun h => by first | exact h | cases h) (Nat.le_of_ble_eq_true rfl) ?_
  intro w G
  have h27 : 0 < 27 ^ k := Nat.pow_pos (by decide)
  have h27' : 27 ^ k ≤ 27 ^ 5 := Nat.pow_le_pow_right (by decide) (by omega)
  have h5 : 27 ^ 5 < 2147483648 := by decide
  refine wp_iload_n (q := 1) dX11_letterOf_0 1 rfl rfl ?_
  refine wp_getsLW (q := 4) dX11_letterOf_1 zs_RX11_212 rfl ?_
  refine wp_iload_n (q := 5) dX11_letterOf_4 2 rfl rfl ?_
  first | refine wp_iald (q := 6) _ dX11_letterOf_5 (by first | assumption | rfl) rfl (by omega) (by decide) rfl ?_ | refine wp_ialdLW (q := 6) _ dX11_letterOf_5 rfl (by omega) rfl ?_
  rw [zLW_n _ hk]
  have hq : nm / 27 ^ k ≤ nm := Nat.div_le_self _ _
  refine wp_idivN (q := 7) dX11_letterOf_6 (by omega) (by omega) (by omega) rfl ?_
  refine wp_bipush (q := 9) dX11_letterOf_7 zq_bipush_27 rfl ?_
  refine wp_iremN (q := 10) dX11_letterOf_9 (by omega) (by omega) (by omega) rfl ?_
  exact wp_ireturn dX11_letterOf_10 rfl ⟨rfl, rfl, rfl, rfl, rfl⟩ rfl rfl

