-- the text behind reading: tokens T (kind, start, value, size, word), where it stands, how many are open, the fault and its place
abbrev zP := Nat × Int32 × Nat × Int32
def zwd (w : Nat) : Int32 := if w < 30 then nI w else -1
def zTT (M : zMI) (T : Nat → Nat → Nat) (c : Nat) (p : zP) : Prop := 1 ≤ c ∧ c ≤ 1601 ∧ p.1 < c ∧ p.2.2.1 ≤ 5 ∧ M 2 6 = nI c ∧ M 2 8 = nI p.1 ∧ M 2 9 = p.2.1 ∧ M 2 10 = nI p.2.2.1 ∧ M 2 11 = p.2.2.2 ∧ ∀ i, i < c → M 3 i = nI (T i 0) ∧ T i 0 ≤ 4 ∧ M 4 i = nI (T i 1) ∧ T i 1 ≤ 1600 ∧ M 5 i = nI (T i 2) ∧ T i 2 < 2147483648 ∧ M 6 i = nI (T i 3) ∧ T i 3 ≤ 1600 ∧ M 7 i = zwd (T i 4)
theorem zTT_up {M M' : zMI} {T : Nat → Nat → Nat} {c : Nat} {p p' : zP} (h : zTT M T c p) (hf : ∀ x, x ≠ 2 → M' x = M x) (h6 : M' 2 6 = M 2 6) (h8 : M' 2 8 = nI p'.1) (h9 : M' 2 9 = p'.2.1) (h10 : M' 2 10 = nI p'.2.2.1) (h11 : M' 2 11 = p'.2.2.2) (h1 : p'.1 < c) (h5 : p'.2.2.1 ≤ 5) : zTT M' T c p' := by
  obtain ⟨a, b, -, -, e, -, -, -, -, g⟩ := h
  refine ⟨a, b, h1, h5, by rw [h6, e], h8, h9, h10, h11, fun i hi => ?_⟩
  rw [hf 3 (by decide), hf 4 (by decide), hf 5 (by decide), hf 6 (by decide), hf 7 (by decide)]
  exact g i hi
def zpf (c : Nat) (p : zP) (k : Nat) (y : Int32) : zP := if p.2.2.1 = 0 then (c - 1, p.2.1, k, y) else (c - 1, p.2.1, p.2.2.1, p.2.2.2)
def zpfh (T : Nat → Nat → Nat) (c : Nat) (p : zP) : zP := zpf c p 1 (nI (T p.1 1))
def zpn (c : Nat) (p : zP) : zP := (if p.1 < c - 1 then p.1 + 1 else p.1, p.2.1, p.2.2.1, p.2.2.2)
def zpe (T : Nat → Nat → Nat) (c : Nat) (p : zP) : zP := if p.2.1 < nI 6 then zpn c (p.1, p.2.1 + nI 1, p.2.2.1, p.2.2.2) else zpf c p 4 (nI (T p.1 1))
def zpl (p : zP) : zP := (p.1, p.2.1 - nI 1, p.2.2.1, p.2.2.2)
def zpS (T : Nat → Nat → Nat) (p : zP) (s : Nat) : Bool := decide (T p.1 0 = 3 ∧ T p.1 2 = s)
def zpNS (T : Nat → Nat → Nat) (c : Nat) (p : zP) (s : Nat) : zP := if zpS T p s then zpn c p else zpfh T c p
set_option maxHeartbeats 4000000 in
set_option maxRecDepth 100000 in
theorem sp_failed {d t c : Nat} {M : zMI} {L : zML} {T : Nat → Nat → Nat} {p : zP} (h : zTT M T c p) : Sx yX10_failed YX10_failed (d) [.ref 2] M L (zRf t) (some (.int (if p.2.2.1 = 0 then nI 0 else nI 1))) M L (zRf t) := by
  refine Sp.of (by decide +kernel) rfl (fun h => by first | exact h | cases h) (Nat.le_of_ble_eq_true rfl) ?_
  intro w G
  obtain ⟨g1, g2, g3, g4, g6, g8, g9, g10, g11, g⟩ := id h
  refine wp_aload_n (q := 1) dX10_failed_0 0 rfl rfl ?_
  refine wp_getI (q := 4) dX10_failed_1 zf_RX10_43 rfl zsh_2 rfl ?_
  rw [g10]
  refine wp_if_eqN (tgt := 11) (q := 7) dX10_failed_4 (by decide) rfl (by omega) (fun hz => ?_) (fun hz => ?_)
  · skip
    rw [if_pos hz]
    refine wp_iconst (q := 12) dX10_failed_11 zq_iconst_0 rfl ?_
    exact wp_zreturn dX10_failed_12 rfl (by first | with_reducible exact znar_0 | with_reducible exact znar_1 | assumption) ⟨rfl, rfl, rfl, rfl, rfl⟩ rfl rfl
  · skip
    rw [if_neg (by omega)]
    refine wp_iconst (q := 8) dX10_failed_7 zq_iconst_1 rfl ?_
    refine wp_goto (tgt := 12) dX10_failed_8 (by decide) ?_
    exact wp_zreturn dX10_failed_12 rfl (by first | with_reducible exact znar_0 | with_reducible exact znar_1 | assumption) ⟨rfl, rfl, rfl, rfl, rfl⟩ rfl rfl
set_option maxHeartbeats 4000000 in
set_option maxRecDepth 100000 in
theorem sp_fail {d t c k : Nat} {y : Int32} {M : zMI} {L : zML} {T : Nat → Nat → Nat} {p : zP} (h : zTT M T c p) (hk : k ≤ 5) : Sy yX10_fail YX10_fail (d) [.ref 2, .int (nI k), .int y] M L (zRf t) (fun v0 M' L' R' => v0 = none ∧ L = L' ∧ R' = zRf t ∧ zTT M' T c (zpf c p k y) ∧ ∀ x, x ≠ 2 → M' x = M x) := by
  refine Sp.of (by decide +kernel) rfl (fun h => by first | exact h | cases h) (Nat.le_of_ble_eq_true rfl) ?_
  intro w G
  obtain ⟨g1, g2, g3, g4, g6, g8, g9, g10, g11, g⟩ := id h
  refine wp_aload_n (q := 1) dX10_fail_0 0 rfl rfl ?_
  refine wp_getI (q := 4) dX10_fail_1 zf_RX10_43 rfl zsh_2 rfl ?_
  rw [g10]
  refine wp_if_neN (tgt := 17) (q := 7) dX10_fail_4 (by decide) rfl (by omega) (fun hz => ?_) (fun hz => ?_)
  · skip
    refine wp_aload_n (q := 18) dX10_fail_17 0 rfl rfl ?_
    refine wp_aload_n (q := 19) dX10_fail_18 0 rfl rfl ?_
    refine wp_getI (q := 22) dX10_fail_19 zf_RX10_30 rfl zsh_2 rfl ?_
    rw [g6]
    refine wp_iconst (q := 23) dX10_fail_22 zq_iconst_1 rfl ?_
    refine wp_isubN (q := 24) dX10_fail_23 (by omega) rfl ?_
    refine wp_putI (q := 27) dX10_fail_24 zf_RX10_37 rfl zsh_2 rfl ?_
    refine wp_return dX10_fail_27 rfl ⟨rfl, ⟨rfl, rfl, rfl, ?_, fun x hx => by rw [zu_ne hx]⟩⟩ rfl rfl
    rw [show zpf c p k y = (c - 1, p.2.1, p.2.2.1, p.2.2.2) from if_neg (by omega)]
    exact zTT_up h (fun x hx => by rw [zu_ne hx]) (by rw [zu_k (by decide)]) zu_s (by rw [zu_k (by decide), g9]) (by rw [zu_k (by decide), g10]) (by rw [zu_k (by decide), g11]) (show c - 1 < c by omega) g4
  · skip
    refine wp_aload_n (q := 8) dX10_fail_7 0 rfl rfl ?_
    refine wp_iload_n (q := 9) dX10_fail_8 1 rfl rfl ?_
    refine wp_putI (q := 12) dX10_fail_9 zf_RX10_43 rfl zsh_2 rfl ?_
    refine wp_aload_n (q := 13) dX10_fail_12 0 rfl rfl ?_
    refine wp_iload_n (q := 14) dX10_fail_13 2 rfl rfl ?_
    refine wp_putI (q := 17) dX10_fail_14 zf_RX10_46 rfl zsh_2 rfl ?_
    refine wp_aload_n (q := 18) dX10_fail_17 0 rfl rfl ?_
    refine wp_aload_n (q := 19) dX10_fail_18 0 rfl rfl ?_
    refine wp_getI (q := 22) dX10_fail_19 zf_RX10_30 rfl zsh_2 rfl ?_
    rw [zu_k (by decide), zu_k (by decide), g6]
    refine wp_iconst (q := 23) dX10_fail_22 zq_iconst_1 rfl ?_
    refine wp_isubN (q := 24) dX10_fail_23 (by omega) rfl ?_
    refine wp_putI (q := 27) dX10_fail_24 zf_RX10_37 rfl zsh_2 rfl ?_
    refine wp_return dX10_fail_27 rfl ⟨rfl, ⟨rfl, rfl, rfl, ?_, fun x hx => by rw [zu_ne hx, zu_ne hx, zu_ne hx]⟩⟩ rfl rfl
    rw [show zpf c p k y = (c - 1, p.2.1, k, y) from if_pos hz]
    exact zTT_up h (fun x hx => by rw [zu_ne hx, zu_ne hx, zu_ne hx]) (by rw [zu_k (by decide), zu_k (by decide), zu_k (by decide)]) zu_s (by rw [zu_k (by decide), zu_k (by decide), zu_k (by decide), g9]) (by rw [zu_k (by decide), zu_k (by decide), zu_s]) (by rw [zu_k (by decide), zu_s]) (show c - 1 < c by omega) hk
set_option maxHeartbeats 4000000 in
set_option maxRecDepth 100000 in
theorem sp_failHere {d t c : Nat} {M : zMI} {L : zML} {T : Nat → Nat → Nat} {p : zP} (h : zTT M T c p) : Sy yX10_failHere YX10_failHere (d + 1) [.ref 2] M L (zRf t) (fun v0 M' L' R' => v0 = none ∧ L = L' ∧ R' = zRf t ∧ zTT M' T c (zpfh T c p) ∧ ∀ x, x ≠ 2 → M' x = M x) := by
  refine Sp.of (by decide +kernel) rfl (fun h => by first | exact h | cases h) (Nat.le_of_ble_eq_true rfl) ?_
  intro w G
  obtain ⟨g1, g2, g3, g4, g6, g8, g9, g10, g11, g⟩ := id h
  have gi := g _ g3
  refine wp_aload_n (q := 1) dX10_failHere_0 0 rfl rfl ?_
  refine wp_iconst (q := 2) dX10_failHere_1 zq_iconst_1 rfl ?_
  refine wp_aload_n (q := 3) dX10_failHere_2 0 rfl rfl ?_
  refine wp_getR (q := 6) dX10_failHere_3 zf_RX10_15 rfl zsh_2 (zr_2_1 _) rfl ?_
  refine wp_aload_n (q := 7) dX10_failHere_6 0 rfl rfl ?_
  refine wp_getI (q := 10) dX10_failHere_7 zf_RX10_37 rfl zsh_2 rfl ?_
  rw [g8]
  refine wp_iald (q := 11) _ dX10_failHere_10 zsh_4 rfl (by omega) (by decide) rfl ?_
  rw [gi.2.2.1]
  refine wp_cvy (q := 14) (sp_fail (d := d) (y := nI (T p.1 1)) h (by decide : 1 ≤ 5)) zm_X10_fail zl_RX10_82 dX10_failHere_11 rfl (by omega) (Nat.le_of_ble_eq_true rfl) zsh_2 rfl rfl ?_
  rintro _ M2 _ _ ⟨rfl, rfl, rfl, h2, hf⟩
  exact wp_return dX10_failHere_14 rfl ⟨rfl, ⟨rfl, rfl, rfl, h2, hf⟩⟩ rfl rfl
set_option maxHeartbeats 4000000 in
set_option maxRecDepth 100000 in
theorem sp_place {d t c : Nat} {M : zMI} {L : zML} {T : Nat → Nat → Nat} {p : zP} (h : zTT M T c p) : Sx yX10_place YX10_place (d) [.ref 2] M L (zRf t) (some (.int (nI (T p.1 1)))) M L (zRf t) := by
  refine Sp.of (by decide +kernel) rfl (fun h => by first | exact h | cases h) (Nat.le_of_ble_eq_true rfl) ?_
  intro w G
  obtain ⟨g1, g2, g3, g4, g6, g8, g9, g10, g11, g⟩ := id h
  have gi := g _ g3
  refine wp_aload_n (q := 1) dX10_place_0 0 rfl rfl ?_
  refine wp_getR (q := 4) dX10_place_1 zf_RX10_15 rfl zsh_2 (zr_2_1 _) rfl ?_
  refine wp_aload_n (q := 5) dX10_place_4 0 rfl rfl ?_
  refine wp_getI (q := 8) dX10_place_5 zf_RX10_37 rfl zsh_2 rfl ?_
  rw [g8]
  refine wp_iald (q := 9) _ dX10_place_8 zsh_4 rfl (by omega) (by decide) rfl ?_
  rw [gi.2.2.1]
  exact wp_ireturn dX10_place_9 rfl ⟨rfl, rfl, rfl, rfl, rfl⟩ rfl rfl
set_option maxHeartbeats 4000000 in
set_option maxRecDepth 100000 in
theorem sp_atEnd {d t c : Nat} {M : zMI} {L : zML} {T : Nat → Nat → Nat} {p : zP} (h : zTT M T c p) : Sx yX10_atEnd YX10_atEnd (d) [.ref 2] M L (zRf t) (some (.int (if T p.1 0 = 0 then nI 1 else nI 0))) M L (zRf t) := by
  refine Sp.of (by decide +kernel) rfl (fun h => by first | exact h | cases h) (Nat.le_of_ble_eq_true rfl) ?_
  intro w G
  obtain ⟨g1, g2, g3, g4, g6, g8, g9, g10, g11, g⟩ := id h
  have gi := g _ g3
  have gi0 := gi.2.1
  refine wp_aload_n (q := 1) dX10_atEnd_0 0 rfl rfl ?_
  refine wp_getR (q := 4) dX10_atEnd_1 zf_RX10_9 rfl zsh_2 (zr_2_0 _) rfl ?_
  refine wp_aload_n (q := 5) dX10_atEnd_4 0 rfl rfl ?_
  refine wp_getI (q := 8) dX10_atEnd_5 zf_RX10_37 rfl zsh_2 rfl ?_
  rw [g8]
  refine wp_iald (q := 9) _ dX10_atEnd_8 zsh_3 rfl (by omega) (by decide) rfl ?_
  rw [gi.1]
  refine wp_if_neN (tgt := 16) (q := 12) dX10_atEnd_9 (by decide) rfl (by omega) (fun hz => ?_) (fun hz => ?_)
  · skip
    rw [if_neg (by omega)]
    refine wp_iconst (q := 17) dX10_atEnd_16 zq_iconst_0 rfl ?_
    exact wp_zreturn dX10_atEnd_17 rfl (by first | with_reducible exact znar_0 | with_reducible exact znar_1 | assumption) ⟨rfl, rfl, rfl, rfl, rfl⟩ rfl rfl
  · skip
    rw [if_pos (by omega)]
    refine wp_iconst (q := 13) dX10_atEnd_12 zq_iconst_1 rfl ?_
    refine wp_goto (tgt := 17) dX10_atEnd_13 (by decide) ?_
    exact wp_zreturn dX10_atEnd_17 rfl (by first | with_reducible exact znar_0 | with_reducible exact znar_1 | assumption) ⟨rfl, rfl, rfl, rfl, rfl⟩ rfl rfl
set_option maxHeartbeats 4000000 in
set_option maxRecDepth 100000 in
theorem sp_atNumber {d t c : Nat} {M : zMI} {L : zML} {T : Nat → Nat → Nat} {p : zP} (h : zTT M T c p) : Sx yX10_atNumber YX10_atNumber (d) [.ref 2] M L (zRf t) (some (.int (if T p.1 0 = 2 then nI 1 else nI 0))) M L (zRf t) := by
  refine Sp.of (by decide +kernel) rfl (fun h => by first | exact h | cases h) (Nat.le_of_ble_eq_true rfl) ?_
  intro w G
  obtain ⟨g1, g2, g3, g4, g6, g8, g9, g10, g11, g⟩ := id h
  have gi := g _ g3
  have gi0 := gi.2.1
  refine wp_aload_n (q := 1) dX10_atNumber_0 0 rfl rfl ?_
  refine wp_getR (q := 4) dX10_atNumber_1 zf_RX10_9 rfl zsh_2 (zr_2_0 _) rfl ?_
  refine wp_aload_n (q := 5) dX10_atNumber_4 0 rfl rfl ?_
  refine wp_getI (q := 8) dX10_atNumber_5 zf_RX10_37 rfl zsh_2 rfl ?_
  rw [g8]
  refine wp_iald (q := 9) _ dX10_atNumber_8 zsh_3 rfl (by omega) (by decide) rfl ?_
  rw [gi.1]
  refine wp_iconst (q := 10) dX10_atNumber_9 zq_iconst_2 rfl ?_
  refine wp_icmp_neN (tgt := 17) (q := 13) dX10_atNumber_10 (by decide) rfl (by omega) (by omega) (fun hz => ?_) (fun hz => ?_)
  · skip
    rw [if_neg (by omega)]
    refine wp_iconst (q := 18) dX10_atNumber_17 zq_iconst_0 rfl ?_
    exact wp_zreturn dX10_atNumber_18 rfl (by first | with_reducible exact znar_0 | with_reducible exact znar_1 | assumption) ⟨rfl, rfl, rfl, rfl, rfl⟩ rfl rfl
  · skip
    rw [if_pos (by omega)]
    refine wp_iconst (q := 14) dX10_atNumber_13 zq_iconst_1 rfl ?_
    refine wp_goto (tgt := 18) dX10_atNumber_14 (by decide) ?_
    exact wp_zreturn dX10_atNumber_18 rfl (by first | with_reducible exact znar_0 | with_reducible exact znar_1 | assumption) ⟨rfl, rfl, rfl, rfl, rfl⟩ rfl rfl
set_option maxHeartbeats 4000000 in
set_option maxRecDepth 100000 in
theorem sp_atSign {d t c s : Nat} {M : zMI} {L : zML} {T : Nat → Nat → Nat} {p : zP} (h : zTT M T c p) (hs : s < 256) : Sx yX10_atSign YX10_atSign (d) [.ref 2, .int (nI s)] M L (zRf t) (some (.int (if zpS T p s then nI 1 else nI 0))) M L (zRf t) := by
  refine Sp.of (by decide +kernel) rfl (fun h => by first | exact h | cases h) (Nat.le_of_ble_eq_true rfl) ?_
  intro w G
  obtain ⟨g1, g2, g3, g4, g6, g8, g9, g10, g11, g⟩ := id h
  have gi := g _ g3
  have gi0 := gi.2.1
  have gi2 := gi.2.2.2.2.2.1
  refine wp_aload_n (q := 1) dX10_atSign_0 0 rfl rfl ?_
  refine wp_getR (q := 4) dX10_atSign_1 zf_RX10_9 rfl zsh_2 (zr_2_0 _) rfl ?_
  refine wp_aload_n (q := 5) dX10_atSign_4 0 rfl rfl ?_
  refine wp_getI (q := 8) dX10_atSign_5 zf_RX10_37 rfl zsh_2 rfl ?_
  rw [g8]
  refine wp_iald (q := 9) _ dX10_atSign_8 zsh_3 rfl (by omega) (by decide) rfl ?_
  rw [gi.1]
  refine wp_iconst (q := 10) dX10_atSign_9 zq_iconst_3 rfl ?_
  refine wp_icmp_neN (tgt := 30) (q := 13) dX10_atSign_10 (by decide) rfl (by omega) (by omega) (fun hz => ?_) (fun hz => ?_)
  · skip
    rw [show zpS T p s = false from decide_eq_false (by omega)]
    refine wp_iconst (q := 31) dX10_atSign_30 zq_iconst_0 rfl ?_
    exact wp_zreturn dX10_atSign_31 rfl (by first | with_reducible exact znar_0 | with_reducible exact znar_1 | assumption) ⟨rfl, rfl, rfl, rfl, rfl⟩ rfl rfl
  · skip
    refine wp_aload_n (q := 14) dX10_atSign_13 0 rfl rfl ?_
    refine wp_getR (q := 17) dX10_atSign_14 zf_RX10_18 rfl zsh_2 (zr_2_2 _) rfl ?_
    refine wp_aload_n (q := 18) dX10_atSign_17 0 rfl rfl ?_
    refine wp_getI (q := 21) dX10_atSign_18 zf_RX10_37 rfl zsh_2 rfl ?_
    rw [g8]
    refine wp_iald (q := 22) _ dX10_atSign_21 zsh_5 rfl (by omega) (by decide) rfl ?_
    rw [gi.2.2.2.2.1]
    refine wp_iload_n (q := 23) dX10_atSign_22 1 rfl rfl ?_
    refine wp_icmp_neN (tgt := 30) (q := 26) dX10_atSign_23 (by decide) rfl (by omega) (by omega) (fun hy => ?_) (fun hy => ?_)
    · skip
      rw [show zpS T p s = false from decide_eq_false (by omega)]
      refine wp_iconst (q := 31) dX10_atSign_30 zq_iconst_0 rfl ?_
      exact wp_zreturn dX10_atSign_31 rfl (by first | with_reducible exact znar_0 | with_reducible exact znar_1 | assumption) ⟨rfl, rfl, rfl, rfl, rfl⟩ rfl rfl
    · skip
      rw [show zpS T p s = true from decide_eq_true (by omega)]
      refine wp_iconst (q := 27) dX10_atSign_26 zq_iconst_1 rfl ?_
      refine wp_goto (tgt := 31) dX10_atSign_27 (by decide) ?_
      exact wp_zreturn dX10_atSign_31 rfl (by first | with_reducible exact znar_0 | with_reducible exact znar_1 | assumption) ⟨rfl, rfl, rfl, rfl, rfl⟩ rfl rfl

