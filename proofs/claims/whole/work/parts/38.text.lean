theorem zwd_eq {a w : Nat} (hw : w < 30) : zwd a = nI w ↔ a = w := by
  unfold zwd
  by_cases h : a < 30
  · rw [if_pos h]
    have : ∀ a, a < 30 → ∀ w, w < 30 → (nI a = nI w ↔ a = w) := by decide +kernel
    exact this a h w hw
  · rw [if_neg h]
    have : ∀ w, w < 30 → (-1 : Int32) ≠ nI w := by decide +kernel
    exact ⟨fun c => absurd c (this w hw), fun c => by omega⟩
def zpWo (T : Nat → Nat → Nat) (c : Nat) (p : zP) (f l : Nat) : zP × Nat := if f ≤ T p.1 4 ∧ T p.1 4 ≤ l then (zpn c p, T p.1 4 - f) else (zpfh T c p, 0)
def zpNu (T : Nat → Nat → Nat) (c : Nat) (p : zP) (m : Nat) : zP × Nat := if T p.1 0 = 2 then (if T p.1 3 ≤ 4 then (if T p.1 2 ≤ m then (zpn c p, T p.1 2) else (zpf c p 2 (nI (T p.1 1)), 0)) else (zpf c p 1 (nI (T p.1 1 + 4)), 0)) else (zpfh T c p, 0)
def zpNa (T : Nat → Nat → Nat) (c : Nat) (p : zP) : zP × Nat := if T p.1 0 = 1 ∧ ¬ T p.1 4 < 24 then (if T p.1 3 ≤ 6 then (zpn c p, T p.1 2) else (zpf c p 1 (nI (T p.1 1 + 6)), 0)) else (zpfh T c p, 0)
set_option maxHeartbeats 4000000 in
set_option maxRecDepth 100000 in
theorem sp_atWord {d t c s : Nat} {M : zMI} {L : zML} {T : Nat → Nat → Nat} {p : zP} (h : zTT M T c p) (hs : s < 30) : Sx yX10_atWord YX10_atWord (d) [.ref 2, .int (nI s)] M L (zRf t) (some (.int (if T p.1 4 = s then nI 1 else nI 0))) M L (zRf t) := by
  refine Sp.of (by decide +kernel) rfl (fun h => by first | exact h | cases h) (Nat.le_of_ble_eq_true rfl) ?_
  intro w G
  obtain ⟨g1, g2, g3, g4, g6, g8, g9, g10, g11, g⟩ := id h
  have gi := g _ g3
  refine wp_aload_n (q := 1) dX10_atWord_0 0 rfl rfl ?_
  refine wp_getR (q := 4) dX10_atWord_1 zf_RX10_24 rfl zsh_2 (zr_2_4 _) rfl ?_
  refine wp_aload_n (q := 5) dX10_atWord_4 0 rfl rfl ?_
  refine wp_getI (q := 8) dX10_atWord_5 zf_RX10_37 rfl zsh_2 rfl ?_
  rw [g8]
  refine wp_iald (q := 9) _ dX10_atWord_8 zsh_7 rfl (by omega) (by decide) rfl ?_
  rw [gi.2.2.2.2.2.2.2.2]
  refine wp_iload_n (q := 10) dX10_atWord_9 1 rfl rfl ?_
  refine wp_icmp_ne (tgt := 17) (q := 13) dX10_atWord_10 (by decide) rfl (fun hz => ?_) (fun hz => ?_)
  · skip
    rw [if_neg (fun e => hz ((zwd_eq hs).mpr e))]
    refine wp_iconst (q := 18) dX10_atWord_17 zq_iconst_0 rfl ?_
    exact wp_zreturn dX10_atWord_18 rfl (by first | with_reducible exact znar_0 | with_reducible exact znar_1 | assumption) ⟨rfl, rfl, rfl, rfl, rfl⟩ rfl rfl
  · skip
    rw [if_pos ((zwd_eq hs).mp hz)]
    refine wp_iconst (q := 14) dX10_atWord_13 zq_iconst_1 rfl ?_
    refine wp_goto (tgt := 18) dX10_atWord_14 (by decide) ?_
    exact wp_zreturn dX10_atWord_18 rfl (by first | with_reducible exact znar_0 | with_reducible exact znar_1 | assumption) ⟨rfl, rfl, rfl, rfl, rfl⟩ rfl rfl
set_option maxHeartbeats 4000000 in
set_option maxRecDepth 100000 in
theorem sp_word {d t c : Nat} {M : zMI} {L : zML} {T : Nat → Nat → Nat} {p : zP} (h : zTT M T c p) : Sx yX10_word YX10_word (d) [.ref 2] M L (zRf t) (some (.int (zwd (T p.1 4)))) M L (zRf t) := by
  refine Sp.of (by decide +kernel) rfl (fun h => by first | exact h | cases h) (Nat.le_of_ble_eq_true rfl) ?_
  intro w G
  obtain ⟨g1, g2, g3, g4, g6, g8, g9, g10, g11, g⟩ := id h
  have gi := g _ g3
  refine wp_aload_n (q := 1) dX10_word_0 0 rfl rfl ?_
  refine wp_getR (q := 4) dX10_word_1 zf_RX10_24 rfl zsh_2 (zr_2_4 _) rfl ?_
  refine wp_aload_n (q := 5) dX10_word_4 0 rfl rfl ?_
  refine wp_getI (q := 8) dX10_word_5 zf_RX10_37 rfl zsh_2 rfl ?_
  rw [g8]
  refine wp_iald (q := 9) _ dX10_word_8 zsh_7 rfl (by omega) (by decide) rfl ?_
  rw [gi.2.2.2.2.2.2.2.2]
  exact wp_ireturn dX10_word_9 rfl ⟨rfl, rfl, rfl, rfl, rfl⟩ rfl rfl
set_option maxHeartbeats 4000000 in
set_option maxRecDepth 100000 in
theorem sp_next {d t c : Nat} {M : zMI} {L : zML} {T : Nat → Nat → Nat} {p : zP} (h : zTT M T c p) : Sy yX10_next YX10_next (d) [.ref 2] M L (zRf t) (fun v0 M' L' R' => v0 = none ∧ L = L' ∧ R' = zRf t ∧ zTT M' T c (zpn c p) ∧ ∀ x, x ≠ 2 → M' x = M x) := by
  refine Sp.of (by decide +kernel) rfl (fun h => by first | exact h | cases h) (Nat.le_of_ble_eq_true rfl) ?_
  intro w G
  obtain ⟨g1, g2, g3, g4, g6, g8, g9, g10, g11, g⟩ := id h
  refine wp_aload_n (q := 1) dX10_next_0 0 rfl rfl ?_
  refine wp_getI (q := 4) dX10_next_1 zf_RX10_37 rfl zsh_2 rfl ?_
  rw [g8]
  refine wp_aload_n (q := 5) dX10_next_4 0 rfl rfl ?_
  refine wp_getI (q := 8) dX10_next_5 zf_RX10_30 rfl zsh_2 rfl ?_
  rw [g6]
  refine wp_iconst (q := 9) dX10_next_8 zq_iconst_1 rfl ?_
  refine wp_isubN (q := 10) dX10_next_9 (by omega) rfl ?_
  refine wp_icmp_geN (tgt := 23) (q := 13) dX10_next_10 (by decide) rfl (by omega) (by omega) (fun hz => ?_) (fun hz => ?_)
  · skip
    refine wp_return dX10_next_23 rfl ⟨rfl, ⟨rfl, rfl, rfl, ?_, fun x hx => rfl⟩⟩ rfl rfl
    rw [show zpn c p = (p.1, p.2.1, p.2.2.1, p.2.2.2) from by unfold zpn; rw [if_neg (by omega)]]
    exact h
  · skip
    refine wp_aload_n (q := 14) dX10_next_13 0 rfl rfl ?_
    refine wp_dup (q := 15) dX10_next_14 rfl rfl ?_
    refine wp_getI (q := 18) dX10_next_15 zf_RX10_37 rfl zsh_2 rfl ?_
    rw [g8]
    refine wp_iconst (q := 19) dX10_next_18 zq_iconst_1 rfl ?_
    refine wp_iaddN (q := 20) dX10_next_19 rfl ?_
    refine wp_putI (q := 23) dX10_next_20 zf_RX10_37 rfl zsh_2 rfl ?_
    refine wp_return dX10_next_23 rfl ⟨rfl, ⟨rfl, rfl, rfl, ?_, fun x hx => by rw [zu_ne hx]⟩⟩ rfl rfl
    rw [show zpn c p = (p.1 + 1, p.2.1, p.2.2.1, p.2.2.2) from by unfold zpn; rw [if_pos hz]]
    exact zTT_up h (fun x hx => by rw [zu_ne hx]) (by rw [zu_k (by decide)]) zu_s (by rw [zu_k (by decide), g9]) (by rw [zu_k (by decide), g10]) (by rw [zu_k (by decide), g11]) (show p.1 + 1 < c by omega) g4
set_option maxHeartbeats 4000000 in
set_option maxRecDepth 100000 in
theorem sp_enter {d t c : Nat} {M : zMI} {L : zML} {T : Nat → Nat → Nat} {p : zP} (h : zTT M T c p) : Sy yX10_enter YX10_enter (d + 1) [.ref 2] M L (zRf t) (fun v0 M' L' R' => v0 = none ∧ L = L' ∧ R' = zRf t ∧ zTT M' T c (zpe T c p) ∧ ∀ x, x ≠ 2 → M' x = M x) := by
  refine Sp.of (by decide +kernel) rfl (fun h => by first | exact h | cases h) (Nat.le_of_ble_eq_true rfl) ?_
  intro w G
  obtain ⟨g1, g2, g3, g4, g6, g8, g9, g10, g11, g⟩ := id h
  have gi := g _ g3
  refine wp_aload_n (q := 1) dX10_enter_0 0 rfl rfl ?_
  refine wp_getI (q := 4) dX10_enter_1 zf_RX10_40 rfl zsh_2 rfl ?_
  rw [g9]
  refine wp_bipush (q := 6) dX10_enter_4 zq_bipush_6 rfl ?_
  refine wp_icmp_lt (tgt := 26) (q := 9) dX10_enter_6 (by decide) rfl (fun hz => ?_) (fun hz => ?_)
  · skip
    have e : zpe T c p = zpn c (p.1, p.2.1 + nI 1, p.2.2.1, p.2.2.2) := if_pos hz
    refine wp_aload_n (q := 27) dX10_enter_26 0 rfl rfl ?_
    refine wp_dup (q := 28) dX10_enter_27 rfl rfl ?_
    refine wp_getI (q := 31) dX10_enter_28 zf_RX10_40 rfl zsh_2 rfl ?_
    rw [g9]
    refine wp_iconst (q := 32) dX10_enter_31 zq_iconst_1 rfl ?_
    refine wp_iadd (q := 33) dX10_enter_32 rfl ?_
    refine wp_putI (q := 36) dX10_enter_33 zf_RX10_40 rfl zsh_2 rfl ?_
    refine wp_aload_n (q := 37) dX10_enter_36 0 rfl rfl ?_
    have h2 : zTT (zu M 2 9 (p.2.1 + nI 1)) T c (p.1, p.2.1 + nI 1, p.2.2.1, p.2.2.2) := zTT_up h (fun x hx => by rw [zu_ne hx]) (by rw [zu_k (by decide)]) (by rw [zu_k (by decide), g8]) zu_s (by rw [zu_k (by decide), g10]) (by rw [zu_k (by decide), g11]) g3 g4
    refine wp_cvy (q := 40) (sp_next (d := d) h2) zm_X10_next zl_RX10_85 dX10_enter_37 rfl (by omega) (Nat.le_of_ble_eq_true rfl) zsh_2 rfl rfl ?_
    rintro _ M2 _ _ ⟨rfl, rfl, rfl, h3, hf⟩
    exact wp_return dX10_enter_40 rfl ⟨rfl, ⟨rfl, rfl, rfl, by rw [e]; exact h3, fun x hx => by rw [hf x hx, zu_ne hx]⟩⟩ rfl rfl
  · skip
    have e : zpe T c p = zpf c p 4 (nI (T p.1 1)) := if_neg hz
    refine wp_aload_n (q := 10) dX10_enter_9 0 rfl rfl ?_
    refine wp_iconst (q := 11) dX10_enter_10 zq_iconst_4 rfl ?_
    refine wp_aload_n (q := 12) dX10_enter_11 0 rfl rfl ?_
    refine wp_getR (q := 15) dX10_enter_12 zf_RX10_15 rfl zsh_2 (zr_2_1 _) rfl ?_
    refine wp_aload_n (q := 16) dX10_enter_15 0 rfl rfl ?_
    refine wp_getI (q := 19) dX10_enter_16 zf_RX10_37 rfl zsh_2 rfl ?_
    rw [g8]
    refine wp_iald (q := 20) _ dX10_enter_19 zsh_4 rfl (by omega) (by decide) rfl ?_
    rw [gi.2.2.1]
    refine wp_cvy (q := 23) (sp_fail (d := d) (y := nI (T p.1 1)) h (by decide : 4 ≤ 5)) zm_X10_fail zl_RX10_82 dX10_enter_20 rfl (by omega) (Nat.le_of_ble_eq_true rfl) zsh_2 rfl rfl ?_
    rintro _ M2 _ _ ⟨rfl, rfl, rfl, h2, hf⟩
    refine wp_goto (tgt := 40) dX10_enter_23 (by decide) ?_
    exact wp_return dX10_enter_40 rfl ⟨rfl, ⟨rfl, rfl, rfl, by rw [e]; exact h2, hf⟩⟩ rfl rfl
set_option maxHeartbeats 4000000 in
set_option maxRecDepth 100000 in
theorem sp_leave {d t c : Nat} {M : zMI} {L : zML} {T : Nat → Nat → Nat} {p : zP} (h : zTT M T c p) : Sy yX10_leave YX10_leave (d) [.ref 2] M L (zRf t) (fun v0 M' L' R' => v0 = none ∧ L = L' ∧ R' = zRf t ∧ zTT M' T c (zpl p) ∧ ∀ x, x ≠ 2 → M' x = M x) := by
  refine Sp.of (by decide +kernel) rfl (fun h => by first | exact h | cases h) (Nat.le_of_ble_eq_true rfl) ?_
  intro w G
  obtain ⟨g1, g2, g3, g4, g6, g8, g9, g10, g11, g⟩ := id h
  refine wp_aload_n (q := 1) dX10_leave_0 0 rfl rfl ?_
  refine wp_dup (q := 2) dX10_leave_1 rfl rfl ?_
  refine wp_getI (q := 5) dX10_leave_2 zf_RX10_40 rfl zsh_2 rfl ?_
  rw [g9]
  refine wp_iconst (q := 6) dX10_leave_5 zq_iconst_1 rfl ?_
  refine wp_isub (q := 7) dX10_leave_6 rfl ?_
  refine wp_putI (q := 10) dX10_leave_7 zf_RX10_40 rfl zsh_2 rfl ?_
  exact wp_return dX10_leave_10 rfl ⟨rfl, ⟨rfl, rfl, rfl, zTT_up h (fun x hx => by rw [zu_ne hx]) (by rw [zu_k (by decide)]) (by rw [zu_k (by decide), g8]; rfl) zu_s (by rw [zu_k (by decide), g10]; rfl) (by rw [zu_k (by decide), g11]; rfl) g3 g4, fun x hx => by rw [zu_ne hx]⟩⟩ rfl rfl
set_option maxHeartbeats 4000000 in
set_option maxRecDepth 100000 in
theorem sp_needSign {d t c s : Nat} {M : zMI} {L : zML} {T : Nat → Nat → Nat} {p : zP} (h : zTT M T c p) (hs : s < 256) : Sy yX10_needSign YX10_needSign (d + 2) [.ref 2, .int (nI s)] M L (zRf t) (fun v0 M' L' R' => v0 = none ∧ L = L' ∧ R' = zRf t ∧ zTT M' T c (zpNS T c p s) ∧ ∀ x, x ≠ 2 → M' x = M x) := by
  refine Sp.of (by decide +kernel) rfl (fun h => by first | exact h | cases h) (Nat.le_of_ble_eq_true rfl) ?_
  intro w G
  refine wp_aload_n (q := 1) dX10_needSign_0 0 rfl rfl ?_
  refine wp_iload_n (q := 2) dX10_needSign_1 1 rfl rfl ?_
  refine wp_cvx (q := 5) (sp_atSign (d := d) h hs) zm_X10_atSign zl_RX10_88 dX10_needSign_2 rfl (by omega) (Nat.le_of_ble_eq_true rfl) zsh_2 rfl rfl ?_
  by_cases hz : zpS T p s = true
  · rw [if_pos hz]
    have e : zpNS T c p s = zpn c p := if_pos hz
    refine wp_if_eqN (tgt := 15) (q := 8) dX10_needSign_5 (by decide) rfl (by omega) (fun hn => absurd hn (by omega)) (fun _ => ?_)
    refine wp_aload_n (q := 9) dX10_needSign_8 0 rfl rfl ?_
    refine wp_cvy (q := 12) (sp_next (d := d) h) zm_X10_next zl_RX10_85 dX10_needSign_9 rfl (by omega) (Nat.le_of_ble_eq_true rfl) zsh_2 rfl rfl ?_
    rintro _ M2 _ _ ⟨rfl, rfl, rfl, h3, hf⟩
    refine wp_goto (tgt := 19) dX10_needSign_12 (by decide) ?_
    exact wp_return dX10_needSign_19 rfl ⟨rfl, ⟨rfl, rfl, rfl, by rw [e]; exact h3, hf⟩⟩ rfl rfl
  · rw [if_neg hz]
    have e : zpNS T c p s = zpfh T c p := if_neg hz
    refine wp_if_eqN (tgt := 15) (q := 8) dX10_needSign_5 (by decide) rfl (by omega) (fun _ => ?_) (fun hn => absurd hn (by omega))
    refine wp_aload_n (q := 16) dX10_needSign_15 0 rfl rfl ?_
    refine wp_cvy (q := 19) (sp_failHere (d := d) h) zm_X10_failHere zl_RX10_92 dX10_needSign_16 rfl (by omega) (Nat.le_of_ble_eq_true rfl) zsh_2 rfl rfl ?_
    rintro _ M2 _ _ ⟨rfl, rfl, rfl, h3, hf⟩
    exact wp_return dX10_needSign_19 rfl ⟨rfl, ⟨rfl, rfl, rfl, by rw [e]; exact h3, hf⟩⟩ rfl rfl
set_option maxHeartbeats 4000000 in
set_option maxRecDepth 100000 in
theorem sp_needWordOf {d t c f l : Nat} {M : zMI} {L : zML} {T : Nat → Nat → Nat} {p : zP} (h : zTT M T c p) (hfl : f ≤ l) (hl : l < 30) : Sy yX10_needWordOf YX10_needWordOf (d + 2) [.ref 2, .int (nI f), .int (nI l)] M L (zRf t) (fun v0 M' L' R' => v0 = some (.int (nI (zpWo T c p f l).2)) ∧ L = L' ∧ R' = zRf t ∧ zTT M' T c (zpWo T c p f l).1 ∧ ∀ x, x ≠ 2 → M' x = M x) := by
  refine Sp.of (by decide +kernel) rfl (fun h => by first | exact h | cases h) (Nat.le_of_ble_eq_true rfl) ?_
  intro w G
  obtain ⟨g1, g2, g3, g4, g6, g8, g9, g10, g11, g⟩ := id h
  have gi := g _ g3
  refine wp_aload_n (q := 1) dX10_needWordOf_0 0 rfl rfl ?_
  refine wp_getR (q := 4) dX10_needWordOf_1 zf_RX10_24 rfl zsh_2 (zr_2_4 _) rfl ?_
  refine wp_aload_n (q := 5) dX10_needWordOf_4 0 rfl rfl ?_
  refine wp_getI (q := 8) dX10_needWordOf_5 zf_RX10_37 rfl zsh_2 rfl ?_
  rw [g8]
  refine wp_iald (q := 9) _ dX10_needWordOf_8 zsh_7 rfl (by omega) (by decide) rfl ?_
  rw [gi.2.2.2.2.2.2.2.2]
  refine wp_istore_n (q := 10) (loc' := [(3, _), (0, _), (1, _), (2, _)]) dX10_needWordOf_9 rfl (by decide) rfl rfl ?_
  have bad : ¬ (f ≤ T p.1 4 ∧ T p.1 4 ≤ l) → WP w YX10_needWordOf (d + 2, SS, 0, 0) G (some (zXp (fun v0 M' L' R' => v0 = some (.int (nI (zpWo T c p f l).2)) ∧ L = L' ∧ R' = zRf t ∧ zTT M' T c (zpWo T c p f l).1 ∧ ∀ x, x ≠ 2 → M' x = M x))) 20 [(3, .int (zwd (T p.1 4))), (0, .ref 2), (1, .int (nI f)), (2, .int (nI l))] [] SS M L (zRf t) := by
    intro hb
    have e : zpWo T c p f l = (zpfh T c p, 0) := if_neg hb
    refine wp_aload_n (q := 21) dX10_needWordOf_20 1 rfl rfl ?_
    refine wp_cvy (q := 24) (sp_failHere (d := d) h) zm_X10_failHere zl_RX10_92 dX10_needWordOf_21 rfl (by omega) (Nat.le_of_ble_eq_true rfl) zsh_2 rfl rfl ?_
    rintro _ M2 _ _ ⟨rfl, rfl, rfl, h3, hf⟩
    refine wp_iconst (q := 25) dX10_needWordOf_24 zq_iconst_0 rfl ?_
    exact wp_ireturn dX10_needWordOf_25 rfl ⟨rfl, ⟨by rw [e], rfl, rfl, by rw [e]; exact h3, hf⟩⟩ rfl rfl
  by_cases hw : T p.1 4 < 30
  · rw [show zwd (T p.1 4) = nI (T p.1 4) from if_pos hw] at bad ⊢
    refine wp_iload_n (q := 11) dX10_needWordOf_10 0 rfl rfl ?_
    refine wp_iload_n (q := 12) dX10_needWordOf_11 2 rfl rfl ?_
    refine wp_icmp_ltN (tgt := 20) (q := 15) dX10_needWordOf_12 (by decide) rfl (by omega) (by omega) (fun h1 => ?_) (fun h1 => ?_)
    · skip
      refine WP.sub (loc' := [(3, _), (0, _), (1, _), (2, _)]) [0, 1, 2, 3] rfl ?_
      exact bad (by omega)
    · skip
      refine wp_iload_n (q := 16) dX10_needWordOf_15 0 rfl rfl ?_
      refine wp_iload_n (q := 17) dX10_needWordOf_16 3 rfl rfl ?_
      refine wp_icmp_leN (tgt := 26) (q := 20) dX10_needWordOf_17 (by decide) rfl (by omega) (by omega) (fun h2 => ?_) (fun h2 => ?_)
      · skip
        have e : zpWo T c p f l = (zpn c p, T p.1 4 - f) := if_pos ⟨by omega, by omega⟩
        refine wp_aload_n (q := 27) dX10_needWordOf_26 1 rfl rfl ?_
        refine wp_cvy (q := 30) (sp_next (d := d) h) zm_X10_next zl_RX10_85 dX10_needWordOf_27 rfl (by omega) (Nat.le_of_ble_eq_true rfl) zsh_2 rfl rfl ?_
        rintro _ M2 _ _ ⟨rfl, rfl, rfl, h3, hf⟩
        refine wp_iload_n (q := 31) dX10_needWordOf_30 0 rfl rfl ?_
        refine wp_iload_n (q := 32) dX10_needWordOf_31 2 rfl rfl ?_
        refine wp_isubN (q := 33) dX10_needWordOf_32 (by omega) rfl ?_
        exact wp_ireturn dX10_needWordOf_33 rfl ⟨rfl, ⟨by rw [e], rfl, rfl, by rw [e]; exact h3, hf⟩⟩ rfl rfl
      · skip
        refine WP.sub (loc' := [(3, _), (0, _), (1, _), (2, _)]) [0, 1, 2, 3] rfl ?_
        exact bad (by omega)
  · rw [show zwd (T p.1 4) = -1 from if_neg hw] at bad ⊢
    have hm : ∀ w, w < 30 → (-1 : Int32) < nI w := by decide +kernel
    refine wp_iload_n (q := 11) dX10_needWordOf_10 0 rfl rfl ?_
    refine wp_iload_n (q := 12) dX10_needWordOf_11 2 rfl rfl ?_
    refine wp_icmp_lt (tgt := 20) (q := 15) dX10_needWordOf_12 (by decide) rfl (fun _ => ?_) (fun hn => absurd hn (by exact fun c => c (hm f (by omega))))
    refine WP.sub (loc' := [(3, _), (0, _), (1, _), (2, _)]) [0, 1, 2, 3] rfl ?_
    exact bad (by omega)
set_option maxHeartbeats 4000000 in
set_option maxRecDepth 100000 in
theorem sp_needWord {d t c f : Nat} {M : zMI} {L : zML} {T : Nat → Nat → Nat} {p : zP} (h : zTT M T c p) (hl : f < 30) : Sy yX10_needWord YX10_needWord (d + 3) [.ref 2, .int (nI f)] M L (zRf t) (fun v0 M' L' R' => v0 = none ∧ L = L' ∧ R' = zRf t ∧ zTT M' T c (zpWo T c p f f).1 ∧ ∀ x, x ≠ 2 → M' x = M x) := by
  refine Sp.of (by decide +kernel) rfl (fun h => by first | exact h | cases h) (Nat.le_of_ble_eq_true rfl) ?_
  intro w G
  refine wp_aload_n (q := 1) dX10_needWord_0 0 rfl rfl ?_
  refine wp_iload_n (q := 2) dX10_needWord_1 1 rfl rfl ?_
  refine wp_iload_n (q := 3) dX10_needWord_2 1 rfl rfl ?_
  refine wp_cvy (q := 6) (sp_needWordOf (d := d) h (Nat.le_refl f) hl) zm_X10_needWordOf zl_RX10_95 dX10_needWord_3 rfl (by omega) (Nat.le_of_ble_eq_true rfl) zsh_2 rfl rfl ?_
  rintro _ M2 _ _ ⟨rfl, rfl, rfl, h3, hf⟩
  refine wp_pop (q := 7) dX10_needWord_6 rfl rfl ?_
  exact wp_return dX10_needWord_7 rfl ⟨rfl, ⟨rfl, rfl, rfl, h3, hf⟩⟩ rfl rfl
set_option maxHeartbeats 4000000 in
set_option maxRecDepth 100000 in
theorem sp_needNumber {d t c m : Nat} {M : zMI} {L : zML} {T : Nat → Nat → Nat} {p : zP} (h : zTT M T c p) (hm : m ≤ 9999) : Sy yX10_needNumber YX10_needNumber (d + 2) [.ref 2, .int (nI m)] M L (zRf t) (fun v0 M' L' R' => v0 = some (.int (nI (zpNu T c p m).2)) ∧ L = L' ∧ R' = zRf t ∧ zTT M' T c (zpNu T c p m).1 ∧ ∀ x, x ≠ 2 → M' x = M x) := by
  refine Sp.of (by decide +kernel) rfl (fun h => by first | exact h | cases h) (Nat.le_of_ble_eq_true rfl) ?_
  intro w G
  obtain ⟨g1, g2, g3, g4, g6, g8, g9, g10, g11, g⟩ := id h
  have gi := g _ g3
  obtain ⟨i0, i1, i2, i3, i4, i5, i6, i7, i8⟩ := gi
  refine wp_aload_n (q := 1) dX10_needNumber_0 0 rfl rfl ?_
  refine wp_getR (q := 4) dX10_needNumber_1 zf_RX10_18 rfl zsh_2 (zr_2_2 _) rfl ?_
  refine wp_aload_n (q := 5) dX10_needNumber_4 0 rfl rfl ?_
  refine wp_getI (q := 8) dX10_needNumber_5 zf_RX10_37 rfl zsh_2 rfl ?_
  rw [g8]
  refine wp_iald (q := 9) _ dX10_needNumber_8 zsh_5 rfl (by omega) (by decide) rfl ?_
  rw [i4]
  refine wp_istore_n (q := 10) (loc' := [(2, _), (0, _), (1, _)]) dX10_needNumber_9 rfl (by decide) rfl rfl ?_
  refine wp_aload_n (q := 11) dX10_needNumber_10 1 rfl rfl ?_
  refine wp_getR (q := 14) dX10_needNumber_11 zf_RX10_9 rfl zsh_2 (zr_2_0 _) rfl ?_
  refine wp_aload_n (q := 15) dX10_needNumber_14 1 rfl rfl ?_
  refine wp_getI (q := 18) dX10_needNumber_15 zf_RX10_37 rfl zsh_2 rfl ?_
  rw [g8]
  refine wp_iald (q := 19) _ dX10_needNumber_18 zsh_3 rfl (by omega) (by decide) rfl ?_
  rw [i0]
  refine wp_iconst (q := 20) dX10_needNumber_19 zq_iconst_2 rfl ?_
  refine wp_icmp_eqN (tgt := 30) (q := 23) dX10_needNumber_20 (by decide) rfl (by omega) (by omega) (fun h0 => ?_) (fun h0 => ?_)
  · skip
    refine wp_aload_n (q := 31) dX10_needNumber_30 1 rfl rfl ?_
    refine wp_getR (q := 34) dX10_needNumber_31 zf_RX10_21 rfl zsh_2 (zr_2_3 _) rfl ?_
    refine wp_aload_n (q := 35) dX10_needNumber_34 1 rfl rfl ?_
    refine wp_getI (q := 38) dX10_needNumber_35 zf_RX10_37 rfl zsh_2 rfl ?_
    rw [g8]
    refine wp_iald (q := 39) _ dX10_needNumber_38 zsh_6 rfl (by omega) (by decide) rfl ?_
    rw [i6]
    refine wp_iconst (q := 40) dX10_needNumber_39 zq_iconst_4 rfl ?_
    refine wp_icmp_leN (tgt := 62) (q := 43) dX10_needNumber_40 (by decide) rfl (by omega) (by omega) (fun hs => ?_) (fun hs => ?_)
    · skip
      refine wp_iload_n (q := 63) dX10_needNumber_62 0 rfl rfl ?_
      refine wp_iload_n (q := 64) dX10_needNumber_63 2 rfl rfl ?_
      refine wp_icmp_leN (tgt := 84) (q := 67) dX10_needNumber_64 (by decide) rfl (by omega) (by omega) (fun hv => ?_) (fun hv => ?_)
      · skip
        have e : zpNu T c p m = (zpn c p, T p.1 2) := by unfold zpNu; rw [if_pos h0, if_pos hs, if_pos hv]
        refine wp_aload_n (q := 85) dX10_needNumber_84 1 rfl rfl ?_
        refine wp_cvy (q := 88) (sp_next (d := d) h) zm_X10_next zl_RX10_85 dX10_needNumber_85 rfl (by omega) (Nat.le_of_ble_eq_true rfl) zsh_2 rfl rfl ?_
        rintro _ M2 _ _ ⟨rfl, rfl, rfl, h3, hf⟩
        refine wp_iload_n (q := 89) dX10_needNumber_88 0 rfl rfl ?_
        exact wp_ireturn dX10_needNumber_89 rfl ⟨rfl, ⟨by rw [e], rfl, rfl, by rw [e]; exact h3, hf⟩⟩ rfl rfl
      · skip
        have e : zpNu T c p m = (zpf c p 2 (nI (T p.1 1)), 0) := by unfold zpNu; rw [if_pos h0, if_pos hs, if_neg (by omega)]
        refine wp_aload_n (q := 68) dX10_needNumber_67 1 rfl rfl ?_
        refine wp_iconst (q := 69) dX10_needNumber_68 zq_iconst_2 rfl ?_
        refine wp_aload_n (q := 70) dX10_needNumber_69 1 rfl rfl ?_
        refine wp_getR (q := 73) dX10_needNumber_70 zf_RX10_15 rfl zsh_2 (zr_2_1 _) rfl ?_
        refine wp_aload_n (q := 74) dX10_needNumber_73 1 rfl rfl ?_
        refine wp_getI (q := 77) dX10_needNumber_74 zf_RX10_37 rfl zsh_2 rfl ?_
        rw [g8]
        refine wp_iald (q := 78) _ dX10_needNumber_77 zsh_4 rfl (by omega) (by decide) rfl ?_
        rw [i2]
        refine wp_cvy (q := 81) (sp_fail (d := d) (y := nI (T p.1 1)) h (by decide : 2 ≤ 5)) zm_X10_fail zl_RX10_82 dX10_needNumber_78 rfl (by omega) (Nat.le_of_ble_eq_true rfl) zsh_2 rfl rfl ?_
        rintro _ M2 _ _ ⟨rfl, rfl, rfl, h3, hf⟩
        refine wp_goto (tgt := 90) dX10_needNumber_81 (by decide) ?_
        refine wp_iconst (q := 91) dX10_needNumber_90 zq_iconst_0 rfl ?_
        exact wp_ireturn dX10_needNumber_91 rfl ⟨rfl, ⟨by rw [e], rfl, rfl, by rw [e]; exact h3, hf⟩⟩ rfl rfl
    · skip
      have e : zpNu T c p m = (zpf c p 1 (nI (T p.1 1 + 4)), 0) := by unfold zpNu; rw [if_pos h0, if_neg (by omega)]
      refine wp_aload_n (q := 44) dX10_needNumber_43 1 rfl rfl ?_
      refine wp_iconst (q := 45) dX10_needNumber_44 zq_iconst_1 rfl ?_
      refine wp_aload_n (q := 46) dX10_needNumber_45 1 rfl rfl ?_
      refine wp_getR (q := 49) dX10_needNumber_46 zf_RX10_15 rfl zsh_2 (zr_2_1 _) rfl ?_
      refine wp_aload_n (q := 50) dX10_needNumber_49 1 rfl rfl ?_
      refine wp_getI (q := 53) dX10_needNumber_50 zf_RX10_37 rfl zsh_2 rfl ?_
      rw [g8]
      refine wp_iald (q := 54) _ dX10_needNumber_53 zsh_4 rfl (by omega) (by decide) rfl ?_
      rw [i2]
      refine wp_iconst (q := 55) dX10_needNumber_54 zq_iconst_4 rfl ?_
      refine wp_iaddN (q := 56) dX10_needNumber_55 rfl ?_
      refine wp_cvy (q := 59) (sp_fail (d := d) (y := nI (T p.1 1 + 4)) h (by decide : 1 ≤ 5)) zm_X10_fail zl_RX10_82 dX10_needNumber_56 rfl (by omega) (Nat.le_of_ble_eq_true rfl) zsh_2 rfl rfl ?_
      rintro _ M2 _ _ ⟨rfl, rfl, rfl, h3, hf⟩
      refine wp_goto (tgt := 90) dX10_needNumber_59 (by decide) ?_
      refine wp_iconst (q := 91) dX10_needNumber_90 zq_iconst_0 rfl ?_
      exact wp_ireturn dX10_needNumber_91 rfl ⟨rfl, ⟨by rw [e], rfl, rfl, by rw [e]; exact h3, hf⟩⟩ rfl rfl
  · skip
    have e : zpNu T c p m = (zpfh T c p, 0) := by unfold zpNu; rw [if_neg h0]
    refine wp_aload_n (q := 24) dX10_needNumber_23 1 rfl rfl ?_
    refine wp_cvy (q := 27) (sp_failHere (d := d) h) zm_X10_failHere zl_RX10_92 dX10_needNumber_24 rfl (by omega) (Nat.le_of_ble_eq_true rfl) zsh_2 rfl rfl ?_
    rintro _ M2 _ _ ⟨rfl, rfl, rfl, h3, hf⟩
    refine wp_goto (tgt := 90) dX10_needNumber_27 (by decide) ?_
    refine wp_iconst (q := 91) dX10_needNumber_90 zq_iconst_0 rfl ?_
    exact wp_ireturn dX10_needNumber_91 rfl ⟨rfl, ⟨by rw [e], rfl, rfl, by rw [e]; exact h3, hf⟩⟩ rfl rfl
set_option maxHeartbeats 4000000 in
set_option maxRecDepth 100000 in
theorem sp_needName {d t c : Nat} {M : zMI} {L : zML} {T : Nat → Nat → Nat} {p : zP} (h : zTT M T c p) : Sy yX10_needName YX10_needName (d + 2) [.ref 2] M L (zRf t) (fun v0 M' L' R' => v0 = some (.int (nI (zpNa T c p).2)) ∧ L = L' ∧ R' = zRf t ∧ zTT M' T c (zpNa T c p).1 ∧ ∀ x, x ≠ 2 → M' x = M x) := by
  refine Sp.of (by decide +kernel) rfl (fun h => by first | exact h | cases h) (Nat.le_of_ble_eq_true rfl) ?_
  intro w G
  obtain ⟨g1, g2, g3, g4, g6, g8, g9, g10, g11, g⟩ := id h
  have gi := g _ g3
  obtain ⟨i0, i1, i2, i3, i4, i5, i6, i7, i8⟩ := gi
  refine wp_aload_n (q := 1) dX10_needName_0 0 rfl rfl ?_
  refine wp_getR (q := 4) dX10_needName_1 zf_RX10_18 rfl zsh_2 (zr_2_2 _) rfl ?_
  refine wp_aload_n (q := 5) dX10_needName_4 0 rfl rfl ?_
  refine wp_getI (q := 8) dX10_needName_5 zf_RX10_37 rfl zsh_2 rfl ?_
  rw [g8]
  refine wp_iald (q := 9) _ dX10_needName_8 zsh_5 rfl (by omega) (by decide) rfl ?_
  rw [i4]
  refine wp_istore_n (q := 10) (loc' := [(1, _), (0, _)]) dX10_needName_9 rfl (by decide) rfl rfl ?_
  have bad : ¬ (T p.1 0 = 1 ∧ ¬ T p.1 4 < 24) → WP w YX10_needName (d + 2, SS, 0, 0) G (some (zXp (fun v0 M' L' R' => v0 = some (.int (nI (zpNa T c p).2)) ∧ L = L' ∧ R' = zRf t ∧ zTT M' T c (zpNa T c p).1 ∧ ∀ x, x ≠ 2 → M' x = M x))) 49 [(1, .int (nI (T p.1 2))), (0, .ref 2)] [] SS M L (zRf t) := by
    intro hb
    have e : zpNa T c p = (zpfh T c p, 0) := if_neg hb
    refine wp_aload_n (q := 50) dX10_needName_49 1 rfl rfl ?_
    refine wp_cvy (q := 53) (sp_failHere (d := d) h) zm_X10_failHere zl_RX10_92 dX10_needName_50 rfl (by omega) (Nat.le_of_ble_eq_true rfl) zsh_2 rfl rfl ?_
    rintro _ M2 _ _ ⟨rfl, rfl, rfl, h3, hf⟩
    refine wp_goto (tgt := 96) dX10_needName_53 (by decide) ?_
    refine wp_iconst (q := 97) dX10_needName_96 zq_iconst_0 rfl ?_
    exact wp_ireturn dX10_needName_97 rfl ⟨rfl, ⟨by rw [e], rfl, rfl, by rw [e]; exact h3, hf⟩⟩ rfl rfl
  have good : T p.1 0 = 1 ∧ ¬ T p.1 4 < 24 → WP w YX10_needName (d + 2, SS, 0, 0) G (some (zXp (fun v0 M' L' R' => v0 = some (.int (nI (zpNa T c p).2)) ∧ L = L' ∧ R' = zRf t ∧ zTT M' T c (zpNa T c p).1 ∧ ∀ x, x ≠ 2 → M' x = M x))) 56 [(1, .int (nI (T p.1 2))), (0, .ref 2)] [] SS M L (zRf t) := by
    intro hb
    refine wp_aload_n (q := 57) dX10_needName_56 1 rfl rfl ?_
    refine wp_getR (q := 60) dX10_needName_57 zf_RX10_21 rfl zsh_2 (zr_2_3 _) rfl ?_
    refine wp_aload_n (q := 61) dX10_needName_60 1 rfl rfl ?_
    refine wp_getI (q := 64) dX10_needName_61 zf_RX10_37 rfl zsh_2 rfl ?_
    rw [g8]
    refine wp_iald (q := 65) _ dX10_needName_64 zsh_6 rfl (by omega) (by decide) rfl ?_
    rw [i6]
    refine wp_bipush (q := 67) dX10_needName_65 zq_bipush_6 rfl ?_
    refine wp_icmp_leN (tgt := 90) (q := 70) dX10_needName_67 (by decide) rfl (by omega) (by omega) (fun hs => ?_) (fun hs => ?_)
    · skip
      have e : zpNa T c p = (zpn c p, T p.1 2) := by unfold zpNa; rw [if_pos hb, if_pos hs]
      refine wp_aload_n (q := 91) dX10_needName_90 1 rfl rfl ?_
      refine wp_cvy (q := 94) (sp_next (d := d) h) zm_X10_next zl_RX10_85 dX10_needName_91 rfl (by omega) (Nat.le_of_ble_eq_true rfl) zsh_2 rfl rfl ?_
      rintro _ M2 _ _ ⟨rfl, rfl, rfl, h3, hf⟩
      refine wp_iload_n (q := 95) dX10_needName_94 0 rfl rfl ?_
      exact wp_ireturn dX10_needName_95 rfl ⟨rfl, ⟨by rw [e], rfl, rfl, by rw [e]; exact h3, hf⟩⟩ rfl rfl
    · skip
      have e : zpNa T c p = (zpf c p 1 (nI (T p.1 1 + 6)), 0) := by unfold zpNa; rw [if_pos hb, if_neg (by omega)]
      refine wp_aload_n (q := 71) dX10_needName_70 1 rfl rfl ?_
      refine wp_iconst (q := 72) dX10_needName_71 zq_iconst_1 rfl ?_
      refine wp_aload_n (q := 73) dX10_needName_72 1 rfl rfl ?_
      refine wp_getR (q := 76) dX10_needName_73 zf_RX10_15 rfl zsh_2 (zr_2_1 _) rfl ?_
      refine wp_aload_n (q := 77) dX10_needName_76 1 rfl rfl ?_
      refine wp_getI (q := 80) dX10_needName_77 zf_RX10_37 rfl zsh_2 rfl ?_
      rw [g8]
      refine wp_iald (q := 81) _ dX10_needName_80 zsh_4 rfl (by omega) (by decide) rfl ?_
      rw [i2]
      refine wp_bipush (q := 83) dX10_needName_81 zq_bipush_6 rfl ?_
      refine wp_iaddN (q := 84) dX10_needName_83 rfl ?_
      refine wp_cvy (q := 87) (sp_fail (d := d) (y := nI (T p.1 1 + 6)) h (by decide : 1 ≤ 5)) zm_X10_fail zl_RX10_82 dX10_needName_84 rfl (by omega) (Nat.le_of_ble_eq_true rfl) zsh_2 rfl rfl ?_
      rintro _ M2 _ _ ⟨rfl, rfl, rfl, h3, hf⟩
      refine wp_goto (tgt := 96) dX10_needName_87 (by decide) ?_
      refine wp_iconst (q := 97) dX10_needName_96 zq_iconst_0 rfl ?_
      exact wp_ireturn dX10_needName_97 rfl ⟨rfl, ⟨by rw [e], rfl, rfl, by rw [e]; exact h3, hf⟩⟩ rfl rfl
  refine wp_aload_n (q := 11) dX10_needName_10 1 rfl rfl ?_
  refine wp_getR (q := 14) dX10_needName_11 zf_RX10_9 rfl zsh_2 (zr_2_0 _) rfl ?_
  refine wp_aload_n (q := 15) dX10_needName_14 1 rfl rfl ?_
  refine wp_getI (q := 18) dX10_needName_15 zf_RX10_37 rfl zsh_2 rfl ?_
  rw [g8]
  refine wp_iald (q := 19) _ dX10_needName_18 zsh_3 rfl (by omega) (by decide) rfl ?_
  rw [i0]
  refine wp_iconst (q := 20) dX10_needName_19 zq_iconst_1 rfl ?_
  refine wp_icmp_neN (tgt := 49) (q := 23) dX10_needName_20 (by decide) rfl (by omega) (by omega) (fun h0 => ?_) (fun h0 => ?_)
  · skip
    refine WP.sub (loc' := [(1, _), (0, _)]) [0, 1] rfl ?_
    exact bad (fun c => h0 c.1)
  · skip
    refine wp_aload_n (q := 24) dX10_needName_23 1 rfl rfl ?_
    refine wp_getR (q := 27) dX10_needName_24 zf_RX10_24 rfl zsh_2 (zr_2_4 _) rfl ?_
    refine wp_aload_n (q := 28) dX10_needName_27 1 rfl rfl ?_
    refine wp_getI (q := 31) dX10_needName_28 zf_RX10_37 rfl zsh_2 rfl ?_
    rw [g8]
    refine wp_iald (q := 32) _ dX10_needName_31 zsh_7 rfl (by omega) (by decide) rfl ?_
    rw [i8]
    by_cases hw : T p.1 4 < 30
    · rw [show zwd (T p.1 4) = nI (T p.1 4) from if_pos hw] at i8 ⊢
      refine wp_if_lt (tgt := 56) (q := 35) dX10_needName_32 (by decide) rfl (fun hn => absurd hn (by exact nI_pos (by omega))) (fun _ => ?_)
      refine wp_aload_n (q := 36) dX10_needName_35 1 rfl rfl ?_
      refine wp_getR (q := 39) dX10_needName_36 zf_RX10_24 rfl zsh_2 (zr_2_4 _) rfl ?_
      refine wp_aload_n (q := 40) dX10_needName_39 1 rfl rfl ?_
      refine wp_getI (q := 43) dX10_needName_40 zf_RX10_37 rfl zsh_2 rfl ?_
      rw [g8]
      refine wp_iald (q := 44) _ dX10_needName_43 zsh_7 rfl (by omega) (by decide) rfl ?_
      rw [i8]
      refine wp_bipush (q := 46) dX10_needName_44 zq_bipush_24 rfl ?_
      refine wp_icmp_geN (tgt := 56) (q := 49) dX10_needName_46 (by decide) rfl (by omega) (by omega) (fun h1 => ?_) (fun h1 => ?_)
      · skip
        refine WP.sub (loc' := [(1, _), (0, _)]) [0, 1] rfl ?_
        exact good ⟨h0, by omega⟩
      · skip
        refine WP.sub (loc' := [(1, _), (0, _)]) [0, 1] rfl ?_
        exact bad (fun c => c.2 h1)
    · rw [show zwd (T p.1 4) = -1 from if_neg hw]
      refine wp_if_lt (tgt := 56) (q := 35) dX10_needName_32 (by decide) rfl (fun _ => ?_) (fun hn => absurd hn (by decide))
      refine WP.sub (loc' := [(1, _), (0, _)]) [0, 1] rfl ?_
      exact good ⟨h0, by omega⟩

