theorem zpe_lt {T : Nat → Nat → Nat} {c : Nat} {p : zP} (hE : zTE T c) (hp : p.1 < c) : (zpe T c p).1 < c := by
  unfold zpe
  split
  · exact (zkp_n hE (p := (p.1, p.2.1 + nI 1, p.2.2.1, p.2.2.2)) hp).1
  · rw [zpf_1]; have := hE.1; omega
theorem zkp_el {T : Nat → Nat → Nat} {c : Nat} {p q : zP} (hE : zTE T c) (h0 : T p.1 0 ≠ 0) (hq : zkp T c (zpe T c p) q) : zkp T c p (zpl q) := by
  obtain ⟨a, b⟩ := hq
  refine ⟨a, ?_⟩
  rcases b with b | ⟨b1, b2⟩
  · exact Or.inl b
  · refine Or.inr ⟨h0, ?_⟩
    show q.2.1 - nI 1 = p.2.1
    rw [b2]
    unfold zpe at b1 ⊢
    split
    · show p.2.1 + nI 1 - nI 1 = p.2.1
      exact Int32.add_sub_cancel _ _
    · rename_i hh
      rw [if_neg hh] at b1
      exact absurd (by rw [zpf_1]; exact hE.2.1) b1
theorem zkp_NS {T : Nat → Nat → Nat} {c s : Nat} {p : zP} (hE : zTE T c) (hp : p.1 < c) : zkp T c p (zpNS T c p s) := by
  unfold zpNS
  split
  · exact zkp_n hE hp
  · exact zkp_f hE zpf_1
theorem zkp_Nu {T : Nat → Nat → Nat} {c m : Nat} {p : zP} (hE : zTE T c) (hp : p.1 < c) : zkp T c p (zpNu T c p m).1 := by
  unfold zpNu
  split
  · split
    · split
      · exact zkp_n hE hp
      · exact zkp_f hE zpf_1
    · exact zkp_f hE zpf_1
  · exact zkp_f hE zpf_1
theorem zpS_0 {T : Nat → Nat → Nat} {p : zP} {s : Nat} (h : zpS T p s = true) : T p.1 0 ≠ 0 := by
  have := (of_decide_eq_true h).1
  omega
theorem zTE_w {T : Nat → Nat → Nat} {c : Nat} {p : zP} (hE : zTE T c) (hp : p.1 < c) (h : T p.1 4 < 30) : T p.1 0 ≠ 0 := by
  intro e
  have := hE.2.2.2 _ hp e
  have h2 := hE.2.2.1
  rw [this] at h
  omega
theorem zkp_o2 {T : Nat → Nat → Nat} {c op : Nat} {su : zP → zFl → zPF} (hE : zTE T c) (hsu : ∀ p F, p.1 < c → zkp T c p (su p F).1) (p : zP) (F : zFl) (hp : p.1 < c) : zkp T c p (zo2 T c su op p F).1 := by
  have hn := zkp_n hE hp
  unfold zo2
  split
  · rename_i h
    have e1 := zpe_lt (p := zpn c p) hE hn.1
    have h1 := hsu (zpe T c (zpn c p)) F e1
    have h2 := zkp_NS (s := 44) hE h1.1
    have h3 := hsu _ (su (zpe T c (zpn c p)) F).2 h2.1
    have h4 := zkp_NS (s := 41) hE h3.1
    exact zkp_tr hn (zkp_el hE (zpS_0 h) (zkp_tr h1 (zkp_tr h2 (zkp_tr h3 h4))))
  · exact zkp_f hE zpf_1
theorem zkp_pt {T : Nat → Nat → Nat} {c : Nat} {b : Bool} (hE : zTE T c) : ∀ k p F, p.1 < c → zkp T c p (zpt T c b k p F).1 := by
  intro k
  induction k with
  | zero => intro p F hp; exact zkp_r hp
  | succ k ih =>
    intro p F hp
    rw [zpt]
    generalize (if b = true then zfP (T p.1 4) else zfH (T p.1 4)) = z
    generalize (if T p.1 4 = 22 then 8 else 9) = op
    split
    · exact zkp_Nu hE hp
    · split
      · exact zkp_n hE hp
      · split
        · rename_i h
          have h1 := zkp_su hE ih (zpe T c p) F (zpe_lt hE hp)
          exact zkp_el hE (zpS_0 h) (zkp_tr h1 (zkp_NS hE h1.1))
        · split
          · exact zkp_o2 hE (zkp_su hE ih) p F hp
          · split
            · rename_i h
              exact zkp_el hE (zTE_w hE hp (by omega)) (ih (zpe T c p) F (zpe_lt hE hp))
            · exact zkp_f hE zpf_1
theorem zok_e {T : Nat → Nat → Nat} {c k : Nat} {p : zP} (hE : zTE T c) (h : zok T c (k + 1) p) (h0 : T p.1 0 ≠ 0) : zok T c k (zpe T c p) := by
  obtain ⟨-, hp, h⟩ := h
  rcases h with h | ⟨m, h1, h2, h3⟩
  · exact absurd h h0
  · refine ⟨by omega, zpe_lt hE hp, ?_⟩
    by_cases hm : m < 6
    · have e : zpe T c p = zpn c (p.1, p.2.1 + nI 1, p.2.2.1, p.2.2.2) := if_pos (by rw [h1]; exact (nI_ltI (by omega) (by decide)).mpr hm)
      refine Or.inr ⟨m + 1, ?_, by omega, by omega⟩
      rw [e]
      show p.2.1 + nI 1 = nI (m + 1)
      rw [h1, nI_add]
    · have e : zpe T c p = zpf c p 4 (nI (T p.1 1)) := if_neg (by rw [h1]; exact fun c => hm ((nI_ltI (by omega) (by decide)).mp c))
      refine Or.inl ?_
      rw [e, zpf_1]
      exact hE.2.1
theorem zok_n {T : Nat → Nat → Nat} {c k : Nat} {p : zP} (hE : zTE T c) (h : zok T c k p) : zok T c k (zpn c p) := zkp_ok (zkp_n hE h.2.1) h
set_option maxHeartbeats 4000000 in
set_option maxRecDepth 100000 in
theorem sp_wins {d dd t c f k : Nat} {b : Bool} {M : zMI} {L : zML} {T : Nat → Nat → Nat} {p : zP} {F : zFl} (hdd : dd + 1 ≤ d) (hd1 : 3 ≤ d) (hE : zTE T c) (hf : zFo f) (hpt : ∀ (M : zMI) (p : zP) (F : zFl), zSM M T c b f (p, F) → zok T c k p → Sy yX8_part YX8_part dd [.ref 9, .ref f] M L (zRf t) (zSP M L T c b f t (zpt T c b k p F))) (h : zSM M T c b f (p, F)) (hQ : zok T c k (zpe T c p)) : Sy yX8_wins YX8_wins (d) [.ref 9, .ref f] M L (zRf t) (fun v0 M' L' R' => zSP M L T c b f t (zpl (zpt T c b k (zpe T c p) F).1, (zpt T c b k (zpe T c p) F).2 ++ [(3, 0)]) v0 M' L' R') := by
  refine Sp.of (by decide +kernel) rfl (fun h => by first | exact h | cases h) (Nat.le_of_ble_eq_true rfl) ?_
  intro w G
  obtain ⟨sf1, -, -⟩ := zFo_s hf
  refine wp_aload_n (q := 1) dX8_wins_0 0 rfl rfl ?_
  refine wp_getR (q := 4) dX8_wins_1 zf_RX8_15 rfl zsh_9 (zr_9_0 _) rfl ?_
  refine wp_cvy (q := 7) (sp_enter (d := 0) h.1) zm_X10_enter zl_RX8_56 dX8_wins_4 rfl (by omega) (Nat.le_of_ble_eq_true rfl) zsh_2 rfl rfl ?_
  rintro _ M2 _ _ ⟨rfl, rfl, rfl, h2, hx2⟩
  refine wp_aload_n (q := 8) dX8_wins_7 0 rfl rfl ?_
  refine wp_aload_n (q := 9) dX8_wins_8 1 rfl rfl ?_
  refine wp_cvy (q := 12) (hpt M2 _ F (zSM_t hf h h2 hx2) hQ) zm_X8_part zl_RX8_38 dX8_wins_9 rfl (by omega) (Nat.le_of_ble_eq_true rfl) zsh_9 rfl rfl ?_
  rintro _ M3 _ _ ⟨rfl, rfl, rfl, h3, hx3⟩
  refine wp_aload_n (q := 13) dX8_wins_12 0 rfl rfl ?_
  refine wp_getR (q := 16) dX8_wins_13 zf_RX8_15 rfl zsh_9 (zr_9_0 _) rfl ?_
  refine wp_cvy (q := 19) (sp_leave (d := 0) h3.1) zm_X10_leave zl_RX8_66 dX8_wins_16 rfl (by omega) (Nat.le_of_ble_eq_true rfl) zsh_2 rfl rfl ?_
  rintro _ M4 _ _ ⟨rfl, rfl, rfl, h4, hx4⟩
  have h4' := zSM_t hf h3 h4 hx4
  refine wp_aload_n (q := 20) dX8_wins_19 1 rfl rfl ?_
  refine wp_iconst (q := 21) dX8_wins_20 zq_iconst_3 rfl ?_
  refine wp_iconst (q := 22) dX8_wins_21 zq_iconst_0 rfl ?_
  refine wp_cvy (q := 25) (sp_fad (d := 0) hf h4'.2.1 (by decide : 3 ≤ 14) (by decide : 0 ≤ 9999)) zm_X0_add zl_RX8_32 dX8_wins_22 rfl (by omega) (Nat.le_of_ble_eq_true rfl) (by first | assumption | rfl) rfl rfl ?_
  rintro _ M5 _ _ ⟨rfl, rfl, rfl, h5, hx5⟩
  exact wp_return dX8_wins_25 rfl ⟨rfl, ⟨rfl, rfl, rfl, zSM_f hf h4' h5 hx5, fun x x1 x2 x3 => by rw [hx5 x x2 x3, hx4 x x1, hx3 x x1 x2 x3, hx2 x x1]⟩⟩ rfl rfl
set_option maxHeartbeats 4000000 in
set_option maxRecDepth 100000 in
theorem sp_ofTwoS {d dd t c f k op : Nat} {b : Bool} {M : zMI} {L : zML} {T : Nat → Nat → Nat} {p : zP} {F : zFl} (hop : op ≤ 14) (hdd : dd + 1 ≤ d) (hd1 : 3 ≤ d) (hE : zTE T c) (hf : zFo f) (hsu : ∀ (M : zMI) (p : zP) (F : zFl), zSM M T c b f (p, F) → zok T c k p → Sy yX8_sum YX8_sum dd [.ref 9, .ref f] M L (zRf t) (zSP M L T c b f t (zsu T c (zpt T c b k) p F))) (h : zSM M T c b f (p, F)) (hQ : zok T c (k + 1) p) : Sy yX8_ofTwo YX8_ofTwo (d) [.ref 9, .ref f, .int (nI op)] M L (zRf t) (fun v0 M' L' R' => zSP M L T c b f t (zo2 T c (zsu T c (zpt T c b k)) op p F) v0 M' L' R') := by
  refine Sp.of (by decide +kernel) rfl (fun h => by first | exact h | cases h) (Nat.le_of_ble_eq_true rfl) ?_
  intro w G
  obtain ⟨sf1, -, -⟩ := zFo_s hf
  refine wp_aload_n (q := 1) dX8_ofTwo_0 0 rfl rfl ?_
  refine wp_getR (q := 4) dX8_ofTwo_1 zf_RX8_15 rfl zsh_9 (zr_9_0 _) rfl ?_
  refine wp_cvy (q := 7) (sp_next (d := 0) h.1) zm_X10_next zl_RX8_29 dX8_ofTwo_4 rfl (by omega) (Nat.le_of_ble_eq_true rfl) zsh_2 rfl rfl ?_
  rintro _ M2 _ _ ⟨rfl, rfl, rfl, h2, hx2⟩
  have h2' := zSM_t hf h h2 hx2
  refine wp_aload_n (q := 8) dX8_ofTwo_7 0 rfl rfl ?_
  refine wp_getR (q := 11) dX8_ofTwo_8 zf_RX8_15 rfl zsh_9 (zr_9_0 _) rfl ?_
  refine wp_bipush (q := 13) dX8_ofTwo_11 zq_bipush_40 rfl ?_
  refine wp_cvx (q := 16) (sp_atSign (d := 0) (s := 40) h2 (by decide)) zm_X10_atSign zl_RX8_23 dX8_ofTwo_13 rfl (by omega) (Nat.le_of_ble_eq_true rfl) zsh_2 rfl rfl ?_
  by_cases hz : zpS T (zpn c p) 40 = true
  · rw [if_pos hz]
    have hQ2 := zok_e hE (zok_n hE hQ) (zpS_0 hz)
    have e : zo2 T c (zsu T c (zpt T c b k)) op p F = (zpl (zpNS T c (zsu T c (zpt T c b k) (zpNS T c (zsu T c (zpt T c b k) (zpe T c (zpn c p)) F).1 44) (zsu T c (zpt T c b k) (zpe T c (zpn c p)) F).2).1 41), (zsu T c (zpt T c b k) (zpNS T c (zsu T c (zpt T c b k) (zpe T c (zpn c p)) F).1 44) (zsu T c (zpt T c b k) (zpe T c (zpn c p)) F).2).2 ++ [(op, 0)]) := if_pos hz
    have hk1 := zkp_su hE (zkp_pt (b := b) hE k) (zpe T c (zpn c p)) F hQ2.2.1
    refine wp_if_neN (tgt := 27) (q := 19) dX8_ofTwo_16 (by decide) rfl (by omega) (fun _ => ?_) (fun hn => absurd hn (by omega))
    refine wp_aload_n (q := 28) dX8_ofTwo_27 0 rfl rfl ?_
    refine wp_getR (q := 31) dX8_ofTwo_28 zf_RX8_15 rfl zsh_9 (zr_9_0 _) rfl ?_
    refine wp_cvy (q := 34) (sp_enter (d := 0) h2) zm_X10_enter zl_RX8_56 dX8_ofTwo_31 rfl (by omega) (Nat.le_of_ble_eq_true rfl) zsh_2 rfl rfl ?_
    rintro _ M3 _ _ ⟨rfl, rfl, rfl, h3, hx3⟩
    refine wp_aload_n (q := 35) dX8_ofTwo_34 0 rfl rfl ?_
    refine wp_aload_n (q := 36) dX8_ofTwo_35 1 rfl rfl ?_
    refine wp_cvy (q := 39) (hsu M3 _ F (zSM_t hf h2' h3 hx3) hQ2) zm_X8_sum zl_RX8_59 dX8_ofTwo_36 rfl (by omega) (Nat.le_of_ble_eq_true rfl) zsh_9 rfl rfl ?_
    rintro _ M4 _ _ ⟨rfl, rfl, rfl, h4, hx4⟩
    refine wp_aload_n (q := 40) dX8_ofTwo_39 0 rfl rfl ?_
    refine wp_getR (q := 43) dX8_ofTwo_40 zf_RX8_15 rfl zsh_9 (zr_9_0 _) rfl ?_
    refine wp_bipush (q := 45) dX8_ofTwo_43 zq_bipush_44 rfl ?_
    refine wp_cvy (q := 48) (sp_needSign (d := 0) (s := 44) h4.1 (by decide)) zm_X10_needSign zl_RX8_62 dX8_ofTwo_45 rfl (by omega) (Nat.le_of_ble_eq_true rfl) zsh_2 rfl rfl ?_
    rintro _ M5 _ _ ⟨rfl, rfl, rfl, h5, hx5⟩
    have h5' := zSM_t hf h4 h5 hx5
    refine wp_aload_n (q := 49) dX8_ofTwo_48 0 rfl rfl ?_
    refine wp_aload_n (q := 50) dX8_ofTwo_49 1 rfl rfl ?_
    refine wp_cvy (q := 53) (hsu M5 _ _ h5' (zkp_ok (zkp_tr hk1 (zkp_NS hE hk1.1)) hQ2)) zm_X8_sum zl_RX8_59 dX8_ofTwo_50 rfl (by omega) (Nat.le_of_ble_eq_true rfl) zsh_9 rfl rfl ?_
    rintro _ M6 _ _ ⟨rfl, rfl, rfl, h6, hx6⟩
    refine wp_aload_n (q := 54) dX8_ofTwo_53 0 rfl rfl ?_
    refine wp_getR (q := 57) dX8_ofTwo_54 zf_RX8_15 rfl zsh_9 (zr_9_0 _) rfl ?_
    refine wp_bipush (q := 59) dX8_ofTwo_57 zq_bipush_41 rfl ?_
    refine wp_cvy (q := 62) (sp_needSign (d := 0) (s := 41) h6.1 (by decide)) zm_X10_needSign zl_RX8_62 dX8_ofTwo_59 rfl (by omega) (Nat.le_of_ble_eq_true rfl) zsh_2 rfl rfl ?_
    rintro _ M7 _ _ ⟨rfl, rfl, rfl, h7, hx7⟩
    have h7' := zSM_t hf h6 h7 hx7
    refine wp_aload_n (q := 63) dX8_ofTwo_62 0 rfl rfl ?_
    refine wp_getR (q := 66) dX8_ofTwo_63 zf_RX8_15 rfl zsh_9 (zr_9_0 _) rfl ?_
    refine wp_cvy (q := 69) (sp_leave (d := 0) h7) zm_X10_leave zl_RX8_66 dX8_ofTwo_66 rfl (by omega) (Nat.le_of_ble_eq_true rfl) zsh_2 rfl rfl ?_
    rintro _ M8 _ _ ⟨rfl, rfl, rfl, h8, hx8⟩
    have h8' := zSM_t hf h7' h8 hx8
    refine wp_aload_n (q := 70) dX8_ofTwo_69 1 rfl rfl ?_
    refine wp_iload_n (q := 71) dX8_ofTwo_70 2 rfl rfl ?_
    refine wp_iconst (q := 72) dX8_ofTwo_71 zq_iconst_0 rfl ?_
    refine wp_cvy (q := 75) (sp_fad (d := 0) hf h8'.2.1 hop (by decide : 0 ≤ 9999)) zm_X0_add zl_RX8_32 dX8_ofTwo_72 rfl (by omega) (Nat.le_of_ble_eq_true rfl) (by first | assumption | rfl) rfl rfl ?_
    rintro _ M9 _ _ ⟨rfl, rfl, rfl, h9, hx9⟩
    exact wp_return dX8_ofTwo_75 rfl ⟨rfl, ⟨rfl, rfl, rfl, by rw [e]; exact zSM_f hf h8' h9 hx9, fun x x1 x2 x3 => by rw [hx9 x x2 x3, hx8 x x1, hx7 x x1, hx6 x x1 x2 x3, hx5 x x1, hx4 x x1 x2 x3, hx3 x x1, hx2 x x1]⟩⟩ rfl rfl
  · rw [if_neg hz]
    have e : zo2 T c (zsu T c (zpt T c b k)) op p F = (zpfh T c (zpn c p), F) := if_neg hz
    refine wp_if_neN (tgt := 27) (q := 19) dX8_ofTwo_16 (by decide) rfl (by omega) (fun hn => absurd hn (by omega)) (fun _ => ?_)
    refine wp_aload_n (q := 20) dX8_ofTwo_19 0 rfl rfl ?_
    refine wp_getR (q := 23) dX8_ofTwo_20 zf_RX8_15 rfl zsh_9 (zr_9_0 _) rfl ?_
    refine wp_cvy (q := 26) (sp_failHere (d := 0) h2) zm_X10_failHere zl_RX8_79 dX8_ofTwo_23 rfl (by omega) (Nat.le_of_ble_eq_true rfl) zsh_2 rfl rfl ?_
    rintro _ M3 _ _ ⟨rfl, rfl, rfl, h3, hx3⟩
    exact wp_return dX8_ofTwo_26 rfl ⟨rfl, ⟨rfl, rfl, rfl, by rw [e]; exact zSM_t hf h2' h3 hx3, fun x x1 x2 x3 => by rw [hx3 x x1, hx2 x x1]⟩⟩ rfl rfl

