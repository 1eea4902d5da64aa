theorem Sy_x {y : MethodName} {Y : zY} {d : Nat} {as : List Value} {M M' : zMI} {L L' : zML} {R R' : zMR} {v : Option Value} {P : Option Value → zMI → zML → zMR → Prop} (h : Sx y Y d as M L R v M' L' R') (hp : P v M' L' R') : Sy y Y d as M L R P := by
  intro l w p e h1 h2 h3 s m args below h4 h5 h6 h7
  obtain ⟨n, o, a, b, c, ⟨⟨v, S', M', L', R', e1, ⟨rfl, e2, rfl, rfl, rfl⟩, e4⟩, e5⟩, f⟩ := h l w p e h1 h2 h3 s m args below h4 h5 h6 h7
  exact ⟨n, o, a, b, c, ⟨⟨_, _, _, _, _, e1, ⟨e2, hp⟩, e4⟩, e5⟩, f⟩
-- what telling a table changes of the reference
def zTx (o k : Nat) : Prop := (o = 177 ∧ (k = 2 ∨ k = 4 ∨ k = 5 ∨ k = 6 ∨ k = 34)) ∨ (o = 204 ∧ k < 2) ∨ (o = 206 ∧ k < 56) ∨ (o = 207 ∧ k < 4) ∨ (o = 208 ∧ k < 1)
def zTr (M M' : zMI) (L L' : zML) : Prop := (∀ o k, ¬ zTx o k → M' o k = M o k) ∧ ∀ o k, ¬ (o = 205 ∧ k < 12) → L' o k = L o k
theorem zTr_r {M : zMI} {L : zML} : zTr M M L L := ⟨fun _ _ _ => rfl, fun _ _ _ => rfl⟩
theorem zTr_t {M M' M'' : zMI} {L L' L'' : zML} (h : zTr M M' L L') (h' : zTr M' M'' L' L'') : zTr M M'' L L'' := ⟨fun o k c => by rw [h'.1 o k c, h.1 o k c], fun o k c => by rw [h'.2 o k c, h.2 o k c]⟩
theorem zTr_w {M M' : zMI} {L L' : zML} {o k : Nat} {x : Int32} (h : zTr M M' L L') (hx : zTx o k) : zTr M (zu M' o k x) L L' := ⟨fun o' k' c => by
  rw [zu_at, if_neg (fun e => c (by rw [e.1, e.2]; exact hx))]
  exact h.1 o' k' c, h.2⟩
theorem zTr_p {M M' M'' : zMI} {L L' : zML} (h : zTr M M' L L') (hp : zPf M' M'') : zTr M M'' L L' := ⟨fun o k c => by
  rw [← h.1 o k c]
  by_cases e : o = 177
  · subst e
    unfold zTx at c
    exact hp.2 k (by omega) (by omega) (by omega) (by omega) (by omega)
  · rw [hp.1 o e], h.2⟩
theorem zTr_pf {M M' : zMI} {L : zML} (hp : zPf M M') : zTr M M' L L := zTr_p zTr_r hp
theorem zWds_p {M M' : zMI} (h : zWds M) (hp : zPf M M') : zWds M' := by
  refine ⟨fun w hw => ?_, fun j hj => ?_⟩
  · have := h.1 w hw
    unfold zWd at *
    rw [hp.1 _ (by omega)]
    exact this
  · have := h.2 j hj
    unfold zWd at *
    rw [hp.1 _ (by omega)]
    exact this
theorem zWc_p {M M' : zMI} {wa w : Nat} (h : zWc M wa w) (hp : zPf M M') : zWc M' wa w := by
  obtain ⟨h1, h2, h3, h4⟩ := h
  refine ⟨h1, h2, h3, ?_⟩
  unfold zWd at *
  rw [hp.1 _ (by omega)]
  exact h4
theorem zRp_q {M : zMI} {b : Nat → Nat} {len c : Nat} {T : zDD} {p q : zP} (h : zRp M b len T c p) (k : p.2.2.1 ≠ 0) (hq : q.1 < c) (e : zfq p q) : zRp M b len T c q := by
  have e' := e k
  refine ⟨hq, fun e0 => absurd (by rw [← e']; exact e0) k, fun _ => ?_⟩
  rw [e']
  exact h.2.2 k
-- a word asked for, beside the class
theorem sp_masksR {d t len c wa w0 : Nat} {p : zP} {M : zMI} {L : zML} {b : Nat → Nat} {T : zDD} (h : zRp M b len T c p) (hT : zTok b len T c) (hw : zWc M wa w0) : Sy yX12_asks YX12_asks (d + 3) [.ref 177, .ref wa] M L (zRf t) (fun v0 M' L' R' => v0 = none ∧ L = L' ∧ R' = zRf t ∧ zPf M M' ∧ zRp M' b len T c (zpWo T c p w0 w0).1) := by
  have hE := zTok_TE hT
  have hk : (zpWo T c p w0 w0).1.1 < c := (zkp_Wo (f := w0) (l := w0) hE h.1).1
  by_cases k : p.2.2.1 = 0
  · obtain ⟨h1, h2⟩ := h.2.1 k
    refine Sy_mo (sp_masks (d := d) h1 hT hw) ?_
    rintro v M' L' R' ⟨e1, e2, e3, e4, e5, e6⟩
    refine ⟨e1, e2, e3, e4, ?_⟩
    by_cases ew : T p.1 4 = w0
    · obtain ⟨g1, g2⟩ := e5 ew
      obtain ⟨z1, -⟩ := zTok_4 hT h.1 hw.1 ew
      have e : zpWo T c p w0 w0 = (zpn c p, T p.1 4 - w0) := if_pos ⟨by omega, by omega⟩
      rw [e] at hk ⊢
      refine ⟨hk, fun _ => ⟨?_, by rw [g2]; exact h2⟩, fun e => absurd k e⟩
      show zAt M' b len T c (if p.1 < c - 1 then p.1 + 1 else p.1)
      rw [if_pos (by omega)]
      exact g1
    · have e : zpWo T c p w0 w0 = (zpfh T c p, 0) := if_neg (fun hh => by omega)
      rw [e] at hk ⊢
      have hz : (zpfh T c p).2.2 = (1, nI (T p.1 1)) := by unfold zpfh zpf; rw [if_pos k]
      refine ⟨hk, fun e0 => ?_, fun _ => ?_⟩
      · rw [show (zpfh T c p).2.2.1 = 1 by rw [hz]] at e0; exact absurd e0 (by decide)
      · rw [show ((zpfh T c p, (0 : Nat)).1).2.2 = (1, nI (T p.1 1)) from hz]
        exact ⟨(by decide : (1 : Nat) ≤ 5), (e6 ew).1, (e6 ew).2⟩
  · exact Sy_x (sp_masksB (d := d) (h.2.2 k).2.1 k (by have := (h.2.2 k).1; omega)) ⟨rfl, rfl, rfl, zPf_r, zRp_q h k hk zfq_Wo⟩
theorem sp_mnumberR {d t len c ms : Nat} {p : zP} {M : zMI} {L : zML} {b : Nat → Nat} {T : zDD} (h : zRp M b len T c p) (hT : zTok b len T c) (hms : ms ≤ 9999) : Sy yX12_number YX12_number (d + 1) [.ref 177, .int (nI 0), .int (nI ms)] M L (zRf t) (fun v0 M' L' R' => ∃ k, v0 = some (.int (nI k)) ∧ L = L' ∧ R' = zRf t ∧ zPf M M' ∧ zRp M' b len T c (zpNu T c p ms).1 ∧ ((zpNu T c p ms).1.2.2.1 = 0 → k = (zpNu T c p ms).2)) := by
  have hE := zTok_TE hT
  have hk : (zpNu T c p ms).1.1 < c := (zkp_Nu (m := ms) hE h.1).1
  by_cases k : p.2.2.1 = 0
  · obtain ⟨h1, h2⟩ := h.2.1 k
    refine Sy_mo (sp_mnumber (d := d) h1 hT hms) ?_
    rintro v M' L' R' ⟨e1, e2, e3, e4, g1, g2, g3, g4⟩
    refine ⟨znv T p.1, e1, e2, e3, e4, ?_⟩
    have bad : ∀ kd y, kd ≠ 0 → kd ≤ 5 → (zpNu T c p ms).1.2.2 = (kd, y) → zBd M' kd y → zRp M' b len T c (zpNu T c p ms).1 ∧ ((zpNu T c p ms).1.2.2.1 = 0 → znv T p.1 = (zpNu T c p ms).2) := by
      intro kd y k0 k5 e hb
      refine ⟨⟨hk, fun e0 => ?_, fun _ => ?_⟩, fun e0 => ?_⟩
      · rw [e] at e0; exact absurd e0 k0
      · rw [e]; exact ⟨k5, hb⟩
      · rw [e] at e0; exact absurd e0 k0
    by_cases c1 : T p.1 0 = 2
    · by_cases c2 : T p.1 3 ≤ 4
      · by_cases c3 : T p.1 2 ≤ ms
        · obtain ⟨f1, f2⟩ := g1 c1 c2 c3
          have e : zpNu T c p ms = (zpn c p, T p.1 2) := by unfold zpNu; rw [if_pos c1, if_pos c2, if_pos c3]
          rw [e] at hk ⊢
          refine ⟨⟨hk, fun _ => ⟨?_, by rw [f2]; exact h2⟩, fun e => absurd k e⟩, fun _ => by unfold znv; rw [if_pos ⟨c1, c2⟩]⟩
          show zAt M' b len T c (if p.1 < c - 1 then p.1 + 1 else p.1)
          rw [if_pos (by have := f1.2.2.1; omega)]
          exact f1
        · exact bad 2 _ (by decide) (by decide) (by unfold zpNu zpf; rw [if_pos c1, if_pos c2, if_neg c3, if_pos k]) (g2 c1 c2 c3)
      · exact bad 1 _ (by decide) (by decide) (by unfold zpNu zpf; rw [if_pos c1, if_neg c2, if_pos k]) (g3 c1 c2)
    · exact bad 1 _ (by decide) (by decide) (by unfold zpNu zpfh zpf; rw [if_neg c1, if_pos k]) (g4 c1)
  · exact Sy_x (sp_mnumberB (d := d) (h.2.2 k).2.1 k (by have := (h.2.2 k).1; omega)) ⟨0, rfl, rfl, rfl, zPf_r, zRp_q h k hk zfq_Nu, fun e => absurd (zfq_0 zfq_Nu e) k⟩
theorem sp_masksSignR {d t len c s : Nat} {p : zP} {M : zMI} {L : zML} {b : Nat → Nat} {T : zDD} (h : zRp M b len T c p) (hT : zTok b len T c) (hs : zcl s = 3) (hs9 : s < 256) : Sy yX12_asksSign YX12_asksSign (d + 2) [.ref 177, .int (nI s)] M L (zRf t) (fun v0 M' L' R' => v0 = none ∧ L = L' ∧ R' = zRf t ∧ zPf M M' ∧ zRp M' b len T c (zpNS T c p s)) := by
  have hE := zTok_TE hT
  have hk : (zpNS T c p s).1 < c := (zkp_NS (s := s) hE h.1).1
  by_cases k : p.2.2.1 = 0
  · obtain ⟨h1, h2⟩ := h.2.1 k
    refine Sy_mo (sp_masksSign (d := d) h1 hT hs hs9) ?_
    rintro v M' L' R' ⟨e1, e2, e3, e4, e5, e6⟩
    refine ⟨e1, e2, e3, e4, ?_⟩
    by_cases ew : T p.1 0 = 3 ∧ T p.1 2 = s
    · obtain ⟨g1, g2⟩ := e5 ew
      have e : zpNS T c p s = zpn c p := if_pos (decide_eq_true ew)
      rw [e] at hk ⊢
      refine ⟨hk, fun _ => ⟨?_, by rw [g2]; exact h2⟩, fun e => absurd k e⟩
      show zAt M' b len T c (if p.1 < c - 1 then p.1 + 1 else p.1)
      rw [if_pos (by have := g1.2.2.1; omega)]
      exact g1
    · have e : zpNS T c p s = zpfh T c p := if_neg (fun e => ew (of_decide_eq_true e))
      rw [e] at hk ⊢
      have hz : (zpfh T c p).2.2 = (1, nI (T p.1 1)) := by unfold zpfh zpf; rw [if_pos k]
      refine ⟨hk, fun e0 => ?_, fun _ => ?_⟩
      · rw [hz] at e0; exact absurd e0 (show ¬ (1 : Nat) = 0 by decide)
      · rw [hz]
        exact ⟨(by decide : (1 : Nat) ≤ 5), (e6 ew).1, (e6 ew).2⟩
  · exact Sy_x (sp_masksSignB (d := d) (h.2.2 k).2.1 k (by have := (h.2.2 k).1; omega)) ⟨rfl, rfl, rfl, zPf_r, zRp_q h k hk zfq_NS⟩
set_option maxHeartbeats 4000000 in
set_option maxRecDepth 100000 in
theorem sp_misHereB {d t bd wa : Nat} {M : zMI} {L : zML} (h : M 177 5 = nI bd) (h0 : bd ≠ 0) (h9 : bd < 10) : Sx yX12_isHere YX12_isHere (d + 1) [.ref 177, .ref wa] M L (zRf t) (some (.int (nI 0))) M L (zRf t) := by
  refine Sp.of (by decide +kernel) rfl (fun h => by first | exact h | cases h) (Nat.le_of_ble_eq_true rfl) ?_
  intro w G
  refine wp_aload_n (q := 1) dX12_isHere_0 0 rfl rfl ?_
  refine wp_getI (q := 4) dX12_isHere_1 zf_RX12_236 rfl zsh_177 rfl ?_
  rw [h]
  refine wp_if_neN (tgt := 28) (q := 7) dX12_isHere_4 (by decide) rfl (by omega) (fun _ => ?_) (fun hn => absurd hn (by first | omega | exact fun h => h | exact fun h => h trivial))
  refine wp_iconst (q := 29) dX12_isHere_28 zq_iconst_0 rfl ?_
  exact wp_zreturn dX12_isHere_29 rfl (by first | with_reducible exact znar_0 | with_reducible exact znar_1 | assumption) ⟨rfl, rfl, rfl, rfl, rfl⟩ rfl rfl
set_option maxHeartbeats 4000000 in
set_option maxRecDepth 100000 in
theorem sp_mtakesB {d t bd wa : Nat} {M : zMI} {L : zML} (h : M 177 5 = nI bd) (h0 : bd ≠ 0) (h9 : bd < 10) : Sx yX12_takes YX12_takes (d + 2) [.ref 177, .ref wa] M L (zRf t) (some (.int (nI 0))) M L (zRf t) := by
  refine Sp.of (by decide +kernel) rfl (fun h => by first | exact h | cases h) (Nat.le_of_ble_eq_true rfl) ?_
  intro w G
  refine wp_aload_n (q := 1) dX12_takes_0 0 rfl rfl ?_
  refine wp_aload_n (q := 2) dX12_takes_1 1 rfl rfl ?_
  refine wp_cvx (q := 5) (sp_misHereB (d := 0) h h0 h9) zm_X12_isHere zl_RX12_259 dX12_takes_2 rfl (by omega) (Nat.le_of_ble_eq_true rfl) zsh_177 rfl rfl ?_
  refine wp_if_neN (tgt := 10) (q := 8) dX12_takes_5 (by decide) rfl (by omega) (fun hn => absurd hn (by first | omega | exact fun h => h | exact fun h => h trivial)) (fun _ => ?_)
  refine wp_iconst (q := 9) dX12_takes_8 zq_iconst_0 rfl ?_
  exact wp_zreturn dX12_takes_9 rfl (by first | with_reducible exact znar_0 | with_reducible exact znar_1 | assumption) ⟨rfl, rfl, rfl, rfl, rfl⟩ rfl rfl
theorem sp_mtakesR {d t len c wa w0 : Nat} {p : zP} {M : zMI} {L : zML} {b : Nat → Nat} {T : zDD} (h : zRp M b len T c p) (hT : zTok b len T c) (hw : zWc M wa w0) : Sy yX12_takes YX12_takes (d + 2) [.ref 177, .ref wa] M L (zRf t) (fun v0 M' L' R' => ∃ o, v0 = some (.int (nI (zb01 o))) ∧ L = L' ∧ R' = zRf t ∧ zPf M M' ∧ (o = true → p.2.2.1 = 0 ∧ T p.1 4 = w0 ∧ zRp M' b len T c (zpn c p)) ∧ (o = false → (p.2.2.1 = 0 → T p.1 4 ≠ w0) ∧ zRp M' b len T c p)) := by
  have hE := zTok_TE hT
  by_cases k : p.2.2.1 = 0
  · obtain ⟨h1, h2⟩ := h.2.1 k
    refine Sy_mo (sp_mtakes (d := d) h1 hT hw rfl) ?_
    rintro v M' L' R' ⟨e1, e2, e3, e4, e5, e6, e7⟩
    refine ⟨_, e1, e2, e3, e4, fun o => ⟨k, of_decide_eq_true o, (zkp_n hE h.1).1, fun _ => ⟨?_, by rw [e5]; exact h2⟩, fun e => absurd k e⟩, fun o => ⟨fun _ => of_decide_eq_false o, h.1, fun _ => ⟨(e7 o).1, by rw [e5]; exact h2⟩, fun e => absurd k e⟩⟩
    show zAt M' b len T c (if p.1 < c - 1 then p.1 + 1 else p.1)
    have g := e6 o
    rw [if_pos (by have := g.2.2.1; omega)]
    exact g
  · exact Sy_x (sp_mtakesB (d := d) (h.2.2 k).2.1 k (by have := (h.2.2 k).1; omega)) ⟨false, rfl, rfl, rfl, zPf_r, fun e => (by cases e), fun _ => ⟨fun e => absurd e k, h⟩⟩
theorem zRp_up {M M' : zMI} {b : Nat → Nat} {len c : Nat} {T : zDD} {p : zP} (h : zRp M b len T c p) (e7 : M' 177 = M 177) (e8 : M' 178 = M 178) : zRp M' b len T c p := by
  unfold zRp zAt zTa at *
  rw [e7, e8]
  exact h

