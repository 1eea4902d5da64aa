def zsx (T : Nat → Nat → Nat) (c : Nat) (pr : zP → zFl → zPF) (p : zP) (F : zFl) : zPF := zlp T c 43 45 4 5 pr 1600 (pr p F).1 (pr p F).2
set_option maxHeartbeats 4000000 in
set_option maxRecDepth 100000 in
theorem sp_sumx {d dd t c f : Nat} {b : Bool} {M : zMI} {L : zML} {T : Nat → Nat → Nat} {p : zP} {F : zFl} {pt : zP → zFl → zPF} {Q : zP → Prop} (hdd : dd + 1 ≤ d) (hd1 : 3 ≤ d) (hf : zFo f) (hpt : ∀ (M : zMI) (p : zP) (F : zFl), zSM M T c b f (p, F) → Q p → Sy yX8_product YX8_product dd [.ref 9, .ref f] M L (zRf t) (zSP M L T c b f t (pt p F))) (hQn : ∀ p, Q p → Q (zpn c p)) (hQp : ∀ p F, Q p → Q (pt p F).1) (h : zSM M T c b f (p, F)) (hQ : Q p) : Sy yX8_sum YX8_sum (d) [.ref 9, .ref f] M L (zRf t) (fun v0 M' L' R' => zSP M L T c b f t (zsx T c pt p F) v0 M' L' R') := by
  refine Sp.of (by decide +kernel) rfl (fun h => by first | exact h | cases h) (Nat.le_of_ble_eq_true rfl) ?_
  intro w G
  obtain ⟨sf1, -, -⟩ := zFo_s hf
  have loop : ∀ k n (M2 : zMI) (p2 : zP) (F2 : zFl), n + k = 1600 → zSM M2 T c b f (p2, F2) → Q p2 → zlp T c 43 45 4 5 pt k p2 F2 = zsx T c pt p F → (∀ x, x ≠ 2 → x ≠ f → x ≠ f + 1 → M2 x = M x) → WP w YX8_sum (d, SS, 0, 0) G (some (zXp (fun v0 M' L' R' => zSP M L T c b f t (zsx T c pt p F) v0 M' L' R'))) 7 [(2, .int (nI n)), (0, .ref 9), (1, .ref f)] [] SS M2 L (zRf t) := by
    intro k
    induction k with
    | zero =>
      intro n M2 p2 F2 hn h2 hQ2 hr hx
      rw [show zlp T c 43 45 4 5 pt 0 p2 F2 = (p2, F2) from rfl] at hr
      refine wp_iload_n (q := 8) dX8_sum_7 0 rfl rfl ?_
      refine wp_sipush (q := 11) dX8_sum_8 zq_sipush_1600 rfl ?_
      refine wp_icmp_geN (tgt := 80) (q := 14) dX8_sum_11 (by decide) rfl (by omega) (by omega) (fun _ => ?_) (fun hn => absurd hn (by omega))
      exact wp_return dX8_sum_80 rfl ⟨rfl, ⟨rfl, rfl, rfl, by rw [← hr]; exact h2, hx⟩⟩ rfl rfl
    | succ k ih =>
      intro n M2 p2 F2 hn h2 hQ2 hr hx
      have hend : zpS T p2 43 = false → zpS T p2 45 = false → WP w YX8_sum (d, SS, 0, 0) G (some (zXp (fun v0 M' L' R' => zSP M L T c b f t (zsx T c pt p F) v0 M' L' R'))) 80 [(2, .int (nI n)), (0, .ref 9), (1, .ref f)] [] SS M2 L (zRf t) := by
        intro c1 c2
        rw [zlp, c1, c2] at hr
        have hr' : (p2, F2) = zsx T c pt p F := hr
        exact wp_return dX8_sum_80 rfl ⟨rfl, ⟨rfl, rfl, rfl, by rw [← hr']; exact h2, hx⟩⟩ rfl rfl
      have hmid : ∀ op, op ≤ 14 → (zpS T p2 43 || zpS T p2 45) = true → op = (if zpS T p2 43 then 4 else 5) → WP w YX8_sum (d, SS, 0, 0) G (some (zXp (fun v0 M' L' R' => zSP M L T c b f t (zsx T c pt p F) v0 M' L' R'))) 55 [(2, .int (nI n)), (0, .ref 9), (1, .ref f)] [.int (nI op)] SS M2 L (zRf t) := by
        intro op hop c1 c2
        rw [zlp, if_pos c1, ← c2] at hr
        refine wp_istore_n (q := 56) (loc' := [(3, _), (2, _), (0, _), (1, _)]) dX8_sum_55 rfl (by decide) rfl rfl ?_
        refine wp_aload_n (q := 57) dX8_sum_56 2 rfl rfl ?_
        refine wp_getR (q := 60) dX8_sum_57 zf_RX8_15 rfl zsh_9 (zr_9_0 _) rfl ?_
        refine wp_cvy (q := 63) (sp_next (d := 0) h2.1) zm_X10_next zl_RX8_29 dX8_sum_60 rfl (by omega) (Nat.le_of_ble_eq_true rfl) zsh_2 rfl rfl ?_
        rintro _ M3 _ _ ⟨rfl, rfl, rfl, h3, hx3⟩
        refine wp_aload_n (q := 64) dX8_sum_63 2 rfl rfl ?_
        refine wp_aload_n (q := 65) dX8_sum_64 3 rfl rfl ?_
        refine wp_cvy (q := 68) (hpt M3 _ F2 (zSM_t hf h2 h3 hx3) (hQn _ hQ2)) zm_X8_product zl_RX8_19 dX8_sum_65 rfl (by omega) (Nat.le_of_ble_eq_true rfl) zsh_9 rfl rfl ?_
        rintro _ M4 _ _ ⟨rfl, rfl, rfl, h4, hx4⟩
        refine wp_aload_n (q := 69) dX8_sum_68 3 rfl rfl ?_
        refine wp_iload_n (q := 70) dX8_sum_69 0 rfl rfl ?_
        refine wp_iconst (q := 71) dX8_sum_70 zq_iconst_0 rfl ?_
        refine wp_cvy (q := 74) (sp_fad (d := 0) hf h4.2.1 hop (by decide : 0 ≤ 9999)) zm_X0_add zl_RX8_32 dX8_sum_71 rfl (by omega) (Nat.le_of_ble_eq_true rfl) (by first | assumption | rfl) rfl rfl ?_
        rintro _ M5 _ _ ⟨rfl, rfl, rfl, h5, hx5⟩
        refine wp_iincN (q := 77) (loc' := [(2, _), (3, _), (0, _), (1, _)]) (n := 1) dX8_sum_74 rfl 1 rfl (by decide) rfl rfl ?_
        refine wp_goto (tgt := 7) dX8_sum_77 (by decide) ?_
        refine WP.sub (loc' := [(2, _), (0, _), (1, _)]) [0, 2, 3] rfl ?_
        exact ih (n + 1) M5 _ _ (by omega) (zSM_f hf h4 h5 hx5) (hQp _ _ (hQn _ hQ2)) hr (fun x x1 x2 x3 => by rw [hx5 x x2 x3, hx4 x x1 x2 x3, hx3 x x1]; exact hx x x1 x2 x3)
      refine wp_iload_n (q := 8) dX8_sum_7 0 rfl rfl ?_
      refine wp_sipush (q := 11) dX8_sum_8 zq_sipush_1600 rfl ?_
      refine wp_icmp_geN (tgt := 80) (q := 14) dX8_sum_11 (by decide) rfl (by omega) (by omega) (fun hn => absurd hn (by omega)) (fun _ => ?_)
      refine wp_aload_n (q := 15) dX8_sum_14 1 rfl rfl ?_
      refine wp_getR (q := 18) dX8_sum_15 zf_RX8_15 rfl zsh_9 (zr_9_0 _) rfl ?_
      refine wp_bipush (q := 20) dX8_sum_18 zq_bipush_43 rfl ?_
      refine wp_cvx (q := 23) (sp_atSign (d := 0) (s := 43) h2.1 (by decide)) zm_X10_atSign zl_RX8_23 dX8_sum_20 rfl (by omega) (Nat.le_of_ble_eq_true rfl) zsh_2 rfl rfl ?_
      have hboth : (zpS T p2 43 || zpS T p2 45) = true → WP w YX8_sum (d, SS, 0, 0) G (some (zXp (fun v0 M' L' R' => zSP M L T c b f t (zsx T c pt p F) v0 M' L' R'))) 38 [(2, .int (nI n)), (0, .ref 9), (1, .ref f)] [] SS M2 L (zRf t) := by
        intro c1
        refine wp_aload_n (q := 39) dX8_sum_38 1 rfl rfl ?_
        refine wp_getR (q := 42) dX8_sum_39 zf_RX8_15 rfl zsh_9 (zr_9_0 _) rfl ?_
        refine wp_bipush (q := 44) dX8_sum_42 zq_bipush_43 rfl ?_
        refine wp_cvx (q := 47) (sp_atSign (d := 0) (s := 43) h2.1 (by decide)) zm_X10_atSign zl_RX8_23 dX8_sum_44 rfl (by omega) (Nat.le_of_ble_eq_true rfl) zsh_2 rfl rfl ?_
        cases c2 : zpS T p2 43 with
        | true =>
          rw [if_pos rfl]
          refine wp_if_eqN (tgt := 54) (q := 50) dX8_sum_47 (by decide) rfl (by omega) (fun hn => absurd hn (by omega)) (fun _ => ?_)
          refine wp_iconst (q := 51) dX8_sum_50 zq_iconst_4 rfl ?_
          refine wp_goto (tgt := 55) dX8_sum_51 (by decide) ?_
          refine WP.sub (loc' := [(2, _), (0, _), (1, _)]) [0, 1, 2] rfl ?_
          exact hmid 4 (by decide) c1 (by rw [c2]; rfl)
        | false =>
          rw [if_neg (by decide : ¬ false = true)]
          refine wp_if_eqN (tgt := 54) (q := 50) dX8_sum_47 (by decide) rfl (by omega) (fun _ => ?_) (fun hn => absurd hn (by omega))
          refine wp_iconst (q := 55) dX8_sum_54 zq_iconst_5 rfl ?_
          refine WP.sub (loc' := [(2, _), (0, _), (1, _)]) [0, 1, 2] rfl ?_
          exact hmid 5 (by decide) c1 (by rw [c2]; rfl)
      cases c2 : zpS T p2 43 with
      | true =>
        rw [if_pos rfl]
        refine wp_if_neN (tgt := 38) (q := 26) dX8_sum_23 (by decide) rfl (by omega) (fun _ => ?_) (fun hn => absurd hn (by omega))
        refine WP.sub (loc' := [(2, _), (0, _), (1, _)]) [0, 1, 2] rfl ?_
        exact hboth (by rw [c2]; rfl)
      | false =>
        rw [if_neg (by decide : ¬ false = true)]
        refine wp_if_neN (tgt := 38) (q := 26) dX8_sum_23 (by decide) rfl (by omega) (fun hn => absurd hn (by omega)) (fun _ => ?_)
        refine wp_aload_n (q := 27) dX8_sum_26 1 rfl rfl ?_
        refine wp_getR (q := 30) dX8_sum_27 zf_RX8_15 rfl zsh_9 (zr_9_0 _) rfl ?_
        refine wp_bipush (q := 32) dX8_sum_30 zq_bipush_45 rfl ?_
        refine wp_cvx (q := 35) (sp_atSign (d := 0) (s := 45) h2.1 (by decide)) zm_X10_atSign zl_RX8_23 dX8_sum_32 rfl (by omega) (Nat.le_of_ble_eq_true rfl) zsh_2 rfl rfl ?_
        cases c3 : zpS T p2 45 with
        | true =>
          rw [if_pos rfl]
          refine wp_if_eqN (tgt := 80) (q := 38) dX8_sum_35 (by decide) rfl (by omega) (fun hn => absurd hn (by omega)) (fun _ => ?_)
          refine WP.sub (loc' := [(2, _), (0, _), (1, _)]) [0, 1, 2] rfl ?_
          exact hboth (by rw [c2, c3]; rfl)
        | false =>
          rw [if_neg (by decide : ¬ false = true)]
          refine wp_if_eqN (tgt := 80) (q := 38) dX8_sum_35 (by decide) rfl (by omega) (fun _ => ?_) (fun hn => absurd hn (by omega))
          refine WP.sub (loc' := [(2, _), (0, _), (1, _)]) [0, 1, 2] rfl ?_
          exact hend c2 c3
  refine wp_aload_n (q := 1) dX8_sum_0 0 rfl rfl ?_
  refine wp_aload_n (q := 2) dX8_sum_1 1 rfl rfl ?_
  refine wp_cvy (q := 5) (hpt M p F h hQ) zm_X8_product zl_RX8_19 dX8_sum_2 rfl (by omega) (Nat.le_of_ble_eq_true rfl) zsh_9 rfl rfl ?_
  rintro _ M4 _ _ ⟨rfl, rfl, rfl, h4, hx4⟩
  refine wp_iconst (q := 6) dX8_sum_5 zq_iconst_0 rfl ?_
  refine wp_istore_n (q := 7) (loc' := [(2, _), (0, _), (1, _)]) dX8_sum_6 rfl (by decide) rfl rfl ?_
  refine WP.sub (loc' := [(2, _), (0, _), (1, _)]) [0, 1, 2] rfl ?_
  exact loop 1600 0 M4 _ _ (Nat.zero_add _) h4 (hQp _ _ hQ) rfl hx4
-- what stays: at the end of the text it stays there; else so many are open as before
def zTE (T : Nat → Nat → Nat) (c : Nat) : Prop := 1 ≤ c ∧ T (c - 1) 0 = 0 ∧ 30 ≤ T (c - 1) 4 ∧ ∀ i, i < c → T i 0 = 0 → i = c - 1
def zkp (T : Nat → Nat → Nat) (c : Nat) (p p' : zP) : Prop := p'.1 < c ∧ (T p'.1 0 = 0 ∨ (T p.1 0 ≠ 0 ∧ p'.2.1 = p.2.1))
def zok (T : Nat → Nat → Nat) (c k : Nat) (p : zP) : Prop := 1 ≤ k ∧ p.1 < c ∧ (T p.1 0 = 0 ∨ ∃ m, p.2.1 = nI m ∧ m ≤ 6 ∧ 8 ≤ k + m)
theorem zkp_ok {T : Nat → Nat → Nat} {c k : Nat} {p p' : zP} (h : zkp T c p p') (hk : zok T c k p) : zok T c k p' := by
  obtain ⟨a, b⟩ := h
  obtain ⟨d, -, f⟩ := hk
  refine ⟨d, a, ?_⟩
  rcases b with b | ⟨b1, b2⟩
  · exact Or.inl b
  · rcases f with f | f
    · exact absurd f b1
    · rw [b2]; exact Or.inr f
theorem zkp_tr {T : Nat → Nat → Nat} {c : Nat} {p p' p'' : zP} (h : zkp T c p p') (h' : zkp T c p' p'') : zkp T c p p'' := by
  obtain ⟨a, b⟩ := h'
  refine ⟨a, ?_⟩
  rcases b with b | ⟨b1, b2⟩
  · exact Or.inl b
  · rcases h.2 with e | ⟨e1, e2⟩
    · exact absurd e b1
    · exact Or.inr ⟨e1, b2.trans e2⟩
theorem zkp_f {T : Nat → Nat → Nat} {c : Nat} (hE : zTE T c) {p p' : zP} (h : p'.1 = c - 1) : zkp T c p p' := by
  obtain ⟨a, b, -⟩ := hE
  exact ⟨by omega, Or.inl (by rw [h]; exact b)⟩
theorem zpf_1 {c k : Nat} {p : zP} {y : Int32} : (zpf c p k y).1 = c - 1 := by unfold zpf; split <;> rfl
theorem zkp_n {T : Nat → Nat → Nat} {c : Nat} (hE : zTE T c) {p : zP} (hp : p.1 < c) : zkp T c p (zpn c p) := by
  obtain ⟨a, b, -, e⟩ := hE
  by_cases h0 : T p.1 0 = 0
  · have := e _ hp h0
    have e1 : (zpn c p).1 = p.1 := if_neg (by omega)
    exact ⟨by rw [e1]; exact hp, Or.inl (by rw [e1]; exact h0)⟩
  · refine ⟨?_, Or.inr ⟨h0, rfl⟩⟩
    show (if p.1 < c - 1 then p.1 + 1 else p.1) < c
    split <;> omega
theorem zkp_r {T : Nat → Nat → Nat} {c : Nat} {p : zP} (hp : p.1 < c) : zkp T c p p := by
  by_cases h0 : T p.1 0 = 0
  · exact ⟨hp, Or.inl h0⟩
  · exact ⟨hp, Or.inr ⟨h0, rfl⟩⟩
theorem zkp_lp {T : Nat → Nat → Nat} {c s1 s2 o1 o2 : Nat} (hE : zTE T c) {pt : zP → zFl → zPF} (hpt : ∀ p F, p.1 < c → zkp T c p (pt p F).1) : ∀ n p F, p.1 < c → zkp T c p (zlp T c s1 s2 o1 o2 pt n p F).1 := by
  intro n
  induction n with
  | zero => intro p F hp; exact zkp_r hp
  | succ n ih =>
    intro p F hp
    rw [zlp]
    split
    · have h1 := zkp_n hE hp
      have h2 := hpt (zpn c p) F h1.1
      exact zkp_tr h1 (zkp_tr h2 (ih _ _ h2.1))
    · exact zkp_r hp
theorem zkp_pd {T : Nat → Nat → Nat} {c : Nat} (hE : zTE T c) {pt : zP → zFl → zPF} (hpt : ∀ p F, p.1 < c → zkp T c p (pt p F).1) : ∀ p F, p.1 < c → zkp T c p (zpd T c pt p F).1 := fun p F hp => zkp_tr (hpt p F hp) (zkp_lp hE hpt 1600 _ _ (hpt p F hp).1)
theorem zkp_su {T : Nat → Nat → Nat} {c : Nat} (hE : zTE T c) {pt : zP → zFl → zPF} (hpt : ∀ p F, p.1 < c → zkp T c p (pt p F).1) : ∀ p F, p.1 < c → zkp T c p (zsu T c pt p F).1 := fun p F hp => zkp_tr (zkp_pd hE hpt p F hp) (zkp_lp hE (zkp_pd hE hpt) 1600 _ _ (zkp_pd hE hpt p F hp).1)
-- a part of a sum, so many levels deep at most
def zo2 (T : Nat → Nat → Nat) (c : Nat) (su : zP → zFl → zPF) (op : Nat) (p : zP) (F : zFl) : zPF := if zpS T (zpn c p) 40 then (zpl (zpNS T c (su (zpNS T c (su (zpe T c (zpn c p)) F).1 44) (su (zpe T c (zpn c p)) F).2).1 41), (su (zpNS T c (su (zpe T c (zpn c p)) F).1 44) (su (zpe T c (zpn c p)) F).2).2 ++ [(op, 0)]) else (zpfh T c (zpn c p), F)
def zpt (T : Nat → Nat → Nat) (c : Nat) (b : Bool) : Nat → zP → zFl → zPF
  | 0, p, F => (p, F)
  | k + 1, p, F => if T p.1 0 = 2 then ((zpNu T c p 9999).1, F ++ [(0, (zpNu T c p 9999).2)]) else if (if b then zfP (T p.1 4) else zfH (T p.1 4)) < 30 then (zpn c p, F ++ [(1, if b then zfP (T p.1 4) else zfH (T p.1 4))]) else if zpS T p 40 then (zpl (zpNS T c (zsu T c (zpt T c b k) (zpe T c p) F).1 41), (zsu T c (zpt T c b k) (zpe T c p) F).2) else if T p.1 4 = 22 ∨ T p.1 4 = 23 then zo2 T c (zsu T c (zpt T c b k)) (if T p.1 4 = 22 then 8 else 9) p F else if b = true ∧ T p.1 4 = 17 then (zpl (zpt T c b k (zpe T c p) F).1, (zpt T c b k (zpe T c p) F).2 ++ [(3, 0)]) else (zpfh T c p, F)

