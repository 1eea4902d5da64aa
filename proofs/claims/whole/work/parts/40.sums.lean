abbrev zFl := List (Nat × Nat)
def zFT (M : zMI) (f : Nat) (F : zFl) : Prop := zFR M f (F.take 1600)
theorem zFT_fr {M M' : zMI} {f : Nat} {F : zFl} (h : zFT M f F) (h0 : M' f = M f) (h1 : M' (f + 1) = M (f + 1)) : zFT M' f F := by
  unfold zFT zFR at *
  rw [h0, h1]
  exact h
set_option maxHeartbeats 4000000 in
set_option maxRecDepth 100000 in
theorem sp_fad {d f t op arg : Nat} {M : zMI} {L : zML} {F : zFl} (hf : zFo f) (hr : zFT M f F) (hop : op ≤ 14) (harg : arg ≤ 9999) : Sy yX0_add YX0_add (d) [.ref f, .int (nI op), .int (nI arg)] M L (zRf t) (fun v0 M' L' R' => v0 = none ∧ L = L' ∧ R' = zRf t ∧ zFT M' f (F ++ [(op, arg)]) ∧ ∀ x, x ≠ f → x ≠ f + 1 → M' x = M x) := by
  refine Sp.of (by decide +kernel) rfl (fun h => by first | exact h | cases h) (Nat.le_of_ble_eq_true rfl) ?_
  intro w G
  obtain ⟨s1, s2, s3⟩ := zFo_s hf
  obtain ⟨r1, r2⟩ := zFo_r (t := t) hf
  obtain ⟨h1, h2, h3⟩ := id hr
  have hlen : (F.take 1600).length = min 1600 F.length := List.length_take
  refine wp_aload_n (q := 1) dX0_add_0 0 rfl rfl ?_
  refine wp_getI (q := 4) dX0_add_1 zf_RX0_18 rfl (by first | assumption | rfl) rfl ?_
  rw [h1]
  refine wp_aload_n (q := 5) dX0_add_4 0 rfl rfl ?_
  refine wp_getR (q := 8) dX0_add_5 zf_RX0_9 rfl (by first | assumption | rfl) (by first | assumption | rfl) rfl ?_
  refine wp_alen (q := 9) dX0_add_8 (by first | assumption | rfl) (by simp [zTys]) rfl ?_
  refine wp_icmp_geN (tgt := 37) (q := 12) dX0_add_9 (by decide) rfl (by omega) (by omega) (fun hfull => ?_) (fun hfull => ?_)
  · skip
    refine wp_return dX0_add_37 rfl ⟨rfl, ⟨rfl, rfl, rfl, ?_, fun x x1 x2 => rfl⟩⟩ rfl rfl
    unfold zFT
    rw [List.take_append_of_le_length (by omega)]
    exact hr
  · skip
    have e0 : F.take 1600 = F := List.take_of_length_le (by omega)
    have e1 : (F ++ [(op, arg)]).take 1600 = F ++ [(op, arg)] := List.take_of_length_le (by rw [List.length_append]; show F.length + 1 ≤ 1600; omega)
    unfold zFT
    rw [e1]
    rw [e0] at h1 h2 h3 hfull
    refine wp_aload_n (q := 13) dX0_add_12 0 rfl rfl ?_
    refine wp_getR (q := 16) dX0_add_13 zf_RX0_9 rfl (by first | assumption | rfl) (by first | assumption | rfl) rfl ?_
    refine wp_aload_n (q := 17) dX0_add_16 0 rfl rfl ?_
    refine wp_getI (q := 20) dX0_add_17 zf_RX0_18 rfl (by first | assumption | rfl) rfl ?_
    rw [h1]
    refine wp_iload_n (q := 21) dX0_add_20 1 rfl rfl ?_
    refine wp_bipush (q := 23) dX0_add_21 zq_bipush_14 rfl ?_
    have hor : op * 2 ^ 14 ||| arg = op * 16384 + arg := by
      have := (Nat.two_pow_add_eq_or_of_lt (i := 14) (b := arg) (by omega) op).symm
      rw [Nat.mul_comm op, this]
    refine wp_ishlN (q := 24) dX0_add_23 (by omega) (by omega) rfl ?_
    refine wp_iload_n (q := 25) dX0_add_24 2 rfl rfl ?_
    refine wp_iorN (q := 26) dX0_add_25 rfl ?_
    rw [hor]
    refine wp_iast (q := 27) _ dX0_add_26 (by first | assumption | rfl) rfl (by omega) (by decide) rfl ?_
    refine wp_aload_n (q := 28) dX0_add_27 0 rfl rfl ?_
    refine wp_dup (q := 29) dX0_add_28 rfl rfl ?_
    refine wp_getI (q := 32) dX0_add_29 zf_RX0_18 rfl (by first | assumption | rfl) rfl ?_
    rw [zu_ne (by omega), h1]
    refine wp_iconst (q := 33) dX0_add_32 zq_iconst_1 rfl ?_
    refine wp_iaddN (q := 34) dX0_add_33 rfl ?_
    refine wp_putI (q := 37) dX0_add_34 zf_RX0_18 rfl (by first | assumption | rfl) rfl ?_
    refine wp_return dX0_add_37 rfl ⟨rfl, ⟨rfl, rfl, rfl, ⟨?_, ?_, fun i o a hi => ?_⟩, fun x x1 x2 => by rw [zu_ne x1, zu_ne x2]⟩⟩ rfl rfl
    · rw [zu_s, List.length_append]; rfl
    · rw [List.length_append]; exact hfull
    · rw [zu_ne (by omega)]
      by_cases hl : i < F.length
      · rw [List.getElem?_append_left hl] at hi
        rw [zu_k (by omega)]
        exact h3 i o a hi
      · rw [List.getElem?_append_right (by omega)] at hi
        have hz : i - F.length < 1 := (List.getElem?_eq_some_iff.mp hi).1
        rw [show i - F.length = 0 by omega] at hi
        cases hi
        rw [show i = F.length by omega, zu_s]
        refine ⟨congrArg nI ?_, by omega, harg⟩
        unfold zenc
        rw [if_neg (by omega)]
set_option maxHeartbeats 4000000 in
set_option maxRecDepth 100000 in
theorem sp_factOf {d t y : Nat} {b : Bool} {M : zMI} {L : zML} (hb : M 9 1 = if b then nI 1 else nI 0) : Sx yX8_factOf YX8_factOf (d + 1) [.ref 9, .int (zwd y)] M L (zRf t) (some (.int (zwd (if b then zfP y else zfH y)))) M L (zRf t) := by
  refine Sp.of (by decide +kernel) rfl (fun h => by first | exact h | cases h) (Nat.le_of_ble_eq_true rfl) ?_
  intro w G
  refine wp_aload_n (q := 1) dX8_factOf_0 0 rfl rfl ?_
  refine wp_getI (q := 4) dX8_factOf_1 zf_RX8_9 rfl zsh_9 rfl ?_
  rw [hb]
  cases b with
  | true =>
    rw [if_pos rfl, if_pos rfl]
    refine wp_if_eqN (tgt := 14) (q := 7) dX8_factOf_4 (by decide) rfl (by omega) (fun hn => absurd hn (by omega)) (fun _ => ?_)
    refine wp_iload_n (q := 8) dX8_factOf_7 1 rfl rfl ?_
    refine wp_csx (q := 11) (sp_factOfPerson (d := d)) zm_X8_factOfPerson zl_RX8_82 dX8_factOf_8 rfl (by omega) (Nat.le_of_ble_eq_true rfl) rfl ?_
    refine wp_goto (tgt := 18) dX8_factOf_11 (by decide) ?_
    exact wp_ireturn dX8_factOf_18 rfl ⟨rfl, rfl, rfl, rfl, rfl⟩ rfl rfl
  | false =>
    rw [if_neg (by decide : ¬ false = true), if_neg (by decide : ¬ false = true)]
    refine wp_if_eqN (tgt := 14) (q := 7) dX8_factOf_4 (by decide) rfl (by omega) (fun _ => ?_) (fun hn => absurd hn (by omega))
    refine wp_iload_n (q := 15) dX8_factOf_14 1 rfl rfl ?_
    refine wp_csx (q := 18) (sp_factOfHand (d := d)) zm_X8_factOfHand zl_RX8_85 dX8_factOf_15 rfl (by omega) (Nat.le_of_ble_eq_true rfl) rfl ?_
    exact wp_ireturn dX8_factOf_18 rfl ⟨rfl, rfl, rfl, rfl, rfl⟩ rfl rfl
abbrev zPF := zP × zFl
def zlp (T : Nat → Nat → Nat) (c s1 s2 o1 o2 : Nat) (pt : zP → zFl → zPF) : Nat → zP → zFl → zPF
  | 0, p, F => (p, F)
  | n + 1, p, F => if zpS T p s1 || zpS T p s2 then zlp T c s1 s2 o1 o2 pt n (pt (zpn c p) F).1 ((pt (zpn c p) F).2 ++ [(if zpS T p s1 then o1 else o2, 0)]) else (p, F)
def zpd (T : Nat → Nat → Nat) (c : Nat) (pt : zP → zFl → zPF) (p : zP) (F : zFl) : zPF := zlp T c 42 47 6 7 pt 1600 (pt p F).1 (pt p F).2
def zsu (T : Nat → Nat → Nat) (c : Nat) (pt : zP → zFl → zPF) (p : zP) (F : zFl) : zPF := zlp T c 43 45 4 5 (zpd T c pt) 1600 (zpd T c pt p F).1 (zpd T c pt p F).2
def zSM (M : zMI) (T : Nat → Nat → Nat) (c : Nat) (b : Bool) (f : Nat) (r : zPF) : Prop := zTT M T c r.1 ∧ zFT M f r.2 ∧ M 9 1 = if b then nI 1 else nI 0
def zSP (M : zMI) (L : zML) (T : Nat → Nat → Nat) (c : Nat) (b : Bool) (f t : Nat) (r : zPF) : Option Value → zMI → zML → zMR → Prop := fun v0 M' L' R' => v0 = none ∧ L = L' ∧ R' = zRf t ∧ zSM M' T c b f r ∧ ∀ x, x ≠ 2 → x ≠ f → x ≠ f + 1 → M' x = M x
theorem zSM_t {M M' : zMI} {T : Nat → Nat → Nat} {c : Nat} {b : Bool} {f : Nat} {p p' : zP} {F : zFl} (hf : zFo f) (h : zSM M T c b f (p, F)) (ht : zTT M' T c p') (hx : ∀ x, x ≠ 2 → M' x = M x) : zSM M' T c b f (p', F) := by
  obtain ⟨a1, a2, a3⟩ := h
  have f2 : f ≠ 2 ∧ f + 1 ≠ 2 := by rcases hf with rfl | rfl | rfl | rfl | rfl <;> decide
  exact ⟨ht, zFT_fr a2 (hx f f2.1) (hx (f + 1) f2.2), by rw [hx 9 (by decide)]; exact a3⟩
theorem zSM_f {M M' : zMI} {T : Nat → Nat → Nat} {c : Nat} {b : Bool} {f : Nat} {p : zP} {F F' : zFl} (hf : zFo f) (h : zSM M T c b f (p, F)) (ht : zFT M' f F') (hx : ∀ x, x ≠ f → x ≠ f + 1 → M' x = M x) : zSM M' T c b f (p, F') := by
  obtain ⟨⟨a, b1, c1, d1, e1, e2, e3, e4, e5, g⟩, a2, a3⟩ := h
  have e : ∀ x, x < 10 → M' x = M x := fun x hx' => hx x (by rcases hf with rfl | rfl | rfl | rfl | rfl <;> omega) (by rcases hf with rfl | rfl | rfl | rfl | rfl <;> omega)
  refine ⟨⟨a, b1, c1, d1, by rw [e 2 (by decide)]; exact e1, by rw [e 2 (by decide)]; exact e2, by rw [e 2 (by decide)]; exact e3, by rw [e 2 (by decide)]; exact e4, by rw [e 2 (by decide)]; exact e5, fun i hi => ?_⟩, ht, by rw [e 9 (by decide)]; exact a3⟩
  rw [e 3 (by decide), e 4 (by decide), e 5 (by decide), e 6 (by decide), e 7 (by decide)]
  exact g i hi

