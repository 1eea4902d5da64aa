def zTn (M : zMI) (u : Nat) (n bx : Nat) (nm bn : Nat → Nat) : Prop := M u 1 = nI n ∧ n ≤ 8 ∧ (∀ i, i < n → M (u + 1) i = nI (nm i) ∧ nm i < 2147483648) ∧ M u 7 = nI bx ∧ bx ≤ 4 ∧ ∀ i, i < bx → M (u + 6) i = nI (bn i) ∧ bn i < 2147483648
def ztp (T : Nat → Nat → Nat) (c : Nat) (p : zP) (n : Nat) (nm : Nat → Nat) : zP × Nat := if (zpNa T c p).1.2.2.1 = 0 then (if zfi nm (zpNa T c p).2 n 0 < 30 then ((zpNa T c p).1, zfi nm (zpNa T c p).2 n 0) else (zpf c (zpNa T c p).1 3 (nI (T p.1 1)), 99)) else ((zpNa T c p).1, 99)
theorem zfi_v (nm : Nat → Nat) (x : Nat) : ∀ k i, i + k ≤ 30 → zfi nm x k i < 30 ∨ zfi nm x k i = 99 := by
  intro k
  induction k with
  | zero => intro i _; exact Or.inr rfl
  | succ k ih =>
    intro i h
    rw [zfi]
    split
    · exact Or.inl (by omega)
    · exact ih (i + 1) (by omega)
theorem zpNa_lt {M : zMI} {T : Nat → Nat → Nat} {c : Nat} {p : zP} (h : zTT M T c p) : (zpNa T c p).2 < 2147483648 := by
  have := (h.2.2.2.2.2.2.2.2.2 _ h.2.2.1).2.2.2.2.2.1
  unfold zpNa
  split
  · split
    · exact this
    · exact Nat.zero_lt_succ _
  · exact Nat.zero_lt_succ _
theorem zTn_fr {M M' : zMI} {u n bx : Nat} {nm bn : Nat → Nat} (hu : zTab u) (h : zTn M u n bx nm bn) (hx : ∀ x, x ≠ 2 → M' x = M x) : zTn M' u n bx nm bn := by
  have hu2 : u = 10 ∨ u = 24 := hu
  unfold zTn at *
  rw [hx u (by omega), hx (u + 1) (by omega), hx (u + 6) (by omega)]
  exact h
set_option maxHeartbeats 4000000 in
set_option maxRecDepth 100000 in
theorem sp_toldPerson {d t u n bx c : Nat} {M : zMI} {L : zML} {nm bn : Nat → Nat} {T : Nat → Nat → Nat} {p : zP} (hu : zTab u) (h : zTT M T c p) (hn : zTn M u n bx nm bn) {r : zP × Nat} (hr : ztp T c p n nm = r) : Sy yX9_toldPerson YX9_toldPerson (d + 3) [.ref u, .ref 2] M L (zRf t) (fun v0 M' L' R' => v0 = some (.int (zwd r.2)) ∧ L = L' ∧ R' = zRf t ∧ zTT M' T c r.1 ∧ ∀ x, x ≠ 2 → M' x = M x) := by
  refine Sp.of (by decide +kernel) rfl (fun h => by first | exact h | cases h) (Nat.le_of_ble_eq_true rfl) ?_
  intro w G
  obtain ⟨s0, s1, s2, s3, s4, s5, s6, s7, s8, s11⟩ := zTab_s hu
  have h01 : ∀ z, z < 30 → (nI z : Int32) ≠ -1 := by decide +kernel
  unfold ztp at hr
  refine wp_aload_n (q := 1) dX9_toldPerson_0 1 rfl rfl ?_
  refine wp_cvx (q := 4) (sp_place (d := 0) h) zm_X10_place zl_RX9_72 dX9_toldPerson_1 rfl (by omega) (Nat.le_of_ble_eq_true rfl) zsh_2 rfl rfl ?_
  refine wp_istore_n (q := 5) (loc' := [(2, _), (0, _), (1, _)]) dX9_toldPerson_4 rfl (by decide) rfl rfl ?_
  refine wp_aload_n (q := 6) dX9_toldPerson_5 2 rfl rfl ?_
  refine wp_cvy (q := 9) (sp_needName (d := 0) h) zm_X10_needName zl_RX9_145 dX9_toldPerson_6 rfl (by omega) (Nat.le_of_ble_eq_true rfl) zsh_2 rfl rfl ?_
  rintro _ M2 _ _ ⟨rfl, rfl, rfl, h2, hx2⟩
  have hl := zpNa_lt h
  obtain ⟨q, hq⟩ : ∃ q, zpNa T c p = q := ⟨_, rfl⟩
  rw [hq] at hr h2 hl ⊢
  refine wp_istore_n (q := 10) (loc' := [(3, _), (2, _), (0, _), (1, _)]) dX9_toldPerson_9 rfl (by decide) rfl rfl ?_
  refine wp_aload_n (q := 11) dX9_toldPerson_10 3 rfl rfl ?_
  refine wp_cvx (q := 14) (sp_failed (d := 0) h2) zm_X10_failed zl_RX9_148 dX9_toldPerson_11 rfl (by omega) (Nat.le_of_ble_eq_true rfl) zsh_2 rfl rfl ?_
  by_cases c1 : q.1.2.2.1 = 0
  · rw [if_pos c1] at hr
    rw [if_pos c1]
    have hn2 := zTn_fr hu hn hx2
    obtain ⟨n1, n2, n3, -, -, -⟩ := hn2
    refine wp_if_eqN (tgt := 19) (q := 17) dX9_toldPerson_14 (by decide) rfl (by omega) (fun _ => ?_) (fun hn => absurd hn (by omega))
    refine wp_aload_n (q := 20) dX9_toldPerson_19 2 rfl rfl ?_
    refine wp_iload_n (q := 21) dX9_toldPerson_20 0 rfl rfl ?_
    refine wp_cvx (q := 24) (sp_personOf (d := 0) hu n1 n2 n3 hl) zm_X9_personOf zl_RX9_151 dX9_toldPerson_21 rfl (by omega) (Nat.le_of_ble_eq_true rfl) (by first | assumption | rfl) rfl rfl ?_
    rcases zfi_v nm q.2 n 0 (by omega) with c2 | c2
    · rw [if_pos c2] at hr
      rw [show zwd (zfi nm q.2 n 0) = nI (zfi nm q.2 n 0) from if_pos c2]
      refine wp_istore (q := 26) (loc' := [(4, _), (3, _), (2, _), (0, _), (1, _)]) dX9_toldPerson_24 (by decide) rfl rfl ?_
      refine wp_iload (q := 28) dX9_toldPerson_26 0 rfl rfl ?_
      refine wp_iconst (q := 29) dX9_toldPerson_28 zq_iconst_m1 rfl ?_
      refine wp_icmp_ne (tgt := 38) (q := 32) dX9_toldPerson_29 (by decide) rfl (fun _ => ?_) (fun hn => absurd hn (by exact h01 _ c2))
      refine wp_iload (q := 40) dX9_toldPerson_38 0 rfl rfl ?_
      exact wp_ireturn dX9_toldPerson_40 rfl ⟨rfl, ⟨by rw [← hr]; exact congrArg (fun x => some (Value.int x)) (if_pos c2).symm, rfl, rfl, by rw [← hr]; exact h2, hx2⟩⟩ rfl rfl
    · rw [c2, if_neg (by decide)] at hr
      rw [c2, show zwd 99 = -1 from rfl]
      refine wp_istore (q := 26) (loc' := [(4, _), (3, _), (2, _), (0, _), (1, _)]) dX9_toldPerson_24 (by decide) rfl rfl ?_
      refine wp_iload (q := 28) dX9_toldPerson_26 0 rfl rfl ?_
      refine wp_iconst (q := 29) dX9_toldPerson_28 zq_iconst_m1 rfl ?_
      refine wp_icmp_ne (tgt := 38) (q := 32) dX9_toldPerson_29 (by decide) rfl (fun hn => absurd hn (by exact fun c => c rfl)) (fun _ => ?_)
      refine wp_aload_n (q := 33) dX9_toldPerson_32 4 rfl rfl ?_
      refine wp_iconst (q := 34) dX9_toldPerson_33 zq_iconst_3 rfl ?_
      refine wp_iload_n (q := 35) dX9_toldPerson_34 2 rfl rfl ?_
      refine wp_cvy (q := 38) (sp_fail (d := 0) (y := nI (T p.1 1)) h2 (by decide : 3 ≤ 5)) zm_X10_fail zl_RX9_76 dX9_toldPerson_35 rfl (by omega) (Nat.le_of_ble_eq_true rfl) zsh_2 rfl rfl ?_
      rintro _ M3 _ _ ⟨rfl, rfl, rfl, h3, hx3⟩
      refine wp_iload (q := 40) dX9_toldPerson_38 0 rfl rfl ?_
      exact wp_ireturn dX9_toldPerson_40 rfl ⟨rfl, ⟨by rw [← hr]; rfl, rfl, rfl, by rw [← hr]; exact h3, fun x hx => by rw [hx3 x hx, hx2 x hx]⟩⟩ rfl rfl
  · rw [if_neg c1] at hr
    rw [if_neg c1]
    refine wp_if_eqN (tgt := 19) (q := 17) dX9_toldPerson_14 (by decide) rfl (by omega) (fun hn => absurd hn (by omega)) (fun _ => ?_)
    refine wp_iconst (q := 18) dX9_toldPerson_17 zq_iconst_m1 rfl ?_
    exact wp_ireturn dX9_toldPerson_18 rfl ⟨rfl, ⟨by rw [← hr]; rfl, rfl, rfl, by rw [← hr]; exact h2, hx2⟩⟩ rfl rfl

