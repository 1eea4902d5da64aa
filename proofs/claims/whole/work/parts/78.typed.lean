theorem zpf_b {c k : Nat} {p : zP} {y : Int32} (hk : k ≠ 0) : (zpf c p k y).2.2.1 ≠ 0 := by
  unfold zpf
  split
  · exact hk
  · assumption
theorem zpn_1 {T : zDD} {c : Nat} {p : zP} (hE : zTE T c) (hp : p.1 < c) (h0 : T p.1 0 ≠ 0) : (zpn c p).1 = p.1 + 1 ∧ p.1 + 1 < c := by
  have h1 : p.1 ≠ c - 1 := fun e => h0 (by rw [e]; exact hE.2.1)
  have h2 := hE.1
  exact ⟨if_pos (by omega), by omega⟩
theorem zpNS_0 {T : zDD} {c s : Nat} {p : zP} (hE : zTE T c) (hp : p.1 < c) (h : (zpNS T c p s).2.2.1 = 0) : zpS T p s = true ∧ p.2.2.1 = 0 ∧ (zpNS T c p s).1 = p.1 + 1 ∧ p.1 + 1 < c ∧ zpNS T c p s = zpn c p := by
  unfold zpNS at h ⊢
  by_cases hs : zpS T p s = true
  · rw [if_pos hs] at h ⊢
    have := zpn_1 hE hp (zpS_0 hs)
    exact ⟨hs, h, this.1, this.2, rfl⟩
  · rw [if_neg hs] at h
    exact absurd h (zpf_b (by decide))
theorem zpe_0 {T : zDD} {c : Nat} {p : zP} (hE : zTE T c) (hp : p.1 < c) (h0 : T p.1 0 ≠ 0) (h : (zpe T c p).2.2.1 = 0) : p.2.2.1 = 0 ∧ (zpe T c p).1 = p.1 + 1 ∧ p.1 + 1 < c ∧ p.2.1 < nI 6 := by
  unfold zpe at h ⊢
  by_cases hs : p.2.1 < nI 6
  · rw [if_pos hs] at h ⊢
    have := zpn_1 (p := (p.1, p.2.1 + nI 1, p.2.2.1, p.2.2.2)) hE hp h0
    exact ⟨h, this.1, this.2, hs⟩
  · rw [if_neg hs] at h
    exact absurd h (zpf_b (by decide))
def zrbx (x : Bool) (ops ops' : zFl) : Prop := zrb ops ops' ∧ (x = false → ops = ops')
theorem zrbx_app {x : Bool} {a a' b b' : zFl} (h : zrbx x a a') (h' : zrbx x b b') : zrbx x (a ++ b) (a' ++ b') := ⟨zrb_app h.1 h'.1, fun c => by rw [h.2 c, h'.2 c]⟩
theorem zrbx_1 {x : Bool} {op arg : Nat} (h1 : op ≤ 15) (h2 : arg ≤ 9999) : zrbx x [(op, arg)] [(op, arg)] := ⟨zrb_1 h1 h2, fun _ => rfl⟩
theorem zrbx_0 {x : Bool} : zrbx x [] [] := ⟨zrb_0, fun _ => rfl⟩
def zgd (K : Nat) (b : Bool) (c : Nat) (p : zP) (F : zFl) (r : zPF) : Prop := r.1.2.2.1 = 0 → p.2.2.1 = 0 ∧ r.1.1 < c ∧ ∃ ops ops', r.2 = F ++ ops ∧ zrbx b ops ops' ∧ zyt K b ops' ∧ p.1 + ops.length ≤ r.1.1
def zgx (K : Nat) (b : Bool) (c : Nat) (p : zP) (F : zFl) (r : zPF) : Prop := r.1.2.2.1 = 0 → p.2.2.1 = 0 ∧ r.1.1 < c ∧ ∃ ops ops', r.2 = F ++ ops ∧ zrbx b ops ops' ∧ ztx K b ops' ∧ p.1 + ops.length ≤ r.1.1
theorem zg_lp {T : zDD} {c s1 s2 o1 o2 K : Nat} {x : Bool} {pt : zP → zFl → zPF} {Q : zP → Prop} (hE : zTE T c) (hQc : ∀ p, Q p → p.1 < c) (hQn : ∀ p, Q p → Q (zpn c p)) (hQp : ∀ p F, Q p → Q (pt p F).1) (hpt : ∀ p F, Q p → zgd K x c p F (pt p F)) (hK : 1 ≤ K) (h1 : zo2k o1 x x) (h2 : zo2k o2 x x) : ∀ n p F, Q p → zgx (K + 1) x c p F (zlp T c s1 s2 o1 o2 pt n p F) := by
  intro n
  induction n with
  | zero => intro p F hp e; exact ⟨e, hQc p hp, [], [], (List.append_nil F).symm, zrbx_0, ztx_0, Nat.le_refl _⟩
  | succ n ih =>
    intro p F hp
    rw [zlp]
    split
    · rename_i hs
      intro e
      have h0 : T p.1 0 ≠ 0 := by
        rcases Bool.or_eq_true_iff.mp hs with hs | hs
        · exact zpS_0 hs
        · exact zpS_0 hs
      obtain ⟨n1, n2⟩ := zpn_1 hE (hQc p hp) h0
      obtain ⟨e1, e2, ops2, ops2', e3, e4, e5, e6⟩ := ih _ _ (hQp _ F (hQn p hp)) e
      obtain ⟨d1, d2, ops1, ops1', d3, d4, d5, d6⟩ := hpt (zpn c p) F (hQn p hp) e1
      have hop : zo2k (if zpS T p s1 = true then o1 else o2) x x := by split <;> assumption
      have hop15 : (if zpS T p s1 = true then o1 else o2) ≤ 15 := by rcases hop with h | h | h <;> omega
      refine ⟨d1, e2, ops1 ++ [(if zpS T p s1 = true then o1 else o2, 0)] ++ ops2, ops1' ++ [(if zpS T p s1 = true then o1 else o2, 0)] ++ ops2', ?_, zrbx_app (zrbx_app d4 (zrbx_1 hop15 (by decide))) e4, ztx_2 d5 e5 hK hop, ?_⟩
      · rw [e3, d3, List.append_assoc, List.append_assoc, List.append_assoc]
      · rw [List.length_append, List.length_append]
        show p.1 + (ops1.length + 1 + ops2.length) ≤ _
        omega
    · intro e
      exact ⟨e, hQc p hp, [], [], (List.append_nil F).symm, zrbx_0, ztx_0, Nat.le_refl _⟩
theorem zg_lw {T : zDD} {c wd op K : Nat} {x : Bool} {pt : zP → zFl → zPF} {Q : zP → Prop} (hE : zTE T c) (hwd : wd < 30) (hQc : ∀ p, Q p → p.1 < c) (hQn : ∀ p, Q p → Q (zpn c p)) (hQp : ∀ p F, Q p → Q (pt p F).1) (hpt : ∀ p F, Q p → zgd K x c p F (pt p F)) (hK : 1 ≤ K) (h1 : zo2k op x x) : ∀ n p F, Q p → zgx (K + 1) x c p F (zlw T c wd op pt n p F) := by
  intro n
  induction n with
  | zero => intro p F hp e; exact ⟨e, hQc p hp, [], [], (List.append_nil F).symm, zrbx_0, ztx_0, Nat.le_refl _⟩
  | succ n ih =>
    intro p F hp
    rw [zlw]
    split
    · rename_i hs
      intro e
      have h0 : T p.1 0 ≠ 0 := zTE_w hE (hQc p hp) (by omega)
      obtain ⟨n1, n2⟩ := zpn_1 hE (hQc p hp) h0
      obtain ⟨e1, e2, ops2, ops2', e3, e4, e5, e6⟩ := ih _ _ (hQp _ F (hQn p hp)) e
      obtain ⟨d1, d2, ops1, ops1', d3, d4, d5, d6⟩ := hpt (zpn c p) F (hQn p hp) e1
      have hop15 : op ≤ 15 := by rcases h1 with h | h | h <;> omega
      refine ⟨d1, e2, ops1 ++ [(op, 0)] ++ ops2, ops1' ++ [(op, 0)] ++ ops2', ?_, zrbx_app (zrbx_app d4 (zrbx_1 hop15 (by decide))) e4, ztx_2 d5 e5 hK h1, ?_⟩
      · rw [e3, d3, List.append_assoc, List.append_assoc, List.append_assoc]
      · rw [List.length_append, List.length_append]
        show p.1 + (ops1.length + 1 + ops2.length) ≤ _
        omega
    · intro e
      exact ⟨e, hQc p hp, [], [], (List.append_nil F).symm, zrbx_0, ztx_0, Nat.le_refl _⟩
theorem zg_seq {K : Nat} {x : Bool} {c : Nat} {p : zP} {F : zFl} {q r : zPF} (h1 : zgd K x c p F q) (h2 : zgx (K + 1) x c q.1 q.2 r) : zgd (K + 1) x c p F r := fun e => by
  obtain ⟨e1, e2, ops2, ops2', e3, e4, e5, e6⟩ := h2 e
  obtain ⟨d1, d2, ops1, ops1', d3, d4, d5, d6⟩ := h1 e1
  refine ⟨d1, e2, ops1 ++ ops2, ops1' ++ ops2', by rw [e3, d3, List.append_assoc], zrbx_app d4 e4, zyt_x (zyt_up d5 (by omega)) e5, ?_⟩
  rw [List.length_append]
  omega
theorem zg_pd {T : zDD} {c K : Nat} {pt : zP → zFl → zPF} {Q : zP → Prop} (hE : zTE T c) (hQc : ∀ p, Q p → p.1 < c) (hQn : ∀ p, Q p → Q (zpn c p)) (hQp : ∀ p F, Q p → Q (pt p F).1) (hpt : ∀ p F, Q p → zgd K false c p F (pt p F)) (hK : 1 ≤ K) (p : zP) (F : zFl) (hp : Q p) : zgd (K + 1) false c p F (zpd T c pt p F) :=
  zg_seq (hpt p F hp) (zg_lp hE hQc hQn hQp hpt hK (Or.inl (by decide)) (Or.inl (by decide)) 1600 _ _ (hQp p F hp))
theorem zg_su {T : zDD} {c K : Nat} {pt : zP → zFl → zPF} {Q : zP → Prop} (hE : zTE T c) (hQc : ∀ p, Q p → p.1 < c) (hQn : ∀ p, Q p → Q (zpn c p)) (hQp : ∀ p F, Q p → Q (pt p F).1) (hQd : ∀ p F, Q p → Q (zpd T c pt p F).1) (hpt : ∀ p F, Q p → zgd K false c p F (pt p F)) (hK : 1 ≤ K) (p : zP) (F : zFl) (hp : Q p) : zgd (K + 2) false c p F (zsu T c pt p F) :=
  zg_seq (zg_pd hE hQc hQn hQp hpt hK p F hp) (zg_lp hE hQc hQn hQd (zg_pd hE hQc hQn hQp hpt hK) (by omega) (Or.inl (by decide)) (Or.inl (by decide)) 1600 _ _ (hQd p F hp))
theorem zfP_v (y : Nat) : zfP y < 30 → zfP y < 9 := by
  unfold zfP
  repeat' split
  all_goals omega
theorem zfH_v (y : Nat) : zfH y < 30 → zfH y < 9 := by
  unfold zfH
  repeat' split
  all_goals omega
theorem zf_w {b : Bool} {y : Nat} : (if b then zfP y else zfH y) < 30 → y < 30 := by
  cases b
  · show zfH y < 30 → y < 30
    unfold zfH
    repeat' split
    all_goals omega
  · show zfP y < 30 → y < 30
    unfold zfP
    repeat' split
    all_goals omega
theorem zg_su' {T : zDD} {c k : Nat} {b : Bool} (hE : zTE T c) (ih : ∀ p F, zok T c k p → zgd (3 * k + 1) false c p F (zpt T c b k p F)) (p : zP) (F : zFl) (hp : zok T c k p) : zgd (3 * k + 3) false c p F (zsu T c (zpt T c b k) p F) :=
  zg_su (Q := zok T c k) hE (fun p hp => hp.2.1) (fun p hp => zok_n hE hp) (fun p F hp => zkp_ok (zkp_pt hE k p F hp.2.1) hp) (fun p F hp => zkp_ok (zkp_pd hE (zkp_pt hE k) p F hp.2.1) hp) ih (by omega) p F hp
theorem zg_pt {T : zDD} {c : Nat} {b : Bool} (hE : zTE T c) : ∀ k p F, zok T c k p → zgd (3 * k + 1) false c p F (zpt T c b k p F) := by
  intro k
  induction k with
  | zero => intro p F hp; exact absurd hp.1 (by decide)
  | succ k ih =>
    intro p F hp
    have hpc := hp.2.1
    rw [zpt]
    generalize hz0 : (if b = true then zfP (T p.1 4) else zfH (T p.1 4)) = z
    generalize hop : (if T p.1 4 = 22 then 8 else 9) = op
    split
    · rename_i h2
      unfold zpNu
      rw [if_pos h2]
      split
      · split
        · rename_i hm
          intro e
          obtain ⟨n1, n2⟩ := zpn_1 hE hpc (by omega)
          exact ⟨e, by show (zpn c p).1 < c; omega, [(0, T p.1 2)], [(0, T p.1 2)], rfl, zrbx_1 (by decide) hm, zyt_n hm, by show p.1 + 1 ≤ (zpn c p).1; omega⟩
        · exact fun e => absurd e (zpf_b (by decide))
      · exact fun e => absurd e (zpf_b (by decide))
    · split
      · rename_i hz
        intro e
        have hw : T p.1 4 < 30 := zf_w (b := b) (by rw [hz0]; exact hz)
        obtain ⟨n1, n2⟩ := zpn_1 hE hpc (zTE_w hE hpc hw)
        have h9 : z < 9 := by
          rw [← hz0] at hz ⊢
          cases b
          · exact zfH_v _ hz
          · exact zfP_v _ hz
        exact ⟨e, by show (zpn c p).1 < c; omega, [(1, _)], [(1, _)], rfl, zrbx_1 (by decide) (by omega), zyt_f h9, by show p.1 + 1 ≤ (zpn c p).1; omega⟩
      · split
        · rename_i hs
          intro e
          have h0 := zpS_0 hs
          have hk := zok_e hE hp h0
          have hsu := zkp_su hE (zkp_pt (b := b) hE k) (zpe T c p) F hk.2.1
          obtain ⟨a1, a2, a3, a4, a5⟩ := zpNS_0 hE hsu.1 e
          obtain ⟨d1, d2, ops1, ops1', d3, d4, d5, d6⟩ := zg_su' hE ih (zpe T c p) F hk a2
          obtain ⟨b1, b2, b3, b4⟩ := zpe_0 hE hpc h0 d1
          refine ⟨b1, by show (zpNS T c _ 41).1 < c; omega, ops1, ops1', d3, d4, zyt_up d5 (by omega), by show p.1 + ops1.length ≤ (zpNS T c _ 41).1; omega⟩
        · split
          · rename_i hw
            have h0 : T p.1 0 ≠ 0 := zTE_w hE hpc (by omega)
            obtain ⟨n1, n2⟩ := zpn_1 hE hpc h0
            have hop2 : op = 8 ∨ op = 9 := by rw [← hop]; split <;> omega
            unfold zo2
            split
            · rename_i hs
              intro e
              have h0' := zpS_0 hs
              have hk := zok_e hE (zok_n hE hp) h0'
              have hsu := zkp_su hE (zkp_pt (b := b) hE k) (zpe T c (zpn c p)) F hk.2.1
              have hns := zkp_NS (s := 44) hE hsu.1
              have hk2 := zkp_ok hns (zkp_ok hsu hk)
              have hsu2 := zkp_su hE (zkp_pt (b := b) hE k) _ (zsu T c (zpt T c b k) (zpe T c (zpn c p)) F).2 hk2.2.1
              obtain ⟨a1, a2, a3, a4, a5⟩ := zpNS_0 hE hsu2.1 e
              obtain ⟨f1, f2, ops2, ops2', f3, f4, f5, f6⟩ := zg_su' hE ih _ (zsu T c (zpt T c b k) (zpe T c (zpn c p)) F).2 hk2 a2
              obtain ⟨g1, g2, g3, g4, g5⟩ := zpNS_0 hE hsu.1 f1
              obtain ⟨d1, d2, ops1, ops1', d3, d4, d5, d6⟩ := zg_su' hE ih (zpe T c (zpn c p)) F hk g2
              obtain ⟨b1, b2, b3, b4⟩ := zpe_0 hE (by omega) h0' d1
              refine ⟨b1, by show (zpNS T c _ 41).1 < c; omega, ops1 ++ ops2 ++ [(op, 0)], ops1' ++ ops2' ++ [(op, 0)], ?_, zrbx_app (zrbx_app d4 f4) (zrbx_1 (by omega) (by decide)), zyt_up (zyt_2 (K := 3 * k + 3) d5 f5 (by omega) (Or.inl ⟨by omega, by omega, rfl, rfl⟩)) (by omega), ?_⟩
              · show _ ++ [(op, 0)] = _
                rw [f3, d3, List.append_assoc, List.append_assoc, List.append_assoc]
              · rw [List.length_append, List.length_append]
                show p.1 + (ops1.length + ops2.length + 1) ≤ (zpNS T c _ 41).1
                omega
            · exact fun e => absurd e (zpf_b (by decide))
          · split
            · rename_i hw
              have h0 : T p.1 0 ≠ 0 := zTE_w hE hpc (by omega)
              intro e
              have hk := zok_e hE hp h0
              obtain ⟨d1, d2, ops1, ops1', d3, d4, d5, d6⟩ := ih (zpe T c p) F hk e
              obtain ⟨b1, b2, b3, b4⟩ := zpe_0 hE hpc h0 d1
              refine ⟨b1, d2, ops1 ++ [(3, 0)], ops1' ++ [(3, 0)], ?_, zrbx_app d4 (zrbx_1 (by decide) (by decide)), zyt_up (zyt_1 d5 (by omega) (Or.inr ⟨rfl, rfl, rfl⟩)) (by omega), ?_⟩
              · show _ ++ [(3, 0)] = _
                rw [d3, List.append_assoc]
              · rw [List.length_append]
                show p.1 + (ops1.length + 1) ≤ (zpt T c b k (zpe T c p) F).1.1
                omega
            · exact fun e => absurd e (zpf_b (by decide))
theorem zg_sum {T : zDD} {c : Nat} {b : Bool} (hE : zTE T c) (p : zP) (F : zFl) (hp : zok T c 8 p) : zgd 27 false c p F (zsum T c b p F) := zg_su' hE (zg_pt hE 8) p F hp
theorem zg_cmp {T : zDD} {c : Nat} (hE : zTE T c) (p : zP) (F : zFl) (hp : zok T c 8 p) : zgd 28 true c p F (zcmp T c p F) := by
  have h1 := zg_sum (b := true) hE p F hp
  have hk := zkp_sum (b := true) hE p F hp.2.1
  unfold zcmp
  generalize zsum T c true p F = r at h1 hk
  have hr := zkp_ok hk hp
  have h3 : ∀ op, 10 ≤ op → op ≤ 12 → T r.1.1 0 ≠ 0 → zgd 28 true c p F (zcm2 T c op r) := by
    intro op o1 o2 h0 e
    obtain ⟨n1, n2⟩ := zpn_1 hE hr.2.1 h0
    obtain ⟨f1, f2, ops2, ops2', f3, f4, f5, f6⟩ := zg_sum (b := true) hE (zpn c r.1) r.2 (zok_n hE hr) e
    obtain ⟨d1, d2, ops1, ops1', d3, d4, d5, d6⟩ := h1 f1
    refine ⟨d1, f2, ops1 ++ ops2 ++ [(op, 0)], ops1' ++ ops2' ++ [(op, 0)], ?_, ⟨zrb_app (zrb_app d4.1 f4.1) (zrb_1 (by omega) (by decide)), fun c => absurd c (by decide)⟩, zyt_2 d5 f5 (by decide) (Or.inr (Or.inl ⟨o1, o2, rfl, rfl⟩)), ?_⟩
    · show _ ++ [(op, 0)] = _
      rw [f3, d3, List.append_assoc, List.append_assoc, List.append_assoc]
    · rw [List.length_append, List.length_append]
      show p.1 + (ops1.length + ops2.length + 1) ≤ (zsum T c true (zpn c r.1) r.2).1.1
      omega
  unfold zcm1
  split
  · rename_i hs; exact h3 10 (by decide) (by decide) (zpS_0 hs)
  · split
    · rename_i hs; exact h3 11 (by decide) (by decide) (zpS_0 hs)
    · split
      · rename_i hs; exact h3 12 (by decide) (by decide) (zpS_0 hs)
      · exact fun e => absurd e (zpf_b (by decide))
theorem zg_te' {T : zDD} {c k : Nat} (hE : zTE T c) (ih : ∀ p F, zok T c k p → zgd (2 * k + 28) true c p F (zqf T c k p F)) (p : zP) (F : zFl) (hp : zok T c k p) : zgd (2 * k + 30) true c p F (zlx T c 18 14 (zlx T c 19 13 (zqf T c k)) p F) := by
  have hb : ∀ p F, zok T c k p → zgd (2 * k + 28 + 1) true c p F (zlx T c 19 13 (zqf T c k) p F) := fun p F hp =>
    zg_seq (ih p F hp) (zg_lw (Q := zok T c k) hE (by decide) (fun p hp => hp.2.1) (fun p hp => zok_n hE hp) (fun p F hp => zkp_ok (zkp_qf hE k p F hp.2.1) hp) ih (by omega) (Or.inr (Or.inr (by decide))) 1600 _ _ (zkp_ok (zkp_qf hE k p F hp.2.1) hp))
  exact zg_seq (hb p F hp) (zg_lw (Q := zok T c k) hE (by decide) (fun p hp => hp.2.1) (fun p hp => zok_n hE hp) (fun p F hp => zkp_ok (zkp_lx hE (zkp_qf hE k) p F hp.2.1) hp) hb (by omega) (Or.inr (Or.inr (by decide))) 1600 _ _ (zkp_ok (zkp_lx hE (zkp_qf hE k) p F hp.2.1) hp))
theorem zg_qf {T : zDD} {c : Nat} (hE : zTE T c) : ∀ k p F, zok T c k p → zgd (2 * k + 28) true c p F (zqf T c k p F) := by
  intro k
  induction k with
  | zero => intro p F hp; exact absurd hp.1 (by decide)
  | succ k ih =>
    intro p F hp
    have hpc := hp.2.1
    rw [zqf]
    split
    · rename_i hw
      have h0 : T p.1 0 ≠ 0 := zTE_w hE hpc (by omega)
      intro e
      have hk := zok_e hE hp h0
      obtain ⟨d1, d2, ops1, ops1', d3, d4, d5, d6⟩ := ih (zpe T c p) F hk e
      obtain ⟨b1, b2, b3, b4⟩ := zpe_0 hE hpc h0 d1
      refine ⟨b1, d2, ops1 ++ [(2, 0)], ops1' ++ [(2, 0)], ?_, zrbx_app d4 (zrbx_1 (by decide) (by decide)), zyt_up (zyt_1 d5 (by omega) (Or.inl ⟨rfl, rfl, rfl⟩)) (by omega), ?_⟩
      · show _ ++ [(2, 0)] = _
        rw [d3, List.append_assoc]
      · rw [List.length_append]
        show p.1 + (ops1.length + 1) ≤ (zqf T c k (zpe T c p) F).1.1
        omega
    · split
      · rename_i hs
        intro e
        have h0 := zpS_0 hs
        have hk := zok_e hE hp h0
        have hsu := zkp_lx (wd := 18) (op := 14) hE (zkp_lx (wd := 19) (op := 13) hE (zkp_qf hE k)) (zpe T c p) F hk.2.1
        obtain ⟨a1, a2, a3, a4, a5⟩ := zpNS_0 hE hsu.1 e
        obtain ⟨d1, d2, ops1, ops1', d3, d4, d5, d6⟩ := zg_te' hE ih (zpe T c p) F hk a2
        obtain ⟨b1, b2, b3, b4⟩ := zpe_0 hE hpc h0 d1
        exact ⟨b1, by show (zpNS T c _ 93).1 < c; omega, ops1, ops1', d3, d4, zyt_up d5 (by omega), by show p.1 + ops1.length ≤ (zpNS T c _ 93).1; omega⟩
      · split
        · rename_i hw
          intro e
          obtain ⟨n1, n2⟩ := zpn_1 hE hpc (zTE_w hE hpc (by omega))
          exact ⟨e, by show (zpn c p).1 < c; omega, [(0, 1)], [(15, 0)], rfl, ⟨⟨fun _ _ => rfl, rfl, fun q hq => by rw [List.mem_singleton.mp hq]; exact ⟨by decide, by decide⟩⟩, fun c => absurd c (by decide)⟩, zyt_a, by show p.1 + 1 ≤ (zpn c p).1; omega⟩
        · intro e
          obtain ⟨d1, d2, ops1, ops1', d3, d4, d5, d6⟩ := zg_cmp hE p F (zok_8 hp) e
          exact ⟨d1, d2, ops1, ops1', d3, d4, zyt_up d5 (by omega), d6⟩
theorem zg_test {T : zDD} {c : Nat} (hE : zTE T c) (p : zP) (F : zFl) (hp : zok T c 8 p) : zgd 46 true c p F (zqt T c p F) := zg_te' hE (zg_qf hE 8) p F hp

