abbrev YL_law : zY := (RL, cL_law, 4, ret, false)
def BL : zR := (1000, [], 249, zsl SS)
def zXs (w : zWo) (G : zG) (L0 : Nat) (xs : Nat → Int32) : Prop := va_X (w.2.1 1) L0 xs G.2.2.2.2.1 G.2.2.2.2.1.heap ∧ w.2.1 1 < w.1 ∧ w.2.1 1 < G.2.2.2.2.1.heap.size ∧ L0 ≤ 3072
abbrev lloc (a : Nat) : List (Nat × Value) := [(3, .int (nI a)), (2, .ref 177), (1, .ref 0), (0, .float 1)]
def zarg (xs : Nat → Int32) (a k : Nat) : Int32 := xs (nI (a + k)).toNatClampNeg
theorem zsl_SS : zsl SS ≤ 7302250 := by decide +kernel
theorem zlen_SS : SS.length = 249 := by decide +kernel
section
variable {w : zWo} {G : zG} {pc q : Nat} {loc loc' : List (Nat × Value)} {st : List Value} {S : List zSh} {M : zMI} {L : zML} {R : zMR} {L0 a : Nat} {xs : Nat → Int32} {B : zR}
theorem wp_slen (hX : zXs w G L0 xs) (hd : decode cL_law pc = .ok (.arraylength, 1)) (hq : pc + 1 = q) (k : WP w YL_law B G none q loc (.int (nI L0) :: st) S M L R) : WP w YL_law B G none pc loc (.float 1 :: st) S M L R := by
  obtain ⟨p, l, e, Rm, s, m, args, below, meth, c⟩ := G
  subst hq
  obtain ⟨hX, hb1, hb2, hL⟩ := hX
  intro F h1 h2 H ls locs hP hS hl
  obtain ⟨hx, hb, hml, ho, hts, hlk, hrt, hK, hST, hsz, hfr, hlo, hce, hse, hin⟩ := id F
  exact va_slen hx hb hX hb2 (show ¬ w.1 ≤ w.2.1 1 by omega) hS hd (k F h1 h2 H ls locs hP hS hl)
theorem wp_sld {i : Int32} (hX : zXs w G L0 xs) (hin : vp_in i L0) (hd : decode cL_law pc = .ok (.iaload, 1)) (hq : pc + 1 = q) (k : WP w YL_law B G none q loc (.int (xs i.toNatClampNeg) :: st) S M L R) : WP w YL_law B G none pc loc (.int i :: .float 1 :: st) S M L R := by
  obtain ⟨p, l, e, Rm, s, m, args, below, meth, c⟩ := G
  subst hq
  obtain ⟨hX, hb1, hb2, hL⟩ := hX
  intro F h1 h2 H ls locs hP hS hl
  obtain ⟨hx, hb, hml, ho, hts, hlk, hrt, hK, hST, hsz, hfr, hlo, hce, hse, hi0⟩ := id F
  exact va_sld hx hb hX hb2 (show ¬ w.1 ≤ w.2.1 1 by omega) hS hin hd (k F h1 h2 H ls locs hP hS hl)
theorem wpl_arg {k : Nat} {z : Int} (hX : zXs w G L0 xs) (hk : k ≤ 5) (hz : Int32.ofInt z = nI k) (ha : a + 6 ≤ L0) (d1 : decode cL_law pc = .ok (.aload_n 0, 1)) (d2 : decode cL_law (pc + 1) = .ok (.iload_n 3, 1)) (d3 : decode cL_law (pc + 2) = .ok (.iconst z, 1)) (d4 : decode cL_law (pc + 3) = .ok (.iadd, 1)) (d5 : decode cL_law (pc + 4) = .ok (.iaload, 1)) (hq : pc + 5 = q)
    (kk : WP w YL_law B G none q (lloc a) (.int (zarg xs a k) :: st) S M L R) : WP w YL_law B G none pc (lloc a) st S M L R := by
  subst hq
  have hL := hX.2.2.2
  refine wp_aload_nS (k := 0) d1 3 rfl rfl ?_
  refine wp_iload_n (k := 3) d2 0 rfl rfl ?_
  refine wp_iconst d3 hz rfl ?_
  refine wp_iaddN d4 rfl ?_
  exact wp_sld hX (vp_in_nI (by omega) (by omega)) d5 rfl kk
theorem bl_d : BL.1 = 1000 := rfl
theorem bl_c : SS.length + 0 ≤ BL.2.1.length + BL.2.2.1 := by
  rw [zlen_SS]
  exact Nat.le_refl 249
theorem bl_s0 (B : zR) (h1 : B.2.1 = []) (h2 : B.2.2.2 = zsl SS) : zsl SS + 0 ≤ zsl B.2.1 + B.2.2.2 := by
  rw [h1, h2]
  have : zsl [] = 0 := rfl
  omega
theorem bl_s : zsl SS + 0 ≤ zsl BL.2.1 + BL.2.2.2 := bl_s0 BL (by unfold BL; rfl) (by unfold BL; rfl)
theorem wpl_cv0 {E : Option zQ} {idx n dd : Nat} {y : MethodName} {Y2 : zY} {as : List Value} {o ci : Nat} {P : Option Value → zMI → zML → zMR → Prop} (hc : SS.length + 0 ≤ B.2.1.length + B.2.2.1) (hs : zsl SS + 0 ≤ zsl B.2.1 + B.2.2.2) (hsp : Sy y Y2 dd (.ref o :: as) M L R P) (hm : zMV y Y2 n) (hlink : Cond.methodLink RL idx y ∈ lw_g) (hd : decode cL_law pc = .ok (.invokevirtual idx, 3)) (hn : as.length = n) (hdep : dd + 1 ≤ B.1) (hcat : (st.map fun v => v.category).sum ≤ 8)
    (hobj : SS[o]? = some (.inr ci)) (hci : Option.map (fun z : vw_C => z.1) vwCl[ci]? = some y.cls) (hq : pc + 3 = q) (kk : ∀ (v : Option Value) (M' : zMI) (L' : zML) (R' : zMR), P v M' L' R' → WP w YL_law B G E q loc (v.toList ++ st) SS M' L' R') : WP w YL_law B G E pc loc (as.reverse ++ .ref o :: st) SS M L R := by
  refine wp_callV (mc := 0) (ms := 0) hsp hm hlink hd hn hdep hcat hobj hci hc hs hq ?_
  rintro v _ M' L' R' ⟨rfl, hP⟩ - -
  exact kk v M' L' R' hP
theorem wpl_cv {E : Option zQ} {idx n dd : Nat} {y : MethodName} {Y2 : zY} {as : List Value} {o ci : Nat} {P : Option Value → zMI → zML → zMR → Prop} (hsp : Sy y Y2 dd (.ref o :: as) M L R P) (hm : zMV y Y2 n) (hlink : Cond.methodLink RL idx y ∈ lw_g) (hd : decode cL_law pc = .ok (.invokevirtual idx, 3)) (hn : as.length = n) (hdep : dd + 1 ≤ 1000) (hcat : (st.map fun v => v.category).sum ≤ 8)
    (hobj : SS[o]? = some (.inr ci)) (hci : Option.map (fun z : vw_C => z.1) vwCl[ci]? = some y.cls) (hq : pc + 3 = q) (kk : ∀ (v : Option Value) (M' : zMI) (L' : zML) (R' : zMR), P v M' L' R' → WP w YL_law BL G E q loc (v.toList ++ st) SS M' L' R') : WP w YL_law BL G E pc loc (as.reverse ++ .ref o :: st) SS M L R :=
  wpl_cv0 bl_c bl_s hsp hm hlink hd hn (by rw [bl_d]; exact hdep) hcat hobj hci hq kk
end

