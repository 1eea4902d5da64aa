theorem zg_mi : Cond.initialized "java/lang/Math" ∈ lw_g := zg_of 181 (by decide +kernel) (by decide +kernel)
theorem zg_si : Cond.initialized "java/lang/System" ∈ lw_g := zg_of 180 (by decide +kernel) (by decide +kernel)
theorem zg_maxs : Cond.static Lib.Math.max.name ∈ lw_g := zg_of 982 (by decide +kernel) (by decide +kernel)
theorem zg_maxc : Cond.code Lib.Math.max.name Lib.Math.max.code 2 (some .int) ∈ lw_g := zg_of 983 (by decide +kernel) (by decide +kernel)
theorem zg_mins : Cond.static Lib.Math.min.name ∈ lw_g := zg_of 979 (by decide +kernel) (by decide +kernel)
theorem zg_minc : Cond.code Lib.Math.min.name Lib.Math.min.code 2 (some .int) ∈ lw_g := zg_of 980 (by decide +kernel) (by decide +kernel)
theorem zg_abss : Cond.static Lib.Math.abs.name ∈ lw_g := zg_of 1151 (by decide +kernel) (by decide +kernel)
theorem zg_absc : Cond.code Lib.Math.abs.name Lib.Math.abs.code 1 (some .int) ∈ lw_g := zg_of 1152 (by decide +kernel) (by decide +kernel)
theorem zg_acs : Cond.static arraycopyName ∈ lw_g := zg_of 893 (by decide +kernel) (by decide +kernel)
theorem zg_acn : Cond.native arraycopyName ∈ lw_g := zg_of 894 (by decide +kernel) (by decide +kernel)
theorem zg_oii : Cond.instanceMethod Lib.objectInit ∈ lw_g := zg_of 189 (by decide +kernel) (by decide +kernel)
theorem zg_oic : Cond.code Lib.objectInit ⟨#[0xb1]⟩ 1 none ∈ lw_g := zg_of 190 (by decide +kernel) (by decide +kernel)
theorem zg_aint : Cond.arrayClass .int ∈ lw_g := zg_of 287 (by decide +kernel) (by decide +kernel)
theorem zg_achar : Cond.arrayClass .char ∈ lw_g := zg_of 1621 (by decide +kernel) (by decide +kernel)
theorem zg_along : Cond.arrayClass .long ∈ lw_g := zg_of 1622 (by decide +kernel) (by decide +kernel)
def zN (own : String) (idx ci : Nat) : Prop := ∃ (C : String) (T : u_T) (N : Nat), vwCl[ci]? = some (C, T, N) ∧ Cond.classLink own idx C ∈ lw_g ∧ Cond.instantiable C N ∈ lw_g ∧ Cond.initialized C ∈ lw_g ∧ ∀ k, k < zNN ci → zty ci k ≠ .float ∧ zty ci k ≠ .double
theorem zfv0 {w : zWo} {M : zMI} {L : zML} {R : zMR} {ty : FieldType} {o k : Nat} (h : M o k = 0 ∧ L o k = 0 ∧ R o k = none) (h1 : ty ≠ .float ∧ ty ≠ .double) : defaultValue ty = zfv w M L R ty o k := by
  cases ty <;> simp [zfv, defaultValue, h.1, h.2.1, h.2.2, va_rf] at h1 ⊢
theorem z_newq {w : zWo} {D : va_G} {S : List zSh} {M : zMI} {L : zML} {R : zMR} {q n k : Nat} {e1 : va_E} {H1 : Heap} {p : Program} {l : Launch} {e : Env} {Rm : Room} {s T : State} {m : MethodId} {args : Array Value} {below : List Frame} {meth : Method} {c : Code} {locs : List Loc}
    (hP1 : va_P D vwCl (zws w S M L R ++ [(q, e1)]) H1) (hD1 : va_D (zB w) (zws w S M L R ++ [(q, e1)])) (hsz : s.heap.size = w.1 + n) (hle : n ≤ S.length) (hT : T.heap = H1) (X : Stand p l e Rm s m args below meth c T locs (S.length - n + 1) k) : q = w.1 + S.length := by
  have hlast : (zws w S M L R ++ [(q, e1)])[S.length]? = some (q, e1) := by rw [List.getElem?_append_right (Nat.le_of_eq zws_len), zws_len, Nat.sub_self]; rfl
  have hlt := (hP1 _ _ hlast).lt
  have hA : w.1 ≤ q := hD1.2 _ _ hlast
  have hh := X.heapSize
  rw [hT] at hh
  simp only at hlt
  by_cases hq : q = w.1 + S.length
  · exact hq
  · exfalso
    have hi : q - w.1 < S.length := by omega
    have hg : (zws w S M L R ++ [(q, e1)])[q - w.1]? = some (w.1 + (q - w.1), zcell w M L R (q - w.1) S[q - w.1]) := by
      rw [List.getElem?_append_left (by rw [zws_len]; exact hi)]
      exact zws_get (List.getElem?_eq_getElem hi)
    have := hD1.1 _ _ _ _ hg hlast (by show w.1 + (q - w.1) = q; omega)
    omega
section
variable {w : zWo} {Y : zY} {B : zR} {G : zG} {E : Option zQ} {pc q : Nat} {loc loc' : List (Nat × Value)} {st : List Value} {S : List zSh} {M : zMI} {L : zML} {R : zMR}
theorem wp_new {idx ci : Nat} (hd : decode Y.2.1 pc = .ok (.new idx, 3)) (hN : zN Y.1 idx ci) (hz : ∀ k, M S.length k = 0 ∧ L S.length k = 0 ∧ R S.length k = none) (hc : S.length + 1 ≤ B.2.1.length + B.2.2.1) (hs : zsl S + zNN ci ≤ zsl B.2.1 + B.2.2.2) (hq : pc + 3 = q)
    (kk : WP w Y B G E q loc (.ref S.length :: st) (S ++ [.inr ci]) M L R) : WP w Y B G E pc loc st S M L R := by
  subst hq
  obtain ⟨p, l, e, Rm, s, m, args, below, meth, c⟩ := G
  intro F h1 h2 H ls locs hP hS hl
  obtain ⟨hx, hb, hml, ho, hts, hlk, hrt, hK, hST, hsz, hfr, hlo, hce, hse, hin⟩ := id F
  obtain ⟨C, T, N, hcl, n1, n2, n3, n4⟩ := hN
  obtain ⟨z1, z2, z3, z4, z5⟩ := zC ci C T N hcl
  refine va_new (D := (w.2.2.1, w.2.2.2.1)) (A := zB w) (ci := ci) (fs := (List.range (zNN ci)).map fun k => zfv w M L R (zty ci k) S.length k) (C := C) (T := T) (N := N) hx hb hts z1 (zty ci) z2 ho (hts _ n1) (hts _ n2) (hts _ n3) hK.nil hP zws_D hS (fun q h => by show w.1 ≤ q; omega) hcl
    (fun j hj => by have hj' : j < zNN ci := by omega
                    show _ = vp_V _ _; rw [vp_V, List.getD_eq_getElem?_getD, zfs_get hj']; exact zfv0 (hz j) (n4 j hj')) (by omega) (by omega) hd (fun q H1 hP1 hD1 hS1 => ?_)
  intro T1 hT X
  have hq := z_newq hP1 hD1 hsz h1 hT X
  subst hq
  rw [show (w.1 + S.length, (Sum.inr (ci, (List.range (zNN ci)).map fun k => zfv w M L R (zty ci k) S.length k) : va_E)) = (w.1 + S.length, zcell w M L R S.length (.inr ci)) from rfl, ← zws_push] at hP1
  have e1 : S.length - B.2.1.length + 1 = (S ++ [(Sum.inr ci : zSh)]).length - B.2.1.length := by rw [List.length_append]; simp; omega
  have e2 : zsl S - zsl B.2.1 + N = zsl (S ++ [(Sum.inr ci : zSh)]) - zsl B.2.1 := by rw [zsl_push]; simp only [zs1]; omega
  have := kk F (by rw [List.length_append]; omega) (by rw [zsl_push]; omega) H1 ls locs hP1 hS1 hl
  rw [← e1, ← e2] at this
  exact this T1 hT X
theorem wp_objInit {idx o : Nat} (hd : decode Y.2.1 pc = .ok (.invokespecial idx, 3)) (hlink : Cond.methodLink Y.1 idx Lib.objectInit ∈ lw_g) (hB : 1 ≤ B.1) (hcat : (st.map fun v => v.category).sum ≤ 8) (hq : pc + 3 = q) (kk : WP w Y B G E q loc st S M L R) : WP w Y B G E pc loc (.ref o :: st) S M L R := by
  subst hq
  obtain ⟨p, l, e, Rm, s, m, args, below, meth, c⟩ := G
  intro F h1 h2 H ls locs hP hS hl
  obtain ⟨hx, hb, hml, ho, hts, hlk, hrt, hK, hST, hsz, hfr, hlo, hce, hse, hin⟩ := id F
  have hrm := lv_room (m := m) (pc := pc) (ls := ls) (rest := (Value.ref o :: st).map (zv w)) (zcats (w := w) hcat)
  exact W.objInit hx hb ho (hts _ hlink) (hts _ zg_oii) (hts _ zg_oic) rfl (hl.1.trans hml.symm) rfl hd (by omega) (by omega) (kk F h1 h2 H ls locs hP hS hl)
theorem wp_newaI {N : Nat} {n : Int32} (hd : decode Y.2.1 pc = .ok (.newarray .int, 2)) (hn : n = nI N) (hN : N ≤ 10000) (hz : ∀ k, M S.length k = 0 ∧ L S.length k = 0 ∧ R S.length k = none) (hc : S.length + 1 ≤ B.2.1.length + B.2.2.1) (hs : zsl S + N ≤ zsl B.2.1 + B.2.2.2) (hq : pc + 2 = q)
    (kk : WP w Y B G E q loc (.ref S.length :: st) (S ++ [.inl (N, .int)]) M L R) : WP w Y B G E pc loc (.int n :: st) S M L R := by
  subst hq
  subst hn
  obtain ⟨p, l, e, Rm, s, m, args, below, meth, c⟩ := G
  intro F h1 h2 H ls locs hP hS hl
  obtain ⟨hx, hb, hml, ho, hts, hlk, hrt, hK, hST, hsz, hfr, hlo, hce, hse, hin⟩ := id F
  refine va_newa (D := (w.2.2.1, w.2.2.2.1)) (A := zB w) (atype := .int) (ty := .int) (N' := N) (a0 := (N, .inl (fun _ => 0))) hx hb (hts _ zg_aint) rfl hK.nil hP zws_D hS (fun q h => by show w.1 ≤ q; omega) (fun _ => rfl) (nI_pos (by omega)) (nI_clamp (by omega)) (by show N * _ ≤ _; simp only [componentBytes]; omega) (by omega) (by omega) hd (fun q cA H1 hK1 hP1 hD1 hS1 => ?_)
  have hcA : cA = w.2.2.2.2 .int := by
    have a := (hK1.2 0 (cA, .int) rfl).2
    have b := (hK.2 .int (by simp [zTys])).2
    exact Option.some.inj (a.symm.trans b)
  subst hcA
  intro T1 hT X
  have hq := z_newq hP1 hD1 hsz h1 hT X
  subst hq
  have hf : M S.length = fun _ => 0 := by funext k; exact (hz k).1
  rw [← hf, show (w.1 + S.length, (.inl (w.2.2.2.2 .int, N, .inl (M S.length)) : va_E)) = (w.1 + S.length, zcell w M L R S.length (.inl (N, .int))) from rfl, ← zws_push] at hP1
  have e1 : S.length - B.2.1.length + 1 = (S ++ [(Sum.inl (N, .int) : zSh)]).length - B.2.1.length := by rw [List.length_append]; simp; omega
  have e2 : zsl S - zsl B.2.1 + N = zsl (S ++ [(Sum.inl (N, .int) : zSh)]) - zsl B.2.1 := by rw [zsl_push]; simp only [zs1]; omega
  have := kk F (by rw [List.length_append]; omega) (by rw [zsl_push]; omega) H1 ls locs hP1 hS1 hl
  rw [← e1, ← e2] at this
  exact this T1 hT X
theorem wp_newaC {N : Nat} {n : Int32} (hd : decode Y.2.1 pc = .ok (.newarray .char, 2)) (hn : n = nI N) (hN : N ≤ 10000) (hz : ∀ k, M S.length k = 0 ∧ L S.length k = 0 ∧ R S.length k = none) (hc : S.length + 1 ≤ B.2.1.length + B.2.2.1) (hs : zsl S + N ≤ zsl B.2.1 + B.2.2.2) (hq : pc + 2 = q)
    (kk : WP w Y B G E q loc (.ref S.length :: st) (S ++ [.inl (N, .char)]) M L R) : WP w Y B G E pc loc (.int n :: st) S M L R := by
  subst hq
  subst hn
  obtain ⟨p, l, e, Rm, s, m, args, below, meth, c⟩ := G
  intro F h1 h2 H ls locs hP hS hl
  obtain ⟨hx, hb, hml, ho, hts, hlk, hrt, hK, hST, hsz, hfr, hlo, hce, hse, hin⟩ := id F
  refine va_newa (D := (w.2.2.1, w.2.2.2.1)) (A := zB w) (atype := .char) (ty := .char) (N' := N) (a0 := (N, .inl (fun _ => 0))) hx hb (hts _ zg_achar) rfl hK.nil hP zws_D hS (fun q h => by show w.1 ≤ q; omega) (fun _ => rfl) (nI_pos (by omega)) (nI_clamp (by omega)) (by show N * _ ≤ _; simp only [componentBytes]; omega) (by omega) (by omega) hd (fun q cA H1 hK1 hP1 hD1 hS1 => ?_)
  have hcA : cA = w.2.2.2.2 .char := by
    have a := (hK1.2 0 (cA, .char) rfl).2
    have b := (hK.2 .char (by simp [zTys])).2
    exact Option.some.inj (a.symm.trans b)
  subst hcA
  intro T1 hT X
  have hq := z_newq hP1 hD1 hsz h1 hT X
  subst hq
  have hf : M S.length = fun _ => 0 := by funext k; exact (hz k).1
  rw [← hf, show (w.1 + S.length, (.inl (w.2.2.2.2 .char, N, .inl (M S.length)) : va_E)) = (w.1 + S.length, zcell w M L R S.length (.inl (N, .char))) from rfl, ← zws_push] at hP1
  have e1 : S.length - B.2.1.length + 1 = (S ++ [(Sum.inl (N, .char) : zSh)]).length - B.2.1.length := by rw [List.length_append]; simp; omega
  have e2 : zsl S - zsl B.2.1 + N = zsl (S ++ [(Sum.inl (N, .char) : zSh)]) - zsl B.2.1 := by rw [zsl_push]; simp only [zs1]; omega
  have := kk F (by rw [List.length_append]; omega) (by rw [zsl_push]; omega) H1 ls locs hP1 hS1 hl
  rw [← e1, ← e2] at this
  exact this T1 hT X
theorem wp_newaL {N : Nat} {n : Int32} (hd : decode Y.2.1 pc = .ok (.newarray .long, 2)) (hn : n = nI N) (hN : N ≤ 10000) (hz : ∀ k, M S.length k = 0 ∧ L S.length k = 0 ∧ R S.length k = none) (hc : S.length + 1 ≤ B.2.1.length + B.2.2.1) (hs : zsl S + N ≤ zsl B.2.1 + B.2.2.2) (hq : pc + 2 = q)
    (kk : WP w Y B G E q loc (.ref S.length :: st) (S ++ [.inl (N, .long)]) M L R) : WP w Y B G E pc loc (.int n :: st) S M L R := by
  subst hq
  subst hn
  obtain ⟨p, l, e, Rm, s, m, args, below, meth, c⟩ := G
  intro F h1 h2 H ls locs hP hS hl
  obtain ⟨hx, hb, hml, ho, hts, hlk, hrt, hK, hST, hsz, hfr, hlo, hce, hse, hin⟩ := id F
  refine va_newa (D := (w.2.2.1, w.2.2.2.1)) (A := zB w) (atype := .long) (ty := .long) (N' := N) (a0 := (N, .inr (.inl (fun _ => 0)))) hx hb (hts _ zg_along) rfl hK.nil hP zws_D hS (fun q h => by show w.1 ≤ q; omega) (fun _ => rfl) (nI_pos (by omega)) (nI_clamp (by omega)) (by show N * _ ≤ _; simp only [componentBytes]; omega) (by omega) (by omega) hd (fun q cA H1 hK1 hP1 hD1 hS1 => ?_)
  have hcA : cA = w.2.2.2.2 .long := by
    have a := (hK1.2 0 (cA, .long) rfl).2
    have b := (hK.2 .long (by simp [zTys])).2
    exact Option.some.inj (a.symm.trans b)
  subst hcA
  intro T1 hT X
  have hq := z_newq hP1 hD1 hsz h1 hT X
  subst hq
  have hf : L S.length = fun _ => 0 := by funext k; exact (hz k).2.1
  rw [← hf, show (w.1 + S.length, (.inl (w.2.2.2.2 .long, N, .inr (.inl (L S.length))) : va_E)) = (w.1 + S.length, zcell w M L R S.length (.inl (N, .long))) from rfl, ← zws_push] at hP1
  have e1 : S.length - B.2.1.length + 1 = (S ++ [(Sum.inl (N, .long) : zSh)]).length - B.2.1.length := by rw [List.length_append]; simp; omega
  have e2 : zsl S - zsl B.2.1 + N = zsl (S ++ [(Sum.inl (N, .long) : zSh)]) - zsl B.2.1 := by rw [zsl_push]; simp only [zs1]; omega
  have := kk F (by rw [List.length_append]; omega) (by rw [zsl_push]; omega) H1 ls locs hP1 hS1 hl
  rw [← e1, ← e2] at this
  exact this T1 hT X
theorem wp_anewa {N idx : Nat} {n : Int32} (hd : decode Y.2.1 pc = .ok (.anewarray idx, 3)) (hcl : Cond.classLink Y.1 idx "CrackerRing$State" ∈ lw_g) (hn : n = nI N) (hN : N ≤ 10000) (hz : ∀ k, M S.length k = 0 ∧ L S.length k = 0 ∧ R S.length k = none) (hc : S.length + 1 ≤ B.2.1.length + B.2.2.1) (hs : zsl S + N ≤ zsl B.2.1 + B.2.2.2) (hq : pc + 3 = q)
    (kk : WP w Y B G E q loc (.ref S.length :: st) (S ++ [.inl (N, .object "CrackerRing$State")]) M L R) : WP w Y B G E pc loc (.int n :: st) S M L R := by
  subst hq
  subst hn
  obtain ⟨p, l, e, Rm, s, m, args, below, meth, c⟩ := G
  intro F h1 h2 H ls locs hP hS hl
  obtain ⟨hx, hb, hml, ho, hts, hlk, hrt, hK, hST, hsz, hfr, hlo, hce, hse, hin⟩ := id F
  refine va_newq (D := (w.2.2.1, w.2.2.2.1)) (A := zB w) (C := "CrackerRing$State") (N' := N) hx hb ho (hts _ hcl) hST.2.2.2.2.2.1 hK.nil hP zws_D hS (fun q h => by show w.1 ≤ q; omega) (nI_pos (by omega)) (nI_clamp (by omega)) (by omega) (by omega) (by omega) hd (fun q cA H1 hK1 hP1 hD1 hS1 => ?_)
  have hcA : cA = w.2.2.2.2 (.object "CrackerRing$State") := by
    obtain ⟨_, _, _, _, _, a⟩ := (hK1.2 0 (cA, .object "CrackerRing$State") rfl).2
    obtain ⟨_, _, _, _, _, b⟩ := (hK.2 (.object "CrackerRing$State") (by simp [zTys])).2
    exact Option.some.inj (a.symm.trans b)
  subst hcA
  intro T1 hT X
  have hq := z_newq hP1 hD1 hsz h1 hT X
  subst hq
  have hf : (fun _ => none) = (fun k => (R S.length k).map (fun x => w.1 + x)) := by funext k; rw [(hz k).2.2]; rfl
  rw [hf, show (w.1 + S.length, (.inl (w.2.2.2.2 (.object "CrackerRing$State"), N, .inr (.inr (.inr (.inr (fun k => (R S.length k).map (fun x => w.1 + x)))))) : va_E)) = (w.1 + S.length, zcell w M L R S.length (.inl (N, .object "CrackerRing$State"))) from rfl, ← zws_push] at hP1
  have e1 : S.length - B.2.1.length + 1 = (S ++ [(Sum.inl (N, .object "CrackerRing$State") : zSh)]).length - B.2.1.length := by rw [List.length_append]; simp; omega
  have e2 : zsl S - zsl B.2.1 + N = zsl (S ++ [(Sum.inl (N, .object "CrackerRing$State") : zSh)]) - zsl B.2.1 := by rw [zsl_push]; simp only [zs1]; omega
  have := kk F (by rw [List.length_append]; omega) (by rw [zsl_push]; omega) H1 ls locs hP1 hS1 hl
  rw [← e1, ← e2] at this
  exact this T1 hT X
theorem wp_mmax {idx : Nat} {x y : Int32} (hd : decode Y.2.1 pc = .ok (.invokestatic idx, 3)) (hlink : Cond.methodLink Y.1 idx Lib.Math.max.name ∈ lw_g) (hB : 1 ≤ B.1) (hcat : (st.map fun v => v.category).sum ≤ 8) (hc : S.length ≤ B.2.1.length + B.2.2.1) (hs : zsl S ≤ zsl B.2.1 + B.2.2.2) (hq : pc + 3 = q)
    (kk : WP w Y B G E q loc (.int (if x < y then y else x) :: st) S M L R) : WP w Y B G E pc loc (.int y :: .int x :: st) S M L R := by
  subst hq
  obtain ⟨p, l, e, Rm, s, m, args, below, meth, c⟩ := G
  intro F h1 h2 H ls locs hP hS hl
  obtain ⟨hx, hb, hml, ho, hts, hlk, hrt, hK, hST, hsz, hfr, hlo, hce, hse, hin⟩ := id F
  have hcs := zcats (w := w) hcat
  exact va_mmax hx hb (hml.trans hl.1.symm) ho (hts _ hlink) (hts _ zg_maxs) (hts _ zg_mi) (hts _ zg_maxc) (by omega) (by omega) (by omega) (by omega) hd (kk F h1 h2 H ls locs hP hS hl)
theorem wp_mmin {idx : Nat} {x y : Int32} (hd : decode Y.2.1 pc = .ok (.invokestatic idx, 3)) (hlink : Cond.methodLink Y.1 idx Lib.Math.min.name ∈ lw_g) (hB : 1 ≤ B.1) (hcat : (st.map fun v => v.category).sum ≤ 8) (hc : S.length ≤ B.2.1.length + B.2.2.1) (hs : zsl S ≤ zsl B.2.1 + B.2.2.2) (hq : pc + 3 = q)
    (kk : WP w Y B G E q loc (.int (if y < x then y else x) :: st) S M L R) : WP w Y B G E pc loc (.int y :: .int x :: st) S M L R := by
  subst hq
  obtain ⟨p, l, e, Rm, s, m, args, below, meth, c⟩ := G
  intro F h1 h2 H ls locs hP hS hl
  obtain ⟨hx, hb, hml, ho, hts, hlk, hrt, hK, hST, hsz, hfr, hlo, hce, hse, hin⟩ := id F
  have hcs := zcats (w := w) hcat
  exact va_mmin hx hb (hml.trans hl.1.symm) ho (hts _ hlink) (hts _ zg_mins) (hts _ zg_mi) (hts _ zg_minc) (by omega) (by omega) (by omega) (by omega) hd (kk F h1 h2 H ls locs hP hS hl)
theorem wp_mabs {idx : Nat} {x : Int32} (hd : decode Y.2.1 pc = .ok (.invokestatic idx, 3)) (hlink : Cond.methodLink Y.1 idx Lib.Math.abs.name ∈ lw_g) (hB : 1 ≤ B.1) (hcat : (st.map fun v => v.category).sum ≤ 8) (hc : S.length ≤ B.2.1.length + B.2.2.1) (hs : zsl S ≤ zsl B.2.1 + B.2.2.2) (hq : pc + 3 = q)
    (kk : WP w Y B G E q loc (.int (if 0 ≤ x then x else 0 - x) :: st) S M L R) : WP w Y B G E pc loc (.int x :: st) S M L R := by
  subst hq
  obtain ⟨p, l, e, Rm, s, m, args, below, meth, c⟩ := G
  intro F h1 h2 H ls locs hP hS hl
  obtain ⟨hx, hb, hml, ho, hts, hlk, hrt, hK, hST, hsz, hfr, hlo, hce, hse, hin⟩ := id F
  have hcs := zcats (w := w) hcat
  exact va_mabs hx hb (hml.trans hl.1.symm) ho (hts _ hlink) (hts _ zg_abss) (hts _ zg_mi) (hts _ zg_absc) (by omega) (by omega) (by omega) (by omega) hd (kk F h1 h2 H ls locs hP hS hl)
def zcp (M : zMI) (a b sp dp n : Nat) : zMI := fun o => if o = b then va_cpy (M a) (M b) sp dp n else M o
theorem wp_copy {idx a b n0 n1 sp dp n : Nat} {x y z : Int32} (hd : decode Y.2.1 pc = .ok (.invokestatic idx, 3)) (hlink : Cond.methodLink Y.1 idx arraycopyName ∈ lw_g) (ha : S[a]? = some (.inl (n0, .int))) (hb' : S[b]? = some (.inl (n1, .int))) (hx' : x = nI sp) (hy' : y = nI dp) (hz' : z = nI n) (h4 : sp + n ≤ n0) (h5 : dp + n ≤ n1) (hn0 : n0 ≤ 10000) (hn1 : n1 ≤ 10000)
    (hB : 1 ≤ B.1) (hcat : (st.map fun v => v.category).sum ≤ 8) (hq : pc + 3 = q) (kk : WP w Y B G E q loc st S (zcp M a b sp dp n) L R) : WP w Y B G E pc loc (.int z :: .int y :: .ref b :: .int x :: .ref a :: st) S M L R := by
  subst hq
  subst hx'
  subst hy'
  subst hz'
  obtain ⟨p, l, e, Rm, s, m, args, below, meth, c⟩ := G
  intro F h1 h2 H ls locs hP hS hl
  obtain ⟨hx, hb, hml, ho, hts, hlk, hrt, hK, hST, hsz, hfr, hlo, hce, hse, hin⟩ := id F
  have hcs := zcats (w := w) hcat
  have c1 : (nI sp).toNatClampNeg = sp := nI_clamp (by omega)
  have c2 : (nI dp).toNatClampNeg = dp := nI_clamp (by omega)
  have c3 : (nI n).toNatClampNeg = n := nI_clamp (by omega)
  have p1 : ¬ nI sp < 0 := nI_pos (by omega)
  have p2 : ¬ nI dp < 0 := nI_pos (by omega)
  have p3 : ¬ nI n < 0 := nI_pos (by omega)
  have p4 : (nI sp).toNatClampNeg + (nI n).toNatClampNeg ≤ n0 := by rw [c1, c3]; exact h4
  have p5 : (nI dp).toNatClampNeg + (nI n).toNatClampNeg ≤ n1 := by rw [c2, c3]; exact h5
  have p6 : nativeFrameWords "java/lang/System" "arraycopy" 5 ≤ 30 := by decide +kernel
  have p7 : ((st.map (zv w)).map fun v => v.category).sum + (nativeFrameWords "java/lang/System" "arraycopy" 5 + 11) ≤ Rm.locals := by omega
  refine va_copyi (D := (w.2.2.1, w.2.2.2.1)) (A := zB w) (ty := .int) (f := M a) (g := M b) (n0 := n0) (n1 := n1) hx hb (hml.trans hl.1.symm) ho (hts _ hlink) (hts _ zg_acn) (hts _ zg_acs) (hts _ zg_si) (hK.va (ty := .int) (by simp [zTys])) hP zws_D hS a b 0 0 (zws_get ha) (zws_get hb') rfl rfl rfl p1 p2 p3 p4 p5 (fun _ _ => rfl) (by omega) p7 hd (fun H1 locs1 hP1 hD1 hS1 => ?_)
  rw [c1, c2, c3] at hP1
  rw [zws_set hb' (M' := zcp M a b sp dp n) (L' := L) (R' := R) (by simp only [zcell, zcp, if_true]) (fun o' ho => ⟨by simp [zcp, ho], rfl, rfl⟩)] at hP1
  exact kk F h1 h2 H1 ls locs1 hP1 hS1 hl
theorem wp_getsLW {idx : Nat} (hd : decode Y.2.1 pc = .ok (.getstatic idx, 3)) (hlink : Cond.fieldLink Y.1 idx "CrackerRing" "LETTER_WEIGHTS" "[I" ∈ lw_g) (hq : pc + 3 = q) (kk : WP w Y B G E q loc (.float 0 :: st) S M L R) : WP w Y B G E pc loc st S M L R := by
  subst hq
  obtain ⟨p, l, e, Rm, s, m, args, below, meth, c⟩ := G
  intro F h1 h2 H ls locs hP hS hl
  obtain ⟨hx, hb, hml, ho, hts, hlk, hrt, hK, hST, hsz, hfr, hlo, hce, hse, hin⟩ := id F
  exact va_gets hx hb hST.1 hS ho (hts _ hlink) (fun x h => h) hd (kk F h1 h2 H ls locs hP hS hl)
theorem wp_getsLWN {idx : Nat} (hd : decode Y.2.1 pc = .ok (.getstatic idx, 3)) (hlink : ∀ (U : State) (H : Heap), zST w U H → va_Nw (.fieldLinkNest Y.1 idx "CrackerRing" "LETTER_WEIGHTS" "[I" "CrackerRing") U) (hq : pc + 3 = q) (kk : WP w Y B G E q loc (.float 0 :: st) S M L R) : WP w Y B G E pc loc st S M L R := by
  subst hq
  obtain ⟨p, l, e, Rm, s, m, args, below, meth, c⟩ := G
  intro F h1 h2 H ls locs hP hS hl
  obtain ⟨hx, hb, hml, ho, hts, hlk, hrt, hK, hST, hsz, hfr, hlo, hce, hse, hin⟩ := id F
  exact va_getsN hx hb hST.1 hS ho (va_Nw.use rfl (hlink _ _ hST)) (fun x h => h) hd (kk F h1 h2 H ls locs hP hS hl)
theorem wp_getsCS {idx : Nat} (hd : decode Y.2.1 pc = .ok (.getstatic idx, 3)) (hlink : Cond.fieldLink Y.1 idx "java/lang/String" "COMPACT_STRINGS" "Z" ∈ lw_g) (hq : pc + 3 = q) (kk : WP w Y B G E q loc (.int 1 :: st) S M L R) : WP w Y B G E pc loc st S M L R := by
  subst hq
  obtain ⟨p, l, e, Rm, s, m, args, below, meth, c⟩ := G
  intro F h1 h2 H ls locs hP hS hl
  obtain ⟨hx, hb, hml, ho, hts, hlk, hrt, hK, hST, hsz, hfr, hlo, hce, hse, hin⟩ := id F
  exact va_gets hx hb hST.2.2.2.2.1 hS ho (hts _ hlink) (fun x h => h) hd (kk F h1 h2 H ls locs hP hS hl)
theorem wp_ialdLW {i : Int32} (j : Nat) (hd : decode Y.2.1 pc = .ok (.iaload, 1)) (hi : i = nI j) (hj : j < 6) (hq : pc + 1 = q) (kk : WP w Y B G E q loc (.int (zLW j) :: st) S M L R) : WP w Y B G E pc loc (.int i :: .float 0 :: st) S M L R := by
  subst hq
  obtain ⟨p, l, e, Rm, s, m, args, below, meth, c⟩ := G
  intro F h1 h2 H ls locs hP hS hl
  obtain ⟨hx, hb, hml, ho, hts, hlk, hrt, hK, hST, hsz, hfr, hlo, hce, hse, hin⟩ := id F
  obtain ⟨v1, v2⟩ := zvp hi hj (Nat.le_of_ble_eq_true rfl)
  exact va_ti hx hb hST.2.1 hS v1 (v := .int (zLW j)) (by rw [v2]) hd (kk F h1 h2 H ls locs hP hS hl)
theorem wp_baldS {i : Int32} (j : Nat) (hd : decode Y.2.1 pc = .ok (.baload, 1)) (hi : i = nI j) (hj : j < 153) (hq : pc + 1 = q) (kk : WP w Y B G E q loc (.int (zTXb.getD j 0) :: st) S M L R) : WP w Y B G E pc loc (.int i :: .float 3 :: st) S M L R := by
  subst hq
  obtain ⟨p, l, e, Rm, s, m, args, below, meth, c⟩ := G
  intro F h1 h2 H ls locs hP hS hl
  obtain ⟨hx, hb, hml, ho, hts, hlk, hrt, hK, hST, hsz, hfr, hlo, hce, hse, hin⟩ := id F
  obtain ⟨v1, v2⟩ := zvp hi hj (Nat.le_of_ble_eq_true rfl)
  exact va_tb hx hb (hST.2.2.2.1.1 0 (by decide)).2.2.2 hS v1 (v := .int (zTXb.getD j 0)) (by rw [v2]; rfl) hd (kk F h1 h2 H ls locs hP hS hl)
theorem wp_alenS (hd : decode Y.2.1 pc = .ok (.arraylength, 1)) (hq : pc + 1 = q) (kk : WP w Y B G E q loc (.int 153 :: st) S M L R) : WP w Y B G E pc loc (.float 3 :: st) S M L R := by
  subst hq
  obtain ⟨p, l, e, Rm, s, m, args, below, meth, c⟩ := G
  intro F h1 h2 H ls locs hP hS hl
  obtain ⟨hx, hb, hml, ho, hts, hlk, hrt, hK, hST, hsz, hfr, hlo, hce, hse, hin⟩ := id F
  exact va_tlen hx hb (hST.2.2.2.1.1 0 (by decide)).2.2.2 hS (v := 153) rfl hd (kk F h1 h2 H ls locs hP hS hl)
theorem wp_getSv {idx : Nat} (hd : decode Y.2.1 pc = .ok (.getfield idx, 3)) (hlink : Cond.fieldLink Y.1 idx "java/lang/String" "value" "[B" ∈ lw_g) (hq : pc + 3 = q) (kk : WP w Y B G E q loc (.float 3 :: st) S M L R) : WP w Y B G E pc loc (.float 2 :: st) S M L R := by
  subst hq
  obtain ⟨p, l, e, Rm, s, m, args, below, meth, c⟩ := G
  intro F h1 h2 H ls locs hP hS hl
  obtain ⟨hx, hb, hml, ho, hts, hlk, hrt, hK, hST, hsz, hfr, hlo, hce, hse, hin⟩ := id F
  exact vk_getf hx hb (hST.2.2.2.1.1 0 (by decide)).2.2.1 hS ho (hts _ hlink) (fun x h => h) hd (kk F h1 h2 H ls locs hP hS hl)
theorem wp_getSc {idx : Nat} (hd : decode Y.2.1 pc = .ok (.getfield idx, 3)) (hlink : Cond.fieldLink Y.1 idx "java/lang/String" "coder" "B" ∈ lw_g) (hq : pc + 3 = q) (kk : WP w Y B G E q loc (.int 0 :: st) S M L R) : WP w Y B G E pc loc (.float 2 :: st) S M L R := by
  subst hq
  obtain ⟨p, l, e, Rm, s, m, args, below, meth, c⟩ := G
  intro F h1 h2 H ls locs hP hS hl
  obtain ⟨hx, hb, hml, ho, hts, hlk, hrt, hK, hST, hsz, hfr, hlo, hce, hse, hin⟩ := id F
  exact vk_getf hx hb (hST.2.2.2.1.1 0 (by decide)).2.1 hS ho (hts _ hlink) (fun x h => h) hd (kk F h1 h2 H ls locs hP hS hl)
theorem wp_ldcS {idx : Nat} (hd : decode Y.2.1 pc = .ok (.ldc idx, 2)) (hY : Y.1 = "CrackerRing$Text") (hidx : idx = 49) (hq : pc + 2 = q) (kk : WP w Y B G E q loc (.float 2 :: st) S M L R) : WP w Y B G E pc loc st S M L R := by
  subst hq
  subst hidx
  obtain ⟨p, l, e, Rm, s, m, args, below, meth, c⟩ := G
  intro F h1 h2 H ls locs hP hS hl
  obtain ⟨hx, hb, hml, ho, hts, hlk, hrt, hK, hST, hsz, hfr, hlo, hce, hse, hin⟩ := id F
  rw [hY] at ho
  exact va_ldcS hx hb ho hST.2.2.1 hd (kk F h1 h2 H ls locs hP hS hl)
end
