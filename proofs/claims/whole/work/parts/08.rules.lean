section
variable {w : zWo} {Y : zY} {B : zR} {G : zG} {E : Option zQ} {pc q : Nat} {loc loc' : List (Nat × Value)} {st : List Value} {S : List zSh} {M : zMI} {L : zML} {R : zMR}
theorem zat {loc : List (Nat × Value)} {j i : Nat} {v : Value} {w : zWo} (h : loc[j]? = some (i, v)) : (loc.map (fun q => (q.1, zv w q.2)))[j]? = some (i, zv w v) := by simp [h]
theorem zfil1 {loc : List (Nat × Value)} {i : Nat} {v : Value} {w : zWo} (h : (i, v) :: loc.filter (fun q => !(q.1 == i) && !(q.1 + 1 == i && q.2.category == 2)) = loc') :
    (i, zv w v) :: (loc.map (fun q => (q.1, zv w q.2))).filter (fun q => !(q.1 == i) && !(q.1 + 1 == i && q.2.category == 2)) = loc'.map (fun q => (q.1, zv w q.2)) := by
  subst h
  simp only [List.map_cons, List.filter_map, Function.comp_def, zv_cat]
theorem zfil2 {loc : List (Nat × Value)} {i : Nat} {v : Value} {w : zWo} (h : (i, v) :: loc.filter (fun q => !(q.1 == i) && (!(q.1 == i + 1) && !(q.1 + 1 == i && q.2.category == 2))) = loc') :
    (i, zv w v) :: (loc.map (fun q => (q.1, zv w q.2))).filter (fun q => !(q.1 == i) && (!(q.1 == i + 1) && !(q.1 + 1 == i && q.2.category == 2))) = loc'.map (fun q => (q.1, zv w q.2)) := by
  subst h
  simp only [List.map_cons, List.filter_map, Function.comp_def, zv_cat]
theorem WP.sub (ks : List Nat) (h : lv_pick loc ks = loc') (k : WP w Y B G E pc loc' st S M L R) : WP w Y B G E pc loc st S M L R := by
  obtain ⟨p, l, e, Rm, s, m, args, below, meth, c⟩ := G
  intro F h1 h2 H ls locs hP hS hl
  refine k F h1 h2 H ls locs hP hS (lv_sub hl ks ?_)
  subst h
  simp only [lv_pick, List.getElem?_map, List.map_filterMap]

theorem wp_iconst {n : Int} {v : Int32} (hd : decode Y.2.1 pc = .ok (.iconst n, 1)) (hv : Int32.ofInt n = v) (hq : pc + 1 = q) (k : WP w Y B G E q loc (.int v :: st) S M L R) : WP w Y B G E pc loc st S M L R := by
  obtain ⟨p, l, e, Rm, s, m, args, below, meth, c⟩ := G
  subst hq
  intro F h1 h2 H ls locs hP hS hl
  obtain ⟨hx, hb, hml, ho, hts, hlk, hrt, hK, hST, hsz, hfr, hlo, hce, hse, hin⟩ := id F
  exact lv_iconst hx hb hd hv (k F h1 h2 H ls locs hP hS hl)

theorem wp_bipush {n : Int} {v : Int32} (hd : decode Y.2.1 pc = .ok (.bipush n, 2)) (hv : (Int8.ofInt n).toInt32 = v) (hq : pc + 2 = q) (k : WP w Y B G E q loc (.int v :: st) S M L R) : WP w Y B G E pc loc st S M L R := by
  obtain ⟨p, l, e, Rm, s, m, args, below, meth, c⟩ := G
  subst hq
  intro F h1 h2 H ls locs hP hS hl
  obtain ⟨hx, hb, hml, ho, hts, hlk, hrt, hK, hST, hsz, hfr, hlo, hce, hse, hin⟩ := id F
  exact lv_bipush hx hb hd hv (k F h1 h2 H ls locs hP hS hl)

theorem wp_sipush {n : Int} {v : Int32} (hd : decode Y.2.1 pc = .ok (.sipush n, 3)) (hv : (Int16.ofInt n).toInt32 = v) (hq : pc + 3 = q) (k : WP w Y B G E q loc (.int v :: st) S M L R) : WP w Y B G E pc loc st S M L R := by
  obtain ⟨p, l, e, Rm, s, m, args, below, meth, c⟩ := G
  subst hq
  intro F h1 h2 H ls locs hP hS hl
  obtain ⟨hx, hb, hml, ho, hts, hlk, hrt, hK, hST, hsz, hfr, hlo, hce, hse, hin⟩ := id F
  exact lv_sipush hx hb hd hv (k F h1 h2 H ls locs hP hS hl)

theorem wp_lconst {n : Fin 2} {v : Int64} (hd : decode Y.2.1 pc = .ok (.lconst n, 1)) (hv : Int64.ofNat (n : Nat) = v) (hq : pc + 1 = q) (k : WP w Y B G E q loc (.long v :: st) S M L R) : WP w Y B G E pc loc st S M L R := by
  obtain ⟨p, l, e, Rm, s, m, args, below, meth, c⟩ := G
  subst hq
  intro F h1 h2 H ls locs hP hS hl
  obtain ⟨hx, hb, hml, ho, hts, hlk, hrt, hK, hST, hsz, hfr, hlo, hce, hse, hin⟩ := id F
  exact lv_lconst hx hb hd hv (k F h1 h2 H ls locs hP hS hl)

theorem wp_ldc {n : Nat} {v : Int32} (hd : decode Y.2.1 pc = .ok (.ldc n, 2)) (hc : Cond.constant Y.1 n v ∈ lw_g) (hq : pc + 2 = q) (k : WP w Y B G E q loc (.int v :: st) S M L R) : WP w Y B G E pc loc st S M L R := by
  obtain ⟨p, l, e, Rm, s, m, args, below, meth, c⟩ := G
  subst hq
  intro F h1 h2 H ls locs hP hS hl
  obtain ⟨hx, hb, hml, ho, hts, hlk, hrt, hK, hST, hsz, hfr, hlo, hce, hse, hin⟩ := id F
  exact lv_ldc hx hb ho (hts _ hc) hd (k F h1 h2 H ls locs hP hS hl)

theorem wp_ldc_w {n : Nat} {v : Int32} (hd : decode Y.2.1 pc = .ok (.ldc_w n, 3)) (hc : Cond.constant Y.1 n v ∈ lw_g) (hq : pc + 3 = q) (k : WP w Y B G E q loc (.int v :: st) S M L R) : WP w Y B G E pc loc st S M L R := by
  obtain ⟨p, l, e, Rm, s, m, args, below, meth, c⟩ := G
  subst hq
  intro F h1 h2 H ls locs hP hS hl
  obtain ⟨hx, hb, hml, ho, hts, hlk, hrt, hK, hST, hsz, hfr, hlo, hce, hse, hin⟩ := id F
  exact lv_ldcw hx hb ho (hts _ hc) hd (k F h1 h2 H ls locs hP hS hl)

theorem wp_ldc2_w {n : Nat} {v : Int64} (hd : decode Y.2.1 pc = .ok (.ldc2_w n, 3)) (hc : Cond.constantLong Y.1 n v ∈ lw_g) (hq : pc + 3 = q) (k : WP w Y B G E q loc (.long v :: st) S M L R) : WP w Y B G E pc loc st S M L R := by
  obtain ⟨p, l, e, Rm, s, m, args, below, meth, c⟩ := G
  subst hq
  intro F h1 h2 H ls locs hP hS hl
  obtain ⟨hx, hb, hml, ho, hts, hlk, hrt, hK, hST, hsz, hfr, hlo, hce, hse, hin⟩ := id F
  exact lv_ldc2 hx hb ho (hts _ hc) hd (k F h1 h2 H ls locs hP hS hl)

theorem wp_iload_n {k : Fin 4} {x : Int32} (hd : decode Y.2.1 pc = .ok (.iload_n k, 1)) (j : Nat) (h : loc[j]? = some ((k : Nat), .int x)) (hq : pc + 1 = q) (k : WP w Y B G E q loc (.int x :: st) S M L R) : WP w Y B G E pc loc st S M L R := by
  obtain ⟨p, l, e, Rm, s, m, args, below, meth, c⟩ := G
  subst hq
  intro F h1 h2 H ls locs hP hS hl
  obtain ⟨hx, hb, hml, ho, hts, hlk, hrt, hK, hST, hsz, hfr, hlo, hce, hse, hin⟩ := id F
  exact lv_iload_n hx hb hd rfl (lv_at hl j (zat h)) (k F h1 h2 H ls locs hP hS hl)

theorem wp_iload {i : Nat} {x : Int32} (hd : decode Y.2.1 pc = .ok (.iload i, 2)) (j : Nat) (h : loc[j]? = some (i, .int x)) (hq : pc + 2 = q) (k : WP w Y B G E q loc (.int x :: st) S M L R) : WP w Y B G E pc loc st S M L R := by
  obtain ⟨p, l, e, Rm, s, m, args, below, meth, c⟩ := G
  subst hq
  intro F h1 h2 H ls locs hP hS hl
  obtain ⟨hx, hb, hml, ho, hts, hlk, hrt, hK, hST, hsz, hfr, hlo, hce, hse, hin⟩ := id F
  exact lv_iload hx hb hd (lv_at hl j (zat h)) (k F h1 h2 H ls locs hP hS hl)

theorem wp_lload_n {k : Fin 4} {x : Int64} (hd : decode Y.2.1 pc = .ok (.lload_n k, 1)) (j : Nat) (h : loc[j]? = some ((k : Nat), .long x)) (hq : pc + 1 = q) (k : WP w Y B G E q loc (.long x :: st) S M L R) : WP w Y B G E pc loc st S M L R := by
  obtain ⟨p, l, e, Rm, s, m, args, below, meth, c⟩ := G
  subst hq
  intro F h1 h2 H ls locs hP hS hl
  obtain ⟨hx, hb, hml, ho, hts, hlk, hrt, hK, hST, hsz, hfr, hlo, hce, hse, hin⟩ := id F
  exact lv_lload_n hx hb hd rfl (lv_at hl j (zat h)) (k F h1 h2 H ls locs hP hS hl)

theorem wp_lload {i : Nat} {x : Int64} (hd : decode Y.2.1 pc = .ok (.lload i, 2)) (j : Nat) (h : loc[j]? = some (i, .long x)) (hq : pc + 2 = q) (k : WP w Y B G E q loc (.long x :: st) S M L R) : WP w Y B G E pc loc st S M L R := by
  obtain ⟨p, l, e, Rm, s, m, args, below, meth, c⟩ := G
  subst hq
  intro F h1 h2 H ls locs hP hS hl
  obtain ⟨hx, hb, hml, ho, hts, hlk, hrt, hK, hST, hsz, hfr, hlo, hce, hse, hin⟩ := id F
  exact lv_lload hx hb hd (lv_at hl j (zat h)) (k F h1 h2 H ls locs hP hS hl)

theorem wp_aload_n {k : Fin 4} {x : Nat} (hd : decode Y.2.1 pc = .ok (.aload_n k, 1)) (j : Nat) (h : loc[j]? = some ((k : Nat), .ref x)) (hq : pc + 1 = q) (k : WP w Y B G E q loc (.ref x :: st) S M L R) : WP w Y B G E pc loc st S M L R := by
  obtain ⟨p, l, e, Rm, s, m, args, below, meth, c⟩ := G
  subst hq
  intro F h1 h2 H ls locs hP hS hl
  obtain ⟨hx, hb, hml, ho, hts, hlk, hrt, hK, hST, hsz, hfr, hlo, hce, hse, hin⟩ := id F
  exact lv_aload_n hx hb hd rfl (lv_at hl j (zat h)) (k F h1 h2 H ls locs hP hS hl)

theorem wp_aload {i : Nat} {x : Nat} (hd : decode Y.2.1 pc = .ok (.aload i, 2)) (j : Nat) (h : loc[j]? = some (i, .ref x)) (hq : pc + 2 = q) (k : WP w Y B G E q loc (.ref x :: st) S M L R) : WP w Y B G E pc loc st S M L R := by
  obtain ⟨p, l, e, Rm, s, m, args, below, meth, c⟩ := G
  subst hq
  intro F h1 h2 H ls locs hP hS hl
  obtain ⟨hx, hb, hml, ho, hts, hlk, hrt, hK, hST, hsz, hfr, hlo, hce, hse, hin⟩ := id F
  exact lv_aload hx hb hd (lv_at hl j (zat h)) (k F h1 h2 H ls locs hP hS hl)

theorem wp_aload_nS {k : Fin 4} {x : UInt32} (hd : decode Y.2.1 pc = .ok (.aload_n k, 1)) (j : Nat) (h : loc[j]? = some ((k : Nat), .float x)) (hq : pc + 1 = q) (k : WP w Y B G E q loc (.float x :: st) S M L R) : WP w Y B G E pc loc st S M L R := by
  obtain ⟨p, l, e, Rm, s, m, args, below, meth, c⟩ := G
  subst hq
  intro F h1 h2 H ls locs hP hS hl
  obtain ⟨hx, hb, hml, ho, hts, hlk, hrt, hK, hST, hsz, hfr, hlo, hce, hse, hin⟩ := id F
  exact lv_aload_n hx hb hd rfl (lv_at hl j (zat h)) (k F h1 h2 H ls locs hP hS hl)

theorem wp_istore_n {k : Fin 4} {x : Int32} {i : Nat} (hd : decode Y.2.1 pc = .ok (.istore_n k, 1)) (hi : (k : Nat) = i) (hn : i < Y.2.2.1) (h : (i, (.int x : Value)) :: loc.filter (fun q => !(q.1 == i) && !(q.1 + 1 == i && q.2.category == 2)) = loc') (hq : pc + 1 = q) (k : WP w Y B G E q loc' st S M L R) : WP w Y B G E pc loc (.int x :: st) S M L R := by
  obtain ⟨p, l, e, Rm, s, m, args, below, meth, c⟩ := G
  subst hq
  intro F h1 h2 H ls locs hP hS hl
  obtain ⟨hx, hb, hml, ho, hts, hlk, hrt, hK, hST, hsz, hfr, hlo, hce, hse, hin⟩ := id F
  exact lv_istore_n hx hb hd hi hl hn (zfil1 h) (fun ls hl => (k F h1 h2 H ls locs hP hS hl))

theorem wp_istore {i : Nat} {x : Int32} (hd : decode Y.2.1 pc = .ok (.istore i, 2)) (hn : i < Y.2.2.1) (h : (i, (.int x : Value)) :: loc.filter (fun q => !(q.1 == i) && !(q.1 + 1 == i && q.2.category == 2)) = loc') (hq : pc + 2 = q) (k : WP w Y B G E q loc' st S M L R) : WP w Y B G E pc loc (.int x :: st) S M L R := by
  obtain ⟨p, l, e, Rm, s, m, args, below, meth, c⟩ := G
  subst hq
  intro F h1 h2 H ls locs hP hS hl
  obtain ⟨hx, hb, hml, ho, hts, hlk, hrt, hK, hST, hsz, hfr, hlo, hce, hse, hin⟩ := id F
  exact lv_istore hx hb hd hl hn (zfil1 h) (fun ls hl => (k F h1 h2 H ls locs hP hS hl))

theorem wp_lstore_n {k : Fin 4} {x : Int64} {i : Nat} (hd : decode Y.2.1 pc = .ok (.lstore_n k, 1)) (hi : (k : Nat) = i) (hn : i + 1 < Y.2.2.1) (h : (i, (.long x : Value)) :: loc.filter (fun q => !(q.1 == i) && (!(q.1 == i + 1) && !(q.1 + 1 == i && q.2.category == 2))) = loc') (hq : pc + 1 = q) (k : WP w Y B G E q loc' st S M L R) : WP w Y B G E pc loc (.long x :: st) S M L R := by
  obtain ⟨p, l, e, Rm, s, m, args, below, meth, c⟩ := G
  subst hq
  intro F h1 h2 H ls locs hP hS hl
  obtain ⟨hx, hb, hml, ho, hts, hlk, hrt, hK, hST, hsz, hfr, hlo, hce, hse, hin⟩ := id F
  exact lv_lstore_n hx hb hd hi hl hn (zfil2 h) (fun ls hl => (k F h1 h2 H ls locs hP hS hl))

theorem wp_lstore {i : Nat} {x : Int64} (hd : decode Y.2.1 pc = .ok (.lstore i, 2)) (hn : i + 1 < Y.2.2.1) (h : (i, (.long x : Value)) :: loc.filter (fun q => !(q.1 == i) && (!(q.1 == i + 1) && !(q.1 + 1 == i && q.2.category == 2))) = loc') (hq : pc + 2 = q) (k : WP w Y B G E q loc' st S M L R) : WP w Y B G E pc loc (.long x :: st) S M L R := by
  obtain ⟨p, l, e, Rm, s, m, args, below, meth, c⟩ := G
  subst hq
  intro F h1 h2 H ls locs hP hS hl
  obtain ⟨hx, hb, hml, ho, hts, hlk, hrt, hK, hST, hsz, hfr, hlo, hce, hse, hin⟩ := id F
  exact lv_lstore hx hb hd hl hn (zfil2 h) (fun ls hl => (k F h1 h2 H ls locs hP hS hl))

theorem wp_astore_n {k : Fin 4} {x : Nat} {i : Nat} (hd : decode Y.2.1 pc = .ok (.astore_n k, 1)) (hi : (k : Nat) = i) (hn : i < Y.2.2.1) (h : (i, (.ref x : Value)) :: loc.filter (fun q => !(q.1 == i) && !(q.1 + 1 == i && q.2.category == 2)) = loc') (hq : pc + 1 = q) (k : WP w Y B G E q loc' st S M L R) : WP w Y B G E pc loc (.ref x :: st) S M L R := by
  obtain ⟨p, l, e, Rm, s, m, args, below, meth, c⟩ := G
  subst hq
  intro F h1 h2 H ls locs hP hS hl
  obtain ⟨hx, hb, hml, ho, hts, hlk, hrt, hK, hST, hsz, hfr, hlo, hce, hse, hin⟩ := id F
  exact lv_astore_n hx hb hd hi hl hn (zfil1 h) (fun ls hl => (k F h1 h2 H ls locs hP hS hl))

theorem wp_iinc {i : Nat} {n : Int} {x v : Int32} (hd : decode Y.2.1 pc = .ok (.iinc i n, 3)) (j : Nat) (hj : loc[j]? = some (i, .int x)) (hv : x + Int32.ofInt n = v) (hn : i < Y.2.2.1) (h : (i, (.int v : Value)) :: loc.filter (fun q => !(q.1 == i) && !(q.1 + 1 == i && q.2.category == 2)) = loc') (hq : pc + 3 = q) (k : WP w Y B G E q loc' st S M L R) : WP w Y B G E pc loc st S M L R := by
  obtain ⟨p, l, e, Rm, s, m, args, below, meth, c⟩ := G
  subst hq
  intro F h1 h2 H ls locs hP hS hl
  obtain ⟨hx, hb, hml, ho, hts, hlk, hrt, hK, hST, hsz, hfr, hlo, hce, hse, hin⟩ := id F
  exact lv_iinc (k := j) hx hb hd hl (zat hj) hv hn (zfil1 h) (fun ls hl => (k F h1 h2 H ls locs hP hS hl))

theorem wp_iadd {x y : Int32} (hd : decode Y.2.1 pc = .ok (.iadd, 1)) (hq : pc + 1 = q) (k : WP w Y B G E q loc (.int (x + y) :: st) S M L R) : WP w Y B G E pc loc (.int y :: .int x :: st) S M L R := by
  obtain ⟨p, l, e, Rm, s, m, args, below, meth, c⟩ := G
  subst hq
  intro F h1 h2 H ls locs hP hS hl
  obtain ⟨hx, hb, hml, ho, hts, hlk, hrt, hK, hST, hsz, hfr, hlo, hce, hse, hin⟩ := id F
  exact lv_iadd hx hb hd (k F h1 h2 H ls locs hP hS hl)

theorem wp_isub {x y : Int32} (hd : decode Y.2.1 pc = .ok (.isub, 1)) (hq : pc + 1 = q) (k : WP w Y B G E q loc (.int (x - y) :: st) S M L R) : WP w Y B G E pc loc (.int y :: .int x :: st) S M L R := by
  obtain ⟨p, l, e, Rm, s, m, args, below, meth, c⟩ := G
  subst hq
  intro F h1 h2 H ls locs hP hS hl
  obtain ⟨hx, hb, hml, ho, hts, hlk, hrt, hK, hST, hsz, hfr, hlo, hce, hse, hin⟩ := id F
  exact lv_isub hx hb hd (k F h1 h2 H ls locs hP hS hl)

theorem wp_imul {x y : Int32} (hd : decode Y.2.1 pc = .ok (.imul, 1)) (hq : pc + 1 = q) (k : WP w Y B G E q loc (.int (x * y) :: st) S M L R) : WP w Y B G E pc loc (.int y :: .int x :: st) S M L R := by
  obtain ⟨p, l, e, Rm, s, m, args, below, meth, c⟩ := G
  subst hq
  intro F h1 h2 H ls locs hP hS hl
  obtain ⟨hx, hb, hml, ho, hts, hlk, hrt, hK, hST, hsz, hfr, hlo, hce, hse, hin⟩ := id F
  exact lv_imul hx hb hd (k F h1 h2 H ls locs hP hS hl)

theorem wp_iand {x y : Int32} (hd : decode Y.2.1 pc = .ok (.iand, 1)) (hq : pc + 1 = q) (k : WP w Y B G E q loc (.int (x &&& y) :: st) S M L R) : WP w Y B G E pc loc (.int y :: .int x :: st) S M L R := by
  obtain ⟨p, l, e, Rm, s, m, args, below, meth, c⟩ := G
  subst hq
  intro F h1 h2 H ls locs hP hS hl
  obtain ⟨hx, hb, hml, ho, hts, hlk, hrt, hK, hST, hsz, hfr, hlo, hce, hse, hin⟩ := id F
  exact lv_iand hx hb hd (k F h1 h2 H ls locs hP hS hl)

theorem wp_ior {x y : Int32} (hd : decode Y.2.1 pc = .ok (.ior, 1)) (hq : pc + 1 = q) (k : WP w Y B G E q loc (.int (x ||| y) :: st) S M L R) : WP w Y B G E pc loc (.int y :: .int x :: st) S M L R := by
  obtain ⟨p, l, e, Rm, s, m, args, below, meth, c⟩ := G
  subst hq
  intro F h1 h2 H ls locs hP hS hl
  obtain ⟨hx, hb, hml, ho, hts, hlk, hrt, hK, hST, hsz, hfr, hlo, hce, hse, hin⟩ := id F
  exact lv_ior hx hb hd (k F h1 h2 H ls locs hP hS hl)

theorem wp_ixor {x y : Int32} (hd : decode Y.2.1 pc = .ok (.ixor, 1)) (hq : pc + 1 = q) (k : WP w Y B G E q loc (.int (x ^^^ y) :: st) S M L R) : WP w Y B G E pc loc (.int y :: .int x :: st) S M L R := by
  obtain ⟨p, l, e, Rm, s, m, args, below, meth, c⟩ := G
  subst hq
  intro F h1 h2 H ls locs hP hS hl
  obtain ⟨hx, hb, hml, ho, hts, hlk, hrt, hK, hST, hsz, hfr, hlo, hce, hse, hin⟩ := id F
  exact lv_ixor hx hb hd (k F h1 h2 H ls locs hP hS hl)

theorem wp_ishl {x y : Int32} (hd : decode Y.2.1 pc = .ok (.ishl, 1)) (hq : pc + 1 = q) (k : WP w Y B G E q loc (.int (x <<< (y &&& 31)) :: st) S M L R) : WP w Y B G E pc loc (.int y :: .int x :: st) S M L R := by
  obtain ⟨p, l, e, Rm, s, m, args, below, meth, c⟩ := G
  subst hq
  intro F h1 h2 H ls locs hP hS hl
  obtain ⟨hx, hb, hml, ho, hts, hlk, hrt, hK, hST, hsz, hfr, hlo, hce, hse, hin⟩ := id F
  exact lv_ishl hx hb hd (k F h1 h2 H ls locs hP hS hl)

theorem wp_ishr {x y : Int32} (hd : decode Y.2.1 pc = .ok (.ishr, 1)) (hq : pc + 1 = q) (k : WP w Y B G E q loc (.int (x >>> (y &&& 31)) :: st) S M L R) : WP w Y B G E pc loc (.int y :: .int x :: st) S M L R := by
  obtain ⟨p, l, e, Rm, s, m, args, below, meth, c⟩ := G
  subst hq
  intro F h1 h2 H ls locs hP hS hl
  obtain ⟨hx, hb, hml, ho, hts, hlk, hrt, hK, hST, hsz, hfr, hlo, hce, hse, hin⟩ := id F
  exact lv_ishr hx hb hd (k F h1 h2 H ls locs hP hS hl)

theorem wp_ladd {x y : Int64} (hd : decode Y.2.1 pc = .ok (.ladd, 1)) (hq : pc + 1 = q) (k : WP w Y B G E q loc (.long (x + y) :: st) S M L R) : WP w Y B G E pc loc (.long y :: .long x :: st) S M L R := by
  obtain ⟨p, l, e, Rm, s, m, args, below, meth, c⟩ := G
  subst hq
  intro F h1 h2 H ls locs hP hS hl
  obtain ⟨hx, hb, hml, ho, hts, hlk, hrt, hK, hST, hsz, hfr, hlo, hce, hse, hin⟩ := id F
  exact lv_ladd hx hb hd (k F h1 h2 H ls locs hP hS hl)

theorem wp_lsub {x y : Int64} (hd : decode Y.2.1 pc = .ok (.lsub, 1)) (hq : pc + 1 = q) (k : WP w Y B G E q loc (.long (x - y) :: st) S M L R) : WP w Y B G E pc loc (.long y :: .long x :: st) S M L R := by
  obtain ⟨p, l, e, Rm, s, m, args, below, meth, c⟩ := G
  subst hq
  intro F h1 h2 H ls locs hP hS hl
  obtain ⟨hx, hb, hml, ho, hts, hlk, hrt, hK, hST, hsz, hfr, hlo, hce, hse, hin⟩ := id F
  exact lv_lsub hx hb hd (k F h1 h2 H ls locs hP hS hl)

theorem wp_lmul {x y : Int64} (hd : decode Y.2.1 pc = .ok (.lmul, 1)) (hq : pc + 1 = q) (k : WP w Y B G E q loc (.long (x * y) :: st) S M L R) : WP w Y B G E pc loc (.long y :: .long x :: st) S M L R := by
  obtain ⟨p, l, e, Rm, s, m, args, below, meth, c⟩ := G
  subst hq
  intro F h1 h2 H ls locs hP hS hl
  obtain ⟨hx, hb, hml, ho, hts, hlk, hrt, hK, hST, hsz, hfr, hlo, hce, hse, hin⟩ := id F
  exact lv_lmul hx hb hd (k F h1 h2 H ls locs hP hS hl)

theorem wp_idiv {x y : Int32} (hd : decode Y.2.1 pc = .ok (.idiv, 1)) (hne : ¬ y = 0) (hq : pc + 1 = q) (k : WP w Y B G E q loc (.int (x / y) :: st) S M L R) : WP w Y B G E pc loc (.int y :: .int x :: st) S M L R := by
  obtain ⟨p, l, e, Rm, s, m, args, below, meth, c⟩ := G
  subst hq
  intro F h1 h2 H ls locs hP hS hl
  obtain ⟨hx, hb, hml, ho, hts, hlk, hrt, hK, hST, hsz, hfr, hlo, hce, hse, hin⟩ := id F
  exact lv_idiv hx hb hd hne (k F h1 h2 H ls locs hP hS hl)

theorem wp_irem {x y : Int32} (hd : decode Y.2.1 pc = .ok (.irem, 1)) (hne : ¬ y = 0) (hq : pc + 1 = q) (k : WP w Y B G E q loc (.int (x - x / y * y) :: st) S M L R) : WP w Y B G E pc loc (.int y :: .int x :: st) S M L R := by
  obtain ⟨p, l, e, Rm, s, m, args, below, meth, c⟩ := G
  subst hq
  intro F h1 h2 H ls locs hP hS hl
  obtain ⟨hx, hb, hml, ho, hts, hlk, hrt, hK, hST, hsz, hfr, hlo, hce, hse, hin⟩ := id F
  exact lv_irem hx hb hd hne (k F h1 h2 H ls locs hP hS hl)

theorem wp_ldiv {x y : Int64} (hd : decode Y.2.1 pc = .ok (.ldiv, 1)) (hne : ¬ y = 0) (hq : pc + 1 = q) (k : WP w Y B G E q loc (.long (x / y) :: st) S M L R) : WP w Y B G E pc loc (.long y :: .long x :: st) S M L R := by
  obtain ⟨p, l, e, Rm, s, m, args, below, meth, c⟩ := G
  subst hq
  intro F h1 h2 H ls locs hP hS hl
  obtain ⟨hx, hb, hml, ho, hts, hlk, hrt, hK, hST, hsz, hfr, hlo, hce, hse, hin⟩ := id F
  exact lv_ldiv hx hb hd hne (k F h1 h2 H ls locs hP hS hl)

theorem wp_lrem {x y : Int64} (hd : decode Y.2.1 pc = .ok (.lrem, 1)) (hne : ¬ y = 0) (hq : pc + 1 = q) (k : WP w Y B G E q loc (.long (x - x / y * y) :: st) S M L R) : WP w Y B G E pc loc (.long y :: .long x :: st) S M L R := by
  obtain ⟨p, l, e, Rm, s, m, args, below, meth, c⟩ := G
  subst hq
  intro F h1 h2 H ls locs hP hS hl
  obtain ⟨hx, hb, hml, ho, hts, hlk, hrt, hK, hST, hsz, hfr, hlo, hce, hse, hin⟩ := id F
  exact lv_lrem hx hb hd hne (k F h1 h2 H ls locs hP hS hl)

theorem wp_ineg {x : Int32} (hd : decode Y.2.1 pc = .ok (.ineg, 1)) (hq : pc + 1 = q) (k : WP w Y B G E q loc (.int (-x) :: st) S M L R) : WP w Y B G E pc loc (.int x :: st) S M L R := by
  obtain ⟨p, l, e, Rm, s, m, args, below, meth, c⟩ := G
  subst hq
  intro F h1 h2 H ls locs hP hS hl
  obtain ⟨hx, hb, hml, ho, hts, hlk, hrt, hK, hST, hsz, hfr, hlo, hce, hse, hin⟩ := id F
  exact lv_ineg hx hb hd (k F h1 h2 H ls locs hP hS hl)

theorem wp_iushr {x y : Int32} (hd : decode Y.2.1 pc = .ok (.iushr, 1)) (hq : pc + 1 = q) (k : WP w Y B G E q loc (.int ((x.toUInt32 >>> (y.toUInt32 &&& Int32.toUInt32 31)).toInt32) :: st) S M L R) : WP w Y B G E pc loc (.int y :: .int x :: st) S M L R := by
  obtain ⟨p, l, e, Rm, s, m, args, below, meth, c⟩ := G
  subst hq
  intro F h1 h2 H ls locs hP hS hl
  obtain ⟨hx, hb, hml, ho, hts, hlk, hrt, hK, hST, hsz, hfr, hlo, hce, hse, hin⟩ := id F
  exact lv_iushr hx hb hd rfl (k F h1 h2 H ls locs hP hS hl)

theorem wp_i2l {x : Int32} (hd : decode Y.2.1 pc = .ok (.i2l, 1)) (hq : pc + 1 = q) (k : WP w Y B G E q loc (.long x.toInt64 :: st) S M L R) : WP w Y B G E pc loc (.int x :: st) S M L R := by
  obtain ⟨p, l, e, Rm, s, m, args, below, meth, c⟩ := G
  subst hq
  intro F h1 h2 H ls locs hP hS hl
  obtain ⟨hx, hb, hml, ho, hts, hlk, hrt, hK, hST, hsz, hfr, hlo, hce, hse, hin⟩ := id F
  exact lv_i2l hx hb hd rfl (k F h1 h2 H ls locs hP hS hl)

theorem wp_l2i {x : Int64} (hd : decode Y.2.1 pc = .ok (.l2i, 1)) (hq : pc + 1 = q) (k : WP w Y B G E q loc (.int x.toInt32 :: st) S M L R) : WP w Y B G E pc loc (.long x :: st) S M L R := by
  obtain ⟨p, l, e, Rm, s, m, args, below, meth, c⟩ := G
  subst hq
  intro F h1 h2 H ls locs hP hS hl
  obtain ⟨hx, hb, hml, ho, hts, hlk, hrt, hK, hST, hsz, hfr, hlo, hce, hse, hin⟩ := id F
  exact lv_l2i hx hb hd rfl (k F h1 h2 H ls locs hP hS hl)

theorem wp_i2c {x : Int32} (hd : decode Y.2.1 pc = .ok (.i2c, 1)) (hq : pc + 1 = q) (k : WP w Y B G E q loc (.int (x.toUInt32 % 65536).toInt32 :: st) S M L R) : WP w Y B G E pc loc (.int x :: st) S M L R := by
  obtain ⟨p, l, e, Rm, s, m, args, below, meth, c⟩ := G
  subst hq
  intro F h1 h2 H ls locs hP hS hl
  obtain ⟨hx, hb, hml, ho, hts, hlk, hrt, hK, hST, hsz, hfr, hlo, hce, hse, hin⟩ := id F
  exact lv_i2c hx hb hd rfl (k F h1 h2 H ls locs hP hS hl)

theorem wp_lcmp {x y : Int64} (hd : decode Y.2.1 pc = .ok (.lcmp, 1)) (hq : pc + 1 = q) (k : WP w Y B G E q loc (.int (lg_cmp x y) :: st) S M L R) : WP w Y B G E pc loc (.long y :: .long x :: st) S M L R := by
  obtain ⟨p, l, e, Rm, s, m, args, below, meth, c⟩ := G
  subst hq
  intro F h1 h2 H ls locs hP hS hl
  obtain ⟨hx, hb, hml, ho, hts, hlk, hrt, hK, hST, hsz, hfr, hlo, hce, hse, hin⟩ := id F
  exact W.lcmp hx hb hd (k F h1 h2 H ls locs hP hS hl)

theorem wp_dup {v : Value} (hd : decode Y.2.1 pc = .ok (.dup, 1)) (hv : v.category = 1) (hq : pc + 1 = q) (k : WP w Y B G E q loc (v :: v :: st) S M L R) : WP w Y B G E pc loc (v :: st) S M L R := by
  obtain ⟨p, l, e, Rm, s, m, args, below, meth, c⟩ := G
  subst hq
  intro F h1 h2 H ls locs hP hS hl
  obtain ⟨hx, hb, hml, ho, hts, hlk, hrt, hK, hST, hsz, hfr, hlo, hce, hse, hin⟩ := id F
  exact lv_dup hx hb hd ((zv_cat w v).trans hv) (k F h1 h2 H ls locs hP hS hl)

theorem wp_pop {v : Value} (hd : decode Y.2.1 pc = .ok (.pop, 1)) (hv : v.category = 1) (hq : pc + 1 = q) (k : WP w Y B G E q loc st S M L R) : WP w Y B G E pc loc (v :: st) S M L R := by
  obtain ⟨p, l, e, Rm, s, m, args, below, meth, c⟩ := G
  subst hq
  intro F h1 h2 H ls locs hP hS hl
  obtain ⟨hx, hb, hml, ho, hts, hlk, hrt, hK, hST, hsz, hfr, hlo, hce, hse, hin⟩ := id F
  exact lv_pop hx hb hd ((zv_cat w v).trans hv) (k F h1 h2 H ls locs hP hS hl)

theorem wp_dup2 {u v : Value} (hd : decode Y.2.1 pc = .ok (.dup2, 1)) (hu : u.category = 1) (hv : v.category = 1) (hq : pc + 1 = q) (k : WP w Y B G E q loc (u :: v :: u :: v :: st) S M L R) : WP w Y B G E pc loc (u :: v :: st) S M L R := by
  obtain ⟨p, l, e, Rm, s, m, args, below, meth, c⟩ := G
  subst hq
  intro F h1 h2 H ls locs hP hS hl
  obtain ⟨hx, hb, hml, ho, hts, hlk, hrt, hK, hST, hsz, hfr, hlo, hce, hse, hin⟩ := id F
  exact lv_dup2_11 hx hb hd ((zv_cat w u).trans hu) ((zv_cat w v).trans hv) (k F h1 h2 H ls locs hP hS hl)

theorem wp_dup2L {v : Value} (hd : decode Y.2.1 pc = .ok (.dup2, 1)) (hv : v.category = 2) (hq : pc + 1 = q) (k : WP w Y B G E q loc (v :: v :: st) S M L R) : WP w Y B G E pc loc (v :: st) S M L R := by
  obtain ⟨p, l, e, Rm, s, m, args, below, meth, c⟩ := G
  subst hq
  intro F h1 h2 H ls locs hP hS hl
  obtain ⟨hx, hb, hml, ho, hts, hlk, hrt, hK, hST, hsz, hfr, hlo, hce, hse, hin⟩ := id F
  exact lv_dup2_2 hx hb hd ((zv_cat w v).trans hv) (k F h1 h2 H ls locs hP hS hl)

theorem wp_if_eq {x : Int32} {off : Int} {tgt : Nat} (hd : decode Y.2.1 pc = .ok (.ifCond .eq off, 3)) (ht : (pc : Int) + off = (tgt : Int)) (hq : pc + 3 = q) (kt : x = 0 → WP w Y B G E tgt loc st S M L R) (kf : ¬ x = 0 → WP w Y B G E q loc st S M L R) : WP w Y B G E pc loc (.int x :: st) S M L R := by
  obtain ⟨p, l, e, Rm, s, m, args, below, meth, c⟩ := G
  subst hq
  intro F h1 h2 H ls locs hP hS hl
  exact lv_if_eq F.1 F.2.1 hd ht (fun hh => kt hh F h1 h2 H ls locs hP hS hl) (fun hh => kf hh F h1 h2 H ls locs hP hS hl)

theorem wp_icmp_eq {x y : Int32} {off : Int} {tgt : Nat} (hd : decode Y.2.1 pc = .ok (.if_icmp .eq off, 3)) (ht : (pc : Int) + off = (tgt : Int)) (hq : pc + 3 = q) (kt : x = y → WP w Y B G E tgt loc st S M L R) (kf : ¬ x = y → WP w Y B G E q loc st S M L R) : WP w Y B G E pc loc (.int y :: .int x :: st) S M L R := by
  obtain ⟨p, l, e, Rm, s, m, args, below, meth, c⟩ := G
  subst hq
  intro F h1 h2 H ls locs hP hS hl
  exact lv_icmp_eq F.1 F.2.1 hd ht (fun hh => kt hh F h1 h2 H ls locs hP hS hl) (fun hh => kf hh F h1 h2 H ls locs hP hS hl)

theorem wp_if_ne {x : Int32} {off : Int} {tgt : Nat} (hd : decode Y.2.1 pc = .ok (.ifCond .ne off, 3)) (ht : (pc : Int) + off = (tgt : Int)) (hq : pc + 3 = q) (kt : ¬ x = 0 → WP w Y B G E tgt loc st S M L R) (kf : x = 0 → WP w Y B G E q loc st S M L R) : WP w Y B G E pc loc (.int x :: st) S M L R := by
  obtain ⟨p, l, e, Rm, s, m, args, below, meth, c⟩ := G
  subst hq
  intro F h1 h2 H ls locs hP hS hl
  exact lv_if_ne F.1 F.2.1 hd ht (fun hh => kt hh F h1 h2 H ls locs hP hS hl) (fun hh => kf hh F h1 h2 H ls locs hP hS hl)

theorem wp_icmp_ne {x y : Int32} {off : Int} {tgt : Nat} (hd : decode Y.2.1 pc = .ok (.if_icmp .ne off, 3)) (ht : (pc : Int) + off = (tgt : Int)) (hq : pc + 3 = q) (kt : ¬ x = y → WP w Y B G E tgt loc st S M L R) (kf : x = y → WP w Y B G E q loc st S M L R) : WP w Y B G E pc loc (.int y :: .int x :: st) S M L R := by
  obtain ⟨p, l, e, Rm, s, m, args, below, meth, c⟩ := G
  subst hq
  intro F h1 h2 H ls locs hP hS hl
  exact lv_icmp_ne F.1 F.2.1 hd ht (fun hh => kt hh F h1 h2 H ls locs hP hS hl) (fun hh => kf hh F h1 h2 H ls locs hP hS hl)

theorem wp_if_lt {x : Int32} {off : Int} {tgt : Nat} (hd : decode Y.2.1 pc = .ok (.ifCond .lt off, 3)) (ht : (pc : Int) + off = (tgt : Int)) (hq : pc + 3 = q) (kt : x < 0 → WP w Y B G E tgt loc st S M L R) (kf : ¬ x < 0 → WP w Y B G E q loc st S M L R) : WP w Y B G E pc loc (.int x :: st) S M L R := by
  obtain ⟨p, l, e, Rm, s, m, args, below, meth, c⟩ := G
  subst hq
  intro F h1 h2 H ls locs hP hS hl
  exact lv_if_lt F.1 F.2.1 hd ht (fun hh => kt hh F h1 h2 H ls locs hP hS hl) (fun hh => kf hh F h1 h2 H ls locs hP hS hl)

theorem wp_icmp_lt {x y : Int32} {off : Int} {tgt : Nat} (hd : decode Y.2.1 pc = .ok (.if_icmp .lt off, 3)) (ht : (pc : Int) + off = (tgt : Int)) (hq : pc + 3 = q) (kt : x < y → WP w Y B G E tgt loc st S M L R) (kf : ¬ x < y → WP w Y B G E q loc st S M L R) : WP w Y B G E pc loc (.int y :: .int x :: st) S M L R := by
  obtain ⟨p, l, e, Rm, s, m, args, below, meth, c⟩ := G
  subst hq
  intro F h1 h2 H ls locs hP hS hl
  exact lv_icmp_lt F.1 F.2.1 hd ht (fun hh => kt hh F h1 h2 H ls locs hP hS hl) (fun hh => kf hh F h1 h2 H ls locs hP hS hl)

theorem wp_if_ge {x : Int32} {off : Int} {tgt : Nat} (hd : decode Y.2.1 pc = .ok (.ifCond .ge off, 3)) (ht : (pc : Int) + off = (tgt : Int)) (hq : pc + 3 = q) (kt : 0 ≤ x → WP w Y B G E tgt loc st S M L R) (kf : ¬ 0 ≤ x → WP w Y B G E q loc st S M L R) : WP w Y B G E pc loc (.int x :: st) S M L R := by
  obtain ⟨p, l, e, Rm, s, m, args, below, meth, c⟩ := G
  subst hq
  intro F h1 h2 H ls locs hP hS hl
  exact lv_if_ge F.1 F.2.1 hd ht (fun hh => kt hh F h1 h2 H ls locs hP hS hl) (fun hh => kf hh F h1 h2 H ls locs hP hS hl)

theorem wp_icmp_ge {x y : Int32} {off : Int} {tgt : Nat} (hd : decode Y.2.1 pc = .ok (.if_icmp .ge off, 3)) (ht : (pc : Int) + off = (tgt : Int)) (hq : pc + 3 = q) (kt : y ≤ x → WP w Y B G E tgt loc st S M L R) (kf : ¬ y ≤ x → WP w Y B G E q loc st S M L R) : WP w Y B G E pc loc (.int y :: .int x :: st) S M L R := by
  obtain ⟨p, l, e, Rm, s, m, args, below, meth, c⟩ := G
  subst hq
  intro F h1 h2 H ls locs hP hS hl
  exact lv_icmp_ge F.1 F.2.1 hd ht (fun hh => kt hh F h1 h2 H ls locs hP hS hl) (fun hh => kf hh F h1 h2 H ls locs hP hS hl)

theorem wp_if_gt {x : Int32} {off : Int} {tgt : Nat} (hd : decode Y.2.1 pc = .ok (.ifCond .gt off, 3)) (ht : (pc : Int) + off = (tgt : Int)) (hq : pc + 3 = q) (kt : 0 < x → WP w Y B G E tgt loc st S M L R) (kf : ¬ 0 < x → WP w Y B G E q loc st S M L R) : WP w Y B G E pc loc (.int x :: st) S M L R := by
  obtain ⟨p, l, e, Rm, s, m, args, below, meth, c⟩ := G
  subst hq
  intro F h1 h2 H ls locs hP hS hl
  exact lv_if_gt F.1 F.2.1 hd ht (fun hh => kt hh F h1 h2 H ls locs hP hS hl) (fun hh => kf hh F h1 h2 H ls locs hP hS hl)

theorem wp_icmp_gt {x y : Int32} {off : Int} {tgt : Nat} (hd : decode Y.2.1 pc = .ok (.if_icmp .gt off, 3)) (ht : (pc : Int) + off = (tgt : Int)) (hq : pc + 3 = q) (kt : y < x → WP w Y B G E tgt loc st S M L R) (kf : ¬ y < x → WP w Y B G E q loc st S M L R) : WP w Y B G E pc loc (.int y :: .int x :: st) S M L R := by
  obtain ⟨p, l, e, Rm, s, m, args, below, meth, c⟩ := G
  subst hq
  intro F h1 h2 H ls locs hP hS hl
  exact lv_icmp_gt F.1 F.2.1 hd ht (fun hh => kt hh F h1 h2 H ls locs hP hS hl) (fun hh => kf hh F h1 h2 H ls locs hP hS hl)

theorem wp_if_le {x : Int32} {off : Int} {tgt : Nat} (hd : decode Y.2.1 pc = .ok (.ifCond .le off, 3)) (ht : (pc : Int) + off = (tgt : Int)) (hq : pc + 3 = q) (kt : x ≤ 0 → WP w Y B G E tgt loc st S M L R) (kf : ¬ x ≤ 0 → WP w Y B G E q loc st S M L R) : WP w Y B G E pc loc (.int x :: st) S M L R := by
  obtain ⟨p, l, e, Rm, s, m, args, below, meth, c⟩ := G
  subst hq
  intro F h1 h2 H ls locs hP hS hl
  exact lv_if_le F.1 F.2.1 hd ht (fun hh => kt hh F h1 h2 H ls locs hP hS hl) (fun hh => kf hh F h1 h2 H ls locs hP hS hl)

theorem wp_icmp_le {x y : Int32} {off : Int} {tgt : Nat} (hd : decode Y.2.1 pc = .ok (.if_icmp .le off, 3)) (ht : (pc : Int) + off = (tgt : Int)) (hq : pc + 3 = q) (kt : x ≤ y → WP w Y B G E tgt loc st S M L R) (kf : ¬ x ≤ y → WP w Y B G E q loc st S M L R) : WP w Y B G E pc loc (.int y :: .int x :: st) S M L R := by
  obtain ⟨p, l, e, Rm, s, m, args, below, meth, c⟩ := G
  subst hq
  intro F h1 h2 H ls locs hP hS hl
  exact lv_icmp_le F.1 F.2.1 hd ht (fun hh => kt hh F h1 h2 H ls locs hP hS hl) (fun hh => kf hh F h1 h2 H ls locs hP hS hl)

theorem wp_goto {off : Int} {tgt : Nat} (hd : decode Y.2.1 pc = .ok (.goto off, 3)) (ht : (pc : Int) + off = (tgt : Int)) (k : WP w Y B G E tgt loc st S M L R) : WP w Y B G E pc loc st S M L R := by
  obtain ⟨p, l, e, Rm, s, m, args, below, meth, c⟩ := G
  intro F h1 h2 H ls locs hP hS hl
  exact lv_goto F.1 F.2.1 hd ht (k F h1 h2 H ls locs hP hS hl)
theorem wp_tsOut {dflt lo hi : Int} {offs : Array Int} {len : Nat} {x : Int32} {tgt : Nat} (hd : decode Y.2.1 pc = .ok (.tableswitch dflt lo hi offs, len)) (h : x.toInt < lo ∨ hi < x.toInt) (ht : (pc : Int) + dflt = (tgt : Int)) (k : WP w Y B G E tgt loc st S M L R) : WP w Y B G E pc loc (.int x :: st) S M L R := by
  obtain ⟨p, l, e, Rm, s, m, args, below, meth, c⟩ := G
  intro F h1 h2 H ls locs hP hS hl
  exact lv_tableOut F.1 F.2.1 hd h ht (k F h1 h2 H ls locs hP hS hl)
theorem wp_tsIn {dflt lo hi : Int} {offs : Array Int} {len : Nat} {x : Int32} {off : Int} {tgt : Nat} (hd : decode Y.2.1 pc = .ok (.tableswitch dflt lo hi offs, len)) (h1 : ¬ x.toInt < lo) (h2 : ¬ hi < x.toInt) (ho : offs[(x.toInt - lo).toNat]? = some off) (ht : (pc : Int) + off = (tgt : Int)) (k : WP w Y B G E tgt loc st S M L R) : WP w Y B G E pc loc (.int x :: st) S M L R := by
  obtain ⟨p, l, e, Rm, s, m, args, below, meth, c⟩ := G
  intro F g1 g2 H ls locs hP hS hl
  exact lv_tableIn F.1 F.2.1 hd h1 h2 ho ht (k F g1 g2 H ls locs hP hS hl)
theorem wp_ls {dflt : Int} {ps : Array (Int × Int)} {len : Nat} {x : Int32} {off : Int} {tgt : Nat} (hd : decode Y.2.1 pc = .ok (.lookupswitch dflt ps, len)) (hp : (ps.toList.zip (ps.toList.drop 1)).all (fun (a, next) => a.1 < next.1) = true) (ho : Op.lookupswitch.offset ps.toList dflt x.toInt = off) (ht : (pc : Int) + off = (tgt : Int)) (k : WP w Y B G E tgt loc st S M L R) : WP w Y B G E pc loc (.int x :: st) S M L R := by
  obtain ⟨p, l, e, Rm, s, m, args, below, meth, c⟩ := G
  intro F g1 g2 H ls locs hP hS hl
  exact lv_lookup F.1 F.2.1 hd hp ho ht (k F g1 g2 H ls locs hP hS hl)
theorem wp_eq {st' : List Value} (h : st = st') (k : WP w Y B G E pc loc st' S M L R) : WP w Y B G E pc loc st S M L R := h ▸ k
end
