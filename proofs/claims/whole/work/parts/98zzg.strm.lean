def zSX (w : zWo) (U : State) (H : Heap) : Prop := ∃ v : Value, (v = .null ∨ v = .float 4) ∧ va_Z "jdk/internal/util/Preconditions" "SIOOBE_FORMATTER" "Ljava/util/function/BiFunction;" (zv w v) (zB w) U H
theorem zSX.moved {w : zWo} {u U : State} {H : Heap} (hvm : u.vm.Alike U.vm) (h : zSX w u H) : zSX w U H := by
  obtain ⟨v, hv, h⟩ := h
  exact ⟨v, hv, va_Z.moved hvm h⟩
theorem zSX.kept {w : zWo} {U : State} {H H1 : Heap} (h : zSX w U H) (hq : ∀ a : Nat, a < H.size → ¬ zB w a → H1[a]? = H[a]?) : zSX w U H1 := by
  obtain ⟨v, hv, h⟩ := h
  exact ⟨v, hv, va_Z.kept h hq⟩
def zPcx (w : zWo) (as : List Value) (S : List zSh) (M : zMI) (L : zML) (R : zMR) : Array Value → State → Prop := fun v U => zPc w as S M L R v U ∧ zSX w U U.heap
def Spx (y : MethodName) (Y : zY) (d : Nat) (as : List Value) (S : List zSh) (M : zMI) (L : zML) (R : zMR) (mc ms : Nat) (Q : zQ) : Prop :=
  ∀ (l : Launch) (w : zWo), Met l y (Cond.code y Y.2.1 Y.2.2.1 Y.2.2.2.1 :: lw_g) { frames := d, cells := mc, slots := ms, locals := 64 * d } (zPcx w as S M L R) (zQc w S mc ms Q) mc ms (zB w)
abbrev zSXG (w : zWo) (G : zG) : Prop := zSX w G.2.2.2.2.1 G.2.2.2.2.1.heap
theorem zPcx_blind {w : zWo} {as : List Value} {S : List zSh} {M : zMI} {L : zML} {R : zMR} : FrameBlind (zPcx w as S M L R) := by
  intro a U g mk h
  exact ⟨zPc_blind a U g mk h.1, zSX.moved (u := U) (U := U.calling g mk a) (Vm.Alike.refl U.vm) h.2⟩
theorem Spx.of {y : MethodName} {Y : zY} {d : Nat} {as : List Value} {S : List zSh} {M : zMI} {L : zML} {R : zMR} {mc ms : Nat} {Q : zQ}
    (hy : plainName y.cls = true) (hY : Y.1 = y.cls) (hi : Y.2.2.2.2 = true → y.name = "<init>") (hn : (lg_sl as).length ≤ Y.2.2.1)
    (k : ∀ (w : zWo) (G : zG), zSXG w G → WP w Y (d, S, mc, ms) G (some Q) 0 (lv_args 0 as) [] S M L R) : Spx y Y d as S M L R mc ms Q := by
  intro l w
  refine Met.ofW (cc := Y.2.1) (maxL := Y.2.2.1) (ret := Y.2.2.2.1) hy rfl ?_
  intro p e s m args below meth c s₁ Bd hml hv
  obtain ⟨⟨rfl, hsz, hP, hK, hST⟩, hSX⟩ := hv
  have hts := atoms_spec (ws := Cond.code y Y.2.1 Y.2.2.1 Y.2.2.2.1 :: lw_g) Bd.pre
  have hown : s.vm.findClass Y.1 = some m.cls := by rw [hY]; exact findClass_of_methodNamed Bd.named
  have hl := lv_entry (as.map (zv w)) (n := Y.2.2.1) (by rw [zlg_len]; exact hn)
  rw [zlv_args] at hl
  rw [lg_entry_eq]
  have := k w (p, l, e, (headSpec (Cond.code y Y.2.1 Y.2.2.1 Y.2.2.2.1 :: lw_g) { frames := d, cells := mc, slots := ms, locals := 64 * d }).room, s, m, (as.map (zv w)).toArray, below, meth, c) hSX
    ⟨Bd.exec, Bd.bytes, hml, hown, fun q hq => hts q (List.mem_cons_of_mem _ hq), Bd.notSynchronized, Bd.returns, hK, hST, hsz, Nat.le_refl _, Nat.le_refl _, Nat.le_refl _, Nat.le_refl _, fun h => (name_of_methodNamed Bd.named Bd.method).1.trans (hi h)⟩ (Nat.le_refl _) (Nat.le_refl _) s.heap _ [] hP va_S.rf hl
  simp only [Nat.sub_self, List.map_nil] at this
  exact this
section
variable {w : zWo} {Y : zY} {B : zR} {G : zG} {E : Option zQ} {pc q : Nat} {loc loc' : List (Nat × Value)} {st : List Value} {S : List zSh} {M : zMI} {L : zML} {R : zMR}
theorem wp_callIx {idx n d mc ms : Nat} {y : MethodName} {Y2 : zY} {as : List Value} {o : Nat} {Q' : zQ} (hX : zSXG w G) (hsp : Spx y Y2 d (.ref o :: as) S M L R mc ms Q') (hm : zMI' y Y2 n) (hlink : Cond.methodLink Y.1 idx y ∈ lw_g) (hd : decode Y.2.1 pc = .ok (.invokespecial idx, 3)) (hn : as.length = n) (hdep : d + 1 ≤ B.1) (hcat : (st.map fun v => v.category).sum ≤ 8)
    (hc : S.length + mc ≤ B.2.1.length + B.2.2.1) (hs : zsl S + ms ≤ zsl B.2.1 + B.2.2.2) (hq : pc + 3 = q)
    (kk : ∀ (v : Option Value) (S' : List zSh) (M' : zMI) (L' : zML) (R' : zMR), Q' v S' M' L' R' → S'.length = S.length + mc → zsl S' = zsl S + ms → WP w Y B G E q loc (v.toList ++ st) S' M' L' R') : WP w Y B G E pc loc (as.reverse ++ .ref o :: st) S M L R := by
  subst hq
  obtain ⟨p, l, e, Rm, s, m, args, below, meth, c⟩ := G
  intro F h1 h2 H ls locs hP hS hl
  obtain ⟨hx, hb, hml, ho, hts, hlk, hrt, hK, hST, hsz, hfr, hlo, hce, hse, hin⟩ := id F
  intro T hT X
  have hsize := z_size hP hS hsz h1 hT X
  revert T
  show W _ _ _ _ _ _ _ _ _ _ _ _ _ _ _ _
  obtain ⟨⟨hcode, hini, hdd, hmx⟩, hrest⟩ := hm
  have hR : (d + 1 ≤ Rm.frames) ∧ 8 + (Y2.2.2.1 + 11) + 64 * d ≤ Rm.locals := ⟨by omega, by omega⟩
  rw [zrev]
  have hT : GoodIn lw_g (Cond.code y Y2.2.1 Y2.2.2.1 Y2.2.2.2.1 :: lw_g) := by
    intro z hz
    refine lw_goodIn ?_
    rcases List.mem_cons.mp hz with rfl | hz
    · exact hcode
    · exact hz
  obtain ⟨hr1, hr2, hr3⟩ := hrest
  refine z_call (va_runI (n := n) (bytes := Y2.2.1) (maxL := Y2.2.2.1) (b := w.1 + o) (As := as.map (zv w)) (rest := st.map (zv w)) ⟨hx, hb, hml, ho, hts⟩ (hsp l w) ⟨by have := callB_of (rm := { frames := d, cells := mc, slots := ms, locals := 64 * d }) (R := Rm) (mc := mc) (ms := ms) n hts hT rfl rfl rfl (hts _ hini) (hts _ hlink) hdd hR; rw [hr3] at this ⊢; exact this, hr2, hts _ hr1⟩ ⟨zPcx_blind, fun U hU hW => ⟨⟨by simp [zv], by rw [hU]; exact hsize, by rw [hU]; exact hP, hK.moved hW.alike, by rw [hU]; exact (hST.kept hS.2.1).warm hW⟩, by rw [hU]; exact zSX.moved hW.alike (zSX.kept hX hS.2.1)⟩⟩ rfl (by simpa using hn) hl.1 rfl (lv_room (zcats hcat)) hd ⟨by omega, by omega⟩) hS (fun v S' M' L' R' H1 locs1 hQ e1 e2 hP1 hS1 => ?_)
  have := kk v S' M' L' R' hQ e1 e2 F (by omega) (by omega) H1 ls locs1 hP1 hS1 hl
  rw [zopt, show S.length - B.2.1.length + mc = S'.length - B.2.1.length by omega, show zsl S - zsl B.2.1 + ms = zsl S' - zsl B.2.1 by omega]
  exact this
theorem wp_callSXx {idx n d mc ms : Nat} {y : MethodName} {Y2 : zY} {as : List Value} {Q' : zQ} (hX : zSXG w G) (hsp : Spx y Y2 d (as) S M L R mc ms Q') (hm : zMS y Y2 n) (hlink : Cond.methodLink Y.1 idx y ∈ lw_g) (hd : decode Y.2.1 pc = .ok (.invokestatic idx, 3)) (hn : as.length = n) (hdep : d + 1 ≤ B.1) (hcat : (st.map fun v => v.category).sum ≤ 8)
    (hc : S.length + mc ≤ B.2.1.length + B.2.2.1) (hs : zsl S + ms ≤ zsl B.2.1 + B.2.2.2) (hq : pc + 3 = q)
    (kk : ∀ (v : Option Value) (S' : List zSh) (M' : zMI) (L' : zML) (R' : zMR), Q' v S' M' L' R' → S'.length = S.length + mc → zsl S' = zsl S + ms → WP w Y B G E q loc (v.toList ++ st) S' M' L' R') : WP w Y B G E pc loc (as.reverse ++ st) S M L R := by
  subst hq
  obtain ⟨p, l, e, Rm, s, m, args, below, meth, c⟩ := G
  intro F h1 h2 H ls locs hP hS hl
  obtain ⟨hx, hb, hml, ho, hts, hlk, hrt, hK, hST, hsz, hfr, hlo, hce, hse, hin⟩ := id F
  intro T hT X
  have hsize := z_size hP hS hsz h1 hT X
  revert T
  show W _ _ _ _ _ _ _ _ _ _ _ _ _ _ _ _
  obtain ⟨⟨hcode, hini, hdd, hmx⟩, hrest⟩ := hm
  have hR : (d + 1 ≤ Rm.frames) ∧ 8 + (Y2.2.2.1 + 11) + 64 * d ≤ Rm.locals := ⟨by omega, by omega⟩
  rw [zrev]
  have hT : GoodIn lw_g (Cond.code y Y2.2.1 Y2.2.2.1 Y2.2.2.2.1 :: lw_g) := by
    intro z hz
    refine lw_goodIn ?_
    rcases List.mem_cons.mp hz with rfl | hz
    · exact hcode
    · exact hz
  refine z_call (va_runS (n := n) (As := as.map (zv w)) (rest := st.map (zv w)) ⟨hx, hb, hml, ho, hts⟩ (hsp l w) ⟨callB_of n hts hT rfl rfl rfl (hts _ hini) (hts _ hlink) hdd hR, hts _ hrest⟩ ⟨zPcx_blind, fun U hU hW => ⟨⟨rfl, by rw [hU]; exact hsize, by rw [hU]; exact hP, hK.moved hW.alike, by rw [hU]; exact (hST.kept hS.2.1).warm hW⟩, by rw [hU]; exact zSX.moved hW.alike (zSX.kept hX hS.2.1)⟩⟩ rfl (by simpa using hn) hl.1 rfl (lv_room (zcats hcat)) hd ⟨by omega, by omega⟩) hS (fun v S' M' L' R' H1 locs1 hQ e1 e2 hP1 hS1 => ?_)
  have := kk v S' M' L' R' hQ e1 e2 F (by omega) (by omega) H1 ls locs1 hP1 hS1 hl
  rw [zopt, show S.length - B.2.1.length + mc = S'.length - B.2.1.length by omega, show zsl S - zsl B.2.1 + ms = zsl S' - zsl B.2.1 by omega]
  exact this
theorem wp_callVsx {idx n d mc ms : Nat} {y : MethodName} {Y2 : zY} {as : List Value}  {Q' : zQ} (hX : zSXG w G) (hsp : Spx y Y2 d (.float 2 :: as) S M L R mc ms Q') (hm : zMV y Y2 n) (hlink : Cond.methodLink Y.1 idx y ∈ lw_g) (hd : decode Y.2.1 pc = .ok (.invokevirtual idx, 3)) (hn : as.length = n) (hdep : d + 1 ≤ B.1) (hcat : (st.map fun v => v.category).sum ≤ 8)
    (hcls : y.cls = "java/lang/String") (hc : S.length + mc ≤ B.2.1.length + B.2.2.1) (hs : zsl S + ms ≤ zsl B.2.1 + B.2.2.2) (hq : pc + 3 = q)
    (kk : ∀ (v : Option Value) (S' : List zSh) (M' : zMI) (L' : zML) (R' : zMR), Q' v S' M' L' R' → S'.length = S.length + mc → zsl S' = zsl S + ms → WP w Y B G E q loc (v.toList ++ st) S' M' L' R') : WP w Y B G E pc loc (as.reverse ++ .float 2 :: st) S M L R := by
  subst hq
  obtain ⟨p, l, e, Rm, s, m, args, below, meth, c⟩ := G
  intro F h1 h2 H ls locs hP hS hl
  obtain ⟨hx, hb, hml, ho, hts, hlk, hrt, hK, hST, hsz, hfr, hlo, hce, hse, hin⟩ := id F
  intro T hT X
  have hsize := z_size hP hS hsz h1 hT X
  revert T
  show W _ _ _ _ _ _ _ _ _ _ _ _ _ _ _ _
  obtain ⟨⟨hcode, hini, hdd, hmx⟩, hrest⟩ := hm
  have hR : (d + 1 ≤ Rm.frames) ∧ 8 + (Y2.2.2.1 + 11) + 64 * d ≤ Rm.locals := ⟨by omega, by omega⟩
  rw [zrev]
  have hT : GoodIn lw_g (wsV Y.1 idx y.cls y (Cond.code y Y2.2.1 Y2.2.2.1 Y2.2.2.2.1 :: lw_g)) := by
    intro z hz
    refine lw_goodIn ?_
    simp only [wsV, List.mem_append, List.mem_cons, List.not_mem_nil, or_false] at hz
    rcases hz with (rfl | rfl | rfl | rfl) | rfl | hz
    · exact hlink
    · exact hrest.1
    · exact hrest.2
    · exact hini
    · exact hcode
    · exact hz
  have hrecv := vk_recv (i := 0) hST.2.2.2.1 (by decide) hS
  rw [← hcls] at hrecv
  refine z_call (va_runV (n := n) (b := w.2.1 2) (As := as.map (zv w)) (rest := st.map (zv w)) ⟨hx, hb, hml, ho, hts⟩ (hsp l w) (cwV n hts hT rfl rfl rfl ⟨rfl, hdd⟩ hR) ⟨zPcx_blind, hrecv, fun U hU hW => ⟨⟨by simp [zv], by rw [hU]; exact hsize, by rw [hU]; exact hP, hK.moved hW.alike, by rw [hU]; exact (hST.kept hS.2.1).warm hW⟩, by rw [hU]; exact zSX.moved hW.alike (zSX.kept hX hS.2.1)⟩⟩ rfl (by simpa using hn) hl.1 rfl (lv_room (zcats hcat)) hd ⟨by omega, by omega⟩) hS (fun v S' M' L' R' H1 locs1 hQ e1 e2 hP1 hS1 => ?_)
  have := kk v S' M' L' R' hQ e1 e2 F (by omega) (by omega) H1 ls locs1 hP1 hS1 hl
  rw [zopt, show S.length - B.2.1.length + mc = S'.length - B.2.1.length by omega, show zsl S - zsl B.2.1 + ms = zsl S' - zsl B.2.1 by omega]
  exact this
theorem wp_getsSI {idx : Nat} (hX : zSXG w G) (hd : decode Y.2.1 pc = .ok (.getstatic idx, 3)) (hlink : Cond.fieldLink Y.1 idx "jdk/internal/util/Preconditions" "SIOOBE_FORMATTER" "Ljava/util/function/BiFunction;" ∈ lw_g) (hq : pc + 3 = q) (kk : ∀ v : Value, v = .null ∨ v = .float 4 → WP w Y B G E q loc (v :: st) S M L R) : WP w Y B G E pc loc st S M L R := by
  subst hq
  obtain ⟨p, l, e, Rm, s, m, args, below, meth, c⟩ := G
  intro F h1 h2 H ls locs hP hS hl
  obtain ⟨hx, hb, hml, ho, hts, hlk, hrt, hK, hST, hsz, hfr, hlo, hce, hse, hin⟩ := id F
  obtain ⟨v, hv, hX⟩ := hX
  exact va_gets hx hb hX hS ho (hts _ hlink) (fun x h => h) hd (kk v hv F h1 h2 H ls locs hP hS hl)
end

