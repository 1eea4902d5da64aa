theorem lw_goodIn {q : Cond} (h : q ∈ lw_g) : q ∈ lw_g ∧ ((q.onTables && q.keeps) = true ∨ ∃ ty, q = .arrayClass ty) := ⟨h, good_of_word (List.mem_filter.mp h).2⟩
-- a method: its code, n parameters
def zM (y : MethodName) (Y : zY) (n : Nat) : Prop := Cond.code y Y.2.1 Y.2.2.1 Y.2.2.2.1 ∈ lw_g ∧ Cond.initialized y.cls ∈ lw_g ∧ (y.cls ≠ "java/lang/invoke/MethodHandle" ∧ y.cls ≠ "java/lang/invoke/VarHandle" ∧ (parseMethodDescriptor y.desc).map (fun d => d.parameters.length) = some n) ∧ Y.2.2.1 ≤ 45
def zMV (y : MethodName) (Y : zY) (n : Nat) : Prop := zM y Y n ∧ Cond.instanceMethod y ∈ lw_g ∧ Cond.selects y.cls y y ∈ lw_g
def zMS (y : MethodName) (Y : zY) (n : Nat) : Prop := zM y Y n ∧ Cond.static y ∈ lw_g
def zMI' (y : MethodName) (Y : zY) (n : Nat) : Prop := zM y Y n ∧ Cond.instanceMethod y ∈ lw_g ∧ y.name = "<init>" ∧ Y.2.2.2.1 = none
theorem zPc_blind {w : zWo} {as : List Value} {S : List zSh} {M : zMI} {L : zML} {R : zMR} : FrameBlind (zPc w as S M L R) := by
  intro a U g mk h
  obtain ⟨a1, a2, a3, a4, a5⟩ := h
  exact ⟨a1, a2, a3, zK.moved (u := U) (U := U.calling g mk a) (Vm.Alike.refl U.vm) a4, zST.call a5⟩
section
variable {p : Program} {l : Launch} {e : Env} {Rm : Room} {s : State} {m : MethodId} {args : Array Value} {below : List Frame} {meth : Method} {c : Code} {H : Heap} {locs : List Loc} {cells slots : Nat} {QS : State → Prop} {pc : Nat} {ls : Array Slot}
theorem z_call {w : zWo} {S : List zSh} {mc ms : Nat} {Q : zQ} {st0 rest : List Value} {a : Array Value} (hr : va_Run p l e Rm s m args below meth c H locs cells slots mc ms (F0 m pc ls st0) rest (zQc w S mc ms Q a) (zB w)) (hS : va_S (zB w) s.heap H locs)
    (kk : ∀ (v : Option Value) (S' : List zSh) (M' : zMI) (L' : zML) (R' : zMR) (H1 : Heap) (locs1 : List Loc), Q v S' M' L' R' → S'.length = S.length + mc → zsl S' = zsl S + ms → va_P (w.2.2.1, w.2.2.2.1) vwCl (zws w S' M' L' R') H1 → va_S (zB w) s.heap H1 locs1 →
      W p l e Rm s m args below meth c H1 locs1 (cells + mc) (slots + ms) QS (F0 m (pc + 3) ls ((v.map (zv w)).toList ++ rest))) : W p l e Rm s m args below meth c H locs cells slots QS (F0 m pc ls st0) := by
  intro T hT X
  obtain ⟨v, st₀, t, T', L, h0, X', hL, e1, e2, ⟨⟨v', S', M', L', R', hv, hQ, hl, hz, hp⟩, hzz, hk⟩, st⟩ := hr T hT X
  cases hv
  rw [h0] at hzz hk
  rw [← e1] at hp
  obtain ⟨t2, a1, b1⟩ := kk v' S' M' L' R' T'.heap (locs ++ L) hQ hl hz hp
    ⟨Nat.le_trans hS.1 (by rw [e1]; exact hzz), fun q h1 h2 => by rw [e1, hk q (Nat.lt_of_lt_of_le h1 hS.1) h2]; exact hS.2.1 q h1 h2, fun q hq => by
      rcases List.mem_append.mp hq with h | h
      · exact hS.2.2 q h
      · exact hL q h⟩ T' rfl X'
  exact ⟨t2, st t2 a1, b1⟩
theorem z_size {w : zWo} {D : va_G} {S : List zSh} {M : zMI} {L : zML} {R : zMR} {n k : Nat} (hP : va_P D vwCl (zws w S M L R) H) (hS : va_S (zB w) s.heap H locs) (hsz : s.heap.size = w.1 + n) (hle : n ≤ S.length) {T : State} (hT : T.heap = H) (X : Stand p l e Rm s m args below meth c T locs (S.length - n) k) : H.size = w.1 + S.length := by
  have h1 := X.heapSize
  rw [hT] at h1
  have h2 : w.1 + S.length ≤ H.size := by
    by_cases h0 : S.length = 0
    · have := hS.1
      omega
    · have hlt : S.length - 1 < S.length := by omega
      have hg : S[S.length - 1]? = some S[S.length - 1] := List.getElem?_eq_getElem hlt
      have := (hP _ _ (zws_get hg)).lt
      simp only at this
      omega
  omega
end
section
variable {w : zWo} {Y : zY} {B : zR} {G : zG} {E : Option zQ} {pc q : Nat} {loc loc' : List (Nat × Value)} {st : List Value} {S : List zSh} {M : zMI} {L : zML} {R : zMR}
theorem zcats {st : List Value} {w : zWo} (h : (st.map fun v => v.category).sum ≤ 8) : ((st.map (zv w)).map fun v => v.category).sum ≤ 8 := by
  rw [List.map_map]
  have : (fun v : Value => v.category) ∘ zv w = fun v => v.category := by funext v; exact zv_cat w v
  rw [this]
  exact h
theorem zrev {as st : List Value} {w : zWo} : (as.reverse ++ st).map (zv w) = (as.map (zv w)).reverse ++ st.map (zv w) := by simp
theorem zopt {v : Option Value} {st : List Value} {w : zWo} : (v.map (zv w)).toList ++ st.map (zv w) = (v.toList ++ st).map (zv w) := by cases v <;> simp

theorem wp_callV {idx n d mc ms : Nat} {y : MethodName} {Y2 : zY} {as : List Value} {o ci : Nat} {Q' : zQ} (hsp : Sp y Y2 d (.ref o :: as) S M L R mc ms Q') (hm : zMV y Y2 n) (hlink : Cond.methodLink Y.1 idx y ∈ lw_g) (hd : decode Y.2.1 pc = .ok (.invokevirtual idx, 3)) (hn : as.length = n) (hdep : d + 1 ≤ B.1) (hcat : (st.map fun v => v.category).sum ≤ 8)
    (hobj : S[o]? = some (.inr ci)) (hci : Option.map (fun z : vw_C => z.1) vwCl[ci]? = some y.cls) (hc : S.length + mc ≤ B.2.1.length + B.2.2.1) (hs : zsl S + ms ≤ zsl B.2.1 + B.2.2.2) (hq : pc + 3 = q)
    (kk : ∀ (v : Option Value) (S' : List zSh) (M' : zMI) (L' : zML) (R' : zMR), Q' v S' M' L' R' → S'.length = S.length + mc → zsl S' = zsl S + ms → WP w Y B G E q loc (v.toList ++ st) S' M' L' R') : WP w Y B G E pc loc (as.reverse ++ .ref o :: st) S M L R := by
  subst hq
  obtain ⟨p, l, e, Rm, s, m, args, below, meth, c⟩ := G
  intro F h1 h2 H ls locs hP hS hl
  obtain ⟨hx, hb, hml, ho, hts, hlk, hrt, hK, hST, hsz, hfr, hlo, hce, hse, hin⟩ := id F
  intro T hT X
  have hsize := z_size hP hS hsz h1 hT X
  revert T
  show W _ _ _ _ _ _ _ _ _ _ _ _ _ _ _ _
  obtain ⟨⟨hcode, hini, hdd, hmx⟩, hrest⟩ := hm
  have hR : (d + 1 ≤ Rm.frames) ∧ 8 + (Y2.2.2.1 + 11) + 64 * d ≤ Rm.locals := ⟨by omega, by omega⟩
  rw [zrev]
  have hT : GoodIn lw_g (wsV Y.1 idx y.cls y (Cond.code y Y2.2.1 Y2.2.2.1 Y2.2.2.2.1 :: lw_g)) := by
    intro z hz
    refine lw_goodIn ?_
    simp only [wsV, List.mem_append, List.mem_cons, List.not_mem_nil, or_false] at hz
    rcases hz with (rfl | rfl | rfl | rfl) | rfl | hz
    · exact hlink
    · exact hrest.1
    · exact hrest.2
    · exact hini
    · exact hcode
    · exact hz
  obtain ⟨r, hr⟩ : ∃ r, vwCl[ci]? = some r := by
    cases h : vwCl[ci]? with
    | none => rw [h] at hci; cases hci
    | some r => exact ⟨r, rfl⟩
  rw [hr] at hci
  have hrc : r.1 = y.cls := Option.some.inj hci
  have hrecv := va_recv hK.nil hP hr (zws_get hobj)
  rw [hrc] at hrecv
  refine z_call (va_runV (n := n) (b := w.1 + o) (As := as.map (zv w)) (rest := st.map (zv w)) ⟨hx, hb, hml, ho, hts⟩ (hsp l w) (cwV n hts hT rfl rfl rfl ⟨rfl, hdd⟩ hR) ⟨zPc_blind, hrecv, fun U hU hW => ⟨by simp [zv], by rw [hU]; exact hsize, by rw [hU]; exact hP, hK.moved hW.alike, by rw [hU]; exact (hST.kept hS.2.1).warm hW⟩⟩ rfl (by simpa using hn) hl.1 rfl (lv_room (zcats hcat)) hd ⟨by omega, by omega⟩) hS (fun v S' M' L' R' H1 locs1 hQ e1 e2 hP1 hS1 => ?_)
  have := kk v S' M' L' R' hQ e1 e2 F (by omega) (by omega) H1 ls locs1 hP1 hS1 hl
  rw [zopt, show S.length - B.2.1.length + mc = S'.length - B.2.1.length by omega, show zsl S - zsl B.2.1 + ms = zsl S' - zsl B.2.1 by omega]
  exact this
theorem wp_callVN {idx n d mc ms : Nat} {y : MethodName} {Y2 : zY} {as : List Value} {o ci : Nat} {host : String} {Q' : zQ} (hsp : Sp y Y2 d (.ref o :: as) S M L R mc ms Q') (hm : zMV y Y2 n) (hlink : ∀ (U : State) (H : Heap), zST w U H → va_Nw (.methodLinkNest Y.1 idx y host) U) (hd : decode Y.2.1 pc = .ok (.invokevirtual idx, 3)) (hn : as.length = n) (hdep : d + 1 ≤ B.1) (hcat : (st.map fun v => v.category).sum ≤ 8)
    (hobj : S[o]? = some (.inr ci)) (hci : Option.map (fun z : vw_C => z.1) vwCl[ci]? = some y.cls) (hc : S.length + mc ≤ B.2.1.length + B.2.2.1) (hs : zsl S + ms ≤ zsl B.2.1 + B.2.2.2) (hq : pc + 3 = q)
    (kk : ∀ (v : Option Value) (S' : List zSh) (M' : zMI) (L' : zML) (R' : zMR), Q' v S' M' L' R' → S'.length = S.length + mc → zsl S' = zsl S + ms → WP w Y B G E q loc (v.toList ++ st) S' M' L' R') : WP w Y B G E pc loc (as.reverse ++ .ref o :: st) S M L R := by
  subst hq
  obtain ⟨p, l, e, Rm, s, m, args, below, meth, c⟩ := G
  intro F h1 h2 H ls locs hP hS hl
  obtain ⟨hx, hb, hml, ho, hts, hlk, hrt, hK, hST, hsz, hfr, hlo, hce, hse, hin⟩ := id F
  intro T hT X
  have hsize := z_size hP hS hsz h1 hT X
  revert T
  show W _ _ _ _ _ _ _ _ _ _ _ _ _ _ _ _
  obtain ⟨⟨hcode, hini, hdd, hmx⟩, hrest⟩ := hm
  have hR : (d + 1 ≤ Rm.frames) ∧ 8 + (Y2.2.2.1 + 11) + 64 * d ≤ Rm.locals := ⟨by omega, by omega⟩
  rw [zrev]
  have hT : GoodIn lw_g (Cond.code y Y2.2.1 Y2.2.2.1 Y2.2.2.2.1 :: lw_g) := by
    intro z hz
    refine lw_goodIn ?_
    rcases List.mem_cons.mp hz with rfl | hz
    · exact hcode
    · exact hz
  obtain ⟨r, hr⟩ : ∃ r, vwCl[ci]? = some r := by
    cases h : vwCl[ci]? with
    | none => rw [h] at hci; cases hci
    | some r => exact ⟨r, rfl⟩
  rw [hr] at hci
  have hrc : r.1 = y.cls := Option.some.inj hci
  have hrecv := va_recv hK.nil hP hr (zws_get hobj)
  rw [hrc] at hrecv
  refine z_call (va_runVN (n := n) (host := host) (b := w.1 + o) (As := as.map (zv w)) (rest := st.map (zv w)) ⟨hx, hb, hml, ho, hts⟩ (hsp l w) ⟨va_cnB n hts hT rfl rfl rfl (hlink _ _ hST) (hts _ hini) hdd hR, hts _ hrest.1, hts _ hrest.2⟩ ⟨zPc_blind, hrecv, fun U hU hW => ⟨by simp [zv], by rw [hU]; exact hsize, by rw [hU]; exact hP, hK.moved hW.alike, by rw [hU]; exact (hST.kept hS.2.1).warm hW⟩⟩ rfl (by simpa using hn) hl.1 rfl (lv_room (zcats hcat)) hd ⟨by omega, by omega⟩) hS (fun v S' M' L' R' H1 locs1 hQ e1 e2 hP1 hS1 => ?_)
  have := kk v S' M' L' R' hQ e1 e2 F (by omega) (by omega) H1 ls locs1 hP1 hS1 hl
  rw [zopt, show S.length - B.2.1.length + mc = S'.length - B.2.1.length by omega, show zsl S - zsl B.2.1 + ms = zsl S' - zsl B.2.1 by omega]
  exact this
theorem wp_callS {idx n d mc ms : Nat} {y : MethodName} {Y2 : zY} {as : List Value} {Q' : zQ} (hsp : Sp y Y2 d (as) S M L R mc ms Q') (hm : zMS y Y2 n) (hlink : Cond.methodLink Y.1 idx y ∈ lw_g) (hd : decode Y.2.1 pc = .ok (.invokestatic idx, 3)) (hn : as.length = n) (hdep : d + 1 ≤ B.1) (hcat : (st.map fun v => v.category).sum ≤ 8)
    (hown : y.cls = Y.1) (hc : S.length + mc ≤ B.2.1.length + B.2.2.1) (hs : zsl S + ms ≤ zsl B.2.1 + B.2.2.2) (hq : pc + 3 = q)
    (kk : ∀ (v : Option Value) (S' : List zSh) (M' : zMI) (L' : zML) (R' : zMR), Q' v S' M' L' R' → S'.length = S.length + mc → zsl S' = zsl S + ms → WP w Y B G E q loc (v.toList ++ st) S' M' L' R') : WP w Y B G E pc loc (as.reverse ++ st) S M L R := by
  subst hq
  obtain ⟨p, l, e, Rm, s, m, args, below, meth, c⟩ := G
  intro F h1 h2 H ls locs hP hS hl
  obtain ⟨hx, hb, hml, ho, hts, hlk, hrt, hK, hST, hsz, hfr, hlo, hce, hse, hin⟩ := id F
  intro T hT X
  have hsize := z_size hP hS hsz h1 hT X
  revert T
  show W _ _ _ _ _ _ _ _ _ _ _ _ _ _ _ _
  obtain ⟨⟨hcode, hini, hdd, hmx⟩, hrest⟩ := hm
  have hR : (d + 1 ≤ Rm.frames) ∧ 8 + (Y2.2.2.1 + 11) + 64 * d ≤ Rm.locals := ⟨by omega, by omega⟩
  rw [zrev]
  have hT : GoodIn lw_g (wsS Y.1 idx y (Cond.code y Y2.2.1 Y2.2.2.1 Y2.2.2.2.1 :: lw_g)) := by
    intro z hz
    refine lw_goodIn ?_
    simp only [wsS, List.mem_append, List.mem_cons, List.not_mem_nil, or_false] at hz
    rcases hz with (rfl | rfl | rfl) | rfl | hz
    · exact hlink
    · exact hrest
    · rw [← hown]; exact hini
    · exact hcode
    · exact hz
  refine z_call (va_runS (n := n) (As := as.map (zv w)) (rest := st.map (zv w)) ⟨hx, hb, hml, ho, hts⟩ (hsp l w) (cwS n hts hT rfl rfl rfl ⟨hown, hdd⟩ hR) ⟨zPc_blind, fun U hU hW => ⟨rfl, by rw [hU]; exact hsize, by rw [hU]; exact hP, hK.moved hW.alike, by rw [hU]; exact (hST.kept hS.2.1).warm hW⟩⟩ rfl (by simpa using hn) hl.1 rfl (lv_room (zcats hcat)) hd ⟨by omega, by omega⟩) hS (fun v S' M' L' R' H1 locs1 hQ e1 e2 hP1 hS1 => ?_)
  have := kk v S' M' L' R' hQ e1 e2 F (by omega) (by omega) H1 ls locs1 hP1 hS1 hl
  rw [zopt, show S.length - B.2.1.length + mc = S'.length - B.2.1.length by omega, show zsl S - zsl B.2.1 + ms = zsl S' - zsl B.2.1 by omega]
  exact this
theorem wp_callSX {idx n d mc ms : Nat} {y : MethodName} {Y2 : zY} {as : List Value} {Q' : zQ} (hsp : Sp y Y2 d (as) S M L R mc ms Q') (hm : zMS y Y2 n) (hlink : Cond.methodLink Y.1 idx y ∈ lw_g) (hd : decode Y.2.1 pc = .ok (.invokestatic idx, 3)) (hn : as.length = n) (hdep : d + 1 ≤ B.1) (hcat : (st.map fun v => v.category).sum ≤ 8)
    (hc : S.length + mc ≤ B.2.1.length + B.2.2.1) (hs : zsl S + ms ≤ zsl B.2.1 + B.2.2.2) (hq : pc + 3 = q)
    (kk : ∀ (v : Option Value) (S' : List zSh) (M' : zMI) (L' : zML) (R' : zMR), Q' v S' M' L' R' → S'.length = S.length + mc → zsl S' = zsl S + ms → WP w Y B G E q loc (v.toList ++ st) S' M' L' R') : WP w Y B G E pc loc (as.reverse ++ st) S M L R := by
  subst hq
  obtain ⟨p, l, e, Rm, s, m, args, below, meth, c⟩ := G
  intro F h1 h2 H ls locs hP hS hl
  obtain ⟨hx, hb, hml, ho, hts, hlk, hrt, hK, hST, hsz, hfr, hlo, hce, hse, hin⟩ := id F
  intro T hT X
  have hsize := z_size hP hS hsz h1 hT X
  revert T
  show W _ _ _ _ _ _ _ _ _ _ _ _ _ _ _ _
  obtain ⟨⟨hcode, hini, hdd, hmx⟩, hrest⟩ := hm
  have hR : (d + 1 ≤ Rm.frames) ∧ 8 + (Y2.2.2.1 + 11) + 64 * d ≤ Rm.locals := ⟨by omega, by omega⟩
  rw [zrev]
  have hT : GoodIn lw_g (Cond.code y Y2.2.1 Y2.2.2.1 Y2.2.2.2.1 :: lw_g) := by
    intro z hz
    refine lw_goodIn ?_
    rcases List.mem_cons.mp hz with rfl | hz
    · exact hcode
    · exact hz
  refine z_call (va_runS (n := n) (As := as.map (zv w)) (rest := st.map (zv w)) ⟨hx, hb, hml, ho, hts⟩ (hsp l w) ⟨callB_of n hts hT rfl rfl rfl (hts _ hini) (hts _ hlink) hdd hR, hts _ hrest⟩ ⟨zPc_blind, fun U hU hW => ⟨rfl, by rw [hU]; exact hsize, by rw [hU]; exact hP, hK.moved hW.alike, by rw [hU]; exact (hST.kept hS.2.1).warm hW⟩⟩ rfl (by simpa using hn) hl.1 rfl (lv_room (zcats hcat)) hd ⟨by omega, by omega⟩) hS (fun v S' M' L' R' H1 locs1 hQ e1 e2 hP1 hS1 => ?_)
  have := kk v S' M' L' R' hQ e1 e2 F (by omega) (by omega) H1 ls locs1 hP1 hS1 hl
  rw [zopt, show S.length - B.2.1.length + mc = S'.length - B.2.1.length by omega, show zsl S - zsl B.2.1 + ms = zsl S' - zsl B.2.1 by omega]
  exact this
theorem wp_callI {idx n d mc ms : Nat} {y : MethodName} {Y2 : zY} {as : List Value} {o : Nat} {Q' : zQ} (hsp : Sp y Y2 d (.ref o :: as) S M L R mc ms Q') (hm : zMI' y Y2 n) (hlink : Cond.methodLink Y.1 idx y ∈ lw_g) (hd : decode Y.2.1 pc = .ok (.invokespecial idx, 3)) (hn : as.length = n) (hdep : d + 1 ≤ B.1) (hcat : (st.map fun v => v.category).sum ≤ 8)
    (hc : S.length + mc ≤ B.2.1.length + B.2.2.1) (hs : zsl S + ms ≤ zsl B.2.1 + B.2.2.2) (hq : pc + 3 = q)
    (kk : ∀ (v : Option Value) (S' : List zSh) (M' : zMI) (L' : zML) (R' : zMR), Q' v S' M' L' R' → S'.length = S.length + mc → zsl S' = zsl S + ms → WP w Y B G E q loc (v.toList ++ st) S' M' L' R') : WP w Y B G E pc loc (as.reverse ++ .ref o :: st) S M L R := by
  subst hq
  obtain ⟨p, l, e, Rm, s, m, args, below, meth, c⟩ := G
  intro F h1 h2 H ls locs hP hS hl
  obtain ⟨hx, hb, hml, ho, hts, hlk, hrt, hK, hST, hsz, hfr, hlo, hce, hse, hin⟩ := id F
  intro T hT X
  have hsize := z_size hP hS hsz h1 hT X
  revert T
  show W _ _ _ _ _ _ _ _ _ _ _ _ _ _ _ _
  obtain ⟨⟨hcode, hini, hdd, hmx⟩, hrest⟩ := hm
  have hR : (d + 1 ≤ Rm.frames) ∧ 8 + (Y2.2.2.1 + 11) + 64 * d ≤ Rm.locals := ⟨by omega, by omega⟩
  rw [zrev]
  have hT : GoodIn lw_g (Cond.code y Y2.2.1 Y2.2.2.1 Y2.2.2.2.1 :: lw_g) := by
    intro z hz
    refine lw_goodIn ?_
    rcases List.mem_cons.mp hz with rfl | hz
    · exact hcode
    · exact hz
  obtain ⟨hr1, hr2, hr3⟩ := hrest
  refine z_call (va_runI (n := n) (bytes := Y2.2.1) (maxL := Y2.2.2.1) (b := w.1 + o) (As := as.map (zv w)) (rest := st.map (zv w)) ⟨hx, hb, hml, ho, hts⟩ (hsp l w) ⟨by have := callB_of (rm := { frames := d, cells := mc, slots := ms, locals := 64 * d }) (R := Rm) (mc := mc) (ms := ms) n hts hT rfl rfl rfl (hts _ hini) (hts _ hlink) hdd hR; rw [hr3] at this ⊢; exact this, hr2, hts _ hr1⟩ ⟨zPc_blind, fun U hU hW => ⟨by simp [zv], by rw [hU]; exact hsize, by rw [hU]; exact hP, hK.moved hW.alike, by rw [hU]; exact (hST.kept hS.2.1).warm hW⟩⟩ rfl (by simpa using hn) hl.1 rfl (lv_room (zcats hcat)) hd ⟨by omega, by omega⟩) hS (fun v S' M' L' R' H1 locs1 hQ e1 e2 hP1 hS1 => ?_)
  have := kk v S' M' L' R' hQ e1 e2 F (by omega) (by omega) H1 ls locs1 hP1 hS1 hl
  rw [zopt, show S.length - B.2.1.length + mc = S'.length - B.2.1.length by omega, show zsl S - zsl B.2.1 + ms = zsl S' - zsl B.2.1 by omega]
  exact this
end
