set_option maxRecDepth 100000 in
def lw_g : List Cond := lw_tbl.filter goodWord
theorem zg_of {q : Cond} (i : Nat) (h : lw_tbl[i]? = some q) (hg : goodWord q = true) : q ∈ lw_g := List.mem_filter.mpr ⟨List.mem_of_getElem? h, hg⟩
/-! the memory of both objects as three functions of (cell, place); cells by number from a base on -/
abbrev zSh : Type := (Nat × FieldType) ⊕ Nat
abbrev zMI : Type := Nat → Nat → Int32
abbrev zML : Type := Nat → Nat → Int64
abbrev zMR : Type := Nat → Nat → Option Nat
abbrev zWo : Type := Nat × (UInt32 → Nat) × (Nat → ClassId) × (Nat → Nat → Nat) × (FieldType → ClassId)
def zv (w : zWo) (v : Value) : Value := match v with
  | .ref k => .ref (w.1 + k)
  | .float b => .ref (w.2.1 b)
  | v => v
theorem zv_cat (w : zWo) (v : Value) : (zv w v).category = v.category := by cases v <;> rfl
def zty : Nat → Nat → FieldType
  | 0 => tyX0
  | 1 => tyX1
  | 2 => tyX2
  | 3 => tyX3
  | 4 => tyX4
  | 5 => tyX5
  | 6 => tyX6
  | 7 => tyX7
  | 8 => tyX8
  | 9 => tyX9
  | 10 => tyX10
  | 11 => tyX11
  | _ => tyX12
def zNN : Nat → Nat
  | 0 => 3
  | 1 => 2
  | 2 => 3
  | 3 => 8
  | 4 => 6
  | 5 => 5
  | 6 => 8
  | 7 => 8
  | 8 => 2
  | 9 => 15
  | 10 => 12
  | 11 => 19
  | 12 => 99
  | _ => 0
def zfv (w : zWo) (M : zMI) (L : zML) (R : zMR) (ty : FieldType) (o k : Nat) : Value := match ty with
  | .long => .long (L o k)
  | .object _ => va_rf ((R o k).map (fun x => w.1 + x))
  | .array _ => va_rf ((R o k).map (fun x => w.1 + x))
  | _ => .int (M o k)
def zcell (w : zWo) (M : zMI) (L : zML) (R : zMR) (o : Nat) (sh : zSh) : va_E := match sh with
  | .inl (n, .long) => .inl (w.2.2.2.2 .long, n, .inr (.inl (L o)))
  | .inl (n, .object C) => .inl (w.2.2.2.2 (.object C), n, .inr (.inr (.inr (.inr (fun k => (R o k).map (fun x => w.1 + x))))))
  | .inl (n, ty) => .inl (w.2.2.2.2 ty, n, .inl (M o))
  | .inr ci => .inr (ci, (List.range (zNN ci)).map (fun k => zfv w M L R (zty ci k) o k))
def zws (w : zWo) (S : List zSh) (M : zMI) (L : zML) (R : zMR) : va_W := S.mapIdx (fun o sh => (w.1 + o, zcell w M L R o sh))
theorem zcell_congr {w : zWo} {M M' : zMI} {L L' : zML} {R R' : zMR} {o : Nat} {sh : zSh} (h1 : M' o = M o) (h2 : L' o = L o) (h3 : R' o = R o) : zcell w M' L' R' o sh = zcell w M L R o sh := by
  unfold zcell
  simp only [zfv, h1, h2, h3]
theorem zws_get {w : zWo} {S : List zSh} {M : zMI} {L : zML} {R : zMR} {o : Nat} {sh : zSh} (h : S[o]? = some sh) : (zws w S M L R)[o]? = some (w.1 + o, zcell w M L R o sh) := by
  simp [zws, List.getElem?_mapIdx, h]
theorem zws_len {w : zWo} {S : List zSh} {M : zMI} {L : zML} {R : zMR} : (zws w S M L R).length = S.length := by simp [zws]
theorem zws_set {w : zWo} {S : List zSh} {M M' : zMI} {L L' : zML} {R R' : zMR} {o : Nat} {sh : zSh} (h : S[o]? = some sh) {e : va_E} (he : e = zcell w M' L' R' o sh)
    (ho : ∀ o', o' ≠ o → M' o' = M o' ∧ L' o' = L o' ∧ R' o' = R o') : (zws w S M L R).set o (w.1 + o, e) = zws w S M' L' R' := by
  subst he
  apply List.ext_getElem?
  intro i
  by_cases hi : i = o
  · subst hi
    have hl : i < (zws w S M L R).length := by rw [zws_len]; exact (List.getElem?_eq_some_iff.mp h).1
    rw [List.getElem?_set_self hl, zws_get h]
  · rw [List.getElem?_set_ne (Ne.symm hi)]
    obtain ⟨h1, h2, h3⟩ := ho i hi
    simp only [zws, List.getElem?_mapIdx]
    cases S[i]? with
    | none => rfl
    | some sh' => simp only [Option.map_some]; rw [zcell_congr h1 h2 h3]
theorem zws_push {w : zWo} {S : List zSh} {M : zMI} {L : zML} {R : zMR} {sh : zSh} : zws w (S ++ [sh]) M L R = zws w S M L R ++ [(w.1 + S.length, zcell w M L R S.length sh)] := by
  simp [zws, List.mapIdx_append]
theorem zws_inv {w : zWo} {S : List zSh} {M : zMI} {L : zML} {R : zMR} {i : Nat} {q : Nat × va_E} (h : (zws w S M L R)[i]? = some q) : q.1 = w.1 + i ∧ i < S.length := by
  simp only [zws, List.getElem?_mapIdx] at h
  cases hs : S[i]? with
  | none => rw [hs] at h; cases h
  | some sh =>
    rw [hs] at h
    simp only [Option.map_some, Option.some.injEq] at h
    subst h
    exact ⟨rfl, (List.getElem?_eq_some_iff.mp hs).1⟩
theorem zws_D {w : zWo} {S : List zSh} {M : zMI} {L : zML} {R : zMR} : va_D (fun q => w.1 ≤ q) (zws w S M L R) := by
  refine ⟨fun i j p q hi hj h => ?_, fun k q hk => ?_⟩
  · have h1 := (zws_inv hi).1
    have h2 := (zws_inv hj).1
    omega
  · have h1 := (zws_inv hk).1
    show w.1 ≤ q.1
    omega
def zu {α : Type} (f : Nat → Nat → α) (o k : Nat) (x : α) : Nat → Nat → α := fun o' => if o' = o then (fun k' => if k' = k then x else f o k') else f o'
theorem zu_o {α : Type} {f : Nat → Nat → α} {o k : Nat} {x : α} : zu f o k x o = fun k' => if k' = k then x else f o k' := by simp [zu]
theorem zu_ne {α : Type} {f : Nat → Nat → α} {o o' k : Nat} {x : α} (h : o' ≠ o) : zu f o k x o' = f o' := by simp [zu, h]
theorem zu_s {α : Type} {f : Nat → Nat → α} {o k : Nat} {x : α} : zu f o k x o k = x := by simp [zu]
theorem zu_k {α : Type} {f : Nat → Nat → α} {o k k' : Nat} {x : α} (h : k' ≠ k) : zu f o k x o k' = f o k' := by simp [zu, h]
theorem zu_at {α : Type} (f : Nat → Nat → α) (o k : Nat) (x : α) (o' k' : Nat) : zu f o k x o' k' = if o' = o ∧ k' = k then x else f o' k' := by
  unfold zu
  by_cases h : o' = o
  · subst h
    simp
  · simp [h]
def zTys : List FieldType := [.int, .char, .long, .object "CrackerRing$State"]
def zK (w : zWo) (U : State) : Prop := (∀ (c : Nat) (q : vw_C), vwCl[c]? = some q → u_Kn U q.1 q.2.1 q.2.2 (w.2.2.1 c) (w.2.2.2.1 c)) ∧ ∀ ty, ty ∈ zTys → ArrOfT U (w.2.2.2.2 ty) ty ∧ va_RA U (w.2.2.2.2 ty) ty
theorem zK.moved {w : zWo} {u U : State} (hvm : u.vm.Alike U.vm) (h : zK w u) : zK w U := ⟨fun c q hq => u_Kn_moved hvm (h.1 c q hq), fun ty hty => ⟨arrOfT_moved hvm (h.2 ty hty).1, (h.2 ty hty).2.moved hvm⟩⟩
theorem zK.va {w : zWo} {U : State} (h : zK w U) {ty : FieldType} (hty : ty ∈ zTys) : va_K (w.2.2.1, w.2.2.2.1) vwCl [(w.2.2.2.2 ty, ty)] U := by
  refine ⟨h.1, fun k q hk => ?_⟩
  have hz : k < 1 := (List.getElem?_eq_some_iff.mp hk).1
  rw [show k = 0 by omega] at hk
  cases hk
  exact h.2 ty hty
theorem zK.nil {w : zWo} {U : State} (h : zK w U) : va_K (w.2.2.1, w.2.2.2.1) vwCl [] U := ⟨h.1, fun k q hk => by simp at hk⟩
def zLW (j : Nat) : Int32 := ([1, 27, 729, 19683, 531441, 14348907] : List Int32).getD j 0
def zTX : String := "person right left holds seam paper thumb box duds hats pull slip bang arm low other number wins or and not all min max first last often total most least "
def zTXb : List Int32 := [112, 101, 114, 115, 111, 110, 32, 114, 105, 103, 104, 116, 32, 108, 101, 102, 116, 32, 104, 111, 108, 100, 115, 32, 115, 101, 97, 109, 32, 112, 97, 112, 101, 114, 32, 116, 104, 117, 109, 98, 32, 98, 111, 120, 32, 100, 117, 100, 115, 32, 104, 97, 116, 115, 32, 112, 117, 108, 108, 32, 115, 108, 105, 112, 32, 98, 97, 110, 103, 32, 97, 114, 109, 32, 108, 111, 119, 32, 111, 116, 104, 101, 114, 32, 110, 117, 109, 98, 101, 114, 32, 119, 105, 110, 115, 32, 111, 114, 32, 97, 110, 100, 32, 110, 111, 116, 32, 97, 108, 108, 32, 109, 105, 110, 32, 109, 97, 120, 32, 102, 105, 114, 115, 116, 32, 108, 97, 115, 116, 32, 111, 102, 116, 101, 110, 32, 116, 111, 116, 97, 108, 32, 109, 111, 115, 116, 32, 108, 101, 97, 115, 116, 32]
def zB (w : zWo) : Nat → Prop := fun q => w.1 ≤ q
def zST (w : zWo) (U : State) (H : Heap) : Prop :=
  va_Z "CrackerRing" "LETTER_WEIGHTS" "[I" (.ref (w.2.1 0)) (zB w) U H ∧ va_T .int (w.2.1 0) 6 (fun j => .int (zLW j)) (zB w) U H ∧
  vk_R "CrackerRing$Text" 49 zTX (w.2.1 2) U ∧ vk_S 1 [153] [zTXb] (fun _ => w.2.1 2) (fun _ => w.2.1 3) (zB w) U H ∧
  va_Z "java/lang/String" "COMPACT_STRINGS" "Z" (.int 1) (zB w) U H ∧
  va_AO "CrackerRing$State" U ∧ va_Nw (.methodLinkNest RX9 141 yX8_sum "CrackerRing") U ∧ va_Nw (.methodLinkNest RX5 52 yX8_sum "CrackerRing") U ∧ va_Nw (.fieldLinkNest RX10 61 "CrackerRing" "LETTER_WEIGHTS" "[I" "CrackerRing") U
theorem zST.warm {w : zWo} {s U : State} {H : Heap} (hW : s.WarmedH U.vm) (h : zST w s H) : zST w U H :=
  ⟨va_Z.moved hW.alike h.1, va_T.moved hW.alike h.2.1, vk_R.warm hW h.2.2.1, vk_S.moved hW.alike h.2.2.2.1, va_Z.moved hW.alike h.2.2.2.2.1, va_AO.moved hW.alike h.2.2.2.2.2.1, va_Nw.warmM hW h.2.2.2.2.2.2.1, va_Nw.warmM hW h.2.2.2.2.2.2.2.1, va_Nw.warmF hW h.2.2.2.2.2.2.2.2⟩
theorem zST.kept {w : zWo} {U : State} {H H1 : Heap} (h : zST w U H) (hq : ∀ a : Nat, a < H.size → ¬ zB w a → H1[a]? = H[a]?) : zST w U H1 :=
  ⟨va_Z.kept h.1 hq, va_T.kept h.2.1 hq, h.2.2.1, vk_S.kept h.2.2.2.1 hq, va_Z.kept h.2.2.2.2.1 hq, h.2.2.2.2.2⟩
theorem zST.call {w : zWo} {U : State} {H : Heap} {g : JFrame} {mk : MethodId} {a : Array Value} (h : zST w U H) : zST w (U.calling g mk a) H :=
  ⟨va_Z.moved (u := U) (U := U.calling g mk a) (Vm.Alike.refl U.vm) h.1, va_T.moved (u := U) (U := U.calling g mk a) (Vm.Alike.refl U.vm) h.2.1, vk_R.same rfl h.2.2.1, vk_S.moved (u := U) (U := U.calling g mk a) (Vm.Alike.refl U.vm) h.2.2.2.1, va_Z.moved (u := U) (U := U.calling g mk a) (Vm.Alike.refl U.vm) h.2.2.2.2.1, va_AO.moved (u := U) (U := U.calling g mk a) (Vm.Alike.refl U.vm) h.2.2.2.2.2.1, va_Nw.same rfl (rfl : U.vm = (U.calling g mk a).vm) h.2.2.2.2.2.2.1, va_Nw.same rfl (rfl : U.vm = (U.calling g mk a).vm) h.2.2.2.2.2.2.2.1, va_Nw.same rfl (rfl : U.vm = (U.calling g mk a).vm) h.2.2.2.2.2.2.2.2⟩
def zs1 (sh : zSh) : Nat := match sh with
  | .inl q => q.1
  | .inr ci => zNN ci
def zsl (S : List zSh) : Nat := (S.map zs1).sum
theorem zsl_push {S : List zSh} {sh : zSh} : zsl (S ++ [sh]) = zsl S + zs1 sh := by simp [zsl]
abbrev zG : Type := Program × Launch × Env × Room × State × MethodId × Array Value × List Frame × Method × Code
abbrev zQ : Type := Option Value → List zSh → zMI → zML → zMR → Prop
-- what a method is: own class, code, locals, answer's type
abbrev zY : Type := String × ByteArray × Nat × Option FieldType × Bool
-- depth, cells at the start, cells and slots that it may make
abbrev zR : Type := Nat × List zSh × Nat × Nat
def zFix (w : zWo) (Y : zY) (B : zR) (G : zG) : Prop := match G with
  | (p, _, _, Rm, s, m, args, _, meth, c) => p.tables.exec = Jvm.exec ∧ c.code = Y.2.1 ∧ c.maxLocals = Y.2.2.1 ∧ s.vm.findClass Y.1 = some m.cls ∧ (∀ q ∈ lw_g, q.before args s = true) ∧ meth.locks = false ∧ meth.sig.returnType = Y.2.2.2.1 ∧
    zK w s ∧ zST w s s.heap ∧ s.heap.size = w.1 + B.2.1.length ∧ B.1 ≤ Rm.frames ∧ 64 * B.1 ≤ Rm.locals ∧ B.2.2.1 ≤ Rm.cells ∧ B.2.2.2 ≤ Rm.slots ∧ (Y.2.2.2.2 = true → meth.name = "<init>")
def zQc (w : zWo) (S : List zSh) (mc ms : Nat) (Q : zQ) : Array Value → State → Outcome → State → Prop := fun _ st o t =>
  (∃ (v : Option Value) (S' : List zSh) (M' : zMI) (L' : zML) (R' : zMR), o = .returned (v.map (zv w)) ∧ Q v S' M' L' R' ∧ S'.length = S.length + mc ∧ zsl S' = zsl S + ms ∧ va_P (w.2.2.1, w.2.2.2.1) vwCl (zws w S' M' L' R') t.heap) ∧ va_F (zB w) st t
def zQS (w : zWo) (B : zR) (G : zG) (E : Option zQ) : State → Prop := match G, E with
  | (_, _, _, _, s, _, args, below, _, _), some Q => MQ below (zQc w B.2.1 B.2.2.1 B.2.2.2 Q) args s B.2.2.1 B.2.2.2 (zB w)
  | (_, _, _, _, s, _, args, below, _, _), none => fun t => ∃ o, t.status = .running ∧ Ended t below o ∧ o = .returned (some (.int 1)) ∧ Framed s o t [] 600000 7302250
def WP (w : zWo) (Y : zY) (B : zR) (G : zG) (E : Option zQ) (pc : Nat) (loc : List (Nat × Value)) (st : List Value) (S : List zSh) (M : zMI) (L : zML) (R : zMR) : Prop := match G with
  | (p, l, e, Rm, s, m, args, below, meth, c) => zFix w Y B (p, l, e, Rm, s, m, args, below, meth, c) → B.2.1.length ≤ S.length → zsl B.2.1 ≤ zsl S → ∀ (H : Heap) (ls : Array Slot) (locs : List Loc),
    va_P (w.2.2.1, w.2.2.2.1) vwCl (zws w S M L R) H → va_S (zB w) s.heap H locs → lv_has ls Y.2.2.1 (loc.map (fun q => (q.1, zv w q.2))) →
    W p l e Rm s m args below meth c H locs (S.length - B.2.1.length) (zsl S - zsl B.2.1) (zQS w B (p, l, e, Rm, s, m, args, below, meth, c) E) (F0 m pc ls (st.map (zv w)))
def zPc (w : zWo) (as : List Value) (S : List zSh) (M : zMI) (L : zML) (R : zMR) : Array Value → State → Prop := fun v U =>
  v = (as.map (zv w)).toArray ∧ U.heap.size = w.1 + S.length ∧ va_P (w.2.2.1, w.2.2.2.1) vwCl (zws w S M L R) U.heap ∧ zK w U ∧ zST w U U.heap
-- a method of class Y.1, called y
def Sp (y : MethodName) (Y : zY) (d : Nat) (as : List Value) (S : List zSh) (M : zMI) (L : zML) (R : zMR) (mc ms : Nat) (Q : zQ) : Prop :=
  ∀ (l : Launch) (w : zWo), Met l y (Cond.code y Y.2.1 Y.2.2.1 Y.2.2.2.1 :: lw_g) { frames := d, cells := mc, slots := ms, locals := 64 * d } (zPc w as S M L R) (zQc w S mc ms Q) mc ms (zB w)
theorem zlv_args (w : zWo) : ∀ (vs : List Value) (i : Nat), lv_args i (vs.map (zv w)) = (lv_args i vs).map (fun q => (q.1, zv w q.2)) := by
  intro vs
  induction vs with
  | nil => intro i; rfl
  | cons v vs ih =>
    intro i
    simp only [List.map_cons, lv_args, zv_cat]
    rw [ih]
theorem zlg_len (w : zWo) (vs : List Value) : (lg_sl (vs.map (zv w))).length = (lg_sl vs).length := by
  induction vs with
  | nil => rfl
  | cons v vs ih =>
    simp only [lg_sl, List.map_cons, List.flatMap_cons, List.length_append, zv_cat] at ih ⊢
    rw [ih]
    by_cases h : v.category = 2 <;> simp [h]
theorem Sp.of {y : MethodName} {Y : zY} {d : Nat} {as : List Value} {S : List zSh} {M : zMI} {L : zML} {R : zMR} {mc ms : Nat} {Q : zQ}
    (hy : plainName y.cls = true) (hY : Y.1 = y.cls) (hi : Y.2.2.2.2 = true → y.name = "<init>") (hn : (lg_sl as).length ≤ Y.2.2.1)
    (k : ∀ (w : zWo) (G : zG), WP w Y (d, S, mc, ms) G (some Q) 0 (lv_args 0 as) [] S M L R) : Sp y Y d as S M L R mc ms Q := by
  intro l w
  refine Met.ofW (cc := Y.2.1) (maxL := Y.2.2.1) (ret := Y.2.2.2.1) hy rfl ?_
  intro p e s m args below meth c s₁ Bd hml hv
  obtain ⟨rfl, hsz, hP, hK, hST⟩ := hv
  have hts := atoms_spec (ws := Cond.code y Y.2.1 Y.2.2.1 Y.2.2.2.1 :: lw_g) Bd.pre
  have hown : s.vm.findClass Y.1 = some m.cls := by rw [hY]; exact findClass_of_methodNamed Bd.named
  have hl := lv_entry (as.map (zv w)) (n := Y.2.2.1) (by rw [zlg_len]; exact hn)
  rw [zlv_args] at hl
  rw [lg_entry_eq]
  have := k w (p, l, e, (headSpec (Cond.code y Y.2.1 Y.2.2.1 Y.2.2.2.1 :: lw_g) { frames := d, cells := mc, slots := ms, locals := 64 * d }).room, s, m, (as.map (zv w)).toArray, below, meth, c)
    ⟨Bd.exec, Bd.bytes, hml, hown, fun q hq => hts q (List.mem_cons_of_mem _ hq), Bd.notSynchronized, Bd.returns, hK, hST, hsz, Nat.le_refl _, Nat.le_refl _, Nat.le_refl _, Nat.le_refl _, fun h => (name_of_methodNamed Bd.named Bd.method).1.trans (hi h)⟩ (Nat.le_refl _) (Nat.le_refl _) s.heap _ [] hP va_S.rf hl
  simp only [Nat.sub_self, List.map_nil] at this
  exact this
