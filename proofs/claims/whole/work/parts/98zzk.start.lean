theorem zt_1 {q : Cond} (j : Nat) (h : tables_1_1[j]? = some q) : q ∈ lw_tbl := by
  have hq := List.mem_of_getElem? h
  exact List.mem_append_right _ (List.mem_append_left _ hq)
theorem zt_2 {q : Cond} (j : Nat) (h : tables_1_2[j]? = some q) : q ∈ lw_tbl := by
  have hq := List.mem_of_getElem? h
  exact List.mem_append_right _ (List.mem_append_right _ (List.mem_append_left _ hq))
theorem zt_3 {q : Cond} (j : Nat) (h : tables_1_3[j]? = some q) : q ∈ lw_tbl := by
  have hq := List.mem_of_getElem? h
  exact List.mem_append_right _ (List.mem_append_right _ ( List.mem_append_right _ (List.mem_append_left _ hq)))
theorem zt_4 {q : Cond} (j : Nat) (h : tables_1_4[j]? = some q) : q ∈ lw_tbl := by
  have hq := List.mem_of_getElem? h
  exact List.mem_append_right _ (List.mem_append_right _ ( List.mem_append_right _ ( List.mem_append_right _ (List.mem_append_left _ hq))))
theorem zt_5 {q : Cond} (j : Nat) (h : tables_1_5[j]? = some q) : q ∈ lw_tbl := by
  have hq := List.mem_of_getElem? h
  exact List.mem_append_right _ (List.mem_append_right _ ( List.mem_append_right _ ( List.mem_append_right _ ( List.mem_append_right _ (List.mem_append_left _ hq)))))
theorem zt_6 {q : Cond} (j : Nat) (h : tables_1_6[j]? = some q) : q ∈ lw_tbl := by
  have hq := List.mem_of_getElem? h
  exact List.mem_append_right _ (List.mem_append_right _ ( List.mem_append_right _ ( List.mem_append_right _ ( List.mem_append_right _ ( List.mem_append_right _ (List.mem_append_left _ hq))))))
theorem zt_7 {q : Cond} (j : Nat) (h : tables_1_7[j]? = some q) : q ∈ lw_tbl := by
  have hq := List.mem_of_getElem? h
  exact List.mem_append_right _ (List.mem_append_right _ ( List.mem_append_right _ ( List.mem_append_right _ ( List.mem_append_right _ ( List.mem_append_right _ ( List.mem_append_right _ (List.mem_append_left _ hq)))))))
theorem zt_8 {q : Cond} (j : Nat) (h : tables_1_8[j]? = some q) : q ∈ lw_tbl := by
  have hq := List.mem_of_getElem? h
  exact List.mem_append_right _ (List.mem_append_right _ ( List.mem_append_right _ ( List.mem_append_right _ ( List.mem_append_right _ ( List.mem_append_right _ ( List.mem_append_right _ ( List.mem_append_right _ (List.mem_append_left _ hq))))))))
theorem zt_9 {q : Cond} (j : Nat) (h : tables_1_9[j]? = some q) : q ∈ lw_tbl := by
  have hq := List.mem_of_getElem? h
  exact List.mem_append_right _ (List.mem_append_right _ ( List.mem_append_right _ ( List.mem_append_right _ ( List.mem_append_right _ ( List.mem_append_right _ ( List.mem_append_right _ ( List.mem_append_right _ ( List.mem_append_right _ (hq)))))))))
def zLWt : Term := .static "CrackerRing" "LETTER_WEIGHTS" "[I"
def zTXt : Term := .string "CrackerRing$Text" 49
theorem znar_in : (Cond.arrayOf zLWt .int) ∈ flatC (Jvm.Cond.and given_1 narrow_1) ∧ (Cond.eq (.length zLWt) (.int 6)) ∈ flatC (Jvm.Cond.and given_1 narrow_1) ∧ (∀ j, j < 6 → (Cond.eq (.elem zLWt (.int (Int32.ofNat j))) (.int (zLW j))) ∈ flatC (Jvm.Cond.and given_1 narrow_1)) ∧ (Cond.eq (.static "java/lang/String" "COMPACT_STRINGS" "Z") (.int 1)) ∈ flatC (Jvm.Cond.and given_1 narrow_1) ∧ (Cond.isRef (.static "jdk/internal/util/Preconditions" "SIOOBE_FORMATTER" "Ljava/util/function/BiFunction;")) ∈ flatC (Jvm.Cond.and given_1 narrow_1) := by decide +kernel
theorem znar_tx : (Cond.exactly zTXt "java/lang/String") ∈ flatC (Jvm.Cond.and given_1 narrow_1) ∧ (Cond.eq (.field zTXt "java/lang/String" "coder" "B") (.int 0)) ∈ flatC (Jvm.Cond.and given_1 narrow_1) ∧ (Cond.arrayOf (.field zTXt "java/lang/String" "value" "[B") .byte) ∈ flatC (Jvm.Cond.and given_1 narrow_1) ∧ (Cond.eq (.length (.field zTXt "java/lang/String" "value" "[B")) (.int 153)) ∈ flatC (Jvm.Cond.and given_1 narrow_1) := by decide +kernel
def zcnd (j : Nat) : Cond := Cond.eq (.elem (.field zTXt "java/lang/String" "value" "[B") (.int (Int32.ofNat j))) (.int (zTXb.getD j 0))
theorem znar_el0 : ((flatC (Jvm.Cond.and given_1 narrow_1)).drop 22).take 153 = (List.range 153).map zcnd := by decide +kernel
theorem znar_el : ∀ j, j < 153 → zcnd j ∈ flatC (Jvm.Cond.and given_1 narrow_1) := by
  intro j hj
  have h : zcnd j ∈ (List.range 153).map zcnd := List.mem_map_of_mem (List.mem_range.mpr hj)
  rw [← znar_el0] at h
  exact List.mem_of_mem_drop (List.mem_of_mem_take h)

theorem zku {s : State} {args : Array Value} (hts : ∀ q ∈ lw_g, q.before args s = true) {own : String} {idx ci : Nat} (hN : zN own idx ci) : ∃ r : ClassId × (Nat → Nat), ∀ q : vw_C, vwCl[ci]? = some q → u_Kn s q.1 q.2.1 q.2.2 r.1 r.2 := by
  obtain ⟨C, T, N, hcl, n1, n2, n3, n4⟩ := hN
  obtain ⟨z1, z2, z3, z4, z5⟩ := zC ci C T N hcl
  obtain ⟨cC, iS, h⟩ := u_known (C := C) (T := T) (N := N) (n := N) hts z1 (hts _ n2)
  refine ⟨(cC, iS), fun q hq => ?_⟩
  rw [hcl] at hq
  cases hq
  exact h
theorem zku_all {s : State} {args : Array Value} (hts : ∀ q ∈ lw_g, q.before args s = true) (ci : Nat) : ∃ r : ClassId × (Nat → Nat), ∀ q : vw_C, vwCl[ci]? = some q → u_Kn s q.1 q.2.1 q.2.2 r.1 r.2 := by
  match ci with
  | 0 => exact zku hts zn_RX9_53
  | 1 => exact zku hts zn_RX11_91
  | 2 => exact zku hts zn_RX11_59
  | 3 => exact zku hts zn_RX11_75
  | 4 => exact zku hts zn_RX11_66
  | 5 => exact zku hts zn_RX11_43
  | 6 => exact zku hts zn_RX11_84
  | 7 => exact zku hts zn_RX11_52
  | 8 => exact zku hts zn_RX11_24
  | 9 => exact zku hts zn_RX11_33
  | 10 => exact zku hts zn_RX11_17
  | 11 => exact zku hts zn_RL_7
  | 12 => exact zku hts zn_RL_10
  | k + 13 => exact ⟨(0, fun _ => 0), fun q hq => by simp [vwCl] at hq⟩
theorem zka {s : State} {args : Array Value} {ty : FieldType} (h : (Cond.arrayClass ty).before args s = true) (ht : ∀ C, ty ≠ .object C) : ∃ cA : ClassId, ArrOfT s cA ty ∧ va_RA s cA ty := by
  obtain ⟨cA, kA, comp, h1, h2, h3⟩ := Cond.arrayClass_spec h
  refine ⟨cA, fun n z => ⟨fun k h => (by cases h), kA, h2, comp, h3⟩, ?_⟩
  cases ty with
  | object C => exact absurd rfl (ht C)
  | _ => exact h1
theorem zko {s : State} {C : String} (h : va_AO C s) : ∃ cA : ClassId, ArrOfT s cA (.object C) ∧ va_RA s cA (.object C) := by
  obtain ⟨comp, cA, kA, h1, h2, h3, h4, h5⟩ := Cond.arrayOver_spec h
  exact ⟨cA, fun n z => ⟨fun k h => (by cases h), kA, h3, comp, h4⟩, kA, comp, h3, h4, h1, h5⟩
def zSel (a0 a1 a2 a3 a4 : Nat) : UInt32 → Nat := fun x => if x = 0 then a0 else if x = 1 then a1 else if x = 2 then a2 else if x = 3 then a3 else a4
theorem zSel_all {a0 a1 a2 a3 a4 : Nat} : zSel a0 a1 a2 a3 a4 0 = a0 ∧ zSel a0 a1 a2 a3 a4 1 = a1 ∧ zSel a0 a1 a2 a3 a4 2 = a2 ∧ zSel a0 a1 a2 a3 a4 3 = a3 ∧ zSel a0 a1 a2 a3 a4 4 = a4 := ⟨rfl, rfl, rfl, rfl, rfl⟩
def zArr (a b c d : ClassId) : FieldType → ClassId := fun ty => match ty with
  | .int => a
  | .char => b
  | .long => c
  | _ => d
theorem zworld {s : State} {args : Array Value} {b : Nat} (hts : ∀ q ∈ lw_tbl, q.before args s = true) (hgv : (Jvm.Cond.and given_1 narrow_1).before args s = true) : ∃ w : zWo, w.1 = s.heap.size ∧ w.2.1 1 = b ∧ zK w s ∧ zST w s s.heap ∧ zSX w s s.heap := by
  have hs := flat_of_before _ hgv
  have hg : ∀ q ∈ lw_g, q.before args s = true := fun q hq => hts q (List.mem_filter.mp hq).1
  have hA : ∀ a : Nat, a < s.heap.size → ¬ (fun q : Nat => s.heap.size ≤ q) a := fun a h => Nat.not_le.mpr h
  obtain ⟨f, hf⟩ := Classical.axiomOfChoice (zku_all hg)
  obtain ⟨cI, hI1, hI2⟩ := zka (hg _ zg_aint) (fun C h => by cases h)
  obtain ⟨cC, hC1, hC2⟩ := zka (hg _ zg_achar) (fun C h => by cases h)
  obtain ⟨cL, hL1, hL2⟩ := zka (hg _ zg_along) (fun C h => by cases h)
  have hAO : va_AO "CrackerRing$State" s := va_AO.of (A := args) (hts _ (zt_2 70 rfl))
  obtain ⟨cO, hO1, hO2⟩ := zko hAO
  obtain ⟨n1, n2, n3, n4, n5⟩ := znar_in
  obtain ⟨t1, t2, t3, t4⟩ := znar_tx
  obtain ⟨a0, hv0, hT0⟩ := va_Tof (tm := zLWt) (ty := .int) (N := 6) (f := fun j => .int (zLW j)) (by decide) (hs _ n1) (va_eqt (hs _ n2)) (fun j hj => va_eqt (hs _ (n3 j hj))) hA
  have hZ0 := va_Zof (A := fun q : Nat => s.heap.size ≤ q) (hts _ (zt_1 85 rfl)) (hts _ (zt_1 1 rfl)) hv0 hA
  have hZ1 := va_Zof (A := fun q : Nat => s.heap.size ≤ q) (hts _ (zt_1 45 rfl)) (hts _ (zt_1 3 rfl)) (va_eqi (hs _ n4)) hA
  have hZ2 := va_Zqof (A := fun q : Nat => s.heap.size ≤ q) (hts _ (zt_1 61 rfl)) (hts _ (zt_1 5 rfl)) (hs _ n5) hA
  obtain ⟨adK, adV, hvS, hvt⟩ := vk_Sof (args := args) (s := s) (N := 1) (tm := fun _ => zTXt) (len := [153]) (byt := [zTXb]) (A := fun q : Nat => s.heap.size ≤ q) (fun i hi => by rw [show i = 0 by omega]; decide) (fun i hi => hs _ t1) (fun i hi => hs _ t2) (fun i hi => hs _ t3) (fun i hi => by rw [show i = 0 by omega]; exact hs _ t4)
    (fun i hi j hj => by rw [show i = 0 by omega] at hj ⊢; exact hs _ (znar_el j hj)) (fun i j hi hj h => absurd (by omega : i = j) h) hA
  have hst := hts _ (zt_1 35 rfl)
  have hnest1 := va_Nw.of (by rfl) (hts _ (zt_3 176 rfl))
  have hnest2 := va_Nw.of (by rfl) (hts _ (zt_5 137 rfl))
  have hnest3 := va_Nw.of (by rfl) (hts _ (zt_1 84 rfl))
  obtain ⟨a4, ha4⟩ : ∃ a4 : Nat, va_Z "jdk/internal/util/Preconditions" "SIOOBE_FORMATTER" "Ljava/util/function/BiFunction;" .null (fun q : Nat => s.heap.size ≤ q) s s.heap ∨ va_Z "jdk/internal/util/Preconditions" "SIOOBE_FORMATTER" "Ljava/util/function/BiFunction;" (.ref a4) (fun q : Nat => s.heap.size ≤ q) s s.heap := by
    rcases hZ2 with h | ⟨t, h⟩
    · exact ⟨0, Or.inl h⟩
    · exact ⟨t, Or.inr h⟩
  refine ⟨(s.heap.size, zSel a0 b (adK 0) (adV 0) a4, (fun c => (f c).1), (fun c => (f c).2), zArr cI cC cL cO), rfl, rfl, ⟨fun c q hq => hf c q hq, fun ty hty => ?_⟩, ⟨hZ0, hT0, vk_R.of (A := args) hst (hvt 0 (by decide)), ⟨fun i hi => ?_, fun i j hi hj _ => by omega⟩, hZ1, hAO, hnest1, hnest2, hnest3⟩, ?_⟩
  · simp only [zTys, List.mem_cons, List.not_mem_nil, or_false] at hty
    rcases hty with rfl | rfl | rfl | rfl
    · exact ⟨hI1, hI2⟩
    · exact ⟨hC1, hC2⟩
    · exact ⟨hL1, hL2⟩
    · exact ⟨hO1, hO2⟩
  · have := hvS.1 0 (by decide)
    rw [show i = 0 by omega]
    exact this
  · rcases ha4 with h | h
    · exact ⟨.null, Or.inl rfl, h⟩
    · exact ⟨.float 4, Or.inr rfl, h⟩

