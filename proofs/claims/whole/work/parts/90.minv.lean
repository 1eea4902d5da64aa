def zLE : List Nat → Nat
  | [] => 0
  | c :: r => c + 27 * zLE r
def zBE (l : List Nat) : Nat := l.foldl (fun v c => 27 * v + c) 0
def zNm (x y : Nat) : Prop := ∃ l : List Nat, 1 ≤ l.length ∧ l.length ≤ 6 ∧ (∀ c, c ∈ l → 1 ≤ c ∧ c ≤ 26) ∧ x = zLE l ∧ y = zBE l
def zMd (M : zMI) (L : zML) (n : Nat) (g : zGd) : Prop := M 204 3 = nI g.2.1 ∧ g.2.1 ≤ 4 ∧ (∀ i, i < n → ∃ y, L 205 (12 + i) = lN y ∧ zNm (g.1 i) y) ∧ (∀ i, i < g.2.1 → ∃ y, L 205 (20 + i) = lN y ∧ zNm (g.2.2.1 i) y) ∧ (∀ j, j < g.2.1 → M 207 (4 + j) = nI (g.2.2.2.1 j) ∧ g.2.2.2.1 j ≤ 100) ∧ M 208 1 = nI g.2.2.2.2.1 ∧ g.2.2.2.2.1 ≤ 100
def zMk (M : zMI) (n : Nat) (hs : List (Nat → Nat)) : Prop := ∃ nw, nw < 20 ∧ hs.length ≤ 20 ∧ M 177 67 = nI nw ∧ M 177 66 = nI hs.length ∧ ∀ i u, hs[i]? = some u → zV n u ∧ ∀ j, j < 3 + 6 * n → M 226 (51 * ((nw + 20 - i) % 20) + j) = nI (u j)
def zMm (M : zMI) (L : zML) (m : zMs) : Prop := M 177 1 = nI m.1 ∧ m.1 ≤ 1600 ∧ (∀ i, i < m.1 → M 178 i = nI (m.2.1 i) ∧ m.2.1 i < 256) ∧ (∀ i, i < 6 → M 179 i = m.2.2.1 i) ∧ L 177 68 = lN m.2.2.2.1 ∧ m.2.2.2.1 < 2147483648 ∧ M 177 7 = m.2.2.2.2.1 ∧ M 177 8 = m.2.2.2.2.2.1 ∧ M 177 98 = nI m.2.2.2.2.2.2.1 ∧ m.2.2.2.2.2.2.1 ≤ 55 ∧ ∀ i, i < m.2.2.2.2.2.2.1 → M 248 i = nI (m.2.2.2.2.2.2.2 i)
def zWd (M : zMI) (o w : Nat) : Prop := ∀ i x, (zWL.getD w [])[i]? = some x → M o i = nI x
def zqW (j : Nat) : Nat := [24, 25, 26, 27, 28, 29, 20, 19, 18, 21, 22, 23, 16, 1, 2, 9, 6, 17].getD j 0
def zWds (M : zMI) : Prop := (∀ w, w < 24 → zWd M (180 + w) w) ∧ ∀ j, j < 18 → zWd M (227 + j) (zqW j)
def zMo (M : zMI) (L : zML) (n : Nat) (g : zGd) (v : Nat → Nat) (hs : List (Nat → Nat)) (m : zMs) : Prop := zMc M n g.2.2.2.2.2 v ∧ zMd M L n g ∧ zMk M n hs ∧ zMm M L m ∧ zWds M
def zYf (M M' : zMI) (L L' : zML) : Prop := ∀ x, x < 177 → M' x = M x ∧ L' x = L x
theorem zYf_r {M : zMI} {L : zML} : zYf M M L L := fun _ _ => ⟨rfl, rfl⟩
theorem zYf_o {M M' : zMI} {L L' : zML} (h : zTo M M' L L') : zYf M M' L L' := fun x hx => ⟨h.1 x (by omega) (by omega), h.2.2 x (by omega)⟩
theorem zMd_fr {M M' : zMI} {L L' : zML} {n : Nat} {g : zGd} (h : zMd M L n g) (e1 : M' 204 = M 204) (e2 : L' 205 = L 205) (e3 : M' 207 = M 207) (e4 : M' 208 = M 208) : zMd M' L' n g := by
  unfold zMd at *
  rw [e1, e2, e3, e4]
  exact h
theorem zMk_fr {M M' : zMI} {n : Nat} {hs : List (Nat → Nat)} (h : zMk M n hs) (e1 : M' 177 66 = M 177 66) (e2 : M' 177 67 = M 177 67) (e3 : M' 226 = M 226) : zMk M' n hs := by
  unfold zMk at *
  rw [e1, e2, e3]
  exact h
theorem zMm_fr {M M' : zMI} {L L' : zML} {m : zMs} (h : zMm M L m) (e : ∀ k, k = 1 ∨ k = 7 ∨ k = 8 ∨ k = 98 → M' 177 k = M 177 k) (e1 : M' 178 = M 178) (e2 : M' 179 = M 179) (e3 : M' 248 = M 248) (e4 : L' 177 68 = L 177 68) : zMm M' L' m := by
  unfold zMm at *
  rw [e1, e2, e3, e4, e 1 (by decide), e 7 (by decide), e 8 (by decide), e 98 (by decide)]
  exact h
theorem zWds_fr {M M' : zMI} (h : zWds M) (e : ∀ x, (180 ≤ x ∧ x < 204) ∨ (227 ≤ x ∧ x < 245) → M' x = M x) : zWds M' := ⟨fun w hw i x hx => by rw [e _ (by omega)]; exact h.1 w hw i x hx, fun w hw i x hx => by rw [e _ (by omega)]; exact h.2 w hw i x hx⟩
-- cells of the reference that a question leaves
def zKp (x : Nat) : Prop := (178 ≤ x ∧ x ≤ 211) ∨ x = 215 ∨ (226 ≤ x ∧ x ≤ 244) ∨ x = 248
def zKk (k : Nat) : Prop := k = 1 ∨ k = 7 ∨ k = 8 ∨ k = 66 ∨ k = 67 ∨ k = 98
theorem zMo_fr {M M' : zMI} {L L' : zML} {n : Nat} {g : zGd} {v : Nat → Nat} {hs : List (Nat → Nat)} {m : zMs} (h : zMo M L n g v hs m) (e : ∀ x, zKp x → M' x = M x) (ek : ∀ k, zKk k → M' 177 k = M 177 k) (l1 : L' 205 = L 205) (l2 : L' 177 68 = L 177 68) : zMo M' L' n g v hs m := by
  obtain ⟨a1, a2, a3, a4, a5⟩ := h
  refine ⟨zMc_fr a1 (fun x hx => e x (by unfold zKp; omega)), zMd_fr a2 (e 204 (by unfold zKp; omega)) l1 (e 207 (by unfold zKp; omega)) (e 208 (by unfold zKp; omega)), zMk_fr a3 (ek 66 (by unfold zKk; omega)) (ek 67 (by unfold zKk; omega)) (e 226 (by unfold zKp; omega)), zMm_fr a4 (fun k hk => ek k (by unfold zKk; omega)) (e 178 (by unfold zKp; omega)) (e 179 (by unfold zKp; omega)) (e 248 (by unfold zKp; omega)) l2, zWds_fr a5 (fun x hx => e x (by unfold zKp; omega))⟩
theorem zMo_o {M M' : zMI} {L L' : zML} {n : Nat} {g : zGd} {v : Nat → Nat} {hs : List (Nat → Nat)} {m : zMs} (h : zMo M L n g v hs m) (e : zTo M M' L L') : zMo M' L' n g v hs m :=
  zMo_fr h (fun x hx => e.1 x (by unfold zKp at hx; omega) (by unfold zKp at hx; omega)) (fun k hk => e.2.1 k (by unfold zKk at hk; omega)) (e.2.2 205 (by decide)) (by rw [e.2.2 177 (by decide)])
def zMn (M : zMI) (L : zML) (t n : Nat) (g : zGd) (v : Nat → Nat) (hs : List (Nat → Nat)) (m : zMs) (a : Value) : Option Value → zMI → zML → zMR → Prop := fun v0 M' L' R' => v0 = some a ∧ R' = zRf t ∧ zMo M' L' n g v hs m ∧ zYf M M' L L'
-- a change of tape, refusals, seed, picture alone
theorem zMo_m {M M' : zMI} {L L' : zML} {n : Nat} {g : zGd} {v : Nat → Nat} {hs : List (Nat → Nat)} {m m' : zMs} (h : zMo M L n g v hs m) (e : ∀ x, x ≠ 177 → x ≠ 178 → x ≠ 179 → x ≠ 248 → M' x = M x) (ek : ∀ k, k = 66 ∨ k = 67 → M' 177 k = M 177 k) (l1 : L' 205 = L 205) (hm : zMm M' L' m') : zMo M' L' n g v hs m' := by
  obtain ⟨a1, a2, a3, a4, a5⟩ := h
  exact ⟨zMc_fr a1 (fun x hx => e x (by omega) (by omega) (by omega) (by omega)), zMd_fr a2 (e 204 (by omega) (by omega) (by omega) (by omega)) l1 (e 207 (by omega) (by omega) (by omega) (by omega)) (e 208 (by omega) (by omega) (by omega) (by omega)), zMk_fr a3 (ek 66 (by decide)) (ek 67 (by decide)) (e 226 (by omega) (by omega) (by omega) (by omega)), hm, zWds_fr a5 (fun x hx => e x (by omega) (by omega) (by omega) (by omega))⟩
theorem zMo_rf {M : zMI} {L : zML} {n k : Nat} {g : zGd} {v : Nat → Nat} {hs : List (Nat → Nat)} {m : zMs} (h : zMo M L n g v hs m) (hk : k < 6) : zMo (zu M 179 k (M 179 k + nI 1)) L n g v hs (zMup m k) := by
  refine zMo_m h (fun x x1 x2 x3 x4 => zu_ne x3) (fun k hk => by rw [zu_ne (by decide)]) rfl ?_
  obtain ⟨c1, c2, c3, c4, c5, c6, c7, c8, c9, c10, c11⟩ := h.2.2.2.1
  refine ⟨by rw [zu_ne (by decide)]; exact c1, c2, fun i hi => by rw [zu_ne (by decide)]; exact c3 i hi, fun i hi => ?_, c5, c6, by rw [zu_ne (by decide)]; exact c7, by rw [zu_ne (by decide)]; exact c8, by rw [zu_ne (by decide)]; exact c9, c10, fun i hi => by rw [zu_ne (by decide)]; exact c11 i hi⟩
  show zu M 179 k (M 179 k + nI 1) 179 i = if i = k then m.2.2.1 i + 1 else m.2.2.1 i
  by_cases e : i = k
  · subst e
    rw [zu_s, if_pos rfl, c4 i hi]
    rfl
  · rw [zu_k e, if_neg e, c4 i hi]
theorem zYf_rf {M : zMI} {L : zML} {o k : Nat} {x : Int32} (ho : 177 ≤ o) : zYf M (zu M o k x) L L := fun x hx => ⟨zu_ne (by omega), rfl⟩
set_option maxHeartbeats 4000000 in
set_option maxRecDepth 100000 in
theorem sp_mfault {d t n : Nat} {x : Int32} {M : zMI} {L : zML} {g : zGd} {v : Nat → Nat} {hs : List (Nat → Nat)} {m : zMs} (h : zMo M L n g v hs m) : Sy yX12_fault YX12_fault (d) [.ref 177, .int x] M L (zRf t) (zMn M L t n g v hs m (.int (if x = 0 then m.2.2.2.2.1 else if x = nI 1 then m.2.2.2.2.2.1 else -1))) := by
  refine Sp.of (by decide +kernel) rfl (fun h => by first | exact h | cases h) (Nat.le_of_ble_eq_true rfl) ?_
  intro w G
  obtain ⟨c1, c2, c3, c4, c5, c6, c7, c8, c9, c10, c11⟩ := h.2.2.2.1
  refine wp_iload_n (q := 1) dX12_fault_0 1 rfl rfl ?_
  refine wp_if_ne (tgt := 11) (q := 4) dX12_fault_1 (by decide) rfl (fun h0 => ?_) (fun h0 => ?_)
  · skip
    refine wp_iload_n (q := 12) dX12_fault_11 1 rfl rfl ?_
    refine wp_iconst (q := 13) dX12_fault_12 zq_iconst_1 rfl ?_
    refine wp_icmp_ne (tgt := 23) (q := 16) dX12_fault_13 (by decide) rfl (fun h1 => ?_) (fun h1 => ?_)
    · skip
      refine wp_iconst (q := 24) dX12_fault_23 zq_iconst_m1 rfl ?_
      exact wp_ireturn dX12_fault_24 rfl ⟨rfl, ⟨by rw [if_neg h0, if_neg h1], rfl, h, zYf_r⟩⟩ rfl rfl
    · skip
      refine wp_aload_n (q := 17) dX12_fault_16 0 rfl rfl ?_
      refine wp_getI (q := 20) dX12_fault_17 zf_RX12_13 rfl zsh_177 rfl ?_
      rw [c8]
      refine wp_goto (tgt := 24) dX12_fault_20 (by decide) ?_
      exact wp_ireturn dX12_fault_24 rfl ⟨rfl, ⟨by rw [if_neg h0, if_pos h1], rfl, h, zYf_r⟩⟩ rfl rfl
  · skip
    refine wp_aload_n (q := 5) dX12_fault_4 0 rfl rfl ?_
    refine wp_getI (q := 8) dX12_fault_5 zf_RX12_353 rfl zsh_177 rfl ?_
    rw [c7]
    refine wp_goto (tgt := 24) dX12_fault_8 (by decide) ?_
    exact wp_ireturn dX12_fault_24 rfl ⟨rfl, ⟨by rw [if_pos h0], rfl, h, zYf_r⟩⟩ rfl rfl
set_option maxHeartbeats 4000000 in
set_option maxRecDepth 100000 in
theorem sp_mstatus {d t n : Nat} {x : Int32} {M : zMI} {L : zML} {g : zGd} {v : Nat → Nat} {hs : List (Nat → Nat)} {m : zMs} (h : zMo M L n g v hs m) {r : Int32} (hr : ∀ k, k < 6 → x = nI k → m.2.2.1 k = r) (hr2 : ¬ zin x 6 → r = -1) : Sy yX12_status YX12_status (d + 1) [.ref 177, .int x] M L (zRf t) (zMn M L t n g v hs m (.int r)) := by
  refine Sp.of (by decide +kernel) rfl (fun h => by first | exact h | cases h) (Nat.le_of_ble_eq_true rfl) ?_
  intro w G
  obtain ⟨c1, c2, c3, c4, c5, c6, c7, c8, c9, c10, c11⟩ := h.2.2.2.1
  refine wp_iload_n (q := 1) dX12_status_0 1 rfl rfl ?_
  refine wp_i2l (q := 2) dX12_status_1 rfl ?_
  refine wp_lconst (q := 3) dX12_status_2 zq_lconst_0 rfl ?_
  refine wp_ldc2_w (q := 6) dX12_status_3 zk_RX12_475 rfl ?_
  rw [zlitL 5]
  refine wp_csx (q := 9) (sp_isIn (d := 0)) zm_X12_isIn zl_RX12_276 dX12_status_6 rfl (by omega) (Nat.le_of_ble_eq_true rfl) rfl ?_
  by_cases c : zin x 6
  · rw [if_pos ((zis1 (by decide)).mpr c)]
    obtain ⟨k, hk, rfl⟩ := zin_n (by decide) c
    refine wp_if_eqN (tgt := 21) (q := 12) dX12_status_9 (by decide) rfl (by omega) (fun hn => absurd hn (by first | omega | exact fun h => h | exact fun h => h trivial)) (fun _ => ?_)
    refine wp_aload_n (q := 13) dX12_status_12 0 rfl rfl ?_
    refine wp_getR (q := 16) dX12_status_13 zf_RX12_17 rfl zsh_177 (zr_177_9 _) rfl ?_
    refine wp_iload_n (q := 17) dX12_status_16 1 rfl rfl ?_
    refine wp_iald (q := 18) _ dX12_status_17 zsh_179 rfl (by omega) (by decide) rfl ?_
    rw [c4 k hk]
    refine wp_goto (tgt := 22) dX12_status_18 (by decide) ?_
    exact wp_ireturn dX12_status_22 rfl ⟨rfl, ⟨by rw [hr k hk rfl], rfl, h, zYf_r⟩⟩ rfl rfl
  · rw [if_neg (fun e => c ((zis1 (by decide)).mp e))]
    refine wp_if_eqN (tgt := 21) (q := 12) dX12_status_9 (by decide) rfl (by omega) (fun _ => ?_) (fun hn => absurd hn (by first | omega | exact fun h => h | exact fun h => h trivial))
    refine wp_iconst (q := 22) dX12_status_21 zq_iconst_m1 rfl ?_
    exact wp_ireturn dX12_status_22 rfl ⟨rfl, ⟨by rw [hr2 c], rfl, h, zYf_r⟩⟩ rfl rfl
set_option maxHeartbeats 4000000 in
set_option maxRecDepth 100000 in
theorem sp_moctet {d t n : Nat} {x : Int32} {M : zMI} {L : zML} {g : zGd} {v : Nat → Nat} {hs : List (Nat → Nat)} {m : zMs} (h : zMo M L n g v hs m) {r : Int32} (hr : ∀ k, k < m.2.2.2.2.2.2.1 → x = nI k → nI (m.2.2.2.2.2.2.2 k) = r) (hr2 : ¬ zin x m.2.2.2.2.2.2.1 → r = -1) : Sy yX12_octet YX12_octet (d) [.ref 177, .int x] M L (zRf t) (zMn M L t n g v hs m (.int r)) := by
  refine Sp.of (by decide +kernel) rfl (fun h => by first | exact h | cases h) (Nat.le_of_ble_eq_true rfl) ?_
  intro w G
  obtain ⟨c1, c2, c3, c4, c5, c6, c7, c8, c9, c10, c11⟩ := h.2.2.2.1
  refine wp_iload_n (q := 1) dX12_octet_0 1 rfl rfl ?_
  refine wp_if_lt (tgt := 21) (q := 4) dX12_octet_1 (by decide) rfl (fun c0 => ?_) (fun c0 => ?_)
  · skip
    refine wp_iconst (q := 22) dX12_octet_21 zq_iconst_m1 rfl ?_
    exact wp_ireturn dX12_octet_22 rfl ⟨rfl, ⟨by rw [hr2 (fun e => Int32.not_le.mpr c0 e.1)], rfl, h, zYf_r⟩⟩ rfl rfl
  · skip
    refine wp_iload_n (q := 5) dX12_octet_4 1 rfl rfl ?_
    refine wp_aload_n (q := 6) dX12_octet_5 0 rfl rfl ?_
    refine wp_getI (q := 9) dX12_octet_6 zf_RX12_714 rfl zsh_177 rfl ?_
    rw [c9]
    refine wp_icmp_ge (tgt := 21) (q := 12) dX12_octet_9 (by decide) rfl (fun c1' => ?_) (fun c1' => ?_)
    · skip
      refine wp_iconst (q := 22) dX12_octet_21 zq_iconst_m1 rfl ?_
      exact wp_ireturn dX12_octet_22 rfl ⟨rfl, ⟨by rw [hr2 (fun e => Int32.not_le.mpr e.2 c1')], rfl, h, zYf_r⟩⟩ rfl rfl
    · skip
      obtain ⟨k, hk, rfl⟩ := zin_n (m := m.2.2.2.2.2.2.1) (by omega) ⟨Int32.not_lt.mp c0, Int32.not_le.mp c1'⟩
      refine wp_aload_n (q := 13) dX12_octet_12 0 rfl rfl ?_
      refine wp_getR (q := 16) dX12_octet_13 zf_RX12_230 rfl zsh_177 (zr_177_97 _) rfl ?_
      refine wp_iload_n (q := 17) dX12_octet_16 1 rfl rfl ?_
      refine wp_iald (q := 18) _ dX12_octet_17 zsh_248 rfl (by omega) (by decide) rfl ?_
      rw [c11 k hk]
      refine wp_goto (tgt := 22) dX12_octet_18 (by decide) ?_
      exact wp_ireturn dX12_octet_22 rfl ⟨rfl, ⟨by rw [hr k hk rfl], rfl, h, zYf_r⟩⟩ rfl rfl
theorem zMm_t {M M' : zMI} {L : zML} {m : zMs} {k : Nat} {b : Nat → Nat} (h : zMm M L m) (hk : k ≤ 1600) (hb : ∀ i, i < k → M' 178 i = nI (b i) ∧ b i < 256) (e : M' 177 1 = nI k) (e0 : ∀ j, j ≠ 1 → M' 177 j = M 177 j) (e1 : ∀ x, x ≠ 177 → x ≠ 178 → M' x = M x) : zMm M' L (zMt m k b) := by
  obtain ⟨c1, c2, c3, c4, c5, c6, c7, c8, c9, c10, c11⟩ := h
  exact ⟨e, hk, hb, fun i hi => by rw [e1 179 (by decide) (by decide)]; exact c4 i hi, c5, c6, by rw [e0 7 (by decide)]; exact c7, by rw [e0 8 (by decide)]; exact c8, by rw [e0 98 (by decide)]; exact c9, c10, fun i hi => by rw [e1 248 (by decide) (by decide)]; exact c11 i hi⟩
set_option maxHeartbeats 4000000 in
set_option maxRecDepth 100000 in
theorem sp_mend {d t n e : Nat} {M : zMI} {L : zML} {g : zGd} {v : Nat → Nat} {hs : List (Nat → Nat)} {m : zMs} (h : zMo M L n g v hs m) (he : e ≤ m.1) : Sy yX12_end YX12_end (d) [.ref 177, .int (nI e)] M L (zRf t) (zMn M L t n g v hs (zMt m e m.2.1) (.int (nI 1))) := by
  refine Sp.of (by decide +kernel) rfl (fun h => by first | exact h | cases h) (Nat.le_of_ble_eq_true rfl) ?_
  intro w G
  obtain ⟨c1, c2, c3, c4, c5, c6, c7, c8, c9, c10, c11⟩ := h.2.2.2.1
  refine wp_iload_n (q := 1) dX12_end_0 1 rfl rfl ?_
  refine wp_if_ltN (tgt := 12) (q := 4) dX12_end_1 (by decide) rfl (by omega) (fun hn => absurd hn (by first | omega | exact fun h => h | exact fun h => h trivial)) (fun _ => ?_)
  refine wp_iload_n (q := 5) dX12_end_4 1 rfl rfl ?_
  refine wp_aload_n (q := 6) dX12_end_5 0 rfl rfl ?_
  refine wp_getI (q := 9) dX12_end_6 zf_RX12_233 rfl zsh_177 rfl ?_
  rw [c1]
  refine wp_icmp_leN (tgt := 24) (q := 12) dX12_end_9 (by decide) rfl (by omega) (by omega) (fun _ => ?_) (fun hn => absurd hn (by first | omega | exact fun h => h | exact fun h => h trivial))
  refine wp_aload_n (q := 25) dX12_end_24 0 rfl rfl ?_
  refine wp_iload_n (q := 26) dX12_end_25 1 rfl rfl ?_
  refine wp_putI (q := 29) dX12_end_26 zf_RX12_233 rfl zsh_177 rfl ?_
  refine wp_iconst (q := 30) dX12_end_29 zq_iconst_1 rfl ?_
  exact wp_zreturn dX12_end_30 rfl (by first | with_reducible exact znar_0 | with_reducible exact znar_1 | assumption) ⟨rfl, ⟨rfl, rfl, zMo_m h (fun x x1 x2 x3 x4 => zu_ne x1) (fun k hk => zu_k (by omega)) rfl (zMm_t h.2.2.2.1 (by omega) (fun i hi => by rw [zu_ne (by decide)]; exact c3 i (by omega)) zu_s (fun j hj => zu_k hj) (fun x x1 x2 => zu_ne x1)), zYf_rf (by decide)⟩⟩ rfl rfl
set_option maxHeartbeats 4000000 in
set_option maxRecDepth 100000 in
theorem sp_mendN {d t n : Nat} {x : Int32} {M : zMI} {L : zML} {g : zGd} {v : Nat → Nat} {hs : List (Nat → Nat)} {m : zMs} (h : zMo M L n g v hs m) (he : ¬ zin x (m.1 + 1)) : Sy yX12_end YX12_end (d) [.ref 177, .int x] M L (zRf t) (zMn M L t n g v hs (zMup m 0) (.int (nI 0))) := by
  refine Sp.of (by decide +kernel) rfl (fun h => by first | exact h | cases h) (Nat.le_of_ble_eq_true rfl) ?_
  intro w G
  obtain ⟨c1, c2, c3, c4, c5, c6, c7, c8, c9, c10, c11⟩ := h.2.2.2.1
  have fin : WP w YX12_end (d, SS, 0, 0) G (some (zXp (zMn M L t n g v hs (zMup m 0) (.int (nI 0))))) 12 [(0, .ref 177), (1, .int x)] [] SS M L (zRf t) := by
    refine wp_aload_n (q := 13) dX12_end_12 0 rfl rfl ?_
    refine wp_getR (q := 16) dX12_end_13 zf_RX12_17 rfl zsh_177 (zr_177_9 _) rfl ?_
    refine wp_iconst (q := 17) dX12_end_16 zq_iconst_0 rfl ?_
    first | refine wp_dup2 (q := 18) dX12_end_17 rfl rfl rfl ?_ | refine wp_dup2L (q := 18) dX12_end_17 rfl rfl ?_
    refine wp_iald (q := 19) _ dX12_end_18 zsh_179 rfl (by omega) (by decide) rfl ?_
    refine wp_iconst (q := 20) dX12_end_19 zq_iconst_1 rfl ?_
    refine wp_iadd (q := 21) dX12_end_20 rfl ?_
    refine wp_iast (q := 22) _ dX12_end_21 zsh_179 rfl (by omega) (by decide) rfl ?_
    refine wp_iconst (q := 23) dX12_end_22 zq_iconst_0 rfl ?_
    exact wp_zreturn dX12_end_23 rfl (by first | with_reducible exact znar_0 | with_reducible exact znar_1 | assumption) ⟨rfl, ⟨rfl, rfl, zMo_rf h (by decide), zYf_rf (by decide)⟩⟩ rfl rfl
  refine wp_iload_n (q := 1) dX12_end_0 1 rfl rfl ?_
  refine wp_if_lt (tgt := 12) (q := 4) dX12_end_1 (by decide) rfl (fun hz => ?_) (fun hz => ?_)
  · skip
    refine WP.sub (loc' := [(0, _), (1, _)]) [0, 1] rfl ?_
    exact fin
  · skip
    refine wp_iload_n (q := 5) dX12_end_4 1 rfl rfl ?_
    refine wp_aload_n (q := 6) dX12_end_5 0 rfl rfl ?_
    refine wp_getI (q := 9) dX12_end_6 zf_RX12_233 rfl zsh_177 rfl ?_
    rw [c1]
    refine wp_icmp_le (tgt := 24) (q := 12) dX12_end_9 (by decide) rfl (fun hn => absurd hn (by exact fun c => he ⟨Int32.not_lt.mp hz, by rw [Int32.lt_iff_toInt_lt, nI_toInt (by omega)]; rw [Int32.le_iff_toInt_le, nI_toInt (by omega)] at c; omega⟩)) (fun _ => ?_)
    refine WP.sub (loc' := [(0, _), (1, _)]) [0, 1] rfl ?_
    exact fin
theorem zMm_dr {M : zMI} {L : zML} {m : zMs} {s : Nat} (h : zMm M L m) (hs : s < 2147483648) : zMm M (zu L 177 68 (lN s)) (zMdr m s) := by
  obtain ⟨c1, c2, c3, c4, c5, c6, c7, c8, c9, c10, c11⟩ := h
  exact ⟨c1, c2, c3, c4, zu_s, hs, c7, c8, c9, c10, c11⟩
set_option maxHeartbeats 4000000 in
set_option maxRecDepth 100000 in
theorem sp_mseed {d t n s : Nat} {M : zMI} {L : zML} {g : zGd} {v : Nat → Nat} {hs : List (Nat → Nat)} {m : zMs} (h : zMo M L n g v hs m) (hk : s < 2147483648) : Sy yX12_seed YX12_seed (d) [.ref 177, .int (nI s)] M L (zRf t) (zMn M L t n g v hs (zMdr m s) (.int (nI 1))) := by
  refine Sp.of (by decide +kernel) rfl (fun h => by first | exact h | cases h) (Nat.le_of_ble_eq_true rfl) ?_
  intro w G
  refine wp_iload_n (q := 1) dX12_seed_0 1 rfl rfl ?_
  refine wp_if_geN (tgt := 16) (q := 4) dX12_seed_1 (by decide) rfl (by omega) (fun _ => ?_) (fun hn => absurd hn (by first | omega | exact fun h => h | exact fun h => h trivial))
  refine wp_aload_n (q := 17) dX12_seed_16 0 rfl rfl ?_
  refine wp_iload_n (q := 18) dX12_seed_17 1 rfl rfl ?_
  refine wp_i2lN (q := 19) dX12_seed_18 (by omega) rfl ?_
  refine wp_putL (q := 22) dX12_seed_19 zf_RX12_163 rfl zsh_177 rfl ?_
  refine wp_iconst (q := 23) dX12_seed_22 zq_iconst_1 rfl ?_
  exact wp_zreturn dX12_seed_23 rfl (by first | with_reducible exact znar_0 | with_reducible exact znar_1 | assumption) ⟨rfl, ⟨rfl, rfl, zMo_m h (fun x x1 x2 x3 x4 => rfl) (fun k hk => rfl) (zu_ne (by decide)) (zMm_dr h.2.2.2.1 hk), fun x hx => ⟨rfl, zu_ne (by omega)⟩⟩⟩ rfl rfl
set_option maxHeartbeats 4000000 in
set_option maxRecDepth 100000 in
theorem sp_mseedN {d t n : Nat} {x : Int32} {M : zMI} {L : zML} {g : zGd} {v : Nat → Nat} {hs : List (Nat → Nat)} {m : zMs} (h : zMo M L n g v hs m) (hk : x < 0) : Sy yX12_seed YX12_seed (d) [.ref 177, .int x] M L (zRf t) (zMn M L t n g v hs (zMup m 5) (.int (nI 0))) := by
  refine Sp.of (by decide +kernel) rfl (fun h => by first | exact h | cases h) (Nat.le_of_ble_eq_true rfl) ?_
  intro w G
  refine wp_iload_n (q := 1) dX12_seed_0 1 rfl rfl ?_
  refine wp_if_ge (tgt := 16) (q := 4) dX12_seed_1 (by decide) rfl (fun hn => absurd hn (by exact Int32.not_le.mpr hk)) (fun _ => ?_)
  refine wp_aload_n (q := 5) dX12_seed_4 0 rfl rfl ?_
  refine wp_getR (q := 8) dX12_seed_5 zf_RX12_17 rfl zsh_177 (zr_177_9 _) rfl ?_
  refine wp_iconst (q := 9) dX12_seed_8 zq_iconst_5 rfl ?_
  first | refine wp_dup2 (q := 10) dX12_seed_9 rfl rfl rfl ?_ | refine wp_dup2L (q := 10) dX12_seed_9 rfl rfl ?_
  refine wp_iald (q := 11) _ dX12_seed_10 zsh_179 rfl (by omega) (by decide) rfl ?_
  refine wp_iconst (q := 12) dX12_seed_11 zq_iconst_1 rfl ?_
  refine wp_iadd (q := 13) dX12_seed_12 rfl ?_
  refine wp_iast (q := 14) _ dX12_seed_13 zsh_179 rfl (by omega) (by decide) rfl ?_
  refine wp_iconst (q := 15) dX12_seed_14 zq_iconst_0 rfl ?_
  exact wp_zreturn dX12_seed_15 rfl (by first | with_reducible exact znar_0 | with_reducible exact znar_1 | assumption) ⟨rfl, ⟨rfl, rfl, zMo_rf h (by decide), zYf_rf (by decide)⟩⟩ rfl rfl

