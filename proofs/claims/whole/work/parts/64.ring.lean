theorem zCI_m {M M' : zMI} {L : zML} {t n : Nat} {g : zGd} {v : Nat → Nat} {hs : List (Nat → Nat)} {m m' : zMs} (h : zCI M L t n g v hs m) (e : ∀ x, x < 177 → x ≠ 0 → x ≠ 1 → x ≠ 175 → x ≠ 176 → M' x = M x) (hm : zCm M' m') : zCI M' L t n g v hs m' := by
  obtain ⟨a1, a2, a3, a4, ⟨nx, a5⟩, a6, a7, a8, a9, a10, a11⟩ := h
  have ht2 : t = 10 ∨ t = 24 := a1
  have e' : ∀ x, 2 ≤ x → x < 175 → M' x = M x := fun x x1 x2 => e x (by omega) (by omega) (by omega) (by omega) (by omega)
  exact ⟨a1, a2, zCt_fr a3 (fun x x1 x2 x3 => e' x (by omega) (by omega)), zSR_fr a4 (fun x x1 x2 => e' x (by omega) (by omega)), ⟨nx, zHi_fr a5 (fun x x1 x2 => e' x (by omega) (by omega))⟩, zPM_fr a6 (e' 151 (by omega) (by omega)), zCk_fr a7 (by rw [e' 156 (by omega) (by omega)]) (by rw [e' 156 (by omega) (by omega)]) (fun x x1 x2 => e' x (by omega) (by omega)) (e' 171 (by omega) (by omega)) rfl, hm, zDx_fr a9 (fun x x1 x2 x3 => e' x (by omega) (by omega)), zDx_fr a10 (fun x x1 x2 x3 => e' x (by omega) (by omega)), fun w hw => by rw [e' 8 (by omega) (by omega)]; exact a11 w hw⟩
theorem zCI_cm {M : zMI} {L : zML} {t n : Nat} {g : zGd} {v : Nat → Nat} {hs : List (Nat → Nat)} {m : zMs} (h : zCI M L t n g v hs m) : zCm M m := h.2.2.2.2.2.2.2.1
-- what a call leaves: its answer, the class' state, the model's cells as they were
def zAn (M : zMI) (L : zML) (t n : Nat) (g : zGd) (v : Nat → Nat) (hs : List (Nat → Nat)) (m : zMs) (a : Value) : Option Value → zMI → zML → zMR → Prop := fun v0 M' L' R' => v0 = some a ∧ R' = zRf t ∧ zCI M' L' t n g v hs m ∧ zXf M M' L L'
theorem zXf_r {M : zMI} {L : zML} : zXf M M L L := fun _ _ => ⟨rfl, rfl⟩
theorem zCI_rf {M : zMI} {L : zML} {t n k : Nat} {g : zGd} {v : Nat → Nat} {hs : List (Nat → Nat)} {m : zMs} (h : zCI M L t n g v hs m) (hk : k < 6) : zCI (zu M 176 k (M 176 k + nI 1)) L t n g v hs (zMup m k) := by
  refine zCI_m h (fun x x1 x2 x3 x4 x5 => zu_ne x5) ?_
  obtain ⟨c1, c2, c3, c4, c5, c6, c7, c8, c9, c10, c11⟩ := zCI_cm h
  refine ⟨by rw [zu_ne (by decide)]; exact c1, c2, fun i hi => by rw [zu_ne (by decide)]; exact c3 i hi, fun i hi => ?_, by rw [zu_ne (by decide)]; exact c5, c6, by rw [zu_ne (by decide)]; exact c7, by rw [zu_ne (by decide)]; exact c8, by rw [zu_ne (by decide)]; exact c9, c10, fun i hi => by rw [zu_ne (by decide)]; exact c11 i hi⟩
  show zu M 176 k (M 176 k + nI 1) 176 i = if i = k then m.2.2.1 i + 1 else m.2.2.1 i
  by_cases e : i = k
  · subst e
    rw [zu_s, if_pos rfl, c4 i hi]
    rfl
  · rw [zu_k e, if_neg e, c4 i hi]
theorem zXf_rf {M : zMI} {L : zML} {k : Nat} {x : Int32} : zXf M (zu M 176 k x) L L := fun x hx => ⟨zu_ne (by omega), rfl⟩
set_option maxHeartbeats 4000000 in
set_option maxRecDepth 100000 in
theorem sp_refuse {d t k : Nat} {M : zMI} {L : zML} (hk : k < 6) : Sx yX11_refuse YX11_refuse (d) [.ref 0, .int (nI k)] M L (zRf t) (some (.int (-1))) (zu M 176 k (M 176 k + nI 1)) L (zRf t) := by
  refine Sp.of (by decide +kernel) rfl (fun h => by first | exact h | cases h) (Nat.le_of_ble_eq_true rfl) ?_
  intro w G
  refine wp_aload_n (q := 1) dX11_refuse_0 0 rfl rfl ?_
  refine wp_getR (q := 4) dX11_refuse_1 zf_RX11_113 rfl zsh_0 (zr_0_18 _) rfl ?_
  refine wp_iload_n (q := 5) dX11_refuse_4 1 rfl rfl ?_
  first | refine wp_dup2 (q := 6) dX11_refuse_5 rfl rfl rfl ?_ | refine wp_dup2L (q := 6) dX11_refuse_5 rfl rfl ?_
  refine wp_iald (q := 7) _ dX11_refuse_6 zsh_176 rfl (by omega) (by decide) rfl ?_
  refine wp_iconst (q := 8) dX11_refuse_7 zq_iconst_1 rfl ?_
  refine wp_iadd (q := 9) dX11_refuse_8 rfl ?_
  refine wp_iast (q := 10) _ dX11_refuse_9 zsh_176 rfl (by omega) (by decide) rfl ?_
  refine wp_iconst (q := 11) dX11_refuse_10 zq_iconst_m1 rfl ?_
  exact wp_ireturn dX11_refuse_11 rfl ⟨rfl, rfl, rfl, rfl, rfl⟩ rfl rfl
set_option maxHeartbeats 4000000 in
set_option maxRecDepth 100000 in
theorem sp_deny {d t k : Nat} {M : zMI} {L : zML} (hk : k < 6) : Sx yX11_deny YX11_deny (d) [.ref 0, .int (nI k)] M L (zRf t) (some (.int (nI 0))) (zu M 176 k (M 176 k + nI 1)) L (zRf t) := by
  refine Sp.of (by decide +kernel) rfl (fun h => by first | exact h | cases h) (Nat.le_of_ble_eq_true rfl) ?_
  intro w G
  refine wp_aload_n (q := 1) dX11_deny_0 0 rfl rfl ?_
  refine wp_getR (q := 4) dX11_deny_1 zf_RX11_113 rfl zsh_0 (zr_0_18 _) rfl ?_
  refine wp_iload_n (q := 5) dX11_deny_4 1 rfl rfl ?_
  first | refine wp_dup2 (q := 6) dX11_deny_5 rfl rfl rfl ?_ | refine wp_dup2L (q := 6) dX11_deny_5 rfl rfl ?_
  refine wp_iald (q := 7) _ dX11_deny_6 zsh_176 rfl (by omega) (by decide) rfl ?_
  refine wp_iconst (q := 8) dX11_deny_7 zq_iconst_1 rfl ?_
  refine wp_iadd (q := 9) dX11_deny_8 rfl ?_
  refine wp_iast (q := 10) _ dX11_deny_9 zsh_176 rfl (by omega) (by decide) rfl ?_
  refine wp_iconst (q := 11) dX11_deny_10 zq_iconst_0 rfl ?_
  exact wp_zreturn dX11_deny_11 rfl (by first | with_reducible exact znar_0 | with_reducible exact znar_1 | assumption) ⟨rfl, rfl, rfl, rfl, rfl⟩ rfl rfl
def zb8 (x : Int32) (s : Nat) : Nat := ((x >>> (nI s &&& 31)) &&& nI 255).toInt.toNat
theorem z255 (y : Int32) : y &&& nI 255 = nI ((y &&& nI 255).toInt.toNat) ∧ (y &&& nI 255).toInt.toNat < 256 := by
  have h : (y &&& nI 255).toBitVec.toNat ≤ 255 := by
    show (y.toBitVec &&& (nI 255).toBitVec).toNat ≤ 255
    rw [BitVec.toNat_and]
    exact Nat.and_le_right
  have h2 : (y &&& nI 255).toInt = ((y &&& nI 255).toBitVec.toNat : Int) := by
    show (y &&& nI 255).toBitVec.toInt = _
    rw [BitVec.toInt_eq_toNat_of_lt (by omega)]
  refine ⟨?_, by omega⟩
  apply Int32.toInt_inj.mp
  rw [nI_toInt (by omega)]
  omega
theorem zb8_e (x : Int32) (s : Nat) : (x >>> (nI s &&& 31)) &&& nI 255 = nI (zb8 x s) := (z255 _).1
theorem zb8_lt (x : Int32) (s : Nat) : zb8 x s < 256 := (z255 _).2
set_option maxHeartbeats 4000000 in
set_option maxRecDepth 100000 in
theorem sp_tapeNumber {d t k : Nat} {x : Int32} {M : zMI} {L : zML} (hk : M 0 1 = nI k) (h16 : k + 4 ≤ 1600) : Sy yX11_tapeNumber YX11_tapeNumber (d) [.ref 0, .int x] M L (zRf t) (fun v0 M' L' R' => v0 = none ∧ L = L' ∧ R' = zRf t ∧ M' 0 1 = nI (k + 4) ∧ (∀ j, M' 1 j = if k ≤ j ∧ j < k + 4 then nI (zb8 x (24 - 8 * (j - k))) else M 1 j) ∧ (∀ j, j ≠ 1 → M' 0 j = M 0 j) ∧ ∀ y, 2 ≤ y → M' y = M y) := by
  refine Sp.of (by decide +kernel) rfl (fun h => by first | exact h | cases h) (Nat.le_of_ble_eq_true rfl) ?_
  intro w G
  have loop : ∀ q i (M2 : zMI), i + q = 4 → M2 0 1 = nI (k + i) → (∀ j, M2 1 j = if k ≤ j ∧ j < k + i then nI (zb8 x (24 - 8 * (j - k))) else M 1 j) → (∀ j, j ≠ 1 → M2 0 j = M 0 j) → (∀ y, 2 ≤ y → M2 y = M y) → WP w YX11_tapeNumber (d, SS, 0, 0) G (some (zXp (fun v0 M' L' R' => v0 = none ∧ L = L' ∧ R' = zRf t ∧ M' 0 1 = nI (k + 4) ∧ (∀ j, M' 1 j = if k ≤ j ∧ j < k + 4 then nI (zb8 x (24 - 8 * (j - k))) else M 1 j) ∧ (∀ j, j ≠ 1 → M' 0 j = M 0 j) ∧ ∀ y, 2 ≤ y → M' y = M y))) 3 [(2, .int (nI 24 - nI (8 * i))), (0, .ref 0), (1, .int x)] [] SS M2 L (zRf t) := by
    intro q
    induction q with
    | zero =>
      intro i M2 hi e1 e2 e3 e4
      rw [show i = 4 by omega] at e1 e2 ⊢
      refine wp_iload_n (q := 4) dX11_tapeNumber_3 0 rfl rfl ?_
      refine wp_if_lt (tgt := 51) (q := 7) dX11_tapeNumber_4 (by decide) rfl (fun _ => ?_) (fun hn => absurd hn (by decide))
      exact wp_return dX11_tapeNumber_51 rfl ⟨rfl, ⟨rfl, rfl, rfl, e1, e2, e3, e4⟩⟩ rfl rfl
    | succ q ih =>
      intro i M2 hi e1 e2 e3 e4
      have hi4 : i = 0 ∨ i = 1 ∨ i = 2 ∨ i = 3 := by omega
      have hs : nI 24 - nI (8 * i) = nI (24 - 8 * i) := pk_sub (by omega)
      have hn : nI (24 - 8 * i) + Int32.ofInt (-8) = nI 24 - nI (8 * (i + 1)) := by rcases hi4 with rfl | rfl | rfl | rfl <;> decide
      rw [hs]
      refine wp_iload_n (q := 4) dX11_tapeNumber_3 0 rfl rfl ?_
      refine wp_if_ltN (tgt := 51) (q := 7) dX11_tapeNumber_4 (by decide) rfl (by omega) (fun hn => absurd hn (by first | omega | exact fun h => h | exact fun h => h trivial)) (fun _ => ?_)
      refine wp_aload_n (q := 8) dX11_tapeNumber_7 1 rfl rfl ?_
      refine wp_getI (q := 11) dX11_tapeNumber_8 zf_RX11_13 rfl zsh_0 rfl ?_
      rw [e1]
      refine wp_aload_n (q := 12) dX11_tapeNumber_11 1 rfl rfl ?_
      refine wp_getR (q := 15) dX11_tapeNumber_12 zf_RX11_9 rfl zsh_0 (zr_0_0 _) rfl ?_
      refine wp_alen (q := 16) dX11_tapeNumber_15 zsh_1 (by simp [zTys]) rfl ?_
      refine wp_icmp_geN (tgt := 45) (q := 19) dX11_tapeNumber_16 (by decide) rfl (by omega) (by omega) (fun hn => absurd hn (by first | omega | exact fun h => h | exact fun h => h trivial)) (fun _ => ?_)
      refine wp_aload_n (q := 20) dX11_tapeNumber_19 1 rfl rfl ?_
      refine wp_getR (q := 23) dX11_tapeNumber_20 zf_RX11_9 rfl zsh_0 (zr_0_0 _) rfl ?_
      refine wp_aload_n (q := 24) dX11_tapeNumber_23 1 rfl rfl ?_
      refine wp_getI (q := 27) dX11_tapeNumber_24 zf_RX11_13 rfl zsh_0 rfl ?_
      rw [e1]
      refine wp_iload_n (q := 28) dX11_tapeNumber_27 2 rfl rfl ?_
      refine wp_iload_n (q := 29) dX11_tapeNumber_28 0 rfl rfl ?_
      refine wp_ishr (q := 30) dX11_tapeNumber_29 rfl ?_
      refine wp_sipush (q := 33) dX11_tapeNumber_30 zq_sipush_255 rfl ?_
      refine wp_iand (q := 34) dX11_tapeNumber_33 rfl ?_
      rw [zb8_e]
      refine wp_iast (q := 35) _ dX11_tapeNumber_34 zsh_1 rfl (by omega) (by decide) rfl ?_
      refine wp_aload_n (q := 36) dX11_tapeNumber_35 1 rfl rfl ?_
      refine wp_dup (q := 37) dX11_tapeNumber_36 rfl rfl ?_
      refine wp_getI (q := 40) dX11_tapeNumber_37 zf_RX11_13 rfl zsh_0 rfl ?_
      rw [zu_ne (by decide), e1]
      refine wp_iconst (q := 41) dX11_tapeNumber_40 zq_iconst_1 rfl ?_
      refine wp_iaddN (q := 42) dX11_tapeNumber_41 rfl ?_
      refine wp_putI (q := 45) dX11_tapeNumber_42 zf_RX11_13 rfl zsh_0 rfl ?_
      refine wp_iinc (q := 48) (loc' := [(2, _), (0, _), (1, _)]) dX11_tapeNumber_45 0 rfl rfl (by decide) rfl rfl ?_
      rw [hn]
      refine wp_goto (tgt := 3) dX11_tapeNumber_48 (by decide) ?_
      refine WP.sub (loc' := [(2, _), (0, _), (1, _)]) [0, 1, 2] rfl ?_
      refine ih (i + 1) _ (by omega) zu_s (fun j => ?_) (fun j hj => by rw [zu_k hj, zu_ne (by decide)]; exact e3 j hj) (fun y hy => by rw [zu_ne (by omega), zu_ne (by omega)]; exact e4 y hy)
      rw [zu_ne (by decide)]
      by_cases e : j = k + i
      · rw [e, zu_s, if_pos (by omega), show k + i - k = i by omega]
      · rw [zu_k e, e2]
        by_cases e5 : k ≤ j ∧ j < k + i
        · rw [if_pos e5, if_pos (by omega)]
        · rw [if_neg e5, if_neg (by omega)]
  refine wp_bipush (q := 2) dX11_tapeNumber_0 zq_bipush_24 rfl ?_
  refine wp_istore_n (q := 3) (loc' := [(2, _), (0, _), (1, _)]) dX11_tapeNumber_2 rfl (by decide) rfl rfl ?_
  refine WP.sub (loc' := [(2, _), (0, _), (1, _)]) [0, 1, 2] rfl ?_
  exact loop 4 0 M (by decide) hk (fun j => by rw [if_neg (by omega)]) (fun j _ => rfl) (fun y _ => rfl)
-- the tape behind a feed of five numbers
def zfx (a b c d e : Int32) (i : Nat) : Int32 := if i = 0 then a else if i = 1 then b else if i = 2 then c else if i = 3 then d else e
def zfb (k : Nat) (b : Nat → Nat) (f : Nat → Int32) (q : Nat) : Nat → Nat := fun j => if k ≤ j ∧ j < k + 4 * q then zb8 (f ((j - k) / 4)) (24 - 8 * ((j - k) % 4)) else b j
def zMt (m : zMs) (k : Nat) (b : Nat → Nat) : zMs := (k, b, m.2.2)
def zFd (M0 M : zMI) (k q : Nat) (b : Nat → Nat) (f : Nat → Int32) : Prop := M 0 1 = nI (k + 4 * q) ∧ (∀ j, j < k + 4 * q → M 1 j = nI (zfb k b f q j) ∧ zfb k b f q j < 256) ∧ (∀ j, j ≠ 1 → M 0 j = M0 0 j) ∧ ∀ y, 2 ≤ y → M y = M0 y
theorem zFd_s {M0 M M' : zMI} {k q : Nat} {b : Nat → Nat} {f : Nat → Int32} {x : Int32} (h : zFd M0 M k q b f) (hx : f q = x) (e1 : M' 0 1 = nI (k + 4 * q + 4)) (e2 : ∀ j, M' 1 j = if k + 4 * q ≤ j ∧ j < k + 4 * q + 4 then nI (zb8 x (24 - 8 * (j - (k + 4 * q)))) else M 1 j) (e3 : ∀ j, j ≠ 1 → M' 0 j = M 0 j) (e4 : ∀ y, 2 ≤ y → M' y = M y) : zFd M0 M' k (q + 1) b f := by
  obtain ⟨a1, a2, a3, a4⟩ := h
  refine ⟨by rw [e1]; exact congrArg nI (by omega), fun j hj => ?_, fun j hj => by rw [e3 j hj, a3 j hj], fun y hy => by rw [e4 y hy, a4 y hy]⟩
  rw [e2]
  unfold zfb
  by_cases c : k + 4 * q ≤ j
  · rw [if_pos ⟨c, by omega⟩, if_pos ⟨by omega, hj⟩, show (j - k) / 4 = q by omega, hx, show (j - k) % 4 = j - (k + 4 * q) by omega]
    exact ⟨rfl, zb8_lt _ _⟩
  · have := a2 j (by omega)
    unfold zfb at this
    rw [if_neg (by omega)]
    by_cases c2 : k ≤ j
    · rw [if_pos ⟨c2, by omega⟩] at this
      rw [if_pos ⟨c2, hj⟩]
      exact this
    · rw [if_neg (by omega)] at this
      rw [if_neg (by omega)]
      exact this
set_option maxHeartbeats 4000000 in
set_option maxRecDepth 100000 in
theorem sp_feed {d0 t n : Nat} {a b c d e : Int32} {M : zMI} {L : zML} {g : zGd} {v : Nat → Nat} {hs : List (Nat → Nat)} {m : zMs} (h : zCI M L t n g v hs m) (hk : m.1 + 20 ≤ 1600) : Sy yX11_feed YX11_feed (d0 + 1) [.ref 0, .int a, .int b, .int c, .int d, .int e] M L (zRf t) (zAn M L t n g v hs (zMt m (m.1 + 20) (zfb m.1 m.2.1 (zfx a b c d e) 5)) (.int (nI (m.1 + 20)))) := by
  refine Sp.of (by decide +kernel) rfl (fun h => by first | exact h | cases h) (Nat.le_of_ble_eq_true rfl) ?_
  intro w G
  obtain ⟨c1, c2, c3, c4, c5, c6, c7, c8, c9, c10, c11⟩ := zCI_cm h
  have f0 : zFd M M m.1 0 m.2.1 (zfx a b c d e) := ⟨c1, fun j hj => by unfold zfb; rw [if_neg (by omega)]; exact c3 j hj, fun j _ => rfl, fun y _ => rfl⟩
  refine wp_aload_n (q := 1) dX11_feed_0 0 rfl rfl ?_
  refine wp_getI (q := 4) dX11_feed_1 zf_RX11_13 rfl zsh_0 rfl ?_
  rw [c1]
  refine wp_bipush (q := 6) dX11_feed_4 zq_bipush_20 rfl ?_
  refine wp_iaddN (q := 7) dX11_feed_6 rfl ?_
  refine wp_sipush (q := 10) dX11_feed_7 zq_sipush_1600 rfl ?_
  refine wp_icmp_leN (tgt := 19) (q := 13) dX11_feed_10 (by decide) rfl (by omega) (by omega) (fun _ => ?_) (fun hn => absurd hn (by first | omega | exact fun h => h | exact fun h => h trivial))
  refine wp_aload_n (q := 20) dX11_feed_19 0 rfl rfl ?_
  refine wp_iload_n (q := 21) dX11_feed_20 1 rfl rfl ?_
  refine wp_cvy (q := 24) (sp_tapeNumber (d := 0) (k := m.1 + 4 * 0) f0.1 (by omega)) zm_X11_tapeNumber zl_RX11_120 dX11_feed_21 rfl (by omega) (Nat.le_of_ble_eq_true rfl) zsh_0 rfl rfl ?_
  rintro _ M1 _ _ ⟨rfl, rfl, rfl, b1, b2, b3, b4⟩
  have f1 := zFd_s f0 rfl b1 b2 b3 b4
  refine wp_aload_n (q := 25) dX11_feed_24 0 rfl rfl ?_
  refine wp_iload_n (q := 26) dX11_feed_25 2 rfl rfl ?_
  refine wp_cvy (q := 29) (sp_tapeNumber (d := 0) (k := m.1 + 4 * 1) f1.1 (by omega)) zm_X11_tapeNumber zl_RX11_120 dX11_feed_26 rfl (by omega) (Nat.le_of_ble_eq_true rfl) zsh_0 rfl rfl ?_
  rintro _ M2 _ _ ⟨rfl, rfl, rfl, b1, b2, b3, b4⟩
  have f2 := zFd_s f1 rfl b1 b2 b3 b4
  refine wp_aload_n (q := 30) dX11_feed_29 0 rfl rfl ?_
  refine wp_iload_n (q := 31) dX11_feed_30 3 rfl rfl ?_
  refine wp_cvy (q := 34) (sp_tapeNumber (d := 0) (k := m.1 + 4 * 2) f2.1 (by omega)) zm_X11_tapeNumber zl_RX11_120 dX11_feed_31 rfl (by omega) (Nat.le_of_ble_eq_true rfl) zsh_0 rfl rfl ?_
  rintro _ M3 _ _ ⟨rfl, rfl, rfl, b1, b2, b3, b4⟩
  have f3 := zFd_s f2 rfl b1 b2 b3 b4
  refine wp_aload_n (q := 35) dX11_feed_34 0 rfl rfl ?_
  refine wp_iload (q := 37) dX11_feed_35 4 rfl rfl ?_
  refine wp_cvy (q := 40) (sp_tapeNumber (d := 0) (k := m.1 + 4 * 3) f3.1 (by omega)) zm_X11_tapeNumber zl_RX11_120 dX11_feed_37 rfl (by omega) (Nat.le_of_ble_eq_true rfl) zsh_0 rfl rfl ?_
  rintro _ M4 _ _ ⟨rfl, rfl, rfl, b1, b2, b3, b4⟩
  have f4 := zFd_s f3 rfl b1 b2 b3 b4
  refine wp_aload_n (q := 41) dX11_feed_40 0 rfl rfl ?_
  refine wp_iload (q := 43) dX11_feed_41 5 rfl rfl ?_
  refine wp_cvy (q := 46) (sp_tapeNumber (d := 0) (k := m.1 + 4 * 4) f4.1 (by omega)) zm_X11_tapeNumber zl_RX11_120 dX11_feed_43 rfl (by omega) (Nat.le_of_ble_eq_true rfl) zsh_0 rfl rfl ?_
  rintro _ M5 _ _ ⟨rfl, rfl, rfl, b1, b2, b3, b4⟩
  obtain ⟨g1, g2, g3, g4⟩ := zFd_s f4 rfl b1 b2 b3 b4
  refine wp_aload_n (q := 47) dX11_feed_46 0 rfl rfl ?_
  refine wp_getI (q := 50) dX11_feed_47 zf_RX11_13 rfl zsh_0 rfl ?_
  rw [g1]
  refine wp_ireturn dX11_feed_50 rfl ⟨rfl, ⟨rfl, rfl, ?_, fun x hx => ⟨g4 x (by omega), rfl⟩⟩⟩ rfl rfl
  refine zCI_m h (fun x x1 x2 x3 x4 x5 => g4 x (by omega)) ⟨g1, hk, g2, fun i hi => by rw [g4 176 (by omega)]; exact c4 i hi, by rw [g3 15 (by decide)]; exact c5, c6, by rw [g3 16 (by decide)]; exact c7, by rw [g3 17 (by decide)]; exact c8, by rw [g3 14 (by decide)]; exact c9, c10, fun i hi => by rw [g4 175 (by omega)]; exact c11 i hi⟩
set_option maxHeartbeats 4000000 in
set_option maxRecDepth 100000 in
theorem sp_feedN {d0 t n : Nat} {a b c d e : Int32} {M : zMI} {L : zML} {g : zGd} {v : Nat → Nat} {hs : List (Nat → Nat)} {m : zMs} (h : zCI M L t n g v hs m) (hk : ¬ m.1 + 20 ≤ 1600) : Sy yX11_feed YX11_feed (d0 + 1) [.ref 0, .int a, .int b, .int c, .int d, .int e] M L (zRf t) (zAn M L t n g v hs (zMup m 0) (.int (-1))) := by
  refine Sp.of (by decide +kernel) rfl (fun h => by first | exact h | cases h) (Nat.le_of_ble_eq_true rfl) ?_
  intro w G
  obtain ⟨c1, c2, -⟩ := zCI_cm h
  refine wp_aload_n (q := 1) dX11_feed_0 0 rfl rfl ?_
  refine wp_getI (q := 4) dX11_feed_1 zf_RX11_13 rfl zsh_0 rfl ?_
  rw [c1]
  refine wp_bipush (q := 6) dX11_feed_4 zq_bipush_20 rfl ?_
  refine wp_iaddN (q := 7) dX11_feed_6 rfl ?_
  refine wp_sipush (q := 10) dX11_feed_7 zq_sipush_1600 rfl ?_
  refine wp_icmp_leN (tgt := 19) (q := 13) dX11_feed_10 (by decide) rfl (by omega) (by omega) (fun hn => absurd hn (by first | omega | exact fun h => h | exact fun h => h trivial)) (fun _ => ?_)
  refine wp_aload_n (q := 14) dX11_feed_13 0 rfl rfl ?_
  refine wp_iconst (q := 15) dX11_feed_14 zq_iconst_0 rfl ?_
  refine wp_cvx (q := 18) (sp_refuse (d := 0) (k := 0) (by decide)) zm_X11_refuse zl_RX11_116 dX11_feed_15 rfl (by omega) (Nat.le_of_ble_eq_true rfl) zsh_0 rfl rfl ?_
  exact wp_ireturn dX11_feed_18 rfl ⟨rfl, ⟨rfl, rfl, zCI_rf h (by decide), zXf_rf⟩⟩ rfl rfl

