def zmo (tb : zTb) (v : Nat → Nat) (n : Nat) : Nat → Nat
  | 0 => 0
  | i + 1 => if zmo tb v n i < zpc i ∧ zcan tb v n i n = true then zpc i else zmo tb v n i
theorem zpc_le (a : Nat) : zpc a ≤ 8 := nC_le
theorem zmo_le (tb : zTb) (v : Nat → Nat) (n : Nat) : ∀ i, zmo tb v n i ≤ 8 := by
  intro i
  induction i with
  | zero => exact Nat.zero_le _
  | succ i ih =>
    rw [zmo]
    split
    · exact zpc_le i
    · exact ih
set_option maxHeartbeats 4000000 in
set_option maxRecDepth 100000 in
theorem sp_most {d t n : Nat} {M : zMI} {L : zML} {g : zGd} {v : Nat → Nat} {hs : List (Nat → Nat)} {m : zMs} (h : zCI M L t n g v hs m) (h2 : 2 ≤ n) : Sy yX11_most YX11_most (d + 6) [.ref 0] M L (zRf t) (zAn M L t n g v hs m (.int (nI (zmo g.2.2.2.2.2 v n (2 ^ n))))) := by
  refine Sp.of (by decide +kernel) rfl (fun h => by first | exact h | cases h) (Nat.le_of_ble_eq_true rfl) ?_
  intro w G
  have hv := zCI_hv h
  have hr := zCI_sr h
  have h8 := hv.1
  have ho : zSt 43 := Or.inl rfl
  have hp2 : 2 ^ n ≤ 2 ^ 8 := Nat.pow_le_pow_right (by decide) h8
  have h28 : 2 ^ 8 = 256 := by decide
  have loop : ∀ (M2 : zMI), zCI M2 L t n g v hs m → zAll M2 n g.2.2.2.2.2 v → zXf M M2 L L → ∀ k i, i + k = 2 ^ n → WP w YX11_most (d + 6, SS, 0, 0) G (some (zXp (zAn M L t n g v hs m (.int (nI (zmo g.2.2.2.2.2 v n (2 ^ n))))))) 27 [(2, .int (nI i)), (1, .int (nI (zmo g.2.2.2.2.2 v n i))), (0, .ref 0)] [] SS M2 L (zRf t) := by
    intro M2 h' ha hxf k
    induction k with
    | zero =>
      intro i hi
      have hin : i = 2 ^ n := by omega
      refine wp_iload_n (q := 28) dX11_most_27 0 rfl rfl ?_
      refine wp_iconst (q := 29) dX11_most_28 zq_iconst_1 rfl ?_
      refine wp_aload_n (q := 30) dX11_most_29 2 rfl rfl ?_
      refine wp_getR (q := 33) dX11_most_30 zf_RX11_55 rfl zsh_0 (zr_0_7 _) rfl ?_
      refine wp_getI (q := 36) dX11_most_33 zf_RX11_165 rfl zsh_43 rfl ?_
      rw [(zCI_sr h').1]
      refine wp_ishlN (q := 37) dX11_most_36 (by omega) (by omega) rfl ?_
      refine wp_icmp_geN (tgt := 74) (q := 40) dX11_most_37 (by decide) rfl (by omega) (by omega) (fun _ => ?_) (fun hn => absurd hn (by first | omega | exact fun h => h | exact fun h => h trivial))
      rw [hin]
      refine wp_iload_n (q := 75) dX11_most_74 1 rfl rfl ?_
      exact wp_ireturn dX11_most_75 rfl ⟨rfl, ⟨rfl, rfl, h', hxf⟩⟩ rfl rfl
    | succ k ih =>
      intro i hi
      have hle := zmo_le g.2.2.2.2.2 v n i
      have hle2 := zpc_le i
      refine wp_iload_n (q := 28) dX11_most_27 0 rfl rfl ?_
      refine wp_iconst (q := 29) dX11_most_28 zq_iconst_1 rfl ?_
      refine wp_aload_n (q := 30) dX11_most_29 2 rfl rfl ?_
      refine wp_getR (q := 33) dX11_most_30 zf_RX11_55 rfl zsh_0 (zr_0_7 _) rfl ?_
      refine wp_getI (q := 36) dX11_most_33 zf_RX11_165 rfl zsh_43 rfl ?_
      rw [(zCI_sr h').1]
      refine wp_ishlN (q := 37) dX11_most_36 (by omega) (by omega) rfl ?_
      refine wp_icmp_geN (tgt := 74) (q := 40) dX11_most_37 (by decide) rfl (by omega) (by omega) (fun hn => absurd hn (by first | omega | exact fun h => h | exact fun h => h trivial)) (fun _ => ?_)
      refine wp_iload_n (q := 41) dX11_most_40 0 rfl rfl ?_
      refine wp_csx (q := 44) (sp_bitCount (d := 0) (a := i) (by omega)) zm_J6_bitCount_0f7a4 zl_RX11_265 dX11_most_41 rfl (by omega) (Nat.le_of_ble_eq_true rfl) rfl ?_
      refine wp_iload_n (q := 45) dX11_most_44 1 rfl rfl ?_
      refine wp_icmp_leN (tgt := 68) (q := 48) dX11_most_45 (by decide) rfl (by omega) (by omega) (fun c1 => ?_) (fun c1 => ?_)
      · skip
        refine wp_iincN (q := 71) (loc' := [(2, _), (1, _), (0, _)]) (n := 1) dX11_most_68 rfl 0 rfl (by decide) rfl rfl ?_
        refine wp_goto (tgt := 27) dX11_most_71 (by decide) ?_
        refine WP.sub (loc' := [(2, _), (1, _), (0, _)]) [0, 1, 2] rfl ?_
        have := ih (i + 1) (by omega)
        rw [zmo, if_neg (fun e => by omega)] at this
        exact this
      · skip
        refine wp_aload_n (q := 49) dX11_most_48 2 rfl rfl ?_
        refine wp_getR (q := 52) dX11_most_49 zf_RX11_71 rfl zsh_0 (zr_0_9 _) rfl ?_
        refine wp_aload_n (q := 53) dX11_most_52 2 rfl rfl ?_
        refine wp_getR (q := 56) dX11_most_53 zf_RX11_55 rfl zsh_0 (zr_0_7 _) rfl ?_
        refine wp_iload_n (q := 57) dX11_most_56 0 rfl rfl ?_
        refine wp_cvx (q := 60) (sp_canGo (d := 0) (n := n) (g := i) (tb := g.2.2.2.2.2) (v := v) ho (zCI_sr h').1 h8 (fun _ => ha) (by omega)) zm_X4_canGoWithout zl_RX11_270 dX11_most_57 rfl (by omega) (Nat.le_of_ble_eq_true rfl) zsh_150 rfl rfl ?_
        rw [if_neg (by omega : ¬ n < 2)]
        by_cases c2 : zcan g.2.2.2.2.2 v n i n = true
        · rw [if_pos c2]
          refine wp_if_eqN (tgt := 68) (q := 63) dX11_most_60 (by decide) rfl (by omega) (fun hn => absurd hn (by first | omega | exact fun h => h | exact fun h => h trivial)) (fun _ => ?_)
          refine wp_iload_n (q := 64) dX11_most_63 0 rfl rfl ?_
          refine wp_csx (q := 67) (sp_bitCount (d := 0) (a := i) (by omega)) zm_J6_bitCount_0f7a4 zl_RX11_265 dX11_most_64 rfl (by omega) (Nat.le_of_ble_eq_true rfl) rfl ?_
          refine wp_istore_n (q := 68) (loc' := [(1, _), (2, _), (0, _)]) dX11_most_67 rfl (by decide) rfl rfl ?_
          refine wp_iincN (q := 71) (loc' := [(2, _), (1, _), (0, _)]) (n := 1) dX11_most_68 rfl 1 rfl (by decide) rfl rfl ?_
          refine wp_goto (tgt := 27) dX11_most_71 (by decide) ?_
          refine WP.sub (loc' := [(2, _), (1, _), (0, _)]) [0, 1, 2] rfl ?_
          have := ih (i + 1) (by omega)
          rw [zmo, if_pos ⟨by omega, c2⟩] at this
          exact this
        · rw [if_neg c2]
          refine wp_if_eqN (tgt := 68) (q := 63) dX11_most_60 (by decide) rfl (by omega) (fun _ => ?_) (fun hn => absurd hn (by first | omega | exact fun h => h | exact fun h => h trivial))
          refine wp_iincN (q := 71) (loc' := [(2, _), (1, _), (0, _)]) (n := 1) dX11_most_68 rfl 0 rfl (by decide) rfl rfl ?_
          refine wp_goto (tgt := 27) dX11_most_71 (by decide) ?_
          refine WP.sub (loc' := [(2, _), (1, _), (0, _)]) [0, 1, 2] rfl ?_
          have := ih (i + 1) (by omega)
          rw [zmo, if_neg (fun e => c2 e.2)] at this
          exact this
  refine wp_aload_n (q := 1) dX11_most_0 0 rfl rfl ?_
  refine wp_getR (q := 4) dX11_most_1 zf_RX11_55 rfl zsh_0 (zr_0_7 _) rfl ?_
  refine wp_cvx (q := 7) (sp_crackers (d := 0) ho hr.1 h8) zm_X7_crackers zl_RX11_168 dX11_most_4 rfl (by omega) (Nat.le_of_ble_eq_true rfl) zsh_43 rfl rfl ?_
  rw [if_neg (by omega)]
  refine wp_if_neN (tgt := 12) (q := 10) dX11_most_7 (by decide) rfl (by omega) (fun _ => ?_) (fun hn => absurd hn (by first | omega | exact fun h => h | exact fun h => h trivial))
  refine wp_aload_n (q := 13) dX11_most_12 0 rfl rfl ?_
  refine wp_getR (q := 16) dX11_most_13 zf_RX11_71 rfl zsh_0 (zr_0_9 _) rfl ?_
  refine wp_aload_n (q := 17) dX11_most_16 0 rfl rfl ?_
  refine wp_getR (q := 20) dX11_most_17 zf_RX11_55 rfl zsh_0 (zr_0_7 _) rfl ?_
  refine wp_cvy (q := 23) (sp_workAll (d := 0) h.1 ho (zCI_tm h) hv hr (zCI_pm h)) zm_X4_workAll zl_RX11_249 dX11_most_20 rfl (by omega) (Nat.le_of_ble_eq_true rfl) zsh_150 rfl rfl ?_
  rintro _ M2 _ _ ⟨rfl, rfl, rfl, ha, hp, hx⟩
  refine wp_iconst (q := 24) dX11_most_23 zq_iconst_0 rfl ?_
  refine wp_istore_n (q := 25) (loc' := [(1, _), (0, _)]) dX11_most_24 rfl (by decide) rfl rfl ?_
  refine wp_iconst (q := 26) dX11_most_25 zq_iconst_0 rfl ?_
  refine wp_istore_n (q := 27) (loc' := [(2, _), (1, _), (0, _)]) dX11_most_26 rfl (by decide) rfl rfl ?_
  refine WP.sub (loc' := [(2, _), (1, _), (0, _)]) [0, 1, 2] rfl ?_
  exact loop M2 (zCI_py h hp hx) (ha h2) (zXf_py h.1 hx) (2 ^ n) 0 (Nat.zero_add _)
set_option maxHeartbeats 4000000 in
set_option maxRecDepth 100000 in
theorem sp_mostN {d t n : Nat} {M : zMI} {L : zML} {g : zGd} {v : Nat → Nat} {hs : List (Nat → Nat)} {m : zMs} (h : zCI M L t n g v hs m) (h2 : n < 2) : Sy yX11_most YX11_most (d + 6) [.ref 0] M L (zRf t) (zAn M L t n g v hs m (.int (-1))) := by
  refine Sp.of (by decide +kernel) rfl (fun h => by first | exact h | cases h) (Nat.le_of_ble_eq_true rfl) ?_
  intro w G
  have hv := zCI_hv h
  have hr := zCI_sr h
  have ho : zSt 43 := Or.inl rfl
  refine wp_aload_n (q := 1) dX11_most_0 0 rfl rfl ?_
  refine wp_getR (q := 4) dX11_most_1 zf_RX11_55 rfl zsh_0 (zr_0_7 _) rfl ?_
  refine wp_cvx (q := 7) (sp_crackers (d := 0) ho hr.1 hv.1) zm_X7_crackers zl_RX11_168 dX11_most_4 rfl (by omega) (Nat.le_of_ble_eq_true rfl) zsh_43 rfl rfl ?_
  rw [if_pos h2]
  refine wp_if_neN (tgt := 12) (q := 10) dX11_most_7 (by decide) rfl (by omega) (fun hn => absurd hn (by first | omega | exact fun h => h | exact fun h => h trivial)) (fun _ => ?_)
  refine wp_iconst (q := 11) dX11_most_10 zq_iconst_m1 rfl ?_
  exact wp_ireturn dX11_most_11 rfl ⟨rfl, ⟨rfl, rfl, h, zXf_r⟩⟩ rfl rfl
theorem zCI_ck {M M' : zMI} {L L' : zML} {t n : Nat} {g : zGd} {v : Nat → Nat} {hs : List (Nat → Nat)} {m : zMs} (h : zCI M L t n g v hs m) (hp : zPM M') (e : ∀ x, x < 177 → ¬ zScr x → ¬ (156 ≤ x ∧ x ≤ 171) → M' x = M x) (hk : zCk M' L' n g.2.2.2.2.2 v) : zCI M' L' t n g v hs m := by
  obtain ⟨a1, a2, a3, a4, ⟨nx, a5⟩, a6, a7, a8, a9, a10, a11⟩ := h
  have ht2 : t = 10 ∨ t = 24 := a1
  exact ⟨a1, a2, zCt_fr a3 (fun x x1 x2 x3 => e x (by omega) (by unfold zScr; omega) (by omega)), zSR_fr a4 (fun x x1 x2 => e x (by omega) (by unfold zScr; omega) (by omega)), ⟨nx, zHi_fr a5 (fun x x1 x2 => e x (by omega) (by unfold zScr; omega) (by omega))⟩, hp, hk, zCm_fr a8 (e 0 (by omega) (by unfold zScr; omega) (by omega)) (e 1 (by omega) (by unfold zScr; omega) (by omega)) (e 175 (by omega) (by unfold zScr; omega) (by omega)) (e 176 (by omega) (by unfold zScr; omega) (by omega)), zDx_fr a9 (fun x x1 x2 x3 => e x (by omega) (by unfold zScr; omega) (by omega)), zDx_fr a10 (fun x x1 x2 x3 => e x (by omega) (by unfold zScr; omega) (by omega)), fun w hw => by rw [e 8 (by omega) (by unfold zScr; omega) (by omega)]; exact a11 w hw⟩
theorem zxt_ne : ∀ n, 2 ≤ n → n ≤ 8 → zxt n (n - 1) [0] ≠ [] := by
  intro n h2 h8
  have hc : n = 2 ∨ n = 3 ∨ n = 4 ∨ n = 5 ∨ n = 6 ∨ n = 7 ∨ n = 8 := by omega
  have key : ∀ n, (zxt n (n - 1) [0]).isEmpty = false → zxt n (n - 1) [0] ≠ [] := fun n e c => by rw [c] at e; cases e
  rcases hc with rfl | rfl | rfl | rfl | rfl | rfl | rfl <;> exact key _ (by decide +kernel)
theorem zco_le {W : Nat → Nat → Nat → Nat} (hW : ∀ a b c, W a b c ≤ 100000000) (n : Nat) (h8 : n ≤ 8) (q : List Nat) : zco W n q ≤ 1000000000 := by
  have h1 := zps_le hW q n
  have h2 := hW (q.getD (n - 2) 0) (q.getD (n - 1) 0) (q.getD 0 0)
  have h3 := hW (q.getD (n - 1) 0) (q.getD 0 0) (q.getD 1 0)
  unfold zco
  omega
theorem zbR_lt {tb : zTb} {n : Nat} {v : Nat → Nat} (h2 : 2 ≤ n) (h8 : n ≤ 8) : (zbR tb n v).1 ≤ 1000000000 := by
  unfold zbR
  have hne := zxt_ne n h2 h8
  revert hne
  generalize zxt n (n - 1) [0] = l
  intro hne
  cases l with
  | nil => exact absurd rfl hne
  | cons q l =>
    rw [List.foldl_cons]
    refine Nat.le_trans (zbt_le _ _ _ _) ?_
    unfold zbt
    have := zco_le (zW_le tb v) n h8 q
    rw [if_pos (show zco (zW tb v) n q < 1000000000000 by omega)]
    exact this
def zsts (tb : zTb) (v : Nat → Nat) (n : Nat) (x : Int32) : Nat := if x = -1 then (zbR tb n v).1 / 100000 else (zbR tb n v).2.getD x.toInt.toNat 0
set_option maxHeartbeats 4000000 in
set_option maxRecDepth 100000 in
theorem sp_seats {d t n : Nat} {x : Int32} {M : zMI} {L : zML} {g : zGd} {v : Nat → Nat} {hs : List (Nat → Nat)} {m : zMs} (h : zCI M L t n g v hs m) (h2 : 2 ≤ n) (hx0 : x = -1 ∨ zin x n) : Sy yX11_seats YX11_seats (d + 26) [.ref 0, .int x] M L (zRf t) (zAn M L t n g v hs m (.int (nI (zsts g.2.2.2.2.2 v n x)))) := by
  refine Sp.of (by decide +kernel) rfl (fun h => by first | exact h | cases h) (Nat.le_of_ble_eq_true rfl) ?_
  intro w G
  have hv := zCI_hv h
  have hr := zCI_sr h
  have h8 := hv.1
  have ho : zSt 43 := Or.inl rfl
  have ht2 : t = 10 ∨ t = 24 := h.1
  have hb := zbR_lt (tb := g.2.2.2.2.2) (v := v) h2 h8
  have fin : ∀ (M2 : zMI) (L2 : zML), zCI M2 L2 t n g v hs m → zRb M2 L2 n (zbR g.2.2.2.2.2 n v) → zXf M M2 L L2 → WP w YX11_seats (d + 26, SS, 0, 0) G (some (zXp (zAn M L t n g v hs m (.int (nI (zsts g.2.2.2.2.2 v n x)))))) 39 [(0, .ref 0), (1, .int x)] [] SS M2 L2 (zRf t) := by
    intro M2 L2 h' hb2 hxf
    obtain ⟨b1, b2, b3⟩ := hb2
    refine wp_iload_n (q := 40) dX11_seats_39 1 rfl rfl ?_
    refine wp_iconst (q := 41) dX11_seats_40 zq_iconst_m1 rfl ?_
    rcases hx0 with rfl | hx0
    · skip
      refine wp_icmp_ne (tgt := 58) (q := 44) dX11_seats_41 (by decide) rfl (fun hn => absurd hn (by exact fun c => c rfl)) (fun _ => ?_)
      refine wp_aload_n (q := 45) dX11_seats_44 0 rfl rfl ?_
      refine wp_aload_n (q := 46) dX11_seats_45 0 rfl rfl ?_
      refine wp_getR (q := 49) dX11_seats_46 zf_RX11_87 rfl zsh_0 (by first | rfl | assumption) rfl ?_
      refine wp_getL (q := 52) dX11_seats_49 zf_RX11_277 rfl zsh_167 rfl ?_
      rw [b1]
      refine wp_cvx (q := 55) (sp_thousandths (d := 0) (p := (zbR g.2.2.2.2.2 n v).1) (by omega)) zm_X11_thousandths zl_RX11_259 dX11_seats_52 rfl (by omega) (Nat.le_of_ble_eq_true rfl) zsh_0 rfl rfl ?_
      refine wp_goto (tgt := 67) dX11_seats_55 (by decide) ?_
      exact wp_ireturn dX11_seats_67 rfl ⟨rfl, ⟨rfl, rfl, h', hxf⟩⟩ rfl rfl
    · obtain ⟨s, hs0, rfl⟩ := zin_n (by omega) hx0
      have hne : nI s ≠ -1 := fun e => by have := congrArg Int32.toInt e; rw [nI_toInt (by omega)] at this; have h1 : (-1 : Int32).toInt = -1 := rfl; omega
      refine wp_icmp_ne (tgt := 58) (q := 44) dX11_seats_41 (by decide) rfl (fun _ => ?_) (fun hn => absurd hn (by exact hne))
      refine wp_aload_n (q := 59) dX11_seats_58 0 rfl rfl ?_
      refine wp_getR (q := 62) dX11_seats_59 zf_RX11_87 rfl zsh_0 (by first | rfl | assumption) rfl ?_
      refine wp_getR (q := 65) dX11_seats_62 zf_RX11_281 rfl zsh_167 (by first | rfl | assumption) rfl ?_
      refine wp_iload_n (q := 66) dX11_seats_65 1 rfl rfl ?_
      refine wp_iald (q := 67) _ dX11_seats_66 zsh_171 rfl (by omega) (by decide) rfl ?_
      rw [b3 (by omega) s hs0]
      exact wp_ireturn dX11_seats_67 rfl ⟨rfl, ⟨by unfold zsts; rw [if_neg hne, nI_toInt (by omega)]; rfl, rfl, h', hxf⟩⟩ rfl rfl
  have goon : WP w YX11_seats (d + 26, SS, 0, 0) G (some (zXp (zAn M L t n g v hs m (.int (nI (zsts g.2.2.2.2.2 v n x)))))) 28 [(0, .ref 0), (1, .int x)] [] SS M L (zRf t) := by
    refine wp_aload_n (q := 29) dX11_seats_28 0 rfl rfl ?_
    refine wp_getR (q := 32) dX11_seats_29 zf_RX11_87 rfl zsh_0 (by first | rfl | assumption) rfl ?_
    refine wp_aload_n (q := 33) dX11_seats_32 0 rfl rfl ?_
    refine wp_getR (q := 36) dX11_seats_33 zf_RX11_55 rfl zsh_0 (by first | rfl | assumption) rfl ?_
    have hck := h.2.2.2.2.2.2.1
    rcases hck.2 with hk | ⟨hk, -, hrb⟩
    · skip
      refine wp_cvy (q := 39) (sp_search (d := d) h.1 (zCI_tm h) hv hr (zCI_pm h) hk h2) zm_X6_search zl_RX11_274 dX11_seats_36 rfl (by omega) (Nat.le_of_ble_eq_true rfl) zsh_167 rfl rfl ?_
      rintro _ M2 L2 _ ⟨rfl, rfl, hp, hk1, hrb, hL, hx⟩
      refine WP.sub (loc' := [(0, _), (1, _)]) [0, 1] rfl ?_
      have hx' : ∀ x, x < 177 → ¬ zScr x → ¬ (156 ≤ x ∧ x ≤ 171) → M2 x = M x := fun x x1 x2 x3 => hx x (fun c => x2 (zPy_scr h.1 (Or.inl c))) (by omega)
      have hx6 : ∀ x, 156 ≤ x → x ≤ 166 → M2 x = M x := fun x x1 x2 => hx x (fun c => by rcases c with c | c | c | c <;> omega) (by omega)
      refine fin M2 L2 (zCI_ck h hp hx' ⟨?_, Or.inr ⟨hk1, h2, hrb⟩⟩) hrb (fun x x1 => ⟨hx x (fun c => by rcases c with c | c | c | c <;> omega) (by omega), funext fun k => hL x k (Or.inl (by omega))⟩)
      rcases hck.1 with c | ⟨c1, c2, c3⟩
      · exact Or.inl (by rw [hx6 156 (by decide) (by decide)]; exact c)
      · exact Or.inr ⟨by rw [hx6 156 (by decide) (by decide)]; exact c1, by rw [hx6 156 (by decide) (by decide)]; exact c2, zSR_fr c3 (fun x x1 x2 => hx6 x (by omega) (by omega))⟩
    · skip
      refine wp_cvx (q := 39) (sp_searchK (d := 0) (o := 43) hk) zm_X6_search zl_RX11_274 dX11_seats_36 rfl (by omega) (Nat.le_of_ble_eq_true rfl) zsh_167 rfl rfl ?_
      refine WP.sub (loc' := [(0, _), (1, _)]) [0, 1] rfl ?_
      exact fin M L h hrb zXf_r
  refine wp_aload_n (q := 1) dX11_seats_0 0 rfl rfl ?_
  refine wp_getR (q := 4) dX11_seats_1 zf_RX11_55 rfl zsh_0 (zr_0_7 _) rfl ?_
  refine wp_cvx (q := 7) (sp_crackers (d := 0) ho hr.1 h8) zm_X7_crackers zl_RX11_168 dX11_seats_4 rfl (by omega) (Nat.le_of_ble_eq_true rfl) zsh_43 rfl rfl ?_
  rw [if_neg (by omega)]
  refine wp_if_eqN (tgt := 26) (q := 10) dX11_seats_7 (by decide) rfl (by omega) (fun hn => absurd hn (by first | omega | exact fun h => h | exact fun h => h trivial)) (fun _ => ?_)
  refine wp_iload_n (q := 11) dX11_seats_10 1 rfl rfl ?_
  refine wp_iconst (q := 12) dX11_seats_11 zq_iconst_m1 rfl ?_
  have hm1 : ¬ x < -1 := by
    rcases hx0 with rfl | hx0
    · decide
    · intro c
      have c2 := hx0.1
      rw [Int32.lt_iff_toInt_lt] at c
      rw [Int32.le_iff_toInt_le] at c2
      have h1 : (-1 : Int32).toInt = -1 := rfl
      have h0 : (0 : Int32).toInt = 0 := rfl
      omega
  have hmn : x < nI n := by
    rcases hx0 with rfl | hx0
    · rw [Int32.lt_iff_toInt_lt, nI_toInt (by omega)]
      have h1 : (-1 : Int32).toInt = -1 := rfl
      omega
    · exact hx0.2
  refine wp_icmp_lt (tgt := 26) (q := 15) dX11_seats_12 (by decide) rfl (fun hn => absurd hn (by exact hm1)) (fun _ => ?_)
  refine wp_iload_n (q := 16) dX11_seats_15 1 rfl rfl ?_
  refine wp_aload_n (q := 17) dX11_seats_16 0 rfl rfl ?_
  refine wp_getR (q := 20) dX11_seats_17 zf_RX11_55 rfl zsh_0 (zr_0_7 _) rfl ?_
  refine wp_getI (q := 23) dX11_seats_20 zf_RX11_165 rfl zsh_43 rfl ?_
  rw [hr.1]
  refine wp_icmp_lt (tgt := 28) (q := 26) dX11_seats_23 (by decide) rfl (fun _ => ?_) (fun hn => absurd hn (by exact fun c => c hmn))
  refine WP.sub (loc' := [(0, _), (1, _)]) [0, 1] rfl ?_
  exact goon
set_option maxHeartbeats 4000000 in
set_option maxRecDepth 100000 in
theorem sp_seatsN {d t n : Nat} {x : Int32} {M : zMI} {L : zML} {g : zGd} {v : Nat → Nat} {hs : List (Nat → Nat)} {m : zMs} (h : zCI M L t n g v hs m) (hN : ¬ (2 ≤ n ∧ (x = -1 ∨ zin x n))) : Sy yX11_seats YX11_seats (d + 26) [.ref 0, .int x] M L (zRf t) (zAn M L t n g v hs m (.int (-1))) := by
  refine Sp.of (by decide +kernel) rfl (fun h => by first | exact h | cases h) (Nat.le_of_ble_eq_true rfl) ?_
  intro w G
  have hv := zCI_hv h
  have hr := zCI_sr h
  have h8 := hv.1
  have ho : zSt 43 := Or.inl rfl
  refine wp_aload_n (q := 1) dX11_seats_0 0 rfl rfl ?_
  refine wp_getR (q := 4) dX11_seats_1 zf_RX11_55 rfl zsh_0 (zr_0_7 _) rfl ?_
  refine wp_cvx (q := 7) (sp_crackers (d := 0) ho hr.1 hv.1) zm_X7_crackers zl_RX11_168 dX11_seats_4 rfl (by omega) (Nat.le_of_ble_eq_true rfl) zsh_43 rfl rfl ?_
  by_cases c : n < 2
  · rw [if_pos c]
    refine wp_if_eqN (tgt := 26) (q := 10) dX11_seats_7 (by decide) rfl (by omega) (fun _ => ?_) (fun hn => absurd hn (by first | omega | exact fun h => h | exact fun h => h trivial))
    refine wp_iconst (q := 27) dX11_seats_26 zq_iconst_m1 rfl ?_
    exact wp_ireturn dX11_seats_27 rfl ⟨rfl, ⟨rfl, rfl, h, zXf_r⟩⟩ rfl rfl
  · rw [if_neg c]
    refine wp_if_eqN (tgt := 26) (q := 10) dX11_seats_7 (by decide) rfl (by omega) (fun hn => absurd hn (by first | omega | exact fun h => h | exact fun h => h trivial)) (fun _ => ?_)
    refine wp_iload_n (q := 11) dX11_seats_10 1 rfl rfl ?_
    refine wp_iconst (q := 12) dX11_seats_11 zq_iconst_m1 rfl ?_
    refine wp_icmp_lt (tgt := 26) (q := 15) dX11_seats_12 (by decide) rfl (fun e1 => ?_) (fun e1 => ?_)
    · skip
      refine wp_iconst (q := 27) dX11_seats_26 zq_iconst_m1 rfl ?_
      exact wp_ireturn dX11_seats_27 rfl ⟨rfl, ⟨rfl, rfl, h, zXf_r⟩⟩ rfl rfl
    · skip
      refine wp_iload_n (q := 16) dX11_seats_15 1 rfl rfl ?_
      refine wp_aload_n (q := 17) dX11_seats_16 0 rfl rfl ?_
      refine wp_getR (q := 20) dX11_seats_17 zf_RX11_55 rfl zsh_0 (zr_0_7 _) rfl ?_
      refine wp_getI (q := 23) dX11_seats_20 zf_RX11_165 rfl zsh_43 rfl ?_
      rw [hr.1]
      have e2 : ¬ x < nI n := by
        intro c2
        refine hN ⟨by omega, ?_⟩
        by_cases c3 : x = -1
        · exact Or.inl c3
        · refine Or.inr ⟨?_, c2⟩
          rw [Int32.lt_iff_toInt_lt] at e1
          rw [Int32.le_iff_toInt_le]
          have h1 : (-1 : Int32).toInt = -1 := rfl
          have h0 : (0 : Int32).toInt = 0 := rfl
          have h3 : x.toInt ≠ -1 := fun e => c3 (Int32.toInt_inj.mp (e.trans h1.symm))
          omega
      refine wp_icmp_lt (tgt := 28) (q := 26) dX11_seats_23 (by decide) rfl (fun hn => absurd hn (by exact e2)) (fun _ => ?_)
      refine wp_iconst (q := 27) dX11_seats_26 zq_iconst_m1 rfl ?_
      exact wp_ireturn dX11_seats_27 rfl ⟨rfl, ⟨rfl, rfl, h, zXf_r⟩⟩ rfl rfl

