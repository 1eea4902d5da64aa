def zchk (b : Nat → Nat) : Nat → Nat
  | 0 => 227
  | i + 1 => (3 * zchk b i + b i) % 251
theorem zchk_lt (b : Nat → Nat) : ∀ i, zchk b i < 251 := by
  intro i
  cases i with
  | zero => exact (by decide : 227 < 251)
  | succ i => exact Nat.mod_lt _ (by decide)
theorem zchk_c {b b' : Nat → Nat} : ∀ i, (∀ j, j < i → b j = b' j) → zchk b i = zchk b' i := by
  intro i
  induction i with
  | zero => intro _; rfl
  | succ i ih => intro h; rw [zchk, zchk, ih (fun j hj => h j (by omega)), h i (by omega)]
set_option maxHeartbeats 4000000 in
set_option maxRecDepth 100000 in
theorem sp_check {d a ln k : Nat} {M : zMI} {L : zML} {R : zMR} {b : Nat → Nat} (hs : SS[a]? = some (.inl (ln, .int))) (hk : k ≤ ln) (hln : ln ≤ 1600) (hb : ∀ i, i < k → M a i = nI (b i) ∧ b i < 256) : Sx yX11_check YX11_check (d) [.ref 0, .ref a, .int (nI k)] M L R (some (.int (nI (zchk b k)))) M L R := by
  refine Sp.of (by decide +kernel) rfl (fun h => by first | exact h | cases h) (Nat.le_of_ble_eq_true rfl) ?_
  intro w G
  have loop : ∀ q i, i + q = k → WP w YX11_check (d, SS, 0, 0) G (some (zX (some (.int (nI (zchk b k)))) M L R)) 7 [(4, .int (nI i)), (3, .int (nI (zchk b i))), (0, .ref 0), (1, .ref a), (2, .int (nI k))] [] SS M L R := by
    intro q
    induction q with
    | zero =>
      intro i hi
      refine wp_iload (q := 9) dX11_check_7 0 rfl rfl ?_
      refine wp_iload_n (q := 10) dX11_check_9 4 rfl rfl ?_
      refine wp_icmp_geN (tgt := 32) (q := 13) dX11_check_10 (by decide) rfl (by omega) (by omega) (fun _ => ?_) (fun hn => absurd hn (by first | omega | exact fun h => h | exact fun h => h trivial))
      rw [show i = k by omega]
      refine wp_iload_n (q := 33) dX11_check_32 1 rfl rfl ?_
      exact wp_ireturn dX11_check_33 rfl ⟨rfl, rfl, rfl, rfl, rfl⟩ rfl rfl
    | succ q ih =>
      intro i hi
      have hlt := zchk_lt b i
      obtain ⟨b1, b2⟩ := hb i (by omega)
      refine wp_iload (q := 9) dX11_check_7 0 rfl rfl ?_
      refine wp_iload_n (q := 10) dX11_check_9 4 rfl rfl ?_
      refine wp_icmp_geN (tgt := 32) (q := 13) dX11_check_10 (by decide) rfl (by omega) (by omega) (fun hn => absurd hn (by first | omega | exact fun h => h | exact fun h => h trivial)) (fun _ => ?_)
      refine wp_iconst (q := 14) dX11_check_13 zq_iconst_3 rfl ?_
      refine wp_iload_n (q := 15) dX11_check_14 1 rfl rfl ?_
      refine wp_imulN (q := 16) dX11_check_15 rfl ?_
      refine wp_aload_n (q := 17) dX11_check_16 3 rfl rfl ?_
      refine wp_iload (q := 19) dX11_check_17 0 rfl rfl ?_
      refine wp_iald (q := 20) _ dX11_check_19 (by first | assumption | rfl) rfl (by omega) (by omega) rfl ?_
      rw [b1]
      refine wp_iaddN (q := 21) dX11_check_20 rfl ?_
      refine wp_sipush (q := 24) dX11_check_21 zq_sipush_251 rfl ?_
      refine wp_iremN (q := 25) dX11_check_24 (by omega) (by omega) (by omega) rfl ?_
      refine wp_istore_n (q := 26) (loc' := [(3, _), (4, _), (0, _), (1, _), (2, _)]) dX11_check_25 rfl (by decide) rfl rfl ?_
      refine wp_iincN (q := 29) (loc' := [(4, _), (3, _), (0, _), (1, _), (2, _)]) (n := 1) dX11_check_26 rfl 1 rfl (by decide) rfl rfl ?_
      refine wp_goto (tgt := 7) dX11_check_29 (by decide) ?_
      refine WP.sub (loc' := [(4, _), (3, _), (0, _), (1, _), (2, _)]) [0, 1, 2, 3, 4] rfl ?_
      exact ih (i + 1) (by omega)
  refine wp_sipush (q := 3) dX11_check_0 zq_sipush_227 rfl ?_
  refine wp_istore_n (q := 4) (loc' := [(3, _), (0, _), (1, _), (2, _)]) dX11_check_3 rfl (by decide) rfl rfl ?_
  refine wp_iconst (q := 5) dX11_check_4 zq_iconst_0 rfl ?_
  refine wp_istore (q := 7) (loc' := [(4, _), (3, _), (0, _), (1, _), (2, _)]) dX11_check_5 (by decide) rfl rfl ?_
  refine WP.sub (loc' := [(4, _), (3, _), (0, _), (1, _), (2, _)]) [0, 1, 2, 3, 4] rfl ?_
  exact loop k 0 (Nat.zero_add _)
set_option maxHeartbeats 4000000 in
set_option maxRecDepth 100000 in
theorem sp_put {d t k x : Nat} {M : zMI} {L : zML} (hk : M 0 14 = nI k) (h55 : k < 55) : Sx yX11_put YX11_put (d) [.ref 0, .int (nI x)] M L (zRf t) (none) (zu (zu M 175 k (nI x)) 0 14 (nI (k + 1))) L (zRf t) := by
  refine Sp.of (by decide +kernel) rfl (fun h => by first | exact h | cases h) (Nat.le_of_ble_eq_true rfl) ?_
  intro w G
  refine wp_aload_n (q := 1) dX11_put_0 0 rfl rfl ?_
  refine wp_getI (q := 4) dX11_put_1 zf_RX11_101 rfl zsh_0 rfl ?_
  rw [hk]
  refine wp_aload_n (q := 5) dX11_put_4 0 rfl rfl ?_
  refine wp_getR (q := 8) dX11_put_5 zf_RX11_98 rfl zsh_0 (zr_0_13 _) rfl ?_
  refine wp_alen (q := 9) dX11_put_8 zsh_175 (by simp [zTys]) rfl ?_
  refine wp_icmp_geN (tgt := 32) (q := 12) dX11_put_9 (by decide) rfl (by omega) (by omega) (fun hn => absurd hn (by first | omega | exact fun h => h | exact fun h => h trivial)) (fun _ => ?_)
  refine wp_aload_n (q := 13) dX11_put_12 0 rfl rfl ?_
  refine wp_getR (q := 16) dX11_put_13 zf_RX11_98 rfl zsh_0 (zr_0_13 _) rfl ?_
  refine wp_aload_n (q := 17) dX11_put_16 0 rfl rfl ?_
  refine wp_getI (q := 20) dX11_put_17 zf_RX11_101 rfl zsh_0 rfl ?_
  rw [hk]
  refine wp_iload_n (q := 21) dX11_put_20 1 rfl rfl ?_
  refine wp_iast (q := 22) _ dX11_put_21 zsh_175 rfl (by omega) (by decide) rfl ?_
  refine wp_aload_n (q := 23) dX11_put_22 0 rfl rfl ?_
  refine wp_dup (q := 24) dX11_put_23 rfl rfl ?_
  refine wp_getI (q := 27) dX11_put_24 zf_RX11_101 rfl zsh_0 rfl ?_
  rw [zu_ne (by decide), hk]
  refine wp_iconst (q := 28) dX11_put_27 zq_iconst_1 rfl ?_
  refine wp_iaddN (q := 29) dX11_put_28 rfl ?_
  refine wp_putI (q := 32) dX11_put_29 zf_RX11_101 rfl zsh_0 rfl ?_
  exact wp_return dX11_put_32 rfl ⟨rfl, rfl, rfl, rfl, rfl⟩ rfl rfl
-- the bytes of the picture, so many of them
def zib0 (v : Nat → Nat) (i : Nat) : Nat := if i < 6 then (if i % 2 = 0 then v (i / 2) / 256 else v (i / 2) % 256) else v (i - 3)
def zib (n : Nat) (v : Nat → Nat) (i : Nat) : Nat := if i < 6 + 6 * n then zib0 v i else zchk (zib0 v) (6 + 6 * n)
def zImP (M0 M : zMI) (k : Nat) (f : Nat → Nat) : Prop := M 0 14 = nI k ∧ (∀ i, i < k → M 175 i = nI (f i)) ∧ (∀ j, j ≠ 14 → M 0 j = M0 0 j) ∧ ∀ x, x ≠ 0 → x ≠ 175 → M x = M0 x
theorem zImP_w {M0 M : zMI} {k x : Nat} {f : Nat → Nat} (h : zImP M0 M k f) (hx : f k = x) : zImP M0 (zu (zu M 175 k (nI x)) 0 14 (nI (k + 1))) (k + 1) f := by
  obtain ⟨a1, a2, a3, a4⟩ := h
  refine ⟨zu_s, fun i hi => ?_, fun j hj => by rw [zu_k hj, zu_ne (by decide)]; exact a3 j hj, fun x h0 h1 => by rw [zu_ne h0, zu_ne h1]; exact a4 x h0 h1⟩
  rw [zu_ne (by decide)]
  by_cases e : i = k
  · rw [e, zu_s, hx]
  · rw [zu_k e]; exact a2 i (by omega)
set_option maxHeartbeats 4000000 in
set_option maxRecDepth 100000 in
theorem sp_putTwo {d t k x : Nat} {M0 M : zMI} {L : zML} {f : Nat → Nat} (h : zImP M0 M k f) (h55 : k + 1 < 55) (hx : x ≤ 9999) (h1 : f k = x / 256) (h2 : f (k + 1) = x % 256) : Sy yX11_putTwo YX11_putTwo (d + 1) [.ref 0, .int (nI x)] M L (zRf t) (fun v0 M' L' R' => v0 = none ∧ L = L' ∧ R' = zRf t ∧ zImP M0 M' (k + 2) f) := by
  refine Sp.of (by decide +kernel) rfl (fun h => by first | exact h | cases h) (Nat.le_of_ble_eq_true rfl) ?_
  intro w G
  have g1 := zImP_w h h1
  refine wp_aload_n (q := 1) dX11_putTwo_0 0 rfl rfl ?_
  refine wp_iload_n (q := 2) dX11_putTwo_1 1 rfl rfl ?_
  refine wp_sipush (q := 5) dX11_putTwo_2 zq_sipush_256 rfl ?_
  refine wp_idivN (q := 6) dX11_putTwo_5 (by omega) (by omega) (by omega) rfl ?_
  refine wp_cvx (q := 9) (sp_put (d := 0) h.1 (by omega)) zm_X11_put zl_RX11_378 dX11_putTwo_6 rfl (by omega) (Nat.le_of_ble_eq_true rfl) zsh_0 rfl rfl ?_
  refine wp_aload_n (q := 10) dX11_putTwo_9 0 rfl rfl ?_
  refine wp_iload_n (q := 11) dX11_putTwo_10 1 rfl rfl ?_
  refine wp_sipush (q := 14) dX11_putTwo_11 zq_sipush_256 rfl ?_
  refine wp_iremN (q := 15) dX11_putTwo_14 (by omega) (by omega) (by omega) rfl ?_
  refine wp_cvx (q := 18) (sp_put (d := 0) (k := k + 1) g1.1 (by omega)) zm_X11_put zl_RX11_378 dX11_putTwo_15 rfl (by omega) (Nat.le_of_ble_eq_true rfl) zsh_0 rfl rfl ?_
  exact wp_return dX11_putTwo_18 rfl ⟨rfl, ⟨rfl, rfl, rfl, zImP_w g1 h2⟩⟩ rfl rfl
def zMi (m : zMs) (k : Nat) (f : Nat → Nat) : zMs := (m.1, m.2.1, m.2.2.1, m.2.2.2.1, m.2.2.2.2.1, m.2.2.2.2.2.1, k, f)
set_option maxHeartbeats 4000000 in
set_option maxRecDepth 100000 in
theorem sp_image {d t n : Nat} {M : zMI} {L : zML} {g : zGd} {v : Nat → Nat} {hs : List (Nat → Nat)} {m : zMs} (h : zCI M L t n g v hs m) : Sy yX11_image YX11_image (d + 2) [.ref 0] M L (zRf t) (zAn M L t n g v hs (zMi m (7 + 6 * n) (zib n v)) (.int (nI (7 + 6 * n)))) := by
  refine Sp.of (by decide +kernel) rfl (fun h => by first | exact h | cases h) (Nat.le_of_ble_eq_true rfl) ?_
  intro w G
  have hv := zCI_hv h
  have hr := zCI_sr h
  have h8 := hv.1
  have ho : zSt 43 := Or.inl rfl
  obtain ⟨v8, vw, vi, v99, vg, w0, w1, w2⟩ := id hv
  have srf : ∀ {M2 : zMI} {k : Nat}, zImP M M2 k (zib n v) → zSR M2 43 n v := fun hh => zSR_fr hr (fun x x1 x2 => hh.2.2.2 x (by omega) (by omega))
  have e6 : ∀ s k, s < n → k < 6 → zib n v (6 + 6 * s + k) = v (3 + 6 * s + k) := fun s k hs hk => by
    unfold zib zib0
    rw [if_pos (by omega), if_neg (by omega)]
    congr 1
    omega
  have hbv : ∀ i, i < 6 + 6 * n → zib n v i < 256 := by
    intro i hi
    unfold zib zib0
    rw [if_pos hi]
    split
    · split
      · have : v (i / 2) ≤ 9999 := by
          have : i / 2 = 0 ∨ i / 2 = 1 ∨ i / 2 = 2 := by omega
          rcases this with e | e | e <;> rw [e] <;> assumption
        omega
      · exact Nat.mod_lt _ (by decide)
    · have hk : i - 3 = 3 + 6 * ((i - 6) / 6) + (i - 6) % 6 := by omega
      rw [hk]
      have hs : (i - 6) / 6 < n := by omega
      have b1 := vw _ hs
      have b2 := v99 _ hs
      have b3 := vg _ 0 hs (by decide)
      have b4 := vg _ 1 hs (by decide)
      have hm : (i - 6) % 6 = 0 ∨ (i - 6) % 6 = 1 ∨ (i - 6) % 6 = 2 ∨ (i - 6) % 6 = 3 ∨ (i - 6) % 6 = 4 ∨ (i - 6) % 6 = 5 := by omega
      generalize (i - 6) / 6 = s at *
      rcases hm with e | e | e | e | e | e <;> rw [e]
      · show wh v s < 256
        omega
      · rw [show 3 + 6 * s + 1 = 4 + 6 * s by omega]
        show ht v s < 256
        omega
      · rw [show 3 + 6 * s + 2 = 5 + 6 * s + 2 * 0 by omega]
        show gr v s 0 < 256
        omega
      · rw [show 3 + 6 * s + 3 = 6 + 6 * s + 2 * 0 by omega]
        show lw v s 0 < 256
        omega
      · rw [show 3 + 6 * s + 4 = 5 + 6 * s + 2 * 1 by omega]
        show gr v s 1 < 256
        omega
      · rw [show 3 + 6 * s + 5 = 6 + 6 * s + 2 * 1 by omega]
        show lw v s 1 < 256
        omega
  have fin : ∀ M2, zImP M M2 (6 + 6 * n) (zib n v) → WP w YX11_image (d + 2, SS, 0, 0) G (some (zXp (zAn M L t n g v hs (zMi m (7 + 6 * n) (zib n v)) (.int (nI (7 + 6 * n)))))) 146 [(1, .int (nI n)), (0, .ref 0)] [] SS M2 L (zRf t) := by
    intro M2 h2
    refine wp_aload_n (q := 147) dX11_image_146 1 rfl rfl ?_
    refine wp_aload_n (q := 148) dX11_image_147 1 rfl rfl ?_
    refine wp_aload_n (q := 149) dX11_image_148 1 rfl rfl ?_
    refine wp_getR (q := 152) dX11_image_149 zf_RX11_98 rfl zsh_0 (by first | rfl | assumption) rfl ?_
    refine wp_aload_n (q := 153) dX11_image_152 1 rfl rfl ?_
    refine wp_getI (q := 156) dX11_image_153 zf_RX11_101 rfl zsh_0 rfl ?_
    rw [h2.1]
    have hcc : zchk (zib n v) (6 + 6 * n) = zchk (zib0 v) (6 + 6 * n) := zchk_c _ (fun j hj => if_pos hj)
    refine wp_cvx (q := 159) (sp_check (d := 0) (a := 175) (ln := 55) (b := zib n v) zsh_175 (by omega) (by decide) (fun i hi => ⟨h2.2.1 i hi, hbv i hi⟩)) zm_X11_check zl_RX11_381 dX11_image_156 rfl (by omega) (Nat.le_of_ble_eq_true rfl) zsh_0 rfl rfl ?_
    rw [hcc]
    refine wp_cvx (q := 162) (sp_put (d := 0) h2.1 (by omega)) zm_X11_put zl_RX11_378 dX11_image_159 rfl (by omega) (Nat.le_of_ble_eq_true rfl) zsh_0 rfl rfl ?_
    have h3 := zImP_w h2 (show zib n v (6 + 6 * n) = zchk (zib0 v) (6 + 6 * n) from if_neg (by omega))
    refine wp_aload_n (q := 163) dX11_image_162 1 rfl rfl ?_
    refine wp_getI (q := 166) dX11_image_163 zf_RX11_101 rfl zsh_0 rfl ?_
    rw [zu_s, show 6 + 6 * n + 1 = 7 + 6 * n by omega]
    rw [show 6 + 6 * n + 1 = 7 + 6 * n by omega] at h3
    refine wp_ireturn dX11_image_166 rfl ⟨rfl, ⟨rfl, rfl, ?_, fun x hx => ⟨h3.2.2.2 x (by omega) (by omega), rfl⟩⟩⟩ rfl rfl
    obtain ⟨c1, c2, c3, c4, c5, c6, c7, c8, c9, c10, c11⟩ := zCI_cm h
    obtain ⟨i1, i2, i3, i4⟩ := h3
    exact zCI_m h (fun x x1 x2 x3 x4 x5 => i4 x x2 x4) ⟨by rw [i3 1 (by decide)]; exact c1, c2, fun i hi => by rw [i4 1 (by decide) (by decide)]; exact c3 i hi, fun i hi => by rw [i4 176 (by decide) (by decide)]; exact c4 i hi, by rw [i3 15 (by decide)]; exact c5, c6, by rw [i3 16 (by decide)]; exact c7, by rw [i3 17 (by decide)]; exact c8, i1, by show 7 + 6 * n ≤ 55; omega, i2⟩
  have loop : ∀ q s (M2 : zMI), s + q = n → zImP M M2 (6 + 6 * s) (zib n v) → WP w YX11_image (d + 2, SS, 0, 0) G (some (zXp (zAn M L t n g v hs (zMi m (7 + 6 * n) (zib n v)) (.int (nI (7 + 6 * n)))))) 40 [(1, .int (nI s)), (0, .ref 0)] [] SS M2 L (zRf t) := by
    intro q
    induction q with
    | zero =>
      intro s M2 hsq h2
      have hsn : s = n := by omega
      subst hsn
      refine wp_iload_n (q := 41) dX11_image_40 0 rfl rfl ?_
      refine wp_aload_n (q := 42) dX11_image_41 1 rfl rfl ?_
      refine wp_getR (q := 45) dX11_image_42 zf_RX11_55 rfl zsh_0 (by first | rfl | assumption) rfl ?_
      refine wp_getI (q := 48) dX11_image_45 zf_RX11_165 rfl zsh_43 rfl ?_
      rw [(srf h2).1]
      refine wp_icmp_geN (tgt := 146) (q := 51) dX11_image_48 (by decide) rfl (by omega) (by omega) (fun _ => ?_) (fun hn => absurd hn (by first | omega | exact fun h => h | exact fun h => h trivial))
      refine WP.sub (loc' := [(1, _), (0, _)]) [0, 1] rfl ?_
      exact fin M2 h2
    | succ q ih =>
      intro s M2 hsq h2
      have hsn : s < n := by omega
      obtain ⟨a1, a2, a3⟩ := (srf h2).2.2.2.2 s hsn
      have hw := vw s hsn
      refine wp_iload_n (q := 41) dX11_image_40 0 rfl rfl ?_
      refine wp_aload_n (q := 42) dX11_image_41 1 rfl rfl ?_
      refine wp_getR (q := 45) dX11_image_42 zf_RX11_55 rfl zsh_0 (by first | rfl | assumption) rfl ?_
      refine wp_getI (q := 48) dX11_image_45 zf_RX11_165 rfl zsh_43 rfl ?_
      rw [(srf h2).1]
      refine wp_icmp_geN (tgt := 146) (q := 51) dX11_image_48 (by decide) rfl (by omega) (by omega) (fun hn => absurd hn (by first | omega | exact fun h => h | exact fun h => h trivial)) (fun _ => ?_)
      refine wp_aload_n (q := 52) dX11_image_51 1 rfl rfl ?_
      refine wp_aload_n (q := 53) dX11_image_52 1 rfl rfl ?_
      refine wp_getR (q := 56) dX11_image_53 zf_RX11_55 rfl zsh_0 (by first | rfl | assumption) rfl ?_
      refine wp_getR (q := 59) dX11_image_56 zf_RX11_202 rfl zsh_43 (by first | rfl | assumption) rfl ?_
      refine wp_iload_n (q := 60) dX11_image_59 0 rfl rfl ?_
      refine wp_iald (q := 61) _ dX11_image_60 zsh_44 rfl (by omega) (by decide) rfl ?_
      rw [a1]
      refine wp_cvx (q := 64) (sp_put (d := 0) h2.1 (by omega)) zm_X11_put zl_RX11_378 dX11_image_61 rfl (by omega) (Nat.le_of_ble_eq_true rfl) zsh_0 rfl rfl ?_
      have h3 := zImP_w h2 (x := wh v s) (e6 s 0 hsn (by decide))
      generalize zu (zu M2 175 (6 + 6 * s) (nI (wh v s))) 0 14 (nI (6 + 6 * s + 1)) = M3 at h3 ⊢
      obtain ⟨a1, a2, a3⟩ := (srf h3).2.2.2.2 s hsn
      refine wp_aload_n (q := 65) dX11_image_64 1 rfl rfl ?_
      refine wp_aload_n (q := 66) dX11_image_65 1 rfl rfl ?_
      refine wp_getR (q := 69) dX11_image_66 zf_RX11_55 rfl zsh_0 (by first | rfl | assumption) rfl ?_
      refine wp_getR (q := 72) dX11_image_69 zf_RX11_218 rfl zsh_43 (by first | rfl | assumption) rfl ?_
      refine wp_aload_n (q := 73) dX11_image_72 1 rfl rfl ?_
      refine wp_getR (q := 76) dX11_image_73 zf_RX11_55 rfl zsh_0 (by first | rfl | assumption) rfl ?_
      refine wp_getR (q := 79) dX11_image_76 zf_RX11_202 rfl zsh_43 (by first | rfl | assumption) rfl ?_
      refine wp_iload_n (q := 80) dX11_image_79 0 rfl rfl ?_
      refine wp_iald (q := 81) _ dX11_image_80 zsh_44 rfl (by omega) (by decide) rfl ?_
      rw [a1]
      refine wp_iald (q := 82) _ dX11_image_81 zsh_45 rfl (by omega) (by decide) rfl ?_
      rw [a2]
      refine wp_cvx (q := 85) (sp_put (d := 0) h3.1 (by omega)) zm_X11_put zl_RX11_378 dX11_image_82 rfl (by omega) (Nat.le_of_ble_eq_true rfl) zsh_0 rfl rfl ?_
      have h4 := zImP_w h3 (x := ht v s) ((e6 s 1 hsn (by decide)).trans (congrArg v (by omega)))
      generalize zu (zu M3 175 (6 + 6 * s + 1) (nI (ht v s))) 0 14 (nI (6 + 6 * s + 1 + 1)) = M4 at h4 ⊢
      refine wp_iconst (q := 86) dX11_image_85 zq_iconst_0 rfl ?_
      refine wp_istore_n (q := 87) (loc' := [(2, _), (1, _), (0, _)]) dX11_image_86 rfl (by decide) rfl rfl ?_
      refine wp_iload_n (q := 88) dX11_image_87 0 rfl rfl ?_
      refine wp_iconst (q := 89) dX11_image_88 zq_iconst_2 rfl ?_
      refine wp_icmp_geN (tgt := 140) (q := 92) dX11_image_89 (by decide) rfl (by omega) (by omega) (fun hn => absurd hn (by first | omega | exact fun h => h | exact fun h => h trivial)) (fun _ => ?_)
      have step : ∀ hd k (M5 : zMI), hd < 2 → k = 8 + 6 * s + 2 * hd → zImP M M5 k (zib n v) → (∀ M7, zImP M M7 (k + 2) (zib n v) → WP w YX11_image (d + 2, SS, 0, 0) G (some (zXp (zAn M L t n g v hs (zMi m (7 + 6 * n) (zib n v)) (.int (nI (7 + 6 * n)))))) 134 [(2, .int (nI hd)), (1, .int (nI s)), (0, .ref 0)] [] SS M7 L (zRf t)) → WP w YX11_image (d + 2, SS, 0, 0) G (some (zXp (zAn M L t n g v hs (zMi m (7 + 6 * n) (zib n v)) (.int (nI (7 + 6 * n)))))) 92 [(2, .int (nI hd)), (1, .int (nI s)), (0, .ref 0)] [] SS M5 L (zRf t) := by
        intro hd k M5 hh hk h5 kk
        obtain ⟨g5, -⟩ := ((srf h5).2.2.2.2 s hsn).2.2 hd hh
        refine wp_aload_n (q := 93) dX11_image_92 2 rfl rfl ?_
        refine wp_aload_n (q := 94) dX11_image_93 2 rfl rfl ?_
        refine wp_getR (q := 97) dX11_image_94 zf_RX11_55 rfl zsh_0 (by first | rfl | assumption) rfl ?_
        refine wp_getR (q := 100) dX11_image_97 zf_RX11_224 rfl zsh_43 (by first | rfl | assumption) rfl ?_
        refine wp_aload_n (q := 101) dX11_image_100 2 rfl rfl ?_
        refine wp_getR (q := 104) dX11_image_101 zf_RX11_55 rfl zsh_0 (by first | rfl | assumption) rfl ?_
        refine wp_iload_n (q := 105) dX11_image_104 1 rfl rfl ?_
        refine wp_iload_n (q := 106) dX11_image_105 0 rfl rfl ?_
        refine wp_cvx (q := 109) (sp_handOf (d := 0) ho hv (srf h5) hsn hh) zm_X7_handOf zl_RX11_215 dX11_image_106 rfl (by omega) (Nat.le_of_ble_eq_true rfl) zsh_43 rfl rfl ?_
        refine wp_iald (q := 110) _ dX11_image_109 zsh_46 rfl (by omega) (by decide) rfl ?_
        rw [g5]
        refine wp_cvx (q := 113) (sp_put (d := 0) h5.1 (by omega)) zm_X11_put zl_RX11_378 dX11_image_110 rfl (by omega) (Nat.le_of_ble_eq_true rfl) zsh_0 rfl rfl ?_
        have h6 := zImP_w h5 (x := gr v s hd) (by rw [hk, show 8 + 6 * s + 2 * hd = 6 + 6 * s + (2 + 2 * hd) by omega, e6 s _ hsn (by omega)]; exact congrArg v (by omega))
        generalize zu (zu M5 175 k (nI (gr v s hd))) 0 14 (nI (k + 1)) = M6 at h6 ⊢
        obtain ⟨-, l6⟩ := ((srf h6).2.2.2.2 s hsn).2.2 hd hh
        refine wp_aload_n (q := 114) dX11_image_113 2 rfl rfl ?_
        refine wp_aload_n (q := 115) dX11_image_114 2 rfl rfl ?_
        refine wp_getR (q := 118) dX11_image_115 zf_RX11_55 rfl zsh_0 (by first | rfl | assumption) rfl ?_
        refine wp_getR (q := 121) dX11_image_118 zf_RX11_227 rfl zsh_43 (by first | rfl | assumption) rfl ?_
        refine wp_aload_n (q := 122) dX11_image_121 2 rfl rfl ?_
        refine wp_getR (q := 125) dX11_image_122 zf_RX11_55 rfl zsh_0 (by first | rfl | assumption) rfl ?_
        refine wp_iload_n (q := 126) dX11_image_125 1 rfl rfl ?_
        refine wp_iload_n (q := 127) dX11_image_126 0 rfl rfl ?_
        refine wp_cvx (q := 130) (sp_handOf (d := 0) ho hv (srf h6) hsn hh) zm_X7_handOf zl_RX11_215 dX11_image_127 rfl (by omega) (Nat.le_of_ble_eq_true rfl) zsh_43 rfl rfl ?_
        refine wp_iald (q := 131) _ dX11_image_130 zsh_47 rfl (by omega) (by decide) rfl ?_
        rw [l6]
        refine wp_cvx (q := 134) (sp_put (d := 0) h6.1 (by omega)) zm_X11_put zl_RX11_378 dX11_image_131 rfl (by omega) (Nat.le_of_ble_eq_true rfl) zsh_0 rfl rfl ?_
        have h7 := zImP_w h6 (x := lw v s hd) (by rw [hk, show 8 + 6 * s + 2 * hd + 1 = 6 + 6 * s + (3 + 2 * hd) by omega, e6 s _ hsn (by omega)]; exact congrArg v (by omega))
        refine WP.sub (loc' := [(2, _), (1, _), (0, _)]) [0, 1, 2] rfl ?_
        exact kk _ h7
      refine WP.sub (loc' := [(2, _), (1, _), (0, _)]) [0, 1, 2] rfl ?_
      refine step 0 (6 + 6 * s + 1 + 1) M4 (by decide) (by omega) h4 (fun M5 h5 => ?_)
      refine wp_iincN (q := 137) (loc' := [(2, _), (1, _), (0, _)]) (n := 1) dX11_image_134 rfl 0 rfl (by decide) rfl rfl ?_
      refine wp_goto (tgt := 87) dX11_image_137 (by decide) ?_
      refine wp_iload_n (q := 88) dX11_image_87 0 rfl rfl ?_
      refine wp_iconst (q := 89) dX11_image_88 zq_iconst_2 rfl ?_
      refine wp_icmp_geN (tgt := 140) (q := 92) dX11_image_89 (by decide) rfl (by omega) (by omega) (fun hn => absurd hn (by first | omega | exact fun h => h | exact fun h => h trivial)) (fun _ => ?_)
      refine WP.sub (loc' := [(2, _), (1, _), (0, _)]) [0, 1, 2] rfl ?_
      refine step 1 (6 + 6 * s + 1 + 1 + 2) M5 (by decide) (by omega) h5 (fun M6 h6 => ?_)
      refine wp_iincN (q := 137) (loc' := [(2, _), (1, _), (0, _)]) (n := 1) dX11_image_134 rfl 0 rfl (by decide) rfl rfl ?_
      refine wp_goto (tgt := 87) dX11_image_137 (by decide) ?_
      refine wp_iload_n (q := 88) dX11_image_87 0 rfl rfl ?_
      refine wp_iconst (q := 89) dX11_image_88 zq_iconst_2 rfl ?_
      refine wp_icmp_geN (tgt := 140) (q := 92) dX11_image_89 (by decide) rfl (by omega) (by omega) (fun _ => ?_) (fun hn => absurd hn (by first | omega | exact fun h => h | exact fun h => h trivial))
      refine wp_iincN (q := 143) (loc' := [(1, _), (2, _), (0, _)]) (n := 1) dX11_image_140 rfl 1 rfl (by decide) rfl rfl ?_
      refine wp_goto (tgt := 40) dX11_image_143 (by decide) ?_
      refine WP.sub (loc' := [(1, _), (0, _)]) [0, 2] rfl ?_
      rw [show 6 + 6 * s + 1 + 1 + 2 + 2 = 6 + 6 * (s + 1) by omega] at h6
      exact ih (s + 1) M6 (by omega) h6
  refine wp_aload_n (q := 1) dX11_image_0 0 rfl rfl ?_
  refine wp_iconst (q := 2) dX11_image_1 zq_iconst_0 rfl ?_
  refine wp_putI (q := 5) dX11_image_2 zf_RX11_101 rfl zsh_0 rfl ?_
  have h0 : zImP M (zu M 0 14 (nI 0)) 0 (zib n v) := ⟨zu_s, fun i hi => absurd hi (Nat.not_lt_zero _), fun j hj => zu_k hj, fun x x0 _ => zu_ne x0⟩
  generalize zu M 0 14 (nI 0) = M1 at h0 ⊢
  refine wp_aload_n (q := 6) dX11_image_5 0 rfl rfl ?_
  refine wp_aload_n (q := 7) dX11_image_6 0 rfl rfl ?_
  refine wp_getR (q := 10) dX11_image_7 zf_RX11_55 rfl zsh_0 (by first | rfl | assumption) rfl ?_
  refine wp_getI (q := 13) dX11_image_10 zf_RX11_178 rfl zsh_43 rfl ?_
  rw [(srf h0).2.1]
  refine wp_cvy (q := 16) (sp_putTwo (d := 0) h0 (by decide) w0 (by unfold zib zib0; rw [if_pos (by omega)]; rfl) (by unfold zib zib0; rw [if_pos (by omega)]; rfl)) zm_X11_putTwo zl_RX11_375 dX11_image_13 rfl (by omega) (Nat.le_of_ble_eq_true rfl) zsh_0 rfl rfl ?_
  rintro _ M2 _ _ ⟨rfl, rfl, rfl, h2⟩
  refine wp_aload_n (q := 17) dX11_image_16 0 rfl rfl ?_
  refine wp_aload_n (q := 18) dX11_image_17 0 rfl rfl ?_
  refine wp_getR (q := 21) dX11_image_18 zf_RX11_55 rfl zsh_0 (by first | rfl | assumption) rfl ?_
  refine wp_getI (q := 24) dX11_image_21 zf_RX11_181 rfl zsh_43 rfl ?_
  rw [(srf h2).2.2.1]
  refine wp_cvy (q := 27) (sp_putTwo (d := 0) h2 (by decide) w1 (by unfold zib zib0; rw [if_pos (by omega)]; rfl) (by unfold zib zib0; rw [if_pos (by omega)]; rfl)) zm_X11_putTwo zl_RX11_375 dX11_image_24 rfl (by omega) (Nat.le_of_ble_eq_true rfl) zsh_0 rfl rfl ?_
  rintro _ M3 _ _ ⟨rfl, rfl, rfl, h3⟩
  refine wp_aload_n (q := 28) dX11_image_27 0 rfl rfl ?_
  refine wp_aload_n (q := 29) dX11_image_28 0 rfl rfl ?_
  refine wp_getR (q := 32) dX11_image_29 zf_RX11_55 rfl zsh_0 (by first | rfl | assumption) rfl ?_
  refine wp_getI (q := 35) dX11_image_32 zf_RX11_184 rfl zsh_43 rfl ?_
  rw [(srf h3).2.2.2.1]
  refine wp_cvy (q := 38) (sp_putTwo (d := 0) h3 (by decide) w2 (by unfold zib zib0; rw [if_pos (by omega)]; rfl) (by unfold zib zib0; rw [if_pos (by omega)]; rfl)) zm_X11_putTwo zl_RX11_375 dX11_image_35 rfl (by omega) (Nat.le_of_ble_eq_true rfl) zsh_0 rfl rfl ?_
  rintro _ M4 _ _ ⟨rfl, rfl, rfl, h4⟩
  refine wp_iconst (q := 39) dX11_image_38 zq_iconst_0 rfl ?_
  refine wp_istore_n (q := 40) (loc' := [(1, _), (0, _)]) dX11_image_39 rfl (by decide) rfl rfl ?_
  refine WP.sub (loc' := [(1, _), (0, _)]) [0, 1] rfl ?_
  exact loop n 0 M4 (Nat.zero_add _) h4

