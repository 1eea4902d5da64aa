theorem zcp_ne {M : zMI} {a b sp dp n o : Nat} (h : o ≠ b) : zcp M a b sp dp n o = M o := if_neg h
theorem zcp_eq {M : zMI} {a b n k : Nat} : zcp M a b 0 0 n b k = if k < n then M a k else M b k := by
  show (if b = b then va_cpy (M a) (M b) 0 0 n else M b) k = _
  rw [if_pos rfl]
  unfold va_cpy
  by_cases h : k < n
  · rw [if_pos ⟨by omega, by omega⟩, if_pos h]
    congr 1
    omega
  · rw [if_neg (by omega), if_neg h]
theorem zSt_apart {a b : Nat} (ha : zSt a) (hb : zSt b) (h : a ≠ b) : a + 4 < b ∨ b + 4 < a := by
  rcases ha with rfl | rfl | rfl | ⟨i, hi, rfl⟩ <;> rcases hb with rfl | rfl | rfl | ⟨j, hj, rfl⟩ <;> omega
theorem zSR_fr {M M' : zMI} {o n : Nat} {v : Nat → Nat} (hr : zSR M o n v) (h : ∀ x, o ≤ x → x ≤ o + 4 → M' x = M x) : zSR M' o n v := by
  obtain ⟨r0, r1, r2, r3, r4⟩ := hr
  have e0 := h o (by omega) (by omega)
  refine ⟨by rw [e0, r0], by rw [e0, r1], by rw [e0, r2], by rw [e0, r3], fun s hs => ?_⟩
  rw [h (o + 1) (by omega) (by omega), h (o + 2) (by omega) (by omega), h (o + 3) (by omega) (by omega), h (o + 4) (by omega) (by omega)]
  exact r4 s hs
set_option maxHeartbeats 4000000 in
set_option maxRecDepth 100000 in
theorem sp_copyFrom {d t a b : Nat} {M : zMI} {L : zML} (ha : zSt a) (hb : zSt b) (hab : a ≠ b) : Sy yX7_copyFrom YX7_copyFrom (d + 1) [.ref a, .ref b] M L (zRf t) (fun v0 M' L' R' => v0 = none ∧ L = L' ∧ R' = zRf t ∧ (∀ n v, zV n v → zSR M b n v → zSR M' a n v) ∧ ∀ x, (x < a ∨ a + 4 < x) → M' x = M x) := by
  refine Sp.of (by decide +kernel) rfl (fun h => by first | exact h | cases h) (Nat.le_of_ble_eq_true rfl) ?_
  intro w G
  have hsa := zSt_s ha
  obtain ⟨ha1, ha2, ha3, ha4⟩ := zSt_a ha
  obtain ⟨hr1, hr2, hr3, hr4⟩ := zSt_r (t := t) ha
  have hsb := zSt_s hb
  obtain ⟨hb1, hb2, hb3, hb4⟩ := zSt_a hb
  obtain ⟨hq1, hq2, hq3, hq4⟩ := zSt_r (t := t) hb
  have hap := zSt_apart ha hb hab
  refine wp_aload_n (q := 1) dX7_copyFrom_0 0 rfl rfl ?_
  refine wp_aload_n (q := 2) dX7_copyFrom_1 1 rfl rfl ?_
  refine wp_getI (q := 5) dX7_copyFrom_2 zf_RX7_9 rfl (by first | assumption | rfl) rfl ?_
  refine wp_putI (q := 8) dX7_copyFrom_5 zf_RX7_9 rfl (by first | assumption | rfl) rfl ?_
  refine wp_aload_n (q := 9) dX7_copyFrom_8 0 rfl rfl ?_
  refine wp_aload_n (q := 10) dX7_copyFrom_9 1 rfl rfl ?_
  refine wp_getI (q := 13) dX7_copyFrom_10 zf_RX7_15 rfl (by first | assumption | rfl) rfl ?_
  refine wp_putI (q := 16) dX7_copyFrom_13 zf_RX7_15 rfl (by first | assumption | rfl) rfl ?_
  refine wp_aload_n (q := 17) dX7_copyFrom_16 0 rfl rfl ?_
  refine wp_aload_n (q := 18) dX7_copyFrom_17 1 rfl rfl ?_
  refine wp_getI (q := 21) dX7_copyFrom_18 zf_RX7_18 rfl (by first | assumption | rfl) rfl ?_
  refine wp_putI (q := 24) dX7_copyFrom_21 zf_RX7_18 rfl (by first | assumption | rfl) rfl ?_
  refine wp_aload_n (q := 25) dX7_copyFrom_24 0 rfl rfl ?_
  refine wp_aload_n (q := 26) dX7_copyFrom_25 1 rfl rfl ?_
  refine wp_getI (q := 29) dX7_copyFrom_26 zf_RX7_21 rfl (by first | assumption | rfl) rfl ?_
  refine wp_putI (q := 32) dX7_copyFrom_29 zf_RX7_21 rfl (by first | assumption | rfl) rfl ?_
  refine wp_aload_n (q := 33) dX7_copyFrom_32 1 rfl rfl ?_
  refine wp_getR (q := 36) dX7_copyFrom_33 zf_RX7_24 rfl (by first | assumption | rfl) (by first | assumption | rfl) rfl ?_
  refine wp_iconst (q := 37) dX7_copyFrom_36 zq_iconst_0 rfl ?_
  refine wp_aload_n (q := 38) dX7_copyFrom_37 0 rfl rfl ?_
  refine wp_getR (q := 41) dX7_copyFrom_38 zf_RX7_24 rfl (by first | assumption | rfl) (by first | assumption | rfl) rfl ?_
  refine wp_iconst (q := 42) dX7_copyFrom_41 zq_iconst_0 rfl ?_
  refine wp_bipush (q := 44) dX7_copyFrom_42 zq_bipush_8 rfl ?_
  refine wp_copy (q := 47) dX7_copyFrom_44 zl_RX7_41 (by first | assumption | rfl) (by first | assumption | rfl) rfl rfl rfl (by omega) (by omega) (by decide) (by decide) (by omega) (by decide) rfl ?_
  refine wp_aload_n (q := 48) dX7_copyFrom_47 1 rfl rfl ?_
  refine wp_getR (q := 51) dX7_copyFrom_48 zf_RX7_28 rfl (by first | assumption | rfl) (by first | assumption | rfl) rfl ?_
  refine wp_iconst (q := 52) dX7_copyFrom_51 zq_iconst_0 rfl ?_
  refine wp_aload_n (q := 53) dX7_copyFrom_52 0 rfl rfl ?_
  refine wp_getR (q := 56) dX7_copyFrom_53 zf_RX7_28 rfl (by first | assumption | rfl) (by first | assumption | rfl) rfl ?_
  refine wp_iconst (q := 57) dX7_copyFrom_56 zq_iconst_0 rfl ?_
  refine wp_bipush (q := 59) dX7_copyFrom_57 zq_bipush_8 rfl ?_
  refine wp_copy (q := 62) dX7_copyFrom_59 zl_RX7_41 (by first | assumption | rfl) (by first | assumption | rfl) rfl rfl rfl (by omega) (by omega) (by decide) (by decide) (by omega) (by decide) rfl ?_
  refine wp_aload_n (q := 63) dX7_copyFrom_62 1 rfl rfl ?_
  refine wp_getR (q := 66) dX7_copyFrom_63 zf_RX7_31 rfl (by first | assumption | rfl) (by first | assumption | rfl) rfl ?_
  refine wp_iconst (q := 67) dX7_copyFrom_66 zq_iconst_0 rfl ?_
  refine wp_aload_n (q := 68) dX7_copyFrom_67 0 rfl rfl ?_
  refine wp_getR (q := 71) dX7_copyFrom_68 zf_RX7_31 rfl (by first | assumption | rfl) (by first | assumption | rfl) rfl ?_
  refine wp_iconst (q := 72) dX7_copyFrom_71 zq_iconst_0 rfl ?_
  refine wp_bipush (q := 74) dX7_copyFrom_72 zq_bipush_16 rfl ?_
  refine wp_copy (q := 77) dX7_copyFrom_74 zl_RX7_41 (by first | assumption | rfl) (by first | assumption | rfl) rfl rfl rfl (by omega) (by omega) (by decide) (by decide) (by omega) (by decide) rfl ?_
  refine wp_aload_n (q := 78) dX7_copyFrom_77 1 rfl rfl ?_
  refine wp_getR (q := 81) dX7_copyFrom_78 zf_RX7_34 rfl (by first | assumption | rfl) (by first | assumption | rfl) rfl ?_
  refine wp_iconst (q := 82) dX7_copyFrom_81 zq_iconst_0 rfl ?_
  refine wp_aload_n (q := 83) dX7_copyFrom_82 0 rfl rfl ?_
  refine wp_getR (q := 86) dX7_copyFrom_83 zf_RX7_34 rfl (by first | assumption | rfl) (by first | assumption | rfl) rfl ?_
  refine wp_iconst (q := 87) dX7_copyFrom_86 zq_iconst_0 rfl ?_
  refine wp_bipush (q := 89) dX7_copyFrom_87 zq_bipush_16 rfl ?_
  refine wp_copy (q := 92) dX7_copyFrom_89 zl_RX7_41 (by first | assumption | rfl) (by first | assumption | rfl) rfl rfl rfl (by omega) (by omega) (by decide) (by decide) (by omega) (by decide) rfl ?_
  refine wp_return dX7_copyFrom_92 rfl ⟨rfl, ⟨rfl, rfl, rfl, fun n v hv hr => ?_, fun x hx => ?_⟩⟩ rfl rfl
  · obtain ⟨r0, r1, r2, r3, r4⟩ := hr
    have z1 : ∀ (f : zMI) (x : Int32) (k o' : Nat), o' ≠ a → zu f a k x o' = f o' := fun f x k o' h => zu_ne h
    have n1 : b ≠ a := by omega
    refine ⟨?_, ?_, ?_, ?_, fun s hs => ?_⟩
    · rw [zcp_ne (by omega), zcp_ne (by omega), zcp_ne (by omega), zcp_ne (by omega), zu_k (by decide), zu_k (by decide), zu_k (by decide), zu_s, r0]
    · rw [zcp_ne (by omega), zcp_ne (by omega), zcp_ne (by omega), zcp_ne (by omega), zu_k (by decide), zu_k (by decide), zu_s, zu_ne n1, r1]
    · rw [zcp_ne (by omega), zcp_ne (by omega), zcp_ne (by omega), zcp_ne (by omega), zu_k (by decide), zu_s, zu_ne n1, zu_ne n1, r2]
    · rw [zcp_ne (by omega), zcp_ne (by omega), zcp_ne (by omega), zcp_ne (by omega), zu_s, zu_ne n1, zu_ne n1, zu_ne n1, r3]
    · have h8 := hv.1
      have hw := hv.2.1 s hs
      obtain ⟨a1, a2, a3⟩ := r4 s hs
      refine ⟨?_, ?_, fun h hh => ⟨?_, ?_⟩⟩
      · rw [zcp_ne (by omega), zcp_ne (by omega), zcp_ne (by omega), zcp_eq, if_pos (by omega), z1 _ _ _ _ (by omega), z1 _ _ _ _ (by omega), z1 _ _ _ _ (by omega), z1 _ _ _ _ (by omega), a1]
      · rw [zcp_ne (by omega), zcp_ne (by omega), zcp_eq, if_pos (by omega), zcp_ne (by omega), z1 _ _ _ _ (by omega), z1 _ _ _ _ (by omega), z1 _ _ _ _ (by omega), z1 _ _ _ _ (by omega), a2]
      · rw [zcp_ne (by omega), zcp_eq, if_pos (by omega), zcp_ne (by omega), zcp_ne (by omega), z1 _ _ _ _ (by omega), z1 _ _ _ _ (by omega), z1 _ _ _ _ (by omega), z1 _ _ _ _ (by omega), (a3 h hh).1]
      · rw [zcp_eq, if_pos (by omega), zcp_ne (by omega), zcp_ne (by omega), zcp_ne (by omega), z1 _ _ _ _ (by omega), z1 _ _ _ _ (by omega), z1 _ _ _ _ (by omega), z1 _ _ _ _ (by omega), (a3 h hh).2]
  · rw [zcp_ne (by omega), zcp_ne (by omega), zcp_ne (by omega), zcp_ne (by omega), zu_ne (by omega), zu_ne (by omega), zu_ne (by omega), zu_ne (by omega)]
theorem zr_past {t i : Nat} (h : i < 20) : zRf t 49 i = some (50 + 5 * i) := by
  rw [zRf_c (by omega) (by omega) (by omega)]
  have : ∀ i, i < 20 → zRc 49 i = some (50 + 5 * i) := by decide +kernel
  exact this i h
theorem zSt_past {i : Nat} (h : i < 20) : zSt (50 + 5 * i) := Or.inr (Or.inr (Or.inr ⟨i, h, rfl⟩))
-- the last acts, the newest first
def zHi (M : zMI) (n nx : Nat) (hs : List (Nat → Nat)) : Prop := nx < 20 ∧ hs.length ≤ 20 ∧ M 48 1 = nI nx ∧ M 48 2 = nI hs.length ∧ ∀ i v, hs[i]? = some v → zV n v ∧ zSR M (50 + 5 * ((nx + 19 - i) % 20)) n v
set_option maxHeartbeats 4000000 in
set_option maxRecDepth 100000 in
theorem sp_forget {d t : Nat} {M : zMI} {L : zML} : Sx yX2_forget YX2_forget (d) [.ref 48] M L (zRf t) (none) (zu M 48 2 (nI 0)) L (zRf t) := by
  refine Sp.of (by decide +kernel) rfl (fun h => by first | exact h | cases h) (Nat.le_of_ble_eq_true rfl) ?_
  intro w G
  refine wp_aload_n (q := 1) dX2_forget_0 0 rfl rfl ?_
  refine wp_iconst (q := 2) dX2_forget_1 zq_iconst_0 rfl ?_
  refine wp_putI (q := 5) dX2_forget_2 zf_RX2_21 rfl zsh_48 rfl ?_
  exact wp_return dX2_forget_5 rfl ⟨rfl, rfl, rfl, rfl, rfl⟩ rfl rfl
set_option maxHeartbeats 4000000 in
set_option maxRecDepth 100000 in
theorem sp_keep {d t n nx : Nat} {M : zMI} {L : zML} {v : Nat → Nat} {hs : List (Nat → Nat)} (hv : zV n v) (hr : zSR M 43 n v) (hh : zHi M n nx hs) : Sy yX2_keep YX2_keep (d + 2) [.ref 48, .ref 43] M L (zRf t) (fun v0 M' L' R' => v0 = none ∧ L = L' ∧ R' = zRf t ∧ zHi M' n ((nx + 1) % 20) ((v :: hs).take 20) ∧ ∀ x, (x < 48 ∨ 150 ≤ x) → M' x = M x) := by
  refine Sp.of (by decide +kernel) rfl (fun h => by first | exact h | cases h) (Nat.le_of_ble_eq_true rfl) ?_
  intro w G
  obtain ⟨hnx, hlen, h1, h2, h3⟩ := hh
  have hst := zSt_past hnx
  have hss := zSt_s hst
  refine wp_aload_n (q := 1) dX2_keep_0 0 rfl rfl ?_
  refine wp_getR (q := 4) dX2_keep_1 zf_RX2_11 rfl zsh_48 (zr_48_0 _) rfl ?_
  refine wp_aload_n (q := 5) dX2_keep_4 0 rfl rfl ?_
  refine wp_getI (q := 8) dX2_keep_5 zf_RX2_17 rfl zsh_48 rfl ?_
  rw [h1]
  refine wp_aald (q := 9) _ dX2_keep_8 zsh_49 (by simp [zTys]) rfl (by omega) (by decide) (zr_past hnx) rfl ?_
  refine wp_aload_n (q := 10) dX2_keep_9 1 rfl rfl ?_
  refine wp_cvy (q := 13) (sp_copyFrom (d := d) hst (Or.inl rfl) (by omega)) zm_X7_copyFrom zl_RX2_25 dX2_keep_10 rfl (by omega) (Nat.le_of_ble_eq_true rfl) (by first | assumption | rfl) rfl rfl ?_
  rintro _ M2 _ _ ⟨rfl, rfl, rfl, hc, hf⟩
  have e48 : M2 48 = M 48 := hf 48 (by omega)
  refine wp_aload_n (q := 14) dX2_keep_13 0 rfl rfl ?_
  refine wp_aload_n (q := 15) dX2_keep_14 0 rfl rfl ?_
  refine wp_getI (q := 18) dX2_keep_15 zf_RX2_17 rfl zsh_48 rfl ?_
  rw [e48, h1]
  refine wp_iconst (q := 19) dX2_keep_18 zq_iconst_1 rfl ?_
  refine wp_iaddN (q := 20) dX2_keep_19 rfl ?_
  refine wp_bipush (q := 22) dX2_keep_20 zq_bipush_20 rfl ?_
  refine wp_iremN (q := 23) dX2_keep_22 (by omega) (by omega) (by omega) rfl ?_
  refine wp_putI (q := 26) dX2_keep_23 zf_RX2_17 rfl zsh_48 rfl ?_
  refine wp_aload_n (q := 27) dX2_keep_26 0 rfl rfl ?_
  refine wp_bipush (q := 29) dX2_keep_27 zq_bipush_20 rfl ?_
  refine wp_aload_n (q := 30) dX2_keep_29 0 rfl rfl ?_
  refine wp_getI (q := 33) dX2_keep_30 zf_RX2_21 rfl zsh_48 rfl ?_
  rw [zu_k (by decide), e48, h2]
  refine wp_iconst (q := 34) dX2_keep_33 zq_iconst_1 rfl ?_
  refine wp_iaddN (q := 35) dX2_keep_34 rfl ?_
  refine wp_mmin (q := 38) dX2_keep_35 zl_RX2_29 (by omega) (Nat.le_of_ble_eq_true rfl) (Nat.le_refl _) (Nat.le_refl _) rfl ?_
  have e : (if nI (hs.length + 1) < nI 20 then nI (hs.length + 1) else nI 20) = nI ((v :: hs).take 20).length := by
    rw [List.length_take, List.length_cons]
    by_cases h : hs.length + 1 < 20
    · rw [if_pos ((nI_ltI (by omega) (by decide)).mpr h), Nat.min_eq_right (by omega)]
    · rw [if_neg (fun c => h ((nI_ltI (by omega) (by decide)).mp c)), Nat.min_eq_left (by omega)]
  rw [e]
  refine wp_putI (q := 41) dX2_keep_38 zf_RX2_21 rfl zsh_48 rfl ?_
  refine wp_return dX2_keep_41 rfl ⟨rfl, ⟨rfl, rfl, rfl, ?_, fun x hx => ?_⟩⟩ rfl rfl
  · refine ⟨Nat.mod_lt _ (by decide), by rw [List.length_take]; omega, by rw [zu_k (by decide), zu_s], by rw [zu_s], fun i u hi => ?_⟩
    have fr : ∀ j, j < 20 → j ≠ nx → ∀ w, zSR M (50 + 5 * j) n w → zSR (zu (zu M2 48 1 (nI ((nx + 1) % 20))) 48 2 (nI ((v :: hs).take 20).length)) (50 + 5 * j) n w := by
      intro j hj hne w hw
      refine zSR_fr hw (fun x a1 a2 => ?_)
      rw [zu_ne (by omega), zu_ne (by omega), hf x (by omega)]
    have hi20 : i < 20 := by
      have := (List.getElem?_eq_some_iff.mp hi).1
      rw [List.length_take] at this
      omega
    rw [List.getElem?_take_of_lt hi20] at hi
    cases i with
    | zero =>
      cases hi
      refine ⟨hv, ?_⟩
      rw [show ((nx + 1) % 20 + 19 - 0) % 20 = nx by omega]
      exact zSR_fr (hc n v hv hr) (fun x a1 a2 => by rw [zu_ne (by omega), zu_ne (by omega)])
    | succ i =>
      rw [List.getElem?_cons_succ] at hi
      obtain ⟨a1, a2⟩ := h3 i u hi
      refine ⟨a1, ?_⟩
      rw [show ((nx + 1) % 20 + 19 - (i + 1)) % 20 = (nx + 19 - i) % 20 by omega]
      exact fr _ (Nat.mod_lt _ (by decide)) (by omega) u a2
  · rw [zu_ne (by omega), zu_ne (by omega), hf x (by omega)]
set_option maxHeartbeats 4000000 in
set_option maxRecDepth 100000 in
theorem sp_bringBack {d t n nx : Nat} {M : zMI} {L : zML} {v : Nat → Nat} {hs : List (Nat → Nat)} (hh : zHi M n nx (v :: hs)) : Sy yX2_bringBack YX2_bringBack (d + 2) [.ref 48, .ref 43] M L (zRf t) (fun v0 M' L' R' => v0 = none ∧ L = L' ∧ R' = zRf t ∧ zSR M' 43 n v ∧ zHi M' n ((nx + 19) % 20) hs ∧ ∀ x, (x < 43 ∨ (47 < x ∧ x ≠ 48)) → M' x = M x) := by
  refine Sp.of (by decide +kernel) rfl (fun h => by first | exact h | cases h) (Nat.le_of_ble_eq_true rfl) ?_
  intro w G
  obtain ⟨hnx, hlen, h1, h2, h3⟩ := hh
  rw [List.length_cons] at hlen h2
  have hp : (nx + 19) % 20 < 20 := Nat.mod_lt _ (by decide)
  have hst := zSt_past hp
  have hss := zSt_s hst
  refine wp_aload_n (q := 1) dX2_bringBack_0 0 rfl rfl ?_
  refine wp_getI (q := 4) dX2_bringBack_1 zf_RX2_21 rfl zsh_48 rfl ?_
  rw [h2]
  refine wp_if_leN (tgt := 46) (q := 7) dX2_bringBack_4 (by decide) rfl (by omega) (fun hn => absurd hn (by omega)) (fun _ => ?_)
  refine wp_aload_n (q := 8) dX2_bringBack_7 0 rfl rfl ?_
  refine wp_aload_n (q := 9) dX2_bringBack_8 0 rfl rfl ?_
  refine wp_getI (q := 12) dX2_bringBack_9 zf_RX2_17 rfl zsh_48 rfl ?_
  rw [h1]
  refine wp_bipush (q := 14) dX2_bringBack_12 zq_bipush_20 rfl ?_
  refine wp_iaddN (q := 15) dX2_bringBack_14 rfl ?_
  refine wp_iconst (q := 16) dX2_bringBack_15 zq_iconst_1 rfl ?_
  refine wp_isubN (q := 17) dX2_bringBack_16 (by omega) rfl ?_
  refine wp_bipush (q := 19) dX2_bringBack_17 zq_bipush_20 rfl ?_
  refine wp_iremN (q := 20) dX2_bringBack_19 (by omega) (by omega) (by omega) rfl ?_
  refine wp_putI (q := 23) dX2_bringBack_20 zf_RX2_17 rfl zsh_48 rfl ?_
  refine wp_aload_n (q := 24) dX2_bringBack_23 0 rfl rfl ?_
  refine wp_dup (q := 25) dX2_bringBack_24 rfl rfl ?_
  refine wp_getI (q := 28) dX2_bringBack_25 zf_RX2_21 rfl zsh_48 rfl ?_
  rw [zu_k (by decide), h2]
  refine wp_iconst (q := 29) dX2_bringBack_28 zq_iconst_1 rfl ?_
  refine wp_isubN (q := 30) dX2_bringBack_29 (by omega) rfl ?_
  refine wp_putI (q := 33) dX2_bringBack_30 zf_RX2_21 rfl zsh_48 rfl ?_
  refine wp_aload_n (q := 34) dX2_bringBack_33 1 rfl rfl ?_
  refine wp_aload_n (q := 35) dX2_bringBack_34 0 rfl rfl ?_
  refine wp_getR (q := 38) dX2_bringBack_35 zf_RX2_11 rfl zsh_48 (zr_48_0 _) rfl ?_
  refine wp_aload_n (q := 39) dX2_bringBack_38 0 rfl rfl ?_
  refine wp_getI (q := 42) dX2_bringBack_39 zf_RX2_17 rfl zsh_48 rfl ?_
  rw [zu_k (by decide), zu_s, show (nx + 20 - 1) % 20 = (nx + 19) % 20 from rfl]
  refine wp_aald (q := 43) _ dX2_bringBack_42 zsh_49 (by simp [zTys]) rfl (by omega) (by decide) (zr_past hp) rfl ?_
  refine wp_cvy (q := 46) (sp_copyFrom (d := d) (Or.inl rfl) hst (by omega)) zm_X7_copyFrom zl_RX2_25 dX2_bringBack_43 rfl (by omega) (Nat.le_of_ble_eq_true rfl) zsh_43 rfl rfl ?_
  rintro _ M2 _ _ ⟨rfl, rfl, rfl, hc, hf⟩
  have e1 : (hs.length + 1 - 1) = hs.length := rfl
  have hfr : ∀ x, x ≠ 48 → (x < 43 ∨ 47 < x) → M2 x = M x := fun x a1 a2 => by rw [hf x (by omega), zu_ne a1, zu_ne a1]
  obtain ⟨v1, v2⟩ := h3 0 v rfl
  rw [Nat.sub_zero] at v2
  refine wp_return dX2_bringBack_46 rfl ⟨rfl, ⟨rfl, rfl, rfl, ?_, ?_, fun x hx => hfr x (by omega) (by omega)⟩⟩ rfl rfl
  · exact hc n v v1 (zSR_fr v2 (fun x a1 a2 => by rw [zu_ne (by omega), zu_ne (by omega)]))
  · refine ⟨hp, by omega, by rw [hf 48 (by omega), zu_k (by decide), zu_s], by rw [hf 48 (by omega), zu_s]; rfl, fun i u hi => ?_⟩
    have hl := (List.getElem?_eq_some_iff.mp hi).1
    obtain ⟨a1, a2⟩ := h3 (i + 1) u (by rw [List.getElem?_cons_succ]; exact hi)
    refine ⟨a1, ?_⟩
    rw [show ((nx + 19) % 20 + 19 - i) % 20 = (nx + 19 - (i + 1)) % 20 by omega]
    exact zSR_fr a2 (fun x b1 b2 => hfr x (by omega) (by omega))

