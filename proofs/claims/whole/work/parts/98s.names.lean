theorem zLE_inj : ∀ (l l' : List Nat), (∀ x, x ∈ l → 1 ≤ x ∧ x ≤ 26) → (∀ x, x ∈ l' → 1 ≤ x ∧ x ≤ 26) → zLE l = zLE l' → l = l'
  | [], [], _, _, _ => rfl
  | [], y :: r', _, h', e => by
    have h1 := h' y (List.mem_cons_self ..)
    have e1 : 0 = y + 27 * zLE r' := e
    omega
  | x :: r, [], h, _, e => by
    have h1 := h x (List.mem_cons_self ..)
    have e1 : x + 27 * zLE r = 0 := e
    omega
  | x :: r, y :: r', h, h', e => by
    have h1 := h x (List.mem_cons_self ..)
    have h2 := h' y (List.mem_cons_self ..)
    have e1 : x + 27 * zLE r = y + 27 * zLE r' := e
    rw [zLE_inj r r' (fun z hz => h z (List.mem_cons_of_mem _ hz)) (fun z hz => h' z (List.mem_cons_of_mem _ hz)) (by omega), show x = y by omega]
theorem zBE_r : ∀ l : List Nat, zBE l.reverse = zLE l
  | [] => rfl
  | c :: r => by
    have e : zBE (r.reverse ++ [c]) = 27 * zBE r.reverse + c := by
      unfold zBE
      rw [List.foldl_append]
      rfl
    rw [List.reverse_cons, e, zBE_r r]
    show 27 * zLE r + c = c + 27 * zLE r
    omega
theorem zNm_inj {x y x' y' : Nat} (h : zNm x y) (h' : zNm x' y') : x = x' ↔ y = y' := by
  obtain ⟨l, -, -, hc, rfl, rfl⟩ := h
  obtain ⟨l', -, -, hc', rfl, rfl⟩ := h'
  constructor
  · intro e
    rw [zLE_inj l l' hc hc' e]
  · intro e
    have e1 := zBE_r l.reverse
    have e2 := zBE_r l'.reverse
    rw [List.reverse_reverse] at e1 e2
    rw [e1, e2] at e
    have := zLE_inj l.reverse l'.reverse (fun x hx => hc x (List.mem_reverse.mp hx)) (fun x hx => hc' x (List.mem_reverse.mp hx)) e
    rw [List.reverse_inj.mp this]
theorem zNm_lt {x y : Nat} (h : zNm x y) : x < 2147483648 ∧ y < 2147483648 := by
  have hu := zNm_u h
  obtain ⟨len, -, l6, ly, -⟩ := hu
  have h6 : 27 ^ len ≤ 27 ^ 6 := Nat.pow_le_pow_right (by decide) l6
  have h7 : 27 ^ 6 < 2147483648 := by decide
  obtain ⟨l, h1, h2, hc, rfl, rfl⟩ := h
  have key : ∀ l : List Nat, (∀ c, c ∈ l → 1 ≤ c ∧ c ≤ 26) → zLE l < 27 ^ l.length := by
    intro l
    induction l with
    | nil => intro _; exact Nat.one_pos
    | cons c r ih =>
      intro hc
      have h1 := ih (fun z hz => hc z (List.mem_cons_of_mem _ hz))
      have h2 := hc c (List.mem_cons_self ..)
      show c + 27 * zLE r < 27 ^ (r.length + 1)
      rw [Nat.pow_succ]
      omega
  have k1 := key l hc
  have k2 : 27 ^ l.length ≤ 27 ^ 6 := Nat.pow_le_pow_right (by decide) h2
  omega
theorem zfi_c {nm ny : Nat → Nat} {x y : Nat} : ∀ k i, (∀ j, i ≤ j → j < i + k → (nm j = x ↔ ny j = y)) → zfi nm x k i = zfi ny y k i := by
  intro k
  induction k with
  | zero => intro i _; rfl
  | succ k ih =>
    intro i h
    rw [zfi, zfi, ih (i + 1) (fun j h1 h2 => h j (by omega) (by omega))]
    have h0 := h i (Nat.le_refl _) (by omega)
    by_cases c : nm i = x
    · rw [if_pos c, if_pos (h0.mp c)]
    · rw [if_neg c, if_neg (fun e => c (h0.mpr e))]
set_option maxHeartbeats 4000000 in
set_option maxRecDepth 100000 in
theorem sp_mnameOf {d t kd n y : Nat} {M : zMI} {L : zML} {ny : Nat → Nat} (hk : kd < 2) (hn : M 204 kd = nI n) (hn8 : n ≤ 8) (hm : ∀ i, i < n → L 205 (8 * kd + i) = lN (ny i) ∧ ny i < 2147483648) (hy : y < 2147483648) : Sx yX12_nameOf YX12_nameOf (d) [.ref 177, .int (nI kd), .long (lN y)] M L (zRf t) (some (.int (zwd (zfi ny y n 0)))) M L (zRf t) := by
  refine Sp.of (by decide +kernel) rfl (fun h => by first | exact h | cases h) (Nat.le_of_ble_eq_true rfl) ?_
  intro w G
  have loop : ∀ q i, i + q = n → zfi ny y q i = zfi ny y n 0 → WP w YX12_nameOf (d, SS, 0, 0) G (some (zX (some (.int (zwd (zfi ny y n 0)))) M L (zRf t))) 3 [(4, .int (nI i)), (0, .ref 177), (1, .int (nI kd)), (2, .long (lN y))] [] SS M L (zRf t) := by
    intro q
    induction q with
    | zero =>
      intro i hi hz
      refine wp_iload (q := 5) dX12_nameOf_3 0 rfl rfl ?_
      refine wp_aload_n (q := 6) dX12_nameOf_5 1 rfl rfl ?_
      refine wp_getR (q := 9) dX12_nameOf_6 zf_RX12_93 rfl zsh_177 (zr_177_35 _) rfl ?_
      refine wp_iload_n (q := 10) dX12_nameOf_9 2 rfl rfl ?_
      refine wp_iald (q := 11) _ dX12_nameOf_10 zsh_204 rfl (by omega) (by decide) rfl ?_
      rw [hn]
      refine wp_icmp_geN (tgt := 40) (q := 14) dX12_nameOf_11 (by decide) rfl (by omega) (by omega) (fun _ => ?_) (fun hn => absurd hn (by first | omega | exact fun h => h | exact fun h => h trivial))
      rw [← hz]
      refine wp_iconst (q := 41) dX12_nameOf_40 zq_iconst_m1 rfl ?_
      exact wp_ireturn dX12_nameOf_41 rfl ⟨rfl, rfl, rfl, rfl, rfl⟩ rfl rfl
    | succ q ih =>
      intro i hi hz
      obtain ⟨m1, m2⟩ := hm i (by omega)
      rw [zfi] at hz
      refine wp_iload (q := 5) dX12_nameOf_3 0 rfl rfl ?_
      refine wp_aload_n (q := 6) dX12_nameOf_5 1 rfl rfl ?_
      refine wp_getR (q := 9) dX12_nameOf_6 zf_RX12_93 rfl zsh_177 (zr_177_35 _) rfl ?_
      refine wp_iload_n (q := 10) dX12_nameOf_9 2 rfl rfl ?_
      refine wp_iald (q := 11) _ dX12_nameOf_10 zsh_204 rfl (by omega) (by decide) rfl ?_
      rw [hn]
      refine wp_icmp_geN (tgt := 40) (q := 14) dX12_nameOf_11 (by decide) rfl (by omega) (by omega) (fun hn => absurd hn (by first | omega | exact fun h => h | exact fun h => h trivial)) (fun _ => ?_)
      refine wp_aload_n (q := 15) dX12_nameOf_14 1 rfl rfl ?_
      refine wp_getR (q := 18) dX12_nameOf_15 zf_RX12_96 rfl zsh_177 (zr_177_36 _) rfl ?_
      refine wp_bipush (q := 20) dX12_nameOf_18 zq_bipush_8 rfl ?_
      refine wp_iload_n (q := 21) dX12_nameOf_20 2 rfl rfl ?_
      refine wp_imulN (q := 22) dX12_nameOf_21 rfl ?_
      refine wp_iload (q := 24) dX12_nameOf_22 0 rfl rfl ?_
      refine wp_iaddN (q := 25) dX12_nameOf_24 rfl ?_
      refine wp_lald (q := 26) _ dX12_nameOf_25 zsh_205 rfl (by omega) (by decide) rfl ?_
      rw [m1]
      refine wp_lload_n (q := 27) dX12_nameOf_26 3 rfl rfl ?_
      refine wp_lcmp_neN (tgt := 34) (q := 31) dX12_nameOf_27 rfl dX12_nameOf_28 (by decide) rfl (by omega) (by omega) (fun hne => ?_) (fun hne => ?_)
      · skip
        rw [if_neg hne] at hz
        refine wp_iincN (q := 37) (loc' := [(4, _), (0, _), (1, _), (2, _)]) (n := 1) dX12_nameOf_34 rfl 0 rfl (by decide) rfl rfl ?_
        refine wp_goto (tgt := 3) dX12_nameOf_37 (by decide) ?_
        refine WP.sub (loc' := [(4, _), (0, _), (1, _), (2, _)]) [0, 1, 2, 3] rfl ?_
        exact ih (i + 1) (by omega) hz
      · skip
        rw [if_pos hne] at hz
        rw [← hz, show zwd i = nI i from if_pos (by omega)]
        refine wp_iload (q := 33) dX12_nameOf_31 0 rfl rfl ?_
        exact wp_ireturn dX12_nameOf_33 rfl ⟨rfl, rfl, rfl, rfl, rfl⟩ rfl rfl
  refine wp_iconst (q := 1) dX12_nameOf_0 zq_iconst_0 rfl ?_
  refine wp_istore (q := 3) (loc' := [(4, _), (0, _), (1, _), (2, _)]) dX12_nameOf_1 (by decide) rfl rfl ?_
  refine WP.sub (loc' := [(4, _), (0, _), (1, _), (2, _)]) [0, 1, 2, 3] rfl ?_
  exact loop n 0 (Nat.zero_add _) rfl

