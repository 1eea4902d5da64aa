theorem zch_app {n : Nat} {l2 : List (List Nat)} {e : Option (List Nat)} {h : List Nat} (h2 : l2.head? = some h) (hc2 : zch n l2 e = true) : ∀ l1, zch n l1 (some h) = true → zch n (l1 ++ l2) e = true := by
  intro l1
  induction l1 with
  | nil => intro _; exact hc2
  | cons q r ih =>
    intro h1
    cases r with
    | nil =>
      have h1' : (zgq n q && decide (znx n q = some h) && true) = true := h1
      cases l2 with
      | nil => exact absurd h2 (by intro h; cases h)
      | cons q' r' =>
        have e2 : some q' = some h := h2
        obtain rfl := Option.some.inj e2
        show (zgq n q && decide (znx n q = some q') && zch n (q' :: r') e) = true
        rw [hc2]
        exact h1'
    | cons q' r' =>
      have h1' : (zgq n q && decide (znx n q = some q') && zch n (q' :: r') (some h)) = true := h1
      rw [Bool.and_eq_true] at h1'
      show (zgq n q && decide (znx n q = some q') && zch n ((q' :: r') ++ l2) e) = true
      rw [Bool.and_eq_true]
      exact ⟨h1'.1, ih h1'.2⟩
theorem zchB_e {x : Nat} {h : List Nat} {e : Option (List Nat)} (hb : zchB x h e = true) : zch 8 (zxt 8 6 ([0] ++ [x])) e = true ∧ (zxt 8 6 ([0] ++ [x])).head? = some h := by
  unfold zchB at hb
  rw [Bool.and_eq_true, decide_eq_true_eq] at hb
  exact hb
theorem zhd_app {l1 l2 : List (List Nat)} {h : List Nat} (e : l1.head? = some h) : (l1 ++ l2).head? = some h := by
  cases l1 with
  | nil => exact absurd e (by intro h; cases h)
  | cons a b => exact e
theorem zxt_8 : zxt 8 7 [0] = zxt 8 6 ([0] ++ [1]) ++ (zxt 8 6 ([0] ++ [2]) ++ (zxt 8 6 ([0] ++ [3]) ++ (zxt 8 6 ([0] ++ [4]) ++ (zxt 8 6 ([0] ++ [5]) ++ (zxt 8 6 ([0] ++ [6]) ++ zxt 8 6 ([0] ++ [7])))))) := by
  have key : ∀ (f : Nat → List (List Nat)), (List.range' 1 (8 - 1)).flatMap f = f 1 ++ (f 2 ++ (f 3 ++ (f 4 ++ (f 5 ++ (f 6 ++ (f 7 ++ [])))))) := fun f => rfl
  have hi : ∀ x (l : List (List Nat)), ([0] : List Nat).contains x = false → (if ([0] : List Nat).contains x then [] else l) = l := fun x l e => by rw [e]; rfl
  rw [zxt, key, hi 1 _ (by decide), hi 2 _ (by decide), hi 3 _ (by decide), hi 4 _ (by decide), hi 5 _ (by decide), hi 6 _ (by decide), hi 7 _ (by decide), List.append_nil]
theorem zchA_8 : zch 8 (zxt 8 7 [0]) none = true ∧ (zxt 8 7 [0]).head? = some (List.range 8) := by
  obtain ⟨a1, b1⟩ := zchB_e zchB_1
  obtain ⟨a2, b2⟩ := zchB_e zchB_2
  obtain ⟨a3, b3⟩ := zchB_e zchB_3
  obtain ⟨a4, b4⟩ := zchB_e zchB_4
  obtain ⟨a5, b5⟩ := zchB_e zchB_5
  obtain ⟨a6, b6⟩ := zchB_e zchB_6
  obtain ⟨a7, b7⟩ := zchB_e zchB_7
  rw [zxt_8]
  have c6 := zch_app b7 a7 _ a6
  have c5 := zch_app (zhd_app b6) c6 _ a5
  have c4 := zch_app (zhd_app b5) c5 _ a4
  have c3 := zch_app (zhd_app b4) c4 _ a3
  have c2 := zch_app (zhd_app b3) c3 _ a2
  have c1 := zch_app (zhd_app b2) c2 _ a1
  exact ⟨c1, zhd_app b1⟩
theorem zchA_n {n : Nat} (h2 : 2 ≤ n) (h8 : n ≤ 8) : zch n (zxt n (n - 1) [0]) none = true ∧ (zxt n (n - 1) [0]).head? = some (List.range n) := by
  have key : ∀ n, zchA n = true → zch n (zxt n (n - 1) [0]) none = true ∧ (zxt n (n - 1) [0]).head? = some (List.range n) := by
    intro n h
    unfold zchA at h
    rw [Bool.and_eq_true, decide_eq_true_eq] at h
    exact h
  have hc : n = 2 ∨ n = 3 ∨ n = 4 ∨ n = 5 ∨ n = 6 ∨ n = 7 ∨ n = 8 := by omega
  rcases hc with rfl | rfl | rfl | rfl | rfl | rfl | rfl
  · exact key 2 zchA_2
  · exact key 3 zchA_3
  · exact key 4 zchA_4
  · exact key 5 zchA_5
  · exact key 6 zchA_6
  · exact key 7 zchA_7
  · exact zchA_8
theorem zgq_e {n : Nat} {q : List Nat} (h : zgq n q = true) : q.length = n ∧ ∀ k, k < n → q.getD k 0 < n ∧ q.getD k 0 ≠ q.getD ((k + 1) % n) 0 := by
  unfold zgq at h
  rw [Bool.and_eq_true, decide_eq_true_eq, List.all_eq_true] at h
  refine ⟨h.1, fun k hk => ?_⟩
  have := h.2 k (List.mem_range.mpr hk)
  rw [Bool.and_eq_true, decide_eq_true_eq, decide_eq_true_eq] at this
  exact this
theorem zslq_g {q : List Nat} {i j k : Nat} (hi : i < q.length) (hj : j < q.length) : (zslq q i j).length = q.length ∧ (zslq q i j).getD k 0 = if k = j then q.getD i 0 else if k = i then q.getD j 0 else q.getD k 0 := by
  refine ⟨by unfold zslq; rw [List.length_set, List.length_set], ?_⟩
  unfold zslq
  rw [List.getD_eq_getElem?_getD, List.getElem?_set, List.length_set, List.getElem?_set]
  by_cases c : k = j
  · rw [if_pos c.symm, if_pos c, if_pos hj]
    rfl
  · rw [if_neg (fun e => c e.symm), if_neg c]
    by_cases c2 : k = i
    · rw [if_pos c2.symm, if_pos c2, if_pos hi]
      rfl
    · rw [if_neg (fun e => c2 e.symm), if_neg c2, ← List.getD_eq_getElem?_getD]
def zRw (M : zMI) (n : Nat) (q : List Nat) : Prop := q.length = n ∧ ∀ i, i < n → M 221 i = nI (q.getD i 0)
theorem zRw_s {M : zMI} {n i j : Nat} {q : List Nat} (h : zRw M n q) (hi : i < n) (hj : j < n) : zRw (zu (zu M 221 i (M 221 j)) 221 j (M 221 i)) n (zslq q i j) := by
  obtain ⟨h1, h2⟩ := h
  obtain ⟨g1, -⟩ := zslq_g (q := q) (i := i) (j := j) (k := 0) (by omega) (by omega)
  refine ⟨by rw [g1, h1], fun k hk => ?_⟩
  rw [(zslq_g (q := q) (i := i) (j := j) (k := k) (by omega) (by omega)).2]
  by_cases c : k = j
  · rw [if_pos c, c, zu_s]
    exact h2 i hi
  · rw [if_neg c, zu_k c]
    by_cases c2 : k = i
    · rw [if_pos c2, c2, zu_s]
      exact h2 j hj
    · rw [if_neg c2, zu_k c2]
      exact h2 k hk
set_option maxHeartbeats 4000000 in
set_option maxRecDepth 100000 in
theorem sp_mchanges {d t i j : Nat} {M : zMI} {L : zML} (hi : i < 8) (hj : j < 8) : Sx yX12_changes YX12_changes (d) [.ref 177, .int (nI i), .int (nI j)] M L (zRf t) (none) (zu (zu M 221 i (M 221 j)) 221 j (M 221 i)) L (zRf t) := by
  refine Sp.of (by decide +kernel) rfl (fun h => by first | exact h | cases h) (Nat.le_of_ble_eq_true rfl) ?_
  intro w G
  refine wp_aload_n (q := 1) dX12_changes_0 0 rfl rfl ?_
  refine wp_getR (q := 4) dX12_changes_1 zf_RX12_145 rfl zsh_177 (zr_177_58 _) rfl ?_
  refine wp_iload_n (q := 5) dX12_changes_4 1 rfl rfl ?_
  refine wp_iald (q := 6) _ dX12_changes_5 zsh_221 rfl (by omega) (by decide) rfl ?_
  refine wp_istore_n (q := 7) (loc' := [(3, _), (0, _), (1, _), (2, _)]) dX12_changes_6 rfl (by decide) rfl rfl ?_
  refine wp_aload_n (q := 8) dX12_changes_7 1 rfl rfl ?_
  refine wp_getR (q := 11) dX12_changes_8 zf_RX12_145 rfl zsh_177 (zr_177_58 _) rfl ?_
  refine wp_iload_n (q := 12) dX12_changes_11 2 rfl rfl ?_
  refine wp_aload_n (q := 13) dX12_changes_12 1 rfl rfl ?_
  refine wp_getR (q := 16) dX12_changes_13 zf_RX12_145 rfl zsh_177 (zr_177_58 _) rfl ?_
  refine wp_iload_n (q := 17) dX12_changes_16 3 rfl rfl ?_
  refine wp_iald (q := 18) _ dX12_changes_17 zsh_221 rfl (by omega) (by decide) rfl ?_
  refine wp_iast (q := 19) _ dX12_changes_18 zsh_221 rfl (by omega) (by decide) rfl ?_
  refine wp_aload_n (q := 20) dX12_changes_19 1 rfl rfl ?_
  refine wp_getR (q := 23) dX12_changes_20 zf_RX12_145 rfl zsh_177 (zr_177_58 _) rfl ?_
  refine wp_iload_n (q := 24) dX12_changes_23 3 rfl rfl ?_
  refine wp_iload_n (q := 25) dX12_changes_24 0 rfl rfl ?_
  refine wp_iast (q := 26) _ dX12_changes_25 zsh_221 rfl (by omega) (by decide) rfl ?_
  exact wp_return dX12_changes_26 rfl ⟨rfl, rfl, rfl, rfl, rfl⟩ rfl rfl
theorem zni_le (q : List Nat) : ∀ i, zni q i ≤ i := by
  intro i
  induction i with
  | zero => exact Nat.le_refl _
  | succ i ih =>
    rw [zni]
    split <;> omega
set_option maxHeartbeats 4000000 in
set_option maxRecDepth 100000 in
theorem sp_mnextRow {d t n : Nat} {M : zMI} {L : zML} {q : List Nat} (h2 : 2 ≤ n) (h8 : n ≤ 8) (hq : zRw M n q) (hb : ∀ k, k < n → q.getD k 0 < n) {o : Bool} (ho : (znx n q).isSome = o) : Sy yX12_nextRow YX12_nextRow (d + 1) [.ref 177, .int (nI n)] M L (zRf t) (fun v0 M' L' R' => v0 = some (.int (nI (zb01 o))) ∧ L = L' ∧ R' = zRf t ∧ (∀ x, x ≠ 221 → M' x = M x) ∧ ∀ q', znx n q = some q' → zRw M' n q') := by
  refine Sp.of (by decide +kernel) rfl (fun h => by first | exact h | cases h) (Nat.le_of_ble_eq_true rfl) ?_
  intro w G
  obtain ⟨i0, hi0⟩ : ∃ i0, zni q (n - 2) = i0 := ⟨_, rfl⟩
  have hile : i0 ≤ n - 2 := by rw [← hi0]; exact zni_le q _
  have rev : ∀ k a b p (M2 : zMI), b ≤ a + 2 * k → a < n → b < n → zRw M2 n p → (∀ x, x ≠ 221 → M2 x = M x) → znx n q = some (zrv k p a b) → WP w YX12_nextRow (d + 1, SS, 0, 0) G (some (zXp (fun v0 M' L' R' => v0 = some (.int (nI (zb01 o))) ∧ L = L' ∧ R' = zRf t ∧ (∀ x, x ≠ 221 → M' x = M x) ∧ ∀ q', znx n q = some q' → zRw M' n q'))) 78 [(4, .int (nI a)), (5, .int (nI b)), (0, .ref 177)] [] SS M2 L (zRf t) := by
    intro k
    induction k with
    | zero =>
      intro a b p M2 hk ha hb2 h1 h2 h3
      refine wp_iload (q := 80) dX12_nextRow_78 0 rfl rfl ?_
      refine wp_iload (q := 82) dX12_nextRow_80 1 rfl rfl ?_
      refine wp_icmp_geN (tgt := 102) (q := 85) dX12_nextRow_82 (by decide) rfl (by omega) (by omega) (fun _ => ?_) (fun hn => absurd hn (by first | omega | exact fun h => h | exact fun h => h trivial))
      refine wp_iconst (q := 103) dX12_nextRow_102 zq_iconst_1 rfl ?_
      exact wp_zreturn dX12_nextRow_103 rfl (by first | with_reducible exact znar_0 | with_reducible exact znar_1 | assumption) ⟨rfl, ⟨by rw [← ho, h3]; rfl, rfl, rfl, h2, fun q' e => by rw [h3] at e; rw [← Option.some.inj e]; exact h1⟩⟩ rfl rfl
    | succ k ih =>
      intro a b p M2 hk ha hb2 h1 h2 h3
      rw [zrv] at h3
      refine wp_iload (q := 80) dX12_nextRow_78 0 rfl rfl ?_
      refine wp_iload (q := 82) dX12_nextRow_80 1 rfl rfl ?_
      refine wp_icmp_geN (tgt := 102) (q := 85) dX12_nextRow_82 (by decide) rfl (by omega) (by omega) (fun c => ?_) (fun c => ?_)
      · skip
        rw [if_neg (by omega)] at h3
        refine wp_iconst (q := 103) dX12_nextRow_102 zq_iconst_1 rfl ?_
        exact wp_zreturn dX12_nextRow_103 rfl (by first | with_reducible exact znar_0 | with_reducible exact znar_1 | assumption) ⟨rfl, ⟨by rw [← ho, h3]; rfl, rfl, rfl, h2, fun q' e => by rw [h3] at e; rw [← Option.some.inj e]; exact h1⟩⟩ rfl rfl
      · skip
        rw [if_pos c] at h3
        obtain ⟨b', hb'⟩ : ∃ b', b = b' + 1 := ⟨b - 1, by omega⟩
        subst hb'
        refine wp_aload_n (q := 86) dX12_nextRow_85 2 rfl rfl ?_
        refine wp_iload (q := 88) dX12_nextRow_86 0 rfl rfl ?_
        refine wp_iload (q := 90) dX12_nextRow_88 1 rfl rfl ?_
        refine wp_cvx (q := 93) (sp_mchanges (d := 0) (by omega) (by omega)) zm_X12_changes zl_RX12_496 dX12_nextRow_90 rfl (by omega) (Nat.le_of_ble_eq_true rfl) zsh_177 rfl rfl ?_
        refine wp_iincN (q := 96) (loc' := [(4, _), (5, _), (0, _)]) (n := 1) dX12_nextRow_93 rfl 0 rfl (by decide) rfl rfl ?_
        refine wp_iincM (q := 99) (loc' := [(5, _), (4, _), (0, _)]) dX12_nextRow_96 1 rfl (by decide) rfl rfl ?_
        refine wp_goto (tgt := 78) dX12_nextRow_99 (by decide) ?_
        refine WP.sub (loc' := [(4, _), (5, _), (0, _)]) [1, 0, 2] rfl ?_
        refine ih (a + 1) b' _ _ (by omega) (by omega) (by omega) (zRw_s h1 (by omega) (by omega)) (fun x hx => by rw [zu_ne hx, zu_ne hx]; exact h2 x hx) ?_
        rw [Nat.add_sub_cancel] at h3
        exact h3
  have look2 : i0 ≠ 0 → ∀ j, i0 ≤ j → j < n → znj q i0 j = znj q i0 (n - 1) → WP w YX12_nextRow (d + 1, SS, 0, 0) G (some (zXp (fun v0 M' L' R' => v0 = some (.int (nI (zb01 o))) ∧ L = L' ∧ R' = zRf t ∧ (∀ x, x ≠ 221 → M' x = M x) ∧ ∀ q', znx n q = some q' → zRw M' n q'))) 41 [(3, .int (nI j)), (2, .int (nI i0)), (0, .ref 177), (1, .int (nI n))] [] SS M L (zRf t) := by
    intro hne j
    induction j with
    | zero => intro h1; omega
    | succ j ih =>
      intro h1 h3 h4
      have b1 := hb (j + 1) h3
      have b2 := hb i0 (by omega)
      rw [znj] at h4
      refine wp_aload_n (q := 42) dX12_nextRow_41 2 rfl rfl ?_
      refine wp_getR (q := 45) dX12_nextRow_42 zf_RX12_145 rfl zsh_177 (zr_177_58 _) rfl ?_
      refine wp_iload_n (q := 46) dX12_nextRow_45 0 rfl rfl ?_
      refine wp_iald (q := 47) _ dX12_nextRow_46 zsh_221 rfl (by omega) (by decide) rfl ?_
      rw [hq.2 _ h3]
      refine wp_aload_n (q := 48) dX12_nextRow_47 2 rfl rfl ?_
      refine wp_getR (q := 51) dX12_nextRow_48 zf_RX12_145 rfl zsh_177 (zr_177_58 _) rfl ?_
      refine wp_iload_n (q := 52) dX12_nextRow_51 1 rfl rfl ?_
      refine wp_iald (q := 53) _ dX12_nextRow_52 zsh_221 rfl (by omega) (by decide) rfl ?_
      rw [hq.2 i0 (by omega)]
      refine wp_icmp_geN (tgt := 62) (q := 56) dX12_nextRow_53 (by decide) rfl (by omega) (by omega) (fun c => ?_) (fun c => ?_)
      · skip
        rw [if_neg (by omega)] at h4
        refine wp_aload_n (q := 63) dX12_nextRow_62 2 rfl rfl ?_
        refine wp_iload_n (q := 64) dX12_nextRow_63 1 rfl rfl ?_
        refine wp_iload_n (q := 65) dX12_nextRow_64 0 rfl rfl ?_
        refine wp_cvx (q := 68) (sp_mchanges (d := 0) (by omega) (by omega)) zm_X12_changes zl_RX12_496 dX12_nextRow_65 rfl (by omega) (Nat.le_of_ble_eq_true rfl) zsh_177 rfl rfl ?_
        refine wp_iload_n (q := 69) dX12_nextRow_68 1 rfl rfl ?_
        refine wp_iconst (q := 70) dX12_nextRow_69 zq_iconst_1 rfl ?_
        refine wp_iaddN (q := 71) dX12_nextRow_70 rfl ?_
        refine wp_istore (q := 73) (loc' := [(4, _), (3, _), (2, _), (0, _), (1, _)]) dX12_nextRow_71 (by decide) rfl rfl ?_
        refine wp_iload_n (q := 74) dX12_nextRow_73 4 rfl rfl ?_
        refine wp_iconst (q := 75) dX12_nextRow_74 zq_iconst_1 rfl ?_
        refine wp_isubN (q := 76) dX12_nextRow_75 (by omega) rfl ?_
        refine wp_istore (q := 78) (loc' := [(5, _), (4, _), (3, _), (2, _), (0, _), (1, _)]) dX12_nextRow_76 (by decide) rfl rfl ?_
        refine WP.sub (loc' := [(4, _), (5, _), (0, _)]) [1, 0, 4] rfl ?_
        refine rev 4 (i0 + 1) (n - 1) _ _ (by omega) (by omega) (by omega) (zRw_s hq (by omega) h3) (fun x hx => by rw [zu_ne hx, zu_ne hx]) ?_
        unfold znx
        rw [hi0, if_neg hne, ← h4]
      · skip
        rw [if_pos (by omega)] at h4
        have hj : i0 ≤ j := by
          refine Classical.byContradiction fun e => ?_
          rw [show i0 = j + 1 by omega] at c
          omega
        refine wp_iincM (q := 59) (loc' := [(3, _), (2, _), (0, _), (1, _)]) dX12_nextRow_56 0 rfl (by decide) rfl rfl ?_
        refine wp_goto (tgt := 41) dX12_nextRow_59 (by decide) ?_
        refine WP.sub (loc' := [(3, _), (2, _), (0, _), (1, _)]) [0, 1, 2, 3] rfl ?_
        exact ih hj (by omega) h4
  have at31 : WP w YX12_nextRow (d + 1, SS, 0, 0) G (some (zXp (fun v0 M' L' R' => v0 = some (.int (nI (zb01 o))) ∧ L = L' ∧ R' = zRf t ∧ (∀ x, x ≠ 221 → M' x = M x) ∧ ∀ q', znx n q = some q' → zRw M' n q'))) 31 [(2, .int (nI i0)), (0, .ref 177), (1, .int (nI n))] [] SS M L (zRf t) := by
    refine wp_iload_n (q := 32) dX12_nextRow_31 0 rfl rfl ?_
    refine wp_if_gtN (tgt := 37) (q := 35) dX12_nextRow_32 (by decide) rfl (by omega) (fun c => ?_) (fun c => ?_)
    · skip
      refine wp_iload_n (q := 38) dX12_nextRow_37 2 rfl rfl ?_
      refine wp_iconst (q := 39) dX12_nextRow_38 zq_iconst_1 rfl ?_
      refine wp_isubN (q := 40) dX12_nextRow_39 (by omega) rfl ?_
      refine wp_istore_n (q := 41) (loc' := [(3, _), (2, _), (0, _), (1, _)]) dX12_nextRow_40 rfl (by decide) rfl rfl ?_
      refine WP.sub (loc' := [(3, _), (2, _), (0, _), (1, _)]) [0, 1, 2, 3] rfl ?_
      exact look2 (by omega) (n - 1) (by omega) (by omega) rfl
    · skip
      refine wp_iconst (q := 36) dX12_nextRow_35 zq_iconst_0 rfl ?_
      have hz : znx n q = none := by
        unfold znx
        rw [hi0, if_pos (by omega)]
      exact wp_zreturn dX12_nextRow_36 rfl (by first | with_reducible exact znar_0 | with_reducible exact znar_1 | assumption) ⟨rfl, ⟨by rw [← ho, hz]; rfl, rfl, rfl, fun x _ => rfl, fun q' e => by rw [hz] at e; cases e⟩⟩ rfl rfl
  have look1 : ∀ i, i ≤ n - 2 → zni q i = i0 → WP w YX12_nextRow (d + 1, SS, 0, 0) G (some (zXp (fun v0 M' L' R' => v0 = some (.int (nI (zb01 o))) ∧ L = L' ∧ R' = zRf t ∧ (∀ x, x ≠ 221 → M' x = M x) ∧ ∀ q', znx n q = some q' → zRw M' n q'))) 4 [(2, .int (nI i)), (0, .ref 177), (1, .int (nI n))] [] SS M L (zRf t) := by
    intro i
    induction i with
    | zero =>
      intro h1 h3
      have h3' : 0 = i0 := h3
      rw [h3']
      rw [← h3']
      refine wp_iload_n (q := 5) dX12_nextRow_4 0 rfl rfl ?_
      refine wp_if_leN (tgt := 31) (q := 8) dX12_nextRow_5 (by decide) rfl (by omega) (fun _ => ?_) (fun hn => absurd hn (by first | omega | exact fun h => h | exact fun h => h trivial))
      have := at31
      rw [← h3'] at this
      refine WP.sub (loc' := [(2, _), (0, _), (1, _)]) [0, 1, 2] rfl ?_
      exact this
    | succ i ih =>
      intro h1 h3
      have b1 := hb (i + 1) (by omega)
      have b2 := hb (i + 2) (by omega)
      rw [zni] at h3
      refine wp_iload_n (q := 5) dX12_nextRow_4 0 rfl rfl ?_
      refine wp_if_leN (tgt := 31) (q := 8) dX12_nextRow_5 (by decide) rfl (by omega) (fun hn => absurd hn (by first | omega | exact fun h => h | exact fun h => h trivial)) (fun _ => ?_)
      refine wp_aload_n (q := 9) dX12_nextRow_8 1 rfl rfl ?_
      refine wp_getR (q := 12) dX12_nextRow_9 zf_RX12_145 rfl zsh_177 (zr_177_58 _) rfl ?_
      refine wp_iload_n (q := 13) dX12_nextRow_12 0 rfl rfl ?_
      refine wp_iald (q := 14) _ dX12_nextRow_13 zsh_221 rfl (by omega) (by decide) rfl ?_
      rw [hq.2 (i + 1) (by omega)]
      refine wp_aload_n (q := 15) dX12_nextRow_14 1 rfl rfl ?_
      refine wp_getR (q := 18) dX12_nextRow_15 zf_RX12_145 rfl zsh_177 (zr_177_58 _) rfl ?_
      refine wp_iload_n (q := 19) dX12_nextRow_18 0 rfl rfl ?_
      refine wp_iconst (q := 20) dX12_nextRow_19 zq_iconst_1 rfl ?_
      refine wp_iaddN (q := 21) dX12_nextRow_20 rfl ?_
      refine wp_iald (q := 22) _ dX12_nextRow_21 zsh_221 rfl (by omega) (by decide) rfl ?_
      rw [show i + 1 + 1 = i + 2 from rfl, hq.2 (i + 2) (by omega)]
      refine wp_icmp_leN (tgt := 31) (q := 25) dX12_nextRow_22 (by decide) rfl (by omega) (by omega) (fun c => ?_) (fun c => ?_)
      · skip
        rw [if_neg (by omega)] at h3
        have := at31
        rw [← h3] at this
        refine WP.sub (loc' := [(2, _), (0, _), (1, _)]) [0, 1, 2] rfl ?_
        exact this
      · skip
        rw [if_pos (by omega)] at h3
        refine wp_iincM (q := 28) (loc' := [(2, _), (0, _), (1, _)]) dX12_nextRow_25 0 rfl (by decide) rfl rfl ?_
        refine wp_goto (tgt := 4) dX12_nextRow_28 (by decide) ?_
        refine WP.sub (loc' := [(2, _), (0, _), (1, _)]) [0, 1, 2] rfl ?_
        exact ih (by omega) h3
  refine wp_iload_n (q := 1) dX12_nextRow_0 1 rfl rfl ?_
  refine wp_iconst (q := 2) dX12_nextRow_1 zq_iconst_2 rfl ?_
  refine wp_isubN (q := 3) dX12_nextRow_2 (by omega) rfl ?_
  refine wp_istore_n (q := 4) (loc' := [(2, _), (0, _), (1, _)]) dX12_nextRow_3 rfl (by decide) rfl rfl ?_
  refine WP.sub (loc' := [(2, _), (0, _), (1, _)]) [0, 1, 2] rfl ?_
  exact look1 (n - 2) (Nat.le_refl _) hi0
theorem zco_S {W : Nat → Nat → Nat → Nat} {n : Nat} {q : List Nat} (h2 : 2 ≤ n) : nS (fun k => W (q.getD ((k + n - 1) % n) 0) (q.getD k 0) (q.getD ((k + 1) % n) 0)) n = zco W n q := by
  obtain ⟨m, rfl⟩ : ∃ m, n = m + 2 := ⟨n - 2, by omega⟩
  have key : ∀ k, k ≤ m → nS (fun k => W (q.getD ((k + (m + 2) - 1) % (m + 2)) 0) (q.getD k 0) (q.getD ((k + 1) % (m + 2)) 0)) (k + 1) = W (q.getD (m + 1) 0) (q.getD 0 0) (q.getD 1 0) + zps W q (k + 2) := by
    intro k
    induction k with
    | zero =>
      intro _
      show 0 + W (q.getD ((0 + (m + 2) - 1) % (m + 2)) 0) (q.getD 0 0) (q.getD ((0 + 1) % (m + 2)) 0) = W (q.getD (m + 1) 0) (q.getD 0 0) (q.getD 1 0) + 0
      rw [show (0 + (m + 2) - 1) % (m + 2) = m + 1 from by rw [Nat.mod_eq_of_lt (by omega)]; omega, show (0 + 1) % (m + 2) = 1 from Nat.mod_eq_of_lt (by omega)]
      omega
    | succ k ih =>
      intro hk
      have hz : zps W q (k + 1 + 2) = zps W q (k + 2) + W (q.getD k 0) (q.getD (k + 1) 0) (q.getD (k + 2) 0) := by
        show zps W q (k + 2) + (if k + 2 < 2 then 0 else W (q.getD (k + 2 - 2) 0) (q.getD (k + 2 - 1) 0) (q.getD (k + 2) 0)) = _
        rw [if_neg (by omega), show k + 2 - 2 = k by omega, show k + 2 - 1 = k + 1 by omega]
      rw [nS, ih (by omega), hz]
      rw [show (k + 1 + (m + 2) - 1) % (m + 2) = k from by rw [show k + 1 + (m + 2) - 1 = k + (m + 2) by omega, Nat.add_mod_right, Nat.mod_eq_of_lt (by omega)], show (k + 1 + 1) % (m + 2) = k + 2 from Nat.mod_eq_of_lt (by omega)]
      omega
  have e := key m (Nat.le_refl _)
  rw [nS, e]
  unfold zco
  show _ + W (q.getD ((m + 1 + (m + 2) - 1) % (m + 2)) 0) (q.getD (m + 1) 0) (q.getD ((m + 1 + 1) % (m + 2)) 0) = _
  rw [show (m + 1 + (m + 2) - 1) % (m + 2) = m from by rw [show m + 1 + (m + 2) - 1 = m + (m + 2) by omega, Nat.add_mod_right, Nat.mod_eq_of_lt (by omega)], show (m + 1 + 1) % (m + 2) = 0 from Nat.mod_self _, show m + 2 - 2 = m by omega, show m + 2 - 1 = m + 1 by omega]
  omega
set_option maxHeartbeats 4000000 in
set_option maxRecDepth 100000 in
theorem sp_mnoneOfRow {d t n : Nat} {M : zMI} {L : zML} {tb : zTb} {v : Nat → Nat} {q : List Nat} (h2 : 2 ≤ n) (h8 : n ≤ 8) (hq : zRw M n q) (hb : ∀ k, k < n → q.getD k 0 < n ∧ q.getD k 0 ≠ q.getD ((k + 1) % n) 0) (hT : ∀ a b, a < n → b < n → a ≠ b → M 219 (8 * a + b) = nI (zoR tb v a b) ∧ M 220 (8 * a + b) = nI (zoL tb v a b)) : Sx yX12_noneOfRow YX12_noneOfRow (d + 1) [.ref 177, .int (nI n)] M L (zRf t) (some (.long (lN (zco (zW tb v) n q)))) M L (zRf t) := by
  refine Sp.of (by decide +kernel) rfl (fun h => by first | exact h | cases h) (Nat.le_of_ble_eq_true rfl) ?_
  intro w G
  obtain ⟨f, hf⟩ : ∃ f : Nat → Nat, (fun k => zW tb v (q.getD ((k + n - 1) % n) 0) (q.getD k 0) (q.getD ((k + 1) % n) 0)) = f := ⟨_, rfl⟩
  have hfk : ∀ k, zW tb v (q.getD ((k + n - 1) % n) 0) (q.getD k 0) (q.getD ((k + 1) % n) 0) = f k := fun k => congrFun hf k
  have hres : zco (zW tb v) n q = nS f n := by rw [← zco_S h2, hf]
  have hf9 : ∀ k, f k ≤ 100000000 := fun k => by rw [← hfk]; exact zW_le _ _ _ _ _
  have hS : ∀ i, nS f i ≤ 100000000 * i := fun i => nS_le (fun j _ => hf9 j)
  have loop : ∀ r k, k + r = n → WP w YX12_noneOfRow (d + 1, SS, 0, 0) G (some (zX (some (.long (lN (zco (zW tb v) n q)))) M L (zRf t))) 5 [(4, .int (nI k)), (2, .long (lN (nS f k))), (0, .ref 177), (1, .int (nI n))] [] SS M L (zRf t) := by
    intro r
    induction r with
    | zero =>
      intro k hk
      rw [show k = n by omega, ← hres]
      refine wp_iload (q := 7) dX12_noneOfRow_5 0 rfl rfl ?_
      refine wp_iload_n (q := 8) dX12_noneOfRow_7 3 rfl rfl ?_
      refine wp_icmp_geN (tgt := 81) (q := 11) dX12_noneOfRow_8 (by decide) rfl (by omega) (by omega) (fun _ => ?_) (fun hn => absurd hn (by first | omega | exact fun h => h | exact fun h => h trivial))
      refine wp_lload_n (q := 82) dX12_noneOfRow_81 1 rfl rfl ?_
      exact wp_lreturn dX12_noneOfRow_82 rfl ⟨rfl, rfl, rfl, rfl, rfl⟩ rfl rfl
    | succ r ih =>
      intro k hk
      have hkn : k < n := by omega
      have ha : (k + 1) % n < n := Nat.mod_lt _ (by omega)
      have hp : (k + n - 1) % n < n := Nat.mod_lt _ (by omega)
      obtain ⟨s, hs⟩ : ∃ s, q.getD k 0 = s := ⟨_, rfl⟩
      obtain ⟨x, hx⟩ : ∃ x, q.getD ((k + 1) % n) 0 = x := ⟨_, rfl⟩
      obtain ⟨p, hpp⟩ : ∃ p, q.getD ((k + n - 1) % n) 0 = p := ⟨_, rfl⟩
      have s1 := hb k hkn
      have s2 := hb _ ha
      have s3 := hb _ hp
      rw [zmod2 hkn] at s3
      rw [hs, hx] at s1
      rw [hx] at s2
      rw [hs, hpp] at s3
      have e1 := hq.2 k hkn
      have e2 := hq.2 _ ha
      have e3 := hq.2 _ hp
      rw [hs] at e1
      rw [hx] at e2
      rw [hpp] at e3
      have t1 := (hT s x s1.1 s2.1 s1.2).1
      have t2 := (hT p s s3.1 s1.1 s3.2).2
      have hW := hfk k
      rw [hs, hx, hpp] at hW
      have hSk := hS k
      have hfk9 := hf9 k
      have b1 : zoR tb v s x ≤ 10000 := zof_le tb v s x 0
      have b2 : zoL tb v p s ≤ 10000 := zof_le tb v p s 1
      refine wp_iload (q := 7) dX12_noneOfRow_5 0 rfl rfl ?_
      refine wp_iload_n (q := 8) dX12_noneOfRow_7 3 rfl rfl ?_
      refine wp_icmp_geN (tgt := 81) (q := 11) dX12_noneOfRow_8 (by decide) rfl (by omega) (by omega) (fun hn => absurd hn (by first | omega | exact fun h => h | exact fun h => h trivial)) (fun _ => ?_)
      refine wp_aload_n (q := 12) dX12_noneOfRow_11 2 rfl rfl ?_
      refine wp_getR (q := 15) dX12_noneOfRow_12 zf_RX12_145 rfl zsh_177 (zr_177_58 _) rfl ?_
      refine wp_iload (q := 17) dX12_noneOfRow_15 0 rfl rfl ?_
      refine wp_iald (q := 18) _ dX12_noneOfRow_17 zsh_221 rfl (by omega) (by decide) rfl ?_
      rw [e1]
      refine wp_istore (q := 20) (loc' := [(5, _), (4, _), (2, _), (0, _), (1, _)]) dX12_noneOfRow_18 (by decide) rfl rfl ?_
      refine wp_lload_n (q := 21) dX12_noneOfRow_20 2 rfl rfl ?_
      refine wp_aload_n (q := 22) dX12_noneOfRow_21 3 rfl rfl ?_
      refine wp_getR (q := 25) dX12_noneOfRow_22 zf_RX12_139 rfl zsh_177 (zr_177_56 _) rfl ?_
      refine wp_bipush (q := 27) dX12_noneOfRow_25 zq_bipush_8 rfl ?_
      refine wp_iload (q := 29) dX12_noneOfRow_27 0 rfl rfl ?_
      refine wp_imulN (q := 30) dX12_noneOfRow_29 rfl ?_
      refine wp_aload_n (q := 31) dX12_noneOfRow_30 3 rfl rfl ?_
      refine wp_getR (q := 34) dX12_noneOfRow_31 zf_RX12_145 rfl zsh_177 (zr_177_58 _) rfl ?_
      refine wp_iload (q := 36) dX12_noneOfRow_34 1 rfl rfl ?_
      refine wp_iconst (q := 37) dX12_noneOfRow_36 zq_iconst_1 rfl ?_
      refine wp_iaddN (q := 38) dX12_noneOfRow_37 rfl ?_
      refine wp_iload_n (q := 39) dX12_noneOfRow_38 4 rfl rfl ?_
      refine wp_iremN (q := 40) dX12_noneOfRow_39 (by omega) (by omega) (by omega) rfl ?_
      refine wp_iald (q := 41) _ dX12_noneOfRow_40 zsh_221 rfl (by omega) (by decide) rfl ?_
      rw [e2]
      refine wp_iaddN (q := 42) dX12_noneOfRow_41 rfl ?_
      refine wp_iald (q := 43) _ dX12_noneOfRow_42 zsh_219 rfl (by omega) (by decide) rfl ?_
      rw [t1]
      refine wp_i2lN (q := 44) dX12_noneOfRow_43 (by omega) rfl ?_
      refine wp_aload_n (q := 45) dX12_noneOfRow_44 3 rfl rfl ?_
      refine wp_getR (q := 48) dX12_noneOfRow_45 zf_RX12_142 rfl zsh_177 (zr_177_57 _) rfl ?_
      refine wp_bipush (q := 50) dX12_noneOfRow_48 zq_bipush_8 rfl ?_
      refine wp_aload_n (q := 51) dX12_noneOfRow_50 3 rfl rfl ?_
      refine wp_getR (q := 54) dX12_noneOfRow_51 zf_RX12_145 rfl zsh_177 (zr_177_58 _) rfl ?_
      refine wp_iload (q := 56) dX12_noneOfRow_54 1 rfl rfl ?_
      refine wp_iload_n (q := 57) dX12_noneOfRow_56 4 rfl rfl ?_
      refine wp_iaddN (q := 58) dX12_noneOfRow_57 rfl ?_
      refine wp_iconst (q := 59) dX12_noneOfRow_58 zq_iconst_1 rfl ?_
      refine wp_isubN (q := 60) dX12_noneOfRow_59 (by omega) rfl ?_
      refine wp_iload_n (q := 61) dX12_noneOfRow_60 4 rfl rfl ?_
      refine wp_iremN (q := 62) dX12_noneOfRow_61 (by omega) (by omega) (by omega) rfl ?_
      refine wp_iald (q := 63) _ dX12_noneOfRow_62 zsh_221 rfl (by omega) (by decide) rfl ?_
      rw [e3]
      refine wp_imulN (q := 64) dX12_noneOfRow_63 rfl ?_
      refine wp_iload (q := 66) dX12_noneOfRow_64 0 rfl rfl ?_
      refine wp_iaddN (q := 67) dX12_noneOfRow_66 rfl ?_
      refine wp_iald (q := 68) _ dX12_noneOfRow_67 zsh_220 rfl (by omega) (by decide) rfl ?_
      rw [t2]
      refine wp_i2lN (q := 69) dX12_noneOfRow_68 (by omega) rfl ?_
      refine wp_iconst (q := 70) dX12_noneOfRow_69 zq_iconst_0 rfl ?_
      refine wp_csx (q := 73) (sp_mhatted (d := 0) (hh := 0) b1 b2 (by decide)) zm_X12_hatted zl_RX12_456 dX12_noneOfRow_70 rfl (by omega) (Nat.le_of_ble_eq_true rfl) rfl ?_
      rw [show zwy (zoR tb v s x) (zoL tb v p s) 0 = f k from by rw [← hW]; unfold zwy zW; rw [if_pos rfl]]
      refine wp_laddN (q := 74) dX12_noneOfRow_73 rfl ?_
      refine wp_lstore_n (q := 75) (loc' := [(2, _), (5, _), (4, _), (0, _), (1, _)]) dX12_noneOfRow_74 rfl (by decide) rfl rfl ?_
      refine wp_iincN (q := 78) (loc' := [(4, _), (2, _), (5, _), (0, _), (1, _)]) (n := 1) dX12_noneOfRow_75 rfl 2 rfl (by decide) rfl rfl ?_
      refine wp_goto (tgt := 5) dX12_noneOfRow_78 (by decide) ?_
      refine WP.sub (loc' := [(4, _), (2, _), (0, _), (1, _)]) [0, 1, 3, 4] rfl ?_
      exact ih (k + 1) (by omega)
  refine wp_lconst (q := 1) dX12_noneOfRow_0 zq_lconst_0 rfl ?_
  refine wp_lstore_n (q := 2) (loc' := [(2, _), (0, _), (1, _)]) dX12_noneOfRow_1 rfl (by decide) rfl rfl ?_
  refine wp_iconst (q := 3) dX12_noneOfRow_2 zq_iconst_0 rfl ?_
  refine wp_istore (q := 5) (loc' := [(4, _), (2, _), (0, _), (1, _)]) dX12_noneOfRow_3 (by decide) rfl rfl ?_
  refine WP.sub (loc' := [(4, _), (2, _), (0, _), (1, _)]) [0, 1, 2, 3] rfl ?_
  exact loop n 0 (Nat.zero_add _)

