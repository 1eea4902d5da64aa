theorem zlk_0 {W : List Nat} (h : W.length = 0) : zlk W = -1 := by
  cases W with
  | nil => rfl
  | cons x W => cases h
theorem zlk_s {W : List Nat} {n : Nat} (h : W.length = n + 1) : zlk W = nI n := by
  cases W with
  | nil => cases h
  | cons x W => rw [show n = W.length from (Nat.succ.inj h).symm]; rfl
set_option maxHeartbeats 4000000 in
set_option maxRecDepth 100000 in
theorem sp_mwaitsLast {d t : Nat} {M : zMI} {L : zML} {W1 W0 : List Nat} (h : M 177 46 = nI (W1 ++ W0).length) (hb : M 177 48 = nI W0.length) (hk : zStk M 212 (W1 ++ W0)) (hl : (W1 ++ W0).length ≤ 1600) : Sx yX12_waitsLast YX12_waitsLast (d + 1) [.ref 177] M L (zRf t) (some (.int (zLm W1))) M L (zRf t) := by
  refine Sp.of (by decide +kernel) rfl (fun h => by first | exact h | cases h) (Nat.le_of_ble_eq_true rfl) ?_
  intro w G
  have loop : ∀ V : List Nat, zStk M 212 (V ++ W0) → (V ++ W0).length ≤ 1600 → zLm V = zLm W1 → WP w YX12_waitsLast (d + 1, SS, 0, 0) G (some (zX (some (.int (zLm W1))) M L (zRf t))) 7 [(1, .int (zlk (V ++ W0))), (0, .ref 177)] [] SS M L (zRf t) := by
    intro V
    induction V with
    | nil =>
      intro hk hl e
      have hl' : W0.length ≤ 1600 := hl
      have hz : zlk ([] ++ W0) < nI W0.length := zlk_lt (W := W0) (by omega)
      refine wp_iload_n (q := 8) dX12_waitsLast_7 0 rfl rfl ?_
      refine wp_aload_n (q := 9) dX12_waitsLast_8 1 rfl rfl ?_
      refine wp_getI (q := 12) dX12_waitsLast_9 zf_RX12_322 rfl zsh_177 rfl ?_
      rw [hb]
      refine wp_icmp_lt (tgt := 34) (q := 15) dX12_waitsLast_12 (by decide) rfl (fun _ => ?_) (fun hn => absurd hn (by exact fun e => e hz))
      refine wp_iload_n (q := 35) dX12_waitsLast_34 0 rfl rfl ?_
      refine wp_aload_n (q := 36) dX12_waitsLast_35 1 rfl rfl ?_
      refine wp_getI (q := 39) dX12_waitsLast_36 zf_RX12_322 rfl zsh_177 rfl ?_
      rw [hb]
      refine wp_icmp_lt (tgt := 51) (q := 42) dX12_waitsLast_39 (by decide) rfl (fun _ => ?_) (fun hn => absurd hn (by exact fun e => e hz))
      rw [← e]
      refine wp_iconst (q := 52) dX12_waitsLast_51 zq_iconst_m1 rfl ?_
      exact wp_ireturn dX12_waitsLast_52 rfl ⟨rfl, rfl, rfl, rfl, rfl⟩ rfl rfl
    | cons x V ih =>
      intro hk hl e
      have hk' : ((M 212 (V ++ W0).length = nI x ∧ x < 100) ∧ zStk M 212 (V ++ W0)) := hk
      have hl' : (V ++ W0).length + 1 ≤ 1600 := hl
      have e' : (if zPm x then zLm V else nI x) = zLm W1 := e
      have hB : W0.length ≤ (V ++ W0).length := by rw [List.length_append]; omega
      obtain ⟨⟨k1, k2⟩, k3⟩ := hk'
      rw [zlk_s (n := (V ++ W0).length) (W := x :: V ++ W0) rfl]
      refine wp_iload_n (q := 8) dX12_waitsLast_7 0 rfl rfl ?_
      refine wp_aload_n (q := 9) dX12_waitsLast_8 1 rfl rfl ?_
      refine wp_getI (q := 12) dX12_waitsLast_9 zf_RX12_322 rfl zsh_177 rfl ?_
      rw [hb]
      refine wp_icmp_ltN (tgt := 34) (q := 15) dX12_waitsLast_12 (by decide) rfl (by omega) (by omega) (fun hn => absurd hn (by first | omega | exact fun h => h | exact fun h => h trivial)) (fun _ => ?_)
      refine wp_aload_n (q := 16) dX12_waitsLast_15 1 rfl rfl ?_
      refine wp_aload_n (q := 17) dX12_waitsLast_16 1 rfl rfl ?_
      refine wp_getR (q := 20) dX12_waitsLast_17 zf_RX12_118 rfl zsh_177 (zr_177_45 _) rfl ?_
      refine wp_iload_n (q := 21) dX12_waitsLast_20 0 rfl rfl ?_
      refine wp_iald (q := 22) _ dX12_waitsLast_21 zsh_212 rfl (by omega) (by decide) rfl ?_
      rw [k1]
      refine wp_cvx (q := 25) (sp_misMark (d := 0) (t := t) k2) zm_X12_isMark zl_RX12_365 dX12_waitsLast_22 rfl (by omega) (Nat.le_of_ble_eq_true rfl) zsh_177 rfl rfl ?_
      cases hz : zPm x with
      | false =>
        rw [hz] at e'
        have e2 : nI x = zLm W1 := e'
        refine wp_if_ne (tgt := 34) (q := 28) dX12_waitsLast_25 (by decide) rfl (fun _ => ?_) (fun hn => absurd hn (by decide))
        refine wp_iload_n (q := 35) dX12_waitsLast_34 0 rfl rfl ?_
        refine wp_aload_n (q := 36) dX12_waitsLast_35 1 rfl rfl ?_
        refine wp_getI (q := 39) dX12_waitsLast_36 zf_RX12_322 rfl zsh_177 rfl ?_
        rw [hb]
        refine wp_icmp_ltN (tgt := 51) (q := 42) dX12_waitsLast_39 (by decide) rfl (by omega) (by omega) (fun hn => absurd hn (by first | omega | exact fun h => h | exact fun h => h trivial)) (fun _ => ?_)
        refine wp_aload_n (q := 43) dX12_waitsLast_42 1 rfl rfl ?_
        refine wp_getR (q := 46) dX12_waitsLast_43 zf_RX12_118 rfl zsh_177 (zr_177_45 _) rfl ?_
        refine wp_iload_n (q := 47) dX12_waitsLast_46 0 rfl rfl ?_
        refine wp_iald (q := 48) _ dX12_waitsLast_47 zsh_212 rfl (by omega) (by decide) rfl ?_
        rw [k1, e2]
        refine wp_goto (tgt := 52) dX12_waitsLast_48 (by decide) ?_
        exact wp_ireturn dX12_waitsLast_52 rfl ⟨rfl, rfl, rfl, rfl, rfl⟩ rfl rfl
      | true =>
        rw [hz] at e'
        have e2 : zLm V = zLm W1 := e'
        refine wp_if_ne (tgt := 34) (q := 28) dX12_waitsLast_25 (by decide) rfl (fun hn => absurd hn (by decide)) (fun _ => ?_)
        by_cases c0 : (V ++ W0).length = 0
        · rw [c0]
          refine wp_iinc (q := 31) (loc' := [(1, _), (0, _)]) dX12_waitsLast_28 0 rfl rfl (by decide) rfl rfl ?_
          refine wp_goto (tgt := 7) dX12_waitsLast_31 (by decide) ?_
          rw [show nI 0 + Int32.ofInt (-1) = zlk (V ++ W0) by rw [zlk_0 c0]; rfl]
          refine WP.sub (loc' := [(1, _), (0, _)]) [0, 1] rfl ?_
          exact ih k3 (by omega) e2
        · obtain ⟨n, hn⟩ : ∃ n, (V ++ W0).length = n + 1 := ⟨(V ++ W0).length - 1, by omega⟩
          rw [hn]
          refine wp_iincM (q := 31) (loc' := [(1, _), (0, _)]) dX12_waitsLast_28 0 rfl (by decide) rfl rfl ?_
          refine wp_goto (tgt := 7) dX12_waitsLast_31 (by decide) ?_
          rw [← zlk_s hn]
          refine WP.sub (loc' := [(1, _), (0, _)]) [0, 1] rfl ?_
          exact ih k3 (by omega) e2
  refine wp_aload_n (q := 1) dX12_waitsLast_0 0 rfl rfl ?_
  refine wp_getI (q := 4) dX12_waitsLast_1 zf_RX12_316 rfl zsh_177 rfl ?_
  rw [h]
  by_cases c0 : (W1 ++ W0).length = 0
  · rw [c0]
    refine wp_iconst (q := 5) dX12_waitsLast_4 zq_iconst_1 rfl ?_
    refine wp_isub (q := 6) dX12_waitsLast_5 rfl ?_
    refine wp_istore_n (q := 7) (loc' := [(1, _), (0, _)]) dX12_waitsLast_6 rfl (by decide) rfl rfl ?_
    rw [show nI 0 - nI 1 = zlk (W1 ++ W0) by rw [zlk_0 c0]; rfl]
    refine WP.sub (loc' := [(1, _), (0, _)]) [0, 1] rfl ?_
    exact loop W1 hk hl rfl
  · obtain ⟨n, hn⟩ : ∃ n, (W1 ++ W0).length = n + 1 := ⟨(W1 ++ W0).length - 1, by omega⟩
    rw [hn]
    refine wp_iconst (q := 5) dX12_waitsLast_4 zq_iconst_1 rfl ?_
    refine wp_isubN (q := 6) dX12_waitsLast_5 (by omega) rfl ?_
    refine wp_istore_n (q := 7) (loc' := [(1, _), (0, _)]) dX12_waitsLast_6 rfl (by decide) rfl rfl ?_
    rw [Nat.add_sub_cancel, ← zlk_s hn]
    refine WP.sub (loc' := [(1, _), (0, _)]) [0, 1] rfl ?_
    exact loop W1 hk hl rfl
def zQf (g j : Nat) (M M' : zMI) : Prop := zSf g M M' ∧ ∀ k, k ≠ 44 → k ≠ 46 → k ≠ j → M' 177 k = M 177 k
theorem zQf_r {g j : Nat} {M : zMI} : zQf g j M M := ⟨zSf_r, fun _ _ _ _ => rfl⟩
theorem zQf_t {g j : Nat} {M M' M'' : zMI} (h : zQf g j M M') (h' : zQf g j M' M'') : zQf g j M M'' := ⟨zSf_t h.1 h'.1, fun k a b c => by rw [h'.2 k a b c, h.2 k a b c]⟩
theorem zQf_7 {g j k : Nat} {M M' : zMI} {x : Int32} (h : zQf g j M M') (hj : j = 44 ∨ j = 47) (hk : k = 44 ∨ k = 46 ∨ k = j) : zQf g j M (zu M' 177 k x) := ⟨zSf_7 h.1 (by omega), fun i j1 j2 j3 => by rw [zu_k (by omega)]; exact h.2 i j1 j2 j3⟩
theorem zQf_c {g j k : Nat} {M M' : zMI} {x : Int32} (h : zQf g j M M') (h1 : g ≤ k) (h2 : k < 1600) : zQf g j M (zu M' 211 k x) := ⟨zSf_c h.1 h1 h2, fun i j1 j2 j3 => by rw [zu_ne (by decide)]; exact h.2 i j1 j2 j3⟩
theorem zQf_k {g j k : Nat} {M M' : zMI} {x : Int32} (h : zQf g j M M') : zQf g j M (zu M' 212 k x) := ⟨zSf_k h.1, fun i j1 j2 j3 => by rw [zu_ne (by decide)]; exact h.2 i j1 j2 j3⟩
theorem zSf_o {g x : Nat} {M M' : zMI} (h : zSf g M M') (h1 : x ≠ 177) (h2 : x ≠ 211) (h3 : x ≠ 212) : M' x = M x := funext fun k => h x k (by unfold zSy; omega)
theorem zAt_q {M M' : zMI} {g j : Nat} {b : Nat → Nat} {len c i : Nat} {T : zDD} (h : zAt M b len T c i) (hq : zQf g j M M') (hj : 6 < j) : zAt M' b len T c i := by
  unfold zAt zTa at *
  rw [hq.2 2 (by decide) (by decide) (by omega), hq.2 3 (by decide) (by decide) (by omega), hq.2 4 (by decide) (by decide) (by omega), hq.2 5 (by decide) (by decide) (by omega), zSf_o hq.1 (by decide) (by decide) (by decide)]
  exact h
theorem zWds_f {M M' : zMI} {g : Nat} (h : zWds M) (hq : zSf g M M') : zWds M' := by
  refine ⟨fun w hw => ?_, fun j hj => ?_⟩
  · have := h.1 w hw
    unfold zWd at *
    rw [zSf_o hq (by omega) (by omega) (by omega)]
    exact this
  · have := h.2 j hj
    unfold zWd at *
    rw [zSf_o hq (by omega) (by omega) (by omega)]
    exact this
theorem zcd_s {x : Nat} (h : 1 ≤ x) : zcd (x + 3) 0 = x := by
  unfold zcd
  rw [if_neg (by omega), if_neg (by omega), Nat.add_sub_cancel]
-- dropping one
theorem zQf_pop {g B x : Nat} {M M' : zMI} {F : zFl} {W : List Nat} {y1 y2 y3 : Int32} (h : zQf g 44 M M') (hq : zSQ M' g F (x :: W) B) : zQf g 44 M (zu (zu (zu M' 177 46 y1) 211 (g + F.length) y2) 177 44 y3) := zQf_7 (zQf_c (zQf_7 h (Or.inl rfl) (by omega)) (by omega) (by have := hq.2.2.2.2.2; rw [List.length_cons] at this; omega)) (Or.inl rfl) (by omega)
set_option maxHeartbeats 4000000 in
set_option maxRecDepth 100000 in
theorem sp_mdropsToMark {d t g : Nat} {M : zMI} {L : zML} {F F' : zFl} {W1 W0 W1' : List Nat} (h : zSQ M g F (W1 ++ W0) W0.length) (hw : ∀ x, x ∈ W1 → zPm x = true → 1 ≤ x ∧ x ≤ 4) (hr : zdw zPm W1 F = (W1', F')) : Sy yX12_dropsToMark YX12_dropsToMark (d + 2) [.ref 177] M L (zRf t) (fun v0 M' L' R' => v0 = none ∧ L = L' ∧ R' = zRf t ∧ zSQ M' g F' (W1' ++ W0) W0.length ∧ zQf g 44 M M') := by
  refine Sp.of (by decide +kernel) rfl (fun h => by first | exact h | cases h) (Nat.le_of_ble_eq_true rfl) ?_
  intro w G
  have loop : ∀ (V : List Nat) (F2 : zFl) (M2 : zMI), zSQ M2 g F2 (V ++ W0) W0.length → (∀ x, x ∈ V → zPm x = true → 1 ≤ x ∧ x ≤ 4) → zQf g 44 M M2 → zdw zPm V F2 = (W1', F') → WP w YX12_dropsToMark (d + 2, SS, 0, 0) G (some (zXp (fun v0 M' L' R' => v0 = none ∧ L = L' ∧ R' = zRf t ∧ zSQ M' g F' (W1' ++ W0) W0.length ∧ zQf g 44 M M'))) 0 [(0, .ref 177)] [] SS M2 L (zRf t) := by
    intro V
    induction V with
    | nil =>
      intro F2 M2 h2 hw2 hq hr2
      have e : (([] : List Nat), F2) = (W1', F') := hr2
      cases e
      have h46 : M2 177 46 = nI W0.length := h2.2.2.1
      have hl := h2.2.2.2.2.2
      have hl' : g + F'.length + W0.length ≤ 1600 := hl
      refine wp_aload_n (q := 1) dX12_dropsToMark_0 0 rfl rfl ?_
      refine wp_getI (q := 4) dX12_dropsToMark_1 zf_RX12_316 rfl zsh_177 rfl ?_
      rw [h46]
      refine wp_aload_n (q := 5) dX12_dropsToMark_4 0 rfl rfl ?_
      refine wp_getI (q := 8) dX12_dropsToMark_5 zf_RX12_322 rfl zsh_177 rfl ?_
      rw [h2.2.2.2.2.1]
      refine wp_icmp_leN (tgt := 36) (q := 11) dX12_dropsToMark_8 (by decide) rfl (by omega) (by omega) (fun _ => ?_) (fun hn => absurd hn (by first | omega | exact fun h => h | exact fun h => h trivial))
      exact wp_return dX12_dropsToMark_36 rfl ⟨rfl, ⟨rfl, rfl, rfl, h2, hq⟩⟩ rfl rfl
    | cons x V ih =>
      intro F2 M2 h2 hw2 hq hr2
      have e' : (if zPm x then zdw zPm V (F2 ++ [(x + 3, 0)]) else (x :: V, F2)) = (W1', F') := hr2
      have h2' : zSQ M2 g F2 (x :: (V ++ W0)) W0.length := h2
      have h46 : M2 177 46 = nI ((V ++ W0).length + 1) := h2.2.2.1
      have hl' : g + F2.length + ((V ++ W0).length + 1) ≤ 1600 := h2.2.2.2.2.2
      have hB : W0.length ≤ (V ++ W0).length := by rw [List.length_append]; omega
      obtain ⟨⟨k1, k2⟩, k3⟩ := h2'.2.2.2.1
      refine wp_aload_n (q := 1) dX12_dropsToMark_0 0 rfl rfl ?_
      refine wp_getI (q := 4) dX12_dropsToMark_1 zf_RX12_316 rfl zsh_177 rfl ?_
      rw [h46]
      refine wp_aload_n (q := 5) dX12_dropsToMark_4 0 rfl rfl ?_
      refine wp_getI (q := 8) dX12_dropsToMark_5 zf_RX12_322 rfl zsh_177 rfl ?_
      rw [h2.2.2.2.2.1]
      refine wp_icmp_leN (tgt := 36) (q := 11) dX12_dropsToMark_8 (by decide) rfl (by omega) (by omega) (fun hn => absurd hn (by first | omega | exact fun h => h | exact fun h => h trivial)) (fun _ => ?_)
      refine wp_aload_n (q := 12) dX12_dropsToMark_11 0 rfl rfl ?_
      refine wp_aload_n (q := 13) dX12_dropsToMark_12 0 rfl rfl ?_
      refine wp_getR (q := 16) dX12_dropsToMark_13 zf_RX12_118 rfl zsh_177 (zr_177_45 _) rfl ?_
      refine wp_aload_n (q := 17) dX12_dropsToMark_16 0 rfl rfl ?_
      refine wp_getI (q := 20) dX12_dropsToMark_17 zf_RX12_316 rfl zsh_177 rfl ?_
      rw [h46]
      refine wp_iconst (q := 21) dX12_dropsToMark_20 zq_iconst_1 rfl ?_
      refine wp_isubN (q := 22) dX12_dropsToMark_21 (by omega) rfl ?_
      refine wp_iald (q := 23) _ dX12_dropsToMark_22 zsh_212 rfl (by omega) (by decide) rfl ?_
      rw [Nat.add_sub_cancel, k1]
      refine wp_cvx (q := 26) (sp_misMark (d := 1) (t := t) k2) zm_X12_isMark zl_RX12_365 dX12_dropsToMark_23 rfl (by omega) (Nat.le_of_ble_eq_true rfl) zsh_177 rfl rfl ?_
      cases hz : zPm x with
      | false =>
        rw [hz] at e'
        have e2 : (x :: V, F2) = (W1', F') := e'
        cases e2
        refine wp_if_ne (tgt := 36) (q := 29) dX12_dropsToMark_26 (by decide) rfl (fun _ => ?_) (fun hn => absurd hn (by decide))
        exact wp_return dX12_dropsToMark_36 rfl ⟨rfl, ⟨rfl, rfl, rfl, h2, hq⟩⟩ rfl rfl
      | true =>
        rw [hz] at e'
        have e2 : zdw zPm V (F2 ++ [(x + 3, 0)]) = (W1', F') := e'
        have hx4 := hw2 x (List.mem_cons_self ..) hz
        refine wp_if_ne (tgt := 36) (q := 29) dX12_dropsToMark_26 (by decide) rfl (fun hn => absurd hn (by decide)) (fun _ => ?_)
        refine wp_aload_n (q := 30) dX12_dropsToMark_29 0 rfl rfl ?_
        refine wp_cvx (q := 33) (sp_mdrops (d := 0) h2') zm_X12_drops zl_RX12_368 dX12_dropsToMark_30 rfl (by omega) (Nat.le_of_ble_eq_true rfl) zsh_177 rfl rfl ?_
        refine wp_goto (tgt := 0) dX12_dropsToMark_33 (by decide) ?_
        refine WP.sub (loc' := [(0, _)]) [0] rfl ?_
        refine ih _ _ (zSQ_pop h2' ?_) (fun y hy => hw2 y (List.mem_cons_of_mem _ hy)) (zQf_pop hq h2') e2
        exact zcd_s hx4.1
  refine WP.sub (loc' := [(0, _)]) [0] rfl ?_
  exact loop W1 F M h hw zQf_r hr

