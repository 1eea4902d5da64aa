def zMsw (M : zMI) (w a : Nat) (F : zFl) (cod : Nat) : Prop := (a = 0 → M 209 w = -1) ∧ (a ≠ 0 → zOa F ∧ ∃ f, M 209 w = nI f ∧ M 210 w = nI (f + F.length) ∧ f + F.length ≤ cod ∧ cod ≤ 1600 ∧ ∀ i op x, F[i]? = some (op, x) → M 211 (f + i) = nI (zcd op x))
theorem zMsw_fr {M M' : zMI} {w a cod cod' : Nat} {F : zFl} (h : zMsw M w a F cod) (e1 : M' 209 w = M 209 w) (e2 : M' 210 w = M 210 w) (e3 : ∀ j, j < cod → M' 211 j = M 211 j) (hc : cod ≤ cod') (hc2 : cod' ≤ 1600) : zMsw M' w a F cod' := by
  refine ⟨fun e => by rw [e1]; exact h.1 e, fun e => ?_⟩
  obtain ⟨h0, f, h1, h2, h3, h4, h5⟩ := h.2 e
  refine ⟨h0, f, by rw [e1]; exact h1, by rw [e2]; exact h2, by omega, hc2, fun i op x hi => ?_⟩
  rw [e3 _ ?_]
  · exact h5 i op x hi
  · have : i < F.length := by
      refine Classical.byContradiction fun hh => ?_
      rw [List.getElem?_eq_none (by omega)] at hi
      cases hi
    omega
def zSgf (w cod : Nat) (M M' : zMI) : Prop := ∀ o k, ¬ (zSy cod o k ∨ ((o = 209 ∨ o = 210) ∧ k = w)) → M' o k = M o k
theorem zSgf_s {w cod : Nat} {M M' M'' : zMI} (h : zSgf w cod M M') (h' : zSf cod M' M'') : zSgf w cod M M'' := fun o k c => by rw [h' o k (fun e => c (Or.inl e)), h o k c]
theorem zSgf_w {w cod o : Nat} {M M' : zMI} {x : Int32} (h : zSgf w cod M M') (ho : o = 209 ∨ o = 210) : zSgf w cod M (zu M' o w x) := fun o' k' c => by
  rw [zu_at, if_neg (fun e => c (Or.inr ⟨by rw [e.1]; exact ho, e.2⟩))]
  exact h o' k' c
theorem zSgf_o {w cod x : Nat} {M M' : zMI} (h : zSgf w cod M M') (h1 : x ≠ 177) (h2 : x ≠ 211) (h3 : x ≠ 212) (h4 : x ≠ 209) (h5 : x ≠ 210) : M' x = M x := funext fun k => h x k (by unfold zSy; omega)
set_option maxHeartbeats 4000000 in
set_option maxRecDepth 100000 in
theorem sp_msumIsTold {d t len c wk a cod : Nat} {p : zP} {M : zMI} {L : zML} {b : Nat → Nat} {T : zDD} {F : zFl} {r : zPF} (hw1 : wk ≤ 1) (k0 : p.2.2.1 = 0) (hp1 : p.1 + 1 < c) (h : zRp M b len T c (zpn c p)) (hT : zTok b len T c) (hW : zWds M) (hz : p.2.1 = nI 0) (h44 : M 177 44 = nI cod) (hcod : cod ≤ p.1) (hs : zMsw M wk a F cod) (hr : zrS T c p a F = r) : Sy yX12_sumIsTold YX12_sumIsTold (d + 6) [.ref 177, .int (nI wk), .int (nI (T p.1 1))] M L (zRf t) (fun v0 M' L' R' => v0 = none ∧ L = L' ∧ R' = zRf t ∧ zRp M' b len T c r.1 ∧ zSgf wk cod M M' ∧ (r.1.2.2.1 = 0 → a = 0 ∧ ∃ cod', M' 177 44 = nI cod' ∧ cod' ≤ r.1.1 ∧ cod ≤ cod' ∧ zMsw M' wk 1 r.2 cod')) := by
  refine Sp.of (by decide +kernel) rfl (fun h => by first | exact h | cases h) (Nat.le_of_ble_eq_true rfl) ?_
  intro w G
  obtain ⟨ha, ha6⟩ := h.2.1 k0
  rw [zpn_o hp1] at ha ha6
  have hc := zTok_c hT ha
  unfold zrS at hr
  refine wp_aload_n (q := 1) dX12_sumIsTold_0 0 rfl rfl ?_
  refine wp_getI (q := 4) dX12_sumIsTold_1 zf_RX12_236 rfl zsh_177 rfl ?_
  rw [ha.2.1]
  refine wp_if_neN (tgt := 23) (q := 7) dX12_sumIsTold_4 (by decide) rfl (by omega) (fun hn => absurd hn (by first | omega | exact fun h => h | exact fun h => h trivial)) (fun _ => ?_)
  by_cases h0 : a = 0
  · rw [if_pos h0, zpn_o hp1] at hr
    refine wp_aload_n (q := 8) dX12_sumIsTold_7 0 rfl rfl ?_
    refine wp_getR (q := 11) dX12_sumIsTold_8 zf_RX12_109 rfl zsh_177 (zr_177_40 _) rfl ?_
    refine wp_iload_n (q := 12) dX12_sumIsTold_11 1 rfl rfl ?_
    refine wp_iald (q := 13) _ dX12_sumIsTold_12 zsh_209 rfl (by omega) (by decide) rfl ?_
    rw [hs.1 h0]
    refine wp_iconst (q := 14) dX12_sumIsTold_13 zq_iconst_m1 rfl ?_
    refine wp_icmp_eq (tgt := 23) (q := 17) dX12_sumIsTold_14 (by decide) rfl (fun _ => ?_) (fun hn => absurd hn (by exact fun e => e rfl))
    refine wp_aload_n (q := 24) dX12_sumIsTold_23 0 rfl rfl ?_
    refine wp_getI (q := 27) dX12_sumIsTold_24 zf_RX12_236 rfl zsh_177 rfl ?_
    rw [ha.2.1]
    refine wp_if_eqN (tgt := 31) (q := 30) dX12_sumIsTold_27 (by decide) rfl (by omega) (fun _ => ?_) (fun hn => absurd hn (by first | omega | exact fun h => h | exact fun h => h trivial))
    refine wp_aload_n (q := 32) dX12_sumIsTold_31 0 rfl rfl ?_
    refine wp_getR (q := 35) dX12_sumIsTold_32 zf_RX12_109 rfl zsh_177 (zr_177_40 _) rfl ?_
    refine wp_iload_n (q := 36) dX12_sumIsTold_35 1 rfl rfl ?_
    refine wp_aload_n (q := 37) dX12_sumIsTold_36 0 rfl rfl ?_
    refine wp_getI (q := 40) dX12_sumIsTold_37 zf_RX12_313 rfl zsh_177 rfl ?_
    rw [h44]
    refine wp_iast (q := 41) _ dX12_sumIsTold_40 zsh_209 rfl (by omega) (by decide) rfl ?_
    refine wp_aload_n (q := 42) dX12_sumIsTold_41 0 rfl rfl ?_
    refine wp_iconst (q := 43) dX12_sumIsTold_42 zq_iconst_0 rfl ?_
    refine wp_putI (q := 46) dX12_sumIsTold_43 zf_RX12_316 rfl zsh_177 rfl ?_
    refine wp_aload_n (q := 47) dX12_sumIsTold_46 0 rfl rfl ?_
    refine wp_iconst (q := 48) dX12_sumIsTold_47 zq_iconst_0 rfl ?_
    refine wp_putI (q := 51) dX12_sumIsTold_48 zf_RX12_319 rfl zsh_177 rfl ?_
    refine wp_aload_n (q := 52) dX12_sumIsTold_51 0 rfl rfl ?_
    refine wp_iconst (q := 53) dX12_sumIsTold_52 zq_iconst_0 rfl ?_
    refine wp_putI (q := 56) dX12_sumIsTold_53 zf_RX12_322 rfl zsh_177 rfl ?_
    refine wp_aload_n (q := 57) dX12_sumIsTold_56 0 rfl rfl ?_
    obtain ⟨N, hN⟩ : ∃ N, zu (zu (zu (zu M 209 wk (nI cod)) 177 46 (nI 0)) 177 47 (nI 0)) 177 48 (nI 0) = N := ⟨_, rfl⟩
    have n7 : ∀ k, k ≠ 46 → k ≠ 47 → k ≠ 48 → N 177 k = M 177 k := fun k y1 y2 y3 => by rw [← hN, zu_k y3, zu_k y2, zu_k y1, zu_ne (by decide)]
    have n46 : N 177 46 = nI 0 := by rw [← hN, zu_k (by decide), zu_k (by decide), zu_s]
    have n47 : N 177 47 = nI 0 := by rw [← hN, zu_k (by decide), zu_s]
    have n48 : N 177 48 = nI 0 := by rw [← hN, zu_s]
    have n209 : N 209 wk = nI cod := by rw [← hN, zu_ne (by decide), zu_ne (by decide), zu_ne (by decide), zu_s]
    have nx : ∀ x, x ≠ 177 → x ≠ 209 → N x = M x := fun x y1 y2 => by rw [← hN, zu_ne y1, zu_ne y1, zu_ne y1, zu_ne y2]
    have hg : zSgf wk cod M N := fun o k c => by
      unfold zSy at c
      by_cases e : o = 177
      · rw [e]; exact n7 k (by omega) (by omega) (by omega)
      · by_cases e2 : o = 209
        · rw [e2, ← hN, zu_ne (by decide), zu_ne (by decide), zu_ne (by decide), zu_k (by omega)]
        · rw [nx o e e2]
    rw [hN]
    have hA : zAt N b len T c (p.1 + 1) := by
      unfold zAt zTa at *
      rw [n7 2 (by decide) (by decide) (by decide), n7 3 (by decide) (by decide) (by decide), n7 4 (by decide) (by decide) (by decide), n7 5 (by decide) (by decide) (by decide), nx 178 (by decide) (by decide)]
      exact ha
    have hS : zSS N b len T c (p.1 + 1, p.2.1, p.2.2.1, p.2.2.2) [] [] cod 0 := ⟨hA, by rw [n7 6 (by decide) (by decide) (by decide)]; exact ha6, k0, by rw [n47]; exact hz.symm, ⟨by rw [n7 44 (by decide) (by decide) (by decide)]; exact h44, fun i op a hi => by simp at hi, n46, trivial, n48, by show cod + 0 + 0 ≤ 1600; omega⟩, by show cod + 0 + 0 + 1 ≤ p.1 + 1; omega⟩
    have hWN : zWds N := by
      refine ⟨fun i hi => ?_, fun j hj => ?_⟩
      · have := hW.1 i hi
        unfold zWd at *
        rw [nx _ (by omega) (by omega)]
        exact this
      · have := hW.2 j hj
        unfold zWd at *
        rw [nx _ (by omega) (by omega)]
        exact this
    refine wp_cvy (q := 60) (sp_msumsTold (d := d) hT hWN hS hz (by decide) hr (fun x hx => absurd hx List.not_mem_nil)) zm_X12_sumsTold zl_RX12_325 dX12_sumIsTold_57 rfl (by omega) (Nat.le_of_ble_eq_true rfl) zsh_177 rfl rfl ?_
    rintro _ N2 _ _ ⟨rfl, rfl, rfl, hf2, hR2, hS2⟩
    refine wp_aload_n (q := 61) dX12_sumIsTold_60 0 rfl rfl ?_
    refine wp_getR (q := 64) dX12_sumIsTold_61 zf_RX12_112 rfl zsh_177 (zr_177_41 _) rfl ?_
    refine wp_iload_n (q := 65) dX12_sumIsTold_64 1 rfl rfl ?_
    refine wp_aload_n (q := 66) dX12_sumIsTold_65 0 rfl rfl ?_
    refine wp_getI (q := 69) dX12_sumIsTold_66 zf_RX12_313 rfl zsh_177 rfl ?_
    refine wp_iast (q := 70) _ dX12_sumIsTold_69 zsh_210 rfl (by omega) (by decide) rfl ?_
    have hg2 := zSgf_s hg hf2
    have hR3 : zRp (zu N2 210 wk (N2 177 44)) b len T c r.1 := zRp_up hR2 (zu_ne (by decide)) (zu_ne (by decide))
    refine wp_return dX12_sumIsTold_70 rfl ⟨rfl, ⟨rfl, rfl, rfl, hR3, zSgf_w hg2 (Or.inr rfl), fun e => ⟨h0, ?_⟩⟩⟩ rfl rfl
    obtain ⟨y1, y2, y3, y4, y5, y6⟩ := hS2 e
    obtain ⟨w1, w2, w3, w4, w5, w6⟩ := y5
    have e0 : ([] : List Nat).length = 0 := rfl
    rw [e0] at w6 y6
    refine ⟨cod + r.2.length, by rw [zu_ne (by decide)]; exact w1, by omega, by omega, fun e => absurd e (by decide), fun _ => ⟨by rw [← hr]; exact zOa_sum (fun q hq => absurd hq List.not_mem_nil), cod, ?_, by rw [zu_s]; exact w1, Nat.le_refl _, by omega, fun i op x hi => ?_⟩⟩
    · rw [zu_ne (by decide), hf2 209 wk (by unfold zSy; omega)]
      exact n209
    · rw [zu_ne (by decide)]
      exact w2 i op x hi
  · rw [if_neg h0] at hr
    obtain ⟨-, f, h1, h2, h3, h4, h5⟩ := hs.2 h0
    refine wp_aload_n (q := 8) dX12_sumIsTold_7 0 rfl rfl ?_
    refine wp_getR (q := 11) dX12_sumIsTold_8 zf_RX12_109 rfl zsh_177 (zr_177_40 _) rfl ?_
    refine wp_iload_n (q := 12) dX12_sumIsTold_11 1 rfl rfl ?_
    refine wp_iald (q := 13) _ dX12_sumIsTold_12 zsh_209 rfl (by omega) (by decide) rfl ?_
    rw [h1]
    refine wp_iconst (q := 14) dX12_sumIsTold_13 zq_iconst_m1 rfl ?_
    refine wp_icmp_eq (tgt := 23) (q := 17) dX12_sumIsTold_14 (by decide) rfl (fun hn => absurd hn (by exact znn (by omega))) (fun _ => ?_)
    refine wp_aload_n (q := 18) dX12_sumIsTold_17 0 rfl rfl ?_
    refine wp_iconst (q := 19) dX12_sumIsTold_18 zq_iconst_5 rfl ?_
    refine wp_iload_n (q := 20) dX12_sumIsTold_19 2 rfl rfl ?_
    refine wp_cvx (q := 23) (sp_mfail (d := d) ha.2.1) zm_X12_fail zl_RX12_266 dX12_sumIsTold_20 rfl (by omega) (Nat.le_of_ble_eq_true rfl) zsh_177 rfl rfl ?_
    refine wp_aload_n (q := 24) dX12_sumIsTold_23 0 rfl rfl ?_
    refine wp_getI (q := 27) dX12_sumIsTold_24 zf_RX12_236 rfl zsh_177 rfl ?_
    rw [zu_k (by decide), zu_s]
    refine wp_if_eqN (tgt := 31) (q := 30) dX12_sumIsTold_27 (by decide) rfl (by omega) (fun hn => absurd hn (by first | omega | exact fun h => h | exact fun h => h trivial)) (fun _ => ?_)
    have hr1 : r.1 = zpf c p 5 (nI (T p.1 1)) := by rw [← hr]
    exact wp_return dX12_sumIsTold_30 rfl ⟨rfl, ⟨rfl, rfl, rfl, by rw [hr1]; exact zRp_5 k0 (by omega) (by decide) (by decide), zSgf_s (fun _ _ _ => rfl) (zSf_7 (zSf_7 zSf_r (by omega)) (by omega)), fun e => absurd e (by rw [hr1]; exact zpf_b (by decide))⟩⟩ rfl rfl

