-- odds of a cracker between the right hand in seat a and the left hand in seat b
def zmR (tb : zTb) (v : Nat → Nat) (a b : Nat) : Nat := zmg tb (tb.1 (wh v a) 0) (lw v a 0) (lw v b 1) (gr v a 0)
def zmL (tb : zTb) (v : Nat → Nat) (a b : Nat) : Nat := zmg tb (tb.1 (wh v b) 1) (lw v b 1) (lw v a 0) (gr v b 1)
def zsR (tb : zTb) (v : Nat → Nat) (a b : Nat) : Nat := zsg tb (tb.1 (wh v a) 0) (lw v a 0) (lw v b 1) (gr v a 0)
def zsL (tb : zTb) (v : Nat → Nat) (a b : Nat) : Nat := zsg tb (tb.1 (wh v b) 1) (lw v b 1) (lw v a 0) (gr v b 1)
def zsh' (m n : Nat) : Nat := if m + n = 0 then 50 else 100 * m / (m + n)
def zrw (tb : zTb) (v : Nat → Nat) (a b : Nat) : Nat := (100 - zsR tb v a b) * (100 - zsL tb v a b) * zsh' (zmR tb v a b) (zmL tb v a b) / 100
def zoR (tb : zTb) (v : Nat → Nat) (a b : Nat) : Nat := (100 - zsR tb v a b) * zsL tb v a b + zrw tb v a b
def zoL (tb : zTb) (v : Nat → Nat) (a b : Nat) : Nat := zsR tb v a b * (100 - zsL tb v a b) + (100 - zsR tb v a b) * (100 - zsL tb v a b) - zrw tb v a b
def zoN (tb : zTb) (v : Nat → Nat) (a b : Nat) : Nat := zsR tb v a b * zsL tb v a b
theorem zclN_le (m : Nat) (z : Int) : zclN m z ≤ m := by
  unfold zclN
  split
  · exact Nat.zero_le _
  · split
    · exact Nat.le_refl _
    · omega
theorem zmg_le (tb : zTb) (a l o g : Nat) : zmg tb a l o g ≤ 999 := zclN_le _ _
theorem zsg_le (tb : zTb) (a l o g : Nat) : zsg tb a l o g ≤ 100 := zclN_le _ _
theorem zsh_le (m n : Nat) : zsh' m n ≤ 100 := by
  unfold zsh'
  split
  · decide
  · rename_i h
    exact Nat.div_le_of_le_mul (by have := Nat.mul_le_mul_right 100 (show m ≤ m + n by omega); omega)
theorem zpq {s t : Nat} (hs : s ≤ 100) (ht : t ≤ 100) : (100 - s) * t + s * (100 - t) + (100 - s) * (100 - t) + s * t = 10000 := by
  obtain ⟨x, hx⟩ : ∃ x, 100 - s = x := ⟨_, rfl⟩
  obtain ⟨y, hy⟩ : ∃ y, 100 - t = y := ⟨_, rfl⟩
  rw [hx, hy]
  have e1 : x + s = 100 := by omega
  have e2 : t + y = 100 := by omega
  have : (x + s) * (t + y) = 10000 := by rw [e1, e2]
  rw [Nat.add_mul, Nat.mul_add, Nat.mul_add] at this
  omega
theorem zrw_le (tb : zTb) (v : Nat → Nat) (a b : Nat) : zrw tb v a b ≤ (100 - zsR tb v a b) * (100 - zsL tb v a b) := by
  unfold zrw
  exact Nat.div_le_of_le_mul (by rw [Nat.mul_comm 100]; exact Nat.mul_le_mul_left _ (zsh_le _ _))
theorem zo_sum (tb : zTb) (v : Nat → Nat) (a b : Nat) : zoR tb v a b + zoL tb v a b + zoN tb v a b = 10000 := by
  have h1 := zrw_le tb v a b
  have h2 := zpq (show zsR tb v a b ≤ 100 from zsg_le _ _ _ _ _) (show zsL tb v a b ≤ 100 from zsg_le _ _ _ _ _)
  unfold zoR zoL zoN
  omega
def zPM (M : zMI) : Prop := ∀ k, 6 ≤ k → k < 9 → M 151 k = nI 0
def zPx (t x : Nat) : Prop := x = 151 ∨ x = 152 ∨ x = t + 10 ∨ x = t + 13
theorem zTM_fr {M M' : zMI} {t n : Nat} {tb : zTb} (h : zTM M t n tb) (hf : ∀ x, t ≤ x → x ≤ t + 12 → x ≠ t + 10 → M' x = M x) : zTM M' t n tb := by
  obtain ⟨a, b, c⟩ := h
  refine ⟨fun p h hp hh => by rw [hf (t + 2) (by omega) (by omega) (by omega)]; exact a p h hp hh, ?_, ?_⟩
  · exact zpr_fr b (by rw [hf t (by omega) (by omega) (by omega)]) (by rw [hf (t + 8) (by omega) (by omega) (by omega)]) (hf (t + 9) (by omega) (by omega) (by omega))
  · exact zpr_fr c (by rw [hf t (by omega) (by omega) (by omega)]) (by rw [hf (t + 11) (by omega) (by omega) (by omega)]) (hf (t + 12) (by omega) (by omega) (by omega))
set_option maxHeartbeats 4000000 in
set_option maxRecDepth 100000 in
theorem sp_work {d t o a b n : Nat} {M : zMI} {L : zML} {tb : zTb} {v : Nat → Nat} (hT : zTab t) (ho : zSt o) (hTM : zTM M t n tb) (hv : zV n v) (hr : zSR M o n v) (ha : a < n) (hb : b < n) (h6 : zPM M) : Sy yX4_work YX4_work (d + 4) [.ref 150, .ref o, .int (nI a), .int (nI b)] M L (zRf t) (fun v0 M' L' R' => v0 = none ∧ L = L' ∧ R' = zRf t ∧ M' 152 0 = nI (zmR tb v a b) ∧ M' 152 1 = nI (zmL tb v a b) ∧ M' 152 2 = nI (zsR tb v a b) ∧ M' 152 3 = nI (zsL tb v a b) ∧ M' 152 4 = nI (zoR tb v a b) ∧ M' 152 5 = nI (zoL tb v a b) ∧ M' 152 6 = nI (zoN tb v a b) ∧ zPM M' ∧ ∀ x, ¬ zPx t x → M' x = M x) := by
  refine Sp.of (by decide +kernel) rfl (fun h => by first | exact h | cases h) (Nat.le_of_ble_eq_true rfl) ?_
  intro w G
  have hss := zSt_s ho
  have h8 := hv.1
  have ht2 : t = 10 ∨ t = 24 := hT
  have hot : 43 ≤ o ∧ (o + 4 < 150 ∨ 157 ≤ o) := by rcases ho with rfl | rfl | rfl | ⟨i, hi, rfl⟩ <;> omega
  have wa := hv.2.1 a ha
  have wb := hv.2.1 b hb
  have ga := hv.2.2.2.2.1 a 0 ha (by decide)
  have gb := hv.2.2.2.2.1 b 1 hb (by decide)
  obtain ⟨-, -, ma⟩ := hr.2.2.2.2 a ha
  obtain ⟨-, -, mb⟩ := hr.2.2.2.2 b hb
  have ma0 := ma 0 (by decide)
  have mb1 := mb 1 (by decide)
  have arma := hTM.1 (wh v a) 0 wa (by decide)
  have armb := hTM.1 (wh v b) 1 wb (by decide)
  refine wp_aload_n (q := 1) dX4_work_0 1 rfl rfl ?_
  refine wp_iload_n (q := 2) dX4_work_1 2 rfl rfl ?_
  refine wp_iconst (q := 3) dX4_work_2 zq_iconst_0 rfl ?_
  refine wp_cvx (q := 6) (sp_handOf (d := d + 3) ho hv hr ha (by decide)) zm_X7_handOf zl_RX4_31 dX4_work_3 rfl (by omega) (Nat.le_of_ble_eq_true rfl) (by first | assumption | rfl) rfl rfl ?_
  refine wp_istore (q := 8) (loc' := [(4, _), (0, _), (1, _), (2, _), (3, _)]) dX4_work_6 (by decide) rfl rfl ?_
  refine wp_aload_n (q := 9) dX4_work_8 2 rfl rfl ?_
  refine wp_iload_n (q := 10) dX4_work_9 4 rfl rfl ?_
  refine wp_iconst (q := 11) dX4_work_10 zq_iconst_1 rfl ?_
  refine wp_cvx (q := 14) (sp_handOf (d := d + 3) ho hv hr hb (by decide)) zm_X7_handOf zl_RX4_31 dX4_work_11 rfl (by omega) (Nat.le_of_ble_eq_true rfl) (by first | assumption | rfl) rfl rfl ?_
  refine wp_istore (q := 16) (loc' := [(5, _), (4, _), (0, _), (1, _), (2, _), (3, _)]) dX4_work_14 (by decide) rfl rfl ?_
  refine wp_aload_n (q := 17) dX4_work_16 2 rfl rfl ?_
  refine wp_aload_n (q := 18) dX4_work_17 3 rfl rfl ?_
  refine wp_iload (q := 20) dX4_work_18 1 rfl rfl ?_
  refine wp_iload (q := 22) dX4_work_20 0 rfl rfl ?_
  refine wp_iconst (q := 23) dX4_work_22 zq_iconst_0 rfl ?_
  refine wp_cvy (q := 26) (sp_measure (d := d) hT ho hTM (by decide) (by omega) (by omega) arma.1 arma.2 ma0.1 ga.1 ma0.2 ga.2 mb1.2 gb.2 h6) zm_X4_measure zl_RX4_37 dX4_work_23 rfl (by omega) (Nat.le_of_ble_eq_true rfl) zsh_150 rfl rfl ?_
  rintro _ M1 _ _ ⟨rfl, rfl, rfl, t0, t2, tk, k6, hf⟩
  have hf1 : ∀ x, ¬ zPx t x → M1 x = M x := fun x hx => hf x (fun c => hx (Or.inl c)) (fun c => hx (Or.inr (Or.inl c))) (fun c => hx (Or.inr (Or.inr (Or.inl c)))) (fun c => hx (Or.inr (Or.inr (Or.inr c))))
  have nP : ∀ x, x ≠ 151 → x ≠ 152 → x ≠ t + 10 → x ≠ t + 13 → ¬ zPx t x := fun x x1 x2 x3 x4 c => by rcases c with c | c | c | c <;> omega
  have hTM1 := zTM_fr (M' := M1) hTM (fun x x1 x2 x3 => hf1 x (nP x (by omega) (by omega) (by omega) (by omega)))
  have eo3 : M1 (o + 3) = M (o + 3) := hf1 _ (nP _ (by omega) (by omega) (by omega) (by omega))
  have eo4 : M1 (o + 4) = M (o + 4) := hf1 _ (nP _ (by omega) (by omega) (by omega) (by omega))
  have arma' := hTM1.1 (wh v a) 0 wa (by decide)
  have armb' := hTM1.1 (wh v b) 1 wb (by decide)
  have h61 : zPM M1 := fun k h1 h2 => by rw [k6 k h1]; exact h6 k h1 h2
  refine wp_aload_n (q := 27) dX4_work_26 2 rfl rfl ?_
  refine wp_aload_n (q := 28) dX4_work_27 3 rfl rfl ?_
  refine wp_iload (q := 30) dX4_work_28 0 rfl rfl ?_
  refine wp_iload (q := 32) dX4_work_30 1 rfl rfl ?_
  refine wp_iconst (q := 33) dX4_work_32 zq_iconst_1 rfl ?_
  refine wp_cvy (q := 36) (sp_measure (d := d) (h := 1) (hx := 2 * wh v b + 1) (ox := 2 * wh v a + 0) hT ho hTM1 (by decide) (by omega) (by omega) armb'.1 armb'.2 (by rw [eo3]; exact mb1.1) gb.1 (by rw [eo4]; exact mb1.2) gb.2 (by rw [eo4]; exact ma0.2) ga.2 h61) zm_X4_measure zl_RX4_37 dX4_work_33 rfl (by omega) (Nat.le_of_ble_eq_true rfl) zsh_150 rfl rfl ?_
  rintro _ M2 _ _ ⟨rfl, rfl, rfl, t1, t3, tk2, k62, hf2⟩
  have e0 : M2 152 0 = nI (zmR tb v a b) := (tk2 0 (by decide) (by decide)).trans t0
  have e1 : M2 152 1 = nI (zmL tb v a b) := t1
  have e2 : M2 152 2 = nI (zsR tb v a b) := (tk2 2 (by decide) (by decide)).trans t2
  have e3 : M2 152 3 = nI (zsL tb v a b) := t3
  have b0 : zmR tb v a b ≤ 999 := zmg_le _ _ _ _ _
  have b1 : zmL tb v a b ≤ 999 := zmg_le _ _ _ _ _
  have b2 : zsR tb v a b ≤ 100 := zsg_le _ _ _ _ _
  have b3 : zsL tb v a b ≤ 100 := zsg_le _ _ _ _ _
  have hshb := zsh_le (zmR tb v a b) (zmL tb v a b)
  have hns : (100 - zsR tb v a b) * (100 - zsL tb v a b) ≤ 100 * 100 := Nat.mul_le_mul (show 100 - zsR tb v a b ≤ 100 by omega) (show 100 - zsL tb v a b ≤ 100 by omega)
  have hnss : (100 - zsR tb v a b) * (100 - zsL tb v a b) * zsh' (zmR tb v a b) (zmL tb v a b) ≤ 100 * 100 * 100 := Nat.mul_le_mul hns hshb
  have hrwl := zrw_le tb v a b
  have p1 : (100 - zsR tb v a b) * zsL tb v a b ≤ 100 * 100 := Nat.mul_le_mul (by omega) b3
  have p2 : zsR tb v a b * (100 - zsL tb v a b) ≤ 100 * 100 := Nat.mul_le_mul b2 (by omega)
  have p3 : zsR tb v a b * zsL tb v a b ≤ 100 * 100 := Nat.mul_le_mul b2 b3
  have tail : WP w YX4_work (d + 4, SS, 0, 0) G (some (zXp (fun v0 M' L' R' => v0 = none ∧ L = L' ∧ R' = zRf t ∧ M' 152 0 = nI (zmR tb v a b) ∧ M' 152 1 = nI (zmL tb v a b) ∧ M' 152 2 = nI (zsR tb v a b) ∧ M' 152 3 = nI (zsL tb v a b) ∧ M' 152 4 = nI (zoR tb v a b) ∧ M' 152 5 = nI (zoL tb v a b) ∧ M' 152 6 = nI (zoN tb v a b) ∧ zPM M' ∧ ∀ x, ¬ zPx t x → M' x = M x))) 89 [(9, .int (nI (zsL tb v a b))), (8, .int (nI (zsR tb v a b))), (0, .ref 150)] [.int (nI (zsh' (zmR tb v a b) (zmL tb v a b)))] SS M2 L (zRf t) := by
    refine wp_istore (q := 91) (loc' := [(10, _), (9, _), (8, _), (0, _)]) dX4_work_89 (by decide) rfl rfl ?_
    refine wp_bipush (q := 93) dX4_work_91 zq_bipush_100 rfl ?_
    refine wp_iload (q := 95) dX4_work_93 2 rfl rfl ?_
    refine wp_isubN (q := 96) dX4_work_95 (by omega) rfl ?_
    refine wp_bipush (q := 98) dX4_work_96 zq_bipush_100 rfl ?_
    refine wp_iload (q := 100) dX4_work_98 1 rfl rfl ?_
    refine wp_isubN (q := 101) dX4_work_100 (by omega) rfl ?_
    refine wp_imulN (q := 102) dX4_work_101 rfl ?_
    refine wp_istore (q := 104) (loc' := [(11, _), (10, _), (9, _), (8, _), (0, _)]) dX4_work_102 (by decide) rfl rfl ?_
    refine wp_iload (q := 106) dX4_work_104 0 rfl rfl ?_
    refine wp_iload (q := 108) dX4_work_106 1 rfl rfl ?_
    refine wp_imulN (q := 109) dX4_work_108 rfl ?_
    refine wp_bipush (q := 111) dX4_work_109 zq_bipush_100 rfl ?_
    refine wp_idivN (q := 112) dX4_work_111 (by omega) (by omega) (by omega) rfl ?_
    rw [show (100 - zsR tb v a b) * (100 - zsL tb v a b) * zsh' (zmR tb v a b) (zmL tb v a b) / 100 = zrw tb v a b from rfl]
    refine wp_istore (q := 114) (loc' := [(12, _), (11, _), (10, _), (9, _), (8, _), (0, _)]) dX4_work_112 (by decide) rfl rfl ?_
    refine wp_aload_n (q := 115) dX4_work_114 5 rfl rfl ?_
    refine wp_getR (q := 118) dX4_work_115 zf_RX4_15 rfl zsh_150 (zr_150_2 _) rfl ?_
    refine wp_iconst (q := 119) dX4_work_118 zq_iconst_4 rfl ?_
    refine wp_bipush (q := 121) dX4_work_119 zq_bipush_100 rfl ?_
    refine wp_iload (q := 123) dX4_work_121 4 rfl rfl ?_
    refine wp_isubN (q := 124) dX4_work_123 (by omega) rfl ?_
    refine wp_iload (q := 126) dX4_work_124 3 rfl rfl ?_
    refine wp_imulN (q := 127) dX4_work_126 rfl ?_
    refine wp_iload (q := 129) dX4_work_127 0 rfl rfl ?_
    refine wp_iaddN (q := 130) dX4_work_129 rfl ?_
    refine wp_iast (q := 131) _ dX4_work_130 zsh_152 rfl (by omega) (by decide) rfl ?_
    refine wp_aload_n (q := 132) dX4_work_131 5 rfl rfl ?_
    refine wp_getR (q := 135) dX4_work_132 zf_RX4_15 rfl zsh_150 (zr_150_2 _) rfl ?_
    refine wp_iconst (q := 136) dX4_work_135 zq_iconst_5 rfl ?_
    refine wp_iload (q := 138) dX4_work_136 4 rfl rfl ?_
    refine wp_bipush (q := 140) dX4_work_138 zq_bipush_100 rfl ?_
    refine wp_iload (q := 142) dX4_work_140 3 rfl rfl ?_
    refine wp_isubN (q := 143) dX4_work_142 (by omega) rfl ?_
    refine wp_imulN (q := 144) dX4_work_143 rfl ?_
    refine wp_iload (q := 146) dX4_work_144 1 rfl rfl ?_
    refine wp_iaddN (q := 147) dX4_work_146 rfl ?_
    refine wp_iload (q := 149) dX4_work_147 0 rfl rfl ?_
    refine wp_isubN (q := 150) dX4_work_149 (by omega) rfl ?_
    refine wp_iast (q := 151) _ dX4_work_150 zsh_152 rfl (by omega) (by decide) rfl ?_
    refine wp_aload_n (q := 152) dX4_work_151 5 rfl rfl ?_
    refine wp_getR (q := 155) dX4_work_152 zf_RX4_15 rfl zsh_150 (zr_150_2 _) rfl ?_
    refine wp_bipush (q := 157) dX4_work_155 zq_bipush_6 rfl ?_
    refine wp_iload (q := 159) dX4_work_157 4 rfl rfl ?_
    refine wp_iload (q := 161) dX4_work_159 3 rfl rfl ?_
    refine wp_imulN (q := 162) dX4_work_161 rfl ?_
    refine wp_iast (q := 163) _ dX4_work_162 zsh_152 rfl (by omega) (by decide) rfl ?_
    refine wp_return dX4_work_163 rfl ⟨rfl, ⟨rfl, rfl, rfl, ?_, ?_, ?_, ?_, ?_, ?_, ?_, fun k h1 h2 => ?_, fun x hx => ?_⟩⟩ rfl rfl
    · rw [zu_k (by decide), zu_k (by decide), zu_k (by decide), e0]
    · rw [zu_k (by decide), zu_k (by decide), zu_k (by decide), e1]
    · rw [zu_k (by decide), zu_k (by decide), zu_k (by decide), e2]
    · rw [zu_k (by decide), zu_k (by decide), zu_k (by decide), e3]
    · rw [zu_k (by decide), zu_k (by decide), zu_s]; rfl
    · rw [zu_k (by decide), zu_s]; rfl
    · rw [zu_s]; rfl
    · rw [zu_ne (by decide), zu_ne (by decide), zu_ne (by decide), k62 k h1]
      exact h61 k h1 h2
    · have n1 : x ≠ 151 := fun c => hx (Or.inl c)
      have n2 : x ≠ 152 := fun c => hx (Or.inr (Or.inl c))
      have n3 : x ≠ t + 10 := fun c => hx (Or.inr (Or.inr (Or.inl c)))
      have n4 : x ≠ t + 13 := fun c => hx (Or.inr (Or.inr (Or.inr c)))
      rw [zu_ne n2, zu_ne n2, zu_ne n2, hf2 x n1 n2 n3 n4, hf1 x hx]
  refine wp_aload_n (q := 37) dX4_work_36 2 rfl rfl ?_
  refine wp_getR (q := 40) dX4_work_37 zf_RX4_15 rfl zsh_150 (zr_150_2 _) rfl ?_
  refine wp_iconst (q := 41) dX4_work_40 zq_iconst_0 rfl ?_
  refine wp_iald (q := 42) _ dX4_work_41 zsh_152 rfl (by omega) (by decide) rfl ?_
  rw [e0]
  refine wp_istore (q := 44) (loc' := [(6, _), (5, _), (4, _), (0, _), (1, _), (2, _), (3, _)]) dX4_work_42 (by decide) rfl rfl ?_
  refine wp_iload (q := 46) dX4_work_44 0 rfl rfl ?_
  refine wp_aload_n (q := 47) dX4_work_46 3 rfl rfl ?_
  refine wp_getR (q := 50) dX4_work_47 zf_RX4_15 rfl zsh_150 (zr_150_2 _) rfl ?_
  refine wp_iconst (q := 51) dX4_work_50 zq_iconst_1 rfl ?_
  refine wp_iald (q := 52) _ dX4_work_51 zsh_152 rfl (by omega) (by decide) rfl ?_
  rw [e1]
  refine wp_iaddN (q := 53) dX4_work_52 rfl ?_
  refine wp_istore (q := 55) (loc' := [(7, _), (6, _), (5, _), (4, _), (0, _), (1, _), (2, _), (3, _)]) dX4_work_53 (by decide) rfl rfl ?_
  refine wp_aload_n (q := 56) dX4_work_55 4 rfl rfl ?_
  refine wp_getR (q := 59) dX4_work_56 zf_RX4_15 rfl zsh_150 (zr_150_2 _) rfl ?_
  refine wp_iconst (q := 60) dX4_work_59 zq_iconst_2 rfl ?_
  refine wp_iald (q := 61) _ dX4_work_60 zsh_152 rfl (by omega) (by decide) rfl ?_
  rw [e2]
  refine wp_istore (q := 63) (loc' := [(8, _), (7, _), (6, _), (5, _), (4, _), (0, _), (1, _), (2, _), (3, _)]) dX4_work_61 (by decide) rfl rfl ?_
  refine wp_aload_n (q := 64) dX4_work_63 5 rfl rfl ?_
  refine wp_getR (q := 67) dX4_work_64 zf_RX4_15 rfl zsh_150 (zr_150_2 _) rfl ?_
  refine wp_iconst (q := 68) dX4_work_67 zq_iconst_3 rfl ?_
  refine wp_iald (q := 69) _ dX4_work_68 zsh_152 rfl (by omega) (by decide) rfl ?_
  rw [e3]
  refine wp_istore (q := 71) (loc' := [(9, _), (8, _), (7, _), (6, _), (5, _), (4, _), (0, _), (1, _), (2, _), (3, _)]) dX4_work_69 (by decide) rfl rfl ?_
  refine wp_iload (q := 73) dX4_work_71 2 rfl rfl ?_
  refine wp_if_gtN (tgt := 81) (q := 76) dX4_work_73 (by decide) rfl (by omega) (fun h => ?_) (fun h => ?_)
  · skip
    refine wp_bipush (q := 83) dX4_work_81 zq_bipush_100 rfl ?_
    refine wp_iload (q := 85) dX4_work_83 3 rfl rfl ?_
    refine wp_imulN (q := 86) dX4_work_85 rfl ?_
    refine wp_iload (q := 88) dX4_work_86 2 rfl rfl ?_
    refine wp_idivN (q := 89) dX4_work_88 (by omega) (by omega) (by omega) rfl ?_
    refine WP.sub (loc' := [(9, _), (8, _), (0, _)]) [0, 1, 6] rfl ?_
    rw [show 100 * zmR tb v a b / (zmR tb v a b + zmL tb v a b) = zsh' (zmR tb v a b) (zmL tb v a b) by unfold zsh'; rw [if_neg (by omega)]]
    exact tail
  · skip
    refine wp_bipush (q := 78) dX4_work_76 zq_bipush_50 rfl ?_
    refine wp_goto (tgt := 89) dX4_work_78 (by decide) ?_
    refine WP.sub (loc' := [(9, _), (8, _), (0, _)]) [0, 1, 6] rfl ?_
    rw [show (50 : Nat) = zsh' (zmR tb v a b) (zmL tb v a b) by unfold zsh'; rw [if_pos h]]
    exact tail

