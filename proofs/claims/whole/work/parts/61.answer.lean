def zqF (tb : zTb) (v : Nat → Nat) (n s i : Nat) : Nat := if i = 0 then s else if i = 1 then tb.1 (wh v s) 0 else if i = 2 then tb.1 (wh v s) 1 else if i = 3 then ht v s else if i = 4 then (if gr v s 0 = 2 then 1 else 0) + (if gr v s 1 = 2 then 1 else 0) else if i = 5 then s else if i = 6 then (s + n - 1) % n else if i = 7 then (if n < 2 then 0 else zoR tb v s ((s + 1) % n)) else (if n < 2 then 0 else zoL tb v ((s + n - 1) % n) s)
def zFK (M0 M : zMI) (k : Nat) (g : Nat → Nat) : Prop := (∀ i, i < k → M 42 i = nI (g i)) ∧ ∀ x, x ≠ 42 → M x = M0 x
theorem zFK_w {M0 M : zMI} {k e : Nat} {g : Nat → Nat} (h : zFK M0 M k g) (he : g k = e) : zFK M0 (zu M 42 k (nI e)) (k + 1) g := by
  refine ⟨fun i hi => ?_, fun x hx => by rw [zu_ne hx]; exact h.2 x hx⟩
  by_cases c : i = k
  · rw [c, zu_s, he]
  · rw [zu_k c]; exact h.1 i (by omega)
set_option maxHeartbeats 4000000 in
set_option maxRecDepth 100000 in
theorem sp_qlook {d t n s : Nat} {M : zMI} {L : zML} {tb : zTb} {v : Nat → Nat} (hT : zTab t) (hTM : zTM M t n tb) (hv : zV n v) (hr : zSR M 43 n v) (ha : 2 ≤ n → zAll M n tb v) (hs : s < n) : Sy yX5_look YX5_look (d + 1) [.ref 38, .ref 43, .ref 150, .int (nI s)] M L (zRf t) (fun v0 M' L' R' => v0 = none ∧ L = L' ∧ R' = zRf t ∧ zFK M M' 9 (zqF tb v n s)) := by
  refine Sp.of (by decide +kernel) rfl (fun h => by first | exact h | cases h) (Nat.le_of_ble_eq_true rfl) ?_
  intro w G
  obtain ⟨s0, s1, s2, s3, s4, s5, s6, s7, s8, s11⟩ := zTab_s hT
  obtain ⟨r2, r3, r4, r5, r6, r8, r9, r13, r14⟩ := zTab_r (t := t) hT
  have hT2 : t = 10 ∨ t = 24 := hT
  have ho : zSt 43 := Or.inl rfl
  have h8 := hv.1
  have hw := hv.2.1 s hs
  have h99 := hv.2.2.2.1 s hs
  obtain ⟨a1, a2, a3⟩ := hr.2.2.2.2 s hs
  obtain ⟨g0, -⟩ := a3 0 (by decide)
  obtain ⟨g1, -⟩ := a3 1 (by decide)
  have k0 := (hv.2.2.2.2.1 s 0 hs (by decide)).1
  have k1 := (hv.2.2.2.2.1 s 1 hs (by decide)).1
  have p125 : ∀ M5, zFK M M5 5 (zqF tb v n s) → WP w YX5_look (d + 1, SS, 0, 0) G (some (zXp (fun v0 M' L' R' => v0 = none ∧ L = L' ∧ R' = zRf t ∧ zFK M M' 9 (zqF tb v n s)))) 125 [(6, .int (nI (if n < 2 then 0 else 1))), (5, .int (nI (2 * wh v s + 1))), (4, .int (nI (2 * wh v s + 0))), (0, .ref 38), (1, .ref 43), (2, .ref 150), (3, .int (nI s))] [] SS M5 L (zRf t) := by
    intro M5 f5
    refine wp_aload_n (q := 126) dX5_look_125 3 rfl rfl ?_
    refine wp_getR (q := 129) dX5_look_126 zf_RX5_18 rfl zsh_38 (by first | rfl | assumption) rfl ?_
    refine wp_iconst (q := 130) dX5_look_129 zq_iconst_5 rfl ?_
    refine wp_iload_n (q := 131) dX5_look_130 6 rfl rfl ?_
    refine wp_iast (q := 132) _ dX5_look_131 zsh_42 rfl (by omega) (by decide) rfl ?_
    have f6 := zFK_w f5 (e := s) rfl
    refine wp_aload_n (q := 133) dX5_look_132 3 rfl rfl ?_
    refine wp_getR (q := 136) dX5_look_133 zf_RX5_18 rfl zsh_38 (zr_38_3 _) rfl ?_
    refine wp_bipush (q := 138) dX5_look_136 zq_bipush_6 rfl ?_
    refine wp_aload_n (q := 139) dX5_look_138 4 rfl rfl ?_
    refine wp_iload_n (q := 140) dX5_look_139 6 rfl rfl ?_
    generalize zu M5 42 5 (nI s) = M6 at f6 ⊢
    refine wp_cvx (q := 143) (sp_ahead (d := 0) ho (by rw [f6.2 43 (by decide)]; exact hr.1) h8 hs) zm_X7_ahead zl_RX5_147 dX5_look_140 rfl (by omega) (Nat.le_of_ble_eq_true rfl) zsh_43 rfl rfl ?_
    refine wp_iast (q := 144) _ dX5_look_143 zsh_42 rfl (by omega) (by decide) rfl ?_
    have f7 := zFK_w f6 (e := (s + n - 1) % n) rfl
    generalize zu M6 42 6 (nI ((s + n - 1) % n)) = M7 at f7 ⊢
    by_cases c : n < 2
    · rw [if_pos c]
      refine wp_aload_n (q := 145) dX5_look_144 3 rfl rfl ?_
      refine wp_getR (q := 148) dX5_look_145 zf_RX5_18 rfl zsh_38 (by first | rfl | assumption) rfl ?_
      refine wp_bipush (q := 150) dX5_look_148 zq_bipush_7 rfl ?_
      refine wp_iload (q := 152) dX5_look_150 0 rfl rfl ?_
      refine wp_if_eqN (tgt := 164) (q := 155) dX5_look_152 (by decide) rfl (by omega) (fun _ => ?_) (fun hn => absurd hn (by omega))
      refine wp_iconst (q := 165) dX5_look_164 zq_iconst_0 rfl ?_
      refine wp_iast (q := 166) _ dX5_look_165 zsh_42 rfl (by omega) (by decide) rfl ?_
      have f8 := zFK_w f7 (e := 0) (by unfold zqF; simp [c])
      refine wp_aload_n (q := 167) dX5_look_166 3 rfl rfl ?_
      refine wp_getR (q := 170) dX5_look_167 zf_RX5_18 rfl zsh_38 (by first | rfl | assumption) rfl ?_
      refine wp_bipush (q := 172) dX5_look_170 zq_bipush_8 rfl ?_
      refine wp_iload (q := 174) dX5_look_172 0 rfl rfl ?_
      refine wp_if_eqN (tgt := 190) (q := 177) dX5_look_174 (by decide) rfl (by omega) (fun _ => ?_) (fun hn => absurd hn (by omega))
      refine wp_iconst (q := 191) dX5_look_190 zq_iconst_0 rfl ?_
      refine wp_iast (q := 192) _ dX5_look_191 zsh_42 rfl (by omega) (by decide) rfl ?_
      have f9 := zFK_w f8 (e := 0) (by unfold zqF; simp [c])
      exact wp_return dX5_look_192 rfl ⟨rfl, ⟨rfl, rfl, rfl, f9⟩⟩ rfl rfl
    · rw [if_neg c]
      obtain ⟨o1, o2, -⟩ := ha (by omega) s hs
      have hc : (s + n - 1) % n < n := Nat.mod_lt _ (by omega)
      obtain ⟨-, o3, -⟩ := ha (by omega) _ hc
      rw [zmod2 hs] at o3
      refine wp_aload_n (q := 145) dX5_look_144 3 rfl rfl ?_
      refine wp_getR (q := 148) dX5_look_145 zf_RX5_18 rfl zsh_38 (by first | rfl | assumption) rfl ?_
      refine wp_bipush (q := 150) dX5_look_148 zq_bipush_7 rfl ?_
      refine wp_iload (q := 152) dX5_look_150 0 rfl rfl ?_
      refine wp_if_eqN (tgt := 164) (q := 155) dX5_look_152 (by decide) rfl (by omega) (fun hn => absurd hn (by omega)) (fun _ => ?_)
      refine wp_aload_n (q := 156) dX5_look_155 5 rfl rfl ?_
      refine wp_getR (q := 159) dX5_look_156 zf_RX5_151 rfl zsh_150 (by first | rfl | assumption) rfl ?_
      refine wp_iload_n (q := 160) dX5_look_159 6 rfl rfl ?_
      refine wp_iald (q := 161) _ dX5_look_160 zsh_153 rfl (by omega) (by decide) rfl ?_
      rw [f7.2 153 (by decide), o1]
      refine wp_goto (tgt := 165) dX5_look_161 (by decide) ?_
      refine wp_iast (q := 166) _ dX5_look_165 zsh_42 rfl (by omega) (by decide) rfl ?_
      have f8 := zFK_w f7 (e := zoR tb v s ((s + 1) % n)) (by unfold zqF; simp [c])
      generalize zu M7 42 7 (nI (zoR tb v s ((s + 1) % n))) = M8 at f8 ⊢
      refine wp_aload_n (q := 167) dX5_look_166 3 rfl rfl ?_
      refine wp_getR (q := 170) dX5_look_167 zf_RX5_18 rfl zsh_38 (by first | rfl | assumption) rfl ?_
      refine wp_bipush (q := 172) dX5_look_170 zq_bipush_8 rfl ?_
      refine wp_iload (q := 174) dX5_look_172 0 rfl rfl ?_
      refine wp_if_eqN (tgt := 190) (q := 177) dX5_look_174 (by decide) rfl (by omega) (fun hn => absurd hn (by omega)) (fun _ => ?_)
      refine wp_aload_n (q := 178) dX5_look_177 5 rfl rfl ?_
      refine wp_getR (q := 181) dX5_look_178 zf_RX5_154 rfl zsh_150 (by first | rfl | assumption) rfl ?_
      refine wp_aload_n (q := 182) dX5_look_181 4 rfl rfl ?_
      refine wp_iload_n (q := 183) dX5_look_182 6 rfl rfl ?_
      refine wp_cvx (q := 186) (sp_ahead (d := 0) ho (by rw [f8.2 43 (by decide)]; exact hr.1) h8 hs) zm_X7_ahead zl_RX5_147 dX5_look_183 rfl (by omega) (Nat.le_of_ble_eq_true rfl) zsh_43 rfl rfl ?_
      refine wp_iald (q := 187) _ dX5_look_186 zsh_154 rfl (by omega) (by decide) rfl ?_
      rw [f8.2 154 (by decide), o3]
      refine wp_goto (tgt := 191) dX5_look_187 (by decide) ?_
      refine wp_iast (q := 192) _ dX5_look_191 zsh_42 rfl (by omega) (by decide) rfl ?_
      have f9 := zFK_w f8 (e := zoL tb v ((s + n - 1) % n) s) (by unfold zqF; simp [c])
      exact wp_return dX5_look_192 rfl ⟨rfl, ⟨rfl, rfl, rfl, f9⟩⟩ rfl rfl
  have p107 : ∀ M4, zFK M M4 4 (zqF tb v n s) → ∀ e, e = (if gr v s 0 = 2 then 1 else 0) → WP w YX5_look (d + 1, SS, 0, 0) G (some (zXp (fun v0 M' L' R' => v0 = none ∧ L = L' ∧ R' = zRf t ∧ zFK M M' 9 (zqF tb v n s)))) 107 [(6, .int (nI (if n < 2 then 0 else 1))), (5, .int (nI (2 * wh v s + 1))), (4, .int (nI (2 * wh v s + 0))), (0, .ref 38), (1, .ref 43), (2, .ref 150), (3, .int (nI s))] [.int (nI e), .int (nI 4), .ref 42] SS M4 L (zRf t) := by
    intro M4 f4 e he
    refine wp_aload_n (q := 108) dX5_look_107 4 rfl rfl ?_
    refine wp_getR (q := 111) dX5_look_108 zf_RX5_144 rfl zsh_43 (by first | rfl | assumption) rfl ?_
    refine wp_iload (q := 113) dX5_look_111 1 rfl rfl ?_
    refine wp_iald (q := 114) _ dX5_look_113 zsh_46 rfl (by omega) (by decide) rfl ?_
    rw [f4.2 46 (by decide), g1]
    refine wp_iconst (q := 115) dX5_look_114 zq_iconst_2 rfl ?_
    refine wp_icmp_neN (tgt := 122) (q := 118) dX5_look_115 (by decide) rfl (by omega) (by omega) (fun c2 => ?_) (fun c2 => ?_)
    · skip
      refine wp_iconst (q := 123) dX5_look_122 zq_iconst_0 rfl ?_
      refine wp_iaddN (q := 124) dX5_look_123 rfl ?_
      refine wp_iast (q := 125) _ dX5_look_124 zsh_42 rfl (by omega) (by decide) rfl ?_
      refine WP.sub (loc' := [(6, _), (5, _), (4, _), (0, _), (1, _), (2, _), (3, _)]) [0, 1, 2, 3, 4, 5, 6] rfl ?_
      exact p125 _ (zFK_w f4 (e := e + 0) (by unfold zqF; rw [he, if_neg (by decide), if_neg (by decide), if_neg (by decide), if_neg (by decide), if_pos rfl, if_neg c2]))
    · skip
      refine wp_iconst (q := 119) dX5_look_118 zq_iconst_1 rfl ?_
      refine wp_goto (tgt := 123) dX5_look_119 (by decide) ?_
      refine wp_iaddN (q := 124) dX5_look_123 rfl ?_
      refine wp_iast (q := 125) _ dX5_look_124 zsh_42 rfl (by omega) (by decide) rfl ?_
      refine WP.sub (loc' := [(6, _), (5, _), (4, _), (0, _), (1, _), (2, _), (3, _)]) [0, 1, 2, 3, 4, 5, 6] rfl ?_
      exact p125 _ (zFK_w f4 (e := e + 1) (by unfold zqF; rw [he, if_neg (by decide), if_neg (by decide), if_neg (by decide), if_neg (by decide), if_pos rfl, if_pos c2]))
  have rest : ∀ e, e = (if n < 2 then 0 else 1) → WP w YX5_look (d + 1, SS, 0, 0) G (some (zXp (fun v0 M' L' R' => v0 = none ∧ L = L' ∧ R' = zRf t ∧ zFK M M' 9 (zqF tb v n s)))) 28 [(5, .int (nI (2 * wh v s + 1))), (4, .int (nI (2 * wh v s + 0))), (0, .ref 38), (1, .ref 43), (2, .ref 150), (3, .int (nI s))] [.int (nI e)] SS M L (zRf t) := by
    intro e he
    refine wp_istore (q := 30) (loc' := [(6, _), (5, _), (4, _), (0, _), (1, _), (2, _), (3, _)]) dX5_look_28 (by decide) rfl rfl ?_
    refine wp_aload_n (q := 31) dX5_look_30 3 rfl rfl ?_
    refine wp_getR (q := 34) dX5_look_31 zf_RX5_18 rfl zsh_38 (by first | rfl | assumption) rfl ?_
    refine wp_iconst (q := 35) dX5_look_34 zq_iconst_0 rfl ?_
    refine wp_iload_n (q := 36) dX5_look_35 6 rfl rfl ?_
    refine wp_iast (q := 37) _ dX5_look_36 zsh_42 rfl (by omega) (by decide) rfl ?_
    have f1 : zFK M (zu M 42 0 (nI s)) 1 (zqF tb v n s) := zFK_w (k := 0) ⟨fun i hi => absurd hi (Nat.not_lt_zero _), fun x _ => rfl⟩ rfl
    generalize zu M 42 0 (nI s) = M1 at f1 ⊢
    refine wp_aload_n (q := 38) dX5_look_37 3 rfl rfl ?_
    refine wp_getR (q := 41) dX5_look_38 zf_RX5_18 rfl zsh_38 (by first | rfl | assumption) rfl ?_
    refine wp_iconst (q := 42) dX5_look_41 zq_iconst_1 rfl ?_
    refine wp_aload_n (q := 43) dX5_look_42 5 rfl rfl ?_
    refine wp_getR (q := 46) dX5_look_43 zf_RX5_127 rfl zsh_150 (by first | rfl | assumption) rfl ?_
    refine wp_getR (q := 49) dX5_look_46 zf_RX5_133 rfl (by first | assumption | rfl) (by first | assumption | rfl) rfl ?_
    refine wp_iload (q := 51) dX5_look_49 2 rfl rfl ?_
    refine wp_iald (q := 52) _ dX5_look_51 (by first | assumption | rfl) rfl (by omega) (by decide) rfl ?_
    rw [f1.2 (t + 2) (by omega), (hTM.1 (wh v s) 0 hw (by decide)).1]
    refine wp_iast (q := 53) _ dX5_look_52 zsh_42 rfl (by omega) (by decide) rfl ?_
    have f2 := zFK_w f1 (e := tb.1 (wh v s) 0) rfl
    generalize zu M1 42 1 (nI (tb.1 (wh v s) 0)) = M2 at f2 ⊢
    refine wp_aload_n (q := 54) dX5_look_53 3 rfl rfl ?_
    refine wp_getR (q := 57) dX5_look_54 zf_RX5_18 rfl zsh_38 (by first | rfl | assumption) rfl ?_
    refine wp_iconst (q := 58) dX5_look_57 zq_iconst_2 rfl ?_
    refine wp_aload_n (q := 59) dX5_look_58 5 rfl rfl ?_
    refine wp_getR (q := 62) dX5_look_59 zf_RX5_127 rfl zsh_150 (by first | rfl | assumption) rfl ?_
    refine wp_getR (q := 65) dX5_look_62 zf_RX5_133 rfl (by first | assumption | rfl) (by first | assumption | rfl) rfl ?_
    refine wp_iload (q := 67) dX5_look_65 1 rfl rfl ?_
    refine wp_iald (q := 68) _ dX5_look_67 (by first | assumption | rfl) rfl (by omega) (by decide) rfl ?_
    rw [f2.2 (t + 2) (by omega), (hTM.1 (wh v s) 1 hw (by decide)).1]
    refine wp_iast (q := 69) _ dX5_look_68 zsh_42 rfl (by omega) (by decide) rfl ?_
    have f3 := zFK_w f2 (e := tb.1 (wh v s) 1) rfl
    generalize zu M2 42 2 (nI (tb.1 (wh v s) 1)) = M3 at f3 ⊢
    refine wp_aload_n (q := 70) dX5_look_69 3 rfl rfl ?_
    refine wp_getR (q := 73) dX5_look_70 zf_RX5_18 rfl zsh_38 (by first | rfl | assumption) rfl ?_
    refine wp_iconst (q := 74) dX5_look_73 zq_iconst_3 rfl ?_
    refine wp_aload_n (q := 75) dX5_look_74 4 rfl rfl ?_
    refine wp_getR (q := 78) dX5_look_75 zf_RX5_138 rfl zsh_43 (by first | rfl | assumption) rfl ?_
    refine wp_aload_n (q := 79) dX5_look_78 4 rfl rfl ?_
    refine wp_getR (q := 82) dX5_look_79 zf_RX5_141 rfl zsh_43 (by first | rfl | assumption) rfl ?_
    refine wp_iload_n (q := 83) dX5_look_82 6 rfl rfl ?_
    refine wp_iald (q := 84) _ dX5_look_83 zsh_44 rfl (by omega) (by decide) rfl ?_
    rw [f3.2 44 (by decide), a1]
    refine wp_iald (q := 85) _ dX5_look_84 zsh_45 rfl (by omega) (by decide) rfl ?_
    rw [f3.2 45 (by decide), a2]
    refine wp_iast (q := 86) _ dX5_look_85 zsh_42 rfl (by omega) (by decide) rfl ?_
    have f4 := zFK_w f3 (e := ht v s) rfl
    generalize zu M3 42 3 (nI (ht v s)) = M4 at f4 ⊢
    refine wp_aload_n (q := 87) dX5_look_86 3 rfl rfl ?_
    refine wp_getR (q := 90) dX5_look_87 zf_RX5_18 rfl zsh_38 (by first | rfl | assumption) rfl ?_
    refine wp_iconst (q := 91) dX5_look_90 zq_iconst_4 rfl ?_
    refine wp_aload_n (q := 92) dX5_look_91 4 rfl rfl ?_
    refine wp_getR (q := 95) dX5_look_92 zf_RX5_144 rfl zsh_43 (by first | rfl | assumption) rfl ?_
    refine wp_iload (q := 97) dX5_look_95 2 rfl rfl ?_
    refine wp_iald (q := 98) _ dX5_look_97 zsh_46 rfl (by omega) (by decide) rfl ?_
    rw [f4.2 46 (by decide), g0]
    refine wp_iconst (q := 99) dX5_look_98 zq_iconst_2 rfl ?_
    rw [he]
    refine wp_icmp_neN (tgt := 106) (q := 102) dX5_look_99 (by decide) rfl (by omega) (by omega) (fun c2 => ?_) (fun c2 => ?_)
    · skip
      refine wp_iconst (q := 107) dX5_look_106 zq_iconst_0 rfl ?_
      refine WP.sub (loc' := [(6, _), (5, _), (4, _), (0, _), (1, _), (2, _), (3, _)]) [0, 1, 2, 3, 4, 5, 6] rfl ?_
      exact p107 M4 f4 0 (by rw [if_neg c2])
    · skip
      refine wp_iconst (q := 103) dX5_look_102 zq_iconst_1 rfl ?_
      refine wp_goto (tgt := 107) dX5_look_103 (by decide) ?_
      refine WP.sub (loc' := [(6, _), (5, _), (4, _), (0, _), (1, _), (2, _), (3, _)]) [0, 1, 2, 3, 4, 5, 6] rfl ?_
      exact p107 M4 f4 1 (by rw [if_pos c2])
  refine wp_aload_n (q := 1) dX5_look_0 1 rfl rfl ?_
  refine wp_iload_n (q := 2) dX5_look_1 3 rfl rfl ?_
  refine wp_iconst (q := 3) dX5_look_2 zq_iconst_0 rfl ?_
  refine wp_cvx (q := 6) (sp_handOf (d := 0) ho hv hr hs (by decide : 0 < 2)) zm_X7_handOf zl_RX5_120 dX5_look_3 rfl (by omega) (Nat.le_of_ble_eq_true rfl) zsh_43 rfl rfl ?_
  refine wp_istore (q := 8) (loc' := [(4, _), (0, _), (1, _), (2, _), (3, _)]) dX5_look_6 (by decide) rfl rfl ?_
  refine wp_aload_n (q := 9) dX5_look_8 2 rfl rfl ?_
  refine wp_iload_n (q := 10) dX5_look_9 4 rfl rfl ?_
  refine wp_iconst (q := 11) dX5_look_10 zq_iconst_1 rfl ?_
  refine wp_cvx (q := 14) (sp_handOf (d := 0) ho hv hr hs (by decide : 1 < 2)) zm_X7_handOf zl_RX5_120 dX5_look_11 rfl (by omega) (Nat.le_of_ble_eq_true rfl) zsh_43 rfl rfl ?_
  refine wp_istore (q := 16) (loc' := [(5, _), (4, _), (0, _), (1, _), (2, _), (3, _)]) dX5_look_14 (by decide) rfl rfl ?_
  refine wp_aload_n (q := 17) dX5_look_16 3 rfl rfl ?_
  refine wp_cvx (q := 20) (sp_crackers (d := 0) ho hr.1 h8) zm_X7_crackers zl_RX5_123 dX5_look_17 rfl (by omega) (Nat.le_of_ble_eq_true rfl) zsh_43 rfl rfl ?_
  by_cases c : n < 2
  · rw [if_pos c]
    refine wp_if_leN (tgt := 27) (q := 23) dX5_look_20 (by decide) rfl (by omega) (fun _ => ?_) (fun hn => absurd hn (by omega))
    refine wp_iconst (q := 28) dX5_look_27 zq_iconst_0 rfl ?_
    refine WP.sub (loc' := [(5, _), (4, _), (0, _), (1, _), (2, _), (3, _)]) [0, 1, 2, 3, 4, 5] rfl ?_
    exact rest 0 (if_pos c).symm
  · rw [if_neg c]
    refine wp_if_leN (tgt := 27) (q := 23) dX5_look_20 (by decide) rfl (by omega) (fun hn => absurd hn (by omega)) (fun _ => ?_)
    refine wp_iconst (q := 24) dX5_look_23 zq_iconst_1 rfl ?_
    refine wp_goto (tgt := 28) dX5_look_24 (by decide) ?_
    refine WP.sub (loc' := [(5, _), (4, _), (0, _), (1, _), (2, _), (3, _)]) [0, 1, 2, 3, 4, 5] rfl ?_
    exact rest 1 (if_neg c).symm

