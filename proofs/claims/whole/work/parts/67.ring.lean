def zhas (n : Nat) (g : zGd) (v : Nat → Nat) (c w : Nat) : Nat := if w = 0 then n else if w = 1 then (if n < 2 then 0 else n) else if w = 2 then g.2.1 else if w = 3 then g.2.2.2.2.1 else if w = 4 then v 0 else if w = 5 then v 1 else if w = 6 then v 2 else if w = 7 then nS (ht v) n else if w = 8 then znz v n else c
set_option maxHeartbeats 4000000 in
set_option maxRecDepth 100000 in
theorem sp_has {d t n w0 : Nat} {M : zMI} {L : zML} {g : zGd} {v : Nat → Nat} {hs : List (Nat → Nat)} {m : zMs} (h : zCI M L t n g v hs m) (hw0 : w0 < 10) : Sy yX11_has YX11_has (d + 1) [.ref 0, .int (nI w0)] M L (zRf t) (zAn M L t n g v hs m (.int (nI (zhas n g v hs.length w0)))) := by
  refine Sp.of (by decide +kernel) rfl (fun h => by first | exact h | cases h) (Nat.le_of_ble_eq_true rfl) ?_
  intro w G
  obtain ⟨s0, s1, s2, s3, s4, s5, s6, s7, s8, s11⟩ := zTab_s h.1
  obtain ⟨r2, r3, r4, r5, r6, r8, r9, r13, r14⟩ := zTab_r (t := t) h.1
  obtain ⟨c1, c2, c3, c4, c5, c6, c7, c8, c9⟩ := zCI_ct h
  have hv := zCI_hv h
  have hr := zCI_sr h
  have ho : zSt 43 := Or.inl rfl
  obtain ⟨nx, hh⟩ := h.2.2.2.2.1
  refine wp_iload_n (q := 1) dX11_has_0 1 rfl rfl ?_
  have hc : w0 = 0 ∨ w0 = 1 ∨ w0 = 2 ∨ w0 = 3 ∨ w0 = 4 ∨ w0 = 5 ∨ w0 = 6 ∨ w0 = 7 ∨ w0 = 8 ∨ w0 = 9 := by omega
  rcases hc with rfl | rfl | rfl | rfl | rfl | rfl | rfl | rfl | rfl | rfl
  · skip
    refine wp_tsIn (tgt := 56) (off := 55) dX11_has_1 (by decide) (by decide) (by rfl) (by decide) ?_
    refine wp_aload_n (q := 57) dX11_has_56 0 rfl rfl ?_
    refine wp_getR (q := 60) dX11_has_57 zf_RX11_55 rfl zsh_0 (by first | rfl | assumption) rfl ?_
    refine wp_getI (q := 63) dX11_has_60 zf_RX11_165 rfl zsh_43 rfl ?_
    rw [hr.1]
    exact wp_ireturn dX11_has_63 rfl ⟨rfl, ⟨rfl, rfl, h, zXf_r⟩⟩ rfl rfl
  · skip
    refine wp_tsIn (tgt := 64) (off := 63) dX11_has_1 (by decide) (by decide) (by rfl) (by decide) ?_
    refine wp_aload_n (q := 65) dX11_has_64 0 rfl rfl ?_
    refine wp_getR (q := 68) dX11_has_65 zf_RX11_55 rfl zsh_0 (by first | rfl | assumption) rfl ?_
    refine wp_cvx (q := 71) (sp_crackers (d := 0) ho hr.1 hv.1) zm_X7_crackers zl_RX11_168 dX11_has_68 rfl (by omega) (Nat.le_of_ble_eq_true rfl) zsh_43 rfl rfl ?_
    exact wp_ireturn dX11_has_71 rfl ⟨rfl, ⟨rfl, rfl, h, zXf_r⟩⟩ rfl rfl
  · skip
    refine wp_tsIn (tgt := 72) (off := 71) dX11_has_1 (by decide) (by decide) (by rfl) (by decide) ?_
    refine wp_aload_n (q := 73) dX11_has_72 0 rfl rfl ?_
    refine wp_getR (q := 76) dX11_has_73 zf_RX11_36 rfl zsh_0 (by first | rfl | assumption) rfl ?_
    refine wp_getI (q := 79) dX11_has_76 zf_RX11_172 rfl (by first | assumption | rfl) rfl ?_
    rw [c3]
    exact wp_ireturn dX11_has_79 rfl ⟨rfl, ⟨rfl, rfl, h, zXf_r⟩⟩ rfl rfl
  · skip
    refine wp_tsIn (tgt := 80) (off := 79) dX11_has_1 (by decide) (by decide) (by rfl) (by decide) ?_
    refine wp_aload_n (q := 81) dX11_has_80 0 rfl rfl ?_
    refine wp_getR (q := 84) dX11_has_81 zf_RX11_36 rfl zsh_0 (by first | rfl | assumption) rfl ?_
    refine wp_getI (q := 87) dX11_has_84 zf_RX11_175 rfl (by first | assumption | rfl) rfl ?_
    rw [c7]
    exact wp_ireturn dX11_has_87 rfl ⟨rfl, ⟨rfl, rfl, h, zXf_r⟩⟩ rfl rfl
  · skip
    refine wp_tsIn (tgt := 88) (off := 87) dX11_has_1 (by decide) (by decide) (by rfl) (by decide) ?_
    refine wp_aload_n (q := 89) dX11_has_88 0 rfl rfl ?_
    refine wp_getR (q := 92) dX11_has_89 zf_RX11_55 rfl zsh_0 (by first | rfl | assumption) rfl ?_
    refine wp_getI (q := 95) dX11_has_92 zf_RX11_178 rfl zsh_43 rfl ?_
    rw [hr.2.1]
    exact wp_ireturn dX11_has_95 rfl ⟨rfl, ⟨rfl, rfl, h, zXf_r⟩⟩ rfl rfl
  · skip
    refine wp_tsIn (tgt := 96) (off := 95) dX11_has_1 (by decide) (by decide) (by rfl) (by decide) ?_
    refine wp_aload_n (q := 97) dX11_has_96 0 rfl rfl ?_
    refine wp_getR (q := 100) dX11_has_97 zf_RX11_55 rfl zsh_0 (by first | rfl | assumption) rfl ?_
    refine wp_getI (q := 103) dX11_has_100 zf_RX11_181 rfl zsh_43 rfl ?_
    rw [hr.2.2.1]
    exact wp_ireturn dX11_has_103 rfl ⟨rfl, ⟨rfl, rfl, h, zXf_r⟩⟩ rfl rfl
  · skip
    refine wp_tsIn (tgt := 104) (off := 103) dX11_has_1 (by decide) (by decide) (by rfl) (by decide) ?_
    refine wp_aload_n (q := 105) dX11_has_104 0 rfl rfl ?_
    refine wp_getR (q := 108) dX11_has_105 zf_RX11_55 rfl zsh_0 (by first | rfl | assumption) rfl ?_
    refine wp_getI (q := 111) dX11_has_108 zf_RX11_184 rfl zsh_43 rfl ?_
    rw [hr.2.2.2.1]
    exact wp_ireturn dX11_has_111 rfl ⟨rfl, ⟨rfl, rfl, h, zXf_r⟩⟩ rfl rfl
  · skip
    refine wp_tsIn (tgt := 112) (off := 111) dX11_has_1 (by decide) (by decide) (by rfl) (by decide) ?_
    refine wp_aload_n (q := 113) dX11_has_112 0 rfl rfl ?_
    refine wp_getR (q := 116) dX11_has_113 zf_RX11_55 rfl zsh_0 (by first | rfl | assumption) rfl ?_
    refine wp_cvx (q := 119) (sp_allHats (d := 0) ho hv hr) zm_X7_allHats zl_RX11_187 dX11_has_116 rfl (by omega) (Nat.le_of_ble_eq_true rfl) zsh_43 rfl rfl ?_
    exact wp_ireturn dX11_has_119 rfl ⟨rfl, ⟨rfl, rfl, h, zXf_r⟩⟩ rfl rfl
  · skip
    refine wp_tsIn (tgt := 120) (off := 119) dX11_has_1 (by decide) (by decide) (by rfl) (by decide) ?_
    refine wp_aload_n (q := 121) dX11_has_120 0 rfl rfl ?_
    refine wp_getR (q := 124) dX11_has_121 zf_RX11_55 rfl zsh_0 (by first | rfl | assumption) rfl ?_
    refine wp_cvx (q := 127) (sp_hatlessV (d := 0) ho hv hr) zm_X7_hatless zl_RX11_190 dX11_has_124 rfl (by omega) (Nat.le_of_ble_eq_true rfl) zsh_43 rfl rfl ?_
    exact wp_ireturn dX11_has_127 rfl ⟨rfl, ⟨rfl, rfl, h, zXf_r⟩⟩ rfl rfl
  · skip
    refine wp_tsIn (tgt := 128) (off := 127) dX11_has_1 (by decide) (by decide) (by rfl) (by decide) ?_
    refine wp_aload_n (q := 129) dX11_has_128 0 rfl rfl ?_
    refine wp_getR (q := 132) dX11_has_129 zf_RX11_62 rfl zsh_0 (by first | rfl | assumption) rfl ?_
    refine wp_getI (q := 135) dX11_has_132 zf_RX11_193 rfl zsh_48 rfl ?_
    rw [hh.2.2.2.1]
    exact wp_ireturn dX11_has_135 rfl ⟨rfl, ⟨rfl, rfl, h, zXf_r⟩⟩ rfl rfl
set_option maxHeartbeats 4000000 in
set_option maxRecDepth 100000 in
theorem sp_hasN {d t n : Nat} {x : Int32} {M : zMI} {L : zML} {g : zGd} {v : Nat → Nat} {hs : List (Nat → Nat)} {m : zMs} (h : zCI M L t n g v hs m) (hx : ¬ zin x 10) : Sy yX11_has YX11_has (d + 1) [.ref 0, .int x] M L (zRf t) (zAn M L t n g v hs m (.int (-1))) := by
  refine Sp.of (by decide +kernel) rfl (fun h => by first | exact h | cases h) (Nat.le_of_ble_eq_true rfl) ?_
  intro w G
  have ht := zin_t (by decide) hx
  refine wp_iload_n (q := 1) dX11_has_0 1 rfl rfl ?_
  refine wp_tsOut (tgt := 136) dX11_has_1 (by omega) (by decide) ?_
  refine wp_iconst (q := 137) dX11_has_136 zq_iconst_m1 rfl ?_
  exact wp_ireturn dX11_has_137 rfl ⟨rfl, ⟨rfl, rfl, h, zXf_r⟩⟩ rfl rfl
def zset (tb : zTb) (v : Nat → Nat) (s w : Nat) : Nat := if w = 0 then wh v s else if w = 1 then ht v s else if w = 2 then tb.1 (wh v s) 0 else if w = 3 then tb.1 (wh v s) 1 else if w = 4 then gr v s 0 else if w = 5 then gr v s 1 else if w = 6 then lw v s 0 else lw v s 1
set_option maxHeartbeats 4000000 in
set_option maxRecDepth 100000 in
theorem sp_seat {d t n s w0 : Nat} {M : zMI} {L : zML} {g : zGd} {v : Nat → Nat} {hs : List (Nat → Nat)} {m : zMs} (h : zCI M L t n g v hs m) (hs0 : s < n) (hw0 : w0 < 8) : Sy yX11_seat YX11_seat (d + 1) [.ref 0, .int (nI s), .int (nI w0)] M L (zRf t) (zAn M L t n g v hs m (.int (nI (zset g.2.2.2.2.2 v s w0)))) := by
  refine Sp.of (by decide +kernel) rfl (fun h => by first | exact h | cases h) (Nat.le_of_ble_eq_true rfl) ?_
  intro w G
  obtain ⟨s0, s1, s2, s3, s4, s5, s6, s7, s8, s11⟩ := zTab_s h.1
  obtain ⟨r2, r3, r4, r5, r6, r8, r9, r13, r14⟩ := zTab_r (t := t) h.1
  have hv := zCI_hv h
  have hr := zCI_sr h
  have h8 := hv.1
  have ho : zSt 43 := Or.inl rfl
  have hTM := zCI_tm h
  have hw := hv.2.1 s hs0
  obtain ⟨a1, a2, a3⟩ := hr.2.2.2.2 s hs0
  obtain ⟨g0, l0⟩ := a3 0 (by decide)
  obtain ⟨g1, l1⟩ := a3 1 (by decide)
  have b0 := (hTM.1 (wh v s) 0 hw (by decide)).1
  have b1 := (hTM.1 (wh v s) 1 hw (by decide)).1
  refine wp_aload_n (q := 1) dX11_seat_0 0 rfl rfl ?_
  refine wp_iload_n (q := 2) dX11_seat_1 1 rfl rfl ?_
  refine wp_cvx (q := 5) (sp_isSeat (d := 0) hr.1 h8) zm_X11_isSeat zl_RX11_196 dX11_seat_2 rfl (by omega) (Nat.le_of_ble_eq_true rfl) zsh_0 rfl rfl ?_
  rw [if_pos (zin_i hs0 (by omega))]
  refine wp_if_neN (tgt := 10) (q := 8) dX11_seat_5 (by decide) rfl (by omega) (fun _ => ?_) (fun hn => absurd hn (by first | omega | exact fun h => h | exact fun h => h trivial))
  refine wp_aload_n (q := 11) dX11_seat_10 0 rfl rfl ?_
  refine wp_getR (q := 14) dX11_seat_11 zf_RX11_55 rfl zsh_0 (zr_0_7 _) rfl ?_
  refine wp_iload_n (q := 15) dX11_seat_14 1 rfl rfl ?_
  refine wp_iconst (q := 16) dX11_seat_15 zq_iconst_0 rfl ?_
  refine wp_cvx (q := 19) (sp_handOf (d := 0) ho hv hr hs0 (by decide : 0 < 2)) zm_X7_handOf zl_RX11_215 dX11_seat_16 rfl (by omega) (Nat.le_of_ble_eq_true rfl) zsh_43 rfl rfl ?_
  refine wp_istore_n (q := 20) (loc' := [(3, _), (0, _), (1, _), (2, _)]) dX11_seat_19 rfl (by decide) rfl rfl ?_
  refine wp_aload_n (q := 21) dX11_seat_20 1 rfl rfl ?_
  refine wp_getR (q := 24) dX11_seat_21 zf_RX11_55 rfl zsh_0 (zr_0_7 _) rfl ?_
  refine wp_iload_n (q := 25) dX11_seat_24 2 rfl rfl ?_
  refine wp_iconst (q := 26) dX11_seat_25 zq_iconst_1 rfl ?_
  refine wp_cvx (q := 29) (sp_handOf (d := 0) ho hv hr hs0 (by decide : 1 < 2)) zm_X7_handOf zl_RX11_215 dX11_seat_26 rfl (by omega) (Nat.le_of_ble_eq_true rfl) zsh_43 rfl rfl ?_
  refine wp_istore (q := 31) (loc' := [(4, _), (3, _), (0, _), (1, _), (2, _)]) dX11_seat_29 (by decide) rfl rfl ?_
  refine wp_iload_n (q := 32) dX11_seat_31 4 rfl rfl ?_
  have hc : w0 = 0 ∨ w0 = 1 ∨ w0 = 2 ∨ w0 = 3 ∨ w0 = 4 ∨ w0 = 5 ∨ w0 = 6 ∨ w0 = 7 := by omega
  rcases hc with rfl | rfl | rfl | rfl | rfl | rfl | rfl | rfl
  · skip
    refine wp_tsIn (tgt := 80) (off := 48) dX11_seat_32 (by decide) (by decide) (by rfl) (by decide) ?_
    refine wp_aload_n (q := 81) dX11_seat_80 2 rfl rfl ?_
    refine wp_getR (q := 84) dX11_seat_81 zf_RX11_55 rfl zsh_0 (by first | rfl | assumption) rfl ?_
    refine wp_getR (q := 87) dX11_seat_84 zf_RX11_202 rfl zsh_43 (by first | rfl | assumption) rfl ?_
    refine wp_iload_n (q := 88) dX11_seat_87 3 rfl rfl ?_
    refine wp_iald (q := 89) _ dX11_seat_88 zsh_44 rfl (by omega) (by decide) rfl ?_
    rw [a1]
    exact wp_ireturn dX11_seat_89 rfl ⟨rfl, ⟨rfl, rfl, h, zXf_r⟩⟩ rfl rfl
  · skip
    refine wp_tsIn (tgt := 90) (off := 58) dX11_seat_32 (by decide) (by decide) (by rfl) (by decide) ?_
    refine wp_aload_n (q := 91) dX11_seat_90 2 rfl rfl ?_
    refine wp_getR (q := 94) dX11_seat_91 zf_RX11_55 rfl zsh_0 (by first | rfl | assumption) rfl ?_
    refine wp_getR (q := 97) dX11_seat_94 zf_RX11_218 rfl zsh_43 (by first | rfl | assumption) rfl ?_
    refine wp_aload_n (q := 98) dX11_seat_97 2 rfl rfl ?_
    refine wp_getR (q := 101) dX11_seat_98 zf_RX11_55 rfl zsh_0 (by first | rfl | assumption) rfl ?_
    refine wp_getR (q := 104) dX11_seat_101 zf_RX11_202 rfl zsh_43 (by first | rfl | assumption) rfl ?_
    refine wp_iload_n (q := 105) dX11_seat_104 3 rfl rfl ?_
    refine wp_iald (q := 106) _ dX11_seat_105 zsh_44 rfl (by omega) (by decide) rfl ?_
    rw [a1]
    refine wp_iald (q := 107) _ dX11_seat_106 zsh_45 rfl (by omega) (by decide) rfl ?_
    rw [a2]
    exact wp_ireturn dX11_seat_107 rfl ⟨rfl, ⟨rfl, rfl, h, zXf_r⟩⟩ rfl rfl
  · skip
    refine wp_tsIn (tgt := 108) (off := 76) dX11_seat_32 (by decide) (by decide) (by rfl) (by decide) ?_
    refine wp_aload_n (q := 109) dX11_seat_108 2 rfl rfl ?_
    refine wp_getR (q := 112) dX11_seat_109 zf_RX11_36 rfl zsh_0 (by first | rfl | assumption) rfl ?_
    refine wp_getR (q := 115) dX11_seat_112 zf_RX11_221 rfl (by first | assumption | rfl) (by first | assumption | rfl) rfl ?_
    refine wp_iload_n (q := 116) dX11_seat_115 1 rfl rfl ?_
    refine wp_iald (q := 117) _ dX11_seat_116 (by first | assumption | rfl) rfl (by omega) (by decide) rfl ?_
    rw [b0]
    exact wp_ireturn dX11_seat_117 rfl ⟨rfl, ⟨rfl, rfl, h, zXf_r⟩⟩ rfl rfl
  · skip
    refine wp_tsIn (tgt := 118) (off := 86) dX11_seat_32 (by decide) (by decide) (by rfl) (by decide) ?_
    refine wp_aload_n (q := 119) dX11_seat_118 2 rfl rfl ?_
    refine wp_getR (q := 122) dX11_seat_119 zf_RX11_36 rfl zsh_0 (by first | rfl | assumption) rfl ?_
    refine wp_getR (q := 125) dX11_seat_122 zf_RX11_221 rfl (by first | assumption | rfl) (by first | assumption | rfl) rfl ?_
    refine wp_iload (q := 127) dX11_seat_125 0 rfl rfl ?_
    refine wp_iald (q := 128) _ dX11_seat_127 (by first | assumption | rfl) rfl (by omega) (by decide) rfl ?_
    rw [b1]
    exact wp_ireturn dX11_seat_128 rfl ⟨rfl, ⟨rfl, rfl, h, zXf_r⟩⟩ rfl rfl
  · skip
    refine wp_tsIn (tgt := 129) (off := 97) dX11_seat_32 (by decide) (by decide) (by rfl) (by decide) ?_
    refine wp_aload_n (q := 130) dX11_seat_129 2 rfl rfl ?_
    refine wp_getR (q := 133) dX11_seat_130 zf_RX11_55 rfl zsh_0 (by first | rfl | assumption) rfl ?_
    refine wp_getR (q := 136) dX11_seat_133 zf_RX11_224 rfl zsh_43 (by first | rfl | assumption) rfl ?_
    refine wp_iload_n (q := 137) dX11_seat_136 1 rfl rfl ?_
    refine wp_iald (q := 138) _ dX11_seat_137 zsh_46 rfl (by omega) (by decide) rfl ?_
    rw [g0]
    exact wp_ireturn dX11_seat_138 rfl ⟨rfl, ⟨rfl, rfl, h, zXf_r⟩⟩ rfl rfl
  · skip
    refine wp_tsIn (tgt := 139) (off := 107) dX11_seat_32 (by decide) (by decide) (by rfl) (by decide) ?_
    refine wp_aload_n (q := 140) dX11_seat_139 2 rfl rfl ?_
    refine wp_getR (q := 143) dX11_seat_140 zf_RX11_55 rfl zsh_0 (by first | rfl | assumption) rfl ?_
    refine wp_getR (q := 146) dX11_seat_143 zf_RX11_224 rfl zsh_43 (by first | rfl | assumption) rfl ?_
    refine wp_iload (q := 148) dX11_seat_146 0 rfl rfl ?_
    refine wp_iald (q := 149) _ dX11_seat_148 zsh_46 rfl (by omega) (by decide) rfl ?_
    rw [g1]
    exact wp_ireturn dX11_seat_149 rfl ⟨rfl, ⟨rfl, rfl, h, zXf_r⟩⟩ rfl rfl
  · skip
    refine wp_tsIn (tgt := 150) (off := 118) dX11_seat_32 (by decide) (by decide) (by rfl) (by decide) ?_
    refine wp_aload_n (q := 151) dX11_seat_150 2 rfl rfl ?_
    refine wp_getR (q := 154) dX11_seat_151 zf_RX11_55 rfl zsh_0 (by first | rfl | assumption) rfl ?_
    refine wp_getR (q := 157) dX11_seat_154 zf_RX11_227 rfl zsh_43 (by first | rfl | assumption) rfl ?_
    refine wp_iload_n (q := 158) dX11_seat_157 1 rfl rfl ?_
    refine wp_iald (q := 159) _ dX11_seat_158 zsh_47 rfl (by omega) (by decide) rfl ?_
    rw [l0]
    exact wp_ireturn dX11_seat_159 rfl ⟨rfl, ⟨rfl, rfl, h, zXf_r⟩⟩ rfl rfl
  · skip
    refine wp_tsIn (tgt := 160) (off := 128) dX11_seat_32 (by decide) (by decide) (by rfl) (by decide) ?_
    refine wp_aload_n (q := 161) dX11_seat_160 2 rfl rfl ?_
    refine wp_getR (q := 164) dX11_seat_161 zf_RX11_55 rfl zsh_0 (by first | rfl | assumption) rfl ?_
    refine wp_getR (q := 167) dX11_seat_164 zf_RX11_227 rfl zsh_43 (by first | rfl | assumption) rfl ?_
    refine wp_iload (q := 169) dX11_seat_167 0 rfl rfl ?_
    refine wp_iald (q := 170) _ dX11_seat_169 zsh_47 rfl (by omega) (by decide) rfl ?_
    rw [l1]
    exact wp_ireturn dX11_seat_170 rfl ⟨rfl, ⟨rfl, rfl, h, zXf_r⟩⟩ rfl rfl
set_option maxHeartbeats 4000000 in
set_option maxRecDepth 100000 in
theorem sp_seatN {d t n : Nat} {x y : Int32} {M : zMI} {L : zML} {g : zGd} {v : Nat → Nat} {hs : List (Nat → Nat)} {m : zMs} (h : zCI M L t n g v hs m) (hN : ¬ (zin x n ∧ zin y 8)) : Sy yX11_seat YX11_seat (d + 1) [.ref 0, .int x, .int y] M L (zRf t) (zAn M L t n g v hs m (.int (-1))) := by
  refine Sp.of (by decide +kernel) rfl (fun h => by first | exact h | cases h) (Nat.le_of_ble_eq_true rfl) ?_
  intro w G
  have hv := zCI_hv h
  have hr := zCI_sr h
  have h8 := hv.1
  have ho : zSt 43 := Or.inl rfl
  refine wp_aload_n (q := 1) dX11_seat_0 0 rfl rfl ?_
  refine wp_iload_n (q := 2) dX11_seat_1 1 rfl rfl ?_
  refine wp_cvx (q := 5) (sp_isSeat (d := 0) hr.1 h8) zm_X11_isSeat zl_RX11_196 dX11_seat_2 rfl (by omega) (Nat.le_of_ble_eq_true rfl) zsh_0 rfl rfl ?_
  by_cases c : zin x n
  · rw [if_pos c]
    obtain ⟨s, hs0, rfl⟩ := zin_n (by omega) c
    have ht := zin_t (by decide) (fun c2 => hN ⟨c, c2⟩)
    refine wp_if_neN (tgt := 10) (q := 8) dX11_seat_5 (by decide) rfl (by omega) (fun _ => ?_) (fun hn => absurd hn (by first | omega | exact fun h => h | exact fun h => h trivial))
    refine wp_aload_n (q := 11) dX11_seat_10 0 rfl rfl ?_
    refine wp_getR (q := 14) dX11_seat_11 zf_RX11_55 rfl zsh_0 (zr_0_7 _) rfl ?_
    refine wp_iload_n (q := 15) dX11_seat_14 1 rfl rfl ?_
    refine wp_iconst (q := 16) dX11_seat_15 zq_iconst_0 rfl ?_
    refine wp_cvx (q := 19) (sp_handOf (d := 0) ho hv hr hs0 (by decide : 0 < 2)) zm_X7_handOf zl_RX11_215 dX11_seat_16 rfl (by omega) (Nat.le_of_ble_eq_true rfl) zsh_43 rfl rfl ?_
    refine wp_istore_n (q := 20) (loc' := [(3, _), (0, _), (1, _), (2, _)]) dX11_seat_19 rfl (by decide) rfl rfl ?_
    refine wp_aload_n (q := 21) dX11_seat_20 1 rfl rfl ?_
    refine wp_getR (q := 24) dX11_seat_21 zf_RX11_55 rfl zsh_0 (zr_0_7 _) rfl ?_
    refine wp_iload_n (q := 25) dX11_seat_24 2 rfl rfl ?_
    refine wp_iconst (q := 26) dX11_seat_25 zq_iconst_1 rfl ?_
    refine wp_cvx (q := 29) (sp_handOf (d := 0) ho hv hr hs0 (by decide : 1 < 2)) zm_X7_handOf zl_RX11_215 dX11_seat_26 rfl (by omega) (Nat.le_of_ble_eq_true rfl) zsh_43 rfl rfl ?_
    refine wp_istore (q := 31) (loc' := [(4, _), (3, _), (0, _), (1, _), (2, _)]) dX11_seat_29 (by decide) rfl rfl ?_
    refine wp_iload_n (q := 32) dX11_seat_31 4 rfl rfl ?_
    refine wp_tsOut (tgt := 171) dX11_seat_32 (by omega) (by decide) ?_
    refine wp_iconst (q := 172) dX11_seat_171 zq_iconst_m1 rfl ?_
    exact wp_ireturn dX11_seat_172 rfl ⟨rfl, ⟨rfl, rfl, h, zXf_r⟩⟩ rfl rfl
  · rw [if_neg c]
    refine wp_if_neN (tgt := 10) (q := 8) dX11_seat_5 (by decide) rfl (by omega) (fun hn => absurd hn (by first | omega | exact fun h => h | exact fun h => h trivial)) (fun _ => ?_)
    refine wp_iconst (q := 9) dX11_seat_8 zq_iconst_m1 rfl ?_
    exact wp_ireturn dX11_seat_9 rfl ⟨rfl, ⟨rfl, rfl, h, zXf_r⟩⟩ rfl rfl
def zcrk (tb : zTb) (v : Nat → Nat) (a b w : Nat) : Nat := if w = 0 then zmR tb v a b else if w = 1 then zmL tb v a b else if w = 2 then zsR tb v a b else if w = 3 then zsL tb v a b else if w = 4 then zoR tb v a b else if w = 5 then zoL tb v a b else zoN tb v a b
set_option maxHeartbeats 4000000 in
set_option maxRecDepth 100000 in
theorem sp_cracker {d t n c w0 : Nat} {M : zMI} {L : zML} {g : zGd} {v : Nat → Nat} {hs : List (Nat → Nat)} {m : zMs} (h : zCI M L t n g v hs m) (h2 : 2 ≤ n) (hc : c < n) (hw0 : w0 < 7) : Sy yX11_cracker YX11_cracker (d + 5) [.ref 0, .int (nI c), .int (nI w0)] M L (zRf t) (zAn M L t n g v hs m (.int (nI (zcrk g.2.2.2.2.2 v c ((c + 1) % n) w0)))) := by
  refine Sp.of (by decide +kernel) rfl (fun h => by first | exact h | cases h) (Nat.le_of_ble_eq_true rfl) ?_
  intro w G
  have hv := zCI_hv h
  have hr := zCI_sr h
  have h8 := hv.1
  have ho : zSt 43 := Or.inl rfl
  have hmod : (c + 1) % n < n := Nat.mod_lt _ (by omega)
  refine wp_iload_n (q := 1) dX11_cracker_0 1 rfl rfl ?_
  refine wp_if_ltN (tgt := 25) (q := 4) dX11_cracker_1 (by decide) rfl (by omega) (fun hn => absurd hn (by first | omega | exact fun h => h | exact fun h => h trivial)) (fun _ => ?_)
  refine wp_iload_n (q := 5) dX11_cracker_4 1 rfl rfl ?_
  refine wp_aload_n (q := 6) dX11_cracker_5 0 rfl rfl ?_
  refine wp_getR (q := 9) dX11_cracker_6 zf_RX11_55 rfl zsh_0 (zr_0_7 _) rfl ?_
  refine wp_cvx (q := 12) (sp_crackers (d := 0) ho hr.1 h8) zm_X7_crackers zl_RX11_168 dX11_cracker_9 rfl (by omega) (Nat.le_of_ble_eq_true rfl) zsh_43 rfl rfl ?_
  rw [if_neg (by omega)]
  refine wp_icmp_geN (tgt := 25) (q := 15) dX11_cracker_12 (by decide) rfl (by omega) (by omega) (fun hn => absurd hn (by first | omega | exact fun h => h | exact fun h => h trivial)) (fun _ => ?_)
  refine wp_iload_n (q := 16) dX11_cracker_15 2 rfl rfl ?_
  refine wp_if_ltN (tgt := 25) (q := 19) dX11_cracker_16 (by decide) rfl (by omega) (fun hn => absurd hn (by first | omega | exact fun h => h | exact fun h => h trivial)) (fun _ => ?_)
  refine wp_iload_n (q := 20) dX11_cracker_19 2 rfl rfl ?_
  refine wp_bipush (q := 22) dX11_cracker_20 zq_bipush_7 rfl ?_
  refine wp_icmp_ltN (tgt := 27) (q := 25) dX11_cracker_22 (by decide) rfl (by omega) (by omega) (fun _ => ?_) (fun hn => absurd hn (by first | omega | exact fun h => h | exact fun h => h trivial))
  refine wp_aload_n (q := 28) dX11_cracker_27 0 rfl rfl ?_
  refine wp_getR (q := 31) dX11_cracker_28 zf_RX11_71 rfl zsh_0 (zr_0_9 _) rfl ?_
  refine wp_aload_n (q := 32) dX11_cracker_31 0 rfl rfl ?_
  refine wp_getR (q := 35) dX11_cracker_32 zf_RX11_55 rfl zsh_0 (zr_0_7 _) rfl ?_
  refine wp_iload_n (q := 36) dX11_cracker_35 1 rfl rfl ?_
  refine wp_aload_n (q := 37) dX11_cracker_36 0 rfl rfl ?_
  refine wp_getR (q := 40) dX11_cracker_37 zf_RX11_55 rfl zsh_0 (zr_0_7 _) rfl ?_
  refine wp_iload_n (q := 41) dX11_cracker_40 1 rfl rfl ?_
  refine wp_cvx (q := 44) (sp_behind (d := 0) ho hr.1 h8 hc) zm_X7_behind zl_RX11_233 dX11_cracker_41 rfl (by omega) (Nat.le_of_ble_eq_true rfl) zsh_43 rfl rfl ?_
  refine wp_cvy (q := 47) (sp_work (d := 0) h.1 ho (zCI_tm h) hv hr hc hmod (zCI_pm h)) zm_X4_work zl_RX11_236 dX11_cracker_44 rfl (by omega) (Nat.le_of_ble_eq_true rfl) zsh_150 rfl rfl ?_
  rintro _ M2 _ _ ⟨rfl, rfl, rfl, w0', w1, w2, w3, w4, w5, w6, hp, hx⟩
  refine wp_aload_n (q := 48) dX11_cracker_47 0 rfl rfl ?_
  refine wp_getR (q := 51) dX11_cracker_48 zf_RX11_71 rfl zsh_0 (zr_0_9 _) rfl ?_
  refine wp_getR (q := 54) dX11_cracker_51 zf_RX11_240 rfl zsh_150 (zr_150_2 _) rfl ?_
  refine wp_iload_n (q := 55) dX11_cracker_54 2 rfl rfl ?_
  refine wp_iald (q := 56) _ dX11_cracker_55 zsh_152 rfl (by omega) (by decide) rfl ?_
  have e : M2 152 w0 = nI (zcrk g.2.2.2.2.2 v c ((c + 1) % n) w0) := by
    have hcs : w0 = 0 ∨ w0 = 1 ∨ w0 = 2 ∨ w0 = 3 ∨ w0 = 4 ∨ w0 = 5 ∨ w0 = 6 := by omega
    rcases hcs with rfl | rfl | rfl | rfl | rfl | rfl | rfl <;> assumption
  rw [e]
  exact wp_ireturn dX11_cracker_56 rfl ⟨rfl, ⟨rfl, rfl, zCI_py h hp (fun x hx' => hx x (zPx_y hx')), zXf_py h.1 (fun x hx' => hx x (zPx_y hx'))⟩⟩ rfl rfl
set_option maxHeartbeats 4000000 in
set_option maxRecDepth 100000 in
theorem sp_crackerN {d t n : Nat} {x y : Int32} {M : zMI} {L : zML} {g : zGd} {v : Nat → Nat} {hs : List (Nat → Nat)} {m : zMs} (h : zCI M L t n g v hs m) (hN : ¬ (2 ≤ n ∧ zin x n ∧ zin y 7)) : Sy yX11_cracker YX11_cracker (d + 5) [.ref 0, .int x, .int y] M L (zRf t) (zAn M L t n g v hs m (.int (-1))) := by
  refine Sp.of (by decide +kernel) rfl (fun h => by first | exact h | cases h) (Nat.le_of_ble_eq_true rfl) ?_
  intro w G
  have hv := zCI_hv h
  have hr := zCI_sr h
  have h8 := hv.1
  have ho : zSt 43 := Or.inl rfl
  refine wp_iload_n (q := 1) dX11_cracker_0 1 rfl rfl ?_
  refine wp_if_lt (tgt := 25) (q := 4) dX11_cracker_1 (by decide) rfl (fun e0 => ?_) (fun e0 => ?_)
  · skip
    refine wp_iconst (q := 26) dX11_cracker_25 zq_iconst_m1 rfl ?_
    exact wp_ireturn dX11_cracker_26 rfl ⟨rfl, ⟨rfl, rfl, h, zXf_r⟩⟩ rfl rfl
  · skip
    refine wp_iload_n (q := 5) dX11_cracker_4 1 rfl rfl ?_
    refine wp_aload_n (q := 6) dX11_cracker_5 0 rfl rfl ?_
    refine wp_getR (q := 9) dX11_cracker_6 zf_RX11_55 rfl zsh_0 (zr_0_7 _) rfl ?_
    refine wp_cvx (q := 12) (sp_crackers (d := 0) ho hr.1 h8) zm_X7_crackers zl_RX11_168 dX11_cracker_9 rfl (by omega) (Nat.le_of_ble_eq_true rfl) zsh_43 rfl rfl ?_
    refine wp_icmp_ge (tgt := 25) (q := 15) dX11_cracker_12 (by decide) rfl (fun e1 => ?_) (fun e1 => ?_)
    · skip
      refine wp_iconst (q := 26) dX11_cracker_25 zq_iconst_m1 rfl ?_
      exact wp_ireturn dX11_cracker_26 rfl ⟨rfl, ⟨rfl, rfl, h, zXf_r⟩⟩ rfl rfl
    · skip
      refine wp_iload_n (q := 16) dX11_cracker_15 2 rfl rfl ?_
      refine wp_if_lt (tgt := 25) (q := 19) dX11_cracker_16 (by decide) rfl (fun e2 => ?_) (fun e2 => ?_)
      · skip
        refine wp_iconst (q := 26) dX11_cracker_25 zq_iconst_m1 rfl ?_
        exact wp_ireturn dX11_cracker_26 rfl ⟨rfl, ⟨rfl, rfl, h, zXf_r⟩⟩ rfl rfl
      · skip
        refine wp_iload_n (q := 20) dX11_cracker_19 2 rfl rfl ?_
        refine wp_bipush (q := 22) dX11_cracker_20 zq_bipush_7 rfl ?_
        have e1' := Int32.not_le.mp e1
        have e3 : ¬ y < nI 7 := by
          intro c
          by_cases c2 : n < 2
          · rw [if_pos c2] at e1'
            exact e0 e1'
          · rw [if_neg c2] at e1'
            exact hN ⟨by omega, ⟨Int32.not_lt.mp e0, e1'⟩, ⟨Int32.not_lt.mp e2, c⟩⟩
        refine wp_icmp_lt (tgt := 27) (q := 25) dX11_cracker_22 (by decide) rfl (fun hn => absurd hn (by exact e3)) (fun _ => ?_)
        refine wp_iconst (q := 26) dX11_cracker_25 zq_iconst_m1 rfl ?_
        exact wp_ireturn dX11_cracker_26 rfl ⟨rfl, ⟨rfl, rfl, h, zXf_r⟩⟩ rfl rfl

