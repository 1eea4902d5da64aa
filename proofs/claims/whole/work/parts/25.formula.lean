def zclip (z : Int) : Int := if 1000000 < z then 1000000 else if z < -1000000 then -1000000 else z
theorem zclip_b (z : Int) : zb6 (zclip z) := by
  unfold zclip zb6
  split
  · omega
  · split <;> omega
theorem zclip_id {z : Int} (h : zb6 z) : zclip z = z := by
  obtain ⟨a, b⟩ := h
  unfold zclip
  rw [if_neg (by omega), if_neg (by omega)]
-- an op of two: op, the lower one a, the upper one b
def zbin (op : Nat) (a b : Int) : Int :=
  if op = 4 then zclip (a + b) else if op = 5 then zclip (a - b) else if op = 6 then zclip (a * b) else if op = 7 then (if b = 0 then 0 else Int.fdiv a b)
  else if op = 8 then (if b < a then b else a) else if op = 9 then (if a < b then b else a) else if op = 10 then (if a < b then 1 else 0) else if op = 11 then (if b < a then 1 else 0)
  else if op = 12 then (if a = b then 1 else 0) else if op = 13 then a * b else (if 0 < a + b then 1 else 0)
def z01 (z : Int) : Prop := z = 0 ∨ z = 1
theorem z01_b {z : Int} (h : z01 z) : zb6 z := by
  rcases h with rfl | rfl <;> exact ⟨by decide, by decide⟩
theorem zbin_b {op : Nat} {a b : Int} (ha : zb6 a) (hb : zb6 b) (h13 : op = 13 → z01 a ∧ z01 b) : zb6 (zbin op a b) := by
  have h0 : zb6 0 := ⟨by decide, by decide⟩
  have h1 : zb6 1 := ⟨by decide, by decide⟩
  unfold zbin
  by_cases c4 : op = 4
  · rw [if_pos c4]; exact zclip_b _
  rw [if_neg c4]
  by_cases c5 : op = 5
  · rw [if_pos c5]; exact zclip_b _
  rw [if_neg c5]
  by_cases c6 : op = 6
  · rw [if_pos c6]; exact zclip_b _
  rw [if_neg c6]
  by_cases c7 : op = 7
  · rw [if_pos c7]
    split
    · exact h0
    · rename_i hne; exact zb6_fdiv ha hne
  rw [if_neg c7]
  by_cases c8 : op = 8
  · rw [if_pos c8]; split <;> assumption
  rw [if_neg c8]
  by_cases c9 : op = 9
  · rw [if_pos c9]; split <;> assumption
  rw [if_neg c9]
  by_cases c10 : op = 10
  · rw [if_pos c10]; split <;> assumption
  rw [if_neg c10]
  by_cases c11 : op = 11
  · rw [if_pos c11]; split <;> assumption
  rw [if_neg c11]
  by_cases c12 : op = 12
  · rw [if_pos c12]; split <;> assumption
  rw [if_neg c12]
  by_cases c13 : op = 13
  · rw [if_pos c13]
    obtain ⟨x, y⟩ := h13 c13
    rcases x with rfl | rfl <;> rcases y with rfl | rfl <;> exact ⟨by decide, by decide⟩
  rw [if_neg c13]
  split <;> assumption
theorem zml {a b : Int} (ha : zb6 a) (hb : zb6 b) : zbL (a * b) := by
  obtain ⟨a1, a2⟩ := ha
  obtain ⟨b1, b2⟩ := hb
  have h : (a * b).natAbs ≤ 1000000 * 1000000 := by
    rw [Int.natAbs_mul]
    exact Nat.mul_le_mul (by omega) (by omega)
  exact ⟨by omega, by omega⟩
theorem zc6 : (1000000 : Int64) = lI 1000000 := by decide +kernel
theorem zcm6 : (-1000000 : Int64) = lI (-1000000) := by decide +kernel
theorem zi6 : (1000000 : Int32) = iI 1000000 := by decide +kernel
theorem zim6 : (-1000000 : Int32) = iI (-1000000) := by decide +kernel
set_option maxHeartbeats 4000000 in
set_option maxRecDepth 100000 in
theorem sp_ofTwo {d op : Nat} {M : zMI} {L : zML} {R : zMR} {a b : Int} (ha : zb6 a) (hb : zb6 b) (h4 : 4 ≤ op) (h14 : op ≤ 14) (h01 : 13 ≤ op → z01 a ∧ z01 b) : Sx yX0_ofTwo YX0_ofTwo (d + 1) [.int (nI op), .int (iI a), .int (iI b)] M L R (some (.int (iI (zbin op a b)))) M L R := by
  refine Sp.of (by decide +kernel) rfl (fun h => by first | exact h | cases h) (Nat.le_of_ble_eq_true rfl) ?_
  intro w G
  have e6 := zc6
  have em6 := zcm6
  have l6 : zbL 1000000 := ⟨by decide, by decide⟩
  have lm6 : zbL (-1000000) := ⟨by decide, by decide⟩
  have fin : ∀ r : Int, zbL r → zclip r = zbin op a b → WP w YX0_ofTwo (d + 1, SS, 0, 0) G (some (zX (some (.int (iI (zbin op a b)))) M L R)) 183 [(3, .long (lI r)), (0, .int (nI op)), (1, .int (iI a)), (2, .int (iI b))] [] SS M L R := by
    intro r hr hz
    refine wp_lload_n (q := 184) dX0_ofTwo_183 0 rfl rfl ?_
    refine wp_ldc2_w (q := 187) dX0_ofTwo_184 zk_RX0_42 rfl ?_
    refine wp_lcmp_le (tgt := 194) (q := 191) dX0_ofTwo_187 rfl dX0_ofTwo_188 (by decide) rfl (fun h => ?_) (fun h => ?_)
    · skip
      rw [e6, lI_le hr l6] at h
      refine wp_lload_n (q := 195) dX0_ofTwo_194 0 rfl rfl ?_
      refine wp_ldc2_w (q := 198) dX0_ofTwo_195 zk_RX0_45 rfl ?_
      refine wp_lcmp_ge (tgt := 207) (q := 202) dX0_ofTwo_198 rfl dX0_ofTwo_199 (by decide) rfl (fun h2 => ?_) (fun h2 => ?_)
      · skip
        rw [em6, lI_le lm6 hr] at h2
        refine wp_lload_n (q := 208) dX0_ofTwo_207 0 rfl rfl ?_
        refine wp_l2i (q := 209) dX0_ofTwo_208 rfl ?_
        rw [lI_I]
        rw [← hz, zclip_id ⟨h2, h⟩]
        exact wp_ireturn dX0_ofTwo_209 rfl ⟨rfl, rfl, rfl, rfl, rfl⟩ rfl rfl
      · skip
        rw [em6, lI_le lm6 hr] at h2
        refine wp_ldc (q := 204) dX0_ofTwo_202 zk_RX0_47 rfl ?_
        refine wp_goto (tgt := 209) dX0_ofTwo_204 (by decide) ?_
        rw [zim6, ← hz, show zclip r = -1000000 by unfold zclip; rw [if_neg (by omega), if_pos (by omega)]]
        exact wp_ireturn dX0_ofTwo_209 rfl ⟨rfl, rfl, rfl, rfl, rfl⟩ rfl rfl
    · skip
      rw [e6, lI_le hr l6] at h
      refine wp_ldc (q := 193) dX0_ofTwo_191 zk_RX0_44 rfl ?_
      rw [zi6, ← hz, show zclip r = 1000000 by unfold zclip; rw [if_pos (by omega)]]
      exact wp_ireturn dX0_ofTwo_193 rfl ⟨rfl, rfl, rfl, rfl, rfl⟩ rfl rfl
  have hop : op = 4 ∨ op = 5 ∨ op = 6 ∨ op = 7 ∨ op = 8 ∨ op = 9 ∨ op = 10 ∨ op = 11 ∨ op = 12 ∨ op = 13 ∨ op = 14 := by omega
  have hzb := zbin_b (op := op) ha hb (fun e => h01 (by omega))
  have hzid := zclip_id hzb
  have l0 : zbL 0 := ⟨by decide, by decide⟩
  have l1 : zbL 1 := ⟨by decide, by decide⟩
  have b6L : ∀ z, zb6 z → zbL z := fun z h => ⟨by have := h.1; omega, by have := h.2; omega⟩
  refine wp_lconst (q := 1) dX0_ofTwo_0 zq_lconst_0 rfl ?_
  refine wp_lstore_n (q := 2) (loc' := [(3, _), (0, _), (1, _), (2, _)]) dX0_ofTwo_1 rfl (by decide) rfl rfl ?_
  refine wp_iload_n (q := 3) dX0_ofTwo_2 1 rfl rfl ?_
  rcases hop with rfl | rfl | rfl | rfl | rfl | rfl | rfl | rfl | rfl | rfl | rfl
  · skip
    refine wp_tsIn (tgt := 60) (off := 57) dX0_ofTwo_3 (by decide) (by decide) (by rfl) (by decide) ?_
    refine wp_iload_n (q := 61) dX0_ofTwo_60 2 rfl rfl ?_
    refine wp_i2l (q := 62) dX0_ofTwo_61 rfl ?_
    rw [iI_L ha]
    refine wp_iload_n (q := 63) dX0_ofTwo_62 3 rfl rfl ?_
    refine wp_i2l (q := 64) dX0_ofTwo_63 rfl ?_
    rw [iI_L hb]
    refine wp_ladd (q := 65) dX0_ofTwo_64 rfl ?_
    rw [lI_add]
    refine wp_lstore_n (q := 66) (loc' := [(3, _), (0, _), (1, _), (2, _)]) dX0_ofTwo_65 rfl (by decide) rfl rfl ?_
    refine wp_goto (tgt := 183) dX0_ofTwo_66 (by decide) ?_
    obtain ⟨a1, a2⟩ := ha
    obtain ⟨b1, b2⟩ := hb
    exact fin (a + b) ⟨by omega, by omega⟩ (by unfold zbin; rw [if_pos rfl])
  · skip
    refine wp_tsIn (tgt := 69) (off := 66) dX0_ofTwo_3 (by decide) (by decide) (by rfl) (by decide) ?_
    refine wp_iload_n (q := 70) dX0_ofTwo_69 2 rfl rfl ?_
    refine wp_i2l (q := 71) dX0_ofTwo_70 rfl ?_
    rw [iI_L ha]
    refine wp_iload_n (q := 72) dX0_ofTwo_71 3 rfl rfl ?_
    refine wp_i2l (q := 73) dX0_ofTwo_72 rfl ?_
    rw [iI_L hb]
    refine wp_lsub (q := 74) dX0_ofTwo_73 rfl ?_
    rw [lI_sub]
    refine wp_lstore_n (q := 75) (loc' := [(3, _), (0, _), (1, _), (2, _)]) dX0_ofTwo_74 rfl (by decide) rfl rfl ?_
    refine wp_goto (tgt := 183) dX0_ofTwo_75 (by decide) ?_
    obtain ⟨a1, a2⟩ := ha
    obtain ⟨b1, b2⟩ := hb
    exact fin (a - b) ⟨by omega, by omega⟩ (by unfold zbin; rw [if_neg (by decide), if_pos rfl])
  · skip
    refine wp_tsIn (tgt := 78) (off := 75) dX0_ofTwo_3 (by decide) (by decide) (by rfl) (by decide) ?_
    refine wp_iload_n (q := 79) dX0_ofTwo_78 2 rfl rfl ?_
    refine wp_i2l (q := 80) dX0_ofTwo_79 rfl ?_
    rw [iI_L ha]
    refine wp_iload_n (q := 81) dX0_ofTwo_80 3 rfl rfl ?_
    refine wp_i2l (q := 82) dX0_ofTwo_81 rfl ?_
    rw [iI_L hb]
    refine wp_lmul (q := 83) dX0_ofTwo_82 rfl ?_
    rw [lI_mul]
    refine wp_lstore_n (q := 84) (loc' := [(3, _), (0, _), (1, _), (2, _)]) dX0_ofTwo_83 rfl (by decide) rfl rfl ?_
    refine wp_goto (tgt := 183) dX0_ofTwo_84 (by decide) ?_
    exact fin (a * b) (zml ha hb) (by unfold zbin; rw [if_neg (by decide), if_neg (by decide), if_pos rfl])
  · skip
    refine wp_tsIn (tgt := 87) (off := 84) dX0_ofTwo_3 (by decide) (by decide) (by rfl) (by decide) ?_
    refine wp_iload_n (q := 88) dX0_ofTwo_87 3 rfl rfl ?_
    by_cases h0 : b = 0
    · subst h0
      refine wp_if_ne (tgt := 95) (q := 91) dX0_ofTwo_88 (by decide) rfl (fun hn => absurd hn (by exact fun c => c rfl)) (fun _ => ?_)
      refine wp_lconst (q := 92) dX0_ofTwo_91 zq_lconst_0 rfl ?_
      refine wp_goto (tgt := 101) dX0_ofTwo_92 (by decide) ?_
      refine wp_lstore_n (q := 102) (loc' := [(3, _), (0, _), (1, _), (2, _)]) dX0_ofTwo_101 rfl (by decide) rfl rfl ?_
      refine wp_goto (tgt := 183) dX0_ofTwo_102 (by decide) ?_
      rw [lN_I]
      exact fin 0 l0 rfl
    · skip
      refine wp_if_ne (tgt := 95) (q := 91) dX0_ofTwo_88 (by decide) rfl (fun _ => ?_) (fun hn => absurd hn (by exact fun e => h0 ((iI_eq hb ⟨by decide, by decide⟩).mp e)))
      refine wp_iload_n (q := 96) dX0_ofTwo_95 2 rfl rfl ?_
      refine wp_iload_n (q := 97) dX0_ofTwo_96 3 rfl rfl ?_
      refine wp_csx (q := 100) (sp_floorDiv (d := d) ha hb h0) zm_J9_floorDiv_7cf53 zl_RX0_30 dX0_ofTwo_97 rfl (by omega) (Nat.le_of_ble_eq_true rfl) rfl ?_
      have hfd : zbin 7 a b = Int.fdiv a b := by unfold zbin; rw [if_neg (by decide), if_neg (by decide), if_neg (by decide), if_pos rfl, if_neg h0]
      rw [hfd] at hzid hzb
      refine wp_i2l (q := 101) dX0_ofTwo_100 rfl ?_
      rw [iI_L hzb]
      refine wp_lstore_n (q := 102) (loc' := [(3, _), (0, _), (1, _), (2, _)]) dX0_ofTwo_101 rfl (by decide) rfl rfl ?_
      refine wp_goto (tgt := 183) dX0_ofTwo_102 (by decide) ?_
      exact fin _ (b6L _ hzb) (by rw [hzid, hfd])
  · skip
    refine wp_tsIn (tgt := 105) (off := 102) dX0_ofTwo_3 (by decide) (by decide) (by rfl) (by decide) ?_
    refine wp_iload_n (q := 106) dX0_ofTwo_105 2 rfl rfl ?_
    refine wp_iload_n (q := 107) dX0_ofTwo_106 3 rfl rfl ?_
    refine wp_mmin (q := 110) dX0_ofTwo_107 zl_RX0_36 (by omega) (Nat.le_of_ble_eq_true rfl) (Nat.le_refl _) (Nat.le_refl _) rfl ?_
    have e : (if iI b < iI a then iI b else iI a) = iI (zbin 8 a b) := by
      show _ = iI (if b < a then b else a)
      by_cases h : b < a
      · rw [if_pos h, if_pos ((iI_lt hb ha).mpr h)]
      · rw [if_neg h, if_neg (fun c => h ((iI_lt hb ha).mp c))]
    rw [e]
    refine wp_i2l (q := 111) dX0_ofTwo_110 rfl ?_
    rw [iI_L hzb]
    refine wp_lstore_n (q := 112) (loc' := [(3, _), (0, _), (1, _), (2, _)]) dX0_ofTwo_111 rfl (by decide) rfl rfl ?_
    refine wp_goto (tgt := 183) dX0_ofTwo_112 (by decide) ?_
    exact fin _ (b6L _ hzb) hzid
  · skip
    refine wp_tsIn (tgt := 115) (off := 112) dX0_ofTwo_3 (by decide) (by decide) (by rfl) (by decide) ?_
    refine wp_iload_n (q := 116) dX0_ofTwo_115 2 rfl rfl ?_
    refine wp_iload_n (q := 117) dX0_ofTwo_116 3 rfl rfl ?_
    refine wp_mmax (q := 120) dX0_ofTwo_117 zl_RX0_39 (by omega) (Nat.le_of_ble_eq_true rfl) (Nat.le_refl _) (Nat.le_refl _) rfl ?_
    have e : (if iI a < iI b then iI b else iI a) = iI (zbin 9 a b) := by
      show _ = iI (if a < b then b else a)
      by_cases h : a < b
      · rw [if_pos h, if_pos ((iI_lt ha hb).mpr h)]
      · rw [if_neg h, if_neg (fun c => h ((iI_lt ha hb).mp c))]
    rw [e]
    refine wp_i2l (q := 121) dX0_ofTwo_120 rfl ?_
    rw [iI_L hzb]
    refine wp_lstore_n (q := 122) (loc' := [(3, _), (0, _), (1, _), (2, _)]) dX0_ofTwo_121 rfl (by decide) rfl rfl ?_
    refine wp_goto (tgt := 183) dX0_ofTwo_122 (by decide) ?_
    exact fin _ (b6L _ hzb) hzid
  · skip
    refine wp_tsIn (tgt := 125) (off := 122) dX0_ofTwo_3 (by decide) (by decide) (by rfl) (by decide) ?_
    refine wp_iload_n (q := 126) dX0_ofTwo_125 2 rfl rfl ?_
    refine wp_iload_n (q := 127) dX0_ofTwo_126 3 rfl rfl ?_
    refine wp_icmp_ge (tgt := 134) (q := 130) dX0_ofTwo_127 (by decide) rfl (fun h => ?_) (fun h => ?_)
    · skip
      rw [iI_le hb ha] at h
      refine wp_lconst (q := 135) dX0_ofTwo_134 zq_lconst_0 rfl ?_
      refine wp_lstore_n (q := 136) (loc' := [(3, _), (0, _), (1, _), (2, _)]) dX0_ofTwo_135 rfl (by decide) rfl rfl ?_
      refine wp_goto (tgt := 183) dX0_ofTwo_136 (by decide) ?_
      rw [lN_I]
      exact fin 0 l0 (by show (0 : Int) = (if a < b then 1 else 0); rw [if_neg (by omega)])
    · skip
      rw [iI_le hb ha] at h
      refine wp_lconst (q := 131) dX0_ofTwo_130 zq_lconst_1 rfl ?_
      refine wp_goto (tgt := 135) dX0_ofTwo_131 (by decide) ?_
      refine wp_lstore_n (q := 136) (loc' := [(3, _), (0, _), (1, _), (2, _)]) dX0_ofTwo_135 rfl (by decide) rfl rfl ?_
      refine wp_goto (tgt := 183) dX0_ofTwo_136 (by decide) ?_
      rw [lN_I]
      exact fin 1 l1 (by show (1 : Int) = (if a < b then 1 else 0); rw [if_pos (by omega)])
  · skip
    refine wp_tsIn (tgt := 139) (off := 136) dX0_ofTwo_3 (by decide) (by decide) (by rfl) (by decide) ?_
    refine wp_iload_n (q := 140) dX0_ofTwo_139 2 rfl rfl ?_
    refine wp_iload_n (q := 141) dX0_ofTwo_140 3 rfl rfl ?_
    refine wp_icmp_le (tgt := 148) (q := 144) dX0_ofTwo_141 (by decide) rfl (fun h => ?_) (fun h => ?_)
    · skip
      rw [iI_le ha hb] at h
      refine wp_lconst (q := 149) dX0_ofTwo_148 zq_lconst_0 rfl ?_
      refine wp_lstore_n (q := 150) (loc' := [(3, _), (0, _), (1, _), (2, _)]) dX0_ofTwo_149 rfl (by decide) rfl rfl ?_
      refine wp_goto (tgt := 183) dX0_ofTwo_150 (by decide) ?_
      rw [lN_I]
      exact fin 0 l0 (by show (0 : Int) = (if b < a then 1 else 0); rw [if_neg (by omega)])
    · skip
      rw [iI_le ha hb] at h
      refine wp_lconst (q := 145) dX0_ofTwo_144 zq_lconst_1 rfl ?_
      refine wp_goto (tgt := 149) dX0_ofTwo_145 (by decide) ?_
      refine wp_lstore_n (q := 150) (loc' := [(3, _), (0, _), (1, _), (2, _)]) dX0_ofTwo_149 rfl (by decide) rfl rfl ?_
      refine wp_goto (tgt := 183) dX0_ofTwo_150 (by decide) ?_
      rw [lN_I]
      exact fin 1 l1 (by show (1 : Int) = (if b < a then 1 else 0); rw [if_pos (by omega)])
  · skip
    refine wp_tsIn (tgt := 153) (off := 150) dX0_ofTwo_3 (by decide) (by decide) (by rfl) (by decide) ?_
    refine wp_iload_n (q := 154) dX0_ofTwo_153 2 rfl rfl ?_
    refine wp_iload_n (q := 155) dX0_ofTwo_154 3 rfl rfl ?_
    refine wp_icmp_ne (tgt := 162) (q := 158) dX0_ofTwo_155 (by decide) rfl (fun h => ?_) (fun h => ?_)
    · skip
      rw [iI_eq ha hb] at h
      refine wp_lconst (q := 163) dX0_ofTwo_162 zq_lconst_0 rfl ?_
      refine wp_lstore_n (q := 164) (loc' := [(3, _), (0, _), (1, _), (2, _)]) dX0_ofTwo_163 rfl (by decide) rfl rfl ?_
      refine wp_goto (tgt := 183) dX0_ofTwo_164 (by decide) ?_
      rw [lN_I]
      exact fin 0 l0 (by show (0 : Int) = (if a = b then 1 else 0); rw [if_neg h])
    · skip
      rw [iI_eq ha hb] at h
      refine wp_lconst (q := 159) dX0_ofTwo_158 zq_lconst_1 rfl ?_
      refine wp_goto (tgt := 163) dX0_ofTwo_159 (by decide) ?_
      refine wp_lstore_n (q := 164) (loc' := [(3, _), (0, _), (1, _), (2, _)]) dX0_ofTwo_163 rfl (by decide) rfl rfl ?_
      refine wp_goto (tgt := 183) dX0_ofTwo_164 (by decide) ?_
      rw [lN_I]
      exact fin 1 l1 (by show (1 : Int) = (if a = b then 1 else 0); rw [if_pos h])
  · skip
    refine wp_tsIn (tgt := 167) (off := 164) dX0_ofTwo_3 (by decide) (by decide) (by rfl) (by decide) ?_
    refine wp_iload_n (q := 168) dX0_ofTwo_167 2 rfl rfl ?_
    refine wp_iload_n (q := 169) dX0_ofTwo_168 3 rfl rfl ?_
    refine wp_iand (q := 170) dX0_ofTwo_169 rfl ?_
    obtain ⟨x, y⟩ := h01 (by omega)
    have e : (iI a &&& iI b) = iI (a * b) := by rcases x with rfl | rfl <;> rcases y with rfl | rfl <;> decide +kernel
    have hab : zb6 (a * b) := hzb
    rw [e]
    refine wp_i2l (q := 171) dX0_ofTwo_170 rfl ?_
    rw [iI_L hab]
    refine wp_lstore_n (q := 172) (loc' := [(3, _), (0, _), (1, _), (2, _)]) dX0_ofTwo_171 rfl (by decide) rfl rfl ?_
    refine wp_goto (tgt := 183) dX0_ofTwo_172 (by decide) ?_
    exact fin _ (b6L _ hab) hzid
  · skip
    refine wp_tsIn (tgt := 175) (off := 172) dX0_ofTwo_3 (by decide) (by decide) (by rfl) (by decide) ?_
    refine wp_iload_n (q := 176) dX0_ofTwo_175 2 rfl rfl ?_
    refine wp_iload_n (q := 177) dX0_ofTwo_176 3 rfl rfl ?_
    refine wp_ior (q := 178) dX0_ofTwo_177 rfl ?_
    obtain ⟨x, y⟩ := h01 (by omega)
    have e : (iI a ||| iI b) = iI (zbin 14 a b) := by rcases x with rfl | rfl <;> rcases y with rfl | rfl <;> decide +kernel
    rw [e]
    refine wp_i2l (q := 179) dX0_ofTwo_178 rfl ?_
    rw [iI_L hzb]
    refine wp_lstore_n (q := 180) (loc' := [(3, _), (0, _), (1, _), (2, _)]) dX0_ofTwo_179 rfl (by decide) rfl rfl ?_
    refine wp_goto (tgt := 183) dX0_ofTwo_180 (by decide) ?_
    exact fin _ (b6L _ hzb) hzid
set_option maxHeartbeats 4000000 in
set_option maxRecDepth 100000 in
theorem sp_ofOne {d f op : Nat} {M : zMI} {L : zML} {R : zMR} {a : Int} {F : Nat → Int} (hf : SS[f]? = some (.inl (9, .int))) (hF : ∀ i, i < 9 → M f i = iI (F i)) (ha : zb6 a) (hb5 : zb6 (F 5)) (hb6 : zb6 (F 6)) (hop : op = 2 ∨ op = 3) : Sx yX0_ofOne YX0_ofOne (d) [.int (nI op), .int (iI a), .ref f] M L R (some (.int (iI (if op = 2 then 1 - a else if a = F 5 then F 7 else if a = F 6 then F 8 else 0)))) M L R := by
  refine Sp.of (by decide +kernel) rfl (fun h => by first | exact h | cases h) (Nat.le_of_ble_eq_true rfl) ?_
  intro w G
  refine wp_iload_n (q := 1) dX0_ofOne_0 0 rfl rfl ?_
  refine wp_iconst (q := 2) dX0_ofOne_1 zq_iconst_2 rfl ?_
  rcases hop with rfl | rfl
  · skip
    refine wp_icmp_neN (tgt := 9) (q := 5) dX0_ofOne_2 (by decide) rfl (by omega) (by omega) (fun hn => absurd hn (by omega)) (fun _ => ?_)
    refine wp_iconst (q := 6) dX0_ofOne_5 zq_iconst_1 rfl ?_
    refine wp_iload_n (q := 7) dX0_ofOne_6 1 rfl rfl ?_
    rw [show nI 1 = iI 1 from rfl]
    refine wp_isub (q := 8) dX0_ofOne_7 rfl ?_
    rw [iI_sub]
    exact wp_ireturn dX0_ofOne_8 rfl ⟨rfl, rfl, rfl, rfl, rfl⟩ rfl rfl
  · skip
    refine wp_icmp_neN (tgt := 9) (q := 5) dX0_ofOne_2 (by decide) rfl (by omega) (by omega) (fun _ => ?_) (fun hn => absurd hn (by omega))
    refine wp_aload_n (q := 10) dX0_ofOne_9 2 rfl rfl ?_
    refine wp_alen (q := 11) dX0_ofOne_10 (by first | assumption | rfl) (by simp [zTys]) rfl ?_
    refine wp_bipush (q := 13) dX0_ofOne_11 zq_bipush_9 rfl ?_
    refine wp_icmp_geN (tgt := 18) (q := 16) dX0_ofOne_13 (by decide) rfl (by omega) (by omega) (fun _ => ?_) (fun hn => absurd hn (by omega))
    refine wp_iload_n (q := 19) dX0_ofOne_18 1 rfl rfl ?_
    refine wp_aload_n (q := 20) dX0_ofOne_19 2 rfl rfl ?_
    refine wp_iconst (q := 21) dX0_ofOne_20 zq_iconst_5 rfl ?_
    refine wp_iald (q := 22) _ dX0_ofOne_21 (by first | assumption | rfl) rfl (by omega) (by decide) rfl ?_
    rw [hF 5 (by decide)]
    refine wp_icmp_ne (tgt := 30) (q := 25) dX0_ofOne_22 (by decide) rfl (fun h => ?_) (fun h => ?_)
    · skip
      rw [iI_eq ha hb5] at h
      refine wp_iload_n (q := 31) dX0_ofOne_30 1 rfl rfl ?_
      refine wp_aload_n (q := 32) dX0_ofOne_31 2 rfl rfl ?_
      refine wp_bipush (q := 34) dX0_ofOne_32 zq_bipush_6 rfl ?_
      refine wp_iald (q := 35) _ dX0_ofOne_34 (by first | assumption | rfl) rfl (by omega) (by decide) rfl ?_
      rw [hF 6 (by decide)]
      refine wp_icmp_ne (tgt := 45) (q := 38) dX0_ofOne_35 (by decide) rfl (fun h2 => ?_) (fun h2 => ?_)
      · skip
        rw [iI_eq ha hb6] at h2
        rw [if_neg (by decide), if_neg h, if_neg h2]
        refine wp_iconst (q := 46) dX0_ofOne_45 zq_iconst_0 rfl ?_
        exact wp_ireturn dX0_ofOne_46 rfl ⟨rfl, rfl, rfl, rfl, rfl⟩ rfl rfl
      · skip
        rw [iI_eq ha hb6] at h2
        refine wp_aload_n (q := 39) dX0_ofOne_38 2 rfl rfl ?_
        refine wp_bipush (q := 41) dX0_ofOne_39 zq_bipush_8 rfl ?_
        refine wp_iald (q := 42) _ dX0_ofOne_41 (by first | assumption | rfl) rfl (by omega) (by decide) rfl ?_
        rw [hF 8 (by decide), if_neg (by decide), if_neg h, if_pos h2]
        refine wp_goto (tgt := 46) dX0_ofOne_42 (by decide) ?_
        exact wp_ireturn dX0_ofOne_46 rfl ⟨rfl, rfl, rfl, rfl, rfl⟩ rfl rfl
    · skip
      rw [iI_eq ha hb5] at h
      refine wp_aload_n (q := 26) dX0_ofOne_25 2 rfl rfl ?_
      refine wp_bipush (q := 28) dX0_ofOne_26 zq_bipush_7 rfl ?_
      refine wp_iald (q := 29) _ dX0_ofOne_28 (by first | assumption | rfl) rfl (by omega) (by decide) rfl ?_
      rw [hF 7 (by decide), if_neg (by decide), if_pos h]
      exact wp_ireturn dX0_ofOne_29 rfl ⟨rfl, rfl, rfl, rfl, rfl⟩ rfl rfl

