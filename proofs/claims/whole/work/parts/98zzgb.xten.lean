abbrev xl (k p wd : Nat) : List (Nat × Value) := [(3, .int (nI k)), (2, .int (nI p)), (1, .int (nI wd)), (0, .ref 2)]
def xB (B : zR) : Prop := 5 ≤ B.1 ∧ (SS.take 9).length + 0 ≤ B.2.1.length + B.2.2.1 ∧ zsl (SS.take 9) + 0 ≤ zsl B.2.1 + B.2.2.2
theorem x_ref : cqQ 7 2 5 = some 8 := by decide +kernel
section
variable {w : zWo} {B : zR} {G : zG} {E : Option zQ} {k p wd i i' v v' : Nat}
theorem x10_hd (hX : zSXG w G) (hB : xB B) (hk : k < 153) (hw : wd < 30) (kk : WP w YX10_init B G E 114 (xl k p wd) [.int (zTXb.getD k 0)] (SS.take 9) (cqM i) (cqL 0) (cqQ 7)) : WP w YX10_init B G E 93 (xl k p wd) [] (SS.take 9) (cqM i) (cqL 0) (cqQ 7) := by
  obtain ⟨b1, b2, b3⟩ := hB
  refine wp_iload_n (k := 3) dX10_init_93 0 rfl rfl ?_
  refine wp_ldcS dX10_init_94 rfl rfl rfl ?_
  refine wp_callVsx hX (as := []) (mc := 0) (ms := 0) sj_length zm_J0_length_8abf5 zl_RX10_51 dX10_init_96 rfl (by omega) (show 1 ≤ 8 by decide) rfl b2 b3 rfl ?_
  rintro _ _ _ _ _ ⟨rfl, rfl, rfl, rfl, rfl⟩ - -
  refine wp_icmp_geN (tgt := 168) dX10_init_99 rfl rfl (by omega) (by omega) (fun h => absurd h (by omega)) (fun _ => ?_)
  refine wp_iload_n (k := 1) dX10_init_102 2 rfl rfl ?_
  refine wp_bipush (v := nI 30) dX10_init_103 rfl rfl ?_
  refine wp_icmp_geN (tgt := 168) dX10_init_105 rfl rfl (by omega) (by omega) (fun h => absurd h (by omega)) (fun _ => ?_)
  refine wp_ldcS dX10_init_108 rfl rfl rfl ?_
  refine wp_iload_n (k := 3) dX10_init_110 0 rfl rfl ?_
  refine wp_callVsx hX (as := [.int (nI k)]) (st := []) (mc := 0) (ms := 0) (sj_charAt hk) zm_J0_charAt_5068e zl_RX10_57 dX10_init_111 rfl (by omega) (by decide) rfl b2 b3 rfl ?_
  rintro _ _ _ _ _ ⟨rfl, rfl, rfl, rfl, rfl⟩ - -
  exact kk
theorem x10_end1 (hX : zSXG w G) (hB : xB B) (kk : WP w YX10_init B G E 168 (xl 153 p wd) [] (SS.take 9) (cqM i) (cqL 0) (cqQ 7)) : WP w YX10_init B G E 93 (xl 153 p wd) [] (SS.take 9) (cqM i) (cqL 0) (cqQ 7) := by
  obtain ⟨b1, b2, b3⟩ := hB
  refine wp_iload_n (k := 3) dX10_init_93 0 rfl rfl ?_
  refine wp_ldcS dX10_init_94 rfl rfl rfl ?_
  refine wp_callVsx hX (as := []) (mc := 0) (ms := 0) sj_length zm_J0_length_8abf5 zl_RX10_51 dX10_init_96 rfl (by omega) (show 1 ≤ 8 by decide) rfl b2 b3 rfl ?_
  rintro _ _ _ _ _ ⟨rfl, rfl, rfl, rfl, rfl⟩ - -
  exact wp_icmp_geN (tgt := 168) dX10_init_99 rfl rfl (by omega) (by omega) (fun _ => kk) (fun h => absurd h (by omega))
theorem x10_sp (hX : zSXG w G) (hB : xB B) (hk : k < 153) (hw : wd < 30) (hc : zTXb.getD k 0 = nI 32) (kk : WP w YX10_init B G E 93 (xl (k + 1) 0 (wd + 1)) [] (SS.take 9) (cqM i) (cqL 0) (cqQ 7)) : WP w YX10_init B G E 93 (xl k p wd) [] (SS.take 9) (cqM i) (cqL 0) (cqQ 7) := by
  refine x10_hd hX hB hk hw ?_
  refine wp_bipush (v := nI 32) dX10_init_114 rfl rfl ?_
  refine wp_icmp_ne (tgt := 127) dX10_init_116 rfl rfl (fun h => absurd hc h) (fun _ => ?_)
  refine wp_iincN (n := 1) (loc' := [(1, .int (nI (wd + 1))), (3, .int (nI k)), (2, .int (nI p)), (0, .ref 2)]) dX10_init_119 rfl 2 rfl (by decide) rfl rfl ?_
  refine wp_iconst (v := nI 0) dX10_init_122 rfl rfl ?_
  refine wp_istore_n (k := 2) (i := 2) (loc' := [(2, .int (nI 0)), (1, .int (nI (wd + 1))), (3, .int (nI k)), (0, .ref 2)]) dX10_init_123 rfl (by decide) rfl rfl ?_
  refine wp_goto (tgt := 162) dX10_init_124 rfl ?_
  refine wp_iincN (n := 1) (loc' := xl (k + 1) 0 (wd + 1)) dX10_init_162 rfl 2 rfl (by decide) rfl rfl ?_
  exact wp_goto (tgt := 93) dX10_init_165 rfl kk
theorem x10_no (hX : zSXG w G) (hB : xB B) (hk : k < 153) (hw : wd < 30) (hp : 6 ≤ p) (hp2 : p < 1000) (hc : ¬ zTXb.getD k 0 = nI 32) (kk : WP w YX10_init B G E 93 (xl (k + 1) p wd) [] (SS.take 9) (cqM i) (cqL 0) (cqQ 7)) : WP w YX10_init B G E 93 (xl k p wd) [] (SS.take 9) (cqM i) (cqL 0) (cqQ 7) := by
  refine x10_hd hX hB hk hw ?_
  refine wp_bipush (v := nI 32) dX10_init_114 rfl rfl ?_
  refine wp_icmp_ne (tgt := 127) dX10_init_116 rfl rfl (fun _ => ?_) (fun h => absurd h hc)
  refine wp_iload_n (k := 2) dX10_init_127 1 rfl rfl ?_
  refine wp_bipush (v := nI 6) dX10_init_128 rfl rfl ?_
  refine wp_icmp_geN (tgt := 162) dX10_init_130 rfl rfl (by omega) (by omega) (fun _ => ?_) (fun h => absurd h (by omega))
  refine wp_iincN (n := 1) (loc' := xl (k + 1) p wd) dX10_init_162 rfl 0 rfl (by decide) rfl rfl ?_
  exact wp_goto (tgt := 93) dX10_init_165 rfl kk
theorem x10_let (hX : zSXG w G) (hB : xB B) (hk : k < 153) (hw : wd < 30) (hp : p < 6) (hc : ¬ zTXb.getD k 0 = nI 32) (hm : cqM i 8 wd = nI v) (hv : nI v + (zTXb.getD k 0 - nI 97 + nI 1) * zLW p = nI v') (hI : cqI[i]? = some (8, wd, nI v')) (hi' : i + 1 = i') (kk : WP w YX10_init B G E 93 (xl (k + 1) (p + 1) wd) [] (SS.take 9) (cqM i') (cqL 0) (cqQ 7)) : WP w YX10_init B G E 93 (xl k p wd) [] (SS.take 9) (cqM i) (cqL 0) (cqQ 7) := by
  refine x10_hd hX hB hk hw ?_
  obtain ⟨b1, b2, b3⟩ := hB
  refine wp_bipush (v := nI 32) dX10_init_114 rfl rfl ?_
  refine wp_icmp_ne (tgt := 127) dX10_init_116 rfl rfl (fun _ => ?_) (fun h => absurd h hc)
  refine wp_iload_n (k := 2) dX10_init_127 1 rfl rfl ?_
  refine wp_bipush (v := nI 6) dX10_init_128 rfl rfl ?_
  refine wp_icmp_geN (tgt := 162) dX10_init_130 rfl rfl (by omega) (by omega) (fun h => absurd h (by omega)) (fun _ => ?_)
  refine wp_aload_n (k := 0) dX10_init_133 3 rfl rfl ?_
  refine wp_getR (v := 8) dX10_init_134 zf_RX10_27 rfl (zlt_g zsh_2 (by decide)) x_ref rfl ?_
  refine wp_iload_n (k := 1) dX10_init_137 2 rfl rfl ?_
  refine wp_dup2 dX10_init_138 rfl rfl rfl ?_
  refine wp_iald wd dX10_init_139 (zlt_g zsh_8 (by decide)) rfl hw (by decide) rfl ?_
  rw [hm]
  refine wp_ldcS dX10_init_140 rfl rfl rfl ?_
  refine wp_iload_n (k := 3) dX10_init_142 0 rfl rfl ?_
  refine wp_callVsx hX (as := [.int (nI k)]) (st := [.int (nI v), .int (nI wd), .ref 8]) (mc := 0) (ms := 0) (sj_charAt hk) zm_J0_charAt_5068e zl_RX10_57 dX10_init_143 rfl (by omega) (show 3 ≤ 8 by decide) rfl b2 b3 rfl ?_
  rintro _ _ _ _ _ ⟨rfl, rfl, rfl, rfl, rfl⟩ - -
  refine wp_bipush (v := nI 97) dX10_init_146 rfl rfl ?_
  refine wp_isub dX10_init_148 rfl ?_
  refine wp_iconst (v := nI 1) dX10_init_149 rfl rfl ?_
  refine wp_iadd dX10_init_150 rfl ?_
  refine wp_getsLWN dX10_init_151 (fun U H h => h.2.2.2.2.2.2.2.2) rfl ?_
  refine wp_iload_n (k := 2) dX10_init_154 1 rfl rfl ?_
  refine wp_ialdLW p dX10_init_155 rfl hp rfl ?_
  refine wp_imul dX10_init_156 rfl ?_
  refine wp_iadd dX10_init_157 rfl ?_
  rw [hv]
  refine wp_iast wd dX10_init_158 (zlt_g zsh_8 (by decide)) rfl hw (by decide) rfl ?_
  rw [cqM_s hI hi']
  refine wp_iincN (n := 1) (loc' := [(2, .int (nI (p + 1))), (3, .int (nI k)), (1, .int (nI wd)), (0, .ref 2)]) dX10_init_159 rfl 1 rfl (by decide) rfl rfl ?_
  refine wp_iincN (n := 1) (loc' := xl (k + 1) (p + 1) wd) dX10_init_162 rfl 1 rfl (by decide) rfl rfl ?_
  exact wp_goto (tgt := 93) dX10_init_165 rfl kk
end
section
variable {w : zWo} {Y : zY} {B : zR} {G : zG} {E : Option zQ} {pc q : Nat} {loc loc' : List (Nat × Value)} {st : List Value} {n n' i i' r r' l l' : Nat}
theorem st_callIx {idx k d mc ms : Nat} {y : MethodName} {Y2 : zY} {as : List Value} {o : Nat} (hX : zSXG w G) (hsp : Spx y Y2 d (.ref o :: as) (SS.take n) (cqM i) (cqL l) (cqQ r) mc ms (cqS n' i' r' l')) (hm : zMI' y Y2 k) (hlink : Cond.methodLink Y.1 idx y ∈ lw_g) (hd : decode Y.2.1 pc = .ok (.invokespecial idx, 3)) (hn : as.length = k) (hdep : d + 1 ≤ B.1) (hcat : (st.map fun v => v.category).sum ≤ 8)
    (hc : (SS.take n).length + mc ≤ B.2.1.length + B.2.2.1) (hs : zsl (SS.take n) + ms ≤ zsl B.2.1 + B.2.2.2) (hq : pc + 3 = q) (kk : WP w Y B G E q loc st (SS.take n') (cqM i') (cqL l') (cqQ r')) : WP w Y B G E pc loc (as.reverse ++ .ref o :: st) (SS.take n) (cqM i) (cqL l) (cqQ r) := by
  refine wp_callIx hX hsp hm hlink hd hn hdep hcat hc hs hq ?_
  rintro _ _ _ _ _ ⟨rfl, rfl, rfl, rfl, rfl⟩ - -
  exact kk
end

