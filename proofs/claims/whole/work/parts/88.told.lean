def zaskN (a l o g i : Nat) : Nat := if i = 0 then a else if i = 1 then l else if i = 2 then o else if g = i - 3 then 1 else 0
theorem zaskN_f {a l o g : Nat} : ∀ i, i ≤ 5 → zfa a l o g i = (zaskN a l o g i : Int) := by
  intro i hi
  have hc : i = 0 ∨ i = 1 ∨ i = 2 ∨ i = 3 ∨ i = 4 ∨ i = 5 := by omega
  rcases hc with rfl | rfl | rfl | rfl | rfl | rfl
  · rfl
  · rfl
  · rfl
  · show (if g = 0 then (1 : Int) else 0) = ((if g = 0 then 1 else 0 : Nat) : Int)
    split <;> rfl
  · show (if g = 1 then (1 : Int) else 0) = ((if g = 1 then 1 else 0 : Nat) : Int)
    split <;> rfl
  · show (if g = 2 then (1 : Int) else 0) = ((if g = 2 then 1 else 0 : Nat) : Int)
    split <;> rfl
theorem zaskN_b {a l o g i : Nat} (ha : a ≤ 99) (hl : l ≤ 9) (ho : o ≤ 9) : zaskN a l o g i ≤ 99 := by
  unfold zaskN
  repeat' split
  all_goals omega
theorem zfa_b6 {a l o g : Nat} (ha : a ≤ 99) (hl : l ≤ 9) (ho : o ≤ 9) : zFb (zfa a l o g) := by
  intro i hi
  unfold zfa zb6
  repeat' split
  all_goals omega
theorem zop_2 {F : Nat → Int} {op arg : Nat} {a b : Int} {st : List Int} (h4 : 4 ≤ op) (h9 : op ≤ 9) : zop F op arg (b :: a :: st) = zbin op a b :: st := by
  unfold zop
  rw [if_neg (by omega), if_neg (by omega), if_neg (by omega)]
  show (if op = 2 then _ else if op = 3 then _ else _) = _
  rw [if_neg (by omega), if_neg (by omega)]
set_option maxHeartbeats 4000000 in
set_option maxRecDepth 100000 in
theorem sp_mtold {d t n wc s hd o ms r : Nat} {M : zMI} {L : zML} {tb : zTb} {v : Nat → Nat} {F : zFl} (h : zMc M n tb v) (hw : wc < 2) (hs : s < n) (hh : hd < 2) (ho : o < n) (hms : ms ≤ 999) (hsum : zMsu M wc (some F)) (hr : zclN ms (zhd (zeva (zfa (tb.1 (wh v s) hd) (lw v s hd) (lw v o (1 - hd)) (gr v s hd)) F [])) = r) : Sy yX12_told YX12_told (d + 2) [.ref 177, .int (nI wc), .int (nI s), .int (nI hd), .int (nI o), .int (nI ms)] M L (zRf t) (fun v0 M' L' R' => v0 = some (.int (nI r)) ∧ R' = zRf t ∧ zTo M M' L L') := by
  refine Sp.of (by decide +kernel) rfl (fun h => by first | exact h | cases h) (Nat.le_of_ble_eq_true rfl) ?_
  intro w G
  have h8 := h.2.1.1.1
  have hnw := h.2.1
  have hwh := hnw.1.2.1 s hs
  have ha9 := (h.2.2.1 _ _ hwh hh).2
  have hl9 := (hnw.1.2.2.2.2.1 s hd hs hh).2
  have hg2 := (hnw.1.2.2.2.2.1 s hd hs hh).1
  have ho9 := (hnw.1.2.2.2.2.1 o (1 - hd) ho (by omega)).2
  obtain ⟨f, f1, f2, f3, f4, f5⟩ := hsum
  obtain ⟨A, hA⟩ : ∃ A, tb.1 (wh v s) hd = A := ⟨_, rfl⟩
  obtain ⟨l, hl⟩ : ∃ l, lw v s hd = l := ⟨_, rfl⟩
  obtain ⟨p, hp⟩ : ∃ p, lw v o (1 - hd) = p := ⟨_, rfl⟩
  obtain ⟨g, hg⟩ : ∃ g, gr v s hd = g := ⟨_, rfl⟩
  rw [hA] at ha9
  rw [hl] at hl9
  rw [hp] at ho9
  rw [hg] at hg2
  rw [hA, hl, hp, hg] at hr
  have hFb := zfa_b6 (g := g) ha9 hl9 ho9
  have nw : ∀ {M' : zMI} {L' : zML}, zTo M M' L L' → zNw M' n v := fun e => zNw_fr hnw (e.1 215 (by decide) (by decide))
  have fin : ∀ z (M2 : zMI) (L2 : zML), zeva (zfa A l p g) F [] = [z] → zb6 z → L2 213 0 = lI z → zTo M M2 L L2 → WP w YX12_told (d + 2, SS, 0, 0) G (some (zXp (fun v0 M' L' R' => v0 = some (.int (nI r)) ∧ R' = zRf t ∧ zTo M M' L L'))) 187 [(6, .int (nI (f + F.length))), (0, .ref 177), (1, .int (nI wc)), (2, .int (nI s)), (3, .int (nI hd)), (4, .int (nI o)), (5, .int (nI ms))] [] SS M2 L2 (zRf t) := by
    intro z M2 L2 hz hzb hL hto
    have e : ∀ k, zclN ms z = k → r = k := fun k hk => by rw [← hr, hz]; exact hk
    have z0 : zbL 0 := ⟨by decide, by decide⟩
    have zms : zbL (ms : Int) := ⟨by omega, by omega⟩
    obtain ⟨zb1, zb2⟩ := id hzb
    refine wp_aload_n (q := 188) dX12_told_187 1 rfl rfl ?_
    refine wp_getR (q := 191) dX12_told_188 zf_RX12_121 rfl zsh_177 (zr_177_49 _) rfl ?_
    refine wp_iconst (q := 192) dX12_told_191 zq_iconst_0 rfl ?_
    refine wp_lald (q := 193) _ dX12_told_192 zsh_213 rfl (by omega) (by decide) rfl ?_
    rw [hL]
    refine wp_lconst (q := 194) dX12_told_193 zq_lconst_0 rfl ?_
    rw [show lN 0 = lI 0 from rfl]
    refine wp_lcmp_ge (tgt := 202) (q := 198) dX12_told_194 rfl dX12_told_195 (by decide) rfl (fun c0 => ?_) (fun c0 => ?_)
    · skip
      have c0' : 0 ≤ z := (lI_le z0 (zb6_L hzb)).mp c0
      refine wp_aload_n (q := 203) dX12_told_202 1 rfl rfl ?_
      refine wp_getR (q := 206) dX12_told_203 zf_RX12_121 rfl zsh_177 (zr_177_49 _) rfl ?_
      refine wp_iconst (q := 207) dX12_told_206 zq_iconst_0 rfl ?_
      refine wp_lald (q := 208) _ dX12_told_207 zsh_213 rfl (by omega) (by decide) rfl ?_
      rw [hL]
      refine wp_iload (q := 210) dX12_told_208 6 rfl rfl ?_
      refine wp_i2lN (q := 211) dX12_told_210 (by omega) rfl ?_
      rw [lN_I]
      refine wp_lcmp_le (tgt := 220) (q := 215) dX12_told_211 rfl dX12_told_212 (by decide) rfl (fun c1 => ?_) (fun c1 => ?_)
      · skip
        have c1' : z ≤ ms := (lI_le (zb6_L hzb) zms).mp c1
        refine wp_aload_n (q := 221) dX12_told_220 1 rfl rfl ?_
        refine wp_getR (q := 224) dX12_told_221 zf_RX12_121 rfl zsh_177 (zr_177_49 _) rfl ?_
        refine wp_iconst (q := 225) dX12_told_224 zq_iconst_0 rfl ?_
        refine wp_lald (q := 226) _ dX12_told_225 zsh_213 rfl (by omega) (by decide) rfl ?_
        rw [hL]
        refine wp_l2i (q := 227) dX12_told_226 rfl ?_
        rw [lI_I, show iI z = nI z.toNat from by rw [nI_I, Int.toNat_of_nonneg c0']]
        exact wp_ireturn dX12_told_227 rfl ⟨rfl, ⟨by rw [e z.toNat (by unfold zclN; rw [if_neg (by omega), if_neg (by omega)])], rfl, hto⟩⟩ rfl rfl
      · skip
        have c1' : (ms : Int) < z := Int.not_le.mp (fun e => c1 ((lI_le (zb6_L hzb) zms).mpr e))
        refine wp_iload (q := 217) dX12_told_215 6 rfl rfl ?_
        refine wp_goto (tgt := 227) dX12_told_217 (by decide) ?_
        exact wp_ireturn dX12_told_227 rfl ⟨rfl, ⟨by rw [e ms (by unfold zclN; rw [if_neg (by omega), if_pos c1'])], rfl, hto⟩⟩ rfl rfl
    · skip
      have c0' : z < 0 := Int.not_le.mp (fun e => c0 ((lI_le z0 (zb6_L hzb)).mpr e))
      refine wp_iconst (q := 199) dX12_told_198 zq_iconst_0 rfl ?_
      refine wp_goto (tgt := 227) dX12_told_199 (by decide) ?_
      exact wp_ireturn dX12_told_227 rfl ⟨rfl, ⟨by rw [e 0 (by unfold zclN; rw [if_pos c0'])], rfl, hto⟩⟩ rfl rfl
  have loop : ∀ (q : zFl) (i : Nat) (st : List Int) (ts : List Bool) (M2 : zMI) (L2 : zML), i + q.length = F.length → (∀ j, F[i + j]? = q[j]?) → ztr q ts = some [false] → zvt ts st → zeva (zfa A l p g) q st = zeva (zfa A l p g) F [] → zpl0 L2 213 st → M2 177 50 = nI st.length → (∀ j, j ≤ 5 → M2 214 j = nI (zaskN A l p g j)) → zTo M M2 L L2 → WP w YX12_told (d + 2, SS, 0, 0) G (some (zXp (fun v0 M' L' R' => v0 = some (.int (nI r)) ∧ R' = zRf t ∧ zTo M M' L L'))) 94 [(6, .int (nI (f + i))), (0, .ref 177), (1, .int (nI wc)), (2, .int (nI s)), (3, .int (nI hd)), (4, .int (nI o)), (5, .int (nI ms))] [] SS M2 L2 (zRf t) := by
    intro q
    induction q with
    | nil =>
      intro i st ts M2 L2 hi hq htr hv he hk hpd hak hto
      have hts : ts = [false] := Option.some.inj htr
      subst hts
      cases st with
      | nil => exact absurd hv id
      | cons z zs =>
        cases zs with
        | cons => exact absurd hv.2.2 id
        | nil =>
          rw [List.length_nil, Nat.add_zero] at hi
          refine wp_iload (q := 96) dX12_told_94 0 rfl rfl ?_
          refine wp_aload_n (q := 97) dX12_told_96 1 rfl rfl ?_
          refine wp_getR (q := 100) dX12_told_97 zf_RX12_112 rfl zsh_177 (zr_177_41 _) rfl ?_
          refine wp_iconst (q := 101) dX12_told_100 zq_iconst_2 rfl ?_
          refine wp_iload_n (q := 102) dX12_told_101 2 rfl rfl ?_
          refine wp_iaddN (q := 103) dX12_told_102 rfl ?_
          refine wp_iald (q := 104) _ dX12_told_103 zsh_210 rfl (by omega) (by decide) rfl ?_
          rw [hto.1 210 (by decide) (by decide), f2, hi]
          refine wp_icmp_geN (tgt := 187) (q := 107) dX12_told_104 (by decide) rfl (by omega) (by omega) (fun _ => ?_) (fun hn => absurd hn (by first | omega | exact fun h => h | exact fun h => h trivial))
          refine WP.sub (loc' := [(6, _), (0, _), (1, _), (2, _), (3, _), (4, _), (5, _)]) [0, 1, 2, 3, 4, 5, 6] rfl ?_
          exact fin z M2 L2 he.symm hv.1 (zpl0_hd hk) hto
    | cons oa q ih =>
      obtain ⟨op, arg⟩ := oa
      intro i st ts M2 L2 hi hq htr hv he hk hpd hak hto
      rw [List.length_cons] at hi
      have hcur : F[i]? = some (op, arg) := by have := hq 0; rw [Nat.add_zero] at this; exact this
      obtain ⟨c1, c2, c3, c4, c5⟩ := f4 i op arg hcur
      have hlen := zvt_len hv
      have hnext : ∀ j, F[i + 1 + j]? = q[j]? := fun j => by
        have := hq (j + 1)
        rw [show i + (j + 1) = i + 1 + j by omega, List.getElem?_cons_succ] at this
        exact this
      unfold ztr at htr
      split at htr
      · rename_i hcond
        obtain ⟨d1, d2, d3, d4⟩ := hcond
        cases htc : ztc op ts with
        | none => rw [htc] at htr; cases htr
        | some ts' =>
          rw [htc] at htr
          have htr2 : ztr q ts' = some [false] := htr
          have hv2 := zvt_op (arg := arg) hFb hv d3 d4 htc
          have he2 : zeva (zfa A l p g) q (zop (zfa A l p g) op arg st) = zeva (zfa A l p g) F [] := he
          have hlen2 := zvt_len hv
          have hgo : ∀ (M3 : zMI) (L3 : zML) (z7 : Nat), zpl0 L3 213 (zop (zfa A l p g) op arg st) → M3 177 50 = nI (zop (zfa A l p g) op arg st).length → (∀ x, x ≠ 177 → M3 x = M2 x) → (∀ k, k ≠ 50 → M3 177 k = M2 177 k) → (∀ x, x ≠ 213 → L3 x = L2 x) → WP w YX12_told (d + 2, SS, 0, 0) G (some (zXp (fun v0 M' L' R' => v0 = some (.int (nI r)) ∧ R' = zRf t ∧ zTo M M' L L'))) 94 [(6, .int (nI (f + (i + 1)))), (0, .ref 177), (1, .int (nI wc)), (2, .int (nI s)), (3, .int (nI hd)), (4, .int (nI o)), (5, .int (nI ms))] [] SS M3 L3 (zRf t) := fun M3 L3 z7 hk3 hp3 x1 x2 x3 => ih (i + 1) _ ts' M3 L3 (by omega) hnext htr2 hv2 he2 hk3 hp3 (fun j hj => by rw [x1 214 (by decide)]; exact hak j hj) (zTo_t hto ⟨fun x a b => x1 x b, x2, x3⟩)
          have h100 : zcd op arg < 20000 := by
            unfold zcd
            split
            · have := d3 (by assumption); omega
            · split <;> omega
          refine wp_iload (q := 96) dX12_told_94 0 rfl rfl ?_
          refine wp_aload_n (q := 97) dX12_told_96 1 rfl rfl ?_
          refine wp_getR (q := 100) dX12_told_97 zf_RX12_112 rfl zsh_177 (zr_177_41 _) rfl ?_
          refine wp_iconst (q := 101) dX12_told_100 zq_iconst_2 rfl ?_
          refine wp_iload_n (q := 102) dX12_told_101 2 rfl rfl ?_
          refine wp_iaddN (q := 103) dX12_told_102 rfl ?_
          refine wp_iald (q := 104) _ dX12_told_103 zsh_210 rfl (by omega) (by decide) rfl ?_
          rw [hto.1 210 (by decide) (by decide), f2]
          refine wp_icmp_geN (tgt := 187) (q := 107) dX12_told_104 (by decide) rfl (by omega) (by omega) (fun hn => absurd hn (by first | omega | exact fun h => h | exact fun h => h trivial)) (fun _ => ?_)
          refine wp_aload_n (q := 108) dX12_told_107 1 rfl rfl ?_
          refine wp_getR (q := 111) dX12_told_108 zf_RX12_115 rfl zsh_177 (zr_177_43 _) rfl ?_
          refine wp_sipush (q := 114) dX12_told_111 zq_sipush_1600 rfl ?_
          refine wp_iload (q := 116) dX12_told_114 0 rfl rfl ?_
          refine wp_iaddN (q := 117) dX12_told_116 rfl ?_
          refine wp_iald (q := 118) _ dX12_told_117 zsh_211 rfl (by omega) (by decide) rfl ?_
          rw [hto.1 211 (by decide) (by decide), c1]
          refine wp_istore (q := 120) (loc' := [(7, _), (6, _), (0, _), (1, _), (2, _), (3, _), (4, _), (5, _)]) dX12_told_118 (by decide) rfl rfl ?_
          refine wp_iload (q := 122) dX12_told_120 0 rfl rfl ?_
          refine wp_sipush (q := 125) dX12_told_122 zq_sipush_1000 rfl ?_
          by_cases o0 : op = 0
          · subst o0
            have e0 : zcd 0 arg = 1000 + arg := rfl
            have hz : zop (zfa A l p g) 0 arg st = (arg : Int) :: st := rfl
            have ha9999 := d3 rfl
            rw [hz] at hgo
            rw [e0]
            refine wp_icmp_ltN (tgt := 142) (q := 128) dX12_told_125 (by decide) rfl (by omega) (by omega) (fun hn => absurd hn (by first | omega | exact fun h => h | exact fun h => h trivial)) (fun _ => ?_)
            refine wp_aload_n (q := 129) dX12_told_128 2 rfl rfl ?_
            refine wp_iload (q := 131) dX12_told_129 0 rfl rfl ?_
            refine wp_sipush (q := 134) dX12_told_131 zq_sipush_1000 rfl ?_
            refine wp_isubN (q := 135) dX12_told_134 (by omega) rfl ?_
            refine wp_i2lN (q := 136) dX12_told_135 (by omega) rfl ?_
            rw [show 1000 + arg - 1000 = arg by omega, lN_I]
            refine wp_cvy (q := 139) (sp_mputs (d := 0) hk hpd (by omega)) zm_X12_puts zl_RX12_400 dX12_told_136 rfl (by omega) (Nat.le_of_ble_eq_true rfl) zsh_177 rfl rfl ?_
            rintro _ _ L3 _ ⟨rfl, rfl, g1, rfl, g2⟩
            refine wp_goto (tgt := 181) dX12_told_139 (by decide) ?_
            refine wp_iincN (q := 184) (loc' := [(6, _), (7, _), (0, _), (1, _), (2, _), (3, _), (4, _), (5, _)]) (n := 1) dX12_told_181 rfl 1 rfl (by decide) rfl rfl ?_
            refine wp_goto (tgt := 94) dX12_told_184 (by decide) ?_
            refine WP.sub (loc' := [(6, _), (0, _), (1, _), (2, _), (3, _), (4, _), (5, _)]) [0, 2, 3, 4, 5, 6, 7] rfl ?_
            exact hgo _ L3 0 g1 zu_s (fun x hx => zu_ne hx) (fun k hk => zu_k hk) g2
          · by_cases o1 : op = 1
            · subst o1
              have ha5 := c5 rfl
              have e0 : zcd 1 arg = 7 + arg := rfl
              have hz : zop (zfa A l p g) 1 arg st = zfa A l p g arg :: st := rfl
              rw [hz, zaskN_f arg ha5] at hgo
              rw [e0]
              have hin : lN 7 ≤ lN (7 + arg) ∧ lN (7 + arg) ≤ lN 12 := by
                rw [Int64.le_iff_toInt_le, Int64.le_iff_toInt_le, lN_I, lN_I, lN_I, lI_t (by omega) (by omega), lI_t (by omega) (by omega), lI_t (by omega) (by omega)]
                omega
              have hab := zaskN_b (i := arg) (g := g) ha9 hl9 ho9
              refine wp_icmp_ltN (tgt := 142) (q := 128) dX12_told_125 (by decide) rfl (by omega) (by omega) (fun _ => ?_) (fun hn => absurd hn (by first | omega | exact fun h => h | exact fun h => h trivial))
              refine wp_iload (q := 144) dX12_told_142 0 rfl rfl ?_
              refine wp_i2lN (q := 145) dX12_told_144 (by omega) rfl ?_
              refine wp_ldc2_w (q := 148) dX12_told_145 zk_RX12_424 rfl ?_
              refine wp_ldc2_w (q := 151) dX12_told_148 zk_RX12_426 rfl ?_
              rw [zlitL 7, zlitL 12]
              refine wp_csx (q := 154) (sp_isIn (d := 0)) zm_X12_isIn zl_RX12_276 dX12_told_151 rfl (by omega) (Nat.le_of_ble_eq_true rfl) rfl ?_
              rw [if_pos hin]
              refine wp_if_eqN (tgt := 175) (q := 157) dX12_told_154 (by decide) rfl (by omega) (fun hn => absurd hn (by first | omega | exact fun h => h | exact fun h => h trivial)) (fun _ => ?_)
              refine wp_aload_n (q := 158) dX12_told_157 2 rfl rfl ?_
              refine wp_aload_n (q := 159) dX12_told_158 2 rfl rfl ?_
              refine wp_getR (q := 162) dX12_told_159 zf_RX12_124 rfl zsh_177 (zr_177_51 _) rfl ?_
              refine wp_iload (q := 164) dX12_told_162 0 rfl rfl ?_
              refine wp_bipush (q := 166) dX12_told_164 zq_bipush_7 rfl ?_
              refine wp_isubN (q := 167) dX12_told_166 (by omega) rfl ?_
              rw [show 7 + arg - 7 = arg by omega]
              refine wp_iald (q := 168) _ dX12_told_167 zsh_214 rfl (by omega) (by decide) rfl ?_
              rw [hak arg ha5]
              refine wp_i2lN (q := 169) dX12_told_168 (by omega) rfl ?_
              rw [lN_I]
              refine wp_cvy (q := 172) (sp_mputs (d := 0) hk hpd (by omega)) zm_X12_puts zl_RX12_400 dX12_told_169 rfl (by omega) (Nat.le_of_ble_eq_true rfl) zsh_177 rfl rfl ?_
              rintro _ _ L3 _ ⟨rfl, rfl, g1, rfl, g2⟩
              refine wp_goto (tgt := 181) dX12_told_172 (by decide) ?_
              refine wp_iincN (q := 184) (loc' := [(6, _), (7, _), (0, _), (1, _), (2, _), (3, _), (4, _), (5, _)]) (n := 1) dX12_told_181 rfl 1 rfl (by decide) rfl rfl ?_
              refine wp_goto (tgt := 94) dX12_told_184 (by decide) ?_
              refine WP.sub (loc' := [(6, _), (0, _), (1, _), (2, _), (3, _), (4, _), (5, _)]) [0, 2, 3, 4, 5, 6, 7] rfl ?_
              exact hgo _ L3 0 g1 zu_s (fun x hx => zu_ne hx) (fun k hk => zu_k hk) g2
            · have h4 : 4 ≤ op := by omega
              have e0 : zcd op arg = op - 3 := by unfold zcd; rw [if_neg o0, if_neg o1]
              rw [e0]
              have hin : ¬ (lN 7 ≤ lN (op - 3) ∧ lN (op - 3) ≤ lN 12) := by
                rw [Int64.le_iff_toInt_le, lN_I, lN_I, lI_t (by omega) (by omega), lI_t (by omega) (by omega)]
                omega
              refine wp_icmp_ltN (tgt := 142) (q := 128) dX12_told_125 (by decide) rfl (by omega) (by omega) (fun _ => ?_) (fun hn => absurd hn (by first | omega | exact fun h => h | exact fun h => h trivial))
              refine wp_iload (q := 144) dX12_told_142 0 rfl rfl ?_
              refine wp_i2lN (q := 145) dX12_told_144 (by omega) rfl ?_
              refine wp_ldc2_w (q := 148) dX12_told_145 zk_RX12_424 rfl ?_
              refine wp_ldc2_w (q := 151) dX12_told_148 zk_RX12_426 rfl ?_
              rw [zlitL 7, zlitL 12]
              refine wp_csx (q := 154) (sp_isIn (d := 0)) zm_X12_isIn zl_RX12_276 dX12_told_151 rfl (by omega) (Nat.le_of_ble_eq_true rfl) rfl ?_
              rw [if_neg hin]
              refine wp_if_eqN (tgt := 175) (q := 157) dX12_told_154 (by decide) rfl (by omega) (fun _ => ?_) (fun hn => absurd hn (by first | omega | exact fun h => h | exact fun h => h trivial))
              refine wp_aload_n (q := 176) dX12_told_175 2 rfl rfl ?_
              refine wp_iload (q := 178) dX12_told_176 0 rfl rfl ?_
              cases ts with
              | nil =>
                unfold ztc at htc
                rw [if_neg (by omega), if_neg (by omega)] at htc
                cases htc
              | cons x1 ts1 =>
                cases ts1 with
                | nil =>
                  unfold ztc at htc
                  rw [if_neg (by omega), if_neg (by omega)] at htc
                  change (if op = 2 then _ else if op = 3 then _ else none) = _ at htc
                  rw [if_neg (by omega), if_neg (by omega)] at htc
                  cases htc
                | cons x2 ts2 =>
                  cases st with
                  | nil => exact absurd hv id
                  | cons b st1 =>
                    cases st1 with
                    | nil => exact absurd hv.2.2 id
                    | cons a st2 =>
                      rw [zop_2 h4 c2] at hgo
                      have hst : (b :: a :: st2).length = st2.length + 2 := rfl
                      refine wp_cvy (q := 181) (sp_mjoins (d := 0) hk hpd (by omega) hv.2.2.1 hv.1 h4 c2) zm_X12_joins zl_RX12_428 dX12_told_178 rfl (by omega) (Nat.le_of_ble_eq_true rfl) zsh_177 rfl rfl ?_
                      rintro _ _ L3 _ ⟨rfl, rfl, g1, rfl, g2⟩
                      refine wp_iincN (q := 184) (loc' := [(6, _), (7, _), (0, _), (1, _), (2, _), (3, _), (4, _), (5, _)]) (n := 1) dX12_told_181 rfl 1 rfl (by decide) rfl rfl ?_
                      refine wp_goto (tgt := 94) dX12_told_184 (by decide) ?_
                      refine WP.sub (loc' := [(6, _), (0, _), (1, _), (2, _), (3, _), (4, _), (5, _)]) [0, 2, 3, 4, 5, 6, 7] rfl ?_
                      exact hgo _ L3 0 g1 zu_s (fun x hx => by rw [zu_ne hx, zu_ne hx]) (fun k hk => by rw [zu_k hk, zu_k hk]) g2
      · cases htr
  have gloop : ∀ q k (M2 : zMI), k + q = 3 → (∀ j, j < 3 + k → M2 214 j = nI (zaskN A l p g j)) → zTo M M2 L L → WP w YX12_told (d + 2, SS, 0, 0) G (some (zXp (fun v0 M' L' R' => v0 = some (.int (nI r)) ∧ R' = zRf t ∧ zTo M M' L L'))) 42 [(6, .int (nI k)), (0, .ref 177), (1, .int (nI wc)), (2, .int (nI s)), (3, .int (nI hd)), (4, .int (nI o)), (5, .int (nI ms))] [] SS M2 L (zRf t) := by
    intro q
    induction q with
    | zero =>
      intro k M2 hk hak hto
      refine wp_iload (q := 44) dX12_told_42 0 rfl rfl ?_
      refine wp_iconst (q := 45) dX12_told_44 zq_iconst_3 rfl ?_
      refine wp_icmp_geN (tgt := 79) (q := 48) dX12_told_45 (by decide) rfl (by omega) (by omega) (fun _ => ?_) (fun hn => absurd hn (by first | omega | exact fun h => h | exact fun h => h trivial))
      refine wp_aload_n (q := 80) dX12_told_79 1 rfl rfl ?_
      refine wp_iconst (q := 81) dX12_told_80 zq_iconst_0 rfl ?_
      refine wp_putI (q := 84) dX12_told_81 zf_RX12_393 rfl zsh_177 rfl ?_
      refine wp_aload_n (q := 85) dX12_told_84 1 rfl rfl ?_
      refine wp_getR (q := 88) dX12_told_85 zf_RX12_109 rfl zsh_177 (zr_177_40 _) rfl ?_
      refine wp_iconst (q := 89) dX12_told_88 zq_iconst_2 rfl ?_
      refine wp_iload_n (q := 90) dX12_told_89 2 rfl rfl ?_
      refine wp_iaddN (q := 91) dX12_told_90 rfl ?_
      refine wp_iald (q := 92) _ dX12_told_91 zsh_209 rfl (by omega) (by decide) rfl ?_
      rw [zu_ne (by decide), hto.1 209 (by decide) (by decide), f1]
      refine wp_istore (q := 94) (loc' := [(6, _), (0, _), (1, _), (2, _), (3, _), (4, _), (5, _)]) dX12_told_92 (by decide) rfl rfl ?_
      refine WP.sub (loc' := [(6, _), (0, _), (1, _), (2, _), (3, _), (4, _), (5, _)]) [0, 1, 2, 3, 4, 5, 6] rfl ?_
      refine loop F 0 [] [] _ L (Nat.zero_add _) (fun j => by rw [Nat.zero_add]) f5 trivial rfl (fun j z hj => by simp at hj) zu_s (fun j hj => by rw [zu_ne (by decide)]; exact hak j (by omega)) (zTo_t hto ⟨fun x a b => zu_ne b, fun k a => zu_k a, fun _ _ => rfl⟩)
    | succ q ih =>
      intro k M2 hk hak hto
      have hv : zaskN A l p g (3 + k) = if g = k then 1 else 0 := by
        unfold zaskN
        rw [if_neg (by omega), if_neg (by omega), if_neg (by omega), show 3 + k - 3 = k by omega]
      have next : ∀ x, x = zaskN A l p g (3 + k) → WP w YX12_told (d + 2, SS, 0, 0) G (some (zXp (fun v0 M' L' R' => v0 = some (.int (nI r)) ∧ R' = zRf t ∧ zTo M M' L L'))) 42 [(6, .int (nI (k + 1))), (0, .ref 177), (1, .int (nI wc)), (2, .int (nI s)), (3, .int (nI hd)), (4, .int (nI o)), (5, .int (nI ms))] [] SS (zu M2 214 (3 + k) (nI x)) L (zRf t) := fun x hx => ih (k + 1) _ (by omega) (fun j hj => by
        by_cases e : j = 3 + k
        · rw [e, zu_s, hx]
        · rw [zu_k e]; exact hak j (by omega)) (zTo_t hto ⟨fun y a b => zu_ne a, fun y a => by rw [zu_ne (by decide)], fun _ _ => rfl⟩)
      refine wp_iload (q := 44) dX12_told_42 0 rfl rfl ?_
      refine wp_iconst (q := 45) dX12_told_44 zq_iconst_3 rfl ?_
      refine wp_icmp_geN (tgt := 79) (q := 48) dX12_told_45 (by decide) rfl (by omega) (by omega) (fun hn => absurd hn (by first | omega | exact fun h => h | exact fun h => h trivial)) (fun _ => ?_)
      refine wp_aload_n (q := 49) dX12_told_48 1 rfl rfl ?_
      refine wp_getR (q := 52) dX12_told_49 zf_RX12_124 rfl zsh_177 (zr_177_51 _) rfl ?_
      refine wp_iconst (q := 53) dX12_told_52 zq_iconst_3 rfl ?_
      refine wp_iload (q := 55) dX12_told_53 0 rfl rfl ?_
      refine wp_iaddN (q := 56) dX12_told_55 rfl ?_
      refine wp_aload_n (q := 57) dX12_told_56 1 rfl rfl ?_
      refine wp_iload_n (q := 58) dX12_told_57 3 rfl rfl ?_
      refine wp_iload_n (q := 59) dX12_told_58 4 rfl rfl ?_
      refine wp_cvx (q := 62) (sp_mgrip (d := 0) (nw hto) hs hh) zm_X12_gripOf zl_RX12_421 dX12_told_59 rfl (by omega) (Nat.le_of_ble_eq_true rfl) zsh_177 rfl rfl ?_
      rw [hg]
      refine wp_iload (q := 64) dX12_told_62 0 rfl rfl ?_
      refine wp_icmp_neN (tgt := 71) (q := 67) dX12_told_64 (by decide) rfl (by omega) (by omega) (fun c => ?_) (fun c => ?_)
      · skip
        refine wp_iconst (q := 72) dX12_told_71 zq_iconst_0 rfl ?_
        refine wp_iast (q := 73) _ dX12_told_72 zsh_214 rfl (by omega) (by decide) rfl ?_
        refine wp_iincN (q := 76) (loc' := [(6, _), (0, _), (1, _), (2, _), (3, _), (4, _), (5, _)]) (n := 1) dX12_told_73 rfl 0 rfl (by decide) rfl rfl ?_
        refine wp_goto (tgt := 42) dX12_told_76 (by decide) ?_
        refine WP.sub (loc' := [(6, _), (0, _), (1, _), (2, _), (3, _), (4, _), (5, _)]) [0, 1, 2, 3, 4, 5, 6] rfl ?_
        exact next 0 (by rw [hv, if_neg c])
      · skip
        refine wp_iconst (q := 68) dX12_told_67 zq_iconst_1 rfl ?_
        refine wp_goto (tgt := 72) dX12_told_68 (by decide) ?_
        refine wp_iast (q := 73) _ dX12_told_72 zsh_214 rfl (by omega) (by decide) rfl ?_
        refine wp_iincN (q := 76) (loc' := [(6, _), (0, _), (1, _), (2, _), (3, _), (4, _), (5, _)]) (n := 1) dX12_told_73 rfl 0 rfl (by decide) rfl rfl ?_
        refine wp_goto (tgt := 42) dX12_told_76 (by decide) ?_
        refine WP.sub (loc' := [(6, _), (0, _), (1, _), (2, _), (3, _), (4, _), (5, _)]) [0, 1, 2, 3, 4, 5, 6] rfl ?_
        exact next 1 (by rw [hv, if_pos c])
  refine wp_aload_n (q := 1) dX12_told_0 0 rfl rfl ?_
  refine wp_getR (q := 4) dX12_told_1 zf_RX12_124 rfl zsh_177 (zr_177_51 _) rfl ?_
  refine wp_iconst (q := 5) dX12_told_4 zq_iconst_0 rfl ?_
  refine wp_aload_n (q := 6) dX12_told_5 0 rfl rfl ?_
  refine wp_iload_n (q := 7) dX12_told_6 2 rfl rfl ?_
  refine wp_iload_n (q := 8) dX12_told_7 3 rfl rfl ?_
  refine wp_cvx (q := 11) (sp_marm (d := 0) h hs hh) zm_X12_armOf zl_RX12_415 dX12_told_8 rfl (by omega) (Nat.le_of_ble_eq_true rfl) zsh_177 rfl rfl ?_
  rw [hA]
  refine wp_iast (q := 12) _ dX12_told_11 zsh_214 rfl (by omega) (by decide) rfl ?_
  refine wp_aload_n (q := 13) dX12_told_12 0 rfl rfl ?_
  refine wp_getR (q := 16) dX12_told_13 zf_RX12_124 rfl zsh_177 (zr_177_51 _) rfl ?_
  refine wp_iconst (q := 17) dX12_told_16 zq_iconst_1 rfl ?_
  refine wp_aload_n (q := 18) dX12_told_17 0 rfl rfl ?_
  refine wp_iload_n (q := 19) dX12_told_18 2 rfl rfl ?_
  refine wp_iload_n (q := 20) dX12_told_19 3 rfl rfl ?_
  have t1 : zTo M (zu M 214 0 (nI A)) L L := ⟨fun x a b => zu_ne a, fun k a => by rw [zu_ne (by decide)], fun _ _ => rfl⟩
  refine wp_cvx (q := 23) (sp_mlow (d := 0) (nw t1) hs hh) zm_X12_lowOf zl_RX12_418 dX12_told_20 rfl (by omega) (Nat.le_of_ble_eq_true rfl) zsh_177 rfl rfl ?_
  rw [hl]
  refine wp_iast (q := 24) _ dX12_told_23 zsh_214 rfl (by omega) (by decide) rfl ?_
  refine wp_aload_n (q := 25) dX12_told_24 0 rfl rfl ?_
  refine wp_getR (q := 28) dX12_told_25 zf_RX12_124 rfl zsh_177 (zr_177_51 _) rfl ?_
  refine wp_iconst (q := 29) dX12_told_28 zq_iconst_2 rfl ?_
  refine wp_aload_n (q := 30) dX12_told_29 0 rfl rfl ?_
  refine wp_iload (q := 32) dX12_told_30 4 rfl rfl ?_
  refine wp_iconst (q := 33) dX12_told_32 zq_iconst_1 rfl ?_
  refine wp_iload_n (q := 34) dX12_told_33 3 rfl rfl ?_
  refine wp_isubN (q := 35) dX12_told_34 (by omega) rfl ?_
  have t2 : zTo M (zu (zu M 214 0 (nI A)) 214 1 (nI l)) L L := zTo_t t1 ⟨fun x a b => zu_ne a, fun k a => by rw [zu_ne (by decide)], fun _ _ => rfl⟩
  refine wp_cvx (q := 38) (sp_mlow (d := 0) (nw t2) ho (by omega : 1 - hd < 2)) zm_X12_lowOf zl_RX12_418 dX12_told_35 rfl (by omega) (Nat.le_of_ble_eq_true rfl) zsh_177 rfl rfl ?_
  rw [hp]
  refine wp_iast (q := 39) _ dX12_told_38 zsh_214 rfl (by omega) (by decide) rfl ?_
  refine wp_iconst (q := 40) dX12_told_39 zq_iconst_0 rfl ?_
  refine wp_istore (q := 42) (loc' := [(6, _), (0, _), (1, _), (2, _), (3, _), (4, _), (5, _)]) dX12_told_40 (by decide) rfl rfl ?_
  refine WP.sub (loc' := [(6, _), (0, _), (1, _), (2, _), (3, _), (4, _), (5, _)]) [0, 1, 2, 3, 4, 5, 6] rfl ?_
  refine gloop 3 0 _ (by decide) (fun j hj => ?_) (zTo_t t2 ⟨fun x a b => zu_ne a, fun k a => by rw [zu_ne (by decide)], fun _ _ => rfl⟩)
  have hj3 : j = 0 ∨ j = 1 ∨ j = 2 := by omega
  rcases hj3 with rfl | rfl | rfl
  · rw [zu_k (by decide), zu_k (by decide), zu_s]; rfl
  · rw [zu_k (by decide), zu_s]; rfl
  · rw [zu_s]; rfl

