def zAc (M : zMI) (n : Nat) (le : Int64) (a : Nat × List Nat) : Prop := (le = -1 ∧ 1000000000000 ≤ a.1) ∨ (le = lN a.1 ∧ a.1 ≤ 1000000000 ∧ ∀ i, i < n → M 222 i = nI (a.2.getD i 0))
def zTq (M : zMI) (n : Nat) (tb : zTb) (v : Nat → Nat) (k : Nat) : Prop := ∀ a b, a < n → b < n → a ≠ b → 8 * a + b < k → M 219 (8 * a + b) = nI (zoR tb v a b) ∧ M 220 (8 * a + b) = nI (zoL tb v a b)
set_option maxHeartbeats 4000000 in
set_option maxRecDepth 100000 in
theorem sp_mseats {d t n : Nat} {x : Int32} {M : zMI} {L : zML} {g : zGd} {v : Nat → Nat} {hs : List (Nat → Nat)} {m : zMs} (h : zMo M L n g v hs m) (h2 : 2 ≤ n) (hx0 : x = -1 ∨ zin x n) : Sy yX12_seats YX12_seats (d + 5) [.ref 177, .int x] M L (zRf t) (zMn M L t n g v hs m (.int (nI (zsts g.2.2.2.2.2 v n x)))) := by
  refine Sp.of (by decide +kernel) rfl (fun h => by first | exact h | cases h) (Nat.le_of_ble_eq_true rfl) ?_
  intro w G
  have hn := h.1.1
  have h8 := h.1.2.1.1.1
  obtain ⟨tb, htb⟩ : ∃ tb, g.2.2.2.2.2 = tb := ⟨_, rfl⟩
  obtain ⟨r, hr⟩ : ∃ r, zbR tb n v = r := ⟨_, rfl⟩
  have hr9 : r.1 ≤ 1000000000 := by rw [← hr]; exact zbR_lt h2 h8
  have hres : zsts g.2.2.2.2.2 v n x = if x = -1 then r.1 / 100000 else r.2.getD x.toInt.toNat 0 := by unfold zsts; rw [htb, hr]
  have hW : ∀ q, zco (zW tb v) n q ≤ 1000000000 := fun q => zco_le (zW_le tb v) n h8 q
  have at195 : ∀ (M2 : zMI) (L2 : zML) le, zMo M2 L2 n g v hs m → zYf M M2 L L2 → zAc M2 n le r → WP w YX12_seats (d + 5, SS, 0, 0) G (some (zXp (zMn M L t n g v hs m (.int (nI (zsts g.2.2.2.2.2 v n x)))))) 195 [(3, .long le), (2, .int (nI n)), (0, .ref 177), (1, .int x)] [] SS M2 L2 (zRf t) := by
    intro M2 L2 le hM hY hac
    rcases hac with ⟨rfl, hbad⟩ | ⟨rfl, ha, hb⟩
    · omega
    · skip
      rcases hx0 with rfl | hx
      · skip
        rw [if_pos rfl] at hres
        refine wp_iload_n (q := 196) dX12_seats_195 3 rfl rfl ?_
        refine wp_iconst (q := 197) dX12_seats_196 zq_iconst_m1 rfl ?_
        refine wp_icmp_ne (tgt := 209) (q := 200) dX12_seats_197 (by decide) rfl (fun hn => absurd hn (by exact fun c => c rfl)) (fun _ => ?_)
        refine wp_lload_n (q := 201) dX12_seats_200 0 rfl rfl ?_
        refine wp_ldc2_w (q := 204) dX12_seats_201 zk_RX12_491 rfl ?_
        rw [zlitL 100000]
        refine wp_ldivN (q := 205) dX12_seats_204 (by omega) (by omega) (by omega) rfl ?_
        refine wp_l2iN (q := 206) dX12_seats_205 rfl ?_
        refine wp_goto (tgt := 215) dX12_seats_206 (by decide) ?_
        exact wp_ireturn dX12_seats_215 rfl ⟨rfl, ⟨by rw [hres], rfl, hM, hY⟩⟩ rfl rfl
      · skip
        obtain ⟨s, hs0, rfl⟩ := zin_n (by omega) hx
        obtain ⟨z1, z2⟩ := zVn_x (s := s) (by omega)
        rw [if_neg z1, z2] at hres
        refine wp_iload_n (q := 196) dX12_seats_195 3 rfl rfl ?_
        refine wp_iconst (q := 197) dX12_seats_196 zq_iconst_m1 rfl ?_
        refine wp_icmp_ne (tgt := 209) (q := 200) dX12_seats_197 (by decide) rfl (fun _ => ?_) (fun hn => absurd hn (by exact z1))
        refine wp_aload_n (q := 210) dX12_seats_209 2 rfl rfl ?_
        refine wp_getR (q := 213) dX12_seats_210 zf_RX12_148 rfl zsh_177 (zr_177_59 _) rfl ?_
        refine wp_iload_n (q := 214) dX12_seats_213 3 rfl rfl ?_
        refine wp_iald (q := 215) _ dX12_seats_214 zsh_222 rfl (by omega) (by decide) rfl ?_
        rw [hb s hs0]
        exact wp_ireturn dX12_seats_215 rfl ⟨rfl, ⟨by rw [hres], rfl, hM, hY⟩⟩ rfl rfl
  -- one row
  have step : ∀ q acc le (M2 : zMI) (L2 : zML), zgq n q = true → zRw M2 n q → zTq M2 n tb v 64 → zMo M2 L2 n g v hs m → zYf M M2 L L2 → zAc M2 n le acc → (∀ (M3 : zMI) (L3 : zML) le', zRw M3 n q → zTq M3 n tb v 64 → zMo M3 L3 n g v hs m → zYf M M3 L L3 → zAc M3 n le' (zbt (zW tb v) n acc q) → WP w YX12_seats (d + 5, SS, 0, 0) G (some (zXp (zMn M L t n g v hs m (.int (nI (zsts g.2.2.2.2.2 v n x)))))) 185 [(3, .long le'), (2, .int (nI n)), (0, .ref 177), (1, .int x)] [] SS M3 L3 (zRf t)) → WP w YX12_seats (d + 5, SS, 0, 0) G (some (zXp (zMn M L t n g v hs m (.int (nI (zsts g.2.2.2.2.2 v n x)))))) 128 [(5, .int (nI 1)), (3, .long le), (2, .int (nI n)), (0, .ref 177), (1, .int x)] [] SS M2 L2 (zRf t) := by
    intro q acc le M2 L2 hg hw hT hM hY hac K
    obtain ⟨gl, gb⟩ := zgq_e hg
    obtain ⟨c, hc⟩ : ∃ c, zco (zW tb v) n q = c := ⟨_, rfl⟩
    have hc9 := hW q
    rw [hc] at hc9
    -- copying the row
    have copy : zbt (zW tb v) n acc q = (c, q) → ∀ k i (M3 : zMI), i + k = n → (∀ j, j < i → M3 222 j = nI (q.getD j 0)) → (∀ y, y ≠ 222 → M3 y = M2 y) → WP w YX12_seats (d + 5, SS, 0, 0) G (some (zXp (zMn M L t n g v hs m (.int (nI (zsts g.2.2.2.2.2 v n x)))))) 159 [(8, .int (nI i)), (3, .long (lN c)), (2, .int (nI n)), (0, .ref 177), (1, .int x)] [] SS M3 L2 (zRf t) := by
      intro hz k
      induction k with
      | zero =>
        intro i M3 hi h3 f3
        rw [show i = n by omega] at h3 ⊢
        refine wp_iload (q := 161) dX12_seats_159 0 rfl rfl ?_
        refine wp_iload_n (q := 162) dX12_seats_161 2 rfl rfl ?_
        refine wp_icmp_geN (tgt := 185) (q := 165) dX12_seats_162 (by decide) rfl (by omega) (by omega) (fun _ => ?_) (fun hn => absurd hn (by first | omega | exact fun h => h | exact fun h => h trivial))
        refine WP.sub (loc' := [(3, _), (2, _), (0, _), (1, _)]) [1, 2, 3, 4] rfl ?_
        refine K M3 L2 (lN c) ⟨hw.1, fun i hi => by rw [f3 221 (by decide)]; exact hw.2 i hi⟩ (fun a b ha hb hab hk => by rw [f3 219 (by decide), f3 220 (by decide)]; exact hT a b ha hb hab hk) (zMo_s hM (fun y hy => f3 y (by unfold zSp at hy; omega)) (fun y _ => rfl)) (zYf_t hY (zYf_s (fun y hy => f3 y (by unfold zSp at hy; omega)) (fun y _ => rfl))) ?_
        rw [hz]
        exact Or.inr ⟨rfl, hc9, h3⟩
      | succ k ih =>
        intro i M3 hi h3 f3
        have hin : i < n := by omega
        refine wp_iload (q := 161) dX12_seats_159 0 rfl rfl ?_
        refine wp_iload_n (q := 162) dX12_seats_161 2 rfl rfl ?_
        refine wp_icmp_geN (tgt := 185) (q := 165) dX12_seats_162 (by decide) rfl (by omega) (by omega) (fun hn => absurd hn (by first | omega | exact fun h => h | exact fun h => h trivial)) (fun _ => ?_)
        refine wp_aload_n (q := 166) dX12_seats_165 3 rfl rfl ?_
        refine wp_getR (q := 169) dX12_seats_166 zf_RX12_148 rfl zsh_177 (zr_177_59 _) rfl ?_
        refine wp_iload (q := 171) dX12_seats_169 0 rfl rfl ?_
        refine wp_aload_n (q := 172) dX12_seats_171 3 rfl rfl ?_
        refine wp_getR (q := 175) dX12_seats_172 zf_RX12_145 rfl zsh_177 (zr_177_58 _) rfl ?_
        refine wp_iload (q := 177) dX12_seats_175 0 rfl rfl ?_
        refine wp_iald (q := 178) _ dX12_seats_177 zsh_221 rfl (by omega) (by decide) rfl ?_
        rw [f3 221 (by decide), hw.2 i hin]
        refine wp_iast (q := 179) _ dX12_seats_178 zsh_222 rfl (by omega) (by decide) rfl ?_
        refine wp_iincN (q := 182) (loc' := [(8, _), (3, _), (2, _), (0, _), (1, _)]) (n := 1) dX12_seats_179 rfl 0 rfl (by decide) rfl rfl ?_
        refine wp_goto (tgt := 159) dX12_seats_182 (by decide) ?_
        refine WP.sub (loc' := [(8, _), (3, _), (2, _), (0, _), (1, _)]) [0, 1, 2, 3, 4] rfl ?_
        refine ih (i + 1) _ (by omega) (fun j hj => ?_) (fun y hy => by rw [zu_ne hy]; exact f3 y hy)
        by_cases e : j = i
        · rw [e, zu_s]
        · rw [zu_k e]
          exact h3 j (by omega)
    have take : zbt (zW tb v) n acc q = (c, q) → WP w YX12_seats (d + 5, SS, 0, 0) G (some (zXp (zMn M L t n g v hs m (.int (nI (zsts g.2.2.2.2.2 v n x)))))) 153 [(6, .long (lN c)), (2, .int (nI n)), (0, .ref 177), (1, .int x)] [] SS M2 L2 (zRf t) := by
      intro hz
      refine wp_lload (q := 155) dX12_seats_153 0 rfl rfl ?_
      refine wp_lstore_n (q := 156) (loc' := [(3, _), (6, _), (2, _), (0, _), (1, _)]) dX12_seats_155 rfl (by decide) rfl rfl ?_
      refine wp_iconst (q := 157) dX12_seats_156 zq_iconst_0 rfl ?_
      refine wp_istore (q := 159) (loc' := [(8, _), (3, _), (6, _), (2, _), (0, _), (1, _)]) dX12_seats_157 (by decide) rfl rfl ?_
      refine WP.sub (loc' := [(8, _), (3, _), (2, _), (0, _), (1, _)]) [0, 1, 3, 4, 5] rfl ?_
      exact copy hz n 0 M2 (Nat.zero_add _) (fun j hj => absurd hj (Nat.not_lt_zero _)) (fun y _ => rfl)
    have hz1 : c < acc.1 → zbt (zW tb v) n acc q = (c, q) := fun e => by unfold zbt; rw [hc, if_pos e]
    have hz2 : ¬ c < acc.1 → zbt (zW tb v) n acc q = acc := fun e => by unfold zbt; rw [hc, if_neg e]
    refine wp_iload (q := 130) dX12_seats_128 0 rfl rfl ?_
    refine wp_if_eqN (tgt := 195) (q := 133) dX12_seats_130 (by decide) rfl (by omega) (fun hn => absurd hn (by first | omega | exact fun h => h | exact fun h => h trivial)) (fun _ => ?_)
    refine wp_aload_n (q := 134) dX12_seats_133 3 rfl rfl ?_
    refine wp_iload_n (q := 135) dX12_seats_134 2 rfl rfl ?_
    refine wp_cvx (q := 138) (sp_mnoneOfRow (d := 0) h2 h8 hw gb (fun a b ha hb hab => hT a b ha hb hab (by omega))) zm_X12_noneOfRow zl_RX12_501 dX12_seats_135 rfl (by omega) (Nat.le_of_ble_eq_true rfl) zsh_177 rfl rfl ?_
    rw [hc]
    refine wp_lstore (q := 140) (loc' := [(6, _), (5, _), (3, _), (2, _), (0, _), (1, _)]) dX12_seats_138 (by decide) rfl rfl ?_
    refine wp_lload_n (q := 141) dX12_seats_140 2 rfl rfl ?_
    refine wp_lconst (q := 142) dX12_seats_141 zq_lconst_0 rfl ?_
    have hac2 := hac
    rcases hac2 with ⟨hle, hbig⟩ | ⟨hle, ha, hb⟩
    · skip
      rw [hle]
      refine wp_lcmp_lt (tgt := 153) (q := 146) dX12_seats_142 rfl dX12_seats_143 (by decide) rfl (fun _ => ?_) (fun hn => absurd hn (by exact fun e => e (by decide)))
      refine WP.sub (loc' := [(6, _), (2, _), (0, _), (1, _)]) [0, 3, 4, 5] rfl ?_
      exact take (hz1 (by omega))
    · skip
      rw [hle]
      refine wp_lcmp_lt (tgt := 153) (q := 146) dX12_seats_142 rfl dX12_seats_143 (by decide) rfl (fun hn => absurd hn (by exact Int64.not_lt.mpr ((zlN_le (by omega) (by omega)).mpr (Nat.zero_le _)))) (fun _ => ?_)
      refine wp_lload (q := 148) dX12_seats_146 0 rfl rfl ?_
      refine wp_lload_n (q := 149) dX12_seats_148 2 rfl rfl ?_
      refine wp_lcmp_ge (tgt := 185) (q := 153) dX12_seats_149 rfl dX12_seats_150 (by decide) rfl (fun c1 => ?_) (fun c1 => ?_)
      · skip
        have c2 := (zlN_le (by omega) (by omega)).mp c1
        refine WP.sub (loc' := [(3, _), (2, _), (0, _), (1, _)]) [2, 3, 4, 5] rfl ?_
        rw [← hle]
        refine K M2 L2 le hw hT hM hY ?_
        rw [hz2 (by omega)]
        exact hac
      · skip
        have c2 : ¬ acc.1 ≤ c := fun e => c1 ((zlN_le (by omega) (by omega)).mpr e)
        refine WP.sub (loc' := [(6, _), (2, _), (0, _), (1, _)]) [0, 3, 4, 5] rfl ?_
        exact take (hz1 (by omega))
  have main : ∀ l q acc le (M2 : zMI) (L2 : zML), zch n (q :: l) none = true → zRw M2 n q → zTq M2 n tb v 64 → zMo M2 L2 n g v hs m → zYf M M2 L L2 → zAc M2 n le acc → (q :: l).foldl (zbt (zW tb v) n) acc = r → WP w YX12_seats (d + 5, SS, 0, 0) G (some (zXp (zMn M L t n g v hs m (.int (nI (zsts g.2.2.2.2.2 v n x)))))) 128 [(5, .int (nI 1)), (3, .long le), (2, .int (nI n)), (0, .ref 177), (1, .int x)] [] SS M2 L2 (zRf t) := by
    intro l
    induction l with
    | nil =>
      intro q acc le M2 L2 hch hw hT hM hY hac hfo
      have hch' : (zgq n q && decide (znx n q = none) && true) = true := hch
      rw [Bool.and_eq_true, Bool.and_eq_true, decide_eq_true_eq] at hch'
      obtain ⟨⟨hg, hnx⟩, -⟩ := hch'
      refine step q acc le M2 L2 hg hw hT hM hY hac (fun M3 L3 le' hw3 hT3 hM3 hY3 hac3 => ?_)
      have hfo' : zbt (zW tb v) n acc q = r := hfo
      rw [hfo'] at hac3
      refine wp_aload_n (q := 186) dX12_seats_185 2 rfl rfl ?_
      refine wp_iload_n (q := 187) dX12_seats_186 1 rfl rfl ?_
      refine wp_cvy (q := 190) (sp_mnextRow (d := 0) (o := false) h2 h8 hw3 (fun k hk => ((zgq_e hg).2 k hk).1) (by rw [hnx]; rfl)) zm_X12_nextRow zl_RX12_505 dX12_seats_187 rfl (by omega) (Nat.le_of_ble_eq_true rfl) zsh_177 rfl rfl ?_
      rintro _ M4 L4 _ ⟨rfl, rfl, rfl, f4, -⟩
      rw [zb01_f]
      refine wp_istore (q := 192) (loc' := [(5, _), (3, _), (2, _), (0, _), (1, _)]) dX12_seats_190 (by decide) rfl rfl ?_
      refine wp_goto (tgt := 128) dX12_seats_192 (by decide) ?_
      refine wp_iload (q := 130) dX12_seats_128 0 rfl rfl ?_
      refine wp_if_eqN (tgt := 195) (q := 133) dX12_seats_130 (by decide) rfl (by omega) (fun _ => ?_) (fun hn => absurd hn (by first | omega | exact fun h => h | exact fun h => h trivial))
      refine WP.sub (loc' := [(3, _), (2, _), (0, _), (1, _)]) [1, 2, 3, 4] rfl ?_
      exact at195 M4 _ le' (zMo_s hM3 (fun y hy => f4 y (by unfold zSp at hy; omega)) (fun y _ => rfl)) (zYf_t hY3 (zYf_s (fun y hy => f4 y (by unfold zSp at hy; omega)) (fun y _ => rfl))) (by
        rcases hac3 with hac4 | ⟨a1, a2, a3⟩
        · exact Or.inl hac4
        · exact Or.inr ⟨a1, a2, fun i hi => by rw [f4 222 (by decide)]; exact a3 i hi⟩)
    | cons q' l ih =>
      intro q acc le M2 L2 hch hw hT hM hY hac hfo
      have hch' : (zgq n q && decide (znx n q = some q') && zch n (q' :: l) none) = true := hch
      rw [Bool.and_eq_true, Bool.and_eq_true, decide_eq_true_eq] at hch'
      obtain ⟨⟨hg, hnx⟩, hch2⟩ := hch'
      refine step q acc le M2 L2 hg hw hT hM hY hac (fun M3 L3 le' hw3 hT3 hM3 hY3 hac3 => ?_)
      refine wp_aload_n (q := 186) dX12_seats_185 2 rfl rfl ?_
      refine wp_iload_n (q := 187) dX12_seats_186 1 rfl rfl ?_
      refine wp_cvy (q := 190) (sp_mnextRow (d := 0) (o := true) h2 h8 hw3 (fun k hk => ((zgq_e hg).2 k hk).1) (by rw [hnx]; rfl)) zm_X12_nextRow zl_RX12_505 dX12_seats_187 rfl (by omega) (Nat.le_of_ble_eq_true rfl) zsh_177 rfl rfl ?_
      rintro _ M4 L4 _ ⟨rfl, rfl, rfl, f4, g4⟩
      rw [zb01_t]
      refine wp_istore (q := 192) (loc' := [(5, _), (3, _), (2, _), (0, _), (1, _)]) dX12_seats_190 (by decide) rfl rfl ?_
      refine wp_goto (tgt := 128) dX12_seats_192 (by decide) ?_
      refine WP.sub (loc' := [(5, _), (3, _), (2, _), (0, _), (1, _)]) [0, 1, 2, 3, 4] rfl ?_
      exact ih q' _ le' M4 _ hch2 (g4 q' hnx) (fun a b ha hb hab hk => by rw [f4 219 (by decide), f4 220 (by decide)]; exact hT3 a b ha hb hab hk) (zMo_s hM3 (fun y hy => f4 y (by unfold zSp at hy; omega)) (fun y _ => rfl)) (zYf_t hY3 (zYf_s (fun y hy => f4 y (by unfold zSp at hy; omega)) (fun y _ => rfl))) (by
        rcases hac3 with hac4 | ⟨a1, a2, a3⟩
        · exact Or.inl hac4
        · exact Or.inr ⟨a1, a2, fun i hi => by rw [f4 222 (by decide)]; exact a3 i hi⟩) hfo
  -- the first row
  have first : ∀ k i (M2 : zMI) (L2 : zML), i + k = n → zTq M2 n tb v 64 → zMo M2 L2 n g v hs m → zYf M M2 L L2 → (∀ j, j < i → M2 221 j = nI j) → WP w YX12_seats (d + 5, SS, 0, 0) G (some (zXp (zMn M L t n g v hs m (.int (nI (zsts g.2.2.2.2.2 v n x)))))) 103 [(3, .int (nI i)), (2, .int (nI n)), (0, .ref 177), (1, .int x)] [] SS M2 L2 (zRf t) := by
    intro k
    induction k with
    | zero =>
      intro i M2 L2 hi hT hM hY hr2
      rw [show i = n by omega] at hr2 ⊢
      refine wp_iload_n (q := 104) dX12_seats_103 0 rfl rfl ?_
      refine wp_iload_n (q := 105) dX12_seats_104 1 rfl rfl ?_
      refine wp_icmp_geN (tgt := 121) (q := 108) dX12_seats_105 (by decide) rfl (by omega) (by omega) (fun _ => ?_) (fun hn => absurd hn (by first | omega | exact fun h => h | exact fun h => h trivial))
      refine wp_ldc2_w (q := 124) dX12_seats_121 zk_RX12_499 rfl ?_
      refine wp_lstore_n (q := 125) (loc' := [(3, _), (2, _), (0, _), (1, _)]) dX12_seats_124 rfl (by decide) rfl rfl ?_
      refine wp_iconst (q := 126) dX12_seats_125 zq_iconst_1 rfl ?_
      refine wp_istore (q := 128) (loc' := [(5, _), (3, _), (2, _), (0, _), (1, _)]) dX12_seats_126 (by decide) rfl rfl ?_
      refine WP.sub (loc' := [(5, _), (3, _), (2, _), (0, _), (1, _)]) [0, 1, 2, 3, 4] rfl ?_
      obtain ⟨hch, hhd⟩ := zchA_n h2 h8
      obtain ⟨l, hl⟩ : ∃ l, zxt n (n - 1) [0] = List.range n :: l := by
        cases hz : zxt n (n - 1) [0] with
        | nil => rw [hz] at hhd; cases hhd
        | cons a b =>
          rw [hz] at hhd
          have e : some a = some (List.range n) := hhd
          rw [Option.some.inj e]
          exact ⟨b, rfl⟩
      rw [hl] at hch
      unfold zbR at hr
      rw [hl] at hr
      refine main l _ (1000000000000, []) (-1) M2 L2 hch ⟨List.length_range, fun j hj => ?_⟩ hT hM hY (Or.inl ⟨rfl, Nat.le_refl _⟩) hr
      rw [hr2 j hj, List.getD_eq_getElem?_getD, List.getElem?_range hj]
      rfl
    | succ k ih =>
      intro i M2 L2 hi hT hM hY hr2
      refine wp_iload_n (q := 104) dX12_seats_103 0 rfl rfl ?_
      refine wp_iload_n (q := 105) dX12_seats_104 1 rfl rfl ?_
      refine wp_icmp_geN (tgt := 121) (q := 108) dX12_seats_105 (by decide) rfl (by omega) (by omega) (fun hn => absurd hn (by first | omega | exact fun h => h | exact fun h => h trivial)) (fun _ => ?_)
      refine wp_aload_n (q := 109) dX12_seats_108 2 rfl rfl ?_
      refine wp_getR (q := 112) dX12_seats_109 zf_RX12_145 rfl zsh_177 (zr_177_58 _) rfl ?_
      refine wp_iload_n (q := 113) dX12_seats_112 0 rfl rfl ?_
      refine wp_iload_n (q := 114) dX12_seats_113 0 rfl rfl ?_
      refine wp_iast (q := 115) _ dX12_seats_114 zsh_221 rfl (by omega) (by decide) rfl ?_
      refine wp_iincN (q := 118) (loc' := [(3, _), (2, _), (0, _), (1, _)]) (n := 1) dX12_seats_115 rfl 0 rfl (by decide) rfl rfl ?_
      refine wp_goto (tgt := 103) dX12_seats_118 (by decide) ?_
      refine WP.sub (loc' := [(3, _), (2, _), (0, _), (1, _)]) [0, 1, 2, 3] rfl ?_
      refine ih (i + 1) _ _ (by omega) (fun a b ha hb hab hk => by rw [zu_ne (by decide), zu_ne (by decide)]; exact hT a b ha hb hab hk) (zMo_s hM (fun y hy => zu_ne (by unfold zSp at hy; omega)) (fun y _ => rfl)) (zYf_t hY (zYf_s (fun y hy => zu_ne (by unfold zSp at hy; omega)) (fun y _ => rfl))) (fun j hj => ?_)
      by_cases e : j = i
      · rw [e, zu_s]
      · rw [zu_k e]
        exact hr2 j (by omega)
  have tabB : ∀ a, a < n → (∀ (M3 : zMI) (L3 : zML), zTq M3 n tb v (8 * (a + 1)) → zMo M3 L3 n g v hs m → zYf M M3 L L3 → WP w YX12_seats (d + 5, SS, 0, 0) G (some (zXp (zMn M L t n g v hs m (.int (nI (zsts g.2.2.2.2.2 v n x)))))) 29 [(3, .int (nI (a + 1))), (2, .int (nI n)), (0, .ref 177), (1, .int x)] [] SS M3 L3 (zRf t)) → ∀ k b (M2 : zMI) (L2 : zML), b + k = n → zTq M2 n tb v (8 * a + b) → zMo M2 L2 n g v hs m → zYf M M2 L L2 → WP w YX12_seats (d + 5, SS, 0, 0) G (some (zXp (zMn M L t n g v hs m (.int (nI (zsts g.2.2.2.2.2 v n x)))))) 37 [(4, .int (nI b)), (3, .int (nI a)), (2, .int (nI n)), (0, .ref 177), (1, .int x)] [] SS M2 L2 (zRf t) := by
    intro a ha cont k
    induction k with
    | zero =>
      intro b M2 L2 hb hT hM hY
      rw [show b = n by omega] at hT ⊢
      refine wp_iload (q := 39) dX12_seats_37 0 rfl rfl ?_
      refine wp_iload_n (q := 40) dX12_seats_39 2 rfl rfl ?_
      refine wp_icmp_geN (tgt := 95) (q := 43) dX12_seats_40 (by decide) rfl (by omega) (by omega) (fun _ => ?_) (fun hn => absurd hn (by first | omega | exact fun h => h | exact fun h => h trivial))
      refine wp_iincN (q := 98) (loc' := [(3, _), (4, _), (2, _), (0, _), (1, _)]) (n := 1) dX12_seats_95 rfl 1 rfl (by decide) rfl rfl ?_
      refine wp_goto (tgt := 29) dX12_seats_98 (by decide) ?_
      refine WP.sub (loc' := [(3, _), (2, _), (0, _), (1, _)]) [0, 2, 3, 4] rfl ?_
      exact cont M2 L2 (fun a' b' h1 h3 h4 h5 => hT a' b' h1 h3 h4 (by omega)) hM hY
    | succ k ih =>
      intro b M2 L2 hb hT hM hY
      have hbn : b < n := by omega
      have hc := hM.1
      rw [htb] at hc
      refine wp_iload (q := 39) dX12_seats_37 0 rfl rfl ?_
      refine wp_iload_n (q := 40) dX12_seats_39 2 rfl rfl ?_
      refine wp_icmp_geN (tgt := 95) (q := 43) dX12_seats_40 (by decide) rfl (by omega) (by omega) (fun hn => absurd hn (by first | omega | exact fun h => h | exact fun h => h trivial)) (fun _ => ?_)
      refine wp_iload_n (q := 44) dX12_seats_43 1 rfl rfl ?_
      refine wp_iload (q := 46) dX12_seats_44 0 rfl rfl ?_
      refine wp_icmp_eqN (tgt := 89) (q := 49) dX12_seats_46 (by decide) rfl (by omega) (by omega) (fun c => ?_) (fun c => ?_)
      · skip
        refine wp_iincN (q := 92) (loc' := [(4, _), (3, _), (2, _), (0, _), (1, _)]) (n := 1) dX12_seats_89 rfl 0 rfl (by decide) rfl rfl ?_
        refine wp_goto (tgt := 37) dX12_seats_92 (by decide) ?_
        refine WP.sub (loc' := [(4, _), (3, _), (2, _), (0, _), (1, _)]) [0, 1, 2, 3, 4] rfl ?_
        refine ih (b + 1) M2 L2 (by omega) (fun a' b' h1 h3 h4 h5 => ?_) hM hY
        have : a' ≠ a ∨ b' ≠ b := by omega
        exact hT a' b' h1 h3 h4 (by omega)
      · skip
        refine wp_aload_n (q := 50) dX12_seats_49 3 rfl rfl ?_
        refine wp_getR (q := 53) dX12_seats_50 zf_RX12_139 rfl zsh_177 (zr_177_56 _) rfl ?_
        refine wp_bipush (q := 55) dX12_seats_53 zq_bipush_8 rfl ?_
        refine wp_iload_n (q := 56) dX12_seats_55 1 rfl rfl ?_
        refine wp_imulN (q := 57) dX12_seats_56 rfl ?_
        refine wp_iload (q := 59) dX12_seats_57 0 rfl rfl ?_
        refine wp_iaddN (q := 60) dX12_seats_59 rfl ?_
        refine wp_aload_n (q := 61) dX12_seats_60 3 rfl rfl ?_
        refine wp_iload_n (q := 62) dX12_seats_61 1 rfl rfl ?_
        refine wp_iload (q := 64) dX12_seats_62 0 rfl rfl ?_
        refine wp_iconst (q := 65) dX12_seats_64 zq_iconst_0 rfl ?_
        refine wp_cvy (q := 68) (sp_moddsOf (d := 0) (hd := 0) hc ha hbn (by decide) (rfl : _ = zoR tb v a b)) zm_X12_oddsOf zl_RX12_445 dX12_seats_65 rfl (by omega) (Nat.le_of_ble_eq_true rfl) zsh_177 rfl rfl ?_
        rintro _ M3 L3 _ ⟨rfl, rfl, t3⟩
        refine wp_iast (q := 69) _ dX12_seats_68 zsh_219 rfl (by omega) (by decide) rfl ?_
        obtain ⟨M4, hM4⟩ : ∃ M4, zu M3 219 (8 * a + b) (nI (zoR tb v a b)) = M4 := ⟨_, rfl⟩
        rw [hM4]
        have s4 : zMo M4 L3 n g v hs m := by rw [← hM4]; exact zMo_s (zMo_o hM t3) (fun y hy => zu_ne (by unfold zSp at hy; omega)) (fun y _ => rfl)
        have y4 : zYf M M4 L L3 := by rw [← hM4]; exact zYf_t (zYf_t hY (zYf_o t3)) (zYf_s (fun y hy => zu_ne (by unfold zSp at hy; omega)) (fun y _ => rfl))
        have c4 := s4.1
        rw [htb] at c4
        refine wp_aload_n (q := 70) dX12_seats_69 3 rfl rfl ?_
        refine wp_getR (q := 73) dX12_seats_70 zf_RX12_142 rfl zsh_177 (zr_177_57 _) rfl ?_
        refine wp_bipush (q := 75) dX12_seats_73 zq_bipush_8 rfl ?_
        refine wp_iload_n (q := 76) dX12_seats_75 1 rfl rfl ?_
        refine wp_imulN (q := 77) dX12_seats_76 rfl ?_
        refine wp_iload (q := 79) dX12_seats_77 0 rfl rfl ?_
        refine wp_iaddN (q := 80) dX12_seats_79 rfl ?_
        refine wp_aload_n (q := 81) dX12_seats_80 3 rfl rfl ?_
        refine wp_iload_n (q := 82) dX12_seats_81 1 rfl rfl ?_
        refine wp_iload (q := 84) dX12_seats_82 0 rfl rfl ?_
        refine wp_iconst (q := 85) dX12_seats_84 zq_iconst_1 rfl ?_
        refine wp_cvy (q := 88) (sp_moddsOf (d := 0) (hd := 1) c4 ha hbn (by decide) (rfl : _ = zoL tb v a b)) zm_X12_oddsOf zl_RX12_445 dX12_seats_85 rfl (by omega) (Nat.le_of_ble_eq_true rfl) zsh_177 rfl rfl ?_
        rintro _ M5 L5 _ ⟨rfl, rfl, t5⟩
        refine wp_iast (q := 89) _ dX12_seats_88 zsh_220 rfl (by omega) (by decide) rfl ?_
        refine wp_iincN (q := 92) (loc' := [(4, _), (3, _), (2, _), (0, _), (1, _)]) (n := 1) dX12_seats_89 rfl 0 rfl (by decide) rfl rfl ?_
        refine wp_goto (tgt := 37) dX12_seats_92 (by decide) ?_
        refine WP.sub (loc' := [(4, _), (3, _), (2, _), (0, _), (1, _)]) [0, 1, 2, 3, 4] rfl ?_
        refine ih (b + 1) _ _ (by omega) (fun a' b' h1 h3 h4 h5 => ?_) (zMo_s (zMo_o s4 t5) (fun y hy => zu_ne (by unfold zSp at hy; omega)) (fun y _ => rfl)) (zYf_t (zYf_t y4 (zYf_o t5)) (zYf_s (fun y hy => zu_ne (by unfold zSp at hy; omega)) (fun y _ => rfl)))
        rw [zu_ne (by decide), t5.1 219 (by decide) (by decide), ← hM4]
        by_cases e : 8 * a' + b' = 8 * a + b
        · rw [e, zu_s, zu_s, show a' = a by omega, show b' = b by omega]
          exact ⟨rfl, rfl⟩
        · rw [zu_k e, zu_k e, t5.1 220 (by decide) (by decide), ← hM4, zu_ne (by decide), t3.1 219 (by decide) (by decide), t3.1 220 (by decide) (by decide)]
          exact hT a' b' h1 h3 h4 (by omega)
  have tabA : ∀ k a (M2 : zMI) (L2 : zML), a + k = n → zTq M2 n tb v (8 * a) → zMo M2 L2 n g v hs m → zYf M M2 L L2 → WP w YX12_seats (d + 5, SS, 0, 0) G (some (zXp (zMn M L t n g v hs m (.int (nI (zsts g.2.2.2.2.2 v n x)))))) 29 [(3, .int (nI a)), (2, .int (nI n)), (0, .ref 177), (1, .int x)] [] SS M2 L2 (zRf t) := by
    intro k
    induction k with
    | zero =>
      intro a M2 L2 ha hT hM hY
      rw [show a = n by omega] at hT ⊢
      refine wp_iload_n (q := 30) dX12_seats_29 0 rfl rfl ?_
      refine wp_iload_n (q := 31) dX12_seats_30 1 rfl rfl ?_
      refine wp_icmp_geN (tgt := 101) (q := 34) dX12_seats_31 (by decide) rfl (by omega) (by omega) (fun _ => ?_) (fun hn => absurd hn (by first | omega | exact fun h => h | exact fun h => h trivial))
      refine wp_iconst (q := 102) dX12_seats_101 zq_iconst_0 rfl ?_
      refine wp_istore_n (q := 103) (loc' := [(3, _), (2, _), (0, _), (1, _)]) dX12_seats_102 rfl (by decide) rfl rfl ?_
      refine WP.sub (loc' := [(3, _), (2, _), (0, _), (1, _)]) [0, 1, 2, 3] rfl ?_
      exact first n 0 M2 L2 (Nat.zero_add _) (fun a' b' h1 h3 h4 h5 => hT a' b' h1 h3 h4 (by omega)) hM hY (fun j hj => absurd hj (Nat.not_lt_zero _))
    | succ k ih =>
      intro a M2 L2 ha hT hM hY
      refine wp_iload_n (q := 30) dX12_seats_29 0 rfl rfl ?_
      refine wp_iload_n (q := 31) dX12_seats_30 1 rfl rfl ?_
      refine wp_icmp_geN (tgt := 101) (q := 34) dX12_seats_31 (by decide) rfl (by omega) (by omega) (fun hn => absurd hn (by first | omega | exact fun h => h | exact fun h => h trivial)) (fun _ => ?_)
      refine wp_iconst (q := 35) dX12_seats_34 zq_iconst_0 rfl ?_
      refine wp_istore (q := 37) (loc' := [(4, _), (3, _), (2, _), (0, _), (1, _)]) dX12_seats_35 (by decide) rfl rfl ?_
      refine WP.sub (loc' := [(4, _), (3, _), (2, _), (0, _), (1, _)]) [0, 1, 2, 3, 4] rfl ?_
      exact tabB a (by omega) (fun M3 L3 g1 g2 g3 => ih (a + 1) M3 L3 (by omega) g1 g2 g3) n 0 M2 L2 (Nat.zero_add _) hT hM hY
  have at22 : WP w YX12_seats (d + 5, SS, 0, 0) G (some (zXp (zMn M L t n g v hs m (.int (nI (zsts g.2.2.2.2.2 v n x)))))) 22 [(0, .ref 177), (1, .int x)] [] SS M L (zRf t) := by
    refine wp_aload_n (q := 23) dX12_seats_22 0 rfl rfl ?_
    refine wp_cvx (q := 26) (sp_mpm (d := 0) hn) zm_X12_peopleMany zl_RX12_408 dX12_seats_23 rfl (by omega) (Nat.le_of_ble_eq_true rfl) zsh_177 rfl rfl ?_
    refine wp_istore_n (q := 27) (loc' := [(2, _), (0, _), (1, _)]) dX12_seats_26 rfl (by decide) rfl rfl ?_
    refine wp_iconst (q := 28) dX12_seats_27 zq_iconst_0 rfl ?_
    refine wp_istore_n (q := 29) (loc' := [(3, _), (2, _), (0, _), (1, _)]) dX12_seats_28 rfl (by decide) rfl rfl ?_
    refine WP.sub (loc' := [(3, _), (2, _), (0, _), (1, _)]) [0, 1, 2, 3] rfl ?_
    exact tabA n 0 M L (Nat.zero_add _) (fun a b _ _ _ h5 => by omega) h zYf_r
  refine wp_aload_n (q := 1) dX12_seats_0 0 rfl rfl ?_
  refine wp_cvx (q := 4) (sp_mcm (d := 0) hn h8) zm_X12_crackerMany zl_RX12_463 dX12_seats_1 rfl (by omega) (Nat.le_of_ble_eq_true rfl) zsh_177 rfl rfl ?_
  rw [if_neg (by omega)]
  refine wp_if_eqN (tgt := 20) (q := 7) dX12_seats_4 (by decide) rfl (by omega) (fun hn => absurd hn (by first | omega | exact fun h => h | exact fun h => h trivial)) (fun _ => ?_)
  refine wp_iload_n (q := 8) dX12_seats_7 1 rfl rfl ?_
  refine wp_iconst (q := 9) dX12_seats_8 zq_iconst_m1 rfl ?_
  rcases hx0 with rfl | hx
  · skip
    refine wp_icmp_eq (tgt := 22) (q := 12) dX12_seats_9 (by decide) rfl (fun _ => ?_) (fun hn => absurd hn (by exact fun c => c rfl))
    refine WP.sub (loc' := [(0, _), (1, _)]) [0, 1] rfl ?_
    exact at22
  · skip
    obtain ⟨s, hs0, hs1⟩ := zin_n (by omega) hx
    refine wp_icmp_eq (tgt := 22) (q := 12) dX12_seats_9 (by decide) rfl (fun hn => absurd hn (by rw [hs1]; exact (zVn_x (s := s) (by omega)).1)) (fun _ => ?_)
    refine wp_aload_n (q := 13) dX12_seats_12 0 rfl rfl ?_
    refine wp_iload_n (q := 14) dX12_seats_13 1 rfl rfl ?_
    refine wp_cvx (q := 17) (sp_misSeat (d := 0) hn h8) zm_X12_isSeat zl_RX12_477 dX12_seats_14 rfl (by omega) (Nat.le_of_ble_eq_true rfl) zsh_177 rfl rfl ?_
    rw [if_pos hx]
    refine wp_if_neN (tgt := 22) (q := 20) dX12_seats_17 (by decide) rfl (by omega) (fun _ => ?_) (fun hn => absurd hn (by first | omega | exact fun h => h | exact fun h => h trivial))
    refine WP.sub (loc' := [(0, _), (1, _)]) [0, 1] rfl ?_
    exact at22
set_option maxHeartbeats 4000000 in
set_option maxRecDepth 100000 in
theorem sp_mseatsN {d t n : Nat} {x : Int32} {M : zMI} {L : zML} {g : zGd} {v : Nat → Nat} {hs : List (Nat → Nat)} {m : zMs} (h : zMo M L n g v hs m) (hN : ¬ (2 ≤ n ∧ (x = -1 ∨ zin x n))) : Sy yX12_seats YX12_seats (d + 5) [.ref 177, .int x] M L (zRf t) (zMn M L t n g v hs m (.int (-1))) := by
  refine Sp.of (by decide +kernel) rfl (fun h => by first | exact h | cases h) (Nat.le_of_ble_eq_true rfl) ?_
  intro w G
  have hn := h.1.1
  have h8 := h.1.2.1.1.1
  refine wp_aload_n (q := 1) dX12_seats_0 0 rfl rfl ?_
  refine wp_cvx (q := 4) (sp_mcm (d := 0) hn h8) zm_X12_crackerMany zl_RX12_463 dX12_seats_1 rfl (by omega) (Nat.le_of_ble_eq_true rfl) zsh_177 rfl rfl ?_
  by_cases c2 : 2 ≤ n
  · rw [if_neg (by omega)]
    refine wp_if_eqN (tgt := 20) (q := 7) dX12_seats_4 (by decide) rfl (by omega) (fun hn => absurd hn (by first | omega | exact fun h => h | exact fun h => h trivial)) (fun _ => ?_)
    refine wp_iload_n (q := 8) dX12_seats_7 1 rfl rfl ?_
    refine wp_iconst (q := 9) dX12_seats_8 zq_iconst_m1 rfl ?_
    refine wp_icmp_eq (tgt := 22) (q := 12) dX12_seats_9 (by decide) rfl (fun hn => absurd hn (by exact fun c => hN ⟨c2, Or.inl c⟩)) (fun _ => ?_)
    refine wp_aload_n (q := 13) dX12_seats_12 0 rfl rfl ?_
    refine wp_iload_n (q := 14) dX12_seats_13 1 rfl rfl ?_
    refine wp_cvx (q := 17) (sp_misSeat (d := 0) hn h8) zm_X12_isSeat zl_RX12_477 dX12_seats_14 rfl (by omega) (Nat.le_of_ble_eq_true rfl) zsh_177 rfl rfl ?_
    rw [if_neg (fun e => hN ⟨c2, Or.inr e⟩)]
    refine wp_if_neN (tgt := 22) (q := 20) dX12_seats_17 (by decide) rfl (by omega) (fun hn => absurd hn (by first | omega | exact fun h => h | exact fun h => h trivial)) (fun _ => ?_)
    refine wp_iconst (q := 21) dX12_seats_20 zq_iconst_m1 rfl ?_
    exact wp_ireturn dX12_seats_21 rfl ⟨rfl, ⟨rfl, rfl, h, zYf_r⟩⟩ rfl rfl
  · rw [if_pos (by omega)]
    refine wp_if_eqN (tgt := 20) (q := 7) dX12_seats_4 (by decide) rfl (by omega) (fun _ => ?_) (fun hn => absurd hn (by first | omega | exact fun h => h | exact fun h => h trivial))
    refine wp_iconst (q := 21) dX12_seats_20 zq_iconst_m1 rfl ?_
    exact wp_ireturn dX12_seats_21 rfl ⟨rfl, ⟨rfl, rfl, h, zYf_r⟩⟩ rfl rfl

