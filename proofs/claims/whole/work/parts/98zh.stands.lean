-- copies within a row of cells
def zcpy (N N2 : zMI) (o off j : Nat) : Prop := (∀ x, x ≠ o → N2 x = N x) ∧ (∀ k, k < off → N2 o k = N o k) ∧ ∀ k, k < j → N2 o (off + k) = N o k
theorem zcpy_0 {N : zMI} {o off : Nat} : zcpy N N o off 0 := ⟨fun _ _ => rfl, fun _ _ => rfl, fun k hk => absurd hk (Nat.not_lt_zero _)⟩
theorem zcpy_s {N N2 : zMI} {o off j : Nat} (h : zcpy N N2 o off j) (hj : j < off) : zcpy N (zu N2 o (off + j) (N2 o j)) o off (j + 1) := by
  obtain ⟨h1, h2, h3⟩ := h
  refine ⟨fun x hx => by rw [zu_ne hx]; exact h1 x hx, fun k hk => by rw [zu_k (by omega)]; exact h2 k hk, fun k hk => ?_⟩
  by_cases c : k = j
  · rw [c, zu_s]; exact h2 j hj
  · rw [zu_k (by omega)]; exact h3 k (by omega)
def zcpl (N N2 : zML) (o off j : Nat) : Prop := (∀ x, x ≠ o → N2 x = N x) ∧ (∀ k, k < off → N2 o k = N o k) ∧ ∀ k, k < j → N2 o (off + k) = N o k
theorem zcpl_0 {N : zML} {o off : Nat} : zcpl N N o off 0 := ⟨fun _ _ => rfl, fun _ _ => rfl, fun k hk => absurd hk (Nat.not_lt_zero _)⟩
theorem zcpl_s {N N2 : zML} {o off j : Nat} (h : zcpl N N2 o off j) (hj : j < off) : zcpl N (zu N2 o (off + j) (N2 o j)) o off (j + 1) := by
  obtain ⟨h1, h2, h3⟩ := h
  refine ⟨fun x hx => by rw [zu_ne hx]; exact h1 x hx, fun k hk => by rw [zu_k (by omega)]; exact h2 k hk, fun k hk => ?_⟩
  by_cases c : k = j
  · rw [c, zu_s]; exact h2 j hj
  · rw [zu_k (by omega)]; exact h3 k (by omega)
def zCx (o k : Nat) : Prop := (o = 204 ∧ 2 ≤ k) ∨ ((o = 209 ∨ o = 210) ∧ 2 ≤ k) ∨ (o = 206 ∧ 56 ≤ k) ∨ (o = 207 ∧ 4 ≤ k) ∨ (o = 208 ∧ 1 ≤ k) ∨ (o = 211 ∧ 1600 ≤ k) ∨ o = 215 ∨ (o = 177 ∧ k = 66)
def zNw0 (M N : zMI) (n j : Nat) : Prop := (∀ k, k < 3 → N 215 k = nI 0) ∧ ∀ p, p < n → N 215 (3 + 6 * p) = nI p ∧ ∀ k, k < j → N 215 (3 + 6 * p + 1 + k) = M 206 (7 * p + 2 + k)
def zStd (M M' : zMI) (L L' : zML) (n cod : Nat) : Prop := (∀ k, k < 2 → M' 204 (2 + k) = M 204 k ∧ M' 209 (2 + k) = M 209 k ∧ M' 210 (2 + k) = M 210 k) ∧ (∀ k, k < 12 → L' 205 (12 + k) = L 205 k) ∧ (∀ k, k < 56 → M' 206 (56 + k) = M 206 k) ∧ (∀ k, k < 4 → M' 207 (4 + k) = M 207 k) ∧ M' 208 1 = M 208 0 ∧ (∀ k, k < cod → M' 211 (1600 + k) = M 211 k) ∧ zNw0 M M' n 5 ∧ M' 177 66 = nI 0 ∧ (∀ o k, ¬ zCx o k → M' o k = M o k) ∧ ∀ o k, ¬ (o = 205 ∧ 12 ≤ k) → L' o k = L o k
set_option maxHeartbeats 4000000 in
set_option maxRecDepth 100000 in
theorem sp_mstands {d t n cod : Nat} {M : zMI} {L : zML} (hn : M 204 0 = nI n) (n8 : n ≤ 8) (hc : M 177 44 = nI cod) (hc6 : cod ≤ 1600) : Sy yX12_stands YX12_stands (d + 1) [.ref 177] M L (zRf t) (fun v0 M' L' R' => v0 = none ∧ R' = zRf t ∧ zStd M M' L L' n cod) := by
  refine Sp.of (by decide +kernel) rfl (fun h => by first | exact h | cases h) (Nat.le_of_ble_eq_true rfl) ?_
  intro w G
  obtain ⟨N1, hN1⟩ : ∃ N1, zu (zu (zu (zu (zu (zu M 204 2 (M 204 0)) 209 2 (M 209 0)) 210 2 (M 210 0)) 204 3 (M 204 1)) 209 3 (M 209 1)) 210 3 (M 210 1) = N1 := ⟨_, rfl⟩
  have a1 : ∀ x, x ≠ 204 → x ≠ 209 → x ≠ 210 → N1 x = M x := fun x x1 x2 x3 => by rw [← hN1, zu_ne x3, zu_ne x2, zu_ne x1, zu_ne x3, zu_ne x2, zu_ne x1]
  have a2 : ∀ k, k < 2 → N1 204 k = M 204 k ∧ N1 209 k = M 209 k ∧ N1 210 k = M 210 k := fun k hk => by
    refine ⟨?_, ?_, ?_⟩
    · rw [← hN1, zu_ne (by decide), zu_ne (by decide), zu_k (by omega), zu_ne (by decide), zu_ne (by decide), zu_k (by omega)]
    · rw [← hN1, zu_ne (by decide), zu_k (by omega), zu_ne (by decide), zu_ne (by decide), zu_k (by omega), zu_ne (by decide)]
    · rw [← hN1, zu_k (by omega), zu_ne (by decide), zu_ne (by decide), zu_k (by omega), zu_ne (by decide), zu_ne (by decide)]
  have a3 : ∀ k, k < 2 → N1 204 (2 + k) = M 204 k ∧ N1 209 (2 + k) = M 209 k ∧ N1 210 (2 + k) = M 210 k := fun k hk => by
    have hk2 : k = 0 ∨ k = 1 := by omega
    rw [← hN1]
    rcases hk2 with rfl | rfl
    · refine ⟨?_, ?_, ?_⟩
      · rw [zu_ne (by decide), zu_ne (by decide), zu_k (by decide), zu_ne (by decide), zu_ne (by decide), zu_s]
      · rw [zu_ne (by decide), zu_k (by decide), zu_ne (by decide), zu_ne (by decide), zu_s]
      · rw [zu_k (by decide), zu_ne (by decide), zu_ne (by decide), zu_s]
    · refine ⟨?_, ?_, ?_⟩
      · rw [zu_ne (by decide), zu_ne (by decide), zu_s]
      · rw [zu_ne (by decide), zu_s]
      · rw [zu_s]
  have hz : ∀ (L2 : zML) (N3 N4 N6 N7 N8 : zMI), zcpl L L2 205 12 12 → zcpy N1 N3 206 56 56 → zcpy N3 N4 207 4 4 → zcpy (zu N4 208 1 (N4 208 0)) N6 211 1600 cod → (∀ x, x ≠ 215 → N7 x = N6 x) → zNw0 M N8 n 5 → (∀ x, x ≠ 215 → N8 x = N7 x) → WP w YX12_stands (d + 1, SS, 0, 0) G (some (zXp (fun v0 M' L' R' => v0 = none ∧ R' = zRf t ∧ zStd M M' L L' n cod))) 276 [(0, .ref 177)] [] SS N8 L2 (zRf t) := by
    intro L2 N3 N4 N6 N7 N8 ⟨b1, b2, b3⟩ ⟨c1, c2, c3⟩ ⟨d1, d2, d3⟩ ⟨e1, e2, e3⟩ f1 g1 g2
    have q : ∀ x, x ≠ 206 → x ≠ 207 → x ≠ 208 → x ≠ 211 → x ≠ 215 → N8 x = N1 x := fun x x1 x2 x3 x4 x5 => by rw [g2 x x5, f1 x x5, e1 x x4, zu_ne x3, d1 x x2, c1 x x1]
    have q6 : N8 206 = N3 206 := by rw [g2 _ (by decide), f1 _ (by decide), e1 _ (by decide), zu_ne (by decide), d1 _ (by decide)]
    have q7 : N8 207 = N4 207 := by rw [g2 _ (by decide), f1 _ (by decide), e1 _ (by decide), zu_ne (by decide)]
    have q8 : ∀ k, N8 208 k = zu N4 208 1 (N4 208 0) 208 k := fun k => by rw [g2 _ (by decide), f1 _ (by decide), e1 _ (by decide)]
    have q48 : N4 208 = M 208 := by rw [d1 _ (by decide), c1 _ (by decide), a1 _ (by decide) (by decide) (by decide)]
    have q11 : N8 211 = N6 211 := by rw [g2 _ (by decide), f1 _ (by decide)]
    have q41 : (zu N4 208 1 (N4 208 0)) 211 = M 211 := by rw [zu_ne (by decide), d1 _ (by decide), c1 _ (by decide), a1 _ (by decide) (by decide) (by decide)]
    have q16 : N1 206 = M 206 := a1 _ (by decide) (by decide) (by decide)
    have q37 : N3 207 = M 207 := by rw [c1 _ (by decide), a1 _ (by decide) (by decide) (by decide)]
    refine wp_aload_n (q := 277) dX12_stands_276 0 rfl rfl ?_
    refine wp_iconst (q := 278) dX12_stands_277 zq_iconst_0 rfl ?_
    refine wp_putI (q := 281) dX12_stands_278 zf_RX12_359 rfl zsh_177 rfl ?_
    refine wp_return dX12_stands_281 rfl ⟨rfl, ⟨rfl, rfl, fun k hk => ?_, b3, fun k hk => ?_, fun k hk => ?_, ?_, fun k hk => ?_, ?_, zu_s, fun o k c => ?_, fun o k c => ?_⟩⟩ rfl rfl
    · rw [zu_ne (by decide), zu_ne (by decide), zu_ne (by decide), q 204 (by decide) (by decide) (by decide) (by decide) (by decide), q 209 (by decide) (by decide) (by decide) (by decide) (by decide), q 210 (by decide) (by decide) (by decide) (by decide) (by decide)]
      exact a3 k hk
    · rw [zu_ne (by decide), q6, c3 k hk, q16]
    · rw [zu_ne (by decide), q7, d3 k hk, q37]
    · rw [zu_ne (by decide), q8, zu_s, q48]
    · rw [zu_ne (by decide), q11, e3 k hk, q41]
    · obtain ⟨g3, g4⟩ := g1
      exact ⟨fun k hk => by rw [zu_ne (by decide)]; exact g3 k hk, fun p hp => by rw [zu_ne (by decide)]; exact g4 p hp⟩
    · unfold zCx at c
      by_cases o7 : o = 177
      · rw [o7, zu_k (by omega), q 177 (by decide) (by decide) (by decide) (by decide) (by decide), a1 177 (by decide) (by decide) (by decide)]
      · rw [zu_ne o7]
        by_cases o6 : o = 206
        · rw [o6, q6, c2 k (by omega), q16]
        · by_cases o27 : o = 207
          · rw [o27, q7, d2 k (by omega), q37]
          · by_cases o8 : o = 208
            · rw [o8, q8, zu_k (by omega), q48]
            · by_cases o11 : o = 211
              · rw [o11, q11, e2 k (by omega), q41]
              · rw [q o o6 o27 o8 o11 (by omega)]
                by_cases o4 : o = 204
                · rw [o4]; exact (a2 k (by omega)).1
                · by_cases o9 : o = 209
                  · rw [o9]; exact (a2 k (by omega)).2.1
                  · by_cases o10 : o = 210
                    · rw [o10]; exact (a2 k (by omega)).2.2
                    · rw [a1 o o4 o9 o10]
    · by_cases o5 : o = 205
      · rw [o5]; exact b2 k (by omega)
      · rw [b1 o o5]
  have l7 : ∀ (q j : Nat) (L2 : zML) (N3 N4 N6 N7 N : zMI), j + q = n → zcpl L L2 205 12 12 → zcpy N1 N3 206 56 56 → zcpy N3 N4 207 4 4 → zcpy (zu N4 208 1 (N4 208 0)) N6 211 1600 cod → (∀ x, x ≠ 215 → N7 x = N6 x) → zNw0 M N j 5 → (∀ x, x ≠ 215 → N x = N7 x) → WP w YX12_stands (d + 1, SS, 0, 0) G (some (zXp (fun v0 M' L' R' => v0 = none ∧ R' = zRf t ∧ zStd M M' L L' n cod))) 207 [(1, .int (nI j)), (0, .ref 177)] [] SS N L2 (zRf t) := by
    intro q
    induction q with
    | zero =>
      intro j L2 N3 N4 N6 N7 N hj h1 h2 h3 h4 h5 h6 h7
      have ej : j = n := by omega
      have e204 : N 204 0 = nI n := by rw [h7 _ (by decide), h5 _ (by decide), h4.1 _ (by decide), zu_ne (by decide), h3.1 _ (by decide), h2.1 _ (by decide), (a2 0 (by decide)).1]; exact hn
      refine wp_iload_n (q := 208) dX12_stands_207 0 rfl rfl ?_
      refine wp_aload_n (q := 209) dX12_stands_208 1 rfl rfl ?_
      refine wp_getR (q := 212) dX12_stands_209 zf_RX12_93 rfl zsh_177 (zr_177_35 _) rfl ?_
      refine wp_iconst (q := 213) dX12_stands_212 zq_iconst_0 rfl ?_
      refine wp_iald (q := 214) _ dX12_stands_213 zsh_204 rfl (by omega) (by decide) rfl ?_
      rw [e204]
      refine wp_icmp_geN (tgt := 276) (q := 217) dX12_stands_214 (by decide) rfl (by omega) (by omega) (fun _ => ?_) (fun hn => absurd hn (by first | omega | exact fun h => h | exact fun h => h trivial))
      refine WP.sub (loc' := [(0, _)]) [1] rfl ?_
      exact hz L2 N3 N4 N6 N7 N h1 h2 h3 h4 h5 (by rw [← ej]; exact h6) h7
    | succ q ih =>
      intro j L2 N3 N4 N6 N7 N hj h1 h2 h3 h4 h5 h6 h7
      have e204 : N 204 0 = nI n := by rw [h7 _ (by decide), h5 _ (by decide), h4.1 _ (by decide), zu_ne (by decide), h3.1 _ (by decide), h2.1 _ (by decide), (a2 0 (by decide)).1]; exact hn
      have jn : j < n := by omega
      have inner : ∀ (q2 i : Nat) (N2 : zMI), i + q2 = 5 → (∀ x, x ≠ 215 → N2 x = N7 x) → (∀ k, k < 3 + 6 * j → N2 215 k = N 215 k) → N2 215 (3 + 6 * j) = nI j → (∀ k, k < i → N2 215 (3 + 6 * j + 1 + k) = M 206 (7 * j + 2 + k)) → WP w YX12_stands (d + 1, SS, 0, 0) G (some (zXp (fun v0 M' L' R' => v0 = none ∧ R' = zRf t ∧ zStd M M' L L' n cod))) 231 [(2, .int (nI i)), (1, .int (nI j)), (0, .ref 177)] [] SS N2 L2 (zRf t) := by
        intro q2
        induction q2 with
        | zero =>
          intro i N2 hi g1 g2 g3 g4
          have ei : i = 5 := by omega
          subst ei
          refine wp_iload_n (q := 232) dX12_stands_231 0 rfl rfl ?_
          refine wp_iconst (q := 233) dX12_stands_232 zq_iconst_5 rfl ?_
          refine wp_icmp_geN (tgt := 270) (q := 236) dX12_stands_233 (by decide) rfl (by omega) (by omega) (fun _ => ?_) (fun hn => absurd hn (by first | omega | exact fun h => h | exact fun h => h trivial))
          refine wp_iincN (q := 273) (loc' := [(1, _), (2, _), (0, _)]) (n := 1) dX12_stands_270 rfl 1 rfl (by decide) rfl rfl ?_
          refine wp_goto (tgt := 207) dX12_stands_273 (by decide) ?_
          refine WP.sub (loc' := [(1, _), (0, _)]) [0, 2] rfl ?_
          refine ih (j + 1) L2 N3 N4 N6 N7 N2 (by omega) h1 h2 h3 h4 h5 ⟨fun k hk => by rw [g2 k (by omega)]; exact h6.1 k hk, fun p hp => ?_⟩ g1
          by_cases c : p = j
          · rw [c]; exact ⟨g3, g4⟩
          · obtain ⟨g5, g6⟩ := h6.2 p (by omega)
            exact ⟨by rw [g2 _ (by omega)]; exact g5, fun k hk => by rw [g2 _ (by omega)]; exact g6 k hk⟩
        | succ q2 ih2 =>
          intro i N2 hi g1 g2 g3 g4
          have e206 : N2 206 (7 * j + 2 + i) = M 206 (7 * j + 2 + i) := by
            rw [g1 _ (by decide), h5 _ (by decide), h4.1 _ (by decide), zu_ne (by decide), h3.1 _ (by decide), h2.2.1 _ (by omega), a1 _ (by decide) (by decide) (by decide)]
          refine wp_iload_n (q := 232) dX12_stands_231 0 rfl rfl ?_
          refine wp_iconst (q := 233) dX12_stands_232 zq_iconst_5 rfl ?_
          refine wp_icmp_geN (tgt := 270) (q := 236) dX12_stands_233 (by decide) rfl (by omega) (by omega) (fun hn => absurd hn (by first | omega | exact fun h => h | exact fun h => h trivial)) (fun _ => ?_)
          refine wp_aload_n (q := 237) dX12_stands_236 2 rfl rfl ?_
          refine wp_getR (q := 240) dX12_stands_237 zf_RX12_127 rfl zsh_177 (zr_177_52 _) rfl ?_
          refine wp_iconst (q := 241) dX12_stands_240 zq_iconst_3 rfl ?_
          refine wp_bipush (q := 243) dX12_stands_241 zq_bipush_6 rfl ?_
          refine wp_iload_n (q := 244) dX12_stands_243 1 rfl rfl ?_
          refine wp_imulN (q := 245) dX12_stands_244 rfl ?_
          refine wp_iaddN (q := 246) dX12_stands_245 rfl ?_
          refine wp_iconst (q := 247) dX12_stands_246 zq_iconst_1 rfl ?_
          refine wp_iaddN (q := 248) dX12_stands_247 rfl ?_
          refine wp_iload_n (q := 249) dX12_stands_248 0 rfl rfl ?_
          refine wp_iaddN (q := 250) dX12_stands_249 rfl ?_
          refine wp_aload_n (q := 251) dX12_stands_250 2 rfl rfl ?_
          refine wp_getR (q := 254) dX12_stands_251 zf_RX12_100 rfl zsh_177 (zr_177_37 _) rfl ?_
          refine wp_bipush (q := 256) dX12_stands_254 zq_bipush_7 rfl ?_
          refine wp_iload_n (q := 257) dX12_stands_256 1 rfl rfl ?_
          refine wp_imulN (q := 258) dX12_stands_257 rfl ?_
          refine wp_iconst (q := 259) dX12_stands_258 zq_iconst_2 rfl ?_
          refine wp_iaddN (q := 260) dX12_stands_259 rfl ?_
          refine wp_iload_n (q := 261) dX12_stands_260 0 rfl rfl ?_
          refine wp_iaddN (q := 262) dX12_stands_261 rfl ?_
          refine wp_iald (q := 263) _ dX12_stands_262 zsh_206 rfl (by omega) (by decide) rfl ?_
          rw [e206]
          refine wp_iast (q := 264) _ dX12_stands_263 zsh_215 rfl (by omega) (by decide) rfl ?_
          refine wp_iincN (q := 267) (loc' := [(2, _), (1, _), (0, _)]) (n := 1) dX12_stands_264 rfl 0 rfl (by decide) rfl rfl ?_
          refine wp_goto (tgt := 231) dX12_stands_267 (by decide) ?_
          refine WP.sub (loc' := [(2, _), (1, _), (0, _)]) [0, 1, 2] rfl ?_
          refine ih2 (i + 1) _ (by omega) (fun x hx => by rw [zu_ne hx]; exact g1 x hx) (fun k hk => by rw [zu_k (by omega)]; exact g2 k hk) (by rw [zu_k (by omega)]; exact g3) (fun k hk => ?_)
          by_cases c : k = i
          · rw [c, zu_s]
          · rw [zu_k (by omega)]; exact g4 k (by omega)
      refine wp_iload_n (q := 208) dX12_stands_207 0 rfl rfl ?_
      refine wp_aload_n (q := 209) dX12_stands_208 1 rfl rfl ?_
      refine wp_getR (q := 212) dX12_stands_209 zf_RX12_93 rfl zsh_177 (zr_177_35 _) rfl ?_
      refine wp_iconst (q := 213) dX12_stands_212 zq_iconst_0 rfl ?_
      refine wp_iald (q := 214) _ dX12_stands_213 zsh_204 rfl (by omega) (by decide) rfl ?_
      rw [e204]
      refine wp_icmp_geN (tgt := 276) (q := 217) dX12_stands_214 (by decide) rfl (by omega) (by omega) (fun hn => absurd hn (by first | omega | exact fun h => h | exact fun h => h trivial)) (fun _ => ?_)
      refine wp_aload_n (q := 218) dX12_stands_217 1 rfl rfl ?_
      refine wp_getR (q := 221) dX12_stands_218 zf_RX12_127 rfl zsh_177 (zr_177_52 _) rfl ?_
      refine wp_iconst (q := 222) dX12_stands_221 zq_iconst_3 rfl ?_
      refine wp_bipush (q := 224) dX12_stands_222 zq_bipush_6 rfl ?_
      refine wp_iload_n (q := 225) dX12_stands_224 0 rfl rfl ?_
      refine wp_imulN (q := 226) dX12_stands_225 rfl ?_
      refine wp_iaddN (q := 227) dX12_stands_226 rfl ?_
      refine wp_iload_n (q := 228) dX12_stands_227 0 rfl rfl ?_
      refine wp_iast (q := 229) _ dX12_stands_228 zsh_215 rfl (by omega) (by decide) rfl ?_
      refine wp_iconst (q := 230) dX12_stands_229 zq_iconst_0 rfl ?_
      refine wp_istore_n (q := 231) (loc' := [(2, _), (1, _), (0, _)]) dX12_stands_230 rfl (by decide) rfl rfl ?_
      refine WP.sub (loc' := [(2, _), (1, _), (0, _)]) [0, 1, 2] rfl ?_
      exact inner 5 0 _ rfl (fun x hx => by rw [zu_ne hx]; exact h7 x hx) (fun k hk => zu_k (by omega)) zu_s (fun k hk => absurd hk (Nat.not_lt_zero _))
  have l6 : ∀ (q j : Nat) (L2 : zML) (N3 N4 N6 N : zMI), j + q = 51 → zcpl L L2 205 12 12 → zcpy N1 N3 206 56 56 → zcpy N3 N4 207 4 4 → zcpy (zu N4 208 1 (N4 208 0)) N6 211 1600 cod → (∀ x, x ≠ 215 → N x = N6 x) → (∀ k, k < j → N 215 k = nI 0) → WP w YX12_stands (d + 1, SS, 0, 0) G (some (zXp (fun v0 M' L' R' => v0 = none ∧ R' = zRf t ∧ zStd M M' L L' n cod))) 186 [(1, .int (nI j)), (0, .ref 177)] [] SS N L2 (zRf t) := by
    intro q
    induction q with
    | zero =>
      intro j L2 N3 N4 N6 N hj h1 h2 h3 h4 h5 h6
      have ej : j = 51 := by omega
      subst ej
      refine wp_iload_n (q := 187) dX12_stands_186 0 rfl rfl ?_
      refine wp_bipush (q := 189) dX12_stands_187 zq_bipush_51 rfl ?_
      refine wp_icmp_geN (tgt := 205) (q := 192) dX12_stands_189 (by decide) rfl (by omega) (by omega) (fun _ => ?_) (fun hn => absurd hn (by first | omega | exact fun h => h | exact fun h => h trivial))
      refine wp_iconst (q := 206) dX12_stands_205 zq_iconst_0 rfl ?_
      refine wp_istore_n (q := 207) (loc' := [(1, _), (0, _)]) dX12_stands_206 rfl (by decide) rfl rfl ?_
      refine WP.sub (loc' := [(1, _), (0, _)]) [0, 1] rfl ?_
      exact l7 n 0 L2 N3 N4 N6 N N (by omega) h1 h2 h3 h4 h5 ⟨fun k hk => h6 k (by omega), fun p hp => absurd hp (Nat.not_lt_zero _)⟩ (fun _ _ => rfl)
    | succ q ih =>
      intro j L2 N3 N4 N6 N hj h1 h2 h3 h4 h5 h6
      refine wp_iload_n (q := 187) dX12_stands_186 0 rfl rfl ?_
      refine wp_bipush (q := 189) dX12_stands_187 zq_bipush_51 rfl ?_
      refine wp_icmp_geN (tgt := 205) (q := 192) dX12_stands_189 (by decide) rfl (by omega) (by omega) (fun hn => absurd hn (by first | omega | exact fun h => h | exact fun h => h trivial)) (fun _ => ?_)
      refine wp_aload_n (q := 193) dX12_stands_192 1 rfl rfl ?_
      refine wp_getR (q := 196) dX12_stands_193 zf_RX12_127 rfl zsh_177 (zr_177_52 _) rfl ?_
      refine wp_iload_n (q := 197) dX12_stands_196 0 rfl rfl ?_
      refine wp_iconst (q := 198) dX12_stands_197 zq_iconst_0 rfl ?_
      refine wp_iast (q := 199) _ dX12_stands_198 zsh_215 rfl (by omega) (by decide) rfl ?_
      refine wp_iincN (q := 202) (loc' := [(1, _), (0, _)]) (n := 1) dX12_stands_199 rfl 0 rfl (by decide) rfl rfl ?_
      refine wp_goto (tgt := 186) dX12_stands_202 (by decide) ?_
      refine WP.sub (loc' := [(1, _), (0, _)]) [0, 1] rfl ?_
      refine ih (j + 1) L2 N3 N4 N6 _ (by omega) h1 h2 h3 h4 (fun x hx => by rw [zu_ne hx]; exact h5 x hx) (fun k hk => ?_)
      by_cases c : k = j
      · rw [c, zu_s]
      · rw [zu_k (by omega)]; exact h6 k (by omega)
  have l5 : ∀ (q j : Nat) (L2 : zML) (N3 N4 N : zMI), j + q = cod → zcpl L L2 205 12 12 → zcpy N1 N3 206 56 56 → zcpy N3 N4 207 4 4 → zcpy (zu N4 208 1 (N4 208 0)) N 211 1600 j → WP w YX12_stands (d + 1, SS, 0, 0) G (some (zXp (fun v0 M' L' R' => v0 = none ∧ R' = zRf t ∧ zStd M M' L L' n cod))) 154 [(1, .int (nI j)), (0, .ref 177)] [] SS N L2 (zRf t) := by
    intro q
    induction q with
    | zero =>
      intro j L2 N3 N4 N hj h1 h2 h3 h4
      have ej : j = cod := by omega
      have e44 : N 177 44 = nI cod := by rw [h4.1 _ (by decide), zu_ne (by decide), h3.1 _ (by decide), h2.1 _ (by decide), a1 _ (by decide) (by decide) (by decide)]; exact hc
      rw [ej] at h4 ⊢
      refine wp_iload_n (q := 155) dX12_stands_154 0 rfl rfl ?_
      refine wp_aload_n (q := 156) dX12_stands_155 1 rfl rfl ?_
      refine wp_getI (q := 159) dX12_stands_156 zf_RX12_313 rfl zsh_177 rfl ?_
      rw [e44]
      refine wp_icmp_geN (tgt := 184) (q := 162) dX12_stands_159 (by decide) rfl (by omega) (by omega) (fun _ => ?_) (fun hn => absurd hn (by first | omega | exact fun h => h | exact fun h => h trivial))
      refine wp_iconst (q := 185) dX12_stands_184 zq_iconst_0 rfl ?_
      refine wp_istore_n (q := 186) (loc' := [(1, _), (0, _)]) dX12_stands_185 rfl (by decide) rfl rfl ?_
      refine WP.sub (loc' := [(1, _), (0, _)]) [0, 1] rfl ?_
      exact l6 51 0 L2 N3 N4 N N rfl h1 h2 h3 h4 (fun _ _ => rfl) (fun k hk => absurd hk (Nat.not_lt_zero _))
    | succ q ih =>
      intro j L2 N3 N4 N hj h1 h2 h3 h4
      have e44 : N 177 44 = nI cod := by rw [h4.1 _ (by decide), zu_ne (by decide), h3.1 _ (by decide), h2.1 _ (by decide), a1 _ (by decide) (by decide) (by decide)]; exact hc
      refine wp_iload_n (q := 155) dX12_stands_154 0 rfl rfl ?_
      refine wp_aload_n (q := 156) dX12_stands_155 1 rfl rfl ?_
      refine wp_getI (q := 159) dX12_stands_156 zf_RX12_313 rfl zsh_177 rfl ?_
      rw [e44]
      refine wp_icmp_geN (tgt := 184) (q := 162) dX12_stands_159 (by decide) rfl (by omega) (by omega) (fun hn => absurd hn (by first | omega | exact fun h => h | exact fun h => h trivial)) (fun _ => ?_)
      refine wp_aload_n (q := 163) dX12_stands_162 1 rfl rfl ?_
      refine wp_getR (q := 166) dX12_stands_163 zf_RX12_115 rfl zsh_177 (zr_177_43 _) rfl ?_
      refine wp_sipush (q := 169) dX12_stands_166 zq_sipush_1600 rfl ?_
      refine wp_iload_n (q := 170) dX12_stands_169 0 rfl rfl ?_
      refine wp_iaddN (q := 171) dX12_stands_170 rfl ?_
      refine wp_aload_n (q := 172) dX12_stands_171 1 rfl rfl ?_
      refine wp_getR (q := 175) dX12_stands_172 zf_RX12_115 rfl zsh_177 (zr_177_43 _) rfl ?_
      refine wp_iload_n (q := 176) dX12_stands_175 0 rfl rfl ?_
      refine wp_iald (q := 177) _ dX12_stands_176 zsh_211 rfl (by omega) (by decide) rfl ?_
      refine wp_iast (q := 178) _ dX12_stands_177 zsh_211 rfl (by omega) (by decide) rfl ?_
      refine wp_iincN (q := 181) (loc' := [(1, _), (0, _)]) (n := 1) dX12_stands_178 rfl 0 rfl (by decide) rfl rfl ?_
      refine wp_goto (tgt := 154) dX12_stands_181 (by decide) ?_
      refine WP.sub (loc' := [(1, _), (0, _)]) [0, 1] rfl ?_
      exact ih (j + 1) L2 N3 N4 _ (by omega) h1 h2 h3 (zcpy_s h4 (by omega))
  have l4 : ∀ (q j : Nat) (L2 : zML) (N3 N : zMI), j + q = 4 → zcpl L L2 205 12 12 → zcpy N1 N3 206 56 56 → zcpy N3 N 207 4 j → WP w YX12_stands (d + 1, SS, 0, 0) G (some (zXp (fun v0 M' L' R' => v0 = none ∧ R' = zRf t ∧ zStd M M' L L' n cod))) 115 [(1, .int (nI j)), (0, .ref 177)] [] SS N L2 (zRf t) := by
    intro q
    induction q with
    | zero =>
      intro j L2 N3 N hj h1 h2 h3
      have ej : j = 4 := by omega
      subst ej
      refine wp_iload_n (q := 116) dX12_stands_115 0 rfl rfl ?_
      refine wp_iconst (q := 117) dX12_stands_116 zq_iconst_4 rfl ?_
      refine wp_icmp_geN (tgt := 140) (q := 120) dX12_stands_117 (by decide) rfl (by omega) (by omega) (fun _ => ?_) (fun hn => absurd hn (by first | omega | exact fun h => h | exact fun h => h trivial))
      refine wp_aload_n (q := 141) dX12_stands_140 1 rfl rfl ?_
      refine wp_getR (q := 144) dX12_stands_141 zf_RX12_106 rfl zsh_177 (zr_177_39 _) rfl ?_
      refine wp_iconst (q := 145) dX12_stands_144 zq_iconst_1 rfl ?_
      refine wp_aload_n (q := 146) dX12_stands_145 1 rfl rfl ?_
      refine wp_getR (q := 149) dX12_stands_146 zf_RX12_106 rfl zsh_177 (zr_177_39 _) rfl ?_
      refine wp_iconst (q := 150) dX12_stands_149 zq_iconst_0 rfl ?_
      refine wp_iald (q := 151) _ dX12_stands_150 zsh_208 rfl (by omega) (by decide) rfl ?_
      refine wp_iast (q := 152) _ dX12_stands_151 zsh_208 rfl (by omega) (by decide) rfl ?_
      refine wp_iconst (q := 153) dX12_stands_152 zq_iconst_0 rfl ?_
      refine wp_istore_n (q := 154) (loc' := [(1, _), (0, _)]) dX12_stands_153 rfl (by decide) rfl rfl ?_
      refine WP.sub (loc' := [(1, _), (0, _)]) [0, 1] rfl ?_
      exact l5 cod 0 L2 N3 N _ (by omega) h1 h2 h3 zcpy_0
    | succ q ih =>
      intro j L2 N3 N hj h1 h2 h3
      refine wp_iload_n (q := 116) dX12_stands_115 0 rfl rfl ?_
      refine wp_iconst (q := 117) dX12_stands_116 zq_iconst_4 rfl ?_
      refine wp_icmp_geN (tgt := 140) (q := 120) dX12_stands_117 (by decide) rfl (by omega) (by omega) (fun hn => absurd hn (by first | omega | exact fun h => h | exact fun h => h trivial)) (fun _ => ?_)
      refine wp_aload_n (q := 121) dX12_stands_120 1 rfl rfl ?_
      refine wp_getR (q := 124) dX12_stands_121 zf_RX12_103 rfl zsh_177 (zr_177_38 _) rfl ?_
      refine wp_iconst (q := 125) dX12_stands_124 zq_iconst_4 rfl ?_
      refine wp_iload_n (q := 126) dX12_stands_125 0 rfl rfl ?_
      refine wp_iaddN (q := 127) dX12_stands_126 rfl ?_
      refine wp_aload_n (q := 128) dX12_stands_127 1 rfl rfl ?_
      refine wp_getR (q := 131) dX12_stands_128 zf_RX12_103 rfl zsh_177 (zr_177_38 _) rfl ?_
      refine wp_iload_n (q := 132) dX12_stands_131 0 rfl rfl ?_
      refine wp_iald (q := 133) _ dX12_stands_132 zsh_207 rfl (by omega) (by decide) rfl ?_
      refine wp_iast (q := 134) _ dX12_stands_133 zsh_207 rfl (by omega) (by decide) rfl ?_
      refine wp_iincN (q := 137) (loc' := [(1, _), (0, _)]) (n := 1) dX12_stands_134 rfl 0 rfl (by decide) rfl rfl ?_
      refine wp_goto (tgt := 115) dX12_stands_137 (by decide) ?_
      refine WP.sub (loc' := [(1, _), (0, _)]) [0, 1] rfl ?_
      exact ih (j + 1) L2 N3 _ (by omega) h1 h2 (zcpy_s h3 (by omega))
  have l3 : ∀ (q j : Nat) (L2 : zML) (N : zMI), j + q = 56 → zcpl L L2 205 12 12 → zcpy N1 N 206 56 j → WP w YX12_stands (d + 1, SS, 0, 0) G (some (zXp (fun v0 M' L' R' => v0 = none ∧ R' = zRf t ∧ zStd M M' L L' n cod))) 86 [(1, .int (nI j)), (0, .ref 177)] [] SS N L2 (zRf t) := by
    intro q
    induction q with
    | zero =>
      intro j L2 N hj h1 h2
      have ej : j = 56 := by omega
      subst ej
      refine wp_iload_n (q := 87) dX12_stands_86 0 rfl rfl ?_
      refine wp_bipush (q := 89) dX12_stands_87 zq_bipush_56 rfl ?_
      refine wp_icmp_geN (tgt := 113) (q := 92) dX12_stands_89 (by decide) rfl (by omega) (by omega) (fun _ => ?_) (fun hn => absurd hn (by first | omega | exact fun h => h | exact fun h => h trivial))
      refine wp_iconst (q := 114) dX12_stands_113 zq_iconst_0 rfl ?_
      refine wp_istore_n (q := 115) (loc' := [(1, _), (0, _)]) dX12_stands_114 rfl (by decide) rfl rfl ?_
      refine WP.sub (loc' := [(1, _), (0, _)]) [0, 1] rfl ?_
      exact l4 4 0 L2 N N (by omega) h1 h2 zcpy_0
    | succ q ih =>
      intro j L2 N hj h1 h2
      refine wp_iload_n (q := 87) dX12_stands_86 0 rfl rfl ?_
      refine wp_bipush (q := 89) dX12_stands_87 zq_bipush_56 rfl ?_
      refine wp_icmp_geN (tgt := 113) (q := 92) dX12_stands_89 (by decide) rfl (by omega) (by omega) (fun hn => absurd hn (by first | omega | exact fun h => h | exact fun h => h trivial)) (fun _ => ?_)
      refine wp_aload_n (q := 93) dX12_stands_92 1 rfl rfl ?_
      refine wp_getR (q := 96) dX12_stands_93 zf_RX12_100 rfl zsh_177 (zr_177_37 _) rfl ?_
      refine wp_bipush (q := 98) dX12_stands_96 zq_bipush_56 rfl ?_
      refine wp_iload_n (q := 99) dX12_stands_98 0 rfl rfl ?_
      refine wp_iaddN (q := 100) dX12_stands_99 rfl ?_
      refine wp_aload_n (q := 101) dX12_stands_100 1 rfl rfl ?_
      refine wp_getR (q := 104) dX12_stands_101 zf_RX12_100 rfl zsh_177 (zr_177_37 _) rfl ?_
      refine wp_iload_n (q := 105) dX12_stands_104 0 rfl rfl ?_
      refine wp_iald (q := 106) _ dX12_stands_105 zsh_206 rfl (by omega) (by decide) rfl ?_
      refine wp_iast (q := 107) _ dX12_stands_106 zsh_206 rfl (by omega) (by decide) rfl ?_
      refine wp_iincN (q := 110) (loc' := [(1, _), (0, _)]) (n := 1) dX12_stands_107 rfl 0 rfl (by decide) rfl rfl ?_
      refine wp_goto (tgt := 86) dX12_stands_110 (by decide) ?_
      refine WP.sub (loc' := [(1, _), (0, _)]) [0, 1] rfl ?_
      exact ih (j + 1) L2 _ (by omega) h1 (zcpy_s h2 (by omega))
  have l2 : ∀ (q j : Nat) (L2 : zML), j + q = 12 → zcpl L L2 205 12 j → WP w YX12_stands (d + 1, SS, 0, 0) G (some (zXp (fun v0 M' L' R' => v0 = none ∧ R' = zRf t ∧ zStd M M' L L' n cod))) 57 [(1, .int (nI j)), (0, .ref 177)] [] SS N1 L2 (zRf t) := by
    intro q
    induction q with
    | zero =>
      intro j L2 hj h1
      have ej : j = 12 := by omega
      subst ej
      refine wp_iload_n (q := 58) dX12_stands_57 0 rfl rfl ?_
      refine wp_bipush (q := 60) dX12_stands_58 zq_bipush_12 rfl ?_
      refine wp_icmp_geN (tgt := 84) (q := 63) dX12_stands_60 (by decide) rfl (by omega) (by omega) (fun _ => ?_) (fun hn => absurd hn (by first | omega | exact fun h => h | exact fun h => h trivial))
      refine wp_iconst (q := 85) dX12_stands_84 zq_iconst_0 rfl ?_
      refine wp_istore_n (q := 86) (loc' := [(1, _), (0, _)]) dX12_stands_85 rfl (by decide) rfl rfl ?_
      refine WP.sub (loc' := [(1, _), (0, _)]) [0, 1] rfl ?_
      exact l3 56 0 L2 N1 (by omega) h1 zcpy_0
    | succ q ih =>
      intro j L2 hj h1
      refine wp_iload_n (q := 58) dX12_stands_57 0 rfl rfl ?_
      refine wp_bipush (q := 60) dX12_stands_58 zq_bipush_12 rfl ?_
      refine wp_icmp_geN (tgt := 84) (q := 63) dX12_stands_60 (by decide) rfl (by omega) (by omega) (fun hn => absurd hn (by first | omega | exact fun h => h | exact fun h => h trivial)) (fun _ => ?_)
      refine wp_aload_n (q := 64) dX12_stands_63 1 rfl rfl ?_
      refine wp_getR (q := 67) dX12_stands_64 zf_RX12_96 rfl zsh_177 (zr_177_36 _) rfl ?_
      refine wp_bipush (q := 69) dX12_stands_67 zq_bipush_12 rfl ?_
      refine wp_iload_n (q := 70) dX12_stands_69 0 rfl rfl ?_
      refine wp_iaddN (q := 71) dX12_stands_70 rfl ?_
      refine wp_aload_n (q := 72) dX12_stands_71 1 rfl rfl ?_
      refine wp_getR (q := 75) dX12_stands_72 zf_RX12_96 rfl zsh_177 (zr_177_36 _) rfl ?_
      refine wp_iload_n (q := 76) dX12_stands_75 0 rfl rfl ?_
      refine wp_lald (q := 77) _ dX12_stands_76 zsh_205 rfl (by omega) (by decide) rfl ?_
      refine wp_last (q := 78) _ dX12_stands_77 zsh_205 rfl (by omega) (by decide) rfl ?_
      refine wp_iincN (q := 81) (loc' := [(1, _), (0, _)]) (n := 1) dX12_stands_78 rfl 0 rfl (by decide) rfl rfl ?_
      refine wp_goto (tgt := 57) dX12_stands_81 (by decide) ?_
      refine WP.sub (loc' := [(1, _), (0, _)]) [0, 1] rfl ?_
      exact ih (j + 1) _ (by omega) (zcpl_s h1 (by omega))
  refine wp_iconst (q := 1) dX12_stands_0 zq_iconst_0 rfl ?_
  refine wp_istore_n (q := 2) (loc' := [(1, _), (0, _)]) dX12_stands_1 rfl (by decide) rfl rfl ?_
  refine wp_iload_n (q := 3) dX12_stands_2 0 rfl rfl ?_
  refine wp_iconst (q := 4) dX12_stands_3 zq_iconst_2 rfl ?_
  refine wp_icmp_geN (tgt := 55) (q := 7) dX12_stands_4 (by decide) rfl (by omega) (by omega) (fun hn => absurd hn (by first | omega | exact fun h => h | exact fun h => h trivial)) (fun _ => ?_)
  refine wp_aload_n (q := 8) dX12_stands_7 1 rfl rfl ?_
  refine wp_getR (q := 11) dX12_stands_8 zf_RX12_93 rfl zsh_177 (zr_177_35 _) rfl ?_
  refine wp_iconst (q := 12) dX12_stands_11 zq_iconst_2 rfl ?_
  refine wp_iload_n (q := 13) dX12_stands_12 0 rfl rfl ?_
  refine wp_iaddN (q := 14) dX12_stands_13 rfl ?_
  refine wp_aload_n (q := 15) dX12_stands_14 1 rfl rfl ?_
  refine wp_getR (q := 18) dX12_stands_15 zf_RX12_93 rfl zsh_177 (zr_177_35 _) rfl ?_
  refine wp_iload_n (q := 19) dX12_stands_18 0 rfl rfl ?_
  refine wp_iald (q := 20) _ dX12_stands_19 zsh_204 rfl (by omega) (by decide) rfl ?_
  refine wp_iast (q := 21) _ dX12_stands_20 zsh_204 rfl (by omega) (by decide) rfl ?_
  refine wp_aload_n (q := 22) dX12_stands_21 1 rfl rfl ?_
  refine wp_getR (q := 25) dX12_stands_22 zf_RX12_109 rfl zsh_177 (zr_177_40 _) rfl ?_
  refine wp_iconst (q := 26) dX12_stands_25 zq_iconst_2 rfl ?_
  refine wp_iload_n (q := 27) dX12_stands_26 0 rfl rfl ?_
  refine wp_iaddN (q := 28) dX12_stands_27 rfl ?_
  refine wp_aload_n (q := 29) dX12_stands_28 1 rfl rfl ?_
  refine wp_getR (q := 32) dX12_stands_29 zf_RX12_109 rfl zsh_177 (zr_177_40 _) rfl ?_
  refine wp_iload_n (q := 33) dX12_stands_32 0 rfl rfl ?_
  refine wp_iald (q := 34) _ dX12_stands_33 zsh_209 rfl (by omega) (by decide) rfl ?_
  refine wp_iast (q := 35) _ dX12_stands_34 zsh_209 rfl (by omega) (by decide) rfl ?_
  refine wp_aload_n (q := 36) dX12_stands_35 1 rfl rfl ?_
  refine wp_getR (q := 39) dX12_stands_36 zf_RX12_112 rfl zsh_177 (zr_177_41 _) rfl ?_
  refine wp_iconst (q := 40) dX12_stands_39 zq_iconst_2 rfl ?_
  refine wp_iload_n (q := 41) dX12_stands_40 0 rfl rfl ?_
  refine wp_iaddN (q := 42) dX12_stands_41 rfl ?_
  refine wp_aload_n (q := 43) dX12_stands_42 1 rfl rfl ?_
  refine wp_getR (q := 46) dX12_stands_43 zf_RX12_112 rfl zsh_177 (zr_177_41 _) rfl ?_
  refine wp_iload_n (q := 47) dX12_stands_46 0 rfl rfl ?_
  refine wp_iald (q := 48) _ dX12_stands_47 zsh_210 rfl (by omega) (by decide) rfl ?_
  refine wp_iast (q := 49) _ dX12_stands_48 zsh_210 rfl (by omega) (by decide) rfl ?_
  refine wp_iincN (q := 52) (loc' := [(1, _), (0, _)]) (n := 1) dX12_stands_49 rfl 0 rfl (by decide) rfl rfl ?_
  refine wp_goto (tgt := 2) dX12_stands_52 (by decide) ?_
  refine wp_iload_n (q := 3) dX12_stands_2 0 rfl rfl ?_
  refine wp_iconst (q := 4) dX12_stands_3 zq_iconst_2 rfl ?_
  refine wp_icmp_geN (tgt := 55) (q := 7) dX12_stands_4 (by decide) rfl (by omega) (by omega) (fun hn => absurd hn (by first | omega | exact fun h => h | exact fun h => h trivial)) (fun _ => ?_)
  refine wp_aload_n (q := 8) dX12_stands_7 1 rfl rfl ?_
  refine wp_getR (q := 11) dX12_stands_8 zf_RX12_93 rfl zsh_177 (zr_177_35 _) rfl ?_
  refine wp_iconst (q := 12) dX12_stands_11 zq_iconst_2 rfl ?_
  refine wp_iload_n (q := 13) dX12_stands_12 0 rfl rfl ?_
  refine wp_iaddN (q := 14) dX12_stands_13 rfl ?_
  refine wp_aload_n (q := 15) dX12_stands_14 1 rfl rfl ?_
  refine wp_getR (q := 18) dX12_stands_15 zf_RX12_93 rfl zsh_177 (zr_177_35 _) rfl ?_
  refine wp_iload_n (q := 19) dX12_stands_18 0 rfl rfl ?_
  refine wp_iald (q := 20) _ dX12_stands_19 zsh_204 rfl (by omega) (by decide) rfl ?_
  refine wp_iast (q := 21) _ dX12_stands_20 zsh_204 rfl (by omega) (by decide) rfl ?_
  refine wp_aload_n (q := 22) dX12_stands_21 1 rfl rfl ?_
  refine wp_getR (q := 25) dX12_stands_22 zf_RX12_109 rfl zsh_177 (zr_177_40 _) rfl ?_
  refine wp_iconst (q := 26) dX12_stands_25 zq_iconst_2 rfl ?_
  refine wp_iload_n (q := 27) dX12_stands_26 0 rfl rfl ?_
  refine wp_iaddN (q := 28) dX12_stands_27 rfl ?_
  refine wp_aload_n (q := 29) dX12_stands_28 1 rfl rfl ?_
  refine wp_getR (q := 32) dX12_stands_29 zf_RX12_109 rfl zsh_177 (zr_177_40 _) rfl ?_
  refine wp_iload_n (q := 33) dX12_stands_32 0 rfl rfl ?_
  refine wp_iald (q := 34) _ dX12_stands_33 zsh_209 rfl (by omega) (by decide) rfl ?_
  refine wp_iast (q := 35) _ dX12_stands_34 zsh_209 rfl (by omega) (by decide) rfl ?_
  refine wp_aload_n (q := 36) dX12_stands_35 1 rfl rfl ?_
  refine wp_getR (q := 39) dX12_stands_36 zf_RX12_112 rfl zsh_177 (zr_177_41 _) rfl ?_
  refine wp_iconst (q := 40) dX12_stands_39 zq_iconst_2 rfl ?_
  refine wp_iload_n (q := 41) dX12_stands_40 0 rfl rfl ?_
  refine wp_iaddN (q := 42) dX12_stands_41 rfl ?_
  refine wp_aload_n (q := 43) dX12_stands_42 1 rfl rfl ?_
  refine wp_getR (q := 46) dX12_stands_43 zf_RX12_112 rfl zsh_177 (zr_177_41 _) rfl ?_
  refine wp_iload_n (q := 47) dX12_stands_46 0 rfl rfl ?_
  refine wp_iald (q := 48) _ dX12_stands_47 zsh_210 rfl (by omega) (by decide) rfl ?_
  refine wp_iast (q := 49) _ dX12_stands_48 zsh_210 rfl (by omega) (by decide) rfl ?_
  refine wp_iincN (q := 52) (loc' := [(1, _), (0, _)]) (n := 1) dX12_stands_49 rfl 0 rfl (by decide) rfl rfl ?_
  refine wp_goto (tgt := 2) dX12_stands_52 (by decide) ?_
  refine wp_iload_n (q := 3) dX12_stands_2 0 rfl rfl ?_
  refine wp_iconst (q := 4) dX12_stands_3 zq_iconst_2 rfl ?_
  refine wp_icmp_geN (tgt := 55) (q := 7) dX12_stands_4 (by decide) rfl (by omega) (by omega) (fun _ => ?_) (fun hn => absurd hn (by first | omega | exact fun h => h | exact fun h => h trivial))
  refine wp_iconst (q := 56) dX12_stands_55 zq_iconst_0 rfl ?_
  refine wp_istore_n (q := 57) (loc' := [(1, _), (0, _)]) dX12_stands_56 rfl (by decide) rfl rfl ?_
  refine WP.sub (loc' := [(1, _), (0, _)]) [0, 1] rfl ?_
  have e1 : zu (zu (zu (zu (zu (zu M 204 (2 + 0) (M 204 0)) 209 (2 + 0) (M 209 0)) 210 (2 + 0) (M 210 0)) 204 (2 + 1) (M 204 1)) 209 (2 + 1) (M 209 1)) 210 (2 + 1) (M 210 1) = N1 := hN1
  exact e1 ▸ l2 12 0 L rfl zcpl_0

