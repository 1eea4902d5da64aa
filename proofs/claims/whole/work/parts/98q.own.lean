theorem zWds_c {M M2 : zMI} {w : Nat} (h : zWds M) (e : ∀ x, x ≠ 177 → M2 x = M x) (hw : w < 24) : zWd M2 (180 + w) w := fun i x hx => by rw [e _ (by omega)]; exact h.1 w hw i x hx
def zOi (M M2 : zMI) (b : Nat → Nat) (len : Nat) (T : zDD) (c i : Nat) : Prop := zAt M2 b len T c i ∧ (∀ k, k ≠ 2 → M2 177 k = M 177 k) ∧ ∀ x, x ≠ 177 → M2 x = M x
set_option maxHeartbeats 4000000 in
set_option maxRecDepth 100000 in
theorem sp_misOwnHere {d t len c i : Nat} {M : zMI} {L : zML} {b : Nat → Nat} {T : zDD} (h : zAt M b len T c i) (hT : zTok b len T c) (hW : zWds M) {o : Bool} (ho : decide (T i 4 < 24) = o) : Sy yX12_isOwnHere YX12_isOwnHere (d + 2) [.ref 177] M L (zRf t) (fun v0 M' L' R' => v0 = some (.int (nI (zb01 o))) ∧ L = L' ∧ R' = zRf t ∧ zAt M' b len T c i ∧ M' 177 2 = nI (T i 1) ∧ (∀ k, k ≠ 2 → M' 177 k = M 177 k) ∧ ∀ x, x ≠ 177 → M' x = M x) := by
  refine Sp.of (by decide +kernel) rfl (fun h => by first | exact h | cases h) (Nat.le_of_ble_eq_true rfl) ?_
  intro w G
  have stp : ∀ {M2 M3 : zMI}, zOi M M2 b len T c i → zAt M3 b len T c i → (∀ k, k ≠ 2 → M3 177 k = M2 177 k) → (∀ x, x ≠ 177 → M3 x = M2 x) → zOi M M3 b len T c i := fun g a1 a2 a3 => ⟨a1, fun k hk => by rw [a2 k hk]; exact g.2.1 k hk, fun x hx => by rw [a3 x hx]; exact g.2.2 x hx⟩
  have t3 : T i 4 < 24 → ∀ (M2 : zMI), zOi M M2 b len T c i → M2 177 2 = nI (T i 1) → WP w YX12_isOwnHere (d + 2, SS, 0, 0) G (some (zXp (fun v0 M' L' R' => v0 = some (.int (nI (zb01 o))) ∧ L = L' ∧ R' = zRf t ∧ zAt M' b len T c i ∧ M' 177 2 = nI (T i 1) ∧ (∀ k, k ≠ 2 → M' 177 k = M 177 k) ∧ ∀ x, x ≠ 177 → M' x = M x))) 294 [(0, .ref 177)] [] SS M2 L (zRf t) := by
    intro hlt M2 g g2
    have ho1 : o = true := by rw [← ho]; exact decide_eq_true hlt
    refine wp_iconst (q := 295) dX12_isOwnHere_294 zq_iconst_1 rfl ?_
    refine wp_goto (tgt := 299) dX12_isOwnHere_295 (by decide) ?_
    refine wp_istore_n (q := 300) (loc' := [(1, _), (0, _)]) dX12_isOwnHere_299 rfl (by decide) rfl rfl ?_
    refine wp_iload_n (q := 301) dX12_isOwnHere_300 0 rfl rfl ?_
    exact wp_zreturn dX12_isOwnHere_301 rfl (by first | with_reducible exact znar_0 | with_reducible exact znar_1 | assumption) ⟨rfl, ⟨by rw [ho1]; rfl, rfl, rfl, g.1, g2, g.2.1, g.2.2⟩⟩ rfl rfl
  have t2 : T i 4 < 24 → ∀ (M2 : zMI), zOi M M2 b len T c i → M2 177 2 = nI (T i 1) → WP w YX12_isOwnHere (d + 2, SS, 0, 0) G (some (zXp (fun v0 M' L' R' => v0 = some (.int (nI (zb01 o))) ∧ L = L' ∧ R' = zRf t ∧ zAt M' b len T c i ∧ M' 177 2 = nI (T i 1) ∧ (∀ k, k ≠ 2 → M' 177 k = M 177 k) ∧ ∀ x, x ≠ 177 → M' x = M x))) 218 [(0, .ref 177)] [] SS M2 L (zRf t) := by
    intro hlt M2 g g2
    have ho1 : o = true := by rw [← ho]; exact decide_eq_true hlt
    refine wp_iconst (q := 219) dX12_isOwnHere_218 zq_iconst_1 rfl ?_
    refine wp_goto (tgt := 223) dX12_isOwnHere_219 (by decide) ?_
    refine wp_istore_n (q := 224) (loc' := [(1, _), (0, _)]) dX12_isOwnHere_223 rfl (by decide) rfl rfl ?_
    refine wp_iload_n (q := 225) dX12_isOwnHere_224 0 rfl rfl ?_
    refine wp_if_neN (tgt := 294) (q := 228) dX12_isOwnHere_225 (by decide) rfl (by omega) (fun _ => ?_) (fun hn => absurd hn (by first | omega | exact fun h => h | exact fun h => h trivial))
    refine WP.sub (loc' := [(0, _)]) [1] rfl ?_
    exact t3 hlt M2 g g2
  have t1 : T i 4 < 24 → ∀ (M2 : zMI), zOi M M2 b len T c i → M2 177 2 = nI (T i 1) → WP w YX12_isOwnHere (d + 2, SS, 0, 0) G (some (zXp (fun v0 M' L' R' => v0 = some (.int (nI (zb01 o))) ∧ L = L' ∧ R' = zRf t ∧ zAt M' b len T c i ∧ M' 177 2 = nI (T i 1) ∧ (∀ k, k ≠ 2 → M' 177 k = M 177 k) ∧ ∀ x, x ≠ 177 → M' x = M x))) 142 [(0, .ref 177)] [] SS M2 L (zRf t) := by
    intro hlt M2 g g2
    have ho1 : o = true := by rw [← ho]; exact decide_eq_true hlt
    refine wp_iconst (q := 143) dX12_isOwnHere_142 zq_iconst_1 rfl ?_
    refine wp_goto (tgt := 147) dX12_isOwnHere_143 (by decide) ?_
    refine wp_istore_n (q := 148) (loc' := [(1, _), (0, _)]) dX12_isOwnHere_147 rfl (by decide) rfl rfl ?_
    refine wp_iload_n (q := 149) dX12_isOwnHere_148 0 rfl rfl ?_
    refine wp_if_neN (tgt := 218) (q := 152) dX12_isOwnHere_149 (by decide) rfl (by omega) (fun _ => ?_) (fun hn => absurd hn (by first | omega | exact fun h => h | exact fun h => h trivial))
    refine WP.sub (loc' := [(0, _)]) [1] rfl ?_
    exact t2 hlt M2 g g2
  have t0 : T i 4 < 24 → ∀ (M2 : zMI), zOi M M2 b len T c i → M2 177 2 = nI (T i 1) → WP w YX12_isOwnHere (d + 2, SS, 0, 0) G (some (zXp (fun v0 M' L' R' => v0 = some (.int (nI (zb01 o))) ∧ L = L' ∧ R' = zRf t ∧ zAt M' b len T c i ∧ M' 177 2 = nI (T i 1) ∧ (∀ k, k ≠ 2 → M' 177 k = M 177 k) ∧ ∀ x, x ≠ 177 → M' x = M x))) 66 [(0, .ref 177)] [] SS M2 L (zRf t) := by
    intro hlt M2 g g2
    have ho1 : o = true := by rw [← ho]; exact decide_eq_true hlt
    refine wp_iconst (q := 67) dX12_isOwnHere_66 zq_iconst_1 rfl ?_
    refine wp_goto (tgt := 71) dX12_isOwnHere_67 (by decide) ?_
    refine wp_istore_n (q := 72) (loc' := [(1, _), (0, _)]) dX12_isOwnHere_71 rfl (by decide) rfl rfl ?_
    refine wp_iload_n (q := 73) dX12_isOwnHere_72 0 rfl rfl ?_
    refine wp_if_neN (tgt := 142) (q := 76) dX12_isOwnHere_73 (by decide) rfl (by omega) (fun _ => ?_) (fun hn => absurd hn (by first | omega | exact fun h => h | exact fun h => h trivial))
    refine WP.sub (loc' := [(0, _)]) [1] rfl ?_
    exact t1 hlt M2 g g2
  have s3 : (∀ w, w < 18 → T i 4 ≠ w) → ∀ (M0 : zMI), zOi M M0 b len T c i → WP w YX12_isOwnHere (d + 2, SS, 0, 0) G (some (zXp (fun v0 M' L' R' => v0 = some (.int (nI (zb01 o))) ∧ L = L' ∧ R' = zRf t ∧ zAt M' b len T c i ∧ M' 177 2 = nI (T i 1) ∧ (∀ k, k ≠ 2 → M' 177 k = M 177 k) ∧ ∀ x, x ≠ 177 → M' x = M x))) 228 [(0, .ref 177)] [] SS M0 L (zRf t) := by
    intro hne M0 g0
    refine wp_aload_n (q := 229) dX12_isOwnHere_228 0 rfl rfl ?_
    refine wp_aload_n (q := 230) dX12_isOwnHere_229 0 rfl rfl ?_
    refine wp_getR (q := 233) dX12_isOwnHere_230 zf_RX12_75 rfl zsh_177 (zr_177_28 _) rfl ?_
    refine wp_cvy (q := 236) (sp_mHere (d := 0) (w0 := 18) g0.1 hT ⟨by decide, by decide, zsh_198, zWds_c hW g0.2.2 (by decide)⟩) zm_X12_isHere zl_RX12_259 dX12_isOwnHere_233 rfl (by omega) (Nat.le_of_ble_eq_true rfl) zsh_177 rfl rfl ?_
    rintro _ M1 L1 _ ⟨rfl, rfl, rfl, a0, b0, c0, e0⟩
    have g1 := stp g0 a0 c0 e0
    by_cases d0 : T i 4 = 18
    · rw [decide_eq_true d0, zb01_t]
      refine wp_if_neN (tgt := 294) (q := 239) dX12_isOwnHere_236 (by decide) rfl (by omega) (fun _ => ?_) (fun hn => absurd hn (by first | omega | exact fun h => h | exact fun h => h trivial))
      refine WP.sub (loc' := [(0, _)]) [0] rfl ?_
      exact t3 (by omega) M1 g1 b0
    · rw [decide_eq_false d0, zb01_f]
      refine wp_if_neN (tgt := 294) (q := 239) dX12_isOwnHere_236 (by decide) rfl (by omega) (fun hn => absurd hn (by first | omega | exact fun h => h | exact fun h => h trivial)) (fun _ => ?_)
      refine wp_aload_n (q := 240) dX12_isOwnHere_239 0 rfl rfl ?_
      refine wp_aload_n (q := 241) dX12_isOwnHere_240 0 rfl rfl ?_
      refine wp_getR (q := 244) dX12_isOwnHere_241 zf_RX12_78 rfl zsh_177 (zr_177_29 _) rfl ?_
      refine wp_cvy (q := 247) (sp_mHere (d := 0) (w0 := 19) g1.1 hT ⟨by decide, by decide, zsh_199, zWds_c hW g1.2.2 (by decide)⟩) zm_X12_isHere zl_RX12_259 dX12_isOwnHere_244 rfl (by omega) (Nat.le_of_ble_eq_true rfl) zsh_177 rfl rfl ?_
      rintro _ M2 L2 _ ⟨rfl, rfl, rfl, a1, b1, c1, e1⟩
      have g2 := stp g1 a1 c1 e1
      by_cases d1 : T i 4 = 19
      · rw [decide_eq_true d1, zb01_t]
        refine wp_if_neN (tgt := 294) (q := 250) dX12_isOwnHere_247 (by decide) rfl (by omega) (fun _ => ?_) (fun hn => absurd hn (by first | omega | exact fun h => h | exact fun h => h trivial))
        refine WP.sub (loc' := [(0, _)]) [0] rfl ?_
        exact t3 (by omega) M2 g2 b1
      · rw [decide_eq_false d1, zb01_f]
        refine wp_if_neN (tgt := 294) (q := 250) dX12_isOwnHere_247 (by decide) rfl (by omega) (fun hn => absurd hn (by first | omega | exact fun h => h | exact fun h => h trivial)) (fun _ => ?_)
        refine wp_aload_n (q := 251) dX12_isOwnHere_250 0 rfl rfl ?_
        refine wp_aload_n (q := 252) dX12_isOwnHere_251 0 rfl rfl ?_
        refine wp_getR (q := 255) dX12_isOwnHere_252 zf_RX12_81 rfl zsh_177 (zr_177_30 _) rfl ?_
        refine wp_cvy (q := 258) (sp_mHere (d := 0) (w0 := 20) g2.1 hT ⟨by decide, by decide, zsh_200, zWds_c hW g2.2.2 (by decide)⟩) zm_X12_isHere zl_RX12_259 dX12_isOwnHere_255 rfl (by omega) (Nat.le_of_ble_eq_true rfl) zsh_177 rfl rfl ?_
        rintro _ M3 L3 _ ⟨rfl, rfl, rfl, a2, b2, c2, e2⟩
        have g3 := stp g2 a2 c2 e2
        by_cases d2 : T i 4 = 20
        · rw [decide_eq_true d2, zb01_t]
          refine wp_if_neN (tgt := 294) (q := 261) dX12_isOwnHere_258 (by decide) rfl (by omega) (fun _ => ?_) (fun hn => absurd hn (by first | omega | exact fun h => h | exact fun h => h trivial))
          refine WP.sub (loc' := [(0, _)]) [0] rfl ?_
          exact t3 (by omega) M3 g3 b2
        · rw [decide_eq_false d2, zb01_f]
          refine wp_if_neN (tgt := 294) (q := 261) dX12_isOwnHere_258 (by decide) rfl (by omega) (fun hn => absurd hn (by first | omega | exact fun h => h | exact fun h => h trivial)) (fun _ => ?_)
          refine wp_aload_n (q := 262) dX12_isOwnHere_261 0 rfl rfl ?_
          refine wp_aload_n (q := 263) dX12_isOwnHere_262 0 rfl rfl ?_
          refine wp_getR (q := 266) dX12_isOwnHere_263 zf_RX12_84 rfl zsh_177 (zr_177_31 _) rfl ?_
          refine wp_cvy (q := 269) (sp_mHere (d := 0) (w0 := 21) g3.1 hT ⟨by decide, by decide, zsh_201, zWds_c hW g3.2.2 (by decide)⟩) zm_X12_isHere zl_RX12_259 dX12_isOwnHere_266 rfl (by omega) (Nat.le_of_ble_eq_true rfl) zsh_177 rfl rfl ?_
          rintro _ M4 L4 _ ⟨rfl, rfl, rfl, a3, b3, c3, e3⟩
          have g4 := stp g3 a3 c3 e3
          by_cases d3 : T i 4 = 21
          · rw [decide_eq_true d3, zb01_t]
            refine wp_if_neN (tgt := 294) (q := 272) dX12_isOwnHere_269 (by decide) rfl (by omega) (fun _ => ?_) (fun hn => absurd hn (by first | omega | exact fun h => h | exact fun h => h trivial))
            refine WP.sub (loc' := [(0, _)]) [0] rfl ?_
            exact t3 (by omega) M4 g4 b3
          · rw [decide_eq_false d3, zb01_f]
            refine wp_if_neN (tgt := 294) (q := 272) dX12_isOwnHere_269 (by decide) rfl (by omega) (fun hn => absurd hn (by first | omega | exact fun h => h | exact fun h => h trivial)) (fun _ => ?_)
            refine wp_aload_n (q := 273) dX12_isOwnHere_272 0 rfl rfl ?_
            refine wp_aload_n (q := 274) dX12_isOwnHere_273 0 rfl rfl ?_
            refine wp_getR (q := 277) dX12_isOwnHere_274 zf_RX12_87 rfl zsh_177 (zr_177_32 _) rfl ?_
            refine wp_cvy (q := 280) (sp_mHere (d := 0) (w0 := 22) g4.1 hT ⟨by decide, by decide, zsh_202, zWds_c hW g4.2.2 (by decide)⟩) zm_X12_isHere zl_RX12_259 dX12_isOwnHere_277 rfl (by omega) (Nat.le_of_ble_eq_true rfl) zsh_177 rfl rfl ?_
            rintro _ M5 L5 _ ⟨rfl, rfl, rfl, a4, b4, c4, e4⟩
            have g5 := stp g4 a4 c4 e4
            by_cases d4 : T i 4 = 22
            · rw [decide_eq_true d4, zb01_t]
              refine wp_if_neN (tgt := 294) (q := 283) dX12_isOwnHere_280 (by decide) rfl (by omega) (fun _ => ?_) (fun hn => absurd hn (by first | omega | exact fun h => h | exact fun h => h trivial))
              refine WP.sub (loc' := [(0, _)]) [0] rfl ?_
              exact t3 (by omega) M5 g5 b4
            · rw [decide_eq_false d4, zb01_f]
              refine wp_if_neN (tgt := 294) (q := 283) dX12_isOwnHere_280 (by decide) rfl (by omega) (fun hn => absurd hn (by first | omega | exact fun h => h | exact fun h => h trivial)) (fun _ => ?_)
              refine wp_aload_n (q := 284) dX12_isOwnHere_283 0 rfl rfl ?_
              refine wp_aload_n (q := 285) dX12_isOwnHere_284 0 rfl rfl ?_
              refine wp_getR (q := 288) dX12_isOwnHere_285 zf_RX12_90 rfl zsh_177 (zr_177_33 _) rfl ?_
              refine wp_cvy (q := 291) (sp_mHere (d := 0) (w0 := 23) g5.1 hT ⟨by decide, by decide, zsh_203, zWds_c hW g5.2.2 (by decide)⟩) zm_X12_isHere zl_RX12_259 dX12_isOwnHere_288 rfl (by omega) (Nat.le_of_ble_eq_true rfl) zsh_177 rfl rfl ?_
              rintro _ M6 L6 _ ⟨rfl, rfl, rfl, a5, b5, c5, e5⟩
              have g6 := stp g5 a5 c5 e5
              by_cases d5 : T i 4 = 23
              · rw [decide_eq_true d5, zb01_t]
                refine wp_if_eqN (tgt := 298) (q := 294) dX12_isOwnHere_291 (by decide) rfl (by omega) (fun hn => absurd hn (by first | omega | exact fun h => h | exact fun h => h trivial)) (fun _ => ?_)
                refine WP.sub (loc' := [(0, _)]) [0] rfl ?_
                exact t3 (by omega) M6 g6 b5
              · rw [decide_eq_false d5, zb01_f]
                refine wp_if_eqN (tgt := 298) (q := 294) dX12_isOwnHere_291 (by decide) rfl (by omega) (fun _ => ?_) (fun hn => absurd hn (by first | omega | exact fun h => h | exact fun h => h trivial))
                have ho1 : o = false := by
                  rw [← ho]
                  refine decide_eq_false (fun e => ?_)
                  by_cases hq : T i 4 < 18
                  · exact hne _ hq rfl
                  omega
                refine wp_iconst (q := 299) dX12_isOwnHere_298 zq_iconst_0 rfl ?_
                refine wp_istore_n (q := 300) (loc' := [(1, _), (0, _)]) dX12_isOwnHere_299 rfl (by decide) rfl rfl ?_
                refine wp_iload_n (q := 301) dX12_isOwnHere_300 0 rfl rfl ?_
                exact wp_zreturn dX12_isOwnHere_301 rfl (by first | with_reducible exact znar_0 | with_reducible exact znar_1 | assumption) ⟨rfl, ⟨by rw [ho1]; rfl, rfl, rfl, g6.1, b5, g6.2.1, g6.2.2⟩⟩ rfl rfl
  have s2 : (∀ w, w < 12 → T i 4 ≠ w) → ∀ (M0 : zMI), zOi M M0 b len T c i → WP w YX12_isOwnHere (d + 2, SS, 0, 0) G (some (zXp (fun v0 M' L' R' => v0 = some (.int (nI (zb01 o))) ∧ L = L' ∧ R' = zRf t ∧ zAt M' b len T c i ∧ M' 177 2 = nI (T i 1) ∧ (∀ k, k ≠ 2 → M' 177 k = M 177 k) ∧ ∀ x, x ≠ 177 → M' x = M x))) 152 [(0, .ref 177)] [] SS M0 L (zRf t) := by
    intro hne M0 g0
    refine wp_aload_n (q := 153) dX12_isOwnHere_152 0 rfl rfl ?_
    refine wp_aload_n (q := 154) dX12_isOwnHere_153 0 rfl rfl ?_
    refine wp_getR (q := 157) dX12_isOwnHere_154 zf_RX12_57 rfl zsh_177 (zr_177_22 _) rfl ?_
    refine wp_cvy (q := 160) (sp_mHere (d := 0) (w0 := 12) g0.1 hT ⟨by decide, by decide, zsh_192, zWds_c hW g0.2.2 (by decide)⟩) zm_X12_isHere zl_RX12_259 dX12_isOwnHere_157 rfl (by omega) (Nat.le_of_ble_eq_true rfl) zsh_177 rfl rfl ?_
    rintro _ M1 L1 _ ⟨rfl, rfl, rfl, a0, b0, c0, e0⟩
    have g1 := stp g0 a0 c0 e0
    by_cases d0 : T i 4 = 12
    · rw [decide_eq_true d0, zb01_t]
      refine wp_if_neN (tgt := 218) (q := 163) dX12_isOwnHere_160 (by decide) rfl (by omega) (fun _ => ?_) (fun hn => absurd hn (by first | omega | exact fun h => h | exact fun h => h trivial))
      refine WP.sub (loc' := [(0, _)]) [0] rfl ?_
      exact t2 (by omega) M1 g1 b0
    · rw [decide_eq_false d0, zb01_f]
      refine wp_if_neN (tgt := 218) (q := 163) dX12_isOwnHere_160 (by decide) rfl (by omega) (fun hn => absurd hn (by first | omega | exact fun h => h | exact fun h => h trivial)) (fun _ => ?_)
      refine wp_aload_n (q := 164) dX12_isOwnHere_163 0 rfl rfl ?_
      refine wp_aload_n (q := 165) dX12_isOwnHere_164 0 rfl rfl ?_
      refine wp_getR (q := 168) dX12_isOwnHere_165 zf_RX12_60 rfl zsh_177 (zr_177_23 _) rfl ?_
      refine wp_cvy (q := 171) (sp_mHere (d := 0) (w0 := 13) g1.1 hT ⟨by decide, by decide, zsh_193, zWds_c hW g1.2.2 (by decide)⟩) zm_X12_isHere zl_RX12_259 dX12_isOwnHere_168 rfl (by omega) (Nat.le_of_ble_eq_true rfl) zsh_177 rfl rfl ?_
      rintro _ M2 L2 _ ⟨rfl, rfl, rfl, a1, b1, c1, e1⟩
      have g2 := stp g1 a1 c1 e1
      by_cases d1 : T i 4 = 13
      · rw [decide_eq_true d1, zb01_t]
        refine wp_if_neN (tgt := 218) (q := 174) dX12_isOwnHere_171 (by decide) rfl (by omega) (fun _ => ?_) (fun hn => absurd hn (by first | omega | exact fun h => h | exact fun h => h trivial))
        refine WP.sub (loc' := [(0, _)]) [0] rfl ?_
        exact t2 (by omega) M2 g2 b1
      · rw [decide_eq_false d1, zb01_f]
        refine wp_if_neN (tgt := 218) (q := 174) dX12_isOwnHere_171 (by decide) rfl (by omega) (fun hn => absurd hn (by first | omega | exact fun h => h | exact fun h => h trivial)) (fun _ => ?_)
        refine wp_aload_n (q := 175) dX12_isOwnHere_174 0 rfl rfl ?_
        refine wp_aload_n (q := 176) dX12_isOwnHere_175 0 rfl rfl ?_
        refine wp_getR (q := 179) dX12_isOwnHere_176 zf_RX12_63 rfl zsh_177 (zr_177_24 _) rfl ?_
        refine wp_cvy (q := 182) (sp_mHere (d := 0) (w0 := 14) g2.1 hT ⟨by decide, by decide, zsh_194, zWds_c hW g2.2.2 (by decide)⟩) zm_X12_isHere zl_RX12_259 dX12_isOwnHere_179 rfl (by omega) (Nat.le_of_ble_eq_true rfl) zsh_177 rfl rfl ?_
        rintro _ M3 L3 _ ⟨rfl, rfl, rfl, a2, b2, c2, e2⟩
        have g3 := stp g2 a2 c2 e2
        by_cases d2 : T i 4 = 14
        · rw [decide_eq_true d2, zb01_t]
          refine wp_if_neN (tgt := 218) (q := 185) dX12_isOwnHere_182 (by decide) rfl (by omega) (fun _ => ?_) (fun hn => absurd hn (by first | omega | exact fun h => h | exact fun h => h trivial))
          refine WP.sub (loc' := [(0, _)]) [0] rfl ?_
          exact t2 (by omega) M3 g3 b2
        · rw [decide_eq_false d2, zb01_f]
          refine wp_if_neN (tgt := 218) (q := 185) dX12_isOwnHere_182 (by decide) rfl (by omega) (fun hn => absurd hn (by first | omega | exact fun h => h | exact fun h => h trivial)) (fun _ => ?_)
          refine wp_aload_n (q := 186) dX12_isOwnHere_185 0 rfl rfl ?_
          refine wp_aload_n (q := 187) dX12_isOwnHere_186 0 rfl rfl ?_
          refine wp_getR (q := 190) dX12_isOwnHere_187 zf_RX12_66 rfl zsh_177 (zr_177_25 _) rfl ?_
          refine wp_cvy (q := 193) (sp_mHere (d := 0) (w0 := 15) g3.1 hT ⟨by decide, by decide, zsh_195, zWds_c hW g3.2.2 (by decide)⟩) zm_X12_isHere zl_RX12_259 dX12_isOwnHere_190 rfl (by omega) (Nat.le_of_ble_eq_true rfl) zsh_177 rfl rfl ?_
          rintro _ M4 L4 _ ⟨rfl, rfl, rfl, a3, b3, c3, e3⟩
          have g4 := stp g3 a3 c3 e3
          by_cases d3 : T i 4 = 15
          · rw [decide_eq_true d3, zb01_t]
            refine wp_if_neN (tgt := 218) (q := 196) dX12_isOwnHere_193 (by decide) rfl (by omega) (fun _ => ?_) (fun hn => absurd hn (by first | omega | exact fun h => h | exact fun h => h trivial))
            refine WP.sub (loc' := [(0, _)]) [0] rfl ?_
            exact t2 (by omega) M4 g4 b3
          · rw [decide_eq_false d3, zb01_f]
            refine wp_if_neN (tgt := 218) (q := 196) dX12_isOwnHere_193 (by decide) rfl (by omega) (fun hn => absurd hn (by first | omega | exact fun h => h | exact fun h => h trivial)) (fun _ => ?_)
            refine wp_aload_n (q := 197) dX12_isOwnHere_196 0 rfl rfl ?_
            refine wp_aload_n (q := 198) dX12_isOwnHere_197 0 rfl rfl ?_
            refine wp_getR (q := 201) dX12_isOwnHere_198 zf_RX12_69 rfl zsh_177 (zr_177_26 _) rfl ?_
            refine wp_cvy (q := 204) (sp_mHere (d := 0) (w0 := 16) g4.1 hT ⟨by decide, by decide, zsh_196, zWds_c hW g4.2.2 (by decide)⟩) zm_X12_isHere zl_RX12_259 dX12_isOwnHere_201 rfl (by omega) (Nat.le_of_ble_eq_true rfl) zsh_177 rfl rfl ?_
            rintro _ M5 L5 _ ⟨rfl, rfl, rfl, a4, b4, c4, e4⟩
            have g5 := stp g4 a4 c4 e4
            by_cases d4 : T i 4 = 16
            · rw [decide_eq_true d4, zb01_t]
              refine wp_if_neN (tgt := 218) (q := 207) dX12_isOwnHere_204 (by decide) rfl (by omega) (fun _ => ?_) (fun hn => absurd hn (by first | omega | exact fun h => h | exact fun h => h trivial))
              refine WP.sub (loc' := [(0, _)]) [0] rfl ?_
              exact t2 (by omega) M5 g5 b4
            · rw [decide_eq_false d4, zb01_f]
              refine wp_if_neN (tgt := 218) (q := 207) dX12_isOwnHere_204 (by decide) rfl (by omega) (fun hn => absurd hn (by first | omega | exact fun h => h | exact fun h => h trivial)) (fun _ => ?_)
              refine wp_aload_n (q := 208) dX12_isOwnHere_207 0 rfl rfl ?_
              refine wp_aload_n (q := 209) dX12_isOwnHere_208 0 rfl rfl ?_
              refine wp_getR (q := 212) dX12_isOwnHere_209 zf_RX12_72 rfl zsh_177 (zr_177_27 _) rfl ?_
              refine wp_cvy (q := 215) (sp_mHere (d := 0) (w0 := 17) g5.1 hT ⟨by decide, by decide, zsh_197, zWds_c hW g5.2.2 (by decide)⟩) zm_X12_isHere zl_RX12_259 dX12_isOwnHere_212 rfl (by omega) (Nat.le_of_ble_eq_true rfl) zsh_177 rfl rfl ?_
              rintro _ M6 L6 _ ⟨rfl, rfl, rfl, a5, b5, c5, e5⟩
              have g6 := stp g5 a5 c5 e5
              by_cases d5 : T i 4 = 17
              · rw [decide_eq_true d5, zb01_t]
                refine wp_if_eqN (tgt := 222) (q := 218) dX12_isOwnHere_215 (by decide) rfl (by omega) (fun hn => absurd hn (by first | omega | exact fun h => h | exact fun h => h trivial)) (fun _ => ?_)
                refine WP.sub (loc' := [(0, _)]) [0] rfl ?_
                exact t2 (by omega) M6 g6 b5
              · rw [decide_eq_false d5, zb01_f]
                refine wp_if_eqN (tgt := 222) (q := 218) dX12_isOwnHere_215 (by decide) rfl (by omega) (fun _ => ?_) (fun hn => absurd hn (by first | omega | exact fun h => h | exact fun h => h trivial))
                refine wp_iconst (q := 223) dX12_isOwnHere_222 zq_iconst_0 rfl ?_
                refine wp_istore_n (q := 224) (loc' := [(1, _), (0, _)]) dX12_isOwnHere_223 rfl (by decide) rfl rfl ?_
                refine wp_iload_n (q := 225) dX12_isOwnHere_224 0 rfl rfl ?_
                refine wp_if_neN (tgt := 294) (q := 228) dX12_isOwnHere_225 (by decide) rfl (by omega) (fun hn => absurd hn (by first | omega | exact fun h => h | exact fun h => h trivial)) (fun _ => ?_)
                refine WP.sub (loc' := [(0, _)]) [1] rfl ?_
                refine s3 (fun w0 hw e => ?_) M6 g6
                by_cases hq : w0 < 12
                · exact hne w0 hq e
                omega
  have s1 : (∀ w, w < 6 → T i 4 ≠ w) → ∀ (M0 : zMI), zOi M M0 b len T c i → WP w YX12_isOwnHere (d + 2, SS, 0, 0) G (some (zXp (fun v0 M' L' R' => v0 = some (.int (nI (zb01 o))) ∧ L = L' ∧ R' = zRf t ∧ zAt M' b len T c i ∧ M' 177 2 = nI (T i 1) ∧ (∀ k, k ≠ 2 → M' 177 k = M 177 k) ∧ ∀ x, x ≠ 177 → M' x = M x))) 76 [(0, .ref 177)] [] SS M0 L (zRf t) := by
    intro hne M0 g0
    refine wp_aload_n (q := 77) dX12_isOwnHere_76 0 rfl rfl ?_
    refine wp_aload_n (q := 78) dX12_isOwnHere_77 0 rfl rfl ?_
    refine wp_getR (q := 81) dX12_isOwnHere_78 zf_RX12_39 rfl zsh_177 (zr_177_16 _) rfl ?_
    refine wp_cvy (q := 84) (sp_mHere (d := 0) (w0 := 6) g0.1 hT ⟨by decide, by decide, zsh_186, zWds_c hW g0.2.2 (by decide)⟩) zm_X12_isHere zl_RX12_259 dX12_isOwnHere_81 rfl (by omega) (Nat.le_of_ble_eq_true rfl) zsh_177 rfl rfl ?_
    rintro _ M1 L1 _ ⟨rfl, rfl, rfl, a0, b0, c0, e0⟩
    have g1 := stp g0 a0 c0 e0
    by_cases d0 : T i 4 = 6
    · rw [decide_eq_true d0, zb01_t]
      refine wp_if_neN (tgt := 142) (q := 87) dX12_isOwnHere_84 (by decide) rfl (by omega) (fun _ => ?_) (fun hn => absurd hn (by first | omega | exact fun h => h | exact fun h => h trivial))
      refine WP.sub (loc' := [(0, _)]) [0] rfl ?_
      exact t1 (by omega) M1 g1 b0
    · rw [decide_eq_false d0, zb01_f]
      refine wp_if_neN (tgt := 142) (q := 87) dX12_isOwnHere_84 (by decide) rfl (by omega) (fun hn => absurd hn (by first | omega | exact fun h => h | exact fun h => h trivial)) (fun _ => ?_)
      refine wp_aload_n (q := 88) dX12_isOwnHere_87 0 rfl rfl ?_
      refine wp_aload_n (q := 89) dX12_isOwnHere_88 0 rfl rfl ?_
      refine wp_getR (q := 92) dX12_isOwnHere_89 zf_RX12_42 rfl zsh_177 (zr_177_17 _) rfl ?_
      refine wp_cvy (q := 95) (sp_mHere (d := 0) (w0 := 7) g1.1 hT ⟨by decide, by decide, zsh_187, zWds_c hW g1.2.2 (by decide)⟩) zm_X12_isHere zl_RX12_259 dX12_isOwnHere_92 rfl (by omega) (Nat.le_of_ble_eq_true rfl) zsh_177 rfl rfl ?_
      rintro _ M2 L2 _ ⟨rfl, rfl, rfl, a1, b1, c1, e1⟩
      have g2 := stp g1 a1 c1 e1
      by_cases d1 : T i 4 = 7
      · rw [decide_eq_true d1, zb01_t]
        refine wp_if_neN (tgt := 142) (q := 98) dX12_isOwnHere_95 (by decide) rfl (by omega) (fun _ => ?_) (fun hn => absurd hn (by first | omega | exact fun h => h | exact fun h => h trivial))
        refine WP.sub (loc' := [(0, _)]) [0] rfl ?_
        exact t1 (by omega) M2 g2 b1
      · rw [decide_eq_false d1, zb01_f]
        refine wp_if_neN (tgt := 142) (q := 98) dX12_isOwnHere_95 (by decide) rfl (by omega) (fun hn => absurd hn (by first | omega | exact fun h => h | exact fun h => h trivial)) (fun _ => ?_)
        refine wp_aload_n (q := 99) dX12_isOwnHere_98 0 rfl rfl ?_
        refine wp_aload_n (q := 100) dX12_isOwnHere_99 0 rfl rfl ?_
        refine wp_getR (q := 103) dX12_isOwnHere_100 zf_RX12_45 rfl zsh_177 (zr_177_18 _) rfl ?_
        refine wp_cvy (q := 106) (sp_mHere (d := 0) (w0 := 8) g2.1 hT ⟨by decide, by decide, zsh_188, zWds_c hW g2.2.2 (by decide)⟩) zm_X12_isHere zl_RX12_259 dX12_isOwnHere_103 rfl (by omega) (Nat.le_of_ble_eq_true rfl) zsh_177 rfl rfl ?_
        rintro _ M3 L3 _ ⟨rfl, rfl, rfl, a2, b2, c2, e2⟩
        have g3 := stp g2 a2 c2 e2
        by_cases d2 : T i 4 = 8
        · rw [decide_eq_true d2, zb01_t]
          refine wp_if_neN (tgt := 142) (q := 109) dX12_isOwnHere_106 (by decide) rfl (by omega) (fun _ => ?_) (fun hn => absurd hn (by first | omega | exact fun h => h | exact fun h => h trivial))
          refine WP.sub (loc' := [(0, _)]) [0] rfl ?_
          exact t1 (by omega) M3 g3 b2
        · rw [decide_eq_false d2, zb01_f]
          refine wp_if_neN (tgt := 142) (q := 109) dX12_isOwnHere_106 (by decide) rfl (by omega) (fun hn => absurd hn (by first | omega | exact fun h => h | exact fun h => h trivial)) (fun _ => ?_)
          refine wp_aload_n (q := 110) dX12_isOwnHere_109 0 rfl rfl ?_
          refine wp_aload_n (q := 111) dX12_isOwnHere_110 0 rfl rfl ?_
          refine wp_getR (q := 114) dX12_isOwnHere_111 zf_RX12_48 rfl zsh_177 (zr_177_19 _) rfl ?_
          refine wp_cvy (q := 117) (sp_mHere (d := 0) (w0 := 9) g3.1 hT ⟨by decide, by decide, zsh_189, zWds_c hW g3.2.2 (by decide)⟩) zm_X12_isHere zl_RX12_259 dX12_isOwnHere_114 rfl (by omega) (Nat.le_of_ble_eq_true rfl) zsh_177 rfl rfl ?_
          rintro _ M4 L4 _ ⟨rfl, rfl, rfl, a3, b3, c3, e3⟩
          have g4 := stp g3 a3 c3 e3
          by_cases d3 : T i 4 = 9
          · rw [decide_eq_true d3, zb01_t]
            refine wp_if_neN (tgt := 142) (q := 120) dX12_isOwnHere_117 (by decide) rfl (by omega) (fun _ => ?_) (fun hn => absurd hn (by first | omega | exact fun h => h | exact fun h => h trivial))
            refine WP.sub (loc' := [(0, _)]) [0] rfl ?_
            exact t1 (by omega) M4 g4 b3
          · rw [decide_eq_false d3, zb01_f]
            refine wp_if_neN (tgt := 142) (q := 120) dX12_isOwnHere_117 (by decide) rfl (by omega) (fun hn => absurd hn (by first | omega | exact fun h => h | exact fun h => h trivial)) (fun _ => ?_)
            refine wp_aload_n (q := 121) dX12_isOwnHere_120 0 rfl rfl ?_
            refine wp_aload_n (q := 122) dX12_isOwnHere_121 0 rfl rfl ?_
            refine wp_getR (q := 125) dX12_isOwnHere_122 zf_RX12_51 rfl zsh_177 (zr_177_20 _) rfl ?_
            refine wp_cvy (q := 128) (sp_mHere (d := 0) (w0 := 10) g4.1 hT ⟨by decide, by decide, zsh_190, zWds_c hW g4.2.2 (by decide)⟩) zm_X12_isHere zl_RX12_259 dX12_isOwnHere_125 rfl (by omega) (Nat.le_of_ble_eq_true rfl) zsh_177 rfl rfl ?_
            rintro _ M5 L5 _ ⟨rfl, rfl, rfl, a4, b4, c4, e4⟩
            have g5 := stp g4 a4 c4 e4
            by_cases d4 : T i 4 = 10
            · rw [decide_eq_true d4, zb01_t]
              refine wp_if_neN (tgt := 142) (q := 131) dX12_isOwnHere_128 (by decide) rfl (by omega) (fun _ => ?_) (fun hn => absurd hn (by first | omega | exact fun h => h | exact fun h => h trivial))
              refine WP.sub (loc' := [(0, _)]) [0] rfl ?_
              exact t1 (by omega) M5 g5 b4
            · rw [decide_eq_false d4, zb01_f]
              refine wp_if_neN (tgt := 142) (q := 131) dX12_isOwnHere_128 (by decide) rfl (by omega) (fun hn => absurd hn (by first | omega | exact fun h => h | exact fun h => h trivial)) (fun _ => ?_)
              refine wp_aload_n (q := 132) dX12_isOwnHere_131 0 rfl rfl ?_
              refine wp_aload_n (q := 133) dX12_isOwnHere_132 0 rfl rfl ?_
              refine wp_getR (q := 136) dX12_isOwnHere_133 zf_RX12_54 rfl zsh_177 (zr_177_21 _) rfl ?_
              refine wp_cvy (q := 139) (sp_mHere (d := 0) (w0 := 11) g5.1 hT ⟨by decide, by decide, zsh_191, zWds_c hW g5.2.2 (by decide)⟩) zm_X12_isHere zl_RX12_259 dX12_isOwnHere_136 rfl (by omega) (Nat.le_of_ble_eq_true rfl) zsh_177 rfl rfl ?_
              rintro _ M6 L6 _ ⟨rfl, rfl, rfl, a5, b5, c5, e5⟩
              have g6 := stp g5 a5 c5 e5
              by_cases d5 : T i 4 = 11
              · rw [decide_eq_true d5, zb01_t]
                refine wp_if_eqN (tgt := 146) (q := 142) dX12_isOwnHere_139 (by decide) rfl (by omega) (fun hn => absurd hn (by first | omega | exact fun h => h | exact fun h => h trivial)) (fun _ => ?_)
                refine WP.sub (loc' := [(0, _)]) [0] rfl ?_
                exact t1 (by omega) M6 g6 b5
              · rw [decide_eq_false d5, zb01_f]
                refine wp_if_eqN (tgt := 146) (q := 142) dX12_isOwnHere_139 (by decide) rfl (by omega) (fun _ => ?_) (fun hn => absurd hn (by first | omega | exact fun h => h | exact fun h => h trivial))
                refine wp_iconst (q := 147) dX12_isOwnHere_146 zq_iconst_0 rfl ?_
                refine wp_istore_n (q := 148) (loc' := [(1, _), (0, _)]) dX12_isOwnHere_147 rfl (by decide) rfl rfl ?_
                refine wp_iload_n (q := 149) dX12_isOwnHere_148 0 rfl rfl ?_
                refine wp_if_neN (tgt := 218) (q := 152) dX12_isOwnHere_149 (by decide) rfl (by omega) (fun hn => absurd hn (by first | omega | exact fun h => h | exact fun h => h trivial)) (fun _ => ?_)
                refine WP.sub (loc' := [(0, _)]) [1] rfl ?_
                refine s2 (fun w0 hw e => ?_) M6 g6
                by_cases hq : w0 < 6
                · exact hne w0 hq e
                omega
  have s0 : ∀ (M0 : zMI), zOi M M0 b len T c i → WP w YX12_isOwnHere (d + 2, SS, 0, 0) G (some (zXp (fun v0 M' L' R' => v0 = some (.int (nI (zb01 o))) ∧ L = L' ∧ R' = zRf t ∧ zAt M' b len T c i ∧ M' 177 2 = nI (T i 1) ∧ (∀ k, k ≠ 2 → M' 177 k = M 177 k) ∧ ∀ x, x ≠ 177 → M' x = M x))) 0 [(0, .ref 177)] [] SS M0 L (zRf t) := by
    intro M0 g0
    refine wp_aload_n (q := 1) dX12_isOwnHere_0 0 rfl rfl ?_
    refine wp_aload_n (q := 2) dX12_isOwnHere_1 0 rfl rfl ?_
    refine wp_getR (q := 5) dX12_isOwnHere_2 zf_RX12_20 rfl zsh_177 (zr_177_10 _) rfl ?_
    refine wp_cvy (q := 8) (sp_mHere (d := 0) (w0 := 0) g0.1 hT ⟨by decide, by decide, zsh_180, zWds_c hW g0.2.2 (by decide)⟩) zm_X12_isHere zl_RX12_259 dX12_isOwnHere_5 rfl (by omega) (Nat.le_of_ble_eq_true rfl) zsh_177 rfl rfl ?_
    rintro _ M1 L1 _ ⟨rfl, rfl, rfl, a0, b0, c0, e0⟩
    have g1 := stp g0 a0 c0 e0
    by_cases d0 : T i 4 = 0
    · rw [decide_eq_true d0, zb01_t]
      refine wp_if_neN (tgt := 66) (q := 11) dX12_isOwnHere_8 (by decide) rfl (by omega) (fun _ => ?_) (fun hn => absurd hn (by first | omega | exact fun h => h | exact fun h => h trivial))
      refine WP.sub (loc' := [(0, _)]) [0] rfl ?_
      exact t0 (by omega) M1 g1 b0
    · rw [decide_eq_false d0, zb01_f]
      refine wp_if_neN (tgt := 66) (q := 11) dX12_isOwnHere_8 (by decide) rfl (by omega) (fun hn => absurd hn (by first | omega | exact fun h => h | exact fun h => h trivial)) (fun _ => ?_)
      refine wp_aload_n (q := 12) dX12_isOwnHere_11 0 rfl rfl ?_
      refine wp_aload_n (q := 13) dX12_isOwnHere_12 0 rfl rfl ?_
      refine wp_getR (q := 16) dX12_isOwnHere_13 zf_RX12_24 rfl zsh_177 (zr_177_11 _) rfl ?_
      refine wp_cvy (q := 19) (sp_mHere (d := 0) (w0 := 1) g1.1 hT ⟨by decide, by decide, zsh_181, zWds_c hW g1.2.2 (by decide)⟩) zm_X12_isHere zl_RX12_259 dX12_isOwnHere_16 rfl (by omega) (Nat.le_of_ble_eq_true rfl) zsh_177 rfl rfl ?_
      rintro _ M2 L2 _ ⟨rfl, rfl, rfl, a1, b1, c1, e1⟩
      have g2 := stp g1 a1 c1 e1
      by_cases d1 : T i 4 = 1
      · rw [decide_eq_true d1, zb01_t]
        refine wp_if_neN (tgt := 66) (q := 22) dX12_isOwnHere_19 (by decide) rfl (by omega) (fun _ => ?_) (fun hn => absurd hn (by first | omega | exact fun h => h | exact fun h => h trivial))
        refine WP.sub (loc' := [(0, _)]) [0] rfl ?_
        exact t0 (by omega) M2 g2 b1
      · rw [decide_eq_false d1, zb01_f]
        refine wp_if_neN (tgt := 66) (q := 22) dX12_isOwnHere_19 (by decide) rfl (by omega) (fun hn => absurd hn (by first | omega | exact fun h => h | exact fun h => h trivial)) (fun _ => ?_)
        refine wp_aload_n (q := 23) dX12_isOwnHere_22 0 rfl rfl ?_
        refine wp_aload_n (q := 24) dX12_isOwnHere_23 0 rfl rfl ?_
        refine wp_getR (q := 27) dX12_isOwnHere_24 zf_RX12_27 rfl zsh_177 (zr_177_12 _) rfl ?_
        refine wp_cvy (q := 30) (sp_mHere (d := 0) (w0 := 2) g2.1 hT ⟨by decide, by decide, zsh_182, zWds_c hW g2.2.2 (by decide)⟩) zm_X12_isHere zl_RX12_259 dX12_isOwnHere_27 rfl (by omega) (Nat.le_of_ble_eq_true rfl) zsh_177 rfl rfl ?_
        rintro _ M3 L3 _ ⟨rfl, rfl, rfl, a2, b2, c2, e2⟩
        have g3 := stp g2 a2 c2 e2
        by_cases d2 : T i 4 = 2
        · rw [decide_eq_true d2, zb01_t]
          refine wp_if_neN (tgt := 66) (q := 33) dX12_isOwnHere_30 (by decide) rfl (by omega) (fun _ => ?_) (fun hn => absurd hn (by first | omega | exact fun h => h | exact fun h => h trivial))
          refine WP.sub (loc' := [(0, _)]) [0] rfl ?_
          exact t0 (by omega) M3 g3 b2
        · rw [decide_eq_false d2, zb01_f]
          refine wp_if_neN (tgt := 66) (q := 33) dX12_isOwnHere_30 (by decide) rfl (by omega) (fun hn => absurd hn (by first | omega | exact fun h => h | exact fun h => h trivial)) (fun _ => ?_)
          refine wp_aload_n (q := 34) dX12_isOwnHere_33 0 rfl rfl ?_
          refine wp_aload_n (q := 35) dX12_isOwnHere_34 0 rfl rfl ?_
          refine wp_getR (q := 38) dX12_isOwnHere_35 zf_RX12_30 rfl zsh_177 (zr_177_13 _) rfl ?_
          refine wp_cvy (q := 41) (sp_mHere (d := 0) (w0 := 3) g3.1 hT ⟨by decide, by decide, zsh_183, zWds_c hW g3.2.2 (by decide)⟩) zm_X12_isHere zl_RX12_259 dX12_isOwnHere_38 rfl (by omega) (Nat.le_of_ble_eq_true rfl) zsh_177 rfl rfl ?_
          rintro _ M4 L4 _ ⟨rfl, rfl, rfl, a3, b3, c3, e3⟩
          have g4 := stp g3 a3 c3 e3
          by_cases d3 : T i 4 = 3
          · rw [decide_eq_true d3, zb01_t]
            refine wp_if_neN (tgt := 66) (q := 44) dX12_isOwnHere_41 (by decide) rfl (by omega) (fun _ => ?_) (fun hn => absurd hn (by first | omega | exact fun h => h | exact fun h => h trivial))
            refine WP.sub (loc' := [(0, _)]) [0] rfl ?_
            exact t0 (by omega) M4 g4 b3
          · rw [decide_eq_false d3, zb01_f]
            refine wp_if_neN (tgt := 66) (q := 44) dX12_isOwnHere_41 (by decide) rfl (by omega) (fun hn => absurd hn (by first | omega | exact fun h => h | exact fun h => h trivial)) (fun _ => ?_)
            refine wp_aload_n (q := 45) dX12_isOwnHere_44 0 rfl rfl ?_
            refine wp_aload_n (q := 46) dX12_isOwnHere_45 0 rfl rfl ?_
            refine wp_getR (q := 49) dX12_isOwnHere_46 zf_RX12_33 rfl zsh_177 (zr_177_14 _) rfl ?_
            refine wp_cvy (q := 52) (sp_mHere (d := 0) (w0 := 4) g4.1 hT ⟨by decide, by decide, zsh_184, zWds_c hW g4.2.2 (by decide)⟩) zm_X12_isHere zl_RX12_259 dX12_isOwnHere_49 rfl (by omega) (Nat.le_of_ble_eq_true rfl) zsh_177 rfl rfl ?_
            rintro _ M5 L5 _ ⟨rfl, rfl, rfl, a4, b4, c4, e4⟩
            have g5 := stp g4 a4 c4 e4
            by_cases d4 : T i 4 = 4
            · rw [decide_eq_true d4, zb01_t]
              refine wp_if_neN (tgt := 66) (q := 55) dX12_isOwnHere_52 (by decide) rfl (by omega) (fun _ => ?_) (fun hn => absurd hn (by first | omega | exact fun h => h | exact fun h => h trivial))
              refine WP.sub (loc' := [(0, _)]) [0] rfl ?_
              exact t0 (by omega) M5 g5 b4
            · rw [decide_eq_false d4, zb01_f]
              refine wp_if_neN (tgt := 66) (q := 55) dX12_isOwnHere_52 (by decide) rfl (by omega) (fun hn => absurd hn (by first | omega | exact fun h => h | exact fun h => h trivial)) (fun _ => ?_)
              refine wp_aload_n (q := 56) dX12_isOwnHere_55 0 rfl rfl ?_
              refine wp_aload_n (q := 57) dX12_isOwnHere_56 0 rfl rfl ?_
              refine wp_getR (q := 60) dX12_isOwnHere_57 zf_RX12_36 rfl zsh_177 (zr_177_15 _) rfl ?_
              refine wp_cvy (q := 63) (sp_mHere (d := 0) (w0 := 5) g5.1 hT ⟨by decide, by decide, zsh_185, zWds_c hW g5.2.2 (by decide)⟩) zm_X12_isHere zl_RX12_259 dX12_isOwnHere_60 rfl (by omega) (Nat.le_of_ble_eq_true rfl) zsh_177 rfl rfl ?_
              rintro _ M6 L6 _ ⟨rfl, rfl, rfl, a5, b5, c5, e5⟩
              have g6 := stp g5 a5 c5 e5
              by_cases d5 : T i 4 = 5
              · rw [decide_eq_true d5, zb01_t]
                refine wp_if_eqN (tgt := 70) (q := 66) dX12_isOwnHere_63 (by decide) rfl (by omega) (fun hn => absurd hn (by first | omega | exact fun h => h | exact fun h => h trivial)) (fun _ => ?_)
                refine WP.sub (loc' := [(0, _)]) [0] rfl ?_
                exact t0 (by omega) M6 g6 b5
              · rw [decide_eq_false d5, zb01_f]
                refine wp_if_eqN (tgt := 70) (q := 66) dX12_isOwnHere_63 (by decide) rfl (by omega) (fun _ => ?_) (fun hn => absurd hn (by first | omega | exact fun h => h | exact fun h => h trivial))
                refine wp_iconst (q := 71) dX12_isOwnHere_70 zq_iconst_0 rfl ?_
                refine wp_istore_n (q := 72) (loc' := [(1, _), (0, _)]) dX12_isOwnHere_71 rfl (by decide) rfl rfl ?_
                refine wp_iload_n (q := 73) dX12_isOwnHere_72 0 rfl rfl ?_
                refine wp_if_neN (tgt := 142) (q := 76) dX12_isOwnHere_73 (by decide) rfl (by omega) (fun hn => absurd hn (by first | omega | exact fun h => h | exact fun h => h trivial)) (fun _ => ?_)
                refine WP.sub (loc' := [(0, _)]) [1] rfl ?_
                refine s1 (fun w0 hw e => ?_) M6 g6
                omega
  refine WP.sub (loc' := [(0, _)]) [0] rfl ?_
  exact s0 M ⟨h, fun _ _ => rfl, fun _ _ => rfl⟩

