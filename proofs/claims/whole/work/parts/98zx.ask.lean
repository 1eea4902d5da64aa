def zAqf (M M' : zMI) (L L' : zML) : Prop := (∀ x, x ≠ 177 → x ≠ 245 → x ≠ 246 → x ≠ 214 → M' x = M x) ∧ (∀ k, (k = 66 ∨ k = 67 ∨ k = 98) → M' 177 k = M 177 k) ∧ (∀ x, x ≠ 213 → x ≠ 247 → x ≠ 177 → L' x = L x) ∧ L' 177 68 = L 177 68
theorem zMo_q {M M' : zMI} {L L' : zML} {n : Nat} {g : zGd} {v : Nat → Nat} {hs : List (Nat → Nat)} {m m' : zMs} (h : zMo M L n g v hs m) (e : zAqf M M' L L') (hm : zMm M' L' m') : zMo M' L' n g v hs m' := by
  obtain ⟨a1, a2, a3, a4, a5⟩ := h
  obtain ⟨e1, e2, e3, e4⟩ := e
  exact ⟨zMc_fr a1 (fun x hx => e1 x (by omega) (by omega) (by omega) (by omega)), zMd_fr a2 (e1 204 (by decide) (by decide) (by decide) (by decide)) (e3 205 (by decide) (by decide) (by decide)) (e1 207 (by decide) (by decide) (by decide) (by decide)) (e1 208 (by decide) (by decide) (by decide) (by decide)), zMk_fr a3 (e2 66 (by decide)) (e2 67 (by decide)) (e1 226 (by decide) (by decide) (by decide) (by decide)), hm, zWds_fr a5 (fun x hx => e1 x (by omega) (by omega) (by omega) (by omega))⟩
theorem zMm_q {M M' : zMI} {L L' : zML} {m : zMs} {a b : Int32} (h : zMm M L m) (e : zAqf M M' L L') (h1 : M' 177 1 = nI 0) (h7 : M' 177 7 = a) (h8 : M' 177 8 = b) : zMm M' L' (zMf m a b) := by
  obtain ⟨c1, c2, c3, c4, c5, c6, c7, c8, c9, c10, c11⟩ := h
  obtain ⟨e1, e2, e3, e4⟩ := e
  exact ⟨h1, Nat.zero_le _, fun i hi => absurd hi (Nat.not_lt_zero _), fun i hi => by rw [e1 179 (by decide) (by decide) (by decide) (by decide)]; exact c4 i hi, by rw [e4]; exact c5, c6, h7, h8, by rw [e2 98 (by decide)]; exact c9, c10, fun i hi => by rw [e1 248 (by decide) (by decide) (by decide) (by decide)]; exact c11 i hi⟩
theorem zYf_q {M M' : zMI} {L L' : zML} (e : zAqf M M' L L') : zYf M M' L L' := fun x hx => ⟨e.1 x (by omega) (by omega) (by omega) (by omega), e.2.2.1 x (by omega) (by omega) (by omega)⟩
theorem zfq_qa {T : zDD} {c : Nat} {p : zP} : zfq (zpWo T c p 24 29).1 (zqa T c p).1 := by
  have h2 : ∀ r : zPF, zfq r.1 (zqa2 T c r).1 := fun r => by
    unfold zqa2
    split
    · exact zfq_r _
    · exact zfq_f
  unfold zqa
  split
  · exact zfq_t (zfq_lx (zfq_lx (zfq_qf 8)) _ _) (h2 _)
  · exact zfq_t (zfq_sum _ _) (h2 _)
theorem zkp_qa {T : zDD} {c : Nat} {p : zP} (hE : zTE T c) (hp : p.1 < c) : (zqa T c p).1.1 < c := by
  have h1 := (zkp_Wo (f := 24) (l := 29) hE hp).1
  have h2 : ∀ r : zPF, r.1.1 < c → (zqa2 T c r).1.1 < c := fun r hr => by
    unfold zqa2
    split
    · exact hr
    · show (zpf c r.1 1 _).1 < c
      rw [zpf_1]; omega
  unfold zqa
  split
  · exact h2 _ (zkp_test hE _ _ h1)
  · exact h2 _ (zkp_sum hE _ _ h1).1
def zLqf (M M' : zMI) (L L' : zML) : Prop := (∀ x, x ≠ 177 → x ≠ 214 → M' x = M x) ∧ (∀ k, k ≠ 50 → k ≠ 94 → k ≠ 96 → M' 177 k = M 177 k) ∧ (∀ x, x ≠ 213 → x ≠ 247 → x ≠ 177 → L' x = L x) ∧ ∀ k, k ≠ 95 → L' 177 k = L 177 k
theorem zLqf_t {M M' M'' : zMI} {L L' L'' : zML} (h : zLqf M M' L L') (h' : zLqf M' M'' L' L'') : zLqf M M'' L L'' := ⟨fun x a b => by rw [h'.1 x a b, h.1 x a b], fun k a b c => by rw [h'.2.1 k a b c, h.2.1 k a b c], fun x a b c => by rw [h'.2.2.1 x a b c, h.2.2.1 x a b c], fun k a => by rw [h'.2.2.2 k a, h.2.2.2 k a]⟩
set_option maxHeartbeats 4000000 in
set_option maxRecDepth 100000 in
theorem sp_mAsk {d t n c : Nat} {M : zMI} {L : zML} {g : zGd} {v : Nat → Nat} {hs : List (Nat → Nat)} {m : zMs} {T : zDD} {A : zPF} (h : zMo M L n g v hs m) (hT : zTok m.2.1 m.1 T c) (hA : zqa T c (0, nI 0, 0, -1) = A) : Sy yX12_ask YX12_ask (d + 10) [.ref 177] M L (zRf t) (fun v0 M' L' R' => R' = zRf t ∧ zYf M M' L L' ∧ zMo M' L' n g v hs (zMf m (nI A.1.2.2.1) A.1.2.2.2) ∧ ((A.1.2.2.1 ≠ 0 ∧ v0 = some (.long (-1000000000000000))) ∨ (A.1.2.2.1 = 0 ∧ v0 = some (.long (lI (zqan (zpWo T c (0, nI 0, 0, -1) 24 29).2 (zqz g.2.2.2.2.2 v n A.2) n)))))) := by
  refine Sp.of (by decide +kernel) rfl (fun h => by first | exact h | cases h) (Nat.le_of_ble_eq_true rfl) ?_
  intro w G
  have hE := zTok_TE hT
  have hmm := h.2.2.2.1
  have hW0 := h.2.2.2.2
  obtain ⟨c1, c2, c3, -⟩ := id hmm
  have hc0 : 0 < c := hT.1
  have hcc : c ≤ 1601 := by have := hT.2.1; omega
  have h8 := h.1.2.1.1.1
  obtain ⟨N, hN⟩ : ∃ N, zu (zu (zu (zu (zu (zu (zu (zu (zu (zu M 177 3 (nI m.1)) 177 1 (nI 0)) 177 2 (nI 0)) 177 4 (-1)) 177 5 (nI 0)) 177 6 (-1)) 177 88 (nI 0)) 177 90 (nI 0)) 177 91 (nI 0)) 177 92 (nI 0) = N := ⟨_, rfl⟩
  have e92 : N 177 92 = nI 0 := by rw [← hN, zu_s]
  have e91 : N 177 91 = nI 0 := by rw [← hN, zu_k (by decide), zu_s]
  have e90 : N 177 90 = nI 0 := by rw [← hN, zu_k (by decide), zu_k (by decide), zu_s]
  have e88 : N 177 88 = nI 0 := by rw [← hN, zu_k (by decide), zu_k (by decide), zu_k (by decide), zu_s]
  have e6 : N 177 6 = -1 := by rw [← hN, zu_k (by decide), zu_k (by decide), zu_k (by decide), zu_k (by decide), zu_s]
  have e5 : N 177 5 = nI 0 := by rw [← hN, zu_k (by decide), zu_k (by decide), zu_k (by decide), zu_k (by decide), zu_k (by decide), zu_s]
  have e4 : N 177 4 = -1 := by rw [← hN, zu_k (by decide), zu_k (by decide), zu_k (by decide), zu_k (by decide), zu_k (by decide), zu_k (by decide), zu_s]
  have e2 : N 177 2 = nI 0 := by rw [← hN, zu_k (by decide), zu_k (by decide), zu_k (by decide), zu_k (by decide), zu_k (by decide), zu_k (by decide), zu_k (by decide), zu_s]
  have e1 : N 177 1 = nI 0 := by rw [← hN, zu_k (by decide), zu_k (by decide), zu_k (by decide), zu_k (by decide), zu_k (by decide), zu_k (by decide), zu_k (by decide), zu_k (by decide), zu_s]
  have e3 : N 177 3 = nI m.1 := by rw [← hN, zu_k (by decide), zu_k (by decide), zu_k (by decide), zu_k (by decide), zu_k (by decide), zu_k (by decide), zu_k (by decide), zu_k (by decide), zu_k (by decide), zu_s]
  have eo : ∀ k, k ≠ 1 → k ≠ 2 → k ≠ 3 → k ≠ 4 → k ≠ 5 → k ≠ 6 → k ≠ 88 → k ≠ 90 → k ≠ 91 → k ≠ 92 → N 177 k = M 177 k := fun k y1 y2 y3 y4 y5 y6 y7 y8 y9 y10 => by rw [← hN, zu_k y10, zu_k y9, zu_k y8, zu_k y7, zu_k y6, zu_k y5, zu_k y4, zu_k y2, zu_k y1, zu_k y3]
  have ex : ∀ x, x ≠ 177 → N x = M x := fun x y1 => by rw [← hN, zu_ne y1, zu_ne y1, zu_ne y1, zu_ne y1, zu_ne y1, zu_ne y1, zu_ne y1, zu_ne y1, zu_ne y1, zu_ne y1]
  have hWN : zWds N := zWds_fr hW0 (fun x hx => ex x (by omega))
  have ta : zTa N m.2.1 m.1 := ⟨e3, c2, fun i hi => by rw [ex 178 (by decide)]; exact c3 i hi⟩
  have hg0 : zgE T 0 = 0 := if_pos rfl
  have hA0 : zAt N m.2.1 m.1 T c (0, nI 0, 0, (-1 : Int32)).1 := ⟨ta, e5, hc0, ⟨0, e2, Nat.le_of_eq hg0, Nat.zero_le _⟩, by show zEn T 0 (N 177 4); unfold zEn; rw [if_pos rfl]; exact e4⟩
  obtain ⟨q1, hq1⟩ : ∃ q, zpWo T c (0, nI 0, 0, -1) 24 29 = q := ⟨_, rfl⟩
  have hq1c : q1.1.1 < c := by rw [← hq1]; exact (zkp_Wo hE hc0).1
  have hfa : zfq q1.1 A.1 := by rw [← hq1, ← hA]; exact zfq_qa
  have hAc : A.1.1 < c := by rw [← hA]; exact zkp_qa hE hc0
  have hQ := zok_0 (T := T) hE.1
  have hAdef : zqa T c (0, nI 0, 0, -1) = A := hA
  unfold zqa at hA
  rw [hq1] at hA
  -- the loop over the seats
  have F162 : ∀ (k : Nat) (M3 : zMI) (L3 : zML), k ≤ 5 → k = q1.2 → A.1.2.2.1 = 0 → zcdY A.2 M3 245 0 → M3 177 88 = nI (0 + A.2.length) → zAqf M M3 L L3 → zMm M3 L3 (zMf m (nI 0) A.1.2.2.2) → L3 177 95 = lI (zqA k (zqz g.2.2.2.2.2 v n A.2) 0) → M3 177 96 = nI 1 → WP w YX12_ask (d + 10, SS, 0, 0) G (some (zXp (fun v0 M' L' R' => R' = zRf t ∧ zYf M M' L L' ∧ zMo M' L' n g v hs (zMf m (nI A.1.2.2.1) A.1.2.2.2) ∧ ((A.1.2.2.1 ≠ 0 ∧ v0 = some (.long (-1000000000000000))) ∨ (A.1.2.2.1 = 0 ∧ v0 = some (.long (lI (zqan (zpWo T c (0, nI 0, 0, -1) 24 29).2 (zqz g.2.2.2.2.2 v n A.2) n)))))))) 162 [(2, .int (nI 0)), (1, .int (nI k)), (0, .ref 177)] [] SS M3 L3 (zRf t) := by
    intro k M3 L3 hk5 hkq hz hY h88 hfr hm3 h95 h96
    obtain ⟨ops', r1, r2, r3⟩ := zqa_typed2 hE hcc hQ hAdef hz
    rw [hq1] at r2
    obtain ⟨z1, z2, z3⟩ := zcq_r r1 (by rw [← hAdef]; exact zOq_qa) hY
    have hev : ∀ s, zhd (zeva (zFz g.2.2.2.2.2 v n s) ops' []) = zqz g.2.2.2.2.2 v n A.2 s := fun s => by
      show _ = zhd (zeva (fun i => (zqF g.2.2.2.2.2 v n s i : Int)) A.2 [])
      rw [r1.1]
      rfl
    have hmo3 := zMo_q h hfr hm3
    have loop : ∀ (q i : Nat) (M4 : zMI) (L4 : zML), i + q = n → zLqf M3 M4 L3 L4 → (∀ j, j < i → zb6 (zqz g.2.2.2.2.2 v n A.2 j)) → L4 177 95 = lI (zqA k (zqz g.2.2.2.2.2 v n A.2) i) → M4 177 96 = nI (if i = 0 then 1 else 0) → WP w YX12_ask (d + 10, SS, 0, 0) G (some (zXp (fun v0 M' L' R' => R' = zRf t ∧ zYf M M' L L' ∧ zMo M' L' n g v hs (zMf m (nI A.1.2.2.1) A.1.2.2.2) ∧ ((A.1.2.2.1 ≠ 0 ∧ v0 = some (.long (-1000000000000000))) ∨ (A.1.2.2.1 = 0 ∧ v0 = some (.long (lI (zqan (zpWo T c (0, nI 0, 0, -1) 24 29).2 (zqz g.2.2.2.2.2 v n A.2) n)))))))) 162 [(2, .int (nI i)), (1, .int (nI k)), (0, .ref 177)] [] SS M4 L4 (zRf t) := by
      intro q
      induction q with
      | zero =>
        intro i M4 L4 hi hl hb g95 g96
        have ei : i = n := by omega
        subst ei
        have g204 : M4 204 2 = nI i := by rw [hl.1 204 (by decide) (by decide)]; exact hmo3.1.1
        have hfr4 : zAqf M M4 L L4 := ⟨fun x y1 y2 y3 y4 => by rw [hl.1 x y1 y4]; exact hfr.1 x y1 y2 y3 y4, fun k hk => by rw [hl.2.1 k (by omega) (by omega) (by omega)]; exact hfr.2.1 k hk, fun x y1 y2 y3 => by rw [hl.2.2.1 x y1 y2 y3]; exact hfr.2.2.1 x y1 y2 y3, by rw [hl.2.2.2 68 (by decide)]; exact hfr.2.2.2⟩
        have hm4 : zMm M4 L4 (zMf m (nI 0) A.1.2.2.2) := zMm_fr hm3 (fun k hk => hl.2.1 k (by omega) (by omega) (by omega)) (hl.1 178 (by decide) (by decide)) (hl.1 179 (by decide) (by decide)) (hl.1 248 (by decide) (by decide)) (hl.2.2.2 68 (by decide))
        refine wp_iload_n (q := 163) dX12_ask_162 0 rfl rfl ?_
        refine wp_aload_n (q := 164) dX12_ask_163 2 rfl rfl ?_
        refine wp_cvx (q := 167) (sp_mpm (d := 0) g204) zm_X12_peopleMany zl_RX12_408 dX12_ask_164 rfl (by omega) (Nat.le_of_ble_eq_true rfl) zsh_177 rfl rfl ?_
        refine wp_icmp_geN (tgt := 187) (q := 170) dX12_ask_167 (by decide) rfl (by omega) (by omega) (fun _ => ?_) (fun hn => absurd hn (by first | omega | exact fun h => h | exact fun h => h trivial))
        refine wp_aload_n (q := 188) dX12_ask_187 2 rfl rfl ?_
        refine wp_getL (q := 191) dX12_ask_188 zf_RX12_692 rfl zsh_177 rfl ?_
        rw [g95]
        refine wp_lreturn dX12_ask_191 rfl ⟨rfl, ⟨rfl, zYf_q hfr4, by rw [hz]; exact zMo_q h hfr4 hm4, Or.inr ⟨hz, ?_⟩⟩⟩ rfl rfl
        rw [hkq, hq1]
        rfl
      | succ q ih =>
        intro i M4 L4 hi hl hb g95 g96
        have g204 : M4 204 2 = nI n := by rw [hl.1 204 (by decide) (by decide)]; exact hmo3.1.1
        have hmc4 : zMc M4 n g.2.2.2.2.2 v := zMc_fr hmo3.1 (fun x hx => hl.1 x (by omega) (by omega))
        refine wp_iload_n (q := 163) dX12_ask_162 0 rfl rfl ?_
        refine wp_aload_n (q := 164) dX12_ask_163 2 rfl rfl ?_
        refine wp_cvx (q := 167) (sp_mpm (d := 0) g204) zm_X12_peopleMany zl_RX12_408 dX12_ask_164 rfl (by omega) (Nat.le_of_ble_eq_true rfl) zsh_177 rfl rfl ?_
        refine wp_icmp_geN (tgt := 187) (q := 170) dX12_ask_167 (by decide) rfl (by omega) (by omega) (fun hn => absurd hn (by first | omega | exact fun h => h | exact fun h => h trivial)) (fun _ => ?_)
        refine wp_aload_n (q := 171) dX12_ask_170 2 rfl rfl ?_
        refine wp_iload_n (q := 172) dX12_ask_171 1 rfl rfl ?_
        refine wp_aload_n (q := 173) dX12_ask_172 2 rfl rfl ?_
        refine wp_iload_n (q := 174) dX12_ask_173 0 rfl rfl ?_
        refine wp_cvy (q := 177) (sp_mqTold (d := d) hmc4 (by omega : i < n) (by rw [hl.2.1 88 (by decide) (by decide) (by decide), h88, Nat.zero_add, z3]) (by rw [z3]; exact r3) (fun j op a hj => by rw [hl.1 245 (by decide) (by decide)]; exact z1 j op a hj) z2 r2) zm_X12_qTold zl_RX12_707 dX12_ask_174 rfl (by omega) (Nat.le_of_ble_eq_true rfl) zsh_177 rfl rfl ?_
        rintro _ M5 L5 _ ⟨rfl, rfl, hto, hb6, hb1⟩
        rw [hev i] at hb6 hb1
        rw [hev i]
        have hb' : ∀ j, j ≤ i → zb6 (zqz g.2.2.2.2.2 v n A.2 j) := fun j hj => by
          by_cases e : j = i
          · rw [e]; exact hb6
          · exact hb j (by omega)
        refine wp_iload_n (q := 178) dX12_ask_177 0 rfl rfl ?_
        refine wp_cvx (q := 181) (sp_mqTakes (d := d + 8) hk5 (by omega : i < 8) hb' (fun hk2 => hb1 (decide_eq_true (by rw [← hkq]; exact hk2))) (by rw [hto.2.2 177 (by decide) (by decide)]; exact g95) (by rw [hto.2.1 96 (by decide) (by decide)]; exact g96)) zm_X12_qTakes zl_RX12_710 dX12_ask_178 rfl (by omega) (Nat.le_of_ble_eq_true rfl) zsh_177 rfl rfl ?_
        refine wp_iincN (q := 184) (loc' := [(2, _), (1, _), (0, _)]) (n := 1) dX12_ask_181 rfl 0 rfl (by decide) rfl rfl ?_
        refine wp_goto (tgt := 162) dX12_ask_184 (by decide) ?_
        refine WP.sub (loc' := [(2, _), (1, _), (0, _)]) [0, 1, 2] rfl ?_
        refine ih (i + 1) _ _ (by omega) (zLqf_t hl ⟨fun x y1 y2 => by rw [zu_ne y1]; exact hto.1 x y2 y1, fun k y1 y2 y3 => by rw [zu_k y3]; exact hto.2.1 k y1 y2, fun x y1 y2 y3 => by rw [zu_ne y3]; exact hto.2.2 x y1 y2, fun k y1 => by rw [zu_k y1, hto.2.2 177 (by decide) (by decide)]⟩) (fun j hj => hb' j (by omega)) zu_s ?_
        rw [zu_s, if_neg (by omega)]
    exact loop n 0 M3 L3 (by omega) ⟨fun _ _ _ => rfl, fun _ _ _ _ => rfl, fun _ _ _ _ => rfl, fun _ _ => rfl⟩ (fun j hj => absurd hj (Nat.not_lt_zero _)) h95 (by rw [if_pos rfl]; exact h96)
  have F112 : ∀ (k : Nat) (M2 : zMI), k ≤ 5 → (A.1.2.2.1 = 0 → k = q1.2) → zRp M2 m.2.1 m.1 T c A.1 → (A.1.2.2.1 = 0 → zcdY A.2 M2 245 0 ∧ M2 177 88 = nI (0 + A.2.length)) → zSfq 0 N M2 → WP w YX12_ask (d + 10, SS, 0, 0) G (some (zXp (fun v0 M' L' R' => R' = zRf t ∧ zYf M M' L L' ∧ zMo M' L' n g v hs (zMf m (nI A.1.2.2.1) A.1.2.2.2) ∧ ((A.1.2.2.1 ≠ 0 ∧ v0 = some (.long (-1000000000000000))) ∨ (A.1.2.2.1 = 0 ∧ v0 = some (.long (lI (zqan (zpWo T c (0, nI 0, 0, -1) 24 29).2 (zqz g.2.2.2.2.2 v n A.2) n)))))))) 112 [(1, .int (nI k)), (0, .ref 177)] [] SS M2 L (zRf t) := by
    intro k M2 hk5 hkq hR hC hf
    obtain ⟨hR1, hR2, hR3⟩ := hR
    obtain ⟨kk, hkk⟩ : ∃ kk, A.1.2.2.1 = kk := ⟨_, rfl⟩
    have e5' : M2 177 5 = nI kk := by
      by_cases k0 : A.1.2.2.1 = 0
      · rw [(hR2 k0).1.2.1, ← hkk, k0]
      · rw [(hR3 k0).2.1, hkk]
    have e6' : M2 177 6 = A.1.2.2.2 := by
      by_cases k0 : A.1.2.2.1 = 0
      · exact (hR2 k0).2
      · exact (hR3 k0).2.2
    have k5 : kk ≤ 5 := by
      by_cases k0 : A.1.2.2.1 = 0
      · omega
      · have := (hR3 k0).1; omega
    have fx : ∀ x, x ≠ 177 → x ≠ 245 → x ≠ 246 → M2 x = M x := fun x y1 y2 y3 => by
      rw [← ex x y1]
      exact funext fun k => hf x k (by unfold zSyq; omega)
    have f7 : ∀ k, k ≠ 1 → k ≠ 2 → k ≠ 3 → k ≠ 4 → k ≠ 5 → k ≠ 6 → k ≠ 34 → k ≠ 88 → k ≠ 90 → k ≠ 91 → k ≠ 92 → M2 177 k = M 177 k := fun k y1 y2 y3 y4 y5 y6 y7 y8 y9 y10 y11 => by
      rw [hf 177 k (by unfold zSyq; omega)]
      exact eo k y1 y2 y3 y4 y5 y6 y8 y9 y10 y11
    have g1 : zAqf M (zu (zu M2 177 7 (nI kk)) 177 8 A.1.2.2.2) L L := ⟨fun x y1 y2 y3 y4 => by rw [zu_ne y1, zu_ne y1]; exact fx x y1 y2 y3, fun k hk => by rw [zu_k (by omega), zu_k (by omega)]; exact f7 k (by omega) (by omega) (by omega) (by omega) (by omega) (by omega) (by omega) (by omega) (by omega) (by omega) (by omega), fun _ _ _ _ => rfl, rfl⟩
    have g3 : zMm (zu (zu M2 177 7 (nI kk)) 177 8 A.1.2.2.2) L (zMf m (nI kk) A.1.2.2.2) := zMm_q hmm g1 (by rw [zu_k (by decide), zu_k (by decide), hf 177 1 (by unfold zSyq; omega)]; exact e1) (by rw [zu_k (by decide), zu_s]) zu_s
    refine wp_aload_n (q := 113) dX12_ask_112 1 rfl rfl ?_
    refine wp_aload_n (q := 114) dX12_ask_113 1 rfl rfl ?_
    refine wp_getI (q := 117) dX12_ask_114 zf_RX12_236 rfl zsh_177 rfl ?_
    rw [e5']
    refine wp_putI (q := 120) dX12_ask_117 zf_RX12_353 rfl zsh_177 rfl ?_
    refine wp_aload_n (q := 121) dX12_ask_120 1 rfl rfl ?_
    refine wp_aload_n (q := 122) dX12_ask_121 1 rfl rfl ?_
    refine wp_getI (q := 125) dX12_ask_122 zf_RX12_239 rfl zsh_177 rfl ?_
    rw [zu_k (by decide), e6']
    refine wp_putI (q := 128) dX12_ask_125 zf_RX12_13 rfl zsh_177 rfl ?_
    refine wp_aload_n (q := 129) dX12_ask_128 1 rfl rfl ?_
    refine wp_getI (q := 132) dX12_ask_129 zf_RX12_236 rfl zsh_177 rfl ?_
    rw [zu_k (by decide), zu_k (by decide), e5']
    by_cases k0 : kk = 0
    · subst k0
      obtain ⟨hY, h88⟩ := hC hkk
      have hkq' := hkq hkk
      have fin : ∀ x : Int64, x = lI (zqA k (zqz g.2.2.2.2.2 v n A.2) 0) → WP w YX12_ask (d + 10, SS, 0, 0) G (some (zXp (fun v0 M' L' R' => R' = zRf t ∧ zYf M M' L L' ∧ zMo M' L' n g v hs (zMf m (nI A.1.2.2.1) A.1.2.2.2) ∧ ((A.1.2.2.1 ≠ 0 ∧ v0 = some (.long (-1000000000000000))) ∨ (A.1.2.2.1 = 0 ∧ v0 = some (.long (lI (zqan (zpWo T c (0, nI 0, 0, -1) 24 29).2 (zqz g.2.2.2.2.2 v n A.2) n)))))))) 152 [(1, .int (nI k)), (0, .ref 177)] [.long x, .ref 177] SS (zu (zu M2 177 7 (nI 0)) 177 8 A.1.2.2.2) L (zRf t) := by
        intro x hx
        refine wp_putL (q := 155) dX12_ask_152 zf_RX12_692 rfl (by first | assumption | rfl) rfl ?_
        refine wp_aload_n (q := 156) dX12_ask_155 1 rfl rfl ?_
        refine wp_iconst (q := 157) dX12_ask_156 zq_iconst_1 rfl ?_
        refine wp_putZ (q := 160) dX12_ask_157 zf_RX12_695 rfl (by first | exact Or.inl rfl | exact Or.inr rfl | assumption) zsh_177 rfl ?_
        refine wp_iconst (q := 161) dX12_ask_160 zq_iconst_0 rfl ?_
        refine wp_istore_n (q := 162) (loc' := [(2, _), (1, _), (0, _)]) dX12_ask_161 rfl (by decide) rfl rfl ?_
        refine WP.sub (loc' := [(2, _), (1, _), (0, _)]) [0, 1, 2] rfl ?_
        refine F162 k _ _ hk5 hkq' hkk (zcdY_fr hY (by rw [zu_ne (by decide), zu_ne (by decide), zu_ne (by decide)])) (by rw [zu_k (by decide), zu_k (by decide), zu_k (by decide)]; exact h88) ⟨fun x y1 y2 y3 y4 => by rw [zu_ne y1]; exact g1.1 x y1 y2 y3 y4, fun k hk => by rw [zu_k (by omega)]; exact g1.2.1 k hk, fun x y1 y2 y3 => zu_ne y3, zu_k (by decide)⟩ (zMm_fr g3 (fun k hk => zu_k (by omega)) (zu_ne (by decide)) (zu_ne (by decide)) (zu_ne (by decide)) (zu_k (by decide))) (by rw [zu_s]; exact hx) zu_s
      refine wp_if_eqN (tgt := 139) (q := 135) dX12_ask_132 (by decide) rfl (by omega) (fun _ => ?_) (fun hn => absurd hn (by first | omega | exact fun h => h | exact fun h => h trivial))
      refine wp_aload_n (q := 140) dX12_ask_139 1 rfl rfl ?_
      refine wp_iload_n (q := 141) dX12_ask_140 0 rfl rfl ?_
      refine wp_iconst (q := 142) dX12_ask_141 zq_iconst_2 rfl ?_
      refine wp_icmp_geN (tgt := 151) (q := 145) dX12_ask_142 (by decide) rfl (by omega) (by omega) (fun c2 => ?_) (fun c2 => ?_)
      · skip
        refine wp_lconst (q := 152) dX12_ask_151 zq_lconst_0 rfl ?_
        rw [show lN 0 = lI 0 from rfl]
        refine WP.sub (loc' := [(1, _), (0, _)]) [0, 1] rfl ?_
        refine fin _ ?_
        unfold zqA
        rw [if_neg (by omega), if_neg (by omega)]
        repeat' split
        all_goals rfl
      · skip
        refine wp_ldc2_w (q := 148) dX12_ask_145 zk_RX12_499 rfl ?_
        rw [show (-1 : Int64) = lI (-1) from rfl]
        refine wp_goto (tgt := 152) dX12_ask_148 (by decide) ?_
        refine WP.sub (loc' := [(1, _), (0, _)]) [0, 1] rfl ?_
        refine fin _ ?_
        unfold zqA
        by_cases ck : k = 0
        · rw [if_pos ck]; rfl
        · rw [if_neg ck, if_pos (by omega)]; rfl
    · have hf0 : A.1.2.2.1 ≠ 0 := by rw [hkk]; exact k0
      refine wp_if_eqN (tgt := 139) (q := 135) dX12_ask_132 (by decide) rfl (by omega) (fun hn => absurd hn (by first | omega | exact fun h => h | exact fun h => h trivial)) (fun _ => ?_)
      refine wp_ldc2_w (q := 138) dX12_ask_135 zk_RX12_705 rfl ?_
      exact wp_lreturn dX12_ask_138 rfl ⟨rfl, ⟨rfl, zYf_q g1, by rw [hkk]; exact zMo_q h g1 g3, Or.inl ⟨hf0, rfl⟩⟩⟩ rfl rfl
  -- behind the reading of what is asked
  have X88 : ∀ (k : Nat) (M2 : zMI) (r1 : zPF), k ≤ 5 → k = q1.2 → zqa2 T c r1 = A → zRp M2 m.2.1 m.1 T c r1.1 → (r1.1.2.2.1 = 0 → zSSq M2 m.2.1 m.1 T c r1.1 r1.2 [] 0 0) → zSfq 0 N M2 → WP w YX12_ask (d + 10, SS, 0, 0) G (some (zXp (fun v0 M' L' R' => R' = zRf t ∧ zYf M M' L L' ∧ zMo M' L' n g v hs (zMf m (nI A.1.2.2.1) A.1.2.2.2) ∧ ((A.1.2.2.1 ≠ 0 ∧ v0 = some (.long (-1000000000000000))) ∨ (A.1.2.2.1 = 0 ∧ v0 = some (.long (lI (zqan (zpWo T c (0, nI 0, 0, -1) 24 29).2 (zqz g.2.2.2.2.2 v n A.2) n)))))))) 88 [(1, .int (nI k)), (0, .ref 177)] [] SS M2 L (zRf t) := by
    intro k M2 r1 hk5 hkq hr hR hS hf
    unfold zqa2 at hr
    have hrc := hR.1
    by_cases k0 : r1.1.2.2.1 = 0
    · obtain ⟨b1, b2, b3, b4, b5, b6⟩ := hS k0
      have he := zlk_e hT (fun i hi => (b1.1.2.2 i hi).2) hrc
      refine wp_aload_n (q := 89) dX12_ask_88 1 rfl rfl ?_
      refine wp_getI (q := 92) dX12_ask_89 zf_RX12_236 rfl zsh_177 rfl ?_
      rw [b1.2.1]
      refine wp_if_neN (tgt := 112) (q := 95) dX12_ask_92 (by decide) rfl (by omega) (fun hn => absurd hn (by first | omega | exact fun h => h | exact fun h => h trivial)) (fun _ => ?_)
      refine wp_aload_n (q := 96) dX12_ask_95 1 rfl rfl ?_
      refine wp_cvy (q := 99) (sp_mLook (d := d + 8) b1 hT) zm_X12_look zl_RX12_248 dX12_ask_96 rfl (by omega) (Nat.le_of_ble_eq_true rfl) zsh_177 rfl rfl ?_
      rintro _ N3 _ _ ⟨rfl, rfl, rfl, c1', c2', c3', c4'⟩
      have hp3 : zPf M2 N3 := ⟨c4', fun k k1 _ _ _ _ => c3' k k1⟩
      have hQ3 := zSQq_p b5 hp3
      refine wp_iconst (q := 100) dX12_ask_99 zq_iconst_m1 rfl ?_
      refine wp_icmp_eq (tgt := 112) (q := 103) dX12_ask_100 (by decide) rfl (fun z0 => ?_) (fun z0 => ?_)
      · skip
        rw [if_pos (he.mp z0)] at hr
        refine WP.sub (loc' := [(1, _), (0, _)]) [0, 1] rfl ?_
        refine F112 k N3 hk5 (fun _ => hkq) (by rw [← hr]; exact ⟨hrc, fun _ => ⟨c1', by rw [c3' 6 (by decide)]; exact b2⟩, fun e => absurd k0 e⟩) (fun _ => by rw [← hr]; exact ⟨hQ3.2.1, hQ3.1⟩) (zSfq_p hf hp3)
      · skip
        rw [if_neg (fun e => z0 (he.mpr e))] at hr
        refine wp_aload_n (q := 104) dX12_ask_103 1 rfl rfl ?_
        refine wp_iconst (q := 105) dX12_ask_104 zq_iconst_1 rfl ?_
        refine wp_aload_n (q := 106) dX12_ask_105 1 rfl rfl ?_
        refine wp_getI (q := 109) dX12_ask_106 zf_RX12_242 rfl zsh_177 rfl ?_
        rw [c2']
        refine wp_cvx (q := 112) (sp_mfail (d := d + 9) c1'.2.1) zm_X12_fail zl_RX12_266 dX12_ask_109 rfl (by omega) (Nat.le_of_ble_eq_true rfl) zsh_177 rfl rfl ?_
        refine WP.sub (loc' := [(1, _), (0, _)]) [0, 1] rfl ?_
        have hA1 : A.1 = zpf c r1.1 1 (nI (T r1.1.1 1)) := by rw [← hr]; rfl
        refine F112 k _ hk5 (fun _ => hkq) (by rw [hA1]; exact zRp_5 k0 hrc (by decide) (by decide)) (fun e => absurd e (by rw [hA1]; exact zpf_b (by decide))) (zSfq_7 (zSfq_7 (zSfq_p hf hp3) (by omega)) (by omega))
    · obtain ⟨x5, x6, x7⟩ := hR.2.2 k0
      obtain ⟨kk, hkk⟩ : ∃ kk, r1.1.2.2.1 = kk := ⟨_, rfl⟩
      rw [hkk] at x5 x6
      have hk0 : kk ≠ 0 := by rw [← hkk]; exact k0
      have hfq : zfq r1.1 A.1 := by
        rw [← hr]
        split
        · exact zfq_r _
        · exact zfq_f
      refine wp_aload_n (q := 89) dX12_ask_88 1 rfl rfl ?_
      refine wp_getI (q := 92) dX12_ask_89 zf_RX12_236 rfl zsh_177 rfl ?_
      rw [x6]
      refine wp_if_neN (tgt := 112) (q := 95) dX12_ask_92 (by decide) rfl (by omega) (fun _ => ?_) (fun hn => absurd hn (by first | omega | exact fun h => h | exact fun h => h trivial))
      refine WP.sub (loc' := [(1, _), (0, _)]) [0, 1] rfl ?_
      exact F112 k M2 hk5 (fun _ => hkq) (zRp_q hR k0 hAc hfq) (fun e => absurd (zfq_0 hfq e) k0) hf
  refine wp_aload_n (q := 1) dX12_ask_0 0 rfl rfl ?_
  refine wp_aload_n (q := 2) dX12_ask_1 0 rfl rfl ?_
  refine wp_getI (q := 5) dX12_ask_2 zf_RX12_233 rfl zsh_177 rfl ?_
  rw [c1]
  refine wp_putI (q := 8) dX12_ask_5 zf_RX12_245 rfl zsh_177 rfl ?_
  refine wp_aload_n (q := 9) dX12_ask_8 0 rfl rfl ?_
  refine wp_iconst (q := 10) dX12_ask_9 zq_iconst_0 rfl ?_
  refine wp_putI (q := 13) dX12_ask_10 zf_RX12_233 rfl zsh_177 rfl ?_
  refine wp_aload_n (q := 14) dX12_ask_13 0 rfl rfl ?_
  refine wp_iconst (q := 15) dX12_ask_14 zq_iconst_0 rfl ?_
  refine wp_putI (q := 18) dX12_ask_15 zf_RX12_242 rfl zsh_177 rfl ?_
  refine wp_aload_n (q := 19) dX12_ask_18 0 rfl rfl ?_
  refine wp_iconst (q := 20) dX12_ask_19 zq_iconst_m1 rfl ?_
  refine wp_putI (q := 23) dX12_ask_20 zf_RX12_256 rfl zsh_177 rfl ?_
  refine wp_aload_n (q := 24) dX12_ask_23 0 rfl rfl ?_
  refine wp_iconst (q := 25) dX12_ask_24 zq_iconst_0 rfl ?_
  refine wp_putI (q := 28) dX12_ask_25 zf_RX12_236 rfl zsh_177 rfl ?_
  refine wp_aload_n (q := 29) dX12_ask_28 0 rfl rfl ?_
  refine wp_iconst (q := 30) dX12_ask_29 zq_iconst_m1 rfl ?_
  refine wp_putI (q := 33) dX12_ask_30 zf_RX12_239 rfl zsh_177 rfl ?_
  refine wp_aload_n (q := 34) dX12_ask_33 0 rfl rfl ?_
  refine wp_iconst (q := 35) dX12_ask_34 zq_iconst_0 rfl ?_
  refine wp_putI (q := 38) dX12_ask_35 zf_RX12_597 rfl zsh_177 rfl ?_
  refine wp_aload_n (q := 39) dX12_ask_38 0 rfl rfl ?_
  refine wp_iconst (q := 40) dX12_ask_39 zq_iconst_0 rfl ?_
  refine wp_putI (q := 43) dX12_ask_40 zf_RX12_603 rfl zsh_177 rfl ?_
  refine wp_aload_n (q := 44) dX12_ask_43 0 rfl rfl ?_
  refine wp_iconst (q := 45) dX12_ask_44 zq_iconst_0 rfl ?_
  refine wp_putI (q := 48) dX12_ask_45 zf_RX12_600 rfl zsh_177 rfl ?_
  refine wp_aload_n (q := 49) dX12_ask_48 0 rfl rfl ?_
  refine wp_iconst (q := 50) dX12_ask_49 zq_iconst_0 rfl ?_
  refine wp_putI (q := 53) dX12_ask_50 zf_RX12_609 rfl zsh_177 rfl ?_
  rw [hN]
  refine wp_aload_n (q := 54) dX12_ask_53 0 rfl rfl ?_
  refine wp_cvy (q := 57) (sp_mqKind (d := d + 5) (p := (0, nI 0, 0, -1)) hT hWN hA0 e6 rfl) zm_X12_qKind zl_RX12_699 dX12_ask_54 rfl (by omega) (Nat.le_of_ble_eq_true rfl) zsh_177 rfl rfl ?_
  rintro _ M1 _ _ ⟨k, rfl, rfl, rfl, p1, hk5, hR1, hkq⟩
  rw [hq1] at hR1 hkq
  have hf1 : zSfq 0 N M1 := zSfq_p zSfq_r p1
  by_cases k0 : q1.1.2.2.1 = 0
  · have hkq' := hkq k0
    obtain ⟨ha, ha6⟩ := hR1.2.1 k0
    have hq1e : q1.1.2.1 = nI 0 ∧ q1.1.1 = 1 := by
      rw [← hq1] at k0 ⊢
      unfold zpWo at k0 ⊢
      by_cases e : 24 ≤ T (0, nI 0, 0, (-1 : Int32)).1 4 ∧ T (0, nI 0, 0, (-1 : Int32)).1 4 ≤ 29
      · rw [if_pos e]
        obtain ⟨z1, -⟩ := zTok_4 hT hc0 (by have := e.2; show T 0 4 < 30; exact Nat.lt_succ_of_le this) rfl
        refine ⟨rfl, ?_⟩
        rw [zpn_o (p := (0, nI 0, 0, -1)) z1]
      · rw [if_neg e] at k0
        exact absurd k0 (zpf_b (by decide))
    obtain ⟨hq1z, hq11⟩ := hq1e
    have hS1 : zSSq M1 m.2.1 m.1 T c q1.1 [] [] 0 0 := by
      refine ⟨ha, ha6, k0, ?_, ⟨?_, fun i op a hi => by simp at hi, ?_, trivial, ?_, by decide⟩, ?_⟩
      · rw [p1.2 91 (by decide) (by decide) (by decide) (by decide) (by decide), e91, hq1z]
      · rw [p1.2 88 (by decide) (by decide) (by decide) (by decide) (by decide)]; exact e88
      · rw [p1.2 90 (by decide) (by decide) (by decide) (by decide) (by decide)]; exact e90
      · rw [p1.2 92 (by decide) (by decide) (by decide) (by decide) (by decide)]; exact e92
      · rw [hq11]; decide
    refine wp_istore_n (q := 58) (loc' := [(1, _), (0, _)]) dX12_ask_57 rfl (by decide) rfl rfl ?_
    refine wp_aload_n (q := 59) dX12_ask_58 1 rfl rfl ?_
    refine wp_getI (q := 62) dX12_ask_59 zf_RX12_236 rfl zsh_177 rfl ?_
    rw [ha.2.1]
    refine wp_if_neN (tgt := 77) (q := 65) dX12_ask_62 (by decide) rfl (by omega) (fun hn => absurd hn (by first | omega | exact fun h => h | exact fun h => h trivial)) (fun _ => ?_)
    refine wp_iload_n (q := 66) dX12_ask_65 0 rfl rfl ?_
    refine wp_iconst (q := 67) dX12_ask_66 zq_iconst_3 rfl ?_
    refine wp_icmp_geN (tgt := 77) (q := 70) dX12_ask_67 (by decide) rfl (by omega) (by omega) (fun c3 => ?_) (fun c3 => ?_)
    · skip
      rw [if_neg (by omega)] at hA
      refine wp_aload_n (q := 78) dX12_ask_77 1 rfl rfl ?_
      refine wp_getI (q := 81) dX12_ask_78 zf_RX12_236 rfl zsh_177 rfl ?_
      rw [ha.2.1]
      refine wp_if_neN (tgt := 88) (q := 84) dX12_ask_81 (by decide) rfl (by omega) (fun hn => absurd hn (by first | omega | exact fun h => h | exact fun h => h trivial)) (fun _ => ?_)
      refine wp_aload_n (q := 85) dX12_ask_84 1 rfl rfl ?_
      refine wp_cvy (q := 88) (sp_mqSums (d := d + 3) hT (zWds_fq hWN hf1) hS1 hq1z (by decide) rfl (fun x hx => absurd hx List.not_mem_nil)) zm_X12_qSums zl_RX12_648 dX12_ask_85 rfl (by omega) (Nat.le_of_ble_eq_true rfl) zsh_177 rfl rfl ?_
      rintro _ M2 _ _ ⟨rfl, rfl, rfl, hf2, hR2, -, hS2⟩
      refine WP.sub (loc' := [(1, _), (0, _)]) [0, 1] rfl ?_
      exact X88 k M2 _ hk5 hkq' hA hR2 hS2 (zSfq_t hf1 hf2)
    · skip
      rw [if_pos (by omega)] at hA
      refine wp_aload_n (q := 71) dX12_ask_70 1 rfl rfl ?_
      refine wp_cvy (q := 74) (sp_mqTest (d := d + 1) hT (zWds_fq hWN hf1) hS1 hq1z (by decide) rfl) zm_X12_qTest zl_RX12_702 dX12_ask_71 rfl (by omega) (Nat.le_of_ble_eq_true rfl) zsh_177 rfl rfl ?_
      rintro _ M2 _ _ ⟨rfl, rfl, rfl, hf2, hR2, hS2⟩
      refine wp_goto (tgt := 88) dX12_ask_74 (by decide) ?_
      refine WP.sub (loc' := [(1, _), (0, _)]) [0, 1] rfl ?_
      exact X88 k M2 _ hk5 hkq' hA hR2 hS2 (zSfq_t hf1 hf2)
  · obtain ⟨x5, x6, x7⟩ := hR1.2.2 k0
    obtain ⟨kk, hkk⟩ : ∃ kk, q1.1.2.2.1 = kk := ⟨_, rfl⟩
    rw [hkk] at x5 x6
    have hk0 : kk ≠ 0 := by rw [← hkk]; exact k0
    refine wp_istore_n (q := 58) (loc' := [(1, _), (0, _)]) dX12_ask_57 rfl (by decide) rfl rfl ?_
    refine wp_aload_n (q := 59) dX12_ask_58 1 rfl rfl ?_
    refine wp_getI (q := 62) dX12_ask_59 zf_RX12_236 rfl zsh_177 rfl ?_
    rw [x6]
    refine wp_if_neN (tgt := 77) (q := 65) dX12_ask_62 (by decide) rfl (by omega) (fun _ => ?_) (fun hn => absurd hn (by first | omega | exact fun h => h | exact fun h => h trivial))
    refine wp_aload_n (q := 78) dX12_ask_77 1 rfl rfl ?_
    refine wp_getI (q := 81) dX12_ask_78 zf_RX12_236 rfl zsh_177 rfl ?_
    rw [x6]
    refine wp_if_neN (tgt := 88) (q := 84) dX12_ask_81 (by decide) rfl (by omega) (fun _ => ?_) (fun hn => absurd hn (by first | omega | exact fun h => h | exact fun h => h trivial))
    refine wp_aload_n (q := 89) dX12_ask_88 1 rfl rfl ?_
    refine wp_getI (q := 92) dX12_ask_89 zf_RX12_236 rfl zsh_177 rfl ?_
    rw [x6]
    refine wp_if_neN (tgt := 112) (q := 95) dX12_ask_92 (by decide) rfl (by omega) (fun _ => ?_) (fun hn => absurd hn (by first | omega | exact fun h => h | exact fun h => h trivial))
    refine WP.sub (loc' := [(1, _), (0, _)]) [0, 1] rfl ?_
    exact F112 k M1 hk5 (fun e => absurd (zfq_0 hfa e) k0) (zRp_q hR1 k0 hAc hfa) (fun e => absurd (zfq_0 hfa e) k0) hf1

