def zTie (M : zMI) (L : zML) (R : zMR) : Prop := ∃ (t n : Nat) (g : zGd) (v : Nat → Nat) (hs : List (Nat → Nat)) (m : zMs), R = zRf t ∧ zCI M L t n g v hs m ∧ zMo M L n g v hs m
def zPr (y1 : MethodName) (Y1 : zY) (y2 : MethodName) (Y2 : zY) (d : Nat) (as : List Value) : Prop := ∀ (M : zMI) (L : zML) (R : zMR), zTie M L R → Sy y1 Y1 d (.ref 0 :: as) M L R (fun v0 M1 L1 R1 => ∃ x : Int32, v0 = some (.int x) ∧ Sy y2 Y2 d (.ref 177 :: as) M1 L1 R1 (fun u0 M2 L2 R2 => u0 = some (.int x) ∧ zTie M2 L2 R2))
theorem zMo_x {M M' : zMI} {L L' : zML} {n : Nat} {g : zGd} {v : Nat → Nat} {hs : List (Nat → Nat)} {m : zMs} (h : zMo M L n g v hs m) (hx : zXf M M' L L') : zMo M' L' n g v hs m :=
  zMo_fr h (fun x h => (hx x (by unfold zKp at h; omega)).1) (fun k _ => by rw [(hx 177 (by decide)).1]) (hx 205 (by decide)).2 (by rw [(hx 177 (by decide)).2])
theorem zCI_y {M M' : zMI} {L L' : zML} {t n : Nat} {g : zGd} {v : Nat → Nat} {hs : List (Nat → Nat)} {m : zMs} (h : zCI M L t n g v hs m) (hy : zYf M M' L L') : zCI M' L' t n g v hs m :=
  zCI_scr h (zPM_fr h.2.2.2.2.2.1 (hy 151 (by decide)).1) (fun x x1 _ _ => (hy x x1).1) (by rw [(hy 156 (by decide)).1]) (by rw [(hy 156 (by decide)).1]) (by rw [(hy 167 (by decide)).2])
theorem zpr_an {y1 : MethodName} {Y1 : zY} {y2 : MethodName} {Y2 : zY} {d : Nat} {as1 as2 : List Value} {M : zMI} {L : zML} {t n n' : Nat} {g g' : zGd} {v v' : Nat → Nat} {hs hs' : List (Nat → Nat)} {m m' : zMs} {x : Int32} (hm : zMo M L n g v hs m)
    (hA : Sy y1 Y1 d as1 M L (zRf t) (zAn M L t n' g' v' hs' m' (.int x))) (hB : ∀ M1 L1, zMo M1 L1 n g v hs m → Sy y2 Y2 d as2 M1 L1 (zRf t) (zMn M1 L1 t n' g' v' hs' m' (.int x))) :
    Sy y1 Y1 d as1 M L (zRf t) (fun v0 M1 L1 R1 => ∃ x : Int32, v0 = some (.int x) ∧ Sy y2 Y2 d as2 M1 L1 R1 (fun u0 M2 L2 R2 => u0 = some (.int x) ∧ zTie M2 L2 R2)) := by
  refine Sy_mo hA ?_
  rintro v0 M1 L1 R1 ⟨rfl, rfl, hC, hX⟩
  refine ⟨x, rfl, Sy_mo (hB M1 L1 (zMo_x hm hX)) ?_⟩
  rintro u0 M2 L2 R2 ⟨rfl, rfl, hM, hY⟩
  exact ⟨rfl, t, n', g', v', hs', m', rfl, zCI_y hC hY, hM⟩
theorem zpb_n {x : Int32} {a b : Nat} (hb : b < 2147483647) (hab : a ≤ b) (h1 : ¬ x < nI a) (h2 : ¬ nI b < x) : ∃ k, a ≤ k ∧ k ≤ b ∧ x = nI k := by
  rw [Int32.lt_iff_toInt_lt, nI_toInt (by omega)] at h1 h2
  refine ⟨x.toInt.toNat, by omega, by omega, ?_⟩
  apply Int32.toInt_inj.mp
  rw [nI_toInt (by omega)]
  omega
theorem zp0_n {x : Int32} (h1 : ¬ x < 0) : ∃ k, k < 2147483648 ∧ x = nI k := by
  rw [Int32.lt_iff_toInt_lt] at h1
  have h0 : (0 : Int32).toInt = 0 := rfl
  have h2 := Int32.toInt_lt x
  refine ⟨x.toInt.toNat, by omega, ?_⟩
  apply Int32.toInt_inj.mp
  rw [nI_toInt (by omega)]
  omega
theorem zpi_n {a b : Nat} (ha : a < 2147483648) (hb : b < 2147483648) (h : nI a = nI b) : a = b := by
  have := congrArg Int32.toInt h
  rw [nI_toInt ha, nI_toInt hb] at this
  omega
theorem zp_le {a b : Nat} (ha : a < 2147483648) (hb : b < 2147483648) (h : nI a ≤ nI b) : a ≤ b := by
  rw [Int32.le_iff_toInt_le, nI_toInt ha, nI_toInt hb] at h
  omega
theorem zp_nlt {a b : Nat} (ha : a < 2147483648) (hb : b < 2147483648) (h : ¬ nI a < nI b) : b ≤ a := by
  rw [Int32.lt_iff_toInt_lt, nI_toInt ha, nI_toInt hb] at h
  omega
theorem pr_feed {d : Nat} {a b c0 d0 e : Int32} : zPr yX11_feed YX11_feed yX12_feed YX12_feed (d + 100) [.int a, .int b, .int c0, .int d0, .int e] := by
  rintro M L R ⟨t, n, g, v, hs, m, rfl, h, hm⟩
  have hn8 : n ≤ 8 := h.2.1.1
  have hb4 : g.2.1 ≤ 4 := h.2.2.1.2.2.2.1
  have hm16 : m.1 ≤ 1600 := h.2.2.2.2.2.2.2.1.2.1
  have hp55 : m.2.2.2.2.2.2.1 ≤ 55 := h.2.2.2.2.2.2.2.1.2.2.2.2.2.2.2.2.2.1
  by_cases c : m.1 + 20 ≤ 1600
  · exact zpr_an hm (sp_feed h c) (fun M1 L1 h => sp_mfeed (t := t) h c)
  · exact zpr_an hm (sp_feedN h c) (fun M1 L1 h => sp_mfeedN (t := t) h c)
theorem pr_end {d : Nat} {x : Int32} : zPr yX11_end YX11_end yX12_end YX12_end (d + 100) [.int x] := by
  rintro M L R ⟨t, n, g, v, hs, m, rfl, h, hm⟩
  have hn8 : n ≤ 8 := h.2.1.1
  have hb4 : g.2.1 ≤ 4 := h.2.2.1.2.2.2.1
  have hm16 : m.1 ≤ 1600 := h.2.2.2.2.2.2.2.1.2.1
  have hp55 : m.2.2.2.2.2.2.1 ≤ 55 := h.2.2.2.2.2.2.2.1.2.2.2.2.2.2.2.2.2.1
  by_cases c : zin x (m.1 + 1)
  · obtain ⟨s0, s1, rfl⟩ := zin_n (by omega) c
    exact zpr_an hm (sp_end h (by omega)) (fun M1 L1 h => sp_mend (t := t) h (by omega))
  · exact zpr_an hm (sp_endN h c) (fun M1 L1 h => sp_mendN (t := t) h c)
theorem pr_fault {d : Nat} {x : Int32} : zPr yX11_fault YX11_fault yX12_fault YX12_fault (d + 100) [.int x] := by
  rintro M L R ⟨t, n, g, v, hs, m, rfl, h, hm⟩
  have hn8 : n ≤ 8 := h.2.1.1
  have hb4 : g.2.1 ≤ 4 := h.2.2.1.2.2.2.1
  have hm16 : m.1 ≤ 1600 := h.2.2.2.2.2.2.2.1.2.1
  have hp55 : m.2.2.2.2.2.2.1 ≤ 55 := h.2.2.2.2.2.2.2.1.2.2.2.2.2.2.2.2.2.1
  exact zpr_an hm (sp_fault h) (fun M1 L1 h => sp_mfault (t := t) h)
theorem pr_has {d : Nat} {x : Int32} : zPr yX11_has YX11_has yX12_has YX12_has (d + 100) [.int x] := by
  rintro M L R ⟨t, n, g, v, hs, m, rfl, h, hm⟩
  have hn8 : n ≤ 8 := h.2.1.1
  have hb4 : g.2.1 ≤ 4 := h.2.2.1.2.2.2.1
  have hm16 : m.1 ≤ 1600 := h.2.2.2.2.2.2.2.1.2.1
  have hp55 : m.2.2.2.2.2.2.1 ≤ 55 := h.2.2.2.2.2.2.2.1.2.2.2.2.2.2.2.2.2.1
  by_cases c : zin x 10
  · obtain ⟨s0, s1, rfl⟩ := zin_n (by omega) c
    exact zpr_an hm (sp_has h s1) (fun M1 L1 h => sp_mhas (t := t) h s1)
  · exact zpr_an hm (sp_hasN h c) (fun M1 L1 h => sp_mhasN (t := t) h c)
theorem pr_seat {d : Nat} {x y : Int32} : zPr yX11_seat YX11_seat yX12_seat YX12_seat (d + 100) [.int x, .int y] := by
  rintro M L R ⟨t, n, g, v, hs, m, rfl, h, hm⟩
  have hn8 : n ≤ 8 := h.2.1.1
  have hb4 : g.2.1 ≤ 4 := h.2.2.1.2.2.2.1
  have hm16 : m.1 ≤ 1600 := h.2.2.2.2.2.2.2.1.2.1
  have hp55 : m.2.2.2.2.2.2.1 ≤ 55 := h.2.2.2.2.2.2.2.1.2.2.2.2.2.2.2.2.2.1
  by_cases c : zin x n ∧ zin y 8
  · obtain ⟨s0, s1, rfl⟩ := zin_n (by omega) c.1
    obtain ⟨q0, q1, rfl⟩ := zin_n (by omega) c.2
    exact zpr_an hm (sp_seat h s1 q1) (fun M1 L1 h => sp_mseat (t := t) h s1 q1)
  · exact zpr_an hm (sp_seatN h c) (fun M1 L1 h => sp_mseatN (t := t) h c)
theorem pr_cracker {d : Nat} {x y : Int32} : zPr yX11_cracker YX11_cracker yX12_cracker YX12_cracker (d + 100) [.int x, .int y] := by
  rintro M L R ⟨t, n, g, v, hs, m, rfl, h, hm⟩
  have hn8 : n ≤ 8 := h.2.1.1
  have hb4 : g.2.1 ≤ 4 := h.2.2.1.2.2.2.1
  have hm16 : m.1 ≤ 1600 := h.2.2.2.2.2.2.2.1.2.1
  have hp55 : m.2.2.2.2.2.2.1 ≤ 55 := h.2.2.2.2.2.2.2.1.2.2.2.2.2.2.2.2.2.1
  by_cases c : 2 ≤ n ∧ zin x n ∧ zin y 7
  · obtain ⟨s0, s1, rfl⟩ := zin_n (by omega) c.2.1
    obtain ⟨q0, q1, rfl⟩ := zin_n (by omega) c.2.2
    exact zpr_an hm (sp_cracker h c.1 s1 q1) (fun M1 L1 h => sp_mcracker (t := t) h c.1 s1 q1)
  · exact zpr_an hm (sp_crackerN h c) (fun M1 L1 h => sp_mcrackerN (t := t) h c)
theorem pr_odds {d : Nat} {x y : Int32} : zPr yX11_odds YX11_odds yX12_odds YX12_odds (d + 100) [.int x, .int y] := by
  rintro M L R ⟨t, n, g, v, hs, m, rfl, h, hm⟩
  have hn8 : n ≤ 8 := h.2.1.1
  have hb4 : g.2.1 ≤ 4 := h.2.2.1.2.2.2.1
  have hm16 : m.1 ≤ 1600 := h.2.2.2.2.2.2.2.1.2.1
  have hp55 : m.2.2.2.2.2.2.1 ≤ 55 := h.2.2.2.2.2.2.2.1.2.2.2.2.2.2.2.2.2.1
  by_cases c : 2 ≤ n ∧ zin x n ∧ zin y 3
  · obtain ⟨s0, s1, rfl⟩ := zin_n (by omega) c.2.1
    obtain ⟨q0, q1, rfl⟩ := zin_n (by omega) c.2.2
    exact zpr_an hm (sp_odds h c.1 s1 q1) (fun M1 L1 h => sp_modds (t := t) h c.1 s1 q1)
  · exact zpr_an hm (sp_oddsN h c) (fun M1 L1 h => sp_moddsN (t := t) h c)
theorem pr_mean {d : Nat} {x : Int32} : zPr yX11_mean YX11_mean yX12_mean YX12_mean (d + 100) [.int x] := by
  rintro M L R ⟨t, n, g, v, hs, m, rfl, h, hm⟩
  have hn8 : n ≤ 8 := h.2.1.1
  have hb4 : g.2.1 ≤ 4 := h.2.2.1.2.2.2.1
  have hm16 : m.1 ≤ 1600 := h.2.2.2.2.2.2.2.1.2.1
  have hp55 : m.2.2.2.2.2.2.1 ≤ 55 := h.2.2.2.2.2.2.2.1.2.2.2.2.2.2.2.2.2.1
  by_cases c : 2 ≤ n ∧ zin x 3
  · obtain ⟨s0, s1, rfl⟩ := zin_n (by omega) c.2
    exact zpr_an hm (sp_mean h c.1 s1) (fun M1 L1 h => sp_mmean (t := t) h c.1 s1)
  · exact zpr_an hm (sp_meanN h c) (fun M1 L1 h => sp_mmeanN (t := t) h c)
theorem pr_most {d : Nat} : zPr yX11_most YX11_most yX12_most YX12_most (d + 100) [] := by
  rintro M L R ⟨t, n, g, v, hs, m, rfl, h, hm⟩
  have hn8 : n ≤ 8 := h.2.1.1
  have hb4 : g.2.1 ≤ 4 := h.2.2.1.2.2.2.1
  have hm16 : m.1 ≤ 1600 := h.2.2.2.2.2.2.2.1.2.1
  have hp55 : m.2.2.2.2.2.2.1 ≤ 55 := h.2.2.2.2.2.2.2.1.2.2.2.2.2.2.2.2.2.1
  by_cases c : 2 ≤ n
  · exact zpr_an hm (sp_most h c) (fun M1 L1 h => sp_mmost (t := t) h c)
  · exact zpr_an hm (sp_mostN h (by omega)) (fun M1 L1 h => sp_mmostN (t := t) h (by omega))
theorem pr_pairs {d : Nat} : zPr yX11_pairs YX11_pairs yX12_pairs YX12_pairs (d + 100) [] := by
  rintro M L R ⟨t, n, g, v, hs, m, rfl, h, hm⟩
  have hn8 : n ≤ 8 := h.2.1.1
  have hb4 : g.2.1 ≤ 4 := h.2.2.1.2.2.2.1
  have hm16 : m.1 ≤ 1600 := h.2.2.2.2.2.2.2.1.2.1
  have hp55 : m.2.2.2.2.2.2.1 ≤ 55 := h.2.2.2.2.2.2.2.1.2.2.2.2.2.2.2.2.2.1
  by_cases c : 2 ≤ n
  · exact zpr_an hm (sp_pairs h c) (fun M1 L1 h => sp_mpairs (t := t) h c)
  · exact zpr_an hm (sp_pairsN h (by omega)) (fun M1 L1 h => sp_mpairsN (t := t) h (by omega))
theorem pr_pass {d : Nat} : zPr yX11_pass YX11_pass yX12_pass YX12_pass (d + 100) [] := by
  rintro M L R ⟨t, n, g, v, hs, m, rfl, h, hm⟩
  have hn8 : n ≤ 8 := h.2.1.1
  have hb4 : g.2.1 ≤ 4 := h.2.2.1.2.2.2.1
  have hm16 : m.1 ≤ 1600 := h.2.2.2.2.2.2.2.1.2.1
  have hp55 : m.2.2.2.2.2.2.1 ≤ 55 := h.2.2.2.2.2.2.2.1.2.2.2.2.2.2.2.2.2.1
  by_cases c : 2 ≤ n
  · exact zpr_an hm (sp_pass h c) (fun M1 L1 h => sp_mpass (t := t) h c)
  · exact zpr_an hm (sp_passN h (by omega)) (fun M1 L1 h => sp_mpassN (t := t) h (by omega))
theorem pr_seats {d : Nat} {x : Int32} : zPr yX11_seats YX11_seats yX12_seats YX12_seats (d + 100) [.int x] := by
  rintro M L R ⟨t, n, g, v, hs, m, rfl, h, hm⟩
  have hn8 : n ≤ 8 := h.2.1.1
  have hb4 : g.2.1 ≤ 4 := h.2.2.1.2.2.2.1
  have hm16 : m.1 ≤ 1600 := h.2.2.2.2.2.2.2.1.2.1
  have hp55 : m.2.2.2.2.2.2.1 ≤ 55 := h.2.2.2.2.2.2.2.1.2.2.2.2.2.2.2.2.2.1
  by_cases c : 2 ≤ n ∧ (x = -1 ∨ zin x n)
  · exact zpr_an hm (sp_seats h c.1 c.2) (fun M1 L1 h => sp_mseats (t := t) h c.1 c.2)
  · exact zpr_an hm (sp_seatsN h c) (fun M1 L1 h => sp_mseatsN (t := t) h c)
theorem pr_best {d : Nat} {x y z : Int32} : zPr yX11_best YX11_best yX12_best YX12_best (d + 100) [.int x, .int y, .int z] := by
  rintro M L R ⟨t, n, g, v, hs, m, rfl, h, hm⟩
  have hn8 : n ≤ 8 := h.2.1.1
  have hb4 : g.2.1 ≤ 4 := h.2.2.1.2.2.2.1
  have hm16 : m.1 ≤ 1600 := h.2.2.2.2.2.2.2.1.2.1
  have hp55 : m.2.2.2.2.2.2.1 ≤ 55 := h.2.2.2.2.2.2.2.1.2.2.2.2.2.2.2.2.2.1
  by_cases c : 2 ≤ n ∧ zin x n ∧ zin y 2 ∧ zin z 2
  · obtain ⟨s0, s1, rfl⟩ := zin_n (by omega) c.2.1
    obtain ⟨q0, q1, rfl⟩ := zin_n (by omega) c.2.2.1
    obtain ⟨p0, p1, rfl⟩ := zin_n (by omega) c.2.2.2
    exact zpr_an hm (sp_best h c.1 s1 q1 p1) (fun M1 L1 h => sp_mbest (t := t) h c.1 s1 q1 p1)
  · exact zpr_an hm (sp_bestN h c) (fun M1 L1 h => sp_mbestN (t := t) h c)
theorem pr_rests {d : Nat} {x y : Int32} : zPr yX11_rests YX11_rests yX12_rests YX12_rests (d + 100) [.int x, .int y] := by
  rintro M L R ⟨t, n, g, v, hs, m, rfl, h, hm⟩
  have hn8 : n ≤ 8 := h.2.1.1
  have hb4 : g.2.1 ≤ 4 := h.2.2.1.2.2.2.1
  have hm16 : m.1 ≤ 1600 := h.2.2.2.2.2.2.2.1.2.1
  have hp55 : m.2.2.2.2.2.2.1 ≤ 55 := h.2.2.2.2.2.2.2.1.2.2.2.2.2.2.2.2.2.1
  by_cases c : 2 ≤ n ∧ (x = -1 ∨ (zin x n ∧ zin y 2))
  · exact zpr_an hm (sp_rests h c.1 c.2) (fun M1 L1 h => sp_mrests (t := t) h c.1 c.2)
  · exact zpr_an hm (sp_restsN h c) (fun M1 L1 h => sp_mrestsN (t := t) h c)
theorem pr_thumb {d : Nat} {x y z u : Int32} : zPr yX11_thumb YX11_thumb yX12_thumb YX12_thumb (d + 100) [.int x, .int y, .int z, .int u] := by
  rintro M L R ⟨t, n, g, v, hs, m, rfl, h, hm⟩
  have hn8 : n ≤ 8 := h.2.1.1
  have hb4 : g.2.1 ≤ 4 := h.2.2.1.2.2.2.1
  have hm16 : m.1 ≤ 1600 := h.2.2.2.2.2.2.2.1.2.1
  have hp55 : m.2.2.2.2.2.2.1 ≤ 55 := h.2.2.2.2.2.2.2.1.2.2.2.2.2.2.2.2.2.1
  by_cases c : 2 ≤ n ∧ zin x n ∧ zin y 2 ∧ ¬ z < nI 1 ∧ ¬ nI 3 < z ∧ ¬ u < 0 ∧ u ≤ z
  · obtain ⟨c1, c2, c3, c4, c5, c6, c7⟩ := c
    obtain ⟨s0, s1, rfl⟩ := zin_n (by omega) c2
    obtain ⟨q0, q1, rfl⟩ := zin_n (by omega) c3
    obtain ⟨k0, k1, k2, rfl⟩ := zpb_n (by omega) (by omega) c4 c5
    obtain ⟨w0, w1, rfl⟩ := zp0_n c6
    exact zpr_an hm (sp_thumb h c1 s1 q1 k1 k2 (zp_le w1 (by omega) c7)) (fun M1 L1 h => sp_mthumb (t := t) h c1 s1 q1 k1 k2 (zp_le w1 (by omega) c7))
  · exact zpr_an hm (sp_thumbN h c) (fun M1 L1 h => sp_mthumbN (t := t) h c)
theorem pr_duds {d : Nat} {x y z : Int32} : zPr yX11_duds YX11_duds yX12_duds YX12_duds (d + 100) [.int x, .int y, .int z] := by
  rintro M L R ⟨t, n, g, v, hs, m, rfl, h, hm⟩
  have hn8 : n ≤ 8 := h.2.1.1
  have hb4 : g.2.1 ≤ 4 := h.2.2.1.2.2.2.1
  have hm16 : m.1 ≤ 1600 := h.2.2.2.2.2.2.2.1.2.1
  have hp55 : m.2.2.2.2.2.2.1 ≤ 55 := h.2.2.2.2.2.2.2.1.2.2.2.2.2.2.2.2.2.1
  by_cases c : g.2.1 ≠ 0 ∧ ¬ x < nI 1 ∧ ¬ nI 6 < x ∧ ¬ y < 0 ∧ ¬ x < y ∧ zin z 2
  · obtain ⟨c1, c2, c3, c4, c5, c6⟩ := c
    obtain ⟨k0, k1, k2, rfl⟩ := zpb_n (by omega) (by omega) c2 c3
    obtain ⟨w0, w1, rfl⟩ := zp0_n c4
    obtain ⟨q0, q1, rfl⟩ := zin_n (by omega) c6
    exact zpr_an hm (sp_duds h (by omega) k1 k2 (zp_nlt (by omega) w1 c5) q1) (fun M1 L1 h => sp_mduds (t := t) h (by omega) k1 k2 (zp_nlt (by omega) w1 c5) q1)
  · exact zpr_an hm (sp_dudsN h c) (fun M1 L1 h => sp_mdudsN (t := t) h c)
theorem pr_gifts {d : Nat} : zPr yX11_gifts YX11_gifts yX12_gifts YX12_gifts (d + 100) [] := by
  rintro M L R ⟨t, n, g, v, hs, m, rfl, h, hm⟩
  have hn8 : n ≤ 8 := h.2.1.1
  have hb4 : g.2.1 ≤ 4 := h.2.2.1.2.2.2.1
  have hm16 : m.1 ≤ 1600 := h.2.2.2.2.2.2.2.1.2.1
  have hp55 : m.2.2.2.2.2.2.1 ≤ 55 := h.2.2.2.2.2.2.2.1.2.2.2.2.2.2.2.2.2.1
  by_cases c : 2 ≤ n ∧ n ≤ nS (ht v) n
  · exact zpr_an hm (sp_gifts h c.1 c.2) (fun M1 L1 h => sp_mgifts (t := t) h c.1 c.2)
  · exact zpr_an hm (sp_giftsN h c) (fun M1 L1 h => sp_mgiftsN (t := t) h c)
theorem pr_left {d : Nat} {x : Int32} : zPr yX11_left YX11_left yX12_left YX12_left (d + 100) [.int x] := by
  rintro M L R ⟨t, n, g, v, hs, m, rfl, h, hm⟩
  have hn8 : n ≤ 8 := h.2.1.1
  have hb4 : g.2.1 ≤ 4 := h.2.2.1.2.2.2.1
  have hm16 : m.1 ≤ 1600 := h.2.2.2.2.2.2.2.1.2.1
  have hp55 : m.2.2.2.2.2.2.1 ≤ 55 := h.2.2.2.2.2.2.2.1.2.2.2.2.2.2.2.2.2.1
  by_cases c : 2 ≤ n ∧ zin x 2
  · obtain ⟨s0, s1, rfl⟩ := zin_n (by omega) c.2
    exact zpr_an hm (sp_left h c.1 s1) (fun M1 L1 h => sp_mleft (t := t) h c.1 s1)
  · exact zpr_an hm (sp_leftN h c) (fun M1 L1 h => sp_mleftN (t := t) h c)
theorem pr_hold {d : Nat} {x y z u : Int32} : zPr yX11_hold YX11_hold yX12_hold YX12_hold (d + 100) [.int x, .int y, .int z, .int u] := by
  rintro M L R ⟨t, n, g, v, hs, m, rfl, h, hm⟩
  have hn8 : n ≤ 8 := h.2.1.1
  have hb4 : g.2.1 ≤ 4 := h.2.2.1.2.2.2.1
  have hm16 : m.1 ≤ 1600 := h.2.2.2.2.2.2.2.1.2.1
  have hp55 : m.2.2.2.2.2.2.1 ≤ 55 := h.2.2.2.2.2.2.2.1.2.2.2.2.2.2.2.2.2.1
  by_cases c : zin x n ∧ zin y 2 ∧ zin z 3 ∧ zin u 10
  · obtain ⟨s0, s1, rfl⟩ := zin_n (by omega) c.1
    obtain ⟨q0, q1, rfl⟩ := zin_n (by omega) c.2.1
    obtain ⟨p0, p1, rfl⟩ := zin_n (by omega) c.2.2.1
    obtain ⟨l0, l1, rfl⟩ := zin_n (by omega) c.2.2.2
    exact zpr_an hm (sp_hold h s1 q1 p1 l1) (fun M1 L1 h => sp_mhold (t := t) h s1 q1 p1 l1)
  · exact zpr_an hm (sp_holdN h c) (fun M1 L1 h => sp_mholdN (t := t) h c)
theorem pr_change {d : Nat} {x y : Int32} : zPr yX11_change YX11_change yX12_change YX12_change (d + 100) [.int x, .int y] := by
  rintro M L R ⟨t, n, g, v, hs, m, rfl, h, hm⟩
  have hn8 : n ≤ 8 := h.2.1.1
  have hb4 : g.2.1 ≤ 4 := h.2.2.1.2.2.2.1
  have hm16 : m.1 ≤ 1600 := h.2.2.2.2.2.2.2.1.2.1
  have hp55 : m.2.2.2.2.2.2.1 ≤ 55 := h.2.2.2.2.2.2.2.1.2.2.2.2.2.2.2.2.2.1
  by_cases c : zin x n ∧ zin y n ∧ x ≠ y
  · obtain ⟨s0, s1, rfl⟩ := zin_n (by omega) c.1
    obtain ⟨q0, q1, rfl⟩ := zin_n (by omega) c.2.1
    exact zpr_an hm (sp_change h s1 q1 (fun e => c.2.2 (by rw [e]))) (fun M1 L1 h => sp_mchange (t := t) h s1 q1 (fun e => c.2.2 (by rw [e])))
  · exact zpr_an hm (sp_changeN h c) (fun M1 L1 h => sp_mchangeN (t := t) h c)
theorem pr_give {d : Nat} {x y : Int32} : zPr yX11_give YX11_give yX12_give YX12_give (d + 100) [.int x, .int y] := by
  rintro M L R ⟨t, n, g, v, hs, m, rfl, h, hm⟩
  have hn8 : n ≤ 8 := h.2.1.1
  have hb4 : g.2.1 ≤ 4 := h.2.2.1.2.2.2.1
  have hm16 : m.1 ≤ 1600 := h.2.2.2.2.2.2.2.1.2.1
  have hp55 : m.2.2.2.2.2.2.1 ≤ 55 := h.2.2.2.2.2.2.2.1.2.2.2.2.2.2.2.2.2.1
  by_cases c : zin x n ∧ zin y n ∧ x ≠ y ∧ ht v x.toInt.toNat ≠ 0 ∧ ht v y.toInt.toNat < 99
  · obtain ⟨c1, c2, c3, c4, c5⟩ := c
    obtain ⟨s0, s1, rfl⟩ := zin_n (by omega) c1
    obtain ⟨q0, q1, rfl⟩ := zin_n (by omega) c2
    rw [nI_toInt (by omega), Int.toNat_natCast] at c4 c5
    exact zpr_an hm (sp_give h s1 q1 (fun e => c3 (by rw [e])) c4 c5) (fun M1 L1 h => sp_mgive (t := t) h s1 q1 (fun e => c3 (by rw [e])) c4 c5)
  · exact zpr_an hm (sp_giveN h c) (fun M1 L1 h => sp_mgiveN (t := t) h c)
theorem pr_undo {d : Nat} : zPr yX11_undo YX11_undo yX12_undo YX12_undo (d + 100) [] := by
  rintro M L R ⟨t, n, g, v, hs, m, rfl, h, hm⟩
  have hn8 : n ≤ 8 := h.2.1.1
  have hb4 : g.2.1 ≤ 4 := h.2.2.1.2.2.2.1
  have hm16 : m.1 ≤ 1600 := h.2.2.2.2.2.2.2.1.2.1
  have hp55 : m.2.2.2.2.2.2.1 ≤ 55 := h.2.2.2.2.2.2.2.1.2.2.2.2.2.2.2.2.2.1
  cases hs with
  | nil => exact zpr_an hm (sp_undoN h) (fun M1 L1 h => sp_mundoN (t := t) h)
  | cons u hs => exact zpr_an hm (sp_undo h) (fun M1 L1 h => sp_mundo (t := t) h)
theorem pr_seed {d : Nat} {x : Int32} : zPr yX11_seed YX11_seed yX12_seed YX12_seed (d + 100) [.int x] := by
  rintro M L R ⟨t, n, g, v, hs, m, rfl, h, hm⟩
  have hn8 : n ≤ 8 := h.2.1.1
  have hb4 : g.2.1 ≤ 4 := h.2.2.1.2.2.2.1
  have hm16 : m.1 ≤ 1600 := h.2.2.2.2.2.2.2.1.2.1
  have hp55 : m.2.2.2.2.2.2.1 ≤ 55 := h.2.2.2.2.2.2.2.1.2.2.2.2.2.2.2.2.2.1
  by_cases c : x < 0
  · exact zpr_an hm (sp_seedN h c) (fun M1 L1 h => sp_mseedN (t := t) h c)
  · obtain ⟨s0, s1, rfl⟩ := zp0_n c
    exact zpr_an hm (sp_seed h s1) (fun M1 L1 h => sp_mseed (t := t) h s1)
theorem pr_dine {d : Nat} {x : Int32} : zPr yX11_dine YX11_dine yX12_dine YX12_dine (d + 100) [.int x] := by
  rintro M L R ⟨t, n, g, v, hs, m, rfl, h, hm⟩
  have hn8 : n ≤ 8 := h.2.1.1
  have hb4 : g.2.1 ≤ 4 := h.2.2.1.2.2.2.1
  have hm16 : m.1 ≤ 1600 := h.2.2.2.2.2.2.2.1.2.1
  have hp55 : m.2.2.2.2.2.2.1 ≤ 55 := h.2.2.2.2.2.2.2.1.2.2.2.2.2.2.2.2.2.1
  by_cases c : 2 ≤ n ∧ ¬ x < nI 1 ∧ ¬ nI 50 < x ∧ nI (v 0) + x ≤ nI 9999
  · obtain ⟨c1, c2, c3, c4⟩ := c
    obtain ⟨k0, k1, k2, rfl⟩ := zpb_n (by omega) (by omega) c2 c3
    have hv0 : v 0 ≤ 9999 := h.2.1.2.2.2.2.2.1
    rw [nI_add] at c4
    have c5 := zp_le (by omega) (by omega) c4
    exact zpr_an hm (sp_dine h c1 k1 k2 c5 rfl) (fun M1 L1 h => sp_mdine (t := t) h c1 k1 k2 c5 rfl)
  · exact zpr_an hm (sp_dineN h c) (fun M1 L1 h => sp_mdineN (t := t) h c)
theorem pr_image {d : Nat} : zPr yX11_image YX11_image yX12_image YX12_image (d + 100) [] := by
  rintro M L R ⟨t, n, g, v, hs, m, rfl, h, hm⟩
  have hn8 : n ≤ 8 := h.2.1.1
  have hb4 : g.2.1 ≤ 4 := h.2.2.1.2.2.2.1
  have hm16 : m.1 ≤ 1600 := h.2.2.2.2.2.2.2.1.2.1
  have hp55 : m.2.2.2.2.2.2.1 ≤ 55 := h.2.2.2.2.2.2.2.1.2.2.2.2.2.2.2.2.2.1
  exact zpr_an hm (sp_image h) (fun M1 L1 h => sp_mimage (t := t) h)
theorem pr_restore {d : Nat} : zPr yX11_restore YX11_restore yX12_restore YX12_restore (d + 100) [] := by
  rintro M L R ⟨t, n, g, v, hs, m, rfl, h, hm⟩
  have hn8 : n ≤ 8 := h.2.1.1
  have hb4 : g.2.1 ≤ 4 := h.2.2.1.2.2.2.1
  have hm16 : m.1 ≤ 1600 := h.2.2.2.2.2.2.2.1.2.1
  have hp55 : m.2.2.2.2.2.2.1 ≤ 55 := h.2.2.2.2.2.2.2.1.2.2.2.2.2.2.2.2.2.1
  by_cases c : zIok n m.1 m.2.1
  · exact zpr_an hm (sp_restore h c) (fun M1 L1 h => sp_mrestore (t := t) h c)
  · exact zpr_an hm (sp_restoreN h c) (fun M1 L1 h => sp_mrestoreN (t := t) h c)
theorem pr_status {d : Nat} {x : Int32} : zPr yX11_status YX11_status yX12_status YX12_status (d + 100) [.int x] := by
  rintro M L R ⟨t, n, g, v, hs, m, rfl, h, hm⟩
  have hn8 : n ≤ 8 := h.2.1.1
  have hb4 : g.2.1 ≤ 4 := h.2.2.1.2.2.2.1
  have hm16 : m.1 ≤ 1600 := h.2.2.2.2.2.2.2.1.2.1
  have hp55 : m.2.2.2.2.2.2.1 ≤ 55 := h.2.2.2.2.2.2.2.1.2.2.2.2.2.2.2.2.2.1
  by_cases c : zin x (6)
  · obtain ⟨s0, s1, rfl⟩ := zin_n (by omega) c
    exact zpr_an hm (sp_status h s1) (fun M1 L1 h => sp_mstatus (t := t) h (fun k hk e => by rw [zpi_n (by omega) (by omega) e]) (fun e => absurd c e))
  · exact zpr_an hm (sp_statusN h c) (fun M1 L1 h => sp_mstatus (t := t) h (fun k hk e => absurd (by rw [e]; exact zin_i hk (by omega)) c) (fun e => rfl))
theorem pr_octet {d : Nat} {x : Int32} : zPr yX11_octet YX11_octet yX12_octet YX12_octet (d + 100) [.int x] := by
  rintro M L R ⟨t, n, g, v, hs, m, rfl, h, hm⟩
  have hn8 : n ≤ 8 := h.2.1.1
  have hb4 : g.2.1 ≤ 4 := h.2.2.1.2.2.2.1
  have hm16 : m.1 ≤ 1600 := h.2.2.2.2.2.2.2.1.2.1
  have hp55 : m.2.2.2.2.2.2.1 ≤ 55 := h.2.2.2.2.2.2.2.1.2.2.2.2.2.2.2.2.2.1
  by_cases c : zin x (m.2.2.2.2.2.2.1)
  · obtain ⟨s0, s1, rfl⟩ := zin_n (by omega) c
    exact zpr_an hm (sp_octet h s1) (fun M1 L1 h => sp_moctet (t := t) h (fun k hk e => by rw [zpi_n (by omega) (by omega) e]) (fun e => absurd c e))
  · exact zpr_an hm (sp_octetN h c) (fun M1 L1 h => sp_moctet (t := t) h (fun k hk e => absurd (by rw [e]; exact zin_i hk (by omega)) c) (fun e => rfl))
theorem pr_box {d : Nat} {x : Int32} : zPr yX11_box YX11_box yX12_box YX12_box (d + 100) [.int x] := by
  rintro M L R ⟨t, n, g, v, hs, m, rfl, h, hm⟩
  have hn8 : n ≤ 8 := h.2.1.1
  have hb4 : g.2.1 ≤ 4 := h.2.2.1.2.2.2.1
  have hm16 : m.1 ≤ 1600 := h.2.2.2.2.2.2.2.1.2.1
  have hp55 : m.2.2.2.2.2.2.1 ≤ 55 := h.2.2.2.2.2.2.2.1.2.2.2.2.2.2.2.2.2.1
  by_cases c : zin x (g.2.1)
  · obtain ⟨s0, s1, rfl⟩ := zin_n (by omega) c
    exact zpr_an hm (sp_box h s1) (fun M1 L1 h => sp_mbox (t := t) h (fun k hk e => by rw [zpi_n (by omega) (by omega) e]) (fun e => absurd c e))
  · exact zpr_an hm (sp_boxN h c) (fun M1 L1 h => sp_mbox (t := t) h (fun k hk e => absurd (by rw [e]; exact zin_i hk (by omega)) c) (fun e => rfl))
theorem pr_letter {d : Nat} {x y z : Int32} : zPr yX11_letter YX11_letter yX12_letter YX12_letter (d + 100) [.int x, .int y, .int z] := by
  rintro M L R ⟨t, n, g, v, hs, m, rfl, h, hm⟩
  have hn8 : n ≤ 8 := h.2.1.1
  have hb4 : g.2.1 ≤ 4 := h.2.2.1.2.2.2.1
  have hm16 : m.1 ≤ 1600 := h.2.2.2.2.2.2.2.1.2.1
  have hp55 : m.2.2.2.2.2.2.1 ≤ 55 := h.2.2.2.2.2.2.2.1.2.2.2.2.2.2.2.2.2.1
  by_cases c : zin z 6 ∧ ((x = 0 ∧ zin y n) ∨ (x = nI 1 ∧ zin y g.2.1))
  · obtain ⟨c1, c2⟩ := c
    obtain ⟨k0, k1, rfl⟩ := zin_n (by omega) c1
    rcases c2 with ⟨rfl, c2⟩ | ⟨rfl, c2⟩
    · obtain ⟨s0, s1, rfl⟩ := zin_n (by omega) c2
      exact zpr_an hm (sp_letter0 h s1 k1) (fun M1 L1 h => sp_mletter (t := t) h (Or.inl ⟨rfl, s1, rfl⟩) k1)
    · obtain ⟨s0, s1, rfl⟩ := zin_n (by omega) c2
      exact zpr_an hm (sp_letter1 h s1 k1) (fun M1 L1 h => sp_mletter (t := t) h (Or.inr ⟨rfl, s1, rfl⟩) k1)
  · exact zpr_an hm (sp_letterN h c) (fun M1 L1 h => sp_mletterN (t := t) h c)
theorem pr_table {d : Nat} : zPr yX11_table YX11_table yX12_table YX12_table (d + 100) [] := by
  rintro M L R ⟨t, n, g, v, hs, m, rfl, h, hm⟩
  have hn8 : n ≤ 8 := h.2.1.1
  have hb4 : g.2.1 ≤ 4 := h.2.2.1.2.2.2.1
  have hm16 : m.1 ≤ 1600 := h.2.2.2.2.2.2.2.1.2.1
  have hp55 : m.2.2.2.2.2.2.1 ≤ 55 := h.2.2.2.2.2.2.2.1.2.2.2.2.2.2.2.2.2.1
  refine Sy_mo (sp_table (d := d + 59) h) ?_
  rintro v0 M1 L1 R1 ⟨T, c, D, Fm, Fs, r, hT, hr, hc, hI, hkp, hX, hh⟩
  have hm1 := zMo_x hm hX
  rcases hh with ⟨r1, r2, rfl, rfl, hC⟩ | ⟨r1, rfl, rfl, hC⟩
  · refine ⟨-1, rfl, Sy_mo (sp_mtable (d := d + 92) hm1 hT hr hc hI) ?_⟩
    rintro u0 M2 L2 R2 ⟨rfl, hY, ⟨q1, rfl, hM⟩ | ⟨q1, _⟩⟩
    · exact ⟨rfl, _, _, _, _, _, _, rfl, zCI_y hC hY, hM⟩
    · exact absurd q1 r1
  · refine ⟨_, rfl, Sy_mo (sp_mtable (d := d + 92) hm1 hT hr hc hI) ?_⟩
    rintro u0 M2 L2 R2 ⟨rfl, hY, ⟨q1, _⟩ | ⟨q1, rfl, hM⟩⟩
    · exact absurd r1 q1
    · exact ⟨rfl, _, _, _, _, _, _, rfl, zCI_y hC hY, hM⟩
theorem pr_ask {d : Nat} {M : zMI} {L : zML} {R : zMR} (hI : zTie M L R) : Sy yX11_ask YX11_ask (d + 100) [.ref 0] M L R (fun v0 M1 L1 R1 => ∃ x : Int64, v0 = some (.long x) ∧ Sy yX12_ask YX12_ask (d + 100) [.ref 177] M1 L1 R1 (fun u0 M2 L2 R2 => u0 = some (.long x) ∧ zTie M2 L2 R2)) := by
  obtain ⟨t, n, g, v, hs, m, rfl, h, hm⟩ := hI
  refine Sy_mo (sp_ask (d := d + 24) h) ?_
  rintro v0 M1 L1 R1 ⟨T, c, A, hT, hA, hX, rfl, hC, h5, hh⟩
  have hm1 := zMo_x hm hX
  rcases hh with ⟨r1, rfl⟩ | ⟨r1, rfl⟩
  · refine ⟨_, rfl, Sy_mo (sp_mAsk (d := d + 90) hm1 hT hA) ?_⟩
    rintro u0 M2 L2 R2 ⟨rfl, hY, hM, ⟨q1, rfl⟩ | ⟨q1, _⟩⟩
    · exact ⟨rfl, _, _, _, _, _, _, rfl, zCI_y hC hY, hM⟩
    · exact absurd q1 r1
  · refine ⟨_, rfl, Sy_mo (sp_mAsk (d := d + 90) hm1 hT hA) ?_⟩
    rintro u0 M2 L2 R2 ⟨rfl, hY, hM, ⟨q1, _⟩ | ⟨q1, rfl⟩⟩
    · exact absurd r1 q1
    · exact ⟨rfl, _, _, _, _, _, _, rfl, zCI_y hC hY, hM⟩

