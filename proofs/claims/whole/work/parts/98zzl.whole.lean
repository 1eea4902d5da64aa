set_option maxRecDepth 100000 in
theorem whole_start {p : Program} {e : Env} {s : State} {m : MethodId} {below : List Frame} {meth : Method} {c : Code} (l : Launch) (hflags : l.flags = flags0) {b L : Nat} {xs : Nat → Int32} (hL : L ≤ 3072) (C0 : lw_At p s m meth c b L xs) : W p l e room_1 s m #[Value.ref b] below meth c s.heap [] 0 0 (lw_Z below #[Value.ref b] s) (entryFrame m ([Value.ref b] : List Value).toArray 4) := by
  obtain ⟨hx, hb, hr, hml, hown, hts, hX, hbl, hlocks, hgv⟩ := id C0
  obtain ⟨w, hw0, hw1, hK, hST, hSX⟩ := zworld hts hgv
  have hXs : zXs w (p, l, e, room_1, s, m, #[Value.ref b], below, meth, c) L xs := by
    unfold zXs
    rw [hw1, hw0]
    exact ⟨hX, hbl, hbl, hL⟩
  have hF : zFix w YL_law BL (p, l, e, room_1, s, m, #[Value.ref b], below, meth, c) :=
    ⟨hx, hb, hml, hown, fun q hq => hts q (List.mem_filter.mp hq).1, hlocks, hr, hK, hST, hw0.symm, by decide, by decide, by decide, zsl_SS, fun h => by cases h⟩
  have hl := lv_entry ([.ref b]) (n := 4) (Nat.le_of_ble_eq_true rfl)
  rw [lg_entry_eq]
  generalize (lg_sl ([.ref b]) ++ List.replicate (4 - (lg_sl ([.ref b])).length) Slot.unset).toArray = ls at hl ⊢
  have hl : lv_has ls 4 (([(0, .float 1)] : List (Nat × Value)).map (fun q => (q.1, zv w q.2))) := by
    have e1 : zv w (.float 1) = .ref b := by show Value.ref (w.2.1 1) = _; rw [hw1]
    simp only [List.map_cons, List.map_nil, e1]
    exact hl
  exact wp_front (w := w) (G := (p, l, e, room_1, s, m, #[Value.ref b], below, meth, c)) rfl rfl hXs hSX hF (Nat.zero_le _) (Nat.zero_le _) s.heap ls [] (fun k q h => by cases h) va_S.rf hl

