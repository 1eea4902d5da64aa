theorem zmem_of {big ws : List Cond} (ps : List Nat) (hp : ws = ps.filterMap (fun i => big[i]?)) : ∀ q ∈ ws, q ∈ big := by
  intro q hq
  rw [hp] at hq
  obtain ⟨i, -, hi⟩ := List.mem_filterMap.mp hq
  exact List.mem_of_getElem? hi
set_option maxRecDepth 100000 in
theorem zin0 : ∀ q ∈ u_ws RX0 TX0 3, q ∈ lw_g := fun q hq => List.mem_filter.mpr ⟨zmem_of (big := lw_tbl) [319, 321, 323] (by decide +kernel) q hq, List.all_eq_true.mp (show (u_ws RX0 TX0 3).all goodWord = true by decide +kernel) q hq⟩
set_option maxRecDepth 100000 in
theorem zin1 : ∀ q ∈ u_ws RX1 TX1 2, q ∈ lw_g := fun q hq => List.mem_filter.mpr ⟨zmem_of (big := lw_tbl) [600, 602] (by decide +kernel) q hq, List.all_eq_true.mp (show (u_ws RX1 TX1 2).all goodWord = true by decide +kernel) q hq⟩
set_option maxRecDepth 100000 in
theorem zin2 : ∀ q ∈ u_ws RX2 TX2 3, q ∈ lw_g := fun q hq => List.mem_filter.mpr ⟨zmem_of (big := lw_tbl) [478, 480, 482] (by decide +kernel) q hq, List.all_eq_true.mp (show (u_ws RX2 TX2 3).all goodWord = true by decide +kernel) q hq⟩
set_option maxRecDepth 100000 in
theorem zin3 : ∀ q ∈ u_ws RX3 TX3 8, q ∈ lw_g := fun q hq => List.mem_filter.mpr ⟨zmem_of (big := lw_tbl) [541, 543, 545, 547, 549, 551, 553, 555] (by decide +kernel) q hq, List.all_eq_true.mp (show (u_ws RX3 TX3 8).all goodWord = true by decide +kernel) q hq⟩
set_option maxRecDepth 100000 in
theorem zin4 : ∀ q ∈ u_ws RX4 TX4 6, q ∈ lw_g := fun q hq => List.mem_filter.mpr ⟨zmem_of (big := lw_tbl) [506, 508, 510, 512, 514, 516] (by decide +kernel) q hq, List.all_eq_true.mp (show (u_ws RX4 TX4 6).all goodWord = true by decide +kernel) q hq⟩
set_option maxRecDepth 100000 in
theorem zin5 : ∀ q ∈ u_ws RX5 TX5 5, q ∈ lw_g := fun q hq => List.mem_filter.mpr ⟨zmem_of (big := lw_tbl) [402, 404, 406, 408, 410] (by decide +kernel) q hq, List.all_eq_true.mp (show (u_ws RX5 TX5 5).all goodWord = true by decide +kernel) q hq⟩
set_option maxRecDepth 100000 in
theorem zin6 : ∀ q ∈ u_ws RX6 TX6 8, q ∈ lw_g := fun q hq => List.mem_filter.mpr ⟨zmem_of (big := lw_tbl) [575, 577, 579, 581, 583, 585, 587, 589] (by decide +kernel) q hq, List.all_eq_true.mp (show (u_ws RX6 TX6 8).all goodWord = true by decide +kernel) q hq⟩
set_option maxRecDepth 100000 in
theorem zin7 : ∀ q ∈ u_ws RX7 TX7 8, q ∈ lw_g := fun q hq => List.mem_filter.mpr ⟨zmem_of (big := lw_tbl) [448, 450, 452, 454, 456, 458, 460, 462] (by decide +kernel) q hq, List.all_eq_true.mp (show (u_ws RX7 TX7 8).all goodWord = true by decide +kernel) q hq⟩
set_option maxRecDepth 100000 in
theorem zin8 : ∀ q ∈ u_ws RX8 TX8 2, q ∈ lw_g := fun q hq => List.mem_filter.mpr ⟨zmem_of (big := lw_tbl) [299, 301] (by decide +kernel) q hq, List.all_eq_true.mp (show (u_ws RX8 TX8 2).all goodWord = true by decide +kernel) q hq⟩
set_option maxRecDepth 100000 in
theorem zin9 : ∀ q ∈ u_ws RX9 TX9 15, q ∈ lw_g := fun q hq => List.mem_filter.mpr ⟨zmem_of (big := lw_tbl) [358, 360, 362, 364, 366, 368, 370, 372, 374, 376, 378, 380, 382, 384, 386] (by decide +kernel) q hq, List.all_eq_true.mp (show (u_ws RX9 TX9 15).all goodWord = true by decide +kernel) q hq⟩
set_option maxRecDepth 100000 in
theorem zin10 : ∀ q ∈ u_ws RX10 TX10 12, q ∈ lw_g := fun q hq => List.mem_filter.mpr ⟨zmem_of (big := lw_tbl) [262, 264, 266, 268, 270, 272, 274, 276, 278, 280, 282, 284] (by decide +kernel) q hq, List.all_eq_true.mp (show (u_ws RX10 TX10 12).all goodWord = true by decide +kernel) q hq⟩
set_option maxRecDepth 100000 in
theorem zin11 : ∀ q ∈ u_ws RX11 TX11 19, q ∈ lw_g := fun q hq => List.mem_filter.mpr ⟨zmem_of (big := lw_tbl) [624, 626, 628, 630, 632, 634, 636, 638, 640, 642, 644, 646, 648, 650, 652, 654, 656, 658, 660] (by decide +kernel) q hq, List.all_eq_true.mp (show (u_ws RX11 TX11 19).all goodWord = true by decide +kernel) q hq⟩
set_option maxRecDepth 100000 in
theorem zin12 : ∀ q ∈ u_ws RX12 TX12 99, q ∈ lw_g := fun q hq => List.mem_filter.mpr ⟨zmem_of (big := lw_tbl) [1422, 1424, 1426, 1428, 1430, 1432, 1434, 1436, 1438, 1440, 1442, 1444, 1446, 1448, 1450, 1452, 1454, 1456, 1458, 1460, 1462, 1464, 1466, 1468, 1470, 1472, 1474, 1476, 1478, 1480, 1482, 1484, 1486, 1488, 1490, 1492, 1494, 1496, 1498, 1500, 1502, 1504, 1506, 1508, 1510, 1512, 1514, 1516, 1518, 1520, 1522, 1524, 1526, 1528, 1530, 1532, 1534, 1536, 1538, 1540, 1542, 1544, 1546, 1548, 1550, 1552, 1554, 1556, 1558, 1560, 1562, 1564, 1566, 1568, 1570, 1572, 1574, 1576, 1578, 1580, 1582, 1584, 1586, 1588, 1590, 1592, 1594, 1596, 1598, 1600, 1602, 1604, 1606, 1608, 1610, 1612, 1614, 1616, 1618] (by decide +kernel) q hq, List.all_eq_true.mp (show (u_ws RX12 TX12 99).all goodWord = true by decide +kernel) q hq⟩
def zCok (ci : Nat) : Prop := ∀ (C : String) (T : u_T) (N : Nat), vwCl[ci]? = some (C, T, N) → (∀ q ∈ u_ws C T N, q ∈ lw_g) ∧ (∀ k, k < N → parseFieldDescriptor (T k).2.2.1 = some (zty ci k)) ∧ (∀ a, a < N → ∀ b, b < N → a ≠ b → (T a).2.1 ≠ (T b).2.1) ∧ N = zNN ci ∧ (∀ k, k < N → (T k).1 = C)
theorem zC (ci : Nat) : zCok ci := by
  match ci with
  | 0 => intro C T N h; cases h; exact ⟨zin0, tyX0_ok, nmX0, rfl, by decide +kernel⟩
  | 1 => intro C T N h; cases h; exact ⟨zin1, tyX1_ok, nmX1, rfl, by decide +kernel⟩
  | 2 => intro C T N h; cases h; exact ⟨zin2, tyX2_ok, nmX2, rfl, by decide +kernel⟩
  | 3 => intro C T N h; cases h; exact ⟨zin3, tyX3_ok, nmX3, rfl, by decide +kernel⟩
  | 4 => intro C T N h; cases h; exact ⟨zin4, tyX4_ok, nmX4, rfl, by decide +kernel⟩
  | 5 => intro C T N h; cases h; exact ⟨zin5, tyX5_ok, nmX5, rfl, by decide +kernel⟩
  | 6 => intro C T N h; cases h; exact ⟨zin6, tyX6_ok, nmX6, rfl, by decide +kernel⟩
  | 7 => intro C T N h; cases h; exact ⟨zin7, tyX7_ok, nmX7, rfl, by decide +kernel⟩
  | 8 => intro C T N h; cases h; exact ⟨zin8, tyX8_ok, nmX8, rfl, by decide +kernel⟩
  | 9 => intro C T N h; cases h; exact ⟨zin9, tyX9_ok, nmX9, rfl, by decide +kernel⟩
  | 10 => intro C T N h; cases h; exact ⟨zin10, tyX10_ok, nmX10, rfl, by decide +kernel⟩
  | 11 => intro C T N h; cases h; exact ⟨zin11, tyX11_ok, nmX11, rfl, by decide +kernel⟩
  | 12 => intro C T N h; cases h; exact ⟨zin12, tyX12_ok, nmX12, rfl, by decide +kernel⟩
  | k + 13 => intro C T N h; simp [vwCl] at h
def zF (own : String) (idx ci k : Nat) (ty : FieldType) (fin : Bool) : Prop := ∃ (C : String) (T : u_T) (N : Nat), vwCl[ci]? = some (C, T, N) ∧ k < N ∧ Cond.fieldLink own idx C (T k).2.1 (T k).2.2.1 ∈ lw_g ∧ zty ci k = ty ∧ (T k).2.2.2 = fin
def zkd : FieldType → Nat
  | .long => 1
  | .object _ => 2
  | .array _ => 2
  | _ => 0
theorem zfvI {w : zWo} {M : zMI} {L : zML} {R : zMR} {ty : FieldType} {o k : Nat} (h : zkd ty = 0) : zfv w M L R ty o k = .int (M o k) := by cases ty <;> simp [zkd] at h <;> rfl
theorem zfvL {w : zWo} {M : zMI} {L : zML} {R : zMR} {ty : FieldType} {o k : Nat} (h : zkd ty = 1) : zfv w M L R ty o k = .long (L o k) := by cases ty <;> simp [zkd] at h <;> rfl
theorem zfvR {w : zWo} {M : zMI} {L : zML} {R : zMR} {ty : FieldType} {o k v : Nat} (h : zkd ty = 2) (hv : R o k = some v) : zfv w M L R ty o k = .ref (w.1 + v) := by cases ty <;> simp [zkd] at h <;> simp [zfv, hv, va_rf]
theorem zfs_get {w : zWo} {M : zMI} {L : zML} {R : zMR} {ci o k : Nat} (h : k < zNN ci) : ((List.range (zNN ci)).map (fun k => zfv w M L R (zty ci k) o k))[k]? = some (zfv w M L R (zty ci k) o k) := by simp [List.getElem?_map, List.getElem?_range h]
theorem zfs_set {w : zWo} {M M' : zMI} {L L' : zML} {R R' : zMR} {ci o k : Nat} {v : Value} (hk : k < zNN ci) (h1 : zfv w M' L' R' (zty ci k) o k = v) (h2 : ∀ j, j ≠ k → zfv w M' L' R' (zty ci j) o j = zfv w M L R (zty ci j) o j) :
    ((List.range (zNN ci)).map (fun k => zfv w M L R (zty ci k) o k)).set k v = (List.range (zNN ci)).map (fun k => zfv w M' L' R' (zty ci k) o k) := by
  apply List.ext_getElem?
  intro i
  by_cases hi : i = k
  · subst hi
    rw [List.getElem?_set_self (by simpa using hk), zfs_get hk, h1]
  · rw [List.getElem?_set_ne (Ne.symm hi)]
    simp only [List.getElem?_map]
    cases h : (List.range (zNN ci))[i]? with
    | none => rfl
    | some j =>
      have : j = i := by
        have := List.getElem?_eq_some_iff.mp h
        obtain ⟨_, e⟩ := this
        simpa using e.symm
      subst this
      simp only [Option.map_some]
      rw [h2 j hi]
theorem zfv_congr {w : zWo} {M M' : zMI} {L L' : zML} {R R' : zMR} {ty : FieldType} {o k : Nat} (h1 : M' o k = M o k) (h2 : L' o k = L o k) (h3 : R' o k = R o k) : zfv w M' L' R' ty o k = zfv w M L R ty o k := by
  cases ty <;> simp [zfv, h1, h2, h3]
section
variable {w : zWo} {Y : zY} {B : zR} {G : zG} {E : Option zQ} {pc q : Nat} {loc loc' : List (Nat × Value)} {st : List Value} {S : List zSh} {M : zMI} {L : zML} {R : zMR}
theorem wp_getI {idx ci k o : Nat} {ty : FieldType} {fin : Bool} (hd : decode Y.2.1 pc = .ok (.getfield idx, 3)) (hF : zF Y.1 idx ci k ty fin) (ht : zkd ty = 0) (hs : S[o]? = some (.inr ci)) (hq : pc + 3 = q) (kk : WP w Y B G E q loc (.int (M o k) :: st) S M L R) : WP w Y B G E pc loc (.ref o :: st) S M L R := by
  subst hq
  obtain ⟨p, l, e, Rm, s, m, args, below, meth, c⟩ := G
  intro F h1 h2 H ls locs hP hS hl
  obtain ⟨hx, hb, hml, ho, hts, hlk, hrt, hK, hST, hsz, hfr, hlo, hce, hse, hin⟩ := id F
  obtain ⟨C, T, N, hc, hk, hlink, rfl, hfin⟩ := hF
  obtain ⟨z1, z2, z3, z4, z5⟩ := zC ci C T N hc
  refine va_get (D := (w.2.2.1, w.2.2.2.1)) (ci := ci) (v := .int (M o k)) (C := C) (T := T) (N := N) (ref := C) hx hb hts z1 ho hK.nil hP o (zws_get hs) hc k hk (hts _ hlink) (fun x h => by rw [z5 k hk] at h; exact h) ?_ hd (kk F h1 h2 H ls locs hP hS hl)
  rw [zfs_get (by omega), zfvI ht]
theorem wp_getL {idx ci k o : Nat} {ty : FieldType} {fin : Bool} (hd : decode Y.2.1 pc = .ok (.getfield idx, 3)) (hF : zF Y.1 idx ci k ty fin) (ht : zkd ty = 1) (hs : S[o]? = some (.inr ci)) (hq : pc + 3 = q) (kk : WP w Y B G E q loc (.long (L o k) :: st) S M L R) : WP w Y B G E pc loc (.ref o :: st) S M L R := by
  subst hq
  obtain ⟨p, l, e, Rm, s, m, args, below, meth, c⟩ := G
  intro F h1 h2 H ls locs hP hS hl
  obtain ⟨hx, hb, hml, ho, hts, hlk, hrt, hK, hST, hsz, hfr, hlo, hce, hse, hin⟩ := id F
  obtain ⟨C, T, N, hc, hk, hlink, rfl, hfin⟩ := hF
  obtain ⟨z1, z2, z3, z4, z5⟩ := zC ci C T N hc
  refine va_get (D := (w.2.2.1, w.2.2.2.1)) (ci := ci) (v := .long (L o k)) (C := C) (T := T) (N := N) (ref := C) hx hb hts z1 ho hK.nil hP o (zws_get hs) hc k hk (hts _ hlink) (fun x h => by rw [z5 k hk] at h; exact h) ?_ hd (kk F h1 h2 H ls locs hP hS hl)
  rw [zfs_get (by omega), zfvL ht]
theorem wp_getR {idx ci k o : Nat} {v : Nat} {ty : FieldType} {fin : Bool} (hd : decode Y.2.1 pc = .ok (.getfield idx, 3)) (hF : zF Y.1 idx ci k ty fin) (ht : zkd ty = 2) (hs : S[o]? = some (.inr ci)) (hv : R o k = some v) (hq : pc + 3 = q) (kk : WP w Y B G E q loc (.ref v :: st) S M L R) : WP w Y B G E pc loc (.ref o :: st) S M L R := by
  subst hq
  obtain ⟨p, l, e, Rm, s, m, args, below, meth, c⟩ := G
  intro F h1 h2 H ls locs hP hS hl
  obtain ⟨hx, hb, hml, ho, hts, hlk, hrt, hK, hST, hsz, hfr, hlo, hce, hse, hin⟩ := id F
  obtain ⟨C, T, N, hc, hk, hlink, rfl, hfin⟩ := hF
  obtain ⟨z1, z2, z3, z4, z5⟩ := zC ci C T N hc
  refine va_get (D := (w.2.2.1, w.2.2.2.1)) (ci := ci) (v := .ref (w.1 + v)) (C := C) (T := T) (N := N) (ref := C) hx hb hts z1 ho hK.nil hP o (zws_get hs) hc k hk (hts _ hlink) (fun x h => by rw [z5 k hk] at h; exact h) ?_ hd (kk F h1 h2 H ls locs hP hS hl)
  rw [zfs_get (by omega), zfvR ht hv]
theorem wp_putI {idx ci k o : Nat} {x : Int32} {ty : FieldType} (hd : decode Y.2.1 pc = .ok (.putfield idx, 3)) (hF : zF Y.1 idx ci k ty false) (ht : ty = .int) (hs : S[o]? = some (.inr ci)) (hq : pc + 3 = q) (kk : WP w Y B G E q loc st S (zu M o k x) L R) : WP w Y B G E pc loc (.int x :: .ref o :: st) S M L R := by
  subst hq
  obtain ⟨p, l, e, Rm, s, m, args, below, meth, c⟩ := G
  intro F h1 h2 H ls locs hP hS hl
  obtain ⟨hx, hb, hml, ho, hts, hlk, hrt, hK, hST, hsz, hfr, hlo, hce, hse, hin⟩ := id F
  obtain ⟨C, T, N, hc, hk, hlink, hty0, hfin⟩ := hF
  obtain ⟨z1, z2, z3, z4, z5⟩ := zC ci C T N hc
  have hty : zty ci k = .int := hty0.trans ht
  refine va_put (D := (w.2.2.1, w.2.2.2.1)) (A := zB w) (ci := ci) (v := .int x) (ty := .int) (C := C) (T := T) (N := N) (ref := C) hx hb hts z1 (zty ci) z2 z3 ho hK.nil hP zws_D hS o (zws_get hs) hc k hk (hts _ hlink) (fun x h => by rw [z5 k hk] at h; exact h) hfin (by rw [z2 k hk, hty]) rfl rfl (by simpa using (show k < zNN ci by omega)) hd (fun H1 locs1 hP1 hD1 hS1 => ?_)
  rw [zws_set hs (e := .inr (ci, ((List.range (zNN ci)).map (fun k => zfv w M L R (zty ci k) o k)).set k (.int x))) (congrArg (fun z => Sum.inr (ci, z)) (zfs_set (by omega) (by rw [zfvI (by rw [hty]; rfl), zu_s]) (fun j hj => zfv_congr (zu_k hj) rfl rfl))) (fun o' ho => ⟨zu_ne ho, rfl, rfl⟩)] at hP1
  exact kk F h1 h2 H1 ls locs1 hP1 hS1 hl
theorem wp_putIF {idx ci k o : Nat} {x : Int32} {ty : FieldType} (hd : decode Y.2.1 pc = .ok (.putfield idx, 3)) (hF : zF Y.1 idx ci k ty true) (ht : ty = .int) (hs : S[o]? = some (.inr ci)) (hi : Y.2.2.2.2 = true) (hC : Option.map (fun z : vw_C => z.1) vwCl[ci]? = some Y.1) (hq : pc + 3 = q) (kk : WP w Y B G E q loc st S (zu M o k x) L R) : WP w Y B G E pc loc (.int x :: .ref o :: st) S M L R := by
  subst hq
  obtain ⟨p, l, e, Rm, s, m, args, below, meth, c⟩ := G
  intro F h1 h2 H ls locs hP hS hl
  obtain ⟨hx, hb, hml, ho, hts, hlk, hrt, hK, hST, hsz, hfr, hlo, hce, hse, hin⟩ := id F
  obtain ⟨C, T, N, hc, hk, hlink, hty0, hfin⟩ := hF
  obtain ⟨z1, z2, z3, z4, z5⟩ := zC ci C T N hc
  have hty : zty ci k = .int := hty0.trans ht
  have hCC : (T k).1 = Y.1 := by
    rw [hc] at hC
    rw [z5 k hk]
    exact Option.some.inj hC
  refine va_putF (D := (w.2.2.1, w.2.2.2.1)) (A := zB w) (ci := ci) (v := .int x) (ty := .int) (C := C) (T := T) (N := N) (ref := C) hx hb hts z1 (zty ci) z2 z3 ho hK.nil hP zws_D hS o (zws_get hs) hc k hk (hts _ hlink) (fun x h => by rw [z5 k hk] at h; exact h) hfin (hin hi) hCC (by rw [z2 k hk, hty]) rfl rfl (by simpa using (show k < zNN ci by omega)) hd (fun H1 locs1 hP1 hD1 hS1 => ?_)
  rw [zws_set hs (e := .inr (ci, ((List.range (zNN ci)).map (fun k => zfv w M L R (zty ci k) o k)).set k (.int x))) (congrArg (fun z => Sum.inr (ci, z)) (zfs_set (by omega) (by rw [zfvI (by rw [hty]; rfl), zu_s]) (fun j hj => zfv_congr (zu_k hj) rfl rfl))) (fun o' ho => ⟨zu_ne ho, rfl, rfl⟩)] at hP1
  exact kk F h1 h2 H1 ls locs1 hP1 hS1 hl
theorem wp_putZ {idx ci k o : Nat} {x : Int32} {ty : FieldType} (hd : decode Y.2.1 pc = .ok (.putfield idx, 3)) (hF : zF Y.1 idx ci k ty false) (ht : ty = .boolean) (hx01 : x = 0 ∨ x = 1) (hs : S[o]? = some (.inr ci)) (hq : pc + 3 = q) (kk : WP w Y B G E q loc st S (zu M o k x) L R) : WP w Y B G E pc loc (.int x :: .ref o :: st) S M L R := by
  subst hq
  obtain ⟨p, l, e, Rm, s, m, args, below, meth, c⟩ := G
  intro F h1 h2 H ls locs hP hS hl
  obtain ⟨hx, hb, hml, ho, hts, hlk, hrt, hK, hST, hsz, hfr, hlo, hce, hse, hin⟩ := id F
  obtain ⟨C, T, N, hc, hk, hlink, hty0, hfin⟩ := hF
  obtain ⟨z1, z2, z3, z4, z5⟩ := zC ci C T N hc
  have hty : zty ci k = .boolean := hty0.trans ht
  refine va_put (D := (w.2.2.1, w.2.2.2.1)) (A := zB w) (ci := ci) (v := .int x) (ty := .boolean) (C := C) (T := T) (N := N) (ref := C) hx hb hts z1 (zty ci) z2 z3 ho hK.nil hP zws_D hS o (zws_get hs) hc k hk (hts _ hlink) (fun x h => by rw [z5 k hk] at h; exact h) hfin (by rw [z2 k hk, hty]) (by rcases hx01 with rfl | rfl <;> rfl) (by rcases hx01 with rfl | rfl <;> rfl) (by simpa using (show k < zNN ci by omega)) hd (fun H1 locs1 hP1 hD1 hS1 => ?_)
  rw [zws_set hs (e := .inr (ci, ((List.range (zNN ci)).map (fun k => zfv w M L R (zty ci k) o k)).set k (.int x))) (congrArg (fun z => Sum.inr (ci, z)) (zfs_set (by omega) (by rw [zfvI (by rw [hty]; rfl), zu_s]) (fun j hj => zfv_congr (zu_k hj) rfl rfl))) (fun o' ho => ⟨zu_ne ho, rfl, rfl⟩)] at hP1
  exact kk F h1 h2 H1 ls locs1 hP1 hS1 hl
theorem wp_putZF {idx ci k o : Nat} {x : Int32} {ty : FieldType} (hd : decode Y.2.1 pc = .ok (.putfield idx, 3)) (hF : zF Y.1 idx ci k ty true) (ht : ty = .boolean) (hx01 : x = 0 ∨ x = 1) (hs : S[o]? = some (.inr ci)) (hi : Y.2.2.2.2 = true) (hC : Option.map (fun z : vw_C => z.1) vwCl[ci]? = some Y.1) (hq : pc + 3 = q) (kk : WP w Y B G E q loc st S (zu M o k x) L R) : WP w Y B G E pc loc (.int x :: .ref o :: st) S M L R := by
  subst hq
  obtain ⟨p, l, e, Rm, s, m, args, below, meth, c⟩ := G
  intro F h1 h2 H ls locs hP hS hl
  obtain ⟨hx, hb, hml, ho, hts, hlk, hrt, hK, hST, hsz, hfr, hlo, hce, hse, hin⟩ := id F
  obtain ⟨C, T, N, hc, hk, hlink, hty0, hfin⟩ := hF
  obtain ⟨z1, z2, z3, z4, z5⟩ := zC ci C T N hc
  have hty : zty ci k = .boolean := hty0.trans ht
  have hCC : (T k).1 = Y.1 := by
    rw [hc] at hC
    rw [z5 k hk]
    exact Option.some.inj hC
  refine va_putF (D := (w.2.2.1, w.2.2.2.1)) (A := zB w) (ci := ci) (v := .int x) (ty := .boolean) (C := C) (T := T) (N := N) (ref := C) hx hb hts z1 (zty ci) z2 z3 ho hK.nil hP zws_D hS o (zws_get hs) hc k hk (hts _ hlink) (fun x h => by rw [z5 k hk] at h; exact h) hfin (hin hi) hCC (by rw [z2 k hk, hty]) (by rcases hx01 with rfl | rfl <;> rfl) (by rcases hx01 with rfl | rfl <;> rfl) (by simpa using (show k < zNN ci by omega)) hd (fun H1 locs1 hP1 hD1 hS1 => ?_)
  rw [zws_set hs (e := .inr (ci, ((List.range (zNN ci)).map (fun k => zfv w M L R (zty ci k) o k)).set k (.int x))) (congrArg (fun z => Sum.inr (ci, z)) (zfs_set (by omega) (by rw [zfvI (by rw [hty]; rfl), zu_s]) (fun j hj => zfv_congr (zu_k hj) rfl rfl))) (fun o' ho => ⟨zu_ne ho, rfl, rfl⟩)] at hP1
  exact kk F h1 h2 H1 ls locs1 hP1 hS1 hl
theorem wp_putL {idx ci k o : Nat} {x : Int64} {ty : FieldType} (hd : decode Y.2.1 pc = .ok (.putfield idx, 3)) (hF : zF Y.1 idx ci k ty false) (ht : ty = .long) (hs : S[o]? = some (.inr ci)) (hq : pc + 3 = q) (kk : WP w Y B G E q loc st S M (zu L o k x) R) : WP w Y B G E pc loc (.long x :: .ref o :: st) S M L R := by
  subst hq
  obtain ⟨p, l, e, Rm, s, m, args, below, meth, c⟩ := G
  intro F h1 h2 H ls locs hP hS hl
  obtain ⟨hx, hb, hml, ho, hts, hlk, hrt, hK, hST, hsz, hfr, hlo, hce, hse, hin⟩ := id F
  obtain ⟨C, T, N, hc, hk, hlink, hty0, hfin⟩ := hF
  obtain ⟨z1, z2, z3, z4, z5⟩ := zC ci C T N hc
  have hty : zty ci k = .long := hty0.trans ht
  refine va_put (D := (w.2.2.1, w.2.2.2.1)) (A := zB w) (ci := ci) (v := .long x) (ty := .long) (C := C) (T := T) (N := N) (ref := C) hx hb hts z1 (zty ci) z2 z3 ho hK.nil hP zws_D hS o (zws_get hs) hc k hk (hts _ hlink) (fun x h => by rw [z5 k hk] at h; exact h) hfin (by rw [z2 k hk, hty]) rfl rfl (by simpa using (show k < zNN ci by omega)) hd (fun H1 locs1 hP1 hD1 hS1 => ?_)
  rw [zws_set hs (e := .inr (ci, ((List.range (zNN ci)).map (fun k => zfv w M L R (zty ci k) o k)).set k (.long x))) (congrArg (fun z => Sum.inr (ci, z)) (zfs_set (by omega) (by rw [zfvL (by rw [hty]; rfl), zu_s]) (fun j hj => zfv_congr rfl (zu_k hj) rfl))) (fun o' ho => ⟨rfl, zu_ne ho, rfl⟩)] at hP1
  exact kk F h1 h2 H1 ls locs1 hP1 hS1 hl
theorem wp_putLF {idx ci k o : Nat} {x : Int64} {ty : FieldType} (hd : decode Y.2.1 pc = .ok (.putfield idx, 3)) (hF : zF Y.1 idx ci k ty true) (ht : ty = .long) (hs : S[o]? = some (.inr ci)) (hi : Y.2.2.2.2 = true) (hC : Option.map (fun z : vw_C => z.1) vwCl[ci]? = some Y.1) (hq : pc + 3 = q) (kk : WP w Y B G E q loc st S M (zu L o k x) R) : WP w Y B G E pc loc (.long x :: .ref o :: st) S M L R := by
  subst hq
  obtain ⟨p, l, e, Rm, s, m, args, below, meth, c⟩ := G
  intro F h1 h2 H ls locs hP hS hl
  obtain ⟨hx, hb, hml, ho, hts, hlk, hrt, hK, hST, hsz, hfr, hlo, hce, hse, hin⟩ := id F
  obtain ⟨C, T, N, hc, hk, hlink, hty0, hfin⟩ := hF
  obtain ⟨z1, z2, z3, z4, z5⟩ := zC ci C T N hc
  have hty : zty ci k = .long := hty0.trans ht
  have hCC : (T k).1 = Y.1 := by
    rw [hc] at hC
    rw [z5 k hk]
    exact Option.some.inj hC
  refine va_putF (D := (w.2.2.1, w.2.2.2.1)) (A := zB w) (ci := ci) (v := .long x) (ty := .long) (C := C) (T := T) (N := N) (ref := C) hx hb hts z1 (zty ci) z2 z3 ho hK.nil hP zws_D hS o (zws_get hs) hc k hk (hts _ hlink) (fun x h => by rw [z5 k hk] at h; exact h) hfin (hin hi) hCC (by rw [z2 k hk, hty]) rfl rfl (by simpa using (show k < zNN ci by omega)) hd (fun H1 locs1 hP1 hD1 hS1 => ?_)
  rw [zws_set hs (e := .inr (ci, ((List.range (zNN ci)).map (fun k => zfv w M L R (zty ci k) o k)).set k (.long x))) (congrArg (fun z => Sum.inr (ci, z)) (zfs_set (by omega) (by rw [zfvL (by rw [hty]; rfl), zu_s]) (fun j hj => zfv_congr rfl (zu_k hj) rfl))) (fun o' ho => ⟨rfl, zu_ne ho, rfl⟩)] at hP1
  exact kk F h1 h2 H1 ls locs1 hP1 hS1 hl
theorem wp_putR {idx ci k o : Nat} {x : Nat} {ty : FieldType} (hd : decode Y.2.1 pc = .ok (.putfield idx, 3)) (hF : zF Y.1 idx ci k ty false) (ht : zkd ty = 2) (hs : S[o]? = some (.inr ci)) (hq : pc + 3 = q) (kk : WP w Y B G E q loc st S M L (zu R o k (some x))) : WP w Y B G E pc loc (.ref x :: .ref o :: st) S M L R := by
  subst hq
  obtain ⟨p, l, e, Rm, s, m, args, below, meth, c⟩ := G
  intro F h1 h2 H ls locs hP hS hl
  obtain ⟨hx, hb, hml, ho, hts, hlk, hrt, hK, hST, hsz, hfr, hlo, hce, hse, hin⟩ := id F
  obtain ⟨C, T, N, hc, hk, hlink, hty0, hfin⟩ := hF
  obtain ⟨z1, z2, z3, z4, z5⟩ := zC ci C T N hc
  subst hty0
  refine va_put (D := (w.2.2.1, w.2.2.2.1)) (A := zB w) (ci := ci) (v := .ref (w.1 + x)) (ty := (zty ci k)) (C := C) (T := T) (N := N) (ref := C) hx hb hts z1 (zty ci) z2 z3 ho hK.nil hP zws_D hS o (zws_get hs) hc k hk (hts _ hlink) (fun x h => by rw [z5 k hk] at h; exact h) hfin (z2 k hk) (by cases hty : zty ci k <;> rw [hty] at ht <;> simp [zkd] at ht <;> rfl) (by cases hty : zty ci k <;> rw [hty] at ht <;> simp [zkd] at ht <;> rfl) (by simpa using (show k < zNN ci by omega)) hd (fun H1 locs1 hP1 hD1 hS1 => ?_)
  rw [zws_set hs (e := .inr (ci, ((List.range (zNN ci)).map (fun k => zfv w M L R (zty ci k) o k)).set k (.ref (w.1 + x)))) (congrArg (fun z => Sum.inr (ci, z)) (zfs_set (by omega) (zfvR ht (by rw [zu_s])) (fun j hj => zfv_congr rfl rfl (zu_k hj)))) (fun o' ho => ⟨rfl, rfl, zu_ne ho⟩)] at hP1
  exact kk F h1 h2 H1 ls locs1 hP1 hS1 hl
theorem wp_putRF {idx ci k o : Nat} {x : Nat} {ty : FieldType} (hd : decode Y.2.1 pc = .ok (.putfield idx, 3)) (hF : zF Y.1 idx ci k ty true) (ht : zkd ty = 2) (hs : S[o]? = some (.inr ci)) (hi : Y.2.2.2.2 = true) (hC : Option.map (fun z : vw_C => z.1) vwCl[ci]? = some Y.1) (hq : pc + 3 = q) (kk : WP w Y B G E q loc st S M L (zu R o k (some x))) : WP w Y B G E pc loc (.ref x :: .ref o :: st) S M L R := by
  subst hq
  obtain ⟨p, l, e, Rm, s, m, args, below, meth, c⟩ := G
  intro F h1 h2 H ls locs hP hS hl
  obtain ⟨hx, hb, hml, ho, hts, hlk, hrt, hK, hST, hsz, hfr, hlo, hce, hse, hin⟩ := id F
  obtain ⟨C, T, N, hc, hk, hlink, hty0, hfin⟩ := hF
  obtain ⟨z1, z2, z3, z4, z5⟩ := zC ci C T N hc
  subst hty0
  have hCC : (T k).1 = Y.1 := by
    rw [hc] at hC
    rw [z5 k hk]
    exact Option.some.inj hC
  refine va_putF (D := (w.2.2.1, w.2.2.2.1)) (A := zB w) (ci := ci) (v := .ref (w.1 + x)) (ty := (zty ci k)) (C := C) (T := T) (N := N) (ref := C) hx hb hts z1 (zty ci) z2 z3 ho hK.nil hP zws_D hS o (zws_get hs) hc k hk (hts _ hlink) (fun x h => by rw [z5 k hk] at h; exact h) hfin (hin hi) hCC (z2 k hk) (by cases hty : zty ci k <;> rw [hty] at ht <;> simp [zkd] at ht <;> rfl) (by cases hty : zty ci k <;> rw [hty] at ht <;> simp [zkd] at ht <;> rfl) (by simpa using (show k < zNN ci by omega)) hd (fun H1 locs1 hP1 hD1 hS1 => ?_)
  rw [zws_set hs (e := .inr (ci, ((List.range (zNN ci)).map (fun k => zfv w M L R (zty ci k) o k)).set k (.ref (w.1 + x)))) (congrArg (fun z => Sum.inr (ci, z)) (zfs_set (by omega) (zfvR ht (by rw [zu_s])) (fun j hj => zfv_congr rfl rfl (zu_k hj)))) (fun o' ho => ⟨rfl, rfl, zu_ne ho⟩)] at hP1
  exact kk F h1 h2 H1 ls locs1 hP1 hS1 hl
theorem zvp {i : Int32} {n j : Nat} (hi : i = nI j) (hj : j < n) (hn : n < 2 ^ 31) : vp_in i n ∧ i.toNatClampNeg = j := by
  subst hi
  exact ⟨vp_in_nI hj hn, nI_clamp (by omega)⟩
theorem wp_iald {o n : Nat} {i : Int32} (j : Nat) (hd : decode Y.2.1 pc = .ok (.iaload, 1)) (hs : S[o]? = some (.inl (n, .int))) (hi : i = nI j) (hj : j < n) (hn : n < 2 ^ 31) (hq : pc + 1 = q) (kk : WP w Y B G E q loc (.int (M o j) :: st) S M L R) : WP w Y B G E pc loc (.int i :: .ref o :: st) S M L R := by
  subst hq
  obtain ⟨p, l, e, Rm, s, m, args, below, meth, c⟩ := G
  intro F h1 h2 H ls locs hP hS hl
  obtain ⟨hx, hb, hml, ho, hts, hlk, hrt, hK, hST, hsz, hfr, hlo, hce, hse, hin⟩ := id F
  obtain ⟨v1, v2⟩ := zvp hi hj hn
  refine va_iald (D := (w.2.2.1, w.2.2.2.1)) hx hb (hK.va (ty := .int) (by simp [zTys])) hP o 0 (zws_get hs) rfl v1 hd ?_
  rw [v2]
  exact kk F h1 h2 H ls locs hP hS hl
theorem wp_lald {o n : Nat} {i : Int32} (j : Nat) (hd : decode Y.2.1 pc = .ok (.laload, 1)) (hs : S[o]? = some (.inl (n, .long))) (hi : i = nI j) (hj : j < n) (hn : n < 2 ^ 31) (hq : pc + 1 = q) (kk : WP w Y B G E q loc (.long (L o j) :: st) S M L R) : WP w Y B G E pc loc (.int i :: .ref o :: st) S M L R := by
  subst hq
  obtain ⟨p, l, e, Rm, s, m, args, below, meth, c⟩ := G
  intro F h1 h2 H ls locs hP hS hl
  obtain ⟨hx, hb, hml, ho, hts, hlk, hrt, hK, hST, hsz, hfr, hlo, hce, hse, hin⟩ := id F
  obtain ⟨v1, v2⟩ := zvp hi hj hn
  refine va_lald (D := (w.2.2.1, w.2.2.2.1)) hx hb (hK.va (ty := .long) (by simp [zTys])) hP o 0 (zws_get hs) rfl v1 hd ?_
  rw [v2]
  exact kk F h1 h2 H ls locs hP hS hl
theorem wp_cald {o n : Nat} {i : Int32} (j : Nat) (hd : decode Y.2.1 pc = .ok (.caload, 1)) (hs : S[o]? = some (.inl (n, .char))) (hi : i = nI j) (hj : j < n) (hn : n < 2 ^ 31) (hq : pc + 1 = q) (kk : WP w Y B G E q loc (.int (M o j) :: st) S M L R) : WP w Y B G E pc loc (.int i :: .ref o :: st) S M L R := by
  subst hq
  obtain ⟨p, l, e, Rm, s, m, args, below, meth, c⟩ := G
  intro F h1 h2 H ls locs hP hS hl
  obtain ⟨hx, hb, hml, ho, hts, hlk, hrt, hK, hST, hsz, hfr, hlo, hce, hse, hin⟩ := id F
  obtain ⟨v1, v2⟩ := zvp hi hj hn
  refine va_cald (D := (w.2.2.1, w.2.2.2.1)) hx hb (hK.va (ty := .char) (by simp [zTys])) hP o 0 (zws_get hs) rfl v1 hd ?_
  rw [v2]
  exact kk F h1 h2 H ls locs hP hS hl
theorem wp_iast {o n : Nat} {i : Int32} {x : Int32} (j : Nat) (hd : decode Y.2.1 pc = .ok (.iastore, 1)) (hs : S[o]? = some (.inl (n, .int))) (hi : i = nI j) (hj : j < n) (hn : n < 2 ^ 31) (hq : pc + 1 = q) (kk : WP w Y B G E q loc st S (zu M o j x) L R) : WP w Y B G E pc loc (.int x :: .int i :: .ref o :: st) S M L R := by
  subst hq
  obtain ⟨p, l, e, Rm, s, m, args, below, meth, c⟩ := G
  intro F h1 h2 H ls locs hP hS hl
  obtain ⟨hx, hb, hml, ho, hts, hlk, hrt, hK, hST, hsz, hfr, hlo, hce, hse, hin⟩ := id F
  obtain ⟨v1, v2⟩ := zvp hi hj hn
  refine va_iast (D := (w.2.2.1, w.2.2.2.1)) (A := zB w) hx hb (hK.va (ty := .int) (by simp [zTys])) hP zws_D hS o 0 (zws_get hs) rfl v1 hd (fun H1 locs1 hP1 hD1 hS1 => ?_)
  rw [v2] at hP1
  rw [zws_set hs (e := .inl (w.2.2.2.2 .int, n, .inl (upd (M o) j x))) (by simp only [zcell, zu_o]; rfl) (fun o' ho => ⟨zu_ne ho, rfl, rfl⟩)] at hP1
  exact kk F h1 h2 H1 ls locs1 hP1 hS1 hl
theorem wp_last {o n : Nat} {i : Int32} {x : Int64} (j : Nat) (hd : decode Y.2.1 pc = .ok (.lastore, 1)) (hs : S[o]? = some (.inl (n, .long))) (hi : i = nI j) (hj : j < n) (hn : n < 2 ^ 31) (hq : pc + 1 = q) (kk : WP w Y B G E q loc st S M (zu L o j x) R) : WP w Y B G E pc loc (.long x :: .int i :: .ref o :: st) S M L R := by
  subst hq
  obtain ⟨p, l, e, Rm, s, m, args, below, meth, c⟩ := G
  intro F h1 h2 H ls locs hP hS hl
  obtain ⟨hx, hb, hml, ho, hts, hlk, hrt, hK, hST, hsz, hfr, hlo, hce, hse, hin⟩ := id F
  obtain ⟨v1, v2⟩ := zvp hi hj hn
  refine va_last (D := (w.2.2.1, w.2.2.2.1)) (A := zB w) hx hb (hK.va (ty := .long) (by simp [zTys])) hP zws_D hS o 0 (zws_get hs) rfl v1 hd (fun H1 locs1 hP1 hD1 hS1 => ?_)
  rw [v2] at hP1
  rw [zws_set hs (e := .inl (w.2.2.2.2 .long, n, .inr (.inl (vp_updL (L o) j x)))) (by simp only [zcell, zu_o]; rfl) (fun o' ho => ⟨rfl, zu_ne ho, rfl⟩)] at hP1
  exact kk F h1 h2 H1 ls locs1 hP1 hS1 hl
theorem wp_cast {o n : Nat} {i : Int32} {x : Int32} (j : Nat) (hd : decode Y.2.1 pc = .ok (.castore, 1)) (hs : S[o]? = some (.inl (n, .char))) (hi : i = nI j) (hj : j < n) (hn : n < 2 ^ 31) (hq : pc + 1 = q) (kk : WP w Y B G E q loc st S (zu M o j (vp_nar .char x)) L R) : WP w Y B G E pc loc (.int x :: .int i :: .ref o :: st) S M L R := by
  subst hq
  obtain ⟨p, l, e, Rm, s, m, args, below, meth, c⟩ := G
  intro F h1 h2 H ls locs hP hS hl
  obtain ⟨hx, hb, hml, ho, hts, hlk, hrt, hK, hST, hsz, hfr, hlo, hce, hse, hin⟩ := id F
  obtain ⟨v1, v2⟩ := zvp hi hj hn
  refine va_cast (D := (w.2.2.1, w.2.2.2.1)) (A := zB w) hx hb (hK.va (ty := .char) (by simp [zTys])) hP zws_D hS o 0 (zws_get hs) rfl v1 hd (fun H1 locs1 hP1 hD1 hS1 => ?_)
  rw [v2] at hP1
  rw [zws_set hs (e := .inl (w.2.2.2.2 .char, n, .inl (upd (M o) j (vp_nar .char x)))) (by simp only [zcell, zu_o]; rfl) (fun o' ho => ⟨zu_ne ho, rfl, rfl⟩)] at hP1
  exact kk F h1 h2 H1 ls locs1 hP1 hS1 hl
theorem wp_aald {o n v : Nat} {C : String} {i : Int32} (j : Nat) (hd : decode Y.2.1 pc = .ok (.aaload, 1)) (hs : S[o]? = some (.inl (n, .object C))) (hC : FieldType.object C ∈ zTys) (hi : i = nI j) (hj : j < n) (hn : n < 2 ^ 31) (hv : R o j = some v) (hq : pc + 1 = q) (kk : WP w Y B G E q loc (.ref v :: st) S M L R) : WP w Y B G E pc loc (.int i :: .ref o :: st) S M L R := by
  subst hq
  obtain ⟨p, l, e, Rm, s, m, args, below, meth, c⟩ := G
  intro F h1 h2 H ls locs hP hS hl
  obtain ⟨hx, hb, hml, ho, hts, hlk, hrt, hK, hST, hsz, hfr, hlo, hce, hse, hin⟩ := id F
  obtain ⟨v1, v2⟩ := zvp hi hj hn
  refine va_aldq (D := (w.2.2.1, w.2.2.2.1)) (C := C) hx hb (hK.va hC) hP o 0 (zws_get hs) rfl v1 hd ?_
  rw [v2, hv]
  exact kk F h1 h2 H ls locs hP hS hl
theorem wp_aast {o n v ci : Nat} {r : vw_C} {i : Int32} (j : Nat) (hd : decode Y.2.1 pc = .ok (.aastore, 1)) (hs : S[o]? = some (.inl (n, .object r.1))) (hC : FieldType.object r.1 ∈ zTys) (hi : i = nI j) (hj : j < n) (hn : n < 2 ^ 31) (hv : S[v]? = some (.inr ci)) (hc : vwCl[ci]? = some r) (hq : pc + 1 = q) (kk : WP w Y B G E q loc st S M L (zu R o j (some v))) : WP w Y B G E pc loc (.ref v :: .int i :: .ref o :: st) S M L R := by
  subst hq
  obtain ⟨p, l, e, Rm, s, m, args, below, meth, c⟩ := G
  intro F h1 h2 H ls locs hP hS hl
  obtain ⟨hx, hb, hml, ho, hts, hlk, hrt, hK, hST, hsz, hfr, hlo, hce, hse, hin⟩ := id F
  obtain ⟨v1, v2⟩ := zvp hi hj hn
  refine va_astq (D := (w.2.2.1, w.2.2.2.1)) (A := zB w) hx hb (hK.va hC) hP zws_D hS o 0 v ci (zws_get hs) rfl (zws_get hv) hc v1 hd (fun H1 locs1 hP1 hD1 hS1 => ?_)
  rw [v2] at hP1
  rw [zws_set hs (M' := M) (L' := L) (R' := zu R o j (some v)) ?_ (fun o' ho => ⟨rfl, rfl, zu_ne ho⟩)] at hP1
  · exact kk F h1 h2 H1 ls locs1 hP1 hS1 hl
  · simp only [zcell, zu_o]
    congr 7
    funext k
    by_cases hk : k = j <;> simp [va_up, hk]
theorem wp_alen {o n : Nat} {ty : FieldType} (hd : decode Y.2.1 pc = .ok (.arraylength, 1)) (hs : S[o]? = some (.inl (n, ty))) (hC : ty ∈ zTys) (hq : pc + 1 = q) (kk : WP w Y B G E q loc (.int (nI n) :: st) S M L R) : WP w Y B G E pc loc (.ref o :: st) S M L R := by
  subst hq
  obtain ⟨p, l, e, Rm, s, m, args, below, meth, c⟩ := G
  intro F h1 h2 H ls locs hP hS hl
  obtain ⟨hx, hb, hml, ho, hts, hlk, hrt, hK, hST, hsz, hfr, hlo, hce, hse, hin⟩ := id F
  obtain ⟨x, hx1, hx2⟩ : ∃ x : vp_A, zcell w M L R o (.inl (n, ty)) = .inl (w.2.2.2.2 ty, x) ∧ x.1 = n := by
    cases ty <;> exact ⟨_, rfl, rfl⟩
  have hg := zws_get (w := w) (M := M) (L := L) (R := R) hs
  rw [hx1] at hg
  exact va_alen (D := (w.2.2.1, w.2.2.2.1)) hx hb (hK.va hC) hP o 0 hg rfl (v := nI n) (by rw [hx2]; rfl) hd (kk F h1 h2 H ls locs hP hS hl)
theorem wp_ireturn {Q : zQ} {v : Int32} (hd : decode Y.2.1 pc = .ok (.ireturn, 1)) (ht : Y.2.2.2.1 = some .int) (hQ : Q (some (.int v)) S M L R) (hl' : S.length = B.2.1.length + B.2.2.1) (hz : zsl S = zsl B.2.1 + B.2.2.2) : WP w Y B G (some Q) pc loc [.int v] S M L R := by
  obtain ⟨p, l, e, Rm, s, m, args, below, meth, c⟩ := G
  intro F h1 h2 H ls locs hP hS hl
  obtain ⟨hx, hb, hml, ho, hts, hlk, hrt, hK, hST, hsz, hfr, hlo, hce, hse, hin⟩ := id F
  refine W.widen (k := B.2.2.1) (n := B.2.2.2) (by omega) (by omega) ?_
  exact W.iret hx hb (hrt.trans ht) (fun t ht hW => ⟨⟨some (.int v), S, M, L, R, rfl, hQ, hl', hz, by rw [ht]; exact hP⟩, hS.F ht⟩) hS.2.2 hd hlk
theorem wp_zreturn {Q : zQ} {v : Int32} {ty : FieldType} (hd : decode Y.2.1 pc = .ok (.ireturn, 1)) (ht : Y.2.2.2.1 = some ty) (hn : narrow ty (.int v) = .int v) (hQ : Q (some (.int v)) S M L R) (hl' : S.length = B.2.1.length + B.2.2.1) (hz : zsl S = zsl B.2.1 + B.2.2.2) : WP w Y B G (some Q) pc loc [.int v] S M L R := by
  obtain ⟨p, l, e, Rm, s, m, args, below, meth, c⟩ := G
  intro F h1 h2 H ls locs hP hS hl
  obtain ⟨hx, hb, hml, ho, hts, hlk, hrt, hK, hST, hsz, hfr, hlo, hce, hse, hin⟩ := id F
  refine W.widen (k := B.2.2.1) (n := B.2.2.2) (by omega) (by omega) ?_
  exact W.zret hx hb (hrt.trans ht) hn (fun t ht hW => ⟨⟨some (.int v), S, M, L, R, rfl, hQ, hl', hz, by rw [ht]; exact hP⟩, hS.F ht⟩) hS.2.2 hd hlk
theorem wp_lreturn {Q : zQ} {v : Int64} (hd : decode Y.2.1 pc = .ok (.lreturn, 1)) (ht : Y.2.2.2.1 = some .long) (hQ : Q (some (.long v)) S M L R) (hl' : S.length = B.2.1.length + B.2.2.1) (hz : zsl S = zsl B.2.1 + B.2.2.2) : WP w Y B G (some Q) pc loc [.long v] S M L R := by
  obtain ⟨p, l, e, Rm, s, m, args, below, meth, c⟩ := G
  intro F h1 h2 H ls locs hP hS hl
  obtain ⟨hx, hb, hml, ho, hts, hlk, hrt, hK, hST, hsz, hfr, hlo, hce, hse, hin⟩ := id F
  refine W.widen (k := B.2.2.1) (n := B.2.2.2) (by omega) (by omega) ?_
  exact W.lret hx hb (hrt.trans ht) (fun t ht hW => ⟨⟨some (.long v), S, M, L, R, rfl, hQ, hl', hz, by rw [ht]; exact hP⟩, hS.F ht⟩) hS.2.2 hd hlk
theorem wp_return {Q : zQ} (hd : decode Y.2.1 pc = .ok (.return_, 1)) (ht : Y.2.2.2.1 = none) (hQ : Q none S M L R) (hl' : S.length = B.2.1.length + B.2.2.1) (hz : zsl S = zsl B.2.1 + B.2.2.2) : WP w Y B G (some Q) pc loc [] S M L R := by
  obtain ⟨p, l, e, Rm, s, m, args, below, meth, c⟩ := G
  intro F h1 h2 H ls locs hP hS hl
  obtain ⟨hx, hb, hml, ho, hts, hlk, hrt, hK, hST, hsz, hfr, hlo, hce, hse, hin⟩ := id F
  refine W.widen (k := B.2.2.1) (n := B.2.2.2) (by omega) (by omega) ?_
  exact W.vret hx hb (hrt.trans ht) (fun t ht hW => ⟨⟨none, S, M, L, R, rfl, hQ, hl', hz, by rw [ht]; exact hP⟩, hS.F ht⟩) hS.2.2 hd hlk
end
