def SS : List zSh := [.inr 11, .inl (1600, .int), .inr 10, .inl (1601, .int), .inl (1601, .int), .inl (1601, .int), .inl (1601, .int), .inl (1601, .int), .inl (30, .int), .inr 8, .inr 9, .inl (8, .int), .inl (16, .int), .inl (16, .int), .inl (16, .int), .inl (8, .int), .inl (4, .int), .inl (4, .int), .inr 0, .inl (1600, .int), .inl (64, .int), .inr 0, .inl (1600, .int), .inl (64, .int), .inr 9, .inl (8, .int), .inl (16, .int), .inl (16, .int), .inl (16, .int), .inl (8, .int), .inl (4, .int), .inl (4, .int), .inr 0, .inl (1600, .int), .inl (64, .int), .inr 0, .inl (1600, .int), .inl (64, .int), .inr 5, .inr 0, .inl (1600, .int), .inl (64, .int), .inl (9, .int), .inr 7, .inl (8, .int), .inl (8, .int), .inl (16, .int), .inl (16, .int), .inr 2, .inl (20, .object "CrackerRing$State"), .inr 7, .inl (8, .int), .inl (8, .int), .inl (16, .int), .inl (16, .int), .inr 7, .inl (8, .int), .inl (8, .int), .inl (16, .int), .inl (16, .int), .inr 7, .inl (8, .int), .inl (8, .int), .inl (16, .int), .inl (16, .int), .inr 7, .inl (8, .int), .inl (8, .int), .inl (16, .int), .inl (16, .int), .inr 7, .inl (8, .int), .inl (8, .int), .inl (16, .int), .inl (16, .int), .inr 7, .inl (8, .int), .inl (8, .int), .inl (16, .int), .inl (16, .int), .inr 7, .inl (8, .int), .inl (8, .int), .inl (16, .int), .inl (16, .int), .inr 7, .inl (8, .int), .inl (8, .int), .inl (16, .int), .inl (16, .int), .inr 7, .inl (8, .int), .inl (8, .int), .inl (16, .int), .inl (16, .int), .inr 7, .inl (8, .int), .inl (8, .int), .inl (16, .int), .inl (16, .int), .inr 7, .inl (8, .int), .inl (8, .int), .inl (16, .int), .inl (16, .int), .inr 7, .inl (8, .int), .inl (8, .int), .inl (16, .int), .inl (16, .int), .inr 7, .inl (8, .int), .inl (8, .int), .inl (16, .int), .inl (16, .int), .inr 7, .inl (8, .int), .inl (8, .int), .inl (16, .int), .inl (16, .int), .inr 7, .inl (8, .int), .inl (8, .int), .inl (16, .int), .inl (16, .int), .inr 7, .inl (8, .int), .inl (8, .int), .inl (16, .int), .inl (16, .int), .inr 7, .inl (8, .int), .inl (8, .int), .inl (16, .int), .inl (16, .int), .inr 7, .inl (8, .int), .inl (8, .int), .inl (16, .int), .inl (16, .int), .inr 7, .inl (8, .int), .inl (8, .int), .inl (16, .int), .inl (16, .int), .inr 7, .inl (8, .int), .inl (8, .int), .inl (16, .int), .inl (16, .int), .inr 4, .inl (9, .int), .inl (7, .int), .inl (8, .int), .inl (8, .int), .inl (8, .int), .inr 3, .inr 7, .inl (8, .int), .inl (8, .int), .inl (16, .int), .inl (16, .int), .inr 7, .inl (8, .int), .inl (8, .int), .inl (16, .int), .inl (16, .int), .inr 6, .inl (64, .int), .inl (64, .int), .inl (8, .int), .inl (8, .int), .inr 1, .inl (17, .int), .inl (17, .int), .inl (55, .int), .inl (6, .int), .inr 12, .inl (1600, .int), .inl (6, .int), .inl (6, .char), .inl (5, .char), .inl (4, .char), .inl (5, .char), .inl (4, .char), .inl (5, .char), .inl (5, .char), .inl (3, .char), .inl (4, .char), .inl (4, .char), .inl (4, .char), .inl (4, .char), .inl (4, .char), .inl (3, .char), .inl (3, .char), .inl (5, .char), .inl (6, .char), .inl (4, .char), .inl (2, .char), .inl (3, .char), .inl (3, .char), .inl (3, .char), .inl (3, .char), .inl (3, .char), .inl (4, .int), .inl (24, .long), .inl (112, .int), .inl (8, .int), .inl (2, .int), .inl (4, .int), .inl (4, .int), .inl (3200, .int), .inl (1700, .int), .inl (1700, .long), .inl (6, .int), .inl (51, .int), .inl (51, .int), .inl (8, .int), .inl (24, .int), .inl (64, .int), .inl (64, .int), .inl (8, .int), .inl (8, .int), .inl (17, .int), .inl (17, .int), .inl (8, .int), .inl (1020, .int), .inl (5, .char), .inl (4, .char), .inl (5, .char), .inl (5, .char), .inl (4, .char), .inl (5, .char), .inl (3, .char), .inl (3, .char), .inl (2, .char), .inl (3, .char), .inl (3, .char), .inl (3, .char), .inl (6, .char), .inl (5, .char), .inl (4, .char), .inl (4, .char), .inl (5, .char), .inl (4, .char), .inl (1700, .int), .inl (1700, .int), .inl (1700, .long), .inl (55, .int)]
def zRl : List (Nat × List (Option Nat)) := [(0, [some 1, none, some 2, some 9, some 10, some 24, some 38, some 43, some 48, some 150, some 156, some 167, some 172, some 175, none, none, none, none, some 176]), (2, [some 3, some 4, some 5, some 6, some 7, some 8]), (9, [some 2]), (10, [none, none, some 11, some 12, some 13, some 14, some 15, none, some 16, some 17, none, none, none, some 18, some 21]), (18, [some 19, some 20]), (21, [some 22, some 23]), (24, [none, none, some 25, some 26, some 27, some 28, some 29, none, some 30, some 31, none, none, none, some 32, some 35]), (32, [some 33, some 34]), (35, [some 36, some 37]), (38, [some 2, some 9, some 39, some 42]), (39, [some 40, some 41]), (43, [none, none, none, none, some 44, some 45, some 46, some 47]), (48, [some 49]), (49, [some 50, some 55, some 60, some 65, some 70, some 75, some 80, some 85, some 90, some 95, some 100, some 105, some 110, some 115, some 120, some 125, some 130, some 135, some 140, some 145]), (50, [none, none, none, none, some 51, some 52, some 53, some 54]), (55, [none, none, none, none, some 56, some 57, some 58, some 59]), (60, [none, none, none, none, some 61, some 62, some 63, some 64]), (65, [none, none, none, none, some 66, some 67, some 68, some 69]), (70, [none, none, none, none, some 71, some 72, some 73, some 74]), (75, [none, none, none, none, some 76, some 77, some 78, some 79]), (80, [none, none, none, none, some 81, some 82, some 83, some 84]), (85, [none, none, none, none, some 86, some 87, some 88, some 89]), (90, [none, none, none, none, some 91, some 92, some 93, some 94]), (95, [none, none, none, none, some 96, some 97, some 98, some 99]), (100, [none, none, none, none, some 101, some 102, some 103, some 104]), (105, [none, none, none, none, some 106, some 107, some 108, some 109]), (110, [none, none, none, none, some 111, some 112, some 113, some 114]), (115, [none, none, none, none, some 116, some 117, some 118, some 119]), (120, [none, none, none, none, some 121, some 122, some 123, some 124]), (125, [none, none, none, none, some 126, some 127, some 128, some 129]), (130, [none, none, none, none, some 131, some 132, some 133, some 134]), (135, [none, none, none, none, some 136, some 137, some 138, some 139]), (140, [none, none, none, none, some 141, some 142, some 143, some 144]), (145, [none, none, none, none, some 146, some 147, some 148, some 149]), (150, [some 10, some 151, some 152, some 153, some 154, some 155]), (156, [some 150, some 157, some 162]), (157, [none, none, none, none, some 158, some 159, some 160, some 161]), (162, [none, none, none, none, some 163, some 164, some 165, some 166]), (167, [some 150, some 168, some 169, some 170, none, some 171]), (172, [some 173, some 174]), (177, [some 178, none, none, none, none, none, none, none, none, some 179, some 180, some 181, some 182, some 183, some 184, some 185, some 186, some 187, some 188, some 189, some 190, some 191, some 192, some 193, some 194, some 195, some 196, some 197, some 198, some 199, some 200, some 201, some 202, some 203, none, some 204, some 205, some 206, some 207, some 208, some 209, some 210, none, some 211, none, some 212, none, none, none, some 213, none, some 214, some 215, some 216, some 217, some 218, some 219, some 220, some 221, some 222, none, none, some 223, some 224, some 225, some 226, none, none, none, some 227, some 228, some 229, some 230, some 231, some 232, some 233, some 234, some 235, some 236, some 237, some 238, some 239, some 240, some 241, some 242, some 243, some 244, some 245, none, some 246, none, none, none, some 247, none, none, none, some 248])]
def zRc (o k : Nat) : Option Nat := match zRl.lookup o with
  | some l => (l[k]?).join
  | none => none
def zRf (t : Nat) : zMR := fun o k => if o = 0 ∧ k = 4 then some t else if o = 0 ∧ k = 5 then some (34 - t) else if o = 150 ∧ k = 0 then some t else zRc o k
def zX (v : Option Value) (M : zMI) (L : zML) (R : zMR) : zQ := fun v0 S0 M0 L0 R0 => v0 = v ∧ S0 = SS ∧ M0 = M ∧ L0 = L ∧ R0 = R
def Sx (y : MethodName) (Y : zY) (d : Nat) (as : List Value) (M : zMI) (L : zML) (R : zMR) (v : Option Value) (M' : zMI) (L' : zML) (R' : zMR) : Prop := Sp y Y d as SS M L R 0 0 (zX v M' L' R')
section
variable {w : zWo} {Y : zY} {d : Nat} {G : zG} {E : Option zQ} {pc q : Nat} {loc loc' : List (Nat × Value)} {st : List Value} {S : List zSh} {B : zR} {M M' : zMI} {L L' : zML} {R R' : zMR}
theorem wp_cvx {idx n dd : Nat} {y : MethodName} {Y2 : zY} {as : List Value} {o ci : Nat} {v : Option Value} (hsp : Sx y Y2 dd (.ref o :: as) M L R v M' L' R') (hm : zMV y Y2 n) (hlink : Cond.methodLink Y.1 idx y ∈ lw_g) (hd : decode Y.2.1 pc = .ok (.invokevirtual idx, 3)) (hn : as.length = n) (hdep : dd + 1 ≤ d) (hcat : (st.map fun v => v.category).sum ≤ 8)
    (hobj : SS[o]? = some (.inr ci)) (hci : Option.map (fun z : vw_C => z.1) vwCl[ci]? = some y.cls) (hq : pc + 3 = q) (kk : WP w Y (d, SS, 0, 0) G E q loc (v.toList ++ st) SS M' L' R') : WP w Y (d, SS, 0, 0) G E pc loc (as.reverse ++ .ref o :: st) SS M L R := by
  refine wp_callV (mc := 0) (ms := 0) hsp hm hlink hd hn hdep hcat hobj hci (Nat.le_refl _) (Nat.le_refl _) hq ?_
  rintro _ _ _ _ _ ⟨rfl, rfl, rfl, rfl, rfl⟩ - -
  exact kk
theorem wp_cvnx {idx n dd : Nat} {y : MethodName} {Y2 : zY} {as : List Value} {o ci : Nat} {host : String} {v : Option Value} (hsp : Sx y Y2 dd (.ref o :: as) M L R v M' L' R') (hm : zMV y Y2 n) (hlink : ∀ (U : State) (H : Heap), zST w U H → va_Nw (.methodLinkNest Y.1 idx y host) U) (hd : decode Y.2.1 pc = .ok (.invokevirtual idx, 3)) (hn : as.length = n) (hdep : dd + 1 ≤ d) (hcat : (st.map fun v => v.category).sum ≤ 8)
    (hobj : SS[o]? = some (.inr ci)) (hci : Option.map (fun z : vw_C => z.1) vwCl[ci]? = some y.cls) (hq : pc + 3 = q) (kk : WP w Y (d, SS, 0, 0) G E q loc (v.toList ++ st) SS M' L' R') : WP w Y (d, SS, 0, 0) G E pc loc (as.reverse ++ .ref o :: st) SS M L R := by
  refine wp_callVN (mc := 0) (ms := 0) hsp hm hlink hd hn hdep hcat hobj hci (Nat.le_refl _) (Nat.le_refl _) hq ?_
  rintro _ _ _ _ _ ⟨rfl, rfl, rfl, rfl, rfl⟩ - -
  exact kk
theorem wp_csx {idx n dd : Nat} {y : MethodName} {Y2 : zY} {as : List Value} {v : Option Value} (hsp : Sx y Y2 dd (as) M L R v M' L' R') (hm : zMS y Y2 n) (hlink : Cond.methodLink Y.1 idx y ∈ lw_g) (hd : decode Y.2.1 pc = .ok (.invokestatic idx, 3)) (hn : as.length = n) (hdep : dd + 1 ≤ d) (hcat : (st.map fun v => v.category).sum ≤ 8)
    (hq : pc + 3 = q) (kk : WP w Y (d, SS, 0, 0) G E q loc (v.toList ++ st) SS M' L' R') : WP w Y (d, SS, 0, 0) G E pc loc (as.reverse ++ st) SS M L R := by
  refine wp_callSX (mc := 0) (ms := 0) hsp hm hlink hd hn hdep hcat (Nat.le_refl _) (Nat.le_refl _) hq ?_
  rintro _ _ _ _ _ ⟨rfl, rfl, rfl, rfl, rfl⟩ - -
  exact kk
theorem wp_iaddN {a b : Nat} (hd : decode Y.2.1 pc = .ok (.iadd, 1)) (hq : pc + 1 = q) (k : WP w Y B G E q loc (.int (nI (a + b)) :: st) S M L R) : WP w Y B G E pc loc (.int (nI b) :: .int (nI a) :: st) S M L R := by
  exact wp_iadd hd hq (by rw [nI_add]; exact k)
theorem wp_isubN {a b : Nat} (hd : decode Y.2.1 pc = .ok (.isub, 1)) (hle : b ≤ a) (hq : pc + 1 = q) (k : WP w Y B G E q loc (.int (nI (a - b)) :: st) S M L R) : WP w Y B G E pc loc (.int (nI b) :: .int (nI a) :: st) S M L R := by
  exact wp_isub hd hq (by rw [pk_sub hle]; exact k)
theorem wp_imulN {a b : Nat} (hd : decode Y.2.1 pc = .ok (.imul, 1)) (hq : pc + 1 = q) (k : WP w Y B G E q loc (.int (nI (a * b)) :: st) S M L R) : WP w Y B G E pc loc (.int (nI b) :: .int (nI a) :: st) S M L R := by
  exact wp_imul hd hq (by rw [pk_mul]; exact k)
theorem wp_idivN {a b : Nat} (hd : decode Y.2.1 pc = .ok (.idiv, 1)) (ha : a < 2147483648) (h0 : 0 < b) (hb : b < 2147483648) (hq : pc + 1 = q) (k : WP w Y B G E q loc (.int (nI (a / b)) :: st) S M L R) : WP w Y B G E pc loc (.int (nI b) :: .int (nI a) :: st) S M L R := by
  exact wp_idiv hd (nI_ne0 h0 hb) hq (by rw [pk_div ha h0 hb]; exact k)
theorem wp_iremN {a b : Nat} (hd : decode Y.2.1 pc = .ok (.irem, 1)) (ha : a < 2147483648) (h0 : 0 < b) (hb : b < 2147483648) (hq : pc + 1 = q) (k : WP w Y B G E q loc (.int (nI (a % b)) :: st) S M L R) : WP w Y B G E pc loc (.int (nI b) :: .int (nI a) :: st) S M L R := by
  exact wp_irem hd (nI_ne0 h0 hb) hq (by rw [pk_rem ha h0 hb]; exact k)
theorem wp_laddN {a b : Nat} (hd : decode Y.2.1 pc = .ok (.ladd, 1)) (hq : pc + 1 = q) (k : WP w Y B G E q loc (.long (lN (a + b)) :: st) S M L R) : WP w Y B G E pc loc (.long (lN b) :: .long (lN a) :: st) S M L R := by
  exact wp_ladd hd hq (by rw [lN_add]; exact k)
theorem wp_lsubN {a b : Nat} (hd : decode Y.2.1 pc = .ok (.lsub, 1)) (hle : b ≤ a) (hq : pc + 1 = q) (k : WP w Y B G E q loc (.long (lN (a - b)) :: st) S M L R) : WP w Y B G E pc loc (.long (lN b) :: .long (lN a) :: st) S M L R := by
  exact wp_lsub hd hq (by rw [lN_sub hle]; exact k)
theorem wp_lmulN {a b : Nat} (hd : decode Y.2.1 pc = .ok (.lmul, 1)) (hq : pc + 1 = q) (k : WP w Y B G E q loc (.long (lN (a * b)) :: st) S M L R) : WP w Y B G E pc loc (.long (lN b) :: .long (lN a) :: st) S M L R := by
  exact wp_lmul hd hq (by rw [lN_mul]; exact k)
theorem wp_ldivN {a b : Nat} (hd : decode Y.2.1 pc = .ok (.ldiv, 1)) (ha : a < 9223372036854775808) (h0 : 0 < b) (hb : b < 9223372036854775808) (hq : pc + 1 = q) (k : WP w Y B G E q loc (.long (lN (a / b)) :: st) S M L R) : WP w Y B G E pc loc (.long (lN b) :: .long (lN a) :: st) S M L R := by
  exact wp_ldiv hd (by rw [show (0 : Int64) = lN 0 from rfl, pk_lEQ hb (by decide)]; omega) hq (by rw [pk_lDiv ha h0 hb]; exact k)
theorem wp_lremN {a b : Nat} (hd : decode Y.2.1 pc = .ok (.lrem, 1)) (ha : a < 9223372036854775808) (h0 : 0 < b) (hb : b < 9223372036854775808) (hq : pc + 1 = q) (k : WP w Y B G E q loc (.long (lN (a % b)) :: st) S M L R) : WP w Y B G E pc loc (.long (lN b) :: .long (lN a) :: st) S M L R := by
  exact wp_lrem hd (by rw [show (0 : Int64) = lN 0 from rfl, pk_lEQ hb (by decide)]; omega) hq (by rw [pk_lRem ha h0 hb]; exact k)
theorem wp_i2lN {a : Nat} (hd : decode Y.2.1 pc = .ok (.i2l, 1)) (ha : a < 2147483648) (hq : pc + 1 = q) (k : WP w Y B G E q loc (.long (lN a) :: st) S M L R) : WP w Y B G E pc loc (.int (nI a) :: st) S M L R := by
  exact wp_i2l hd hq (by rw [nI_l ha]; exact k)
theorem wp_l2iN {a : Nat} (hd : decode Y.2.1 pc = .ok (.l2i, 1)) (hq : pc + 1 = q) (k : WP w Y B G E q loc (.int (nI a) :: st) S M L R) : WP w Y B G E pc loc (.long (lN a) :: st) S M L R := by
  exact wp_l2i hd hq (by rw [lN_i]; exact k)
theorem wp_iincN {i a n : Nat} {z : Int} (hd : decode Y.2.1 pc = .ok (.iinc i z, 3)) (hz : z = (n : Int)) (j : Nat) (hj : loc[j]? = some (i, .int (nI a))) (hn : i < Y.2.2.1) (h : (i, (.int (nI (a + n)) : Value)) :: loc.filter (fun q => !(q.1 == i) && !(q.1 + 1 == i && q.2.category == 2)) = loc') (hq : pc + 3 = q) (k : WP w Y B G E q loc' st S M L R) : WP w Y B G E pc loc st S M L R := by
  subst hz
  exact wp_iinc (v := nI (a + n)) hd j hj (by rw [← nI_add]; rfl) hn h hq k
theorem wp_iincM {i a : Nat} (hd : decode Y.2.1 pc = .ok (.iinc i (-1), 3)) (j : Nat) (hj : loc[j]? = some (i, .int (nI (a + 1)))) (hn : i < Y.2.2.1) (h : (i, (.int (nI a) : Value)) :: loc.filter (fun q => !(q.1 == i) && !(q.1 + 1 == i && q.2.category == 2)) = loc') (hq : pc + 3 = q) (k : WP w Y B G E q loc' st S M L R) : WP w Y B G E pc loc st S M L R := by
  exact wp_iinc (v := nI a) hd j hj (pk_m1 a) hn h hq k
theorem wp_icmp_eqN {a b : Nat} {off : Int} {tgt : Nat} (hd : decode Y.2.1 pc = .ok (.if_icmp .eq off, 3)) (ht : (pc : Int) + off = (tgt : Int)) (hq : pc + 3 = q) (ha : a < 2147483648) (hb : b < 2147483648) (kt : a = b → WP w Y B G E tgt loc st S M L R) (kf : ¬ a = b → WP w Y B G E q loc st S M L R) : WP w Y B G E pc loc (.int (nI b) :: .int (nI a) :: st) S M L R :=
  wp_icmp_eq hd ht hq (fun h => kt ((nI_eq ha hb).mp h)) (fun h => kf (fun e => h ((nI_eq ha hb).mpr e)))
theorem wp_icmp_neN {a b : Nat} {off : Int} {tgt : Nat} (hd : decode Y.2.1 pc = .ok (.if_icmp .ne off, 3)) (ht : (pc : Int) + off = (tgt : Int)) (hq : pc + 3 = q) (ha : a < 2147483648) (hb : b < 2147483648) (kt : ¬ a = b → WP w Y B G E tgt loc st S M L R) (kf : a = b → WP w Y B G E q loc st S M L R) : WP w Y B G E pc loc (.int (nI b) :: .int (nI a) :: st) S M L R :=
  wp_icmp_ne hd ht hq (fun h => kt (fun e => h ((nI_eq ha hb).mpr e))) (fun h => kf ((nI_eq ha hb).mp h))
theorem wp_icmp_ltN {a b : Nat} {off : Int} {tgt : Nat} (hd : decode Y.2.1 pc = .ok (.if_icmp .lt off, 3)) (ht : (pc : Int) + off = (tgt : Int)) (hq : pc + 3 = q) (ha : a < 2147483648) (hb : b < 2147483648) (kt : a < b → WP w Y B G E tgt loc st S M L R) (kf : b ≤ a → WP w Y B G E q loc st S M L R) : WP w Y B G E pc loc (.int (nI b) :: .int (nI a) :: st) S M L R :=
  wp_icmp_lt hd ht hq (fun h => kt ((nI_ltI ha hb).mp h)) (fun h => kf (Nat.not_lt.mp fun e => h ((nI_ltI ha hb).mpr e)))
theorem wp_icmp_geN {a b : Nat} {off : Int} {tgt : Nat} (hd : decode Y.2.1 pc = .ok (.if_icmp .ge off, 3)) (ht : (pc : Int) + off = (tgt : Int)) (hq : pc + 3 = q) (ha : a < 2147483648) (hb : b < 2147483648) (kt : b ≤ a → WP w Y B G E tgt loc st S M L R) (kf : a < b → WP w Y B G E q loc st S M L R) : WP w Y B G E pc loc (.int (nI b) :: .int (nI a) :: st) S M L R :=
  wp_icmp_ge hd ht hq (fun h => kt ((nI_leI hb ha).mp h)) (fun h => kf (Nat.not_le.mp fun e => h ((nI_leI hb ha).mpr e)))
theorem wp_icmp_gtN {a b : Nat} {off : Int} {tgt : Nat} (hd : decode Y.2.1 pc = .ok (.if_icmp .gt off, 3)) (ht : (pc : Int) + off = (tgt : Int)) (hq : pc + 3 = q) (ha : a < 2147483648) (hb : b < 2147483648) (kt : b < a → WP w Y B G E tgt loc st S M L R) (kf : a ≤ b → WP w Y B G E q loc st S M L R) : WP w Y B G E pc loc (.int (nI b) :: .int (nI a) :: st) S M L R :=
  wp_icmp_gt hd ht hq (fun h => kt ((nI_ltI hb ha).mp h)) (fun h => kf (Nat.not_lt.mp fun e => h ((nI_ltI hb ha).mpr e)))
theorem wp_icmp_leN {a b : Nat} {off : Int} {tgt : Nat} (hd : decode Y.2.1 pc = .ok (.if_icmp .le off, 3)) (ht : (pc : Int) + off = (tgt : Int)) (hq : pc + 3 = q) (ha : a < 2147483648) (hb : b < 2147483648) (kt : a ≤ b → WP w Y B G E tgt loc st S M L R) (kf : b < a → WP w Y B G E q loc st S M L R) : WP w Y B G E pc loc (.int (nI b) :: .int (nI a) :: st) S M L R :=
  wp_icmp_le hd ht hq (fun h => kt ((nI_leI ha hb).mp h)) (fun h => kf (Nat.not_le.mp fun e => h ((nI_leI ha hb).mpr e)))
theorem wp_if_eqN {a : Nat} {off : Int} {tgt : Nat} (hd : decode Y.2.1 pc = .ok (.ifCond .eq off, 3)) (ht : (pc : Int) + off = (tgt : Int)) (hq : pc + 3 = q) (ha : a < 2147483648) (kt : a = 0 → WP w Y B G E tgt loc st S M L R) (kf : ¬ a = 0 → WP w Y B G E q loc st S M L R) : WP w Y B G E pc loc (.int (nI a) :: st) S M L R :=
  wp_if_eq hd ht hq (fun h => kt ((nI_eq ha (by decide)).mp h)) (fun h => kf (fun e => h ((nI_eq ha (by decide)).mpr e)))
theorem wp_if_neN {a : Nat} {off : Int} {tgt : Nat} (hd : decode Y.2.1 pc = .ok (.ifCond .ne off, 3)) (ht : (pc : Int) + off = (tgt : Int)) (hq : pc + 3 = q) (ha : a < 2147483648) (kt : ¬ a = 0 → WP w Y B G E tgt loc st S M L R) (kf : a = 0 → WP w Y B G E q loc st S M L R) : WP w Y B G E pc loc (.int (nI a) :: st) S M L R :=
  wp_if_ne hd ht hq (fun h => kt (fun e => h ((nI_eq ha (by decide)).mpr e))) (fun h => kf ((nI_eq ha (by decide)).mp h))
theorem wp_if_ltN {a : Nat} {off : Int} {tgt : Nat} (hd : decode Y.2.1 pc = .ok (.ifCond .lt off, 3)) (ht : (pc : Int) + off = (tgt : Int)) (hq : pc + 3 = q) (ha : a < 2147483648) (kt : False → WP w Y B G E tgt loc st S M L R) (kf : True → WP w Y B G E q loc st S M L R) : WP w Y B G E pc loc (.int (nI a) :: st) S M L R :=
  wp_if_lt hd ht hq (fun h => absurd h (nI_pos ha)) (fun _ => kf trivial)
theorem wp_if_geN {a : Nat} {off : Int} {tgt : Nat} (hd : decode Y.2.1 pc = .ok (.ifCond .ge off, 3)) (ht : (pc : Int) + off = (tgt : Int)) (hq : pc + 3 = q) (ha : a < 2147483648) (kt : True → WP w Y B G E tgt loc st S M L R) (kf : False → WP w Y B G E q loc st S M L R) : WP w Y B G E pc loc (.int (nI a) :: st) S M L R :=
  wp_if_ge hd ht hq (fun _ => kt trivial) (fun h => absurd (nI_pos' ha) h)
theorem wp_if_gtN {a : Nat} {off : Int} {tgt : Nat} (hd : decode Y.2.1 pc = .ok (.ifCond .gt off, 3)) (ht : (pc : Int) + off = (tgt : Int)) (hq : pc + 3 = q) (ha : a < 2147483648) (kt : 0 < a → WP w Y B G E tgt loc st S M L R) (kf : a = 0 → WP w Y B G E q loc st S M L R) : WP w Y B G E pc loc (.int (nI a) :: st) S M L R :=
  wp_if_gt hd ht hq (fun h => kt ((nI_ltI (by decide) ha).mp h)) (fun h => kf (Nat.eq_zero_of_not_pos (fun e => h ((nI_ltI (by decide) ha).mpr e))))
theorem wp_if_leN {a : Nat} {off : Int} {tgt : Nat} (hd : decode Y.2.1 pc = .ok (.ifCond .le off, 3)) (ht : (pc : Int) + off = (tgt : Int)) (hq : pc + 3 = q) (ha : a < 2147483648) (kt : a = 0 → WP w Y B G E tgt loc st S M L R) (kf : 0 < a → WP w Y B G E q loc st S M L R) : WP w Y B G E pc loc (.int (nI a) :: st) S M L R :=
  wp_if_le hd ht hq (fun h => kt (Nat.le_zero.mp ((nI_leI ha (by decide)).mp h))) (fun h => kf (Nat.pos_of_ne_zero (fun e => h (by subst e; exact (nI_leI ha (by decide)).mpr (Nat.le_refl _)))))
theorem zlc_lt (x y : Int64) : lg_cmp x y < 0 ↔ x < y := by
  unfold lg_cmp
  by_cases h1 : x > y
  · rw [if_pos h1]
    refine iff_of_false (by decide) (fun h2 => ?_)
    rw [gt_iff_lt, Int64.lt_iff_toInt_lt] at h1
    rw [Int64.lt_iff_toInt_lt] at h2
    omega
  · rw [if_neg h1]
    by_cases h2 : x = y
    · rw [if_pos h2]
      exact iff_of_false (by decide) (fun h => by rw [Int64.lt_iff_toInt_lt] at h; subst h2; omega)
    · rw [if_neg h2]
      refine iff_of_true (by decide) ?_
      rw [gt_iff_lt, Int64.lt_iff_toInt_lt] at h1
      rw [Int64.lt_iff_toInt_lt]
      have h3 : x.toInt ≠ y.toInt := fun e => h2 (Int64.toInt_inj.mp e)
      omega
theorem zlc_eq (x y : Int64) : lg_cmp x y = 0 ↔ x = y := by
  unfold lg_cmp
  by_cases h1 : x > y
  · rw [if_pos h1]
    refine iff_of_false (by decide) (fun h2 => ?_)
    subst h2
    rw [gt_iff_lt, Int64.lt_iff_toInt_lt] at h1
    omega
  · rw [if_neg h1]
    by_cases h2 : x = y
    · rw [if_pos h2]; exact iff_of_true rfl h2
    · rw [if_neg h2]; exact iff_of_false (by decide) h2
theorem zlc_gt (x y : Int64) : 0 < lg_cmp x y ↔ y < x := by
  unfold lg_cmp
  by_cases h1 : x > y
  · rw [if_pos h1]; exact iff_of_true (by decide) h1
  · rw [if_neg h1]
    by_cases h2 : x = y
    · rw [if_pos h2]; exact iff_of_false (by decide) h1
    · rw [if_neg h2]; exact iff_of_false (by decide) h1
theorem zlc_le (x y : Int64) : lg_cmp x y ≤ 0 ↔ x ≤ y := by
  rw [← Int32.not_lt, zlc_gt, Int64.not_lt]
theorem zlc_ge (x y : Int64) : 0 ≤ lg_cmp x y ↔ y ≤ x := by
  rw [← Int32.not_lt, zlc_lt, Int64.not_lt]
theorem wp_lcmp_eq {x y : Int64} {off : Int} {p1 tgt : Nat} (hd0 : decode Y.2.1 pc = .ok (.lcmp, 1)) (hp1 : pc + 1 = p1) (hd : decode Y.2.1 p1 = .ok (.ifCond .eq off, 3)) (ht : (p1 : Int) + off = (tgt : Int)) (hq : p1 + 3 = q) (kt : x = y → WP w Y B G E tgt loc st S M L R) (kf : ¬ x = y → WP w Y B G E q loc st S M L R) : WP w Y B G E pc loc (.long y :: .long x :: st) S M L R :=
  wp_lcmp hd0 hp1 (wp_if_eq hd ht hq (fun h => kt ((zlc_eq x y).mp h)) (fun h => kf (fun e => h ((zlc_eq x y).mpr e))))
theorem wp_lcmp_ne {x y : Int64} {off : Int} {p1 tgt : Nat} (hd0 : decode Y.2.1 pc = .ok (.lcmp, 1)) (hp1 : pc + 1 = p1) (hd : decode Y.2.1 p1 = .ok (.ifCond .ne off, 3)) (ht : (p1 : Int) + off = (tgt : Int)) (hq : p1 + 3 = q) (kt : ¬ x = y → WP w Y B G E tgt loc st S M L R) (kf : x = y → WP w Y B G E q loc st S M L R) : WP w Y B G E pc loc (.long y :: .long x :: st) S M L R :=
  wp_lcmp hd0 hp1 (wp_if_ne hd ht hq (fun h => kt (fun e => h ((zlc_eq x y).mpr e))) (fun h => kf ((zlc_eq x y).mp h)))
theorem wp_lcmp_lt {x y : Int64} {off : Int} {p1 tgt : Nat} (hd0 : decode Y.2.1 pc = .ok (.lcmp, 1)) (hp1 : pc + 1 = p1) (hd : decode Y.2.1 p1 = .ok (.ifCond .lt off, 3)) (ht : (p1 : Int) + off = (tgt : Int)) (hq : p1 + 3 = q) (kt : x < y → WP w Y B G E tgt loc st S M L R) (kf : ¬ x < y → WP w Y B G E q loc st S M L R) : WP w Y B G E pc loc (.long y :: .long x :: st) S M L R :=
  wp_lcmp hd0 hp1 (wp_if_lt hd ht hq (fun h => kt ((zlc_lt x y).mp h)) (fun h => kf (fun e => h ((zlc_lt x y).mpr e))))
theorem wp_lcmp_ge {x y : Int64} {off : Int} {p1 tgt : Nat} (hd0 : decode Y.2.1 pc = .ok (.lcmp, 1)) (hp1 : pc + 1 = p1) (hd : decode Y.2.1 p1 = .ok (.ifCond .ge off, 3)) (ht : (p1 : Int) + off = (tgt : Int)) (hq : p1 + 3 = q) (kt : y ≤ x → WP w Y B G E tgt loc st S M L R) (kf : ¬ y ≤ x → WP w Y B G E q loc st S M L R) : WP w Y B G E pc loc (.long y :: .long x :: st) S M L R :=
  wp_lcmp hd0 hp1 (wp_if_ge hd ht hq (fun h => kt ((zlc_ge x y).mp h)) (fun h => kf (fun e => h ((zlc_ge x y).mpr e))))
theorem wp_lcmp_gt {x y : Int64} {off : Int} {p1 tgt : Nat} (hd0 : decode Y.2.1 pc = .ok (.lcmp, 1)) (hp1 : pc + 1 = p1) (hd : decode Y.2.1 p1 = .ok (.ifCond .gt off, 3)) (ht : (p1 : Int) + off = (tgt : Int)) (hq : p1 + 3 = q) (kt : y < x → WP w Y B G E tgt loc st S M L R) (kf : ¬ y < x → WP w Y B G E q loc st S M L R) : WP w Y B G E pc loc (.long y :: .long x :: st) S M L R :=
  wp_lcmp hd0 hp1 (wp_if_gt hd ht hq (fun h => kt ((zlc_gt x y).mp h)) (fun h => kf (fun e => h ((zlc_gt x y).mpr e))))
theorem wp_lcmp_le {x y : Int64} {off : Int} {p1 tgt : Nat} (hd0 : decode Y.2.1 pc = .ok (.lcmp, 1)) (hp1 : pc + 1 = p1) (hd : decode Y.2.1 p1 = .ok (.ifCond .le off, 3)) (ht : (p1 : Int) + off = (tgt : Int)) (hq : p1 + 3 = q) (kt : x ≤ y → WP w Y B G E tgt loc st S M L R) (kf : ¬ x ≤ y → WP w Y B G E q loc st S M L R) : WP w Y B G E pc loc (.long y :: .long x :: st) S M L R :=
  wp_lcmp hd0 hp1 (wp_if_le hd ht hq (fun h => kt ((zlc_le x y).mp h)) (fun h => kf (fun e => h ((zlc_le x y).mpr e))))
theorem wp_lcmp_eqN {a b : Nat} {off : Int} {p1 tgt : Nat} (hd0 : decode Y.2.1 pc = .ok (.lcmp, 1)) (hp1 : pc + 1 = p1) (hd : decode Y.2.1 p1 = .ok (.ifCond .eq off, 3)) (ht : (p1 : Int) + off = (tgt : Int)) (hq : p1 + 3 = q) (ha : a < 9223372036854775808) (hb : b < 9223372036854775808) (kt : a = b → WP w Y B G E tgt loc st S M L R) (kf : ¬ a = b → WP w Y B G E q loc st S M L R) : WP w Y B G E pc loc (.long (lN b) :: .long (lN a) :: st) S M L R :=
  wp_lcmp_eq hd0 hp1 hd ht hq (fun h => kt ((pk_lEQ ha hb).mp h)) (fun h => kf (fun e => h ((pk_lEQ ha hb).mpr e)))
theorem wp_lcmp_neN {a b : Nat} {off : Int} {p1 tgt : Nat} (hd0 : decode Y.2.1 pc = .ok (.lcmp, 1)) (hp1 : pc + 1 = p1) (hd : decode Y.2.1 p1 = .ok (.ifCond .ne off, 3)) (ht : (p1 : Int) + off = (tgt : Int)) (hq : p1 + 3 = q) (ha : a < 9223372036854775808) (hb : b < 9223372036854775808) (kt : ¬ a = b → WP w Y B G E tgt loc st S M L R) (kf : a = b → WP w Y B G E q loc st S M L R) : WP w Y B G E pc loc (.long (lN b) :: .long (lN a) :: st) S M L R :=
  wp_lcmp_ne hd0 hp1 hd ht hq (fun h => kt (fun e => h ((pk_lEQ ha hb).mpr e))) (fun h => kf ((pk_lEQ ha hb).mp h))
theorem wp_lcmp_ltN {a b : Nat} {off : Int} {p1 tgt : Nat} (hd0 : decode Y.2.1 pc = .ok (.lcmp, 1)) (hp1 : pc + 1 = p1) (hd : decode Y.2.1 p1 = .ok (.ifCond .lt off, 3)) (ht : (p1 : Int) + off = (tgt : Int)) (hq : p1 + 3 = q) (ha : a < 9223372036854775808) (hb : b < 9223372036854775808) (kt : a < b → WP w Y B G E tgt loc st S M L R) (kf : b ≤ a → WP w Y B G E q loc st S M L R) : WP w Y B G E pc loc (.long (lN b) :: .long (lN a) :: st) S M L R :=
  wp_lcmp_lt hd0 hp1 hd ht hq (fun h => kt ((pk_lLT ha hb).mp h)) (fun h => kf (Nat.not_lt.mp fun e => h ((pk_lLT ha hb).mpr e)))
theorem wp_lcmp_geN {a b : Nat} {off : Int} {p1 tgt : Nat} (hd0 : decode Y.2.1 pc = .ok (.lcmp, 1)) (hp1 : pc + 1 = p1) (hd : decode Y.2.1 p1 = .ok (.ifCond .ge off, 3)) (ht : (p1 : Int) + off = (tgt : Int)) (hq : p1 + 3 = q) (ha : a < 9223372036854775808) (hb : b < 9223372036854775808) (kt : b ≤ a → WP w Y B G E tgt loc st S M L R) (kf : a < b → WP w Y B G E q loc st S M L R) : WP w Y B G E pc loc (.long (lN b) :: .long (lN a) :: st) S M L R :=
  wp_lcmp_ge hd0 hp1 hd ht hq (fun h => kt ((pk_lLE hb ha).mp h)) (fun h => kf (Nat.not_le.mp fun e => h ((pk_lLE hb ha).mpr e)))
theorem wp_lcmp_gtN {a b : Nat} {off : Int} {p1 tgt : Nat} (hd0 : decode Y.2.1 pc = .ok (.lcmp, 1)) (hp1 : pc + 1 = p1) (hd : decode Y.2.1 p1 = .ok (.ifCond .gt off, 3)) (ht : (p1 : Int) + off = (tgt : Int)) (hq : p1 + 3 = q) (ha : a < 9223372036854775808) (hb : b < 9223372036854775808) (kt : b < a → WP w Y B G E tgt loc st S M L R) (kf : a ≤ b → WP w Y B G E q loc st S M L R) : WP w Y B G E pc loc (.long (lN b) :: .long (lN a) :: st) S M L R :=
  wp_lcmp_gt hd0 hp1 hd ht hq (fun h => kt ((pk_lLT hb ha).mp h)) (fun h => kf (Nat.not_lt.mp fun e => h ((pk_lLT hb ha).mpr e)))
theorem wp_lcmp_leN {a b : Nat} {off : Int} {p1 tgt : Nat} (hd0 : decode Y.2.1 pc = .ok (.lcmp, 1)) (hp1 : pc + 1 = p1) (hd : decode Y.2.1 p1 = .ok (.ifCond .le off, 3)) (ht : (p1 : Int) + off = (tgt : Int)) (hq : p1 + 3 = q) (ha : a < 9223372036854775808) (hb : b < 9223372036854775808) (kt : a ≤ b → WP w Y B G E tgt loc st S M L R) (kf : b < a → WP w Y B G E q loc st S M L R) : WP w Y B G E pc loc (.long (lN b) :: .long (lN a) :: st) S M L R :=
  wp_lcmp_le hd0 hp1 hd ht hq (fun h => kt ((pk_lLE ha hb).mp h)) (fun h => kf (Nat.not_le.mp fun e => h ((pk_lLE ha hb).mpr e)))
end
theorem zq_bipush_m8 : (Int8.ofInt (-8)).toInt32 = (-8) := by decide +kernel
theorem zq_bipush_6 : (Int8.ofInt (6)).toInt32 = nI 6 := by decide +kernel
theorem zq_bipush_7 : (Int8.ofInt (7)).toInt32 = nI 7 := by decide +kernel
theorem zq_bipush_8 : (Int8.ofInt (8)).toInt32 = nI 8 := by decide +kernel
theorem zq_bipush_9 : (Int8.ofInt (9)).toInt32 = nI 9 := by decide +kernel
theorem zq_bipush_10 : (Int8.ofInt (10)).toInt32 = nI 10 := by decide +kernel
theorem zq_bipush_11 : (Int8.ofInt (11)).toInt32 = nI 11 := by decide +kernel
theorem zq_bipush_12 : (Int8.ofInt (12)).toInt32 = nI 12 := by decide +kernel
theorem zq_bipush_13 : (Int8.ofInt (13)).toInt32 = nI 13 := by decide +kernel
theorem zq_bipush_14 : (Int8.ofInt (14)).toInt32 = nI 14 := by decide +kernel
theorem zq_bipush_16 : (Int8.ofInt (16)).toInt32 = nI 16 := by decide +kernel
theorem zq_bipush_17 : (Int8.ofInt (17)).toInt32 = nI 17 := by decide +kernel
theorem zq_bipush_18 : (Int8.ofInt (18)).toInt32 = nI 18 := by decide +kernel
theorem zq_bipush_19 : (Int8.ofInt (19)).toInt32 = nI 19 := by decide +kernel
theorem zq_bipush_20 : (Int8.ofInt (20)).toInt32 = nI 20 := by decide +kernel
theorem zq_bipush_21 : (Int8.ofInt (21)).toInt32 = nI 21 := by decide +kernel
theorem zq_bipush_22 : (Int8.ofInt (22)).toInt32 = nI 22 := by decide +kernel
theorem zq_bipush_23 : (Int8.ofInt (23)).toInt32 = nI 23 := by decide +kernel
theorem zq_bipush_24 : (Int8.ofInt (24)).toInt32 = nI 24 := by decide +kernel
theorem zq_bipush_25 : (Int8.ofInt (25)).toInt32 = nI 25 := by decide +kernel
theorem zq_bipush_26 : (Int8.ofInt (26)).toInt32 = nI 26 := by decide +kernel
theorem zq_bipush_27 : (Int8.ofInt (27)).toInt32 = nI 27 := by decide +kernel
theorem zq_bipush_29 : (Int8.ofInt (29)).toInt32 = nI 29 := by decide +kernel
theorem zq_bipush_30 : (Int8.ofInt (30)).toInt32 = nI 30 := by decide +kernel
theorem zq_bipush_31 : (Int8.ofInt (31)).toInt32 = nI 31 := by decide +kernel
theorem zq_bipush_32 : (Int8.ofInt (32)).toInt32 = nI 32 := by decide +kernel
theorem zq_bipush_40 : (Int8.ofInt (40)).toInt32 = nI 40 := by decide +kernel
theorem zq_bipush_41 : (Int8.ofInt (41)).toInt32 = nI 41 := by decide +kernel
theorem zq_bipush_42 : (Int8.ofInt (42)).toInt32 = nI 42 := by decide +kernel
theorem zq_bipush_43 : (Int8.ofInt (43)).toInt32 = nI 43 := by decide +kernel
theorem zq_bipush_44 : (Int8.ofInt (44)).toInt32 = nI 44 := by decide +kernel
theorem zq_bipush_45 : (Int8.ofInt (45)).toInt32 = nI 45 := by decide +kernel
theorem zq_bipush_47 : (Int8.ofInt (47)).toInt32 = nI 47 := by decide +kernel
theorem zq_bipush_48 : (Int8.ofInt (48)).toInt32 = nI 48 := by decide +kernel
theorem zq_bipush_50 : (Int8.ofInt (50)).toInt32 = nI 50 := by decide +kernel
theorem zq_bipush_51 : (Int8.ofInt (51)).toInt32 = nI 51 := by decide +kernel
theorem zq_bipush_55 : (Int8.ofInt (55)).toInt32 = nI 55 := by decide +kernel
theorem zq_bipush_56 : (Int8.ofInt (56)).toInt32 = nI 56 := by decide +kernel
theorem zq_bipush_57 : (Int8.ofInt (57)).toInt32 = nI 57 := by decide +kernel
theorem zq_bipush_59 : (Int8.ofInt (59)).toInt32 = nI 59 := by decide +kernel
theorem zq_bipush_60 : (Int8.ofInt (60)).toInt32 = nI 60 := by decide +kernel
theorem zq_bipush_61 : (Int8.ofInt (61)).toInt32 = nI 61 := by decide +kernel
theorem zq_bipush_62 : (Int8.ofInt (62)).toInt32 = nI 62 := by decide +kernel
theorem zq_bipush_63 : (Int8.ofInt (63)).toInt32 = nI 63 := by decide +kernel
theorem zq_bipush_64 : (Int8.ofInt (64)).toInt32 = nI 64 := by decide +kernel
theorem zq_bipush_91 : (Int8.ofInt (91)).toInt32 = nI 91 := by decide +kernel
theorem zq_bipush_93 : (Int8.ofInt (93)).toInt32 = nI 93 := by decide +kernel
theorem zq_bipush_97 : (Int8.ofInt (97)).toInt32 = nI 97 := by decide +kernel
theorem zq_bipush_98 : (Int8.ofInt (98)).toInt32 = nI 98 := by decide +kernel
theorem zq_bipush_99 : (Int8.ofInt (99)).toInt32 = nI 99 := by decide +kernel
theorem zq_bipush_100 : (Int8.ofInt (100)).toInt32 = nI 100 := by decide +kernel
theorem zq_bipush_101 : (Int8.ofInt (101)).toInt32 = nI 101 := by decide +kernel
theorem zq_bipush_102 : (Int8.ofInt (102)).toInt32 = nI 102 := by decide +kernel
theorem zq_bipush_103 : (Int8.ofInt (103)).toInt32 = nI 103 := by decide +kernel
theorem zq_bipush_104 : (Int8.ofInt (104)).toInt32 = nI 104 := by decide +kernel
theorem zq_bipush_105 : (Int8.ofInt (105)).toInt32 = nI 105 := by decide +kernel
theorem zq_bipush_108 : (Int8.ofInt (108)).toInt32 = nI 108 := by decide +kernel
theorem zq_bipush_109 : (Int8.ofInt (109)).toInt32 = nI 109 := by decide +kernel
theorem zq_bipush_110 : (Int8.ofInt (110)).toInt32 = nI 110 := by decide +kernel
theorem zq_bipush_111 : (Int8.ofInt (111)).toInt32 = nI 111 := by decide +kernel
theorem zq_bipush_112 : (Int8.ofInt (112)).toInt32 = nI 112 := by decide +kernel
theorem zq_bipush_114 : (Int8.ofInt (114)).toInt32 = nI 114 := by decide +kernel
theorem zq_bipush_115 : (Int8.ofInt (115)).toInt32 = nI 115 := by decide +kernel
theorem zq_bipush_116 : (Int8.ofInt (116)).toInt32 = nI 116 := by decide +kernel
theorem zq_bipush_117 : (Int8.ofInt (117)).toInt32 = nI 117 := by decide +kernel
theorem zq_bipush_119 : (Int8.ofInt (119)).toInt32 = nI 119 := by decide +kernel
theorem zq_bipush_120 : (Int8.ofInt (120)).toInt32 = nI 120 := by decide +kernel
theorem zq_bipush_122 : (Int8.ofInt (122)).toInt32 = nI 122 := by decide +kernel
theorem zq_iconst_m1 : Int32.ofInt (-1) = (-1) := by decide +kernel
theorem zq_iconst_0 : Int32.ofInt (0) = nI 0 := by decide +kernel
theorem zq_iconst_1 : Int32.ofInt (1) = nI 1 := by decide +kernel
theorem zq_iconst_2 : Int32.ofInt (2) = nI 2 := by decide +kernel
theorem zq_iconst_3 : Int32.ofInt (3) = nI 3 := by decide +kernel
theorem zq_iconst_4 : Int32.ofInt (4) = nI 4 := by decide +kernel
theorem zq_iconst_5 : Int32.ofInt (5) = nI 5 := by decide +kernel
theorem zq_sipush_227 : (Int16.ofInt (227)).toInt32 = nI 227 := by decide +kernel
theorem zq_sipush_251 : (Int16.ofInt (251)).toInt32 = nI 251 := by decide +kernel
theorem zq_sipush_255 : (Int16.ofInt (255)).toInt32 = nI 255 := by decide +kernel
theorem zq_sipush_256 : (Int16.ofInt (256)).toInt32 = nI 256 := by decide +kernel
theorem zq_sipush_500 : (Int16.ofInt (500)).toInt32 = nI 500 := by decide +kernel
theorem zq_sipush_999 : (Int16.ofInt (999)).toInt32 = nI 999 := by decide +kernel
theorem zq_sipush_1000 : (Int16.ofInt (1000)).toInt32 = nI 1000 := by decide +kernel
theorem zq_sipush_1020 : (Int16.ofInt (1020)).toInt32 = nI 1020 := by decide +kernel
theorem zq_sipush_1600 : (Int16.ofInt (1600)).toInt32 = nI 1600 := by decide +kernel
theorem zq_sipush_1601 : (Int16.ofInt (1601)).toInt32 = nI 1601 := by decide +kernel
theorem zq_sipush_1700 : (Int16.ofInt (1700)).toInt32 = nI 1700 := by decide +kernel
theorem zq_sipush_3200 : (Int16.ofInt (3200)).toInt32 = nI 3200 := by decide +kernel
theorem zq_sipush_9999 : (Int16.ofInt (9999)).toInt32 = nI 9999 := by decide +kernel
theorem zq_sipush_10000 : (Int16.ofInt (10000)).toInt32 = nI 10000 := by decide +kernel
theorem zq_sipush_12345 : (Int16.ofInt (12345)).toInt32 = nI 12345 := by decide +kernel
theorem zq_sipush_16383 : (Int16.ofInt (16383)).toInt32 = nI 16383 := by decide +kernel
theorem zq_sipush_20000 : (Int16.ofInt (20000)).toInt32 = nI 20000 := by decide +kernel
theorem zq_lconst_0 : Int64.ofNat ((0 : Fin 2) : Nat) = lN 0 := by decide +kernel
theorem zq_lconst_1 : Int64.ofNat ((1 : Fin 2) : Nat) = lN 1 := by decide +kernel
