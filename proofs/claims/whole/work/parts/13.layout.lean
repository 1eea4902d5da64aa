def SS : List zSh := [.inr 11, .inl (1600, .int), .inr 10, .inl (1601, .int), .inl (1601, .int), .inl (1601, .int), .inl (1601, .int), .inl (1601, .int), .inl (30, .int), .inr 8, .inr 9, .inl (8, .int), .inl (16, .int), .inl (16, .int), .inl (16, .int), .inl (8, .int), .inl (4, .int), .inl (4, .int), .inr 0, .inl (1600, .int), .inl (64, .int), .inr 0, .inl (1600, .int), .inl (64, .int), .inr 9, .inl (8, .int), .inl (16, .int), .inl (16, .int), .inl (16, .int), .inl (8, .int), .inl (4, .int), .inl (4, .int), .inr 0, .inl (1600, .int), .inl (64, .int), .inr 0, .inl (1600, .int), .inl (64, .int), .inr 5, .inr 0, .inl (1600, .int), .inl (64, .int), .inl (9, .int), .inr 7, .inl (8, .int), .inl (8, .int), .inl (16, .int), .inl (16, .int), .inr 2, .inl (20, .object "CrackerRing$State"), .inr 7, .inl (8, .int), .inl (8, .int), .inl (16, .int), .inl (16, .int), .inr 7, .inl (8, .int), .inl (8, .int), .inl (16, .int), .inl (16, .int), .inr 7, .inl (8, .int), .inl (8, .int), .inl (16, .int), .inl (16, .int), .inr 7, .inl (8, .int), .inl (8, .int), .inl (16, .int), .inl (16, .int), .inr 7, .inl (8, .int), .inl (8, .int), .inl (16, .int), .inl (16, .int), .inr 7, .inl (8, .int), .inl (8, .int), .inl (16, .int), .inl (16, .int), .inr 7, .inl (8, .int), .inl (8, .int), .inl (16, .int), .inl (16, .int), .inr 7, .inl (8, .int), .inl (8, .int), .inl (16, .int), .inl (16, .int), .inr 7, .inl (8, .int), .inl (8, .int), .inl (16, .int), .inl (16, .int), .inr 7, .inl (8, .int), .inl (8, .int), .inl (16, .int), .inl (16, .int), .inr 7, .inl (8, .int), .inl (8, .int), .inl (16, .int), .inl (16, .int), .inr 7, .inl (8, .int), .inl (8, .int), .inl (16, .int), .inl (16, .int), .inr 7, .inl (8, .int), .inl (8, .int), .inl (16, .int), .inl (16, .int), .inr 7, .inl (8, .int), .inl (8, .int), .inl (16, .int), .inl (16, .int), .inr 7, .inl (8, .int), .inl (8, .int), .inl (16, .int), .inl (16, .int), .inr 7, .inl (8, .int), .inl (8, .int), .inl (16, .int), .inl (16, .int), .inr 7, .inl (8, .int), .inl (8, .int), .inl (16, .int), .inl (16, .int), .inr 7, .inl (8, .int), .inl (8, .int), .inl (16, .int), .inl (16, .int), .inr 7, .inl (8, .int), .inl (8, .int), .inl (16, .int), .inl (16, .int), .inr 7, .inl (8, .int), .inl (8, .int), .inl (16, .int), .inl (16, .int), .inr 4, .inl (9, .int), .inl (7, .int), .inl (8, .int), .inl (8, .int), .inl (8, .int), .inr 3, .inr 7, .inl (8, .int), .inl (8, .int), .inl (16, .int), .inl (16, .int), .inr 7, .inl (8, .int), .inl (8, .int), .inl (16, .int), .inl (16, .int), .inr 6, .inl (64, .int), .inl (64, .int), .inl (8, .int), .inl (8, .int), .inr 1, .inl (17, .int), .inl (17, .int), .inl (55, .int), .inl (6, .int), .inr 12, .inl (1600, .int), .inl (6, .int), .inl (6, .char), .inl (5, .char), .inl (4, .char), .inl (5, .char), .inl (4, .char), .inl (5, .char), .inl (5, .char), .inl (3, .char), .inl (4, .char), .inl (4, .char), .inl (4, .char), .inl (4, .char), .inl (4, .char), .inl (3, .char), .inl (3, .char), .inl (5, .char), .inl (6, .char), .inl (4, .char), .inl (2, .char), .inl (3, .char), .inl (3, .char), .inl (3, .char), .inl (3, .char), .inl (3, .char), .inl (4, .int), .inl (24, .long), .inl (112, .int), .inl (8, .int), .inl (2, .int), .inl (4, .int), .inl (4, .int), .inl (3200, .int), .inl (1700, .int), .inl (1700, .long), .inl (6, .int), .inl (51, .int), .inl (51, .int), .inl (8, .int), .inl (24, .int), .inl (64, .int), .inl (64, .int), .inl (8, .int), .inl (8, .int), .inl (17, .int), .inl (17, .int), .inl (8, .int), .inl (1020, .int), .inl (5, .char), .inl (4, .char), .inl (5, .char), .inl (5, .char), .inl (4, .char), .inl (5, .char), .inl (3, .char), .inl (3, .char), .inl (2, .char), .inl (3, .char), .inl (3, .char), .inl (3, .char), .inl (6, .char), .inl (5, .char), .inl (4, .char), .inl (4, .char), .inl (5, .char), .inl (4, .char), .inl (1700, .int), .inl (1700, .int), .inl (1700, .long), .inl (55, .int)]
def zRl : List (Nat × List (Option Nat)) := [(0, [some 1, none, some 2, some 9, some 10, some 24, some 38, some 43, some 48, some 150, some 156, some 167, some 172, some 175, none, none, none, none, some 176]), (2, [some 3, some 4, some 5, some 6, some 7, some 8]), (9, [some 2]), (10, [none, none, some 11, some 12, some 13, some 14, some 15, none, some 16, some 17, none, none, none, some 18, some 21]), (18, [some 19, some 20]), (21, [some 22, some 23]), (24, [none, none, some 25, some 26, some 27, some 28, some 29, none, some 30, some 31, none, none, none, some 32, some 35]), (32, [some 33, some 34]), (35, [some 36, some 37]), (38, [some 2, some 9, some 39, some 42]), (39, [some 40, some 41]), (43, [none, none, none, none, some 44, some 45, some 46, some 47]), (48, [some 49]), (49, [some 50, some 55, some 60, some 65, some 70, some 75, some 80, some 85, some 90, some 95, some 100, some 105, some 110, some 115, some 120, some 125, some 130, some 135, some 140, some 145]), (50, [none, none, none, none, some 51, some 52, some 53, some 54]), (55, [none, none, none, none, some 56, some 57, some 58, some 59]), (60, [none, none, none, none, some 61, some 62, some 63, some 64]), (65, [none, none, none, none, some 66, some 67, some 68, some 69]), (70, [none, none, none, none, some 71, some 72, some 73, some 74]), (75, [none, none, none, none, some 76, some 77, some 78, some 79]), (80, [none, none, none, none, some 81, some 82, some 83, some 84]), (85, [none, none, none, none, some 86, some 87, some 88, some 89]), (90, [none, none, none, none, some 91, some 92, some 93, some 94]), (95, [none, none, none, none, some 96, some 97, some 98, some 99]), (100, [none, none, none, none, some 101, some 102, some 103, some 104]), (105, [none, none, none, none, some 106, some 107, some 108, some 109]), (110, [none, none, none, none, some 111, some 112, some 113, some 114]), (115, [none, none, none, none, some 116, some 117, some 118, some 119]), (120, [none, none, none, none, some 121, some 122, some 123, some 124]), (125, [none, none, none, none, some 126, some 127, some 128, some 129]), (130, [none, none, none, none, some 131, some 132, some 133, some 134]), (135, [none, none, none, none, some 136, some 137, some 138, some 139]), (140, [none, none, none, none, some 141, some 142, some 143, some 144]), (145, [none, none, none, none, some 146, some 147, some 148, some 149]), (150, [some 10, some 151, some 152, some 153, some 154, some 155]), (156, [some 150, some 157, some 162]), (157, [none, none, none, none, some 158, some 159, some 160, some 161]), (162, [none, none, none, none, some 163, some 164, some 165, some 166]), (167, [some 150, some 168, some 169, some 170, none, some 171]), (172, [some 173, some 174]), (177, [some 178, none, none, none, none, none, none, none, none, some 179, some 180, some 181, some 182, some 183, some 184, some 185, some 186, some 187, some 188, some 189, some 190, some 191, some 192, some 193, some 194, some 195, some 196, some 197, some 198, some 199, some 200, some 201, some 202, some 203, none, some 204, some 205, some 206, some 207, some 208, some 209, some 210, none, some 211, none, some 212, none, none, none, some 213, none, some 214, some 215, some 216, some 217, some 218, some 219, some 220, some 221, some 222, none, none, some 223, some 224, some 225, some 226, none, none, none, some 227, some 228, some 229, some 230, some 231, some 232, some 233, some 234, some 235, some 236, some 237, some 238, some 239, some 240, some 241, some 242, some 243, some 244, some 245, none, some 246, none, none, none, some 247, none, none, none, some 248])]
def zRc (o k : Nat) : Option Nat := match zRl.lookup o with
  | some l => (l[k]?).join
  | none => none
def zRf (t : Nat) : zMR := fun o k => if o = 0 ∧ k = 4 then some t else if o = 0 ∧ k = 5 then some (34 - t) else if o = 150 ∧ k = 0 then some t else zRc o k
def zX (v : Option Value) (M : zMI) (L : zML) (R : zMR) : zQ := fun v0 S0 M0 L0 R0 => v0 = v ∧ S0 = SS ∧ M0 = M ∧ L0 = L ∧ R0 = R
def Sx (y : MethodName) (Y : zY) (d : Nat) (as : List Value) (M : zMI) (L : zML) (R : zMR) (v : Option Value) (M' : zMI) (L' : zML) (R' : zMR) : Prop := Sp y Y d as SS M L R 0 0 (zX v M' L' R')
section
variable {w : zWo} {Y : zY} {d : Nat} {G : zG} {E : Option zQ} {pc q : Nat} {loc loc' : List (Nat × Value)} {st : List Value} {S : List zSh} {B : zR} {M M' : zMI} {L L' : zML} {R R' : zMR}
theorem wp_cvx {idx n dd : Nat} {y : MethodName} {Y2 : zY} {as : List Value} {o ci : Nat} {v : Option Value} (hsp : Sx y Y2 dd (.ref o :: as) M L R v M' L' R') (hm : zMV y Y2 n) (hlink : Cond.methodLink Y.1 idx y ∈ lw_g) (hd : decode Y.2.1 pc = .ok (.invokevirtual idx, 3)) (hn : as.length = n) (hdep : dd + 1 ≤ d) (hcat : (st.map fun v => v.category).sum ≤ 8)
    (hobj : SS[o]? = some (.inr ci)) (hci : Option.map (fun z : vw_C => z.1) vwCl[ci]? = some y.cls) (hq : pc + 3 = q) (kk : WP w Y (d, SS, 0, 0) G E q loc (v.toList ++ st) SS M' L' R') : WP w Y (d, SS, 0, 0) G E pc loc (as.reverse ++ .ref o :: st) SS M L R := by
  refine wp_callV (mc := 0) (ms := 0) hsp hm hlink hd hn hdep hcat hobj hci (Nat.le_refl _) (Nat.le_refl _) hq ?_
  rintro _ _ _ _ _ ⟨rfl, rfl, rfl, rfl, rfl⟩ - -
  exact kk
theorem wp_cvnx {idx n dd : Nat} {y : MethodName} {Y2 : zY} {as : List Value} {o ci : Nat} {host : String} {v : Option Value} (hsp : Sx y Y2 dd (.ref o :: as) M L R v M' L' R') (hm : zMV y Y2 n) (hlink : ∀ (U : State) (H : Heap), zST w U H → va_Nw (.methodLinkNest Y.1 idx y host) U) (hd : decode Y.2.1 pc = .ok (.invokevirtual idx, 3)) (hn : as.length = n) (hdep : dd + 1 ≤ d) (hcat : (st.map fun v => v.category).sum ≤ 8)
    (hobj : SS[o]? = some (.inr ci)) (hci : Option.map (fun z : vw_C => z.1) vwCl[ci]? = some y.cls) (hq : pc + 3 = q) (kk : WP w Y (d, SS, 0, 0) G E q loc (v.toList ++ st) SS M' L' R') : WP w Y (d, SS, 0, 0) G E pc loc (as.reverse ++ .ref o :: st) SS M L R := by
  refine wp_callVN (mc := 0) (ms := 0) hsp hm hlink hd hn hdep hcat hobj hci (Nat.le_refl _) (Nat.le_refl _) hq ?_
  rintro _ _ _ _ _ ⟨rfl, rfl, rfl, rfl, rfl⟩ - -
  exact kk
theorem wp_csx {idx n dd : Nat} {y : MethodName} {Y2 : zY} {as : List Value} {v : Option Value} (hsp : Sx y Y2 dd (as) M L R v M' L' R') (hm : zMS y Y2 n) (hlink : Cond.methodLink Y.1 idx y ∈ lw_g) (hd : decode Y.2.1 pc = .ok (.invokestatic idx, 3)) (hn : as.length = n) (hdep : dd + 1 ≤ d) (hcat : (st.map fun v => v.category).sum ≤ 8)
    (hq : pc + 3 = q) (kk : WP w Y (d, SS, 0, 0) G E q loc (v.toList ++ st) SS M' L' R') : WP w Y (d, SS, 0, 0) G E pc loc (as.reverse ++ st) SS M L R := by
  refine wp_callSX (mc := 0) (ms := 0) hsp hm hlink hd hn hdep hcat (Nat.le_refl _) (Nat.le_refl _) hq ?_
  rintro _ _ _ _ _ ⟨rfl, rfl, rfl, rfl, rfl⟩ - -
  exact kk
theorem wp_iaddN {a b : Nat} (hd : decode Y.2.1 pc = .ok (.iadd, 1)) (hq : pc + 1 = q) (k : WP w Y B G E q loc (.int (nI (a + b)) :: st) S M L R) : WP w Y B G E pc loc (.int (nI b) :: .int (nI a) :: st) S M L R := by
  exact wp_iadd hd hq (by rw [nI_add]; exact k)
theorem wp_isubN {a b : Nat} (hd : decode Y.2.1 pc = .ok (.isub, 1)) (hle : b ≤ a) (hq : pc + 1 = q) (k : WP w Y B G E q loc (.int (nI (a - b)) :: st) S M L R) : WP w Y B G E pc loc (.int (nI b) :: .int (nI a) :: st) S M L R := by
  exact wp_isub hd hq (by rw [pk_sub hle]; exact k)
theorem wp_imulN {a b : Nat} (hd : decode Y.2.1 pc = .ok (.imul, 1)) (hq : pc + 1 = q) (k : WP w Y B G E q loc (.int (nI (a * b)) :: st) S M L R) : WP w Y B G E pc loc (.int (nI b) :: .int (nI a) :: st) S M L R := by
  exact wp_imul hd hq (by rw [pk_mul]; exact k)
theorem wp_idivN {a b : Nat} (hd : decode Y.2.1 pc = .ok (.idiv, 1)) (ha : a < 2147483648) (h0 : 0 < b) (hb : b < 2147483648) (hq : pc + 1 = q) (k : WP w Y B G E q loc (.int (nI (a / b)) :: st) S M L R) : WP w Y B G E pc loc (.int (nI b) :: .int (nI a) :: st) S M L R := by
  exact wp_idiv hd (nI_ne0 h0 hb) hq (by rw [pk_div ha h0 hb]; exact k)
theorem wp_iremN {a b : Nat} (hd : decode Y.2.1 pc = .ok (.irem, 1)) (ha : a < 2147483648) (h0 : 0 < b) (hb : b < 2147483648) (hq : pc + 1 = q) (k : WP w Y B G E q loc (.int (nI (a % b)) :: st) S M L R) : WP w Y B G E pc loc (.int (nI b) :: .int (nI a) :: st) S M L R := by
  exact wp_irem hd (nI_ne0 h0 hb) hq (by rw [pk_rem ha h0 hb]; exact k)
theorem wp_laddN {a b : Nat} (hd : decode Y.2.1 pc = .ok (.ladd, 1)) (hq : pc + 1 = q) (k : WP w Y B G E q loc (.long (lN (a + b)) :: st) S M L R) : WP w Y B G E pc loc (.long (lN b) :: .long (lN a) :: st) S M L R := by
  exact wp_ladd hd hq (by rw [lN_add]; exact k)
theorem wp_lsubN {a b : Nat} (hd : decode Y.2.1 pc = .ok (.lsub, 1)) (hle : b ≤ a) (hq : pc + 1 = q) (k : WP w Y B G E q loc (.long (lN (a - b)) :: st) S M L R) : WP w Y B G E pc loc (.long (lN b) :: .long (lN a) :: st) S M L R := by
  exact wp_lsub hd hq (by rw [lN_sub hle]; exact k)
theorem wp_lmulN {a b : Nat} (hd : decode Y.2.1 pc = .ok (.lmul, 1)) (hq : pc + 1 = q) (k : WP w Y B G E q loc (.long (lN (a * b)) :: st) S M L R) : WP w Y B G E pc loc (.long (lN b) :: .long (lN a) :: st) S M L R := by
  exact wp_lmul hd hq (by rw [lN_mul]; exact k)
theorem wp_ldivN {a b : Nat} (hd : decode Y.2.1 pc = .ok (.ldiv, 1)) (ha : a < 9223372036854775808) (h0 : 0 < b) (hb : b < 9223372036854775808) (hq : pc + 1 = q) (k : WP w Y B G E q loc (.long (lN (a / b)) :: st) S M L R) : WP w Y B G E pc loc (.long (lN b) :: .long (lN a) :: st) S M L R := by
  exact wp_ldiv hd (by rw [show (0 : Int64) = lN 0 from rfl, pk_lEQ hb (by decide)]; omega) hq (by rw [pk_lDiv ha h0 hb]; exact k)
theorem wp_lremN {a b : Nat} (hd : decode Y.2.1 pc = .ok (.lrem, 1)) (ha : a < 9223372036854775808) (h0 : 0 < b) (hb : b < 9223372036854775808) (hq : pc + 1 = q) (k : WP w Y B G E q loc (.long (lN (a % b)) :: st) S M L R) : WP w Y B G E pc loc (.long (lN b) :: .long (lN a) :: st) S M L R := by
  exact wp_lrem hd (by rw [show (0 : Int64) = lN 0 from rfl, pk_lEQ hb (by decide)]; omega) hq (by rw [pk_lRem ha h0 hb]; exact k)
theorem wp_i2lN {a : Nat} (hd : decode Y.2.1 pc = .ok (.i2l, 1)) (ha : a < 2147483648) (hq : pc + 1 = q) (k : WP w Y B G E q loc (.long (lN a) :: st) S M L R) : WP w Y B G E pc loc (.int (nI a) :: st) S M L R := by
  exact wp_i2l hd hq (by rw [nI_l ha]; exact k)
theorem wp_l2iN {a : Nat} (hd : decode Y.2.1 pc = .ok (.l2i, 1)) (hq : pc + 1 = q) (k : WP w Y B G E q loc (.int (nI a) :: st) S M L R) : WP w Y B G E pc loc (.long (lN a) :: st) S M L R := by
  exact wp_l2i hd hq (by rw [lN_i]; exact k)
theorem wp_iincN {i a n : Nat} {z : Int} (hd : decode Y.2.1 pc = .ok (.iinc i z, 3)) (hz : z = (n : Int)) (j : Nat) (hj : loc[j]? = some (i, .int (nI a))) (hn : i < Y.2.2.1) (h : (i, (.int (nI (a + n)) : Value)) :: loc.filter (fun q => !(q.1 == i) && !(q.1 + 1 == i && q.2.category == 2)) = loc') (hq : pc + 3 = q) (k : WP w Y B G E q loc' st S M L R) : WP w Y B G E pc loc st S M L R := by
  subst hz
  exact wp_iinc (v := nI (a + n)) hd j hj (by rw [← nI_add]; rfl) hn h hq k
theorem wp_iincM {i a : Nat} (hd : decode Y.2.1 pc = .ok (.iinc i (-1), 3)) (j : Nat) (hj : loc[j]? = some (i, .int (nI (a + 1)))) (hn : i < Y.2.2.1) (h : (i, (.int (nI a) : Value)) :: loc.filter (fun q => !(q.1 == i) && !(q.1 + 1 == i && q.2.category == 2)) = loc') (hq : pc + 3 = q) (k : WP w Y B G E q loc' st S M L R) : WP w Y B G E pc loc st S M L R := by
  exact wp_iinc (v := nI a) hd j hj (pk_m1 a) hn h hq k
theorem wp_icmp_eqN {a b : Nat} {off : Int} {tgt : Nat} (hd : decode Y.2.1 pc = .ok (.if_icmp .eq off, 3)) (ht : (pc : Int) + off = (tgt : Int)) (hq : pc + 3 = q) (ha : a < 2147483648) (hb : b < 2147483648) (kt : a = b → WP w Y B G E tgt loc st S M L R) (kf : ¬ a = b → WP w Y B G E q loc st S M L R) : WP w Y B G E pc loc (.int (nI b) :: .int (nI a) :: st) S M L R :=
  wp_icmp_eq hd ht hq (fun h => kt ((nI_eq ha hb).mp h)) (fun h => kf (fun e => h ((nI_eq ha hb).mpr e)))
theorem wp_icmp_neN {a b : Nat} {off : Int} {tgt : Nat} (hd : decode Y.2.1 pc = .ok (.if_icmp .ne off, 3)) (ht : (pc : Int) + off = (tgt : Int)) (hq : pc + 3 = q) (ha : a < 2147483648) (hb : b < 2147483648) (kt : ¬ a = b → WP w Y B G E tgt loc st S M L R) (kf : a = b → WP w Y B G E q loc st S M L R) : WP w Y B G E pc loc (.int (nI b) :: .int (nI a) :: st) S M L R :=
  wp_icmp_ne hd ht hq (fun h => kt (fun e => h ((nI_eq ha hb).mpr e))) (fun h => kf ((nI_eq ha hb).mp h))
theorem wp_icmp_ltN {a b : Nat} {off : Int} {tgt : Nat} (hd : decode Y.2.1 pc = .ok (.if_icmp .lt off, 3)) (ht : (pc : Int) + off = (tgt : Int)) (hq : pc + 3 = q) (ha : a < 2147483648) (hb : b < 2147483648) (kt : a < b → WP w Y B G E tgt loc st S M L R) (kf : b ≤ a → WP w Y B G E q loc st S M L R) : WP w Y B G E pc loc (.int (nI b) :: .int (nI a) :: st) S M L R :=
  wp_icmp_lt hd ht hq (fun h => kt ((nI_ltI ha hb).mp h)) (fun h => kf (Nat.not_lt.mp fun e => h ((nI_ltI ha hb).mpr e)))
theorem wp_icmp_geN {a b : Nat} {off : Int} {tgt : Nat} (hd : decode Y.2.1 pc = .ok (.if_icmp .ge off, 3)) (ht : (pc : Int) + off = (tgt : Int)) (hq : pc + 3 = q) (ha : a < 2147483648) (hb : b < 2147483648) (kt : b ≤ a → WP w Y B G E tgt loc st S M L R) (kf : a < b → WP w Y B G E q loc st S M L R) : WP w Y B G E pc loc (.int (nI b) :: .int (nI a) :: st) S M L R :=
  wp_icmp_ge hd ht hq (fun h => kt ((nI_leI hb ha).mp h)) (fun h => kf (Nat.not_le.mp fun e => h ((nI_leI hb ha).mpr e)))
theorem wp_icmp_gtN {a b : Nat} {off : Int} {tgt : Nat} (hd : decode Y.2.1 pc = .ok (.if_icmp .gt off, 3)) (ht : (pc : Int) + off = (tgt : Int)) (hq : pc + 3 = q) (ha : a < 2147483648) (hb : b < 2147483648) (kt : b < a → WP w Y B G E tgt loc st S M L R) (kf : a ≤ b → WP w Y B G E q loc st S M L R) : WP w Y B G E pc loc (.int (nI b) :: .int (nI a) :: st) S M L R :=
  wp_icmp_gt hd ht hq (fun h => kt ((nI_ltI hb ha).mp h)) (fun h => kf (Nat.not_lt.mp fun e => h ((nI_ltI hb ha).mpr e)))
theorem wp_icmp_leN {a b : Nat} {off : Int} {tgt : Nat} (hd : decode Y.2.1 pc = .ok (.if_icmp .le off, 3)) (ht : (pc : Int) + off = (tgt : Int)) (hq : pc + 3 = q) (ha : a < 2147483648) (hb : b < 2147483648) (kt : a ≤ b → WP w Y B G E tgt loc st S M L R) (kf : b < a → WP w Y B G E q loc st S M L R) : WP w Y B G E pc loc (.int (nI b) :: .int (nI a) :: st) S M L R :=
  wp_icmp_le hd ht hq (fun h => kt ((nI_leI ha hb).mp h)) (fun h => kf (Nat.not_le.mp fun e => h ((nI_leI ha hb).mpr e)))
theorem wp_if_eqN {a : Nat} {off : Int} {tgt : Nat} (hd : decode Y.2.1 pc = .ok (.ifCond .eq off, 3)) (ht : (pc : Int) + off = (tgt : Int)) (hq : pc + 3 = q) (ha : a < 2147483648) (kt : a = 0 → WP w Y B G E tgt loc st S M L R) (kf : ¬ a = 0 → WP w Y B G E q loc st S M L R) : WP w Y B G E pc loc (.int (nI a) :: st) S M L R :=
  wp_if_eq hd ht hq (fun h => kt ((nI_eq ha (by decide)).mp h)) (fun h => kf (fun e => h ((nI_eq ha (by decide)).mpr e)))
theorem wp_if_neN {a : Nat} {off : Int} {tgt : Nat} (hd : decode Y.2.1 pc = .ok (.ifCond .ne off, 3)) (ht : (pc : Int) + off = (tgt : Int)) (hq : pc + 3 = q) (ha : a < 2147483648) (kt : ¬ a = 0 → WP w Y B G E tgt loc st S M L R) (kf : a = 0 → WP w Y B G E q loc st S M L R) : WP w Y B G E pc loc (.int (nI a) :: st) S M L R :=
  wp_if_ne hd ht hq (fun h => kt (fun e => h ((nI_eq ha (by decide)).mpr e))) (fun h => kf ((nI_eq ha (by decide)).mp h))
theorem wp_if_ltN {a : Nat} {off : Int} {tgt : Nat} (hd : decode Y.2.1 pc = .ok (.ifCond .lt off, 3)) (ht : (pc : Int) + off = (tgt : Int)) (hq : pc + 3 = q) (ha : a < 2147483648) (kt : False → WP w Y B G E tgt loc st S M L R) (kf : True → WP w Y B G E q loc st S M L R) : WP w Y B G E pc loc (.int (nI a) :: st) S M L R :=
  wp_if_lt hd ht hq (fun h => absurd h (nI_pos ha)) (fun _ => kf trivial)
theorem wp_if_geN {a : Nat} {off : Int} {tgt : Nat} (hd : decode Y.2.1 pc = .ok (.ifCond .ge off, 3)) (ht : (pc : Int) + off = (tgt : Int)) (hq : pc + 3 = q) (ha : a < 2147483648) (kt : True → WP w Y B G E tgt loc st S M L R) (kf : False → WP w Y B G E q loc st S M L R) : WP w Y B G E pc loc (.int (nI a) :: st) S M L R :=
  wp_if_ge hd ht hq (fun _ => kt trivial) (fun h => absurd (nI_pos' ha) h)
theorem wp_if_gtN {a : Nat} {off : Int} {tgt : Nat} (hd : decode Y.2.1 pc = .ok (.ifCond .gt off, 3)) (ht : (pc : Int) + off = (tgt : Int)) (hq : pc + 3 = q) (ha : a < 2147483648) (kt : 0 < a → WP w Y B G E tgt loc st S M L R) (kf : a = 0 → WP w Y B G E q loc st S M L R) : WP w Y B G E pc loc (.int (nI a) :: st) S M L R :=
  wp_if_gt hd ht hq (fun h => kt ((nI_ltI (by decide) ha).mp h)) (fun h => kf (Nat.eq_zero_of_not_pos (fun e => h ((nI_ltI (by decide) ha).mpr e))))
theorem wp_if_leN {a : Nat} {off : Int} {tgt : Nat} (hd : decode Y.2.1 pc = .ok (.ifCond .le off, 3)) (ht : (pc : Int) + off = (tgt : Int)) (hq : pc + 3 = q) (ha : a < 2147483648) (kt : a = 0 → WP w Y B G E tgt loc st S M L R) (kf : 0 < a → WP w Y B G E q loc st S M L R) : WP w Y B G E pc loc (.int (nI a) :: st) S M L R :=
  wp_if_le hd ht hq (fun h => kt (Nat.le_zero.mp ((nI_leI ha (by decide)).mp h))) (fun h => kf (Nat.pos_of_ne_zero (fun e => h (by subst e; exact (nI_leI ha (by decide)).mpr (Nat.le_refl _)))))
theorem zlc_lt (x y : Int64) : lg_cmp x y < 0 ↔ x < y := by
  unfold lg_cmp
  by_cases h1 : x > y
  · rw [if_pos h1]
    refine iff_of_false (by decide) (fun h2 => ?_)
    rw [gt_iff_lt, Int64.lt_iff_toInt_lt] at h1
    rw [Int64.lt_iff_toInt_lt] at h2
    omega
  · rw [if_neg h1]
    by_cases h2 : x = y
    · rw [if_pos h2]
      exact iff_of_false (by decide) (fun h => by rw [Int64.lt_iff_toInt_lt] at h; subst h2; omega)
    · rw [if_neg h2]
      refine iff_of_true (by decide) ?_
      rw [gt_iff_lt, Int64.lt_iff_toInt_lt] at h1
      rw [Int64.lt_iff_toInt_lt]
      have h3 : x.toInt ≠ y.toInt := fun e => h2 (Int64.toInt_inj.mp e)
      omega
theorem zlc_eq (x y : Int64) : lg_cmp x y = 0 ↔ x = y := by
  unfold lg_cmp
  by_cases h1 : x > y
  · rw [if_pos h1]
    refine iff_of_false (by decide) (fun h2 => ?_)
    subst h2
    rw [gt_iff_lt, Int64.lt_iff_toInt_lt] at h1
    omega
  · rw [if_neg h1]
    by_cases h2 : x = y
    · rw [if_pos h2]; exact iff_of_true rfl h2
    · rw [if_neg h2]; exact iff_of_false (by decide) h2
theorem zlc_gt (x y : Int64) : 0 < lg_cmp x y ↔ y < x := by
  unfold lg_cmp
  by_cases h1 : x > y
  · rw [if_pos h1]; exact iff_of_true (by decide) h1
  · rw [if_neg h1]
    by_cases h2 : x = y
    · rw [if_pos h2]; exact iff_of_false (by decide) h1
    · rw [if_neg h2]; exact iff_of_false (by decide) h1
theorem zlc_le (x y : Int64) : lg_cmp x y ≤ 0 ↔ x ≤ y := by
  rw [← Int32.not_lt, zlc_gt, Int64.not_lt]
theorem zlc_ge (x y : Int64) : 0 ≤ lg_cmp x y ↔ y ≤ x := by
  rw [← Int32.not_lt, zlc_lt, Int64.not_lt]
theorem wp_lcmp_eq {x y : Int64} {off : Int} {p1 tgt : Nat} (hd0 : decode Y.2.1 pc = .ok (.lcmp, 1)) (hp1 : pc + 1 = p1) (hd : decode Y.2.1 p1 = .ok (.ifCond .eq off, 3)) (ht : (p1 : Int) + off = (tgt : Int)) (hq : p1 + 3 = q) (kt : x = y → WP w Y B G E tgt loc st S M L R) (kf : ¬ x = y → WP w Y B G E q loc st S M L R) : WP w Y B G E pc loc (.long y :: .long x :: st) S M L R :=
  wp_lcmp hd0 hp1 (wp_if_eq hd ht hq (fun h => kt ((zlc_eq x y).mp h)) (fun h => kf (fun e => h ((zlc_eq x y).mpr e))))
theorem wp_lcmp_ne {x y : Int64} {off : Int} {p1 tgt : Nat} (hd0 : decode Y.2.1 pc = .ok (.lcmp, 1)) (hp1 : pc + 1 = p1) (hd : decode Y.2.1 p1 = .ok (.ifCond .ne off, 3)) (ht : (p1 : Int) + off = (tgt : Int)) (hq : p1 + 3 = q) (kt : ¬ x = y → WP w Y B G E tgt loc st S M L R) (kf : x = y → WP w Y B G E q loc st S M L R) : WP w Y B G E pc loc (.long y :: .long x :: st) S M L R :=
  wp_lcmp hd0 hp1 (wp_if_ne hd ht hq (fun h => kt (fun e => h ((zlc_eq x y).mpr e))) (fun h => kf ((zlc_eq x y).mp h)))
theorem wp_lcmp_lt {x y : Int64} {off : Int} {p1 tgt : Nat} (hd0 : decode Y.2.1 pc = .ok (.lcmp, 1)) (hp1 : pc + 1 = p1) (hd : decode Y.2.1 p1 = .ok (.ifCond .lt off, 3)) (ht : (p1 : Int) + off = (tgt : Int)) (hq : p1 + 3 = q) (kt : x < y → WP w Y B G E tgt loc st S M L R) (kf : ¬ x < y → WP w Y B G E q loc st S M L R) : WP w Y B G E pc loc (.long y :: .long x :: st) S M L R :=
  wp_lcmp hd0 hp1 (wp_if_lt hd ht hq (fun h => kt ((zlc_lt x y).mp h)) (fun h => kf (fun e => h ((zlc_lt x y).mpr e))))
theorem wp_lcmp_ge {x y : Int64} {off : Int} {p1 tgt : Nat} (hd0 : decode Y.2.1 pc = .ok (.lcmp, 1)) (hp1 : pc + 1 = p1) (hd : decode Y.2.1 p1 = .ok (.ifCond .ge off, 3)) (ht : (p1 : Int) + off = (tgt : Int)) (hq : p1 + 3 = q) (kt : y ≤ x → WP w Y B G E tgt loc st S M L R) (kf : ¬ y ≤ x → WP w Y B G E q loc st S M L R) : WP w Y B G E pc loc (.long y :: .long x :: st) S M L R :=
  wp_lcmp hd0 hp1 (wp_if_ge hd ht hq (fun h => kt ((zlc_ge x y).mp h)) (fun h => kf (fun e => h ((zlc_ge x y).mpr e))))
theorem wp_lcmp_gt {x y : Int64} {off : Int} {p1 tgt : Nat} (hd0 : decode Y.2.1 pc = .ok (.lcmp, 1)) (hp1 : pc + 1 = p1) (hd : decode Y.2.1 p1 = .ok (.ifCond .gt off, 3)) (ht : (p1 : Int) + off = (tgt : Int)) (hq : p1 + 3 = q) (kt : y < x → WP w Y B G E tgt loc st S M L R) (kf : ¬ y < x → WP w Y B G E q loc st S M L R) : WP w Y B G E pc loc (.long y :: .long x :: st) S M L R :=
  wp_lcmp hd0 hp1 (wp_if_gt hd ht hq (fun h => kt ((zlc_gt x y).mp h)) (fun h => kf (fun e => h ((zlc_gt x y).mpr e))))
theorem wp_lcmp_le {x y : Int64} {off : Int} {p1 tgt : Nat} (hd0 : decode Y.2.1 pc = .ok (.lcmp, 1)) (hp1 : pc + 1 = p1) (hd : decode Y.2.1 p1 = .ok (.ifCond .le off, 3)) (ht : (p1 : Int) + off = (tgt : Int)) (hq : p1 + 3 = q) (kt : x ≤ y → WP w Y B G E tgt loc st S M L R) (kf : ¬ x ≤ y → WP w Y B G E q loc st S M L R) : WP w Y B G E pc loc (.long y :: .long x :: st) S M L R :=
  wp_lcmp hd0 hp1 (wp_if_le hd ht hq (fun h => kt ((zlc_le x y).mp h)) (fun h => kf (fun e => h ((zlc_le x y).mpr e))))
theorem wp_lcmp_eqN {a b : Nat} {off : Int} {p1 tgt : Nat} (hd0 : decode Y.2.1 pc = .ok (.lcmp, 1)) (hp1 : pc + 1 = p1) (hd : decode Y.2.1 p1 = .ok (.ifCond .eq off, 3)) (ht : (p1 : Int) + off = (tgt : Int)) (hq : p1 + 3 = q) (ha : a < 9223372036854775808) (hb : b < 9223372036854775808) (kt : a = b → WP w Y B G E tgt loc st S M L R) (kf : ¬ a = b → WP w Y B G E q loc st S M L R) : WP w Y B G E pc loc (.long (lN b) :: .long (lN a) :: st) S M L R :=
  wp_lcmp_eq hd0 hp1 hd ht hq (fun h => kt ((pk_lEQ ha hb).mp h)) (fun h => kf (fun e => h ((pk_lEQ ha hb).mpr e)))
theorem wp_lcmp_neN {a b : Nat} {off : Int} {p1 tgt : Nat} (hd0 : decode Y.2.1 pc = .ok (.lcmp, 1)) (hp1 : pc + 1 = p1) (hd : decode Y.2.1 p1 = .ok (.ifCond .ne off, 3)) (ht : (p1 : Int) + off = (tgt : Int)) (hq : p1 + 3 = q) (ha : a < 9223372036854775808) (hb : b < 9223372036854775808) (kt : ¬ a = b → WP w Y B G E tgt loc st S M L R) (kf : a = b → WP w Y B G E q loc st S M L R) : WP w Y B G E pc loc (.long (lN b) :: .long (lN a) :: st) S M L R :=
  wp_lcmp_ne hd0 hp1 hd ht hq (fun h => kt (fun e => h ((pk_lEQ ha hb).mpr e))) (fun h => kf ((pk_lEQ ha hb).mp h))
theorem wp_lcmp_ltN {a b : Nat} {off : Int} {p1 tgt : Nat} (hd0 : decode Y.2.1 pc = .ok (.lcmp, 1)) (hp1 : pc + 1 = p1) (hd : decode Y.2.1 p1 = .ok (.ifCond .lt off, 3)) (ht : (p1 : Int) + off = (tgt : Int)) (hq : p1 + 3 = q) (ha : a < 9223372036854775808) (hb : b < 9223372036854775808) (kt : a < b → WP w Y B G E tgt loc st S M L R) (kf : b ≤ a → WP w Y B G E q loc st S M L R) : WP w Y B G E pc loc (.long (lN b) :: .long (lN a) :: st) S M L R :=
  wp_lcmp_lt hd0 hp1 hd ht hq (fun h => kt ((pk_lLT ha hb).mp h)) (fun h => kf (Nat.not_lt.mp fun e => h ((pk_lLT ha hb).mpr e)))
theorem wp_lcmp_geN {a b : Nat} {off : Int} {p1 tgt : Nat} (hd0 : decode Y.2.1 pc = .ok (.lcmp, 1)) (hp1 : pc + 1 = p1) (hd : decode Y.2.1 p1 = .ok (.ifCond .ge off, 3)) (ht : (p1 : Int) + off = (tgt : Int)) (hq : p1 + 3 = q) (ha : a < 9223372036854775808) (hb : b < 9223372036854775808) (kt : b ≤ a → WP w Y B G E tgt loc st S M L R) (kf : a < b → WP w Y B G E q loc st S M L R) : WP w Y B G E pc loc (.long (lN b) :: .long (lN a) :: st) S M L R :=
  wp_lcmp_ge hd0 hp1 hd ht hq (fun h => kt ((pk_lLE hb ha).mp h)) (fun h => kf (Nat.not_le.mp fun e => h ((pk_lLE hb ha).mpr e)))
theorem wp_lcmp_gtN {a b : Nat} {off : Int} {p1 tgt : Nat} (hd0 : decode Y.2.1 pc = .ok (.lcmp, 1)) (hp1 : pc + 1 = p1) (hd : decode Y.2.1 p1 = .ok (.ifCond .gt off, 3)) (ht : (p1 : Int) + off = (tgt : Int)) (hq : p1 + 3 = q) (ha : a < 9223372036854775808) (hb : b < 9223372036854775808) (kt : b < a → WP w Y B G E tgt loc st S M L R) (kf : a ≤ b → WP w Y B G E q loc st S M L R) : WP w Y B G E pc loc (.long (lN b) :: .long (lN a) :: st) S M L R :=
  wp_lcmp_gt hd0 hp1 hd ht hq (fun h => kt ((pk_lLT hb ha).mp h)) (fun h => kf (Nat.not_lt.mp fun e => h ((pk_lLT hb ha).mpr e)))
theorem wp_lcmp_leN {a b : Nat} {off : Int} {p1 tgt : Nat} (hd0 : decode Y.2.1 pc = .ok (.lcmp, 1)) (hp1 : pc + 1 = p1) (hd : decode Y.2.1 p1 = .ok (.ifCond .le off, 3)) (ht : (p1 : Int) + off = (tgt : Int)) (hq : p1 + 3 = q) (ha : a < 9223372036854775808) (hb : b < 9223372036854775808) (kt : a ≤ b → WP w Y B G E tgt loc st S M L R) (kf : b < a → WP w Y B G E q loc st S M L R) : WP w Y B G E pc loc (.long (lN b) :: .long (lN a) :: st) S M L R :=
  wp_lcmp_le hd0 hp1 hd ht hq (fun h => kt ((pk_lLE ha hb).mp h)) (fun h => kf (Nat.not_le.mp fun e => h ((pk_lLE ha hb).mpr e)))
end
theorem zRf_c {t o k : Nat} (h1 : ¬ (o = 0 ∧ k = 4)) (h2 : ¬ (o = 0 ∧ k = 5)) (h3 : ¬ (o = 150 ∧ k = 0)) : zRf t o k = zRc o k := by
  unfold zRf
  rw [if_neg h1, if_neg h2, if_neg h3]
theorem zr_0_4 (t : Nat) : zRf t 0 4 = some t := rfl
theorem zr_0_5 (t : Nat) : zRf t 0 5 = some (34 - t) := rfl
theorem zr_150_0 (t : Nat) : zRf t 150 0 = some t := rfl
theorem zr_0_0 (t : Nat) : zRf t 0 0 = some 1 := (zRf_c (by decide) (by decide) (by decide)).trans (by decide +kernel)
theorem zr_0_2 (t : Nat) : zRf t 0 2 = some 2 := (zRf_c (by decide) (by decide) (by decide)).trans (by decide +kernel)
theorem zr_0_3 (t : Nat) : zRf t 0 3 = some 9 := (zRf_c (by decide) (by decide) (by decide)).trans (by decide +kernel)
theorem zr_0_6 (t : Nat) : zRf t 0 6 = some 38 := (zRf_c (by decide) (by decide) (by decide)).trans (by decide +kernel)
theorem zr_0_7 (t : Nat) : zRf t 0 7 = some 43 := (zRf_c (by decide) (by decide) (by decide)).trans (by decide +kernel)
theorem zr_0_8 (t : Nat) : zRf t 0 8 = some 48 := (zRf_c (by decide) (by decide) (by decide)).trans (by decide +kernel)
theorem zr_0_9 (t : Nat) : zRf t 0 9 = some 150 := (zRf_c (by decide) (by decide) (by decide)).trans (by decide +kernel)
theorem zr_0_10 (t : Nat) : zRf t 0 10 = some 156 := (zRf_c (by decide) (by decide) (by decide)).trans (by decide +kernel)
theorem zr_0_11 (t : Nat) : zRf t 0 11 = some 167 := (zRf_c (by decide) (by decide) (by decide)).trans (by decide +kernel)
theorem zr_0_12 (t : Nat) : zRf t 0 12 = some 172 := (zRf_c (by decide) (by decide) (by decide)).trans (by decide +kernel)
theorem zr_0_13 (t : Nat) : zRf t 0 13 = some 175 := (zRf_c (by decide) (by decide) (by decide)).trans (by decide +kernel)
theorem zr_0_18 (t : Nat) : zRf t 0 18 = some 176 := (zRf_c (by decide) (by decide) (by decide)).trans (by decide +kernel)
theorem zr_2_0 (t : Nat) : zRf t 2 0 = some 3 := (zRf_c (by decide) (by decide) (by decide)).trans (by decide +kernel)
theorem zr_2_1 (t : Nat) : zRf t 2 1 = some 4 := (zRf_c (by decide) (by decide) (by decide)).trans (by decide +kernel)
theorem zr_2_2 (t : Nat) : zRf t 2 2 = some 5 := (zRf_c (by decide) (by decide) (by decide)).trans (by decide +kernel)
theorem zr_2_3 (t : Nat) : zRf t 2 3 = some 6 := (zRf_c (by decide) (by decide) (by decide)).trans (by decide +kernel)
theorem zr_2_4 (t : Nat) : zRf t 2 4 = some 7 := (zRf_c (by decide) (by decide) (by decide)).trans (by decide +kernel)
theorem zr_2_5 (t : Nat) : zRf t 2 5 = some 8 := (zRf_c (by decide) (by decide) (by decide)).trans (by decide +kernel)
theorem zr_9_0 (t : Nat) : zRf t 9 0 = some 2 := (zRf_c (by decide) (by decide) (by decide)).trans (by decide +kernel)
theorem zr_10_2 (t : Nat) : zRf t 10 2 = some 11 := (zRf_c (by decide) (by decide) (by decide)).trans (by decide +kernel)
theorem zr_10_3 (t : Nat) : zRf t 10 3 = some 12 := (zRf_c (by decide) (by decide) (by decide)).trans (by decide +kernel)
theorem zr_10_4 (t : Nat) : zRf t 10 4 = some 13 := (zRf_c (by decide) (by decide) (by decide)).trans (by decide +kernel)
theorem zr_10_5 (t : Nat) : zRf t 10 5 = some 14 := (zRf_c (by decide) (by decide) (by decide)).trans (by decide +kernel)
theorem zr_10_6 (t : Nat) : zRf t 10 6 = some 15 := (zRf_c (by decide) (by decide) (by decide)).trans (by decide +kernel)
theorem zr_10_8 (t : Nat) : zRf t 10 8 = some 16 := (zRf_c (by decide) (by decide) (by decide)).trans (by decide +kernel)
theorem zr_10_9 (t : Nat) : zRf t 10 9 = some 17 := (zRf_c (by decide) (by decide) (by decide)).trans (by decide +kernel)
theorem zr_10_13 (t : Nat) : zRf t 10 13 = some 18 := (zRf_c (by decide) (by decide) (by decide)).trans (by decide +kernel)
theorem zr_10_14 (t : Nat) : zRf t 10 14 = some 21 := (zRf_c (by decide) (by decide) (by decide)).trans (by decide +kernel)
theorem zr_18_0 (t : Nat) : zRf t 18 0 = some 19 := (zRf_c (by decide) (by decide) (by decide)).trans (by decide +kernel)
theorem zr_18_1 (t : Nat) : zRf t 18 1 = some 20 := (zRf_c (by decide) (by decide) (by decide)).trans (by decide +kernel)
theorem zr_21_0 (t : Nat) : zRf t 21 0 = some 22 := (zRf_c (by decide) (by decide) (by decide)).trans (by decide +kernel)
theorem zr_21_1 (t : Nat) : zRf t 21 1 = some 23 := (zRf_c (by decide) (by decide) (by decide)).trans (by decide +kernel)
theorem zr_24_2 (t : Nat) : zRf t 24 2 = some 25 := (zRf_c (by decide) (by decide) (by decide)).trans (by decide +kernel)
theorem zr_24_3 (t : Nat) : zRf t 24 3 = some 26 := (zRf_c (by decide) (by decide) (by decide)).trans (by decide +kernel)
theorem zr_24_4 (t : Nat) : zRf t 24 4 = some 27 := (zRf_c (by decide) (by decide) (by decide)).trans (by decide +kernel)
theorem zr_24_5 (t : Nat) : zRf t 24 5 = some 28 := (zRf_c (by decide) (by decide) (by decide)).trans (by decide +kernel)
theorem zr_24_6 (t : Nat) : zRf t 24 6 = some 29 := (zRf_c (by decide) (by decide) (by decide)).trans (by decide +kernel)
theorem zr_24_8 (t : Nat) : zRf t 24 8 = some 30 := (zRf_c (by decide) (by decide) (by decide)).trans (by decide +kernel)
theorem zr_24_9 (t : Nat) : zRf t 24 9 = some 31 := (zRf_c (by decide) (by decide) (by decide)).trans (by decide +kernel)
theorem zr_24_13 (t : Nat) : zRf t 24 13 = some 32 := (zRf_c (by decide) (by decide) (by decide)).trans (by decide +kernel)
theorem zr_24_14 (t : Nat) : zRf t 24 14 = some 35 := (zRf_c (by decide) (by decide) (by decide)).trans (by decide +kernel)
theorem zr_32_0 (t : Nat) : zRf t 32 0 = some 33 := (zRf_c (by decide) (by decide) (by decide)).trans (by decide +kernel)
theorem zr_32_1 (t : Nat) : zRf t 32 1 = some 34 := (zRf_c (by decide) (by decide) (by decide)).trans (by decide +kernel)
theorem zr_35_0 (t : Nat) : zRf t 35 0 = some 36 := (zRf_c (by decide) (by decide) (by decide)).trans (by decide +kernel)
theorem zr_35_1 (t : Nat) : zRf t 35 1 = some 37 := (zRf_c (by decide) (by decide) (by decide)).trans (by decide +kernel)
theorem zr_38_0 (t : Nat) : zRf t 38 0 = some 2 := (zRf_c (by decide) (by decide) (by decide)).trans (by decide +kernel)
theorem zr_38_1 (t : Nat) : zRf t 38 1 = some 9 := (zRf_c (by decide) (by decide) (by decide)).trans (by decide +kernel)
theorem zr_38_2 (t : Nat) : zRf t 38 2 = some 39 := (zRf_c (by decide) (by decide) (by decide)).trans (by decide +kernel)
theorem zr_38_3 (t : Nat) : zRf t 38 3 = some 42 := (zRf_c (by decide) (by decide) (by decide)).trans (by decide +kernel)
theorem zr_39_0 (t : Nat) : zRf t 39 0 = some 40 := (zRf_c (by decide) (by decide) (by decide)).trans (by decide +kernel)
theorem zr_39_1 (t : Nat) : zRf t 39 1 = some 41 := (zRf_c (by decide) (by decide) (by decide)).trans (by decide +kernel)
theorem zr_43_4 (t : Nat) : zRf t 43 4 = some 44 := (zRf_c (by decide) (by decide) (by decide)).trans (by decide +kernel)
theorem zr_43_5 (t : Nat) : zRf t 43 5 = some 45 := (zRf_c (by decide) (by decide) (by decide)).trans (by decide +kernel)
theorem zr_43_6 (t : Nat) : zRf t 43 6 = some 46 := (zRf_c (by decide) (by decide) (by decide)).trans (by decide +kernel)
theorem zr_43_7 (t : Nat) : zRf t 43 7 = some 47 := (zRf_c (by decide) (by decide) (by decide)).trans (by decide +kernel)
theorem zr_48_0 (t : Nat) : zRf t 48 0 = some 49 := (zRf_c (by decide) (by decide) (by decide)).trans (by decide +kernel)
theorem zr_49_0 (t : Nat) : zRf t 49 0 = some 50 := (zRf_c (by decide) (by decide) (by decide)).trans (by decide +kernel)
theorem zr_49_1 (t : Nat) : zRf t 49 1 = some 55 := (zRf_c (by decide) (by decide) (by decide)).trans (by decide +kernel)
theorem zr_49_2 (t : Nat) : zRf t 49 2 = some 60 := (zRf_c (by decide) (by decide) (by decide)).trans (by decide +kernel)
theorem zr_49_3 (t : Nat) : zRf t 49 3 = some 65 := (zRf_c (by decide) (by decide) (by decide)).trans (by decide +kernel)
theorem zr_49_4 (t : Nat) : zRf t 49 4 = some 70 := (zRf_c (by decide) (by decide) (by decide)).trans (by decide +kernel)
theorem zr_49_5 (t : Nat) : zRf t 49 5 = some 75 := (zRf_c (by decide) (by decide) (by decide)).trans (by decide +kernel)
theorem zr_49_6 (t : Nat) : zRf t 49 6 = some 80 := (zRf_c (by decide) (by decide) (by decide)).trans (by decide +kernel)
theorem zr_49_7 (t : Nat) : zRf t 49 7 = some 85 := (zRf_c (by decide) (by decide) (by decide)).trans (by decide +kernel)
theorem zr_49_8 (t : Nat) : zRf t 49 8 = some 90 := (zRf_c (by decide) (by decide) (by decide)).trans (by decide +kernel)
theorem zr_49_9 (t : Nat) : zRf t 49 9 = some 95 := (zRf_c (by decide) (by decide) (by decide)).trans (by decide +kernel)
theorem zr_49_10 (t : Nat) : zRf t 49 10 = some 100 := (zRf_c (by decide) (by decide) (by decide)).trans (by decide +kernel)
theorem zr_49_11 (t : Nat) : zRf t 49 11 = some 105 := (zRf_c (by decide) (by decide) (by decide)).trans (by decide +kernel)
theorem zr_49_12 (t : Nat) : zRf t 49 12 = some 110 := (zRf_c (by decide) (by decide) (by decide)).trans (by decide +kernel)
theorem zr_49_13 (t : Nat) : zRf t 49 13 = some 115 := (zRf_c (by decide) (by decide) (by decide)).trans (by decide +kernel)
theorem zr_49_14 (t : Nat) : zRf t 49 14 = some 120 := (zRf_c (by decide) (by decide) (by decide)).trans (by decide +kernel)
theorem zr_49_15 (t : Nat) : zRf t 49 15 = some 125 := (zRf_c (by decide) (by decide) (by decide)).trans (by decide +kernel)
theorem zr_49_16 (t : Nat) : zRf t 49 16 = some 130 := (zRf_c (by decide) (by decide) (by decide)).trans (by decide +kernel)
theorem zr_49_17 (t : Nat) : zRf t 49 17 = some 135 := (zRf_c (by decide) (by decide) (by decide)).trans (by decide +kernel)
theorem zr_49_18 (t : Nat) : zRf t 49 18 = some 140 := (zRf_c (by decide) (by decide) (by decide)).trans (by decide +kernel)
theorem zr_49_19 (t : Nat) : zRf t 49 19 = some 145 := (zRf_c (by decide) (by decide) (by decide)).trans (by decide +kernel)
theorem zr_50_4 (t : Nat) : zRf t 50 4 = some 51 := (zRf_c (by decide) (by decide) (by decide)).trans (by decide +kernel)
theorem zr_50_5 (t : Nat) : zRf t 50 5 = some 52 := (zRf_c (by decide) (by decide) (by decide)).trans (by decide +kernel)
theorem zr_50_6 (t : Nat) : zRf t 50 6 = some 53 := (zRf_c (by decide) (by decide) (by decide)).trans (by decide +kernel)
theorem zr_50_7 (t : Nat) : zRf t 50 7 = some 54 := (zRf_c (by decide) (by decide) (by decide)).trans (by decide +kernel)
theorem zr_55_4 (t : Nat) : zRf t 55 4 = some 56 := (zRf_c (by decide) (by decide) (by decide)).trans (by decide +kernel)
theorem zr_55_5 (t : Nat) : zRf t 55 5 = some 57 := (zRf_c (by decide) (by decide) (by decide)).trans (by decide +kernel)
theorem zr_55_6 (t : Nat) : zRf t 55 6 = some 58 := (zRf_c (by decide) (by decide) (by decide)).trans (by decide +kernel)
theorem zr_55_7 (t : Nat) : zRf t 55 7 = some 59 := (zRf_c (by decide) (by decide) (by decide)).trans (by decide +kernel)
theorem zr_60_4 (t : Nat) : zRf t 60 4 = some 61 := (zRf_c (by decide) (by decide) (by decide)).trans (by decide +kernel)
theorem zr_60_5 (t : Nat) : zRf t 60 5 = some 62 := (zRf_c (by decide) (by decide) (by decide)).trans (by decide +kernel)
theorem zr_60_6 (t : Nat) : zRf t 60 6 = some 63 := (zRf_c (by decide) (by decide) (by decide)).trans (by decide +kernel)
theorem zr_60_7 (t : Nat) : zRf t 60 7 = some 64 := (zRf_c (by decide) (by decide) (by decide)).trans (by decide +kernel)
theorem zr_65_4 (t : Nat) : zRf t 65 4 = some 66 := (zRf_c (by decide) (by decide) (by decide)).trans (by decide +kernel)
theorem zr_65_5 (t : Nat) : zRf t 65 5 = some 67 := (zRf_c (by decide) (by decide) (by decide)).trans (by decide +kernel)
theorem zr_65_6 (t : Nat) : zRf t 65 6 = some 68 := (zRf_c (by decide) (by decide) (by decide)).trans (by decide +kernel)
theorem zr_65_7 (t : Nat) : zRf t 65 7 = some 69 := (zRf_c (by decide) (by decide) (by decide)).trans (by decide +kernel)
theorem zr_70_4 (t : Nat) : zRf t 70 4 = some 71 := (zRf_c (by decide) (by decide) (by decide)).trans (by decide +kernel)
theorem zr_70_5 (t : Nat) : zRf t 70 5 = some 72 := (zRf_c (by decide) (by decide) (by decide)).trans (by decide +kernel)
theorem zr_70_6 (t : Nat) : zRf t 70 6 = some 73 := (zRf_c (by decide) (by decide) (by decide)).trans (by decide +kernel)
theorem zr_70_7 (t : Nat) : zRf t 70 7 = some 74 := (zRf_c (by decide) (by decide) (by decide)).trans (by decide +kernel)
theorem zr_75_4 (t : Nat) : zRf t 75 4 = some 76 := (zRf_c (by decide) (by decide) (by decide)).trans (by decide +kernel)
theorem zr_75_5 (t : Nat) : zRf t 75 5 = some 77 := (zRf_c (by decide) (by decide) (by decide)).trans (by decide +kernel)
theorem zr_75_6 (t : Nat) : zRf t 75 6 = some 78 := (zRf_c (by decide) (by decide) (by decide)).trans (by decide +kernel)
theorem zr_75_7 (t : Nat) : zRf t 75 7 = some 79 := (zRf_c (by decide) (by decide) (by decide)).trans (by decide +kernel)
theorem zr_80_4 (t : Nat) : zRf t 80 4 = some 81 := (zRf_c (by decide) (by decide) (by decide)).trans (by decide +kernel)
theorem zr_80_5 (t : Nat) : zRf t 80 5 = some 82 := (zRf_c (by decide) (by decide) (by decide)).trans (by decide +kernel)
theorem zr_80_6 (t : Nat) : zRf t 80 6 = some 83 := (zRf_c (by decide) (by decide) (by decide)).trans (by decide +kernel)
theorem zr_80_7 (t : Nat) : zRf t 80 7 = some 84 := (zRf_c (by decide) (by decide) (by decide)).trans (by decide +kernel)
theorem zr_85_4 (t : Nat) : zRf t 85 4 = some 86 := (zRf_c (by decide) (by decide) (by decide)).trans (by decide +kernel)
theorem zr_85_5 (t : Nat) : zRf t 85 5 = some 87 := (zRf_c (by decide) (by decide) (by decide)).trans (by decide +kernel)
theorem zr_85_6 (t : Nat) : zRf t 85 6 = some 88 := (zRf_c (by decide) (by decide) (by decide)).trans (by decide +kernel)
theorem zr_85_7 (t : Nat) : zRf t 85 7 = some 89 := (zRf_c (by decide) (by decide) (by decide)).trans (by decide +kernel)
theorem zr_90_4 (t : Nat) : zRf t 90 4 = some 91 := (zRf_c (by decide) (by decide) (by decide)).trans (by decide +kernel)
theorem zr_90_5 (t : Nat) : zRf t 90 5 = some 92 := (zRf_c (by decide) (by decide) (by decide)).trans (by decide +kernel)
theorem zr_90_6 (t : Nat) : zRf t 90 6 = some 93 := (zRf_c (by decide) (by decide) (by decide)).trans (by decide +kernel)
theorem zr_90_7 (t : Nat) : zRf t 90 7 = some 94 := (zRf_c (by decide) (by decide) (by decide)).trans (by decide +kernel)
theorem zr_95_4 (t : Nat) : zRf t 95 4 = some 96 := (zRf_c (by decide) (by decide) (by decide)).trans (by decide +kernel)
theorem zr_95_5 (t : Nat) : zRf t 95 5 = some 97 := (zRf_c (by decide) (by decide) (by decide)).trans (by decide +kernel)
theorem zr_95_6 (t : Nat) : zRf t 95 6 = some 98 := (zRf_c (by decide) (by decide) (by decide)).trans (by decide +kernel)
theorem zr_95_7 (t : Nat) : zRf t 95 7 = some 99 := (zRf_c (by decide) (by decide) (by decide)).trans (by decide +kernel)
theorem zr_100_4 (t : Nat) : zRf t 100 4 = some 101 := (zRf_c (by decide) (by decide) (by decide)).trans (by decide +kernel)
theorem zr_100_5 (t : Nat) : zRf t 100 5 = some 102 := (zRf_c (by decide) (by decide) (by decide)).trans (by decide +kernel)
theorem zr_100_6 (t : Nat) : zRf t 100 6 = some 103 := (zRf_c (by decide) (by decide) (by decide)).trans (by decide +kernel)
theorem zr_100_7 (t : Nat) : zRf t 100 7 = some 104 := (zRf_c (by decide) (by decide) (by decide)).trans (by decide +kernel)
theorem zr_105_4 (t : Nat) : zRf t 105 4 = some 106 := (zRf_c (by decide) (by decide) (by decide)).trans (by decide +kernel)
theorem zr_105_5 (t : Nat) : zRf t 105 5 = some 107 := (zRf_c (by decide) (by decide) (by decide)).trans (by decide +kernel)
theorem zr_105_6 (t : Nat) : zRf t 105 6 = some 108 := (zRf_c (by decide) (by decide) (by decide)).trans (by decide +kernel)
theorem zr_105_7 (t : Nat) : zRf t 105 7 = some 109 := (zRf_c (by decide) (by decide) (by decide)).trans (by decide +kernel)
theorem zr_110_4 (t : Nat) : zRf t 110 4 = some 111 := (zRf_c (by decide) (by decide) (by decide)).trans (by decide +kernel)
theorem zr_110_5 (t : Nat) : zRf t 110 5 = some 112 := (zRf_c (by decide) (by decide) (by decide)).trans (by decide +kernel)
theorem zr_110_6 (t : Nat) : zRf t 110 6 = some 113 := (zRf_c (by decide) (by decide) (by decide)).trans (by decide +kernel)
theorem zr_110_7 (t : Nat) : zRf t 110 7 = some 114 := (zRf_c (by decide) (by decide) (by decide)).trans (by decide +kernel)
theorem zr_115_4 (t : Nat) : zRf t 115 4 = some 116 := (zRf_c (by decide) (by decide) (by decide)).trans (by decide +kernel)
theorem zr_115_5 (t : Nat) : zRf t 115 5 = some 117 := (zRf_c (by decide) (by decide) (by decide)).trans (by decide +kernel)
theorem zr_115_6 (t : Nat) : zRf t 115 6 = some 118 := (zRf_c (by decide) (by decide) (by decide)).trans (by decide +kernel)
theorem zr_115_7 (t : Nat) : zRf t 115 7 = some 119 := (zRf_c (by decide) (by decide) (by decide)).trans (by decide +kernel)
theorem zr_120_4 (t : Nat) : zRf t 120 4 = some 121 := (zRf_c (by decide) (by decide) (by decide)).trans (by decide +kernel)
theorem zr_120_5 (t : Nat) : zRf t 120 5 = some 122 := (zRf_c (by decide) (by decide) (by decide)).trans (by decide +kernel)
theorem zr_120_6 (t : Nat) : zRf t 120 6 = some 123 := (zRf_c (by decide) (by decide) (by decide)).trans (by decide +kernel)
theorem zr_120_7 (t : Nat) : zRf t 120 7 = some 124 := (zRf_c (by decide) (by decide) (by decide)).trans (by decide +kernel)
theorem zr_125_4 (t : Nat) : zRf t 125 4 = some 126 := (zRf_c (by decide) (by decide) (by decide)).trans (by decide +kernel)
theorem zr_125_5 (t : Nat) : zRf t 125 5 = some 127 := (zRf_c (by decide) (by decide) (by decide)).trans (by decide +kernel)
theorem zr_125_6 (t : Nat) : zRf t 125 6 = some 128 := (zRf_c (by decide) (by decide) (by decide)).trans (by decide +kernel)
theorem zr_125_7 (t : Nat) : zRf t 125 7 = some 129 := (zRf_c (by decide) (by decide) (by decide)).trans (by decide +kernel)
theorem zr_130_4 (t : Nat) : zRf t 130 4 = some 131 := (zRf_c (by decide) (by decide) (by decide)).trans (by decide +kernel)
theorem zr_130_5 (t : Nat) : zRf t 130 5 = some 132 := (zRf_c (by decide) (by decide) (by decide)).trans (by decide +kernel)
theorem zr_130_6 (t : Nat) : zRf t 130 6 = some 133 := (zRf_c (by decide) (by decide) (by decide)).trans (by decide +kernel)
theorem zr_130_7 (t : Nat) : zRf t 130 7 = some 134 := (zRf_c (by decide) (by decide) (by decide)).trans (by decide +kernel)
theorem zr_135_4 (t : Nat) : zRf t 135 4 = some 136 := (zRf_c (by decide) (by decide) (by decide)).trans (by decide +kernel)
theorem zr_135_5 (t : Nat) : zRf t 135 5 = some 137 := (zRf_c (by decide) (by decide) (by decide)).trans (by decide +kernel)
theorem zr_135_6 (t : Nat) : zRf t 135 6 = some 138 := (zRf_c (by decide) (by decide) (by decide)).trans (by decide +kernel)
theorem zr_135_7 (t : Nat) : zRf t 135 7 = some 139 := (zRf_c (by decide) (by decide) (by decide)).trans (by decide +kernel)
theorem zr_140_4 (t : Nat) : zRf t 140 4 = some 141 := (zRf_c (by decide) (by decide) (by decide)).trans (by decide +kernel)
theorem zr_140_5 (t : Nat) : zRf t 140 5 = some 142 := (zRf_c (by decide) (by decide) (by decide)).trans (by decide +kernel)
theorem zr_140_6 (t : Nat) : zRf t 140 6 = some 143 := (zRf_c (by decide) (by decide) (by decide)).trans (by decide +kernel)
theorem zr_140_7 (t : Nat) : zRf t 140 7 = some 144 := (zRf_c (by decide) (by decide) (by decide)).trans (by decide +kernel)
theorem zr_145_4 (t : Nat) : zRf t 145 4 = some 146 := (zRf_c (by decide) (by decide) (by decide)).trans (by decide +kernel)
theorem zr_145_5 (t : Nat) : zRf t 145 5 = some 147 := (zRf_c (by decide) (by decide) (by decide)).trans (by decide +kernel)
theorem zr_145_6 (t : Nat) : zRf t 145 6 = some 148 := (zRf_c (by decide) (by decide) (by decide)).trans (by decide +kernel)
theorem zr_145_7 (t : Nat) : zRf t 145 7 = some 149 := (zRf_c (by decide) (by decide) (by decide)).trans (by decide +kernel)
theorem zr_150_1 (t : Nat) : zRf t 150 1 = some 151 := (zRf_c (by decide) (by decide) (by decide)).trans (by decide +kernel)
theorem zr_150_2 (t : Nat) : zRf t 150 2 = some 152 := (zRf_c (by decide) (by decide) (by decide)).trans (by decide +kernel)
theorem zr_150_3 (t : Nat) : zRf t 150 3 = some 153 := (zRf_c (by decide) (by decide) (by decide)).trans (by decide +kernel)
theorem zr_150_4 (t : Nat) : zRf t 150 4 = some 154 := (zRf_c (by decide) (by decide) (by decide)).trans (by decide +kernel)
theorem zr_150_5 (t : Nat) : zRf t 150 5 = some 155 := (zRf_c (by decide) (by decide) (by decide)).trans (by decide +kernel)
theorem zr_156_0 (t : Nat) : zRf t 156 0 = some 150 := (zRf_c (by decide) (by decide) (by decide)).trans (by decide +kernel)
theorem zr_156_1 (t : Nat) : zRf t 156 1 = some 157 := (zRf_c (by decide) (by decide) (by decide)).trans (by decide +kernel)
theorem zr_156_2 (t : Nat) : zRf t 156 2 = some 162 := (zRf_c (by decide) (by decide) (by decide)).trans (by decide +kernel)
theorem zr_157_4 (t : Nat) : zRf t 157 4 = some 158 := (zRf_c (by decide) (by decide) (by decide)).trans (by decide +kernel)
theorem zr_157_5 (t : Nat) : zRf t 157 5 = some 159 := (zRf_c (by decide) (by decide) (by decide)).trans (by decide +kernel)
theorem zr_157_6 (t : Nat) : zRf t 157 6 = some 160 := (zRf_c (by decide) (by decide) (by decide)).trans (by decide +kernel)
theorem zr_157_7 (t : Nat) : zRf t 157 7 = some 161 := (zRf_c (by decide) (by decide) (by decide)).trans (by decide +kernel)
theorem zr_162_4 (t : Nat) : zRf t 162 4 = some 163 := (zRf_c (by decide) (by decide) (by decide)).trans (by decide +kernel)
theorem zr_162_5 (t : Nat) : zRf t 162 5 = some 164 := (zRf_c (by decide) (by decide) (by decide)).trans (by decide +kernel)
theorem zr_162_6 (t : Nat) : zRf t 162 6 = some 165 := (zRf_c (by decide) (by decide) (by decide)).trans (by decide +kernel)
theorem zr_162_7 (t : Nat) : zRf t 162 7 = some 166 := (zRf_c (by decide) (by decide) (by decide)).trans (by decide +kernel)
theorem zr_167_0 (t : Nat) : zRf t 167 0 = some 150 := (zRf_c (by decide) (by decide) (by decide)).trans (by decide +kernel)
theorem zr_167_1 (t : Nat) : zRf t 167 1 = some 168 := (zRf_c (by decide) (by decide) (by decide)).trans (by decide +kernel)
theorem zr_167_2 (t : Nat) : zRf t 167 2 = some 169 := (zRf_c (by decide) (by decide) (by decide)).trans (by decide +kernel)
theorem zr_167_3 (t : Nat) : zRf t 167 3 = some 170 := (zRf_c (by decide) (by decide) (by decide)).trans (by decide +kernel)
theorem zr_167_5 (t : Nat) : zRf t 167 5 = some 171 := (zRf_c (by decide) (by decide) (by decide)).trans (by decide +kernel)
theorem zr_172_0 (t : Nat) : zRf t 172 0 = some 173 := (zRf_c (by decide) (by decide) (by decide)).trans (by decide +kernel)
theorem zr_172_1 (t : Nat) : zRf t 172 1 = some 174 := (zRf_c (by decide) (by decide) (by decide)).trans (by decide +kernel)
theorem zr_177_0 (t : Nat) : zRf t 177 0 = some 178 := (zRf_c (by decide) (by decide) (by decide)).trans (by decide +kernel)
theorem zr_177_9 (t : Nat) : zRf t 177 9 = some 179 := (zRf_c (by decide) (by decide) (by decide)).trans (by decide +kernel)
theorem zr_177_10 (t : Nat) : zRf t 177 10 = some 180 := (zRf_c (by decide) (by decide) (by decide)).trans (by decide +kernel)
theorem zr_177_11 (t : Nat) : zRf t 177 11 = some 181 := (zRf_c (by decide) (by decide) (by decide)).trans (by decide +kernel)
theorem zr_177_12 (t : Nat) : zRf t 177 12 = some 182 := (zRf_c (by decide) (by decide) (by decide)).trans (by decide +kernel)
theorem zr_177_13 (t : Nat) : zRf t 177 13 = some 183 := (zRf_c (by decide) (by decide) (by decide)).trans (by decide +kernel)
theorem zr_177_14 (t : Nat) : zRf t 177 14 = some 184 := (zRf_c (by decide) (by decide) (by decide)).trans (by decide +kernel)
theorem zr_177_15 (t : Nat) : zRf t 177 15 = some 185 := (zRf_c (by decide) (by decide) (by decide)).trans (by decide +kernel)
theorem zr_177_16 (t : Nat) : zRf t 177 16 = some 186 := (zRf_c (by decide) (by decide) (by decide)).trans (by decide +kernel)
theorem zr_177_17 (t : Nat) : zRf t 177 17 = some 187 := (zRf_c (by decide) (by decide) (by decide)).trans (by decide +kernel)
theorem zr_177_18 (t : Nat) : zRf t 177 18 = some 188 := (zRf_c (by decide) (by decide) (by decide)).trans (by decide +kernel)
theorem zr_177_19 (t : Nat) : zRf t 177 19 = some 189 := (zRf_c (by decide) (by decide) (by decide)).trans (by decide +kernel)
theorem zr_177_20 (t : Nat) : zRf t 177 20 = some 190 := (zRf_c (by decide) (by decide) (by decide)).trans (by decide +kernel)
theorem zr_177_21 (t : Nat) : zRf t 177 21 = some 191 := (zRf_c (by decide) (by decide) (by decide)).trans (by decide +kernel)
theorem zr_177_22 (t : Nat) : zRf t 177 22 = some 192 := (zRf_c (by decide) (by decide) (by decide)).trans (by decide +kernel)
theorem zr_177_23 (t : Nat) : zRf t 177 23 = some 193 := (zRf_c (by decide) (by decide) (by decide)).trans (by decide +kernel)
theorem zr_177_24 (t : Nat) : zRf t 177 24 = some 194 := (zRf_c (by decide) (by decide) (by decide)).trans (by decide +kernel)
theorem zr_177_25 (t : Nat) : zRf t 177 25 = some 195 := (zRf_c (by decide) (by decide) (by decide)).trans (by decide +kernel)
theorem zr_177_26 (t : Nat) : zRf t 177 26 = some 196 := (zRf_c (by decide) (by decide) (by decide)).trans (by decide +kernel)
theorem zr_177_27 (t : Nat) : zRf t 177 27 = some 197 := (zRf_c (by decide) (by decide) (by decide)).trans (by decide +kernel)
theorem zr_177_28 (t : Nat) : zRf t 177 28 = some 198 := (zRf_c (by decide) (by decide) (by decide)).trans (by decide +kernel)
theorem zr_177_29 (t : Nat) : zRf t 177 29 = some 199 := (zRf_c (by decide) (by decide) (by decide)).trans (by decide +kernel)
theorem zr_177_30 (t : Nat) : zRf t 177 30 = some 200 := (zRf_c (by decide) (by decide) (by decide)).trans (by decide +kernel)
theorem zr_177_31 (t : Nat) : zRf t 177 31 = some 201 := (zRf_c (by decide) (by decide) (by decide)).trans (by decide +kernel)
theorem zr_177_32 (t : Nat) : zRf t 177 32 = some 202 := (zRf_c (by decide) (by decide) (by decide)).trans (by decide +kernel)
theorem zr_177_33 (t : Nat) : zRf t 177 33 = some 203 := (zRf_c (by decide) (by decide) (by decide)).trans (by decide +kernel)
theorem zr_177_35 (t : Nat) : zRf t 177 35 = some 204 := (zRf_c (by decide) (by decide) (by decide)).trans (by decide +kernel)
theorem zr_177_36 (t : Nat) : zRf t 177 36 = some 205 := (zRf_c (by decide) (by decide) (by decide)).trans (by decide +kernel)
theorem zr_177_37 (t : Nat) : zRf t 177 37 = some 206 := (zRf_c (by decide) (by decide) (by decide)).trans (by decide +kernel)
theorem zr_177_38 (t : Nat) : zRf t 177 38 = some 207 := (zRf_c (by decide) (by decide) (by decide)).trans (by decide +kernel)
theorem zr_177_39 (t : Nat) : zRf t 177 39 = some 208 := (zRf_c (by decide) (by decide) (by decide)).trans (by decide +kernel)
theorem zr_177_40 (t : Nat) : zRf t 177 40 = some 209 := (zRf_c (by decide) (by decide) (by decide)).trans (by decide +kernel)
theorem zr_177_41 (t : Nat) : zRf t 177 41 = some 210 := (zRf_c (by decide) (by decide) (by decide)).trans (by decide +kernel)
theorem zr_177_43 (t : Nat) : zRf t 177 43 = some 211 := (zRf_c (by decide) (by decide) (by decide)).trans (by decide +kernel)
theorem zr_177_45 (t : Nat) : zRf t 177 45 = some 212 := (zRf_c (by decide) (by decide) (by decide)).trans (by decide +kernel)
theorem zr_177_49 (t : Nat) : zRf t 177 49 = some 213 := (zRf_c (by decide) (by decide) (by decide)).trans (by decide +kernel)
theorem zr_177_51 (t : Nat) : zRf t 177 51 = some 214 := (zRf_c (by decide) (by decide) (by decide)).trans (by decide +kernel)
theorem zr_177_52 (t : Nat) : zRf t 177 52 = some 215 := (zRf_c (by decide) (by decide) (by decide)).trans (by decide +kernel)
theorem zr_177_53 (t : Nat) : zRf t 177 53 = some 216 := (zRf_c (by decide) (by decide) (by decide)).trans (by decide +kernel)
theorem zr_177_54 (t : Nat) : zRf t 177 54 = some 217 := (zRf_c (by decide) (by decide) (by decide)).trans (by decide +kernel)
theorem zr_177_55 (t : Nat) : zRf t 177 55 = some 218 := (zRf_c (by decide) (by decide) (by decide)).trans (by decide +kernel)
theorem zr_177_56 (t : Nat) : zRf t 177 56 = some 219 := (zRf_c (by decide) (by decide) (by decide)).trans (by decide +kernel)
theorem zr_177_57 (t : Nat) : zRf t 177 57 = some 220 := (zRf_c (by decide) (by decide) (by decide)).trans (by decide +kernel)
theorem zr_177_58 (t : Nat) : zRf t 177 58 = some 221 := (zRf_c (by decide) (by decide) (by decide)).trans (by decide +kernel)
theorem zr_177_59 (t : Nat) : zRf t 177 59 = some 222 := (zRf_c (by decide) (by decide) (by decide)).trans (by decide +kernel)
theorem zr_177_62 (t : Nat) : zRf t 177 62 = some 223 := (zRf_c (by decide) (by decide) (by decide)).trans (by decide +kernel)
theorem zr_177_63 (t : Nat) : zRf t 177 63 = some 224 := (zRf_c (by decide) (by decide) (by decide)).trans (by decide +kernel)
theorem zr_177_64 (t : Nat) : zRf t 177 64 = some 225 := (zRf_c (by decide) (by decide) (by decide)).trans (by decide +kernel)
theorem zr_177_65 (t : Nat) : zRf t 177 65 = some 226 := (zRf_c (by decide) (by decide) (by decide)).trans (by decide +kernel)
theorem zr_177_69 (t : Nat) : zRf t 177 69 = some 227 := (zRf_c (by decide) (by decide) (by decide)).trans (by decide +kernel)
theorem zr_177_70 (t : Nat) : zRf t 177 70 = some 228 := (zRf_c (by decide) (by decide) (by decide)).trans (by decide +kernel)
theorem zr_177_71 (t : Nat) : zRf t 177 71 = some 229 := (zRf_c (by decide) (by decide) (by decide)).trans (by decide +kernel)
theorem zr_177_72 (t : Nat) : zRf t 177 72 = some 230 := (zRf_c (by decide) (by decide) (by decide)).trans (by decide +kernel)
theorem zr_177_73 (t : Nat) : zRf t 177 73 = some 231 := (zRf_c (by decide) (by decide) (by decide)).trans (by decide +kernel)
theorem zr_177_74 (t : Nat) : zRf t 177 74 = some 232 := (zRf_c (by decide) (by decide) (by decide)).trans (by decide +kernel)
theorem zr_177_75 (t : Nat) : zRf t 177 75 = some 233 := (zRf_c (by decide) (by decide) (by decide)).trans (by decide +kernel)
theorem zr_177_76 (t : Nat) : zRf t 177 76 = some 234 := (zRf_c (by decide) (by decide) (by decide)).trans (by decide +kernel)
theorem zr_177_77 (t : Nat) : zRf t 177 77 = some 235 := (zRf_c (by decide) (by decide) (by decide)).trans (by decide +kernel)
theorem zr_177_78 (t : Nat) : zRf t 177 78 = some 236 := (zRf_c (by decide) (by decide) (by decide)).trans (by decide +kernel)
theorem zr_177_79 (t : Nat) : zRf t 177 79 = some 237 := (zRf_c (by decide) (by decide) (by decide)).trans (by decide +kernel)
theorem zr_177_80 (t : Nat) : zRf t 177 80 = some 238 := (zRf_c (by decide) (by decide) (by decide)).trans (by decide +kernel)
theorem zr_177_81 (t : Nat) : zRf t 177 81 = some 239 := (zRf_c (by decide) (by decide) (by decide)).trans (by decide +kernel)
theorem zr_177_82 (t : Nat) : zRf t 177 82 = some 240 := (zRf_c (by decide) (by decide) (by decide)).trans (by decide +kernel)
theorem zr_177_83 (t : Nat) : zRf t 177 83 = some 241 := (zRf_c (by decide) (by decide) (by decide)).trans (by decide +kernel)
theorem zr_177_84 (t : Nat) : zRf t 177 84 = some 242 := (zRf_c (by decide) (by decide) (by decide)).trans (by decide +kernel)
theorem zr_177_85 (t : Nat) : zRf t 177 85 = some 243 := (zRf_c (by decide) (by decide) (by decide)).trans (by decide +kernel)
theorem zr_177_86 (t : Nat) : zRf t 177 86 = some 244 := (zRf_c (by decide) (by decide) (by decide)).trans (by decide +kernel)
theorem zr_177_87 (t : Nat) : zRf t 177 87 = some 245 := (zRf_c (by decide) (by decide) (by decide)).trans (by decide +kernel)
theorem zr_177_89 (t : Nat) : zRf t 177 89 = some 246 := (zRf_c (by decide) (by decide) (by decide)).trans (by decide +kernel)
theorem zr_177_93 (t : Nat) : zRf t 177 93 = some 247 := (zRf_c (by decide) (by decide) (by decide)).trans (by decide +kernel)
theorem zr_177_97 (t : Nat) : zRf t 177 97 = some 248 := (zRf_c (by decide) (by decide) (by decide)).trans (by decide +kernel)
theorem zsh_0 : SS[0]? = some (.inr 11) := by decide +kernel
theorem zsh_1 : SS[1]? = some (.inl (1600, .int)) := by decide +kernel
theorem zsh_2 : SS[2]? = some (.inr 10) := by decide +kernel
theorem zsh_3 : SS[3]? = some (.inl (1601, .int)) := by decide +kernel
theorem zsh_4 : SS[4]? = some (.inl (1601, .int)) := by decide +kernel
theorem zsh_5 : SS[5]? = some (.inl (1601, .int)) := by decide +kernel
theorem zsh_6 : SS[6]? = some (.inl (1601, .int)) := by decide +kernel
theorem zsh_7 : SS[7]? = some (.inl (1601, .int)) := by decide +kernel
theorem zsh_8 : SS[8]? = some (.inl (30, .int)) := by decide +kernel
theorem zsh_9 : SS[9]? = some (.inr 8) := by decide +kernel
theorem zsh_10 : SS[10]? = some (.inr 9) := by decide +kernel
theorem zsh_11 : SS[11]? = some (.inl (8, .int)) := by decide +kernel
theorem zsh_12 : SS[12]? = some (.inl (16, .int)) := by decide +kernel
theorem zsh_13 : SS[13]? = some (.inl (16, .int)) := by decide +kernel
theorem zsh_14 : SS[14]? = some (.inl (16, .int)) := by decide +kernel
theorem zsh_15 : SS[15]? = some (.inl (8, .int)) := by decide +kernel
theorem zsh_16 : SS[16]? = some (.inl (4, .int)) := by decide +kernel
theorem zsh_17 : SS[17]? = some (.inl (4, .int)) := by decide +kernel
theorem zsh_18 : SS[18]? = some (.inr 0) := by decide +kernel
theorem zsh_19 : SS[19]? = some (.inl (1600, .int)) := by decide +kernel
theorem zsh_20 : SS[20]? = some (.inl (64, .int)) := by decide +kernel
theorem zsh_21 : SS[21]? = some (.inr 0) := by decide +kernel
theorem zsh_22 : SS[22]? = some (.inl (1600, .int)) := by decide +kernel
theorem zsh_23 : SS[23]? = some (.inl (64, .int)) := by decide +kernel
theorem zsh_24 : SS[24]? = some (.inr 9) := by decide +kernel
theorem zsh_25 : SS[25]? = some (.inl (8, .int)) := by decide +kernel
theorem zsh_26 : SS[26]? = some (.inl (16, .int)) := by decide +kernel
theorem zsh_27 : SS[27]? = some (.inl (16, .int)) := by decide +kernel
theorem zsh_28 : SS[28]? = some (.inl (16, .int)) := by decide +kernel
theorem zsh_29 : SS[29]? = some (.inl (8, .int)) := by decide +kernel
theorem zsh_30 : SS[30]? = some (.inl (4, .int)) := by decide +kernel
theorem zsh_31 : SS[31]? = some (.inl (4, .int)) := by decide +kernel
theorem zsh_32 : SS[32]? = some (.inr 0) := by decide +kernel
theorem zsh_33 : SS[33]? = some (.inl (1600, .int)) := by decide +kernel
theorem zsh_34 : SS[34]? = some (.inl (64, .int)) := by decide +kernel
theorem zsh_35 : SS[35]? = some (.inr 0) := by decide +kernel
theorem zsh_36 : SS[36]? = some (.inl (1600, .int)) := by decide +kernel
theorem zsh_37 : SS[37]? = some (.inl (64, .int)) := by decide +kernel
theorem zsh_38 : SS[38]? = some (.inr 5) := by decide +kernel
theorem zsh_39 : SS[39]? = some (.inr 0) := by decide +kernel
theorem zsh_40 : SS[40]? = some (.inl (1600, .int)) := by decide +kernel
theorem zsh_41 : SS[41]? = some (.inl (64, .int)) := by decide +kernel
theorem zsh_42 : SS[42]? = some (.inl (9, .int)) := by decide +kernel
theorem zsh_43 : SS[43]? = some (.inr 7) := by decide +kernel
theorem zsh_44 : SS[44]? = some (.inl (8, .int)) := by decide +kernel
theorem zsh_45 : SS[45]? = some (.inl (8, .int)) := by decide +kernel
theorem zsh_46 : SS[46]? = some (.inl (16, .int)) := by decide +kernel
theorem zsh_47 : SS[47]? = some (.inl (16, .int)) := by decide +kernel
theorem zsh_48 : SS[48]? = some (.inr 2) := by decide +kernel
theorem zsh_49 : SS[49]? = some (.inl (20, .object "CrackerRing$State")) := by decide +kernel
theorem zsh_50 : SS[50]? = some (.inr 7) := by decide +kernel
theorem zsh_51 : SS[51]? = some (.inl (8, .int)) := by decide +kernel
theorem zsh_52 : SS[52]? = some (.inl (8, .int)) := by decide +kernel
theorem zsh_53 : SS[53]? = some (.inl (16, .int)) := by decide +kernel
theorem zsh_54 : SS[54]? = some (.inl (16, .int)) := by decide +kernel
theorem zsh_55 : SS[55]? = some (.inr 7) := by decide +kernel
theorem zsh_56 : SS[56]? = some (.inl (8, .int)) := by decide +kernel
theorem zsh_57 : SS[57]? = some (.inl (8, .int)) := by decide +kernel
theorem zsh_58 : SS[58]? = some (.inl (16, .int)) := by decide +kernel
theorem zsh_59 : SS[59]? = some (.inl (16, .int)) := by decide +kernel
theorem zsh_60 : SS[60]? = some (.inr 7) := by decide +kernel
theorem zsh_61 : SS[61]? = some (.inl (8, .int)) := by decide +kernel
theorem zsh_62 : SS[62]? = some (.inl (8, .int)) := by decide +kernel
theorem zsh_63 : SS[63]? = some (.inl (16, .int)) := by decide +kernel
theorem zsh_64 : SS[64]? = some (.inl (16, .int)) := by decide +kernel
theorem zsh_65 : SS[65]? = some (.inr 7) := by decide +kernel
theorem zsh_66 : SS[66]? = some (.inl (8, .int)) := by decide +kernel
theorem zsh_67 : SS[67]? = some (.inl (8, .int)) := by decide +kernel
theorem zsh_68 : SS[68]? = some (.inl (16, .int)) := by decide +kernel
theorem zsh_69 : SS[69]? = some (.inl (16, .int)) := by decide +kernel
theorem zsh_70 : SS[70]? = some (.inr 7) := by decide +kernel
theorem zsh_71 : SS[71]? = some (.inl (8, .int)) := by decide +kernel
theorem zsh_72 : SS[72]? = some (.inl (8, .int)) := by decide +kernel
theorem zsh_73 : SS[73]? = some (.inl (16, .int)) := by decide +kernel
theorem zsh_74 : SS[74]? = some (.inl (16, .int)) := by decide +kernel
theorem zsh_75 : SS[75]? = some (.inr 7) := by decide +kernel
theorem zsh_76 : SS[76]? = some (.inl (8, .int)) := by decide +kernel
theorem zsh_77 : SS[77]? = some (.inl (8, .int)) := by decide +kernel
theorem zsh_78 : SS[78]? = some (.inl (16, .int)) := by decide +kernel
theorem zsh_79 : SS[79]? = some (.inl (16, .int)) := by decide +kernel
theorem zsh_80 : SS[80]? = some (.inr 7) := by decide +kernel
theorem zsh_81 : SS[81]? = some (.inl (8, .int)) := by decide +kernel
theorem zsh_82 : SS[82]? = some (.inl (8, .int)) := by decide +kernel
theorem zsh_83 : SS[83]? = some (.inl (16, .int)) := by decide +kernel
theorem zsh_84 : SS[84]? = some (.inl (16, .int)) := by decide +kernel
theorem zsh_85 : SS[85]? = some (.inr 7) := by decide +kernel
theorem zsh_86 : SS[86]? = some (.inl (8, .int)) := by decide +kernel
theorem zsh_87 : SS[87]? = some (.inl (8, .int)) := by decide +kernel
theorem zsh_88 : SS[88]? = some (.inl (16, .int)) := by decide +kernel
theorem zsh_89 : SS[89]? = some (.inl (16, .int)) := by decide +kernel
theorem zsh_90 : SS[90]? = some (.inr 7) := by decide +kernel
theorem zsh_91 : SS[91]? = some (.inl (8, .int)) := by decide +kernel
theorem zsh_92 : SS[92]? = some (.inl (8, .int)) := by decide +kernel
theorem zsh_93 : SS[93]? = some (.inl (16, .int)) := by decide +kernel
theorem zsh_94 : SS[94]? = some (.inl (16, .int)) := by decide +kernel
theorem zsh_95 : SS[95]? = some (.inr 7) := by decide +kernel
theorem zsh_96 : SS[96]? = some (.inl (8, .int)) := by decide +kernel
theorem zsh_97 : SS[97]? = some (.inl (8, .int)) := by decide +kernel
theorem zsh_98 : SS[98]? = some (.inl (16, .int)) := by decide +kernel
theorem zsh_99 : SS[99]? = some (.inl (16, .int)) := by decide +kernel
theorem zsh_100 : SS[100]? = some (.inr 7) := by decide +kernel
theorem zsh_101 : SS[101]? = some (.inl (8, .int)) := by decide +kernel
theorem zsh_102 : SS[102]? = some (.inl (8, .int)) := by decide +kernel
theorem zsh_103 : SS[103]? = some (.inl (16, .int)) := by decide +kernel
theorem zsh_104 : SS[104]? = some (.inl (16, .int)) := by decide +kernel
theorem zsh_105 : SS[105]? = some (.inr 7) := by decide +kernel
theorem zsh_106 : SS[106]? = some (.inl (8, .int)) := by decide +kernel
theorem zsh_107 : SS[107]? = some (.inl (8, .int)) := by decide +kernel
theorem zsh_108 : SS[108]? = some (.inl (16, .int)) := by decide +kernel
theorem zsh_109 : SS[109]? = some (.inl (16, .int)) := by decide +kernel
theorem zsh_110 : SS[110]? = some (.inr 7) := by decide +kernel
theorem zsh_111 : SS[111]? = some (.inl (8, .int)) := by decide +kernel
theorem zsh_112 : SS[112]? = some (.inl (8, .int)) := by decide +kernel
theorem zsh_113 : SS[113]? = some (.inl (16, .int)) := by decide +kernel
theorem zsh_114 : SS[114]? = some (.inl (16, .int)) := by decide +kernel
theorem zsh_115 : SS[115]? = some (.inr 7) := by decide +kernel
theorem zsh_116 : SS[116]? = some (.inl (8, .int)) := by decide +kernel
theorem zsh_117 : SS[117]? = some (.inl (8, .int)) := by decide +kernel
theorem zsh_118 : SS[118]? = some (.inl (16, .int)) := by decide +kernel
theorem zsh_119 : SS[119]? = some (.inl (16, .int)) := by decide +kernel
theorem zsh_120 : SS[120]? = some (.inr 7) := by decide +kernel
theorem zsh_121 : SS[121]? = some (.inl (8, .int)) := by decide +kernel
theorem zsh_122 : SS[122]? = some (.inl (8, .int)) := by decide +kernel
theorem zsh_123 : SS[123]? = some (.inl (16, .int)) := by decide +kernel
theorem zsh_124 : SS[124]? = some (.inl (16, .int)) := by decide +kernel
theorem zsh_125 : SS[125]? = some (.inr 7) := by decide +kernel
theorem zsh_126 : SS[126]? = some (.inl (8, .int)) := by decide +kernel
theorem zsh_127 : SS[127]? = some (.inl (8, .int)) := by decide +kernel
theorem zsh_128 : SS[128]? = some (.inl (16, .int)) := by decide +kernel
theorem zsh_129 : SS[129]? = some (.inl (16, .int)) := by decide +kernel
theorem zsh_130 : SS[130]? = some (.inr 7) := by decide +kernel
theorem zsh_131 : SS[131]? = some (.inl (8, .int)) := by decide +kernel
theorem zsh_132 : SS[132]? = some (.inl (8, .int)) := by decide +kernel
theorem zsh_133 : SS[133]? = some (.inl (16, .int)) := by decide +kernel
theorem zsh_134 : SS[134]? = some (.inl (16, .int)) := by decide +kernel
theorem zsh_135 : SS[135]? = some (.inr 7) := by decide +kernel
theorem zsh_136 : SS[136]? = some (.inl (8, .int)) := by decide +kernel
theorem zsh_137 : SS[137]? = some (.inl (8, .int)) := by decide +kernel
theorem zsh_138 : SS[138]? = some (.inl (16, .int)) := by decide +kernel
theorem zsh_139 : SS[139]? = some (.inl (16, .int)) := by decide +kernel
theorem zsh_140 : SS[140]? = some (.inr 7) := by decide +kernel
theorem zsh_141 : SS[141]? = some (.inl (8, .int)) := by decide +kernel
theorem zsh_142 : SS[142]? = some (.inl (8, .int)) := by decide +kernel
theorem zsh_143 : SS[143]? = some (.inl (16, .int)) := by decide +kernel
theorem zsh_144 : SS[144]? = some (.inl (16, .int)) := by decide +kernel
theorem zsh_145 : SS[145]? = some (.inr 7) := by decide +kernel
theorem zsh_146 : SS[146]? = some (.inl (8, .int)) := by decide +kernel
theorem zsh_147 : SS[147]? = some (.inl (8, .int)) := by decide +kernel
theorem zsh_148 : SS[148]? = some (.inl (16, .int)) := by decide +kernel
theorem zsh_149 : SS[149]? = some (.inl (16, .int)) := by decide +kernel
theorem zsh_150 : SS[150]? = some (.inr 4) := by decide +kernel
theorem zsh_151 : SS[151]? = some (.inl (9, .int)) := by decide +kernel
theorem zsh_152 : SS[152]? = some (.inl (7, .int)) := by decide +kernel
theorem zsh_153 : SS[153]? = some (.inl (8, .int)) := by decide +kernel
theorem zsh_154 : SS[154]? = some (.inl (8, .int)) := by decide +kernel
theorem zsh_155 : SS[155]? = some (.inl (8, .int)) := by decide +kernel
theorem zsh_156 : SS[156]? = some (.inr 3) := by decide +kernel
theorem zsh_157 : SS[157]? = some (.inr 7) := by decide +kernel
theorem zsh_158 : SS[158]? = some (.inl (8, .int)) := by decide +kernel
theorem zsh_159 : SS[159]? = some (.inl (8, .int)) := by decide +kernel
theorem zsh_160 : SS[160]? = some (.inl (16, .int)) := by decide +kernel
theorem zsh_161 : SS[161]? = some (.inl (16, .int)) := by decide +kernel
theorem zsh_162 : SS[162]? = some (.inr 7) := by decide +kernel
theorem zsh_163 : SS[163]? = some (.inl (8, .int)) := by decide +kernel
theorem zsh_164 : SS[164]? = some (.inl (8, .int)) := by decide +kernel
theorem zsh_165 : SS[165]? = some (.inl (16, .int)) := by decide +kernel
theorem zsh_166 : SS[166]? = some (.inl (16, .int)) := by decide +kernel
theorem zsh_167 : SS[167]? = some (.inr 6) := by decide +kernel
theorem zsh_168 : SS[168]? = some (.inl (64, .int)) := by decide +kernel
theorem zsh_169 : SS[169]? = some (.inl (64, .int)) := by decide +kernel
theorem zsh_170 : SS[170]? = some (.inl (8, .int)) := by decide +kernel
theorem zsh_171 : SS[171]? = some (.inl (8, .int)) := by decide +kernel
theorem zsh_172 : SS[172]? = some (.inr 1) := by decide +kernel
theorem zsh_173 : SS[173]? = some (.inl (17, .int)) := by decide +kernel
theorem zsh_174 : SS[174]? = some (.inl (17, .int)) := by decide +kernel
theorem zsh_175 : SS[175]? = some (.inl (55, .int)) := by decide +kernel
theorem zsh_176 : SS[176]? = some (.inl (6, .int)) := by decide +kernel
theorem zsh_177 : SS[177]? = some (.inr 12) := by decide +kernel
theorem zsh_178 : SS[178]? = some (.inl (1600, .int)) := by decide +kernel
theorem zsh_179 : SS[179]? = some (.inl (6, .int)) := by decide +kernel
theorem zsh_180 : SS[180]? = some (.inl (6, .char)) := by decide +kernel
theorem zsh_181 : SS[181]? = some (.inl (5, .char)) := by decide +kernel
theorem zsh_182 : SS[182]? = some (.inl (4, .char)) := by decide +kernel
theorem zsh_183 : SS[183]? = some (.inl (5, .char)) := by decide +kernel
theorem zsh_184 : SS[184]? = some (.inl (4, .char)) := by decide +kernel
theorem zsh_185 : SS[185]? = some (.inl (5, .char)) := by decide +kernel
theorem zsh_186 : SS[186]? = some (.inl (5, .char)) := by decide +kernel
theorem zsh_187 : SS[187]? = some (.inl (3, .char)) := by decide +kernel
theorem zsh_188 : SS[188]? = some (.inl (4, .char)) := by decide +kernel
theorem zsh_189 : SS[189]? = some (.inl (4, .char)) := by decide +kernel
theorem zsh_190 : SS[190]? = some (.inl (4, .char)) := by decide +kernel
theorem zsh_191 : SS[191]? = some (.inl (4, .char)) := by decide +kernel
theorem zsh_192 : SS[192]? = some (.inl (4, .char)) := by decide +kernel
theorem zsh_193 : SS[193]? = some (.inl (3, .char)) := by decide +kernel
theorem zsh_194 : SS[194]? = some (.inl (3, .char)) := by decide +kernel
theorem zsh_195 : SS[195]? = some (.inl (5, .char)) := by decide +kernel
theorem zsh_196 : SS[196]? = some (.inl (6, .char)) := by decide +kernel
theorem zsh_197 : SS[197]? = some (.inl (4, .char)) := by decide +kernel
theorem zsh_198 : SS[198]? = some (.inl (2, .char)) := by decide +kernel
theorem zsh_199 : SS[199]? = some (.inl (3, .char)) := by decide +kernel
theorem zsh_200 : SS[200]? = some (.inl (3, .char)) := by decide +kernel
theorem zsh_201 : SS[201]? = some (.inl (3, .char)) := by decide +kernel
theorem zsh_202 : SS[202]? = some (.inl (3, .char)) := by decide +kernel
theorem zsh_203 : SS[203]? = some (.inl (3, .char)) := by decide +kernel
theorem zsh_204 : SS[204]? = some (.inl (4, .int)) := by decide +kernel
theorem zsh_205 : SS[205]? = some (.inl (24, .long)) := by decide +kernel
theorem zsh_206 : SS[206]? = some (.inl (112, .int)) := by decide +kernel
theorem zsh_207 : SS[207]? = some (.inl (8, .int)) := by decide +kernel
theorem zsh_208 : SS[208]? = some (.inl (2, .int)) := by decide +kernel
theorem zsh_209 : SS[209]? = some (.inl (4, .int)) := by decide +kernel
theorem zsh_210 : SS[210]? = some (.inl (4, .int)) := by decide +kernel
theorem zsh_211 : SS[211]? = some (.inl (3200, .int)) := by decide +kernel
theorem zsh_212 : SS[212]? = some (.inl (1700, .int)) := by decide +kernel
theorem zsh_213 : SS[213]? = some (.inl (1700, .long)) := by decide +kernel
theorem zsh_214 : SS[214]? = some (.inl (6, .int)) := by decide +kernel
theorem zsh_215 : SS[215]? = some (.inl (51, .int)) := by decide +kernel
theorem zsh_216 : SS[216]? = some (.inl (51, .int)) := by decide +kernel
theorem zsh_217 : SS[217]? = some (.inl (8, .int)) := by decide +kernel
theorem zsh_218 : SS[218]? = some (.inl (24, .int)) := by decide +kernel
theorem zsh_219 : SS[219]? = some (.inl (64, .int)) := by decide +kernel
theorem zsh_220 : SS[220]? = some (.inl (64, .int)) := by decide +kernel
theorem zsh_221 : SS[221]? = some (.inl (8, .int)) := by decide +kernel
theorem zsh_222 : SS[222]? = some (.inl (8, .int)) := by decide +kernel
theorem zsh_223 : SS[223]? = some (.inl (17, .int)) := by decide +kernel
theorem zsh_224 : SS[224]? = some (.inl (17, .int)) := by decide +kernel
theorem zsh_225 : SS[225]? = some (.inl (8, .int)) := by decide +kernel
theorem zsh_226 : SS[226]? = some (.inl (1020, .int)) := by decide +kernel
theorem zsh_227 : SS[227]? = some (.inl (5, .char)) := by decide +kernel
theorem zsh_228 : SS[228]? = some (.inl (4, .char)) := by decide +kernel
theorem zsh_229 : SS[229]? = some (.inl (5, .char)) := by decide +kernel
theorem zsh_230 : SS[230]? = some (.inl (5, .char)) := by decide +kernel
theorem zsh_231 : SS[231]? = some (.inl (4, .char)) := by decide +kernel
theorem zsh_232 : SS[232]? = some (.inl (5, .char)) := by decide +kernel
theorem zsh_233 : SS[233]? = some (.inl (3, .char)) := by decide +kernel
theorem zsh_234 : SS[234]? = some (.inl (3, .char)) := by decide +kernel
theorem zsh_235 : SS[235]? = some (.inl (2, .char)) := by decide +kernel
theorem zsh_236 : SS[236]? = some (.inl (3, .char)) := by decide +kernel
theorem zsh_237 : SS[237]? = some (.inl (3, .char)) := by decide +kernel
theorem zsh_238 : SS[238]? = some (.inl (3, .char)) := by decide +kernel
theorem zsh_239 : SS[239]? = some (.inl (6, .char)) := by decide +kernel
theorem zsh_240 : SS[240]? = some (.inl (5, .char)) := by decide +kernel
theorem zsh_241 : SS[241]? = some (.inl (4, .char)) := by decide +kernel
theorem zsh_242 : SS[242]? = some (.inl (4, .char)) := by decide +kernel
theorem zsh_243 : SS[243]? = some (.inl (5, .char)) := by decide +kernel
theorem zsh_244 : SS[244]? = some (.inl (4, .char)) := by decide +kernel
theorem zsh_245 : SS[245]? = some (.inl (1700, .int)) := by decide +kernel
theorem zsh_246 : SS[246]? = some (.inl (1700, .int)) := by decide +kernel
theorem zsh_247 : SS[247]? = some (.inl (1700, .long)) := by decide +kernel
theorem zsh_248 : SS[248]? = some (.inl (55, .int)) := by decide +kernel
theorem znar_0 : narrow .boolean (.int (nI 0)) = .int (nI 0) := by decide +kernel
theorem znar_1 : narrow .boolean (.int (nI 1)) = .int (nI 1) := by decide +kernel
theorem zq_bipush_m8 : (Int8.ofInt (-8)).toInt32 = (-8) := by decide +kernel
theorem zq_bipush_6 : (Int8.ofInt (6)).toInt32 = nI 6 := by decide +kernel
theorem zq_bipush_7 : (Int8.ofInt (7)).toInt32 = nI 7 := by decide +kernel
theorem zq_bipush_8 : (Int8.ofInt (8)).toInt32 = nI 8 := by decide +kernel
theorem zq_bipush_9 : (Int8.ofInt (9)).toInt32 = nI 9 := by decide +kernel
theorem zq_bipush_10 : (Int8.ofInt (10)).toInt32 = nI 10 := by decide +kernel
theorem zq_bipush_11 : (Int8.ofInt (11)).toInt32 = nI 11 := by decide +kernel
theorem zq_bipush_12 : (Int8.ofInt (12)).toInt32 = nI 12 := by decide +kernel
theorem zq_bipush_13 : (Int8.ofInt (13)).toInt32 = nI 13 := by decide +kernel
theorem zq_bipush_14 : (Int8.ofInt (14)).toInt32 = nI 14 := by decide +kernel
theorem zq_bipush_16 : (Int8.ofInt (16)).toInt32 = nI 16 := by decide +kernel
theorem zq_bipush_17 : (Int8.ofInt (17)).toInt32 = nI 17 := by decide +kernel
theorem zq_bipush_18 : (Int8.ofInt (18)).toInt32 = nI 18 := by decide +kernel
theorem zq_bipush_19 : (Int8.ofInt (19)).toInt32 = nI 19 := by decide +kernel
theorem zq_bipush_20 : (Int8.ofInt (20)).toInt32 = nI 20 := by decide +kernel
theorem zq_bipush_21 : (Int8.ofInt (21)).toInt32 = nI 21 := by decide +kernel
theorem zq_bipush_22 : (Int8.ofInt (22)).toInt32 = nI 22 := by decide +kernel
theorem zq_bipush_23 : (Int8.ofInt (23)).toInt32 = nI 23 := by decide +kernel
theorem zq_bipush_24 : (Int8.ofInt (24)).toInt32 = nI 24 := by decide +kernel
theorem zq_bipush_25 : (Int8.ofInt (25)).toInt32 = nI 25 := by decide +kernel
theorem zq_bipush_26 : (Int8.ofInt (26)).toInt32 = nI 26 := by decide +kernel
theorem zq_bipush_27 : (Int8.ofInt (27)).toInt32 = nI 27 := by decide +kernel
theorem zq_bipush_29 : (Int8.ofInt (29)).toInt32 = nI 29 := by decide +kernel
theorem zq_bipush_30 : (Int8.ofInt (30)).toInt32 = nI 30 := by decide +kernel
theorem zq_bipush_31 : (Int8.ofInt (31)).toInt32 = nI 31 := by decide +kernel
theorem zq_bipush_32 : (Int8.ofInt (32)).toInt32 = nI 32 := by decide +kernel
theorem zq_bipush_40 : (Int8.ofInt (40)).toInt32 = nI 40 := by decide +kernel
theorem zq_bipush_41 : (Int8.ofInt (41)).toInt32 = nI 41 := by decide +kernel
theorem zq_bipush_42 : (Int8.ofInt (42)).toInt32 = nI 42 := by decide +kernel
theorem zq_bipush_43 : (Int8.ofInt (43)).toInt32 = nI 43 := by decide +kernel
theorem zq_bipush_44 : (Int8.ofInt (44)).toInt32 = nI 44 := by decide +kernel
theorem zq_bipush_45 : (Int8.ofInt (45)).toInt32 = nI 45 := by decide +kernel
theorem zq_bipush_47 : (Int8.ofInt (47)).toInt32 = nI 47 := by decide +kernel
theorem zq_bipush_48 : (Int8.ofInt (48)).toInt32 = nI 48 := by decide +kernel
theorem zq_bipush_50 : (Int8.ofInt (50)).toInt32 = nI 50 := by decide +kernel
theorem zq_bipush_51 : (Int8.ofInt (51)).toInt32 = nI 51 := by decide +kernel
theorem zq_bipush_55 : (Int8.ofInt (55)).toInt32 = nI 55 := by decide +kernel
theorem zq_bipush_56 : (Int8.ofInt (56)).toInt32 = nI 56 := by decide +kernel
theorem zq_bipush_57 : (Int8.ofInt (57)).toInt32 = nI 57 := by decide +kernel
theorem zq_bipush_59 : (Int8.ofInt (59)).toInt32 = nI 59 := by decide +kernel
theorem zq_bipush_60 : (Int8.ofInt (60)).toInt32 = nI 60 := by decide +kernel
theorem zq_bipush_61 : (Int8.ofInt (61)).toInt32 = nI 61 := by decide +kernel
theorem zq_bipush_62 : (Int8.ofInt (62)).toInt32 = nI 62 := by decide +kernel
theorem zq_bipush_63 : (Int8.ofInt (63)).toInt32 = nI 63 := by decide +kernel
theorem zq_bipush_64 : (Int8.ofInt (64)).toInt32 = nI 64 := by decide +kernel
theorem zq_bipush_91 : (Int8.ofInt (91)).toInt32 = nI 91 := by decide +kernel
theorem zq_bipush_93 : (Int8.ofInt (93)).toInt32 = nI 93 := by decide +kernel
theorem zq_bipush_97 : (Int8.ofInt (97)).toInt32 = nI 97 := by decide +kernel
theorem zq_bipush_98 : (Int8.ofInt (98)).toInt32 = nI 98 := by decide +kernel
theorem zq_bipush_99 : (Int8.ofInt (99)).toInt32 = nI 99 := by decide +kernel
theorem zq_bipush_100 : (Int8.ofInt (100)).toInt32 = nI 100 := by decide +kernel
theorem zq_bipush_101 : (Int8.ofInt (101)).toInt32 = nI 101 := by decide +kernel
theorem zq_bipush_102 : (Int8.ofInt (102)).toInt32 = nI 102 := by decide +kernel
theorem zq_bipush_103 : (Int8.ofInt (103)).toInt32 = nI 103 := by decide +kernel
theorem zq_bipush_104 : (Int8.ofInt (104)).toInt32 = nI 104 := by decide +kernel
theorem zq_bipush_105 : (Int8.ofInt (105)).toInt32 = nI 105 := by decide +kernel
theorem zq_bipush_108 : (Int8.ofInt (108)).toInt32 = nI 108 := by decide +kernel
theorem zq_bipush_109 : (Int8.ofInt (109)).toInt32 = nI 109 := by decide +kernel
theorem zq_bipush_110 : (Int8.ofInt (110)).toInt32 = nI 110 := by decide +kernel
theorem zq_bipush_111 : (Int8.ofInt (111)).toInt32 = nI 111 := by decide +kernel
theorem zq_bipush_112 : (Int8.ofInt (112)).toInt32 = nI 112 := by decide +kernel
theorem zq_bipush_114 : (Int8.ofInt (114)).toInt32 = nI 114 := by decide +kernel
theorem zq_bipush_115 : (Int8.ofInt (115)).toInt32 = nI 115 := by decide +kernel
theorem zq_bipush_116 : (Int8.ofInt (116)).toInt32 = nI 116 := by decide +kernel
theorem zq_bipush_117 : (Int8.ofInt (117)).toInt32 = nI 117 := by decide +kernel
theorem zq_bipush_119 : (Int8.ofInt (119)).toInt32 = nI 119 := by decide +kernel
theorem zq_bipush_120 : (Int8.ofInt (120)).toInt32 = nI 120 := by decide +kernel
theorem zq_bipush_122 : (Int8.ofInt (122)).toInt32 = nI 122 := by decide +kernel
theorem zq_iconst_m1 : Int32.ofInt (-1) = (-1) := by decide +kernel
theorem zq_iconst_0 : Int32.ofInt (0) = nI 0 := by decide +kernel
theorem zq_iconst_1 : Int32.ofInt (1) = nI 1 := by decide +kernel
theorem zq_iconst_2 : Int32.ofInt (2) = nI 2 := by decide +kernel
theorem zq_iconst_3 : Int32.ofInt (3) = nI 3 := by decide +kernel
theorem zq_iconst_4 : Int32.ofInt (4) = nI 4 := by decide +kernel
theorem zq_iconst_5 : Int32.ofInt (5) = nI 5 := by decide +kernel
theorem zq_sipush_227 : (Int16.ofInt (227)).toInt32 = nI 227 := by decide +kernel
theorem zq_sipush_251 : (Int16.ofInt (251)).toInt32 = nI 251 := by decide +kernel
theorem zq_sipush_255 : (Int16.ofInt (255)).toInt32 = nI 255 := by decide +kernel
theorem zq_sipush_256 : (Int16.ofInt (256)).toInt32 = nI 256 := by decide +kernel
theorem zq_sipush_500 : (Int16.ofInt (500)).toInt32 = nI 500 := by decide +kernel
theorem zq_sipush_999 : (Int16.ofInt (999)).toInt32 = nI 999 := by decide +kernel
theorem zq_sipush_1000 : (Int16.ofInt (1000)).toInt32 = nI 1000 := by decide +kernel
theorem zq_sipush_1020 : (Int16.ofInt (1020)).toInt32 = nI 1020 := by decide +kernel
theorem zq_sipush_1600 : (Int16.ofInt (1600)).toInt32 = nI 1600 := by decide +kernel
theorem zq_sipush_1601 : (Int16.ofInt (1601)).toInt32 = nI 1601 := by decide +kernel
theorem zq_sipush_1700 : (Int16.ofInt (1700)).toInt32 = nI 1700 := by decide +kernel
theorem zq_sipush_3200 : (Int16.ofInt (3200)).toInt32 = nI 3200 := by decide +kernel
theorem zq_sipush_9999 : (Int16.ofInt (9999)).toInt32 = nI 9999 := by decide +kernel
theorem zq_sipush_10000 : (Int16.ofInt (10000)).toInt32 = nI 10000 := by decide +kernel
theorem zq_sipush_12345 : (Int16.ofInt (12345)).toInt32 = nI 12345 := by decide +kernel
theorem zq_sipush_16383 : (Int16.ofInt (16383)).toInt32 = nI 16383 := by decide +kernel
theorem zq_sipush_20000 : (Int16.ofInt (20000)).toInt32 = nI 20000 := by decide +kernel
theorem zq_lconst_0 : Int64.ofNat ((0 : Fin 2) : Nat) = lN 0 := by decide +kernel
theorem zq_lconst_1 : Int64.ofNat ((1 : Fin 2) : Nat) = lN 1 := by decide +kernel
