def cqI : List (Nat × Nat × Int32) := [(0, 1, nI 0), (2, 6, nI 0), (2, 7, nI 3), (2, 8, nI 0), (2, 9, nI 0), (2, 10, nI 0), (2, 11, (-1)), (8, 0, nI 16), (8, 0, nI 151), (8, 0, nI 13273), (8, 0, nI 387250), (8, 0, nI 8358865), (8, 0, nI 209243563), (8, 1, nI 18), (8, 1, nI 261), (8, 1, nI 5364), (8, 1, nI 162828), (8, 1, nI 10791648), (8, 2, nI 12), (8, 2, nI 147), (8, 2, nI 4521), (8, 2, nI 398181), (8, 3, nI 8), (8, 3, nI 413), (8, 3, nI 9161), (8, 3, nI 87893), (8, 3, nI 10185272), (8, 4, nI 19), (8, 4, nI 154), (8, 4, nI 883), (8, 4, nI 256762), (8, 5, nI 16), (8, 5, nI 43), (8, 5, nI 11707), (8, 5, nI 110122), (8, 5, nI 9676060), (8, 6, nI 20), (8, 6, nI 236), (8, 6, nI 15545), (8, 6, nI 271424), (8, 6, nI 1334306), (8, 7, nI 2), (8, 7, nI 407), (8, 7, nI 17903), (8, 8, nI 4), (8, 8, nI 571), (8, 8, nI 3487), (8, 8, nI 377464), (8, 9, nI 8), (8, 9, nI 35), (8, 9, nI 14615), (8, 9, nI 388592), (8, 10, nI 16), (8, 10, nI 583), (8, 10, nI 9331), (8, 10, nI 245527), (8, 11, nI 19), (8, 11, nI 343), (8, 11, nI 6904), (8, 11, nI 321832), (8, 12, nI 2), (8, 12, nI 29), (8, 12, nI 10235), (8, 12, nI 148016), (8, 13, nI 1), (8, 13, nI 487), (8, 13, nI 9964), (8, 14, nI 12), (8, 14, nI 417), (8, 14, nI 17184), (8, 15, nI 15), (8, 15, nI 555), (8, 15, nI 6387), (8, 15, nI 104802), (8, 15, nI 9670740), (8, 16, nI 14), (8, 16, nI 581), (8, 16, nI 10058), (8, 16, nI 49424), (8, 16, nI 2706629), (8, 16, nI 260986955), (8, 17, nI 23), (8, 17, nI 266), (8, 17, nI 10472), (8, 17, nI 384449), (8, 18, nI 15), (8, 18, nI 501), (8, 19, nI 1), (8, 19, nI 379), (8, 19, nI 3295), (8, 20, nI 14), (8, 20, nI 419), (8, 20, nI 14999), (8, 21, nI 1), (8, 21, nI 325), (8, 21, nI 9073), (8, 22, nI 13), (8, 22, nI 256), (8, 22, nI 10462), (8, 23, nI 13), (8, 23, nI 40), (8, 23, nI 17536), (8, 24, nI 6), (8, 24, nI 249), (8, 24, nI 13371), (8, 24, nI 387348), (8, 24, nI 11016168), (8, 25, nI 12), (8, 25, nI 39), (8, 25, nI 13890), (8, 25, nI 407550), (8, 26, nI 15), (8, 26, nI 177), (8, 26, nI 14757), (8, 26, nI 113172), (8, 26, nI 7553346), (8, 27, nI 20), (8, 27, nI 425), (8, 27, nI 15005), (8, 27, nI 34688), (8, 27, nI 6411980), (8, 28, nI 13), (8, 28, nI 418), (8, 28, nI 14269), (8, 28, nI 407929), (8, 29, nI 12), (8, 29, nI 147), (8, 29, nI 876), (8, 29, nI 374853), (8, 29, nI 11003673), (9, 1, nI 0), (10, 0, nI 0), (10, 1, nI 0), (10, 7, nI 0), (10, 10, nI 100), (10, 11, nI 0), (10, 12, nI 0), (18, 2, nI 0), (21, 2, nI 0), (24, 0, nI 0), (24, 1, nI 0), (24, 7, nI 0), (24, 10, nI 100), (24, 11, nI 0), (24, 12, nI 0), (32, 2, nI 0), (35, 2, nI 0), (39, 2, nI 0), (38, 4, (-1)), (43, 0, nI 0), (43, 1, nI 0), (43, 2, nI 0), (43, 3, nI 0), (48, 1, nI 0), (48, 2, nI 0), (50, 0, nI 0), (50, 1, nI 0), (50, 2, nI 0), (50, 3, nI 0), (55, 0, nI 0), (55, 1, nI 0), (55, 2, nI 0), (55, 3, nI 0), (60, 0, nI 0), (60, 1, nI 0), (60, 2, nI 0), (60, 3, nI 0), (65, 0, nI 0), (65, 1, nI 0), (65, 2, nI 0), (65, 3, nI 0), (70, 0, nI 0), (70, 1, nI 0), (70, 2, nI 0), (70, 3, nI 0), (75, 0, nI 0), (75, 1, nI 0), (75, 2, nI 0), (75, 3, nI 0), (80, 0, nI 0), (80, 1, nI 0), (80, 2, nI 0), (80, 3, nI 0), (85, 0, nI 0), (85, 1, nI 0), (85, 2, nI 0), (85, 3, nI 0), (90, 0, nI 0), (90, 1, nI 0), (90, 2, nI 0), (90, 3, nI 0), (95, 0, nI 0), (95, 1, nI 0), (95, 2, nI 0), (95, 3, nI 0), (100, 0, nI 0), (100, 1, nI 0), (100, 2, nI 0), (100, 3, nI 0), (105, 0, nI 0), (105, 1, nI 0), (105, 2, nI 0), (105, 3, nI 0), (110, 0, nI 0), (110, 1, nI 0), (110, 2, nI 0), (110, 3, nI 0), (115, 0, nI 0), (115, 1, nI 0), (115, 2, nI 0), (115, 3, nI 0), (120, 0, nI 0), (120, 1, nI 0), (120, 2, nI 0), (120, 3, nI 0), (125, 0, nI 0), (125, 1, nI 0), (125, 2, nI 0), (125, 3, nI 0), (130, 0, nI 0), (130, 1, nI 0), (130, 2, nI 0), (130, 3, nI 0), (135, 0, nI 0), (135, 1, nI 0), (135, 2, nI 0), (135, 3, nI 0), (140, 0, nI 0), (140, 1, nI 0), (140, 2, nI 0), (140, 3, nI 0), (145, 0, nI 0), (145, 1, nI 0), (145, 2, nI 0), (145, 3, nI 0), (157, 0, nI 0), (157, 1, nI 0), (157, 2, nI 0), (157, 3, nI 0), (162, 0, nI 0), (162, 1, nI 0), (162, 2, nI 0), (162, 3, nI 0), (156, 3, nI 0), (156, 4, nI 0), (156, 5, nI 0), (156, 6, nI 0), (156, 7, nI 0), (167, 4, nI 0), (167, 7, nI 0), (0, 14, nI 0), (0, 15, nI 1), (0, 16, nI 0), (0, 17, (-1)), (177, 8, (-1)), (180, 0, nI 112), (180, 1, nI 101), (180, 2, nI 114), (180, 3, nI 115), (180, 4, nI 111), (180, 5, nI 110), (181, 0, nI 114), (181, 1, nI 105), (181, 2, nI 103), (181, 3, nI 104), (181, 4, nI 116), (182, 0, nI 108), (182, 1, nI 101), (182, 2, nI 102), (182, 3, nI 116), (183, 0, nI 104), (183, 1, nI 111), (183, 2, nI 108), (183, 3, nI 100), (183, 4, nI 115), (184, 0, nI 115), (184, 1, nI 101), (184, 2, nI 97), (184, 3, nI 109), (185, 0, nI 112), (185, 1, nI 97), (185, 2, nI 112), (185, 3, nI 101), (185, 4, nI 114), (186, 0, nI 116), (186, 1, nI 104), (186, 2, nI 117), (186, 3, nI 109), (186, 4, nI 98), (187, 0, nI 98), (187, 1, nI 111), (187, 2, nI 120), (188, 0, nI 100), (188, 1, nI 117), (188, 2, nI 100), (188, 3, nI 115), (189, 0, nI 104), (189, 1, nI 97), (189, 2, nI 116), (189, 3, nI 115), (190, 0, nI 112), (190, 1, nI 117), (190, 2, nI 108), (190, 3, nI 108), (191, 0, nI 115), (191, 1, nI 108), (191, 2, nI 105), (191, 3, nI 112), (192, 0, nI 98), (192, 1, nI 97), (192, 2, nI 110), (192, 3, nI 103), (193, 0, nI 97), (193, 1, nI 114), (193, 2, nI 109), (194, 0, nI 108), (194, 1, nI 111), (194, 2, nI 119), (195, 0, nI 111), (195, 1, nI 116), (195, 2, nI 104), (195, 3, nI 101), (195, 4, nI 114), (196, 0, nI 110), (196, 1, nI 117), (196, 2, nI 109), (196, 3, nI 98), (196, 4, nI 101), (196, 5, nI 114), (197, 0, nI 119), (197, 1, nI 105), (197, 2, nI 110), (197, 3, nI 115), (198, 0, nI 111), (198, 1, nI 114), (199, 0, nI 97), (199, 1, nI 110), (199, 2, nI 100), (200, 0, nI 110), (200, 1, nI 111), (200, 2, nI 116), (201, 0, nI 97), (201, 1, nI 108), (201, 2, nI 108), (202, 0, nI 109), (202, 1, nI 105), (202, 2, nI 110), (203, 0, nI 109), (203, 1, nI 97), (203, 2, nI 120), (208, 0, nI 100), (208, 1, nI 100), (209, 0, (-1)), (209, 1, (-1)), (209, 2, (-1)), (209, 3, (-1)), (227, 0, nI 102), (227, 1, nI 105), (227, 2, nI 114), (227, 3, nI 115), (227, 4, nI 116), (228, 0, nI 108), (228, 1, nI 97), (228, 2, nI 115), (228, 3, nI 116), (229, 0, nI 111), (229, 1, nI 102), (229, 2, nI 116), (229, 3, nI 101), (229, 4, nI 110), (230, 0, nI 116), (230, 1, nI 111), (230, 2, nI 116), (230, 3, nI 97), (230, 4, nI 108), (231, 0, nI 109), (231, 1, nI 111), (231, 2, nI 115), (231, 3, nI 116), (232, 0, nI 108), (232, 1, nI 101), (232, 2, nI 97), (232, 3, nI 115), (232, 4, nI 116), (233, 0, nI 110), (233, 1, nI 111), (233, 2, nI 116), (234, 0, nI 97), (234, 1, nI 110), (234, 2, nI 100), (235, 0, nI 111), (235, 1, nI 114), (236, 0, nI 97), (236, 1, nI 108), (236, 2, nI 108), (237, 0, nI 109), (237, 1, nI 105), (237, 2, nI 110), (238, 0, nI 109), (238, 1, nI 97), (238, 2, nI 120), (239, 0, nI 110), (239, 1, nI 117), (239, 2, nI 109), (239, 3, nI 98), (239, 4, nI 101), (239, 5, nI 114), (240, 0, nI 114), (240, 1, nI 105), (240, 2, nI 103), (240, 3, nI 104), (240, 4, nI 116), (241, 0, nI 108), (241, 1, nI 101), (241, 2, nI 102), (241, 3, nI 116), (242, 0, nI 104), (242, 1, nI 97), (242, 2, nI 116), (242, 3, nI 115), (243, 0, nI 116), (243, 1, nI 104), (243, 2, nI 117), (243, 3, nI 109), (243, 4, nI 98), (244, 0, nI 119), (244, 1, nI 105), (244, 2, nI 110), (244, 3, nI 115)]
def cqR : List (Nat × Nat × Nat) := [(0, 0, 1), (2, 0, 3), (2, 1, 4), (2, 2, 5), (2, 3, 6), (2, 4, 7), (2, 5, 8), (0, 2, 2), (9, 0, 2), (0, 3, 9), (10, 2, 11), (10, 3, 12), (10, 4, 13), (10, 5, 14), (10, 6, 15), (10, 8, 16), (10, 9, 17), (18, 0, 19), (18, 1, 20), (10, 13, 18), (21, 0, 22), (21, 1, 23), (10, 14, 21), (0, 4, 10), (24, 2, 25), (24, 3, 26), (24, 4, 27), (24, 5, 28), (24, 6, 29), (24, 8, 30), (24, 9, 31), (32, 0, 33), (32, 1, 34), (24, 13, 32), (35, 0, 36), (35, 1, 37), (24, 14, 35), (0, 5, 24), (39, 0, 40), (39, 1, 41), (38, 2, 39), (38, 3, 42), (38, 0, 2), (38, 1, 9), (0, 6, 38), (43, 4, 44), (43, 5, 45), (43, 6, 46), (43, 7, 47), (0, 7, 43), (48, 0, 49), (50, 4, 51), (50, 5, 52), (50, 6, 53), (50, 7, 54), (49, 0, 50), (55, 4, 56), (55, 5, 57), (55, 6, 58), (55, 7, 59), (49, 1, 55), (60, 4, 61), (60, 5, 62), (60, 6, 63), (60, 7, 64), (49, 2, 60), (65, 4, 66), (65, 5, 67), (65, 6, 68), (65, 7, 69), (49, 3, 65), (70, 4, 71), (70, 5, 72), (70, 6, 73), (70, 7, 74), (49, 4, 70), (75, 4, 76), (75, 5, 77), (75, 6, 78), (75, 7, 79), (49, 5, 75), (80, 4, 81), (80, 5, 82), (80, 6, 83), (80, 7, 84), (49, 6, 80), (85, 4, 86), (85, 5, 87), (85, 6, 88), (85, 7, 89), (49, 7, 85), (90, 4, 91), (90, 5, 92), (90, 6, 93), (90, 7, 94), (49, 8, 90), (95, 4, 96), (95, 5, 97), (95, 6, 98), (95, 7, 99), (49, 9, 95), (100, 4, 101), (100, 5, 102), (100, 6, 103), (100, 7, 104), (49, 10, 100), (105, 4, 106), (105, 5, 107), (105, 6, 108), (105, 7, 109), (49, 11, 105), (110, 4, 111), (110, 5, 112), (110, 6, 113), (110, 7, 114), (49, 12, 110), (115, 4, 116), (115, 5, 117), (115, 6, 118), (115, 7, 119), (49, 13, 115), (120, 4, 121), (120, 5, 122), (120, 6, 123), (120, 7, 124), (49, 14, 120), (125, 4, 126), (125, 5, 127), (125, 6, 128), (125, 7, 129), (49, 15, 125), (130, 4, 131), (130, 5, 132), (130, 6, 133), (130, 7, 134), (49, 16, 130), (135, 4, 136), (135, 5, 137), (135, 6, 138), (135, 7, 139), (49, 17, 135), (140, 4, 141), (140, 5, 142), (140, 6, 143), (140, 7, 144), (49, 18, 140), (145, 4, 146), (145, 5, 147), (145, 6, 148), (145, 7, 149), (49, 19, 145), (0, 8, 48), (150, 1, 151), (150, 2, 152), (150, 3, 153), (150, 4, 154), (150, 5, 155), (150, 0, 10), (0, 9, 150), (157, 4, 158), (157, 5, 159), (157, 6, 160), (157, 7, 161), (156, 1, 157), (162, 4, 163), (162, 5, 164), (162, 6, 165), (162, 7, 166), (156, 2, 162), (156, 0, 150), (0, 10, 156), (167, 1, 168), (167, 2, 169), (167, 3, 170), (167, 5, 171), (167, 0, 150), (0, 11, 167), (172, 0, 173), (172, 1, 174), (0, 12, 172), (0, 13, 175), (0, 18, 176), (177, 0, 178), (177, 9, 179), (177, 10, 180), (177, 11, 181), (177, 12, 182), (177, 13, 183), (177, 14, 184), (177, 15, 185), (177, 16, 186), (177, 17, 187), (177, 18, 188), (177, 19, 189), (177, 20, 190), (177, 21, 191), (177, 22, 192), (177, 23, 193), (177, 24, 194), (177, 25, 195), (177, 26, 196), (177, 27, 197), (177, 28, 198), (177, 29, 199), (177, 30, 200), (177, 31, 201), (177, 32, 202), (177, 33, 203), (177, 35, 204), (177, 36, 205), (177, 37, 206), (177, 38, 207), (177, 39, 208), (177, 40, 209), (177, 41, 210), (177, 43, 211), (177, 45, 212), (177, 49, 213), (177, 51, 214), (177, 52, 215), (177, 53, 216), (177, 54, 217), (177, 55, 218), (177, 56, 219), (177, 57, 220), (177, 58, 221), (177, 59, 222), (177, 62, 223), (177, 63, 224), (177, 64, 225), (177, 65, 226), (177, 69, 227), (177, 70, 228), (177, 71, 229), (177, 72, 230), (177, 73, 231), (177, 74, 232), (177, 75, 233), (177, 76, 234), (177, 77, 235), (177, 78, 236), (177, 79, 237), (177, 80, 238), (177, 81, 239), (177, 82, 240), (177, 83, 241), (177, 84, 242), (177, 85, 243), (177, 86, 244), (177, 87, 245), (177, 89, 246), (177, 93, 247), (177, 97, 248)]
def cqL (l : Nat) : zML := match l with
  | 0 => fun _ _ => 0
  | _ => zu (fun _ _ => 0) 177 68 1
def cqM (i : Nat) : zMI := (cqI.take i).foldl (fun f e => zu f e.1 e.2.1 e.2.2) (fun _ _ => 0)
def cqQ (r : Nat) : zMR := (cqR.take r).foldl (fun f e => zu f e.1 e.2.1 (some e.2.2)) (fun _ _ => none)
theorem cqM_s {i i' o k : Nat} {x : Int32} (h : cqI[i]? = some (o, k, x)) (hi : i + 1 = i') : zu (cqM i) o k x = cqM i' := by
  subst hi
  unfold cqM
  rw [List.take_add_one, h, List.foldl_append]
  rfl
theorem cqQ_s {r r' o k x : Nat} (h : cqR[r]? = some (o, k, x)) (hi : r + 1 = r') : zu (cqQ r) o k (some x) = cqQ r' := by
  subst hi
  unfold cqQ
  rw [List.take_add_one, h, List.foldl_append]
  rfl
theorem cqM_z : ∀ (l : List (Nat × Nat × Int32)) (f : zMI) (n : Nat), (l.all fun e => decide (e.1 < n)) = true → ∀ k, l.foldl (fun f e => zu f e.1 e.2.1 e.2.2) f n k = f n k := by
  intro l
  induction l with
  | nil => intro f n _ k; rfl
  | cons e l ih =>
    intro f n h k
    rw [List.all_cons, Bool.and_eq_true] at h
    have h1 : e.1 < n := of_decide_eq_true h.1
    rw [List.foldl_cons, ih _ n h.2 k, zu_ne (by omega)]
theorem cqQ_z : ∀ (l : List (Nat × Nat × Nat)) (f : zMR) (n : Nat), (l.all fun e => decide (e.1 < n)) = true → ∀ k, l.foldl (fun f e => zu f e.1 e.2.1 (some e.2.2)) f n k = f n k := by
  intro l
  induction l with
  | nil => intro f n _ k; rfl
  | cons e l ih =>
    intro f n h k
    rw [List.all_cons, Bool.and_eq_true] at h
    have h1 : e.1 < n := of_decide_eq_true h.1
    rw [List.foldl_cons, ih _ n h.2 k, zu_ne (by omega)]
def cqF (n i r l : Nat) : Bool := (decide (l = 0) || decide (177 < n)) && (((cqI.take i).all fun e => decide (e.1 < n)) && ((cqR.take r).all fun e => decide (e.1 < n)))
theorem cqF_z {n i r l : Nat} (h : cqF n i r l = true) (k : Nat) : cqM i n k = 0 ∧ cqL l n k = 0 ∧ cqQ r n k = none := by
  unfold cqF at h
  rw [Bool.and_eq_true, Bool.and_eq_true, Bool.or_eq_true, decide_eq_true_iff, decide_eq_true_iff] at h
  refine ⟨cqM_z _ _ n h.2.1 k, ?_, cqQ_z _ _ n h.2.2 k⟩
  rcases h.1 with h | h
  · subst h
    rfl
  · cases l with
    | zero => rfl
    | succ l => exact congrFun (zu_ne (f := fun _ _ => (0 : Int64)) (o := 177) (o' := n) (k := 68) (x := 1) (by omega)) k
theorem zlt_l {n : Nat} (h : n < 249) : (SS.take n).length = n := by
  rw [List.length_take, zlen_SS]
  omega
theorem zlt_p {n n' : Nat} {x : zSh} (h : SS[n]? = some x) (hn : n + 1 = n') : SS.take n ++ [x] = SS.take n' := by
  subst hn
  rw [List.take_add_one, h]
  rfl
theorem zlt_g {n o : Nat} {x : zSh} (h : SS[o]? = some x) (ho : o < n) : (SS.take n)[o]? = some x := by
  rw [List.getElem?_take, if_pos ho]
  exact h
def cqS (n i r l : Nat) : zQ := fun v S M L R => v = none ∧ S = SS.take n ∧ M = cqM i ∧ L = cqL l ∧ R = cqQ r
section
variable {w : zWo} {Y : zY} {B : zR} {G : zG} {E : Option zQ} {pc q : Nat} {loc loc' : List (Nat × Value)} {st : List Value} {n n' i i' r r' l l' : Nat}
theorem st_new {idx ci : Nat} (hd : decode Y.2.1 pc = .ok (.new idx, 3)) (hN : zN Y.1 idx ci) (hS : SS[n]? = some (.inr ci)) (hn : n < 249) (hf : cqF n i r l = true) (hn' : n + 1 = n') (hc : n + 1 ≤ B.2.1.length + B.2.2.1) (hs : zsl (SS.take n) + zNN ci ≤ zsl B.2.1 + B.2.2.2) (hq : pc + 3 = q)
    (kk : WP w Y B G E q loc (.ref n :: st) (SS.take n') (cqM i) (cqL l) (cqQ r)) : WP w Y B G E pc loc st (SS.take n) (cqM i) (cqL l) (cqQ r) := by
  refine wp_new hd hN (by rw [zlt_l hn]; exact cqF_z hf) (by rw [zlt_l hn]; exact hc) hs hq ?_
  rw [zlt_l hn, zlt_p hS hn']
  exact kk
theorem st_newaI {N : Nat} {x : Int32} (hd : decode Y.2.1 pc = .ok (.newarray .int, 2)) (hx : x = nI N) (hS : SS[n]? = some (.inl (N, .int))) (hN : N ≤ 10000) (hn : n < 249) (hf : cqF n i r l = true) (hn' : n + 1 = n') (hc : n + 1 ≤ B.2.1.length + B.2.2.1) (hs : zsl (SS.take n) + N ≤ zsl B.2.1 + B.2.2.2) (hq : pc + 2 = q)
    (kk : WP w Y B G E q loc (.ref n :: st) (SS.take n') (cqM i) (cqL l) (cqQ r)) : WP w Y B G E pc loc (.int x :: st) (SS.take n) (cqM i) (cqL l) (cqQ r) := by
  refine wp_newaI hd hx hN (by rw [zlt_l hn]; exact cqF_z hf) (by rw [zlt_l hn]; exact hc) hs hq ?_
  rw [zlt_l hn, zlt_p hS hn']
  exact kk
theorem st_newaC {N : Nat} {x : Int32} (hd : decode Y.2.1 pc = .ok (.newarray .char, 2)) (hx : x = nI N) (hS : SS[n]? = some (.inl (N, .char))) (hN : N ≤ 10000) (hn : n < 249) (hf : cqF n i r l = true) (hn' : n + 1 = n') (hc : n + 1 ≤ B.2.1.length + B.2.2.1) (hs : zsl (SS.take n) + N ≤ zsl B.2.1 + B.2.2.2) (hq : pc + 2 = q)
    (kk : WP w Y B G E q loc (.ref n :: st) (SS.take n') (cqM i) (cqL l) (cqQ r)) : WP w Y B G E pc loc (.int x :: st) (SS.take n) (cqM i) (cqL l) (cqQ r) := by
  refine wp_newaC hd hx hN (by rw [zlt_l hn]; exact cqF_z hf) (by rw [zlt_l hn]; exact hc) hs hq ?_
  rw [zlt_l hn, zlt_p hS hn']
  exact kk
theorem st_newaL {N : Nat} {x : Int32} (hd : decode Y.2.1 pc = .ok (.newarray .long, 2)) (hx : x = nI N) (hS : SS[n]? = some (.inl (N, .long))) (hN : N ≤ 10000) (hn : n < 249) (hf : cqF n i r l = true) (hn' : n + 1 = n') (hc : n + 1 ≤ B.2.1.length + B.2.2.1) (hs : zsl (SS.take n) + N ≤ zsl B.2.1 + B.2.2.2) (hq : pc + 2 = q)
    (kk : WP w Y B G E q loc (.ref n :: st) (SS.take n') (cqM i) (cqL l) (cqQ r)) : WP w Y B G E pc loc (.int x :: st) (SS.take n) (cqM i) (cqL l) (cqQ r) := by
  refine wp_newaL hd hx hN (by rw [zlt_l hn]; exact cqF_z hf) (by rw [zlt_l hn]; exact hc) hs hq ?_
  rw [zlt_l hn, zlt_p hS hn']
  exact kk
theorem st_anewa {N idx : Nat} {x : Int32} (hd : decode Y.2.1 pc = .ok (.anewarray idx, 3)) (hcl : Cond.classLink Y.1 idx "CrackerRing$State" ∈ lw_g) (hx : x = nI N) (hS : SS[n]? = some (.inl (N, .object "CrackerRing$State"))) (hN : N ≤ 10000) (hn : n < 249) (hf : cqF n i r l = true) (hn' : n + 1 = n') (hc : n + 1 ≤ B.2.1.length + B.2.2.1) (hs : zsl (SS.take n) + N ≤ zsl B.2.1 + B.2.2.2) (hq : pc + 3 = q)
    (kk : WP w Y B G E q loc (.ref n :: st) (SS.take n') (cqM i) (cqL l) (cqQ r)) : WP w Y B G E pc loc (.int x :: st) (SS.take n) (cqM i) (cqL l) (cqQ r) := by
  refine wp_anewa hd hcl hx hN (by rw [zlt_l hn]; exact cqF_z hf) (by rw [zlt_l hn]; exact hc) hs hq ?_
  rw [zlt_l hn, zlt_p hS hn']
  exact kk
theorem st_putI {idx ci k o : Nat} {x : Int32} {ty : FieldType} (hd : decode Y.2.1 pc = .ok (.putfield idx, 3)) (hF : zF Y.1 idx ci k ty false) (ht : ty = .int) (hS : SS[o]? = some (.inr ci)) (ho : o < n) (hI : cqI[i]? = some (o, k, x)) (hi' : i + 1 = i') (hq : pc + 3 = q) (kk : WP w Y B G E q loc st (SS.take n) (cqM i') (cqL l) (cqQ r)) : WP w Y B G E pc loc (.int x :: .ref o :: st) (SS.take n) (cqM i) (cqL l) (cqQ r) :=
  wp_putI hd hF ht (zlt_g hS ho) hq (by rw [cqM_s hI hi']; exact kk)
theorem st_putIF {idx ci k o : Nat} {x : Int32} {ty : FieldType} (hd : decode Y.2.1 pc = .ok (.putfield idx, 3)) (hF : zF Y.1 idx ci k ty true) (ht : ty = .int) (hS : SS[o]? = some (.inr ci)) (ho : o < n) (hI : cqI[i]? = some (o, k, x)) (hi' : i + 1 = i') (hi : Y.2.2.2.2 = true) (hC : Option.map (fun z : vw_C => z.1) vwCl[ci]? = some Y.1) (hq : pc + 3 = q) (kk : WP w Y B G E q loc st (SS.take n) (cqM i') (cqL l) (cqQ r)) : WP w Y B G E pc loc (.int x :: .ref o :: st) (SS.take n) (cqM i) (cqL l) (cqQ r) :=
  wp_putIF hd hF ht (zlt_g hS ho) hi hC hq (by rw [cqM_s hI hi']; exact kk)
theorem st_putZ {idx ci k o : Nat} {x : Int32} {ty : FieldType} (hd : decode Y.2.1 pc = .ok (.putfield idx, 3)) (hF : zF Y.1 idx ci k ty false) (ht : ty = .boolean) (hx : x = 0 ∨ x = 1) (hS : SS[o]? = some (.inr ci)) (ho : o < n) (hI : cqI[i]? = some (o, k, x)) (hi' : i + 1 = i') (hq : pc + 3 = q) (kk : WP w Y B G E q loc st (SS.take n) (cqM i') (cqL l) (cqQ r)) : WP w Y B G E pc loc (.int x :: .ref o :: st) (SS.take n) (cqM i) (cqL l) (cqQ r) :=
  wp_putZ hd hF ht hx (zlt_g hS ho) hq (by rw [cqM_s hI hi']; exact kk)
theorem cqL_u {o k : Nat} : zu (cqL 0) o k 0 = cqL 0 := by
  funext a b
  rw [zu_at]
  split <;> rfl
theorem st_putL {idx ci k o : Nat} {ty : FieldType} (hd : decode Y.2.1 pc = .ok (.putfield idx, 3)) (hF : zF Y.1 idx ci k ty false) (ht : ty = .long) (hS : SS[o]? = some (.inr ci)) (ho : o < n) (hq : pc + 3 = q) (kk : WP w Y B G E q loc st (SS.take n) (cqM i) (cqL 0) (cqQ r)) : WP w Y B G E pc loc (.long 0 :: .ref o :: st) (SS.take n) (cqM i) (cqL 0) (cqQ r) :=
  wp_putL hd hF ht (zlt_g hS ho) hq (by rw [cqL_u]; exact kk)
theorem st_putL1 {idx : Nat} {ty : FieldType} (hd : decode Y.2.1 pc = .ok (.putfield idx, 3)) (hF : zF Y.1 idx 12 68 ty false) (ht : ty = .long) (ho : 177 < n) (hq : pc + 3 = q) (kk : WP w Y B G E q loc st (SS.take n) (cqM i) (cqL 1) (cqQ r)) : WP w Y B G E pc loc (.long 1 :: .ref 177 :: st) (SS.take n) (cqM i) (cqL 0) (cqQ r) :=
  wp_putL hd hF ht (zlt_g zsh_177 ho) hq kk
theorem st_putR {idx ci k o x : Nat} {ty : FieldType} (hd : decode Y.2.1 pc = .ok (.putfield idx, 3)) (hF : zF Y.1 idx ci k ty false) (ht : zkd ty = 2) (hS : SS[o]? = some (.inr ci)) (ho : o < n) (hI : cqR[r]? = some (o, k, x)) (hi' : r + 1 = r') (hq : pc + 3 = q) (kk : WP w Y B G E q loc st (SS.take n) (cqM i) (cqL l) (cqQ r')) : WP w Y B G E pc loc (.ref x :: .ref o :: st) (SS.take n) (cqM i) (cqL l) (cqQ r) :=
  wp_putR hd hF ht (zlt_g hS ho) hq (by rw [cqQ_s hI hi']; exact kk)
theorem st_putRF {idx ci k o x : Nat} {ty : FieldType} (hd : decode Y.2.1 pc = .ok (.putfield idx, 3)) (hF : zF Y.1 idx ci k ty true) (ht : zkd ty = 2) (hS : SS[o]? = some (.inr ci)) (ho : o < n) (hI : cqR[r]? = some (o, k, x)) (hi' : r + 1 = r') (hi : Y.2.2.2.2 = true) (hC : Option.map (fun z : vw_C => z.1) vwCl[ci]? = some Y.1) (hq : pc + 3 = q) (kk : WP w Y B G E q loc st (SS.take n) (cqM i) (cqL l) (cqQ r')) : WP w Y B G E pc loc (.ref x :: .ref o :: st) (SS.take n) (cqM i) (cqL l) (cqQ r) :=
  wp_putRF hd hF ht (zlt_g hS ho) hi hC hq (by rw [cqQ_s hI hi']; exact kk)
theorem st_getR {idx ci k o v : Nat} {ty : FieldType} {fin : Bool} (hd : decode Y.2.1 pc = .ok (.getfield idx, 3)) (hF : zF Y.1 idx ci k ty fin) (ht : zkd ty = 2) (hS : SS[o]? = some (.inr ci)) (ho : o < n) (hv : cqQ r o k = some v) (hq : pc + 3 = q) (kk : WP w Y B G E q loc (.ref v :: st) (SS.take n) (cqM i) (cqL l) (cqQ r)) : WP w Y B G E pc loc (.ref o :: st) (SS.take n) (cqM i) (cqL l) (cqQ r) :=
  wp_getR hd hF ht (zlt_g hS ho) hv hq kk
theorem st_cast {o N j : Nat} {a x : Int32} (hd : decode Y.2.1 pc = .ok (.castore, 1)) (hS : SS[o]? = some (.inl (N, .char))) (ho : o < n) (ha : a = nI j) (hj : j < N) (hN : N < 2 ^ 31) (hx : vp_nar .char x = x) (hI : cqI[i]? = some (o, j, x)) (hi' : i + 1 = i') (hq : pc + 1 = q) (kk : WP w Y B G E q loc st (SS.take n) (cqM i') (cqL l) (cqQ r)) : WP w Y B G E pc loc (.int x :: .int a :: .ref o :: st) (SS.take n) (cqM i) (cqL l) (cqQ r) :=
  wp_cast j hd (zlt_g hS ho) ha hj hN hq (by rw [hx, cqM_s hI hi']; exact kk)
theorem st_iast {o N j : Nat} {a x : Int32} (hd : decode Y.2.1 pc = .ok (.iastore, 1)) (hS : SS[o]? = some (.inl (N, .int))) (ho : o < n) (ha : a = nI j) (hj : j < N) (hN : N < 2 ^ 31) (hI : cqI[i]? = some (o, j, x)) (hi' : i + 1 = i') (hq : pc + 1 = q) (kk : WP w Y B G E q loc st (SS.take n) (cqM i') (cqL l) (cqQ r)) : WP w Y B G E pc loc (.int x :: .int a :: .ref o :: st) (SS.take n) (cqM i) (cqL l) (cqQ r) :=
  wp_iast j hd (zlt_g hS ho) ha hj hN hq (by rw [cqM_s hI hi']; exact kk)
theorem st_aast {o N v j : Nat} {a : Int32} (hd : decode Y.2.1 pc = .ok (.aastore, 1)) (hS : SS[o]? = some (.inl (N, .object "CrackerRing$State"))) (ho : o < n) (hN : N < 2 ^ 31) (ha : a = nI j) (hj : j < N) (hV : SS[v]? = some (.inr 7)) (hv : v < n) (hI : cqR[r]? = some (o, j, v)) (hi' : r + 1 = r') (hq : pc + 1 = q) (kk : WP w Y B G E q loc st (SS.take n) (cqM i) (cqL l) (cqQ r')) : WP w Y B G E pc loc (.ref v :: .int a :: .ref o :: st) (SS.take n) (cqM i) (cqL l) (cqQ r) :=
  wp_aast (ci := 7) j hd (zlt_g hS ho) (by decide) ha hj hN (zlt_g hV hv) rfl hq (by rw [cqQ_s hI hi']; exact kk)
theorem st_callI {idx k d mc ms : Nat} {y : MethodName} {Y2 : zY} {as : List Value} {o : Nat} (hsp : Sp y Y2 d (.ref o :: as) (SS.take n) (cqM i) (cqL l) (cqQ r) mc ms (cqS n' i' r' l')) (hm : zMI' y Y2 k) (hlink : Cond.methodLink Y.1 idx y ∈ lw_g) (hd : decode Y.2.1 pc = .ok (.invokespecial idx, 3)) (hn : as.length = k) (hdep : d + 1 ≤ B.1) (hcat : (st.map fun v => v.category).sum ≤ 8)
    (hc : (SS.take n).length + mc ≤ B.2.1.length + B.2.2.1) (hs : zsl (SS.take n) + ms ≤ zsl B.2.1 + B.2.2.2) (hq : pc + 3 = q) (kk : WP w Y B G E q loc st (SS.take n') (cqM i') (cqL l') (cqQ r')) : WP w Y B G E pc loc (as.reverse ++ .ref o :: st) (SS.take n) (cqM i) (cqL l) (cqQ r) := by
  refine wp_callI hsp hm hlink hd hn hdep hcat hc hs hq ?_
  rintro _ _ _ _ _ ⟨rfl, rfl, rfl, rfl, rfl⟩ - -
  exact kk
end


