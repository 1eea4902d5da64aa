-- the reference's next row
def zni (q : List Nat) : Nat → Nat
  | 0 => 0
  | i + 1 => if q.getD (i + 2) 0 < q.getD (i + 1) 0 then zni q i else i + 1
def znj (q : List Nat) (i : Nat) : Nat → Nat
  | 0 => 0
  | j + 1 => if q.getD (j + 1) 0 < q.getD i 0 then znj q i j else j + 1
def zslq (q : List Nat) (i j : Nat) : List Nat := (q.set i (q.getD j 0)).set j (q.getD i 0)
def zrv : Nat → List Nat → Nat → Nat → List Nat
  | 0, q, _, _ => q
  | k + 1, q, a, b => if a < b then zrv k (zslq q a b) (a + 1) (b - 1) else q
def znx (n : Nat) (q : List Nat) : Option (List Nat) := if zni q (n - 2) = 0 then none else some (zrv 4 (zslq q (zni q (n - 2)) (znj q (zni q (n - 2)) (n - 1))) (zni q (n - 2) + 1) (n - 1))
def zgq (n : Nat) (q : List Nat) : Bool := decide (q.length = n) && (List.range n).all (fun k => decide (q.getD k 0 < n) && decide (q.getD k 0 ≠ q.getD ((k + 1) % n) 0))
def zch (n : Nat) : List (List Nat) → Option (List Nat) → Bool
  | [], _ => true
  | q :: r, e => zgq n q && decide (znx n q = (match r with | [] => e | q' :: _ => some q')) && zch n r e
def zchA (n : Nat) : Bool := zch n (zxt n (n - 1) [0]) none && decide ((zxt n (n - 1) [0]).head? = some (List.range n))
def zchB (x : Nat) (h : List Nat) (e : Option (List Nat)) : Bool := zch 8 (zxt 8 6 ([0] ++ [x])) e && decide ((zxt 8 6 ([0] ++ [x])).head? = some h)
set_option maxRecDepth 100000 in
theorem zchA_2 : zchA 2 = true := by decide +kernel
set_option maxRecDepth 100000 in
theorem zchA_3 : zchA 3 = true := by decide +kernel
set_option maxRecDepth 100000 in
theorem zchA_4 : zchA 4 = true := by decide +kernel
set_option maxRecDepth 100000 in
theorem zchA_5 : zchA 5 = true := by decide +kernel
set_option maxRecDepth 100000 in
theorem zchA_6 : zchA 6 = true := by decide +kernel
set_option maxRecDepth 100000 in
theorem zchA_7 : zchA 7 = true := by decide +kernel
set_option maxRecDepth 100000 in
theorem zchB_1 : zchB 1 [0, 1, 2, 3, 4, 5, 6, 7] (some [0, 2, 1, 3, 4, 5, 6, 7]) = true := by decide +kernel
set_option maxRecDepth 100000 in
theorem zchB_2 : zchB 2 [0, 2, 1, 3, 4, 5, 6, 7] (some [0, 3, 1, 2, 4, 5, 6, 7]) = true := by decide +kernel
set_option maxRecDepth 100000 in
theorem zchB_3 : zchB 3 [0, 3, 1, 2, 4, 5, 6, 7] (some [0, 4, 1, 2, 3, 5, 6, 7]) = true := by decide +kernel
set_option maxRecDepth 100000 in
theorem zchB_4 : zchB 4 [0, 4, 1, 2, 3, 5, 6, 7] (some [0, 5, 1, 2, 3, 4, 6, 7]) = true := by decide +kernel
set_option maxRecDepth 100000 in
theorem zchB_5 : zchB 5 [0, 5, 1, 2, 3, 4, 6, 7] (some [0, 6, 1, 2, 3, 4, 5, 7]) = true := by decide +kernel
set_option maxRecDepth 100000 in
theorem zchB_6 : zchB 6 [0, 6, 1, 2, 3, 4, 5, 7] (some [0, 7, 1, 2, 3, 4, 5, 6]) = true := by decide +kernel
set_option maxRecDepth 100000 in
theorem zchB_7 : zchB 7 [0, 7, 1, 2, 3, 4, 5, 6] (none) = true := by decide +kernel

