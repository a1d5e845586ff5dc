/-! ===== meets and joins are there ===== -/
/-- the bit of the pair a < b of numbers -/
def pbi (a b : Nat) : Nat := (b - 1) * (b - 2) / 2 + a - 1
/-- swapped sets tell of a < b < c: both, then the outer one -/
def trTt (s : Nat) (t : Nat × Nat × Nat) : Bool := !(tst s t.1 && tst s t.2.1) || tst s t.2.2
/-- neither, then not the outer one -/
def trCo (s : Nat) (t : Nat × Nat × Nat) : Bool := tst s t.1 || tst s t.2.1 || !tst s t.2.2
/-- adds what must come -/
def trAd (l : List (Nat × Nat × Nat)) (s : Nat) : Nat := l.foldl (fun s t => if (tst s t.1 && tst s t.2.1) = true then s ||| 2 ^ t.2.2 else s) s
/-- the triples so ordered that what is added comes ahead of what it is used for -/
def trLi (n : Nat) : List (Nat × Nat × Nat) := (List.range (n + 1)).flatMap (fun w => (List.range (n + 1)).flatMap (fun a => if a = 0 ∨ n < a + w then [] else (List.range (a + w)).flatMap (fun b => if a < b then [(pbi a b, pbi b (a + w), pbi a (a + w))] else [])))
/-- the row with these swapped: place of v, number, index -/
def plS (n s v : Nat) : Nat := (List.range n).foldl (fun p u => p + (if u + 1 < v then (if tst s (pbi (u + 1) v) = true then 0 else 1) else if v < u + 1 then (if tst s (pbi v (u + 1)) = true then 1 else 0) else 0)) 0
def nuS (n s : Nat) : Nat := (List.range n).foldl (fun r v => r + (v + 1) * 10 ^ (n - 1 - plS n s (v + 1))) 0
def ixS (n s : Nat) : Nat := rkO n (nuS n s) n
def nPr (n : Nat) : Nat := n * (n - 1) / 2
/-- every set that may be a union of swapped sets, closed, is a swapped set -/
def lat_b (n : Nat) : Bool := allB (fun u => !((trLi n).all (trCo u)) || (Nat.blt (ixS n (trAd (trLi n) u)) (FC n) && (sw n (ixS n (trAd (trLi n) u)) == trAd (trLi n) u))) (2 ^ nPr n)
theorem lat_1 : lat_b 1 = true := by decide +kernel
theorem lat_2 : lat_b 2 = true := by decide +kernel
theorem lat_3 : lat_b 3 = true := by decide +kernel
theorem lat_4 : lat_b 4 = true := by decide +kernel
theorem lat_5 : lat_b 5 = true := by decide +kernel
def sws_b (n : Nat) : Bool := allB (fun i => Nat.blt (sw n i) (2 ^ nPr n) && ((trLi n).all (trCo (sw n i)) && ((trLi n).all (trTt (sw n i)) && (Nat.blt (ixS n (2 ^ nPr n - 1 - sw n i)) (FC n) && sw n (ixS n (2 ^ nPr n - 1 - sw n i)) == 2 ^ nPr n - 1 - sw n i)))) (FC n)
theorem sws_c : all6 sws_b = true := by decide +kernel
