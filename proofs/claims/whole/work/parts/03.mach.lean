/-! ===== an abstract machine for the bytecode of this claim: ints are any representatives mod 2^32, longs 64 bits, references are numbers of a list of cells, tables (static arrays, texts, the script) are numbers of their own ===== -/
abbrev AV : Type := Int ⊕ (BitVec 64 ⊕ (Option Nat ⊕ Nat))
abbrev mI (x : Int) : AV := .inl x
abbrev mL (x : BitVec 64) : AV := .inr (.inl x)
abbrev mQ (r : Option Nat) : AV := .inr (.inr (.inl r))
abbrev mR (a : Nat) : AV := .inr (.inr (.inl (some a)))
abbrev mN : AV := .inr (.inr (.inl none))
abbrev mS (j : Nat) : AV := .inr (.inr (.inr j))
/-- a cell: an object of a class, an int (0) or boolean (1) array, a long array, an array of references -/
abbrev AC : Type := (Nat × List AV) ⊕ ((Nat × List Int) ⊕ (List (BitVec 64) ⊕ (Nat × List (Option Nat))))
abbrev HP : Type := List AC
abbrev LV : Type := List (Option AV)
abbrev BU : Type := Nat × Nat
/-- a point: pc, locals, stack, heap, what may still be made -/
abbrev CF : Type := Nat × LV × List AV × HP × BU
abbrev SR : Type := CF ⊕ ((Nat × List AV × CF) ⊕ Option AV)
/-- an instruction: a mark (1: a head), its kind, two operands, a constant, cases -/
abbrev AI : Type := Nat × Nat × Nat × Nat × AV × List (Int × Nat)
abbrev PO : Type := Option AV → HP → Prop
abbrev FN : Type := List Int → Nat → Nat → Nat → AV → List (Int × Nat) → LV → List AV → HP → BU → Option SR
def w32 (x : Int) : Int := (x + 2147483648) % 4294967296 - 2147483648
theorem w32_id {x : Int} (h1 : -2147483648 ≤ x) (h2 : x < 2147483648) : w32 x = x := by unfold w32; omega
theorem w32_in (x : Int) : -2147483648 ≤ w32 x ∧ w32 x < 2147483648 := by unfold w32; omega
theorem w32_w32 (x : Int) : w32 (w32 x) = w32 x := by unfold w32; omega
def iAnd (x y : Int) : Int := (Int32.ofInt x &&& Int32.ofInt y).toInt
def iOr (x y : Int) : Int := (Int32.ofInt x ||| Int32.ofInt y).toInt
def iXor (x y : Int) : Int := (Int32.ofInt x ^^^ Int32.ofInt y).toInt
def iShl (x y : Int) : Int := x * 2 ^ (w32 y % 32).toNat
def iShr (x y : Int) : Int := w32 x / 2 ^ (w32 y % 32).toNat
def iUshr (x y : Int) : Int := (x % 4294967296) / 2 ^ (w32 y % 32).toNat
def i2b (x : Int) : Int := (x + 128) % 256 - 128
def i2s (x : Int) : Int := (x + 32768) % 65536 - 32768
def lCmp (x y : BitVec 64) : Int := if x.toInt < y.toInt then -1 else if x.toInt = y.toInt then 0 else 1
/-- the cells' parts -/
def gF (hp : HP) (a ci k : Nat) : Option AV := match hp[a]? with
  | some (.inl (c, fs)) => if c = ci then fs[k]? else none
  | _ => none
def gC (hp : HP) (a : Nat) : Option Nat := match hp[a]? with
  | some (.inl (c, _)) => some c
  | _ => none
def gA (hp : HP) (a : Nat) : Option (List Int) := match hp[a]? with
  | some (.inr (.inl (0, l))) => some l
  | _ => none
def gB (hp : HP) (a : Nat) : Option (List Int) := match hp[a]? with
  | some (.inr (.inl (1, l))) => some l
  | _ => none
def gJ (hp : HP) (a : Nat) : Option (List (BitVec 64)) := match hp[a]? with
  | some (.inr (.inr (.inl l))) => some l
  | _ => none
def gQ (hp : HP) (a t : Nat) : Option (List (Option Nat)) := match hp[a]? with
  | some (.inr (.inr (.inr (u, l)))) => if u = t then some l else none
  | _ => none
def pF (hp : HP) (a ci k : Nat) (v : AV) : HP := match hp[a]? with
  | some (.inl (c, fs)) => if c = ci then hp.set a (.inl (c, fs.set k v)) else hp
  | _ => hp
def pA (hp : HP) (a : Nat) (l : List Int) : HP := match hp[a]? with
  | some (.inr (.inl (0, _))) => hp.set a (.inr (.inl (0, l)))
  | _ => hp
def pB (hp : HP) (a : Nat) (l : List Int) : HP := match hp[a]? with
  | some (.inr (.inl (1, _))) => hp.set a (.inr (.inl (1, l)))
  | _ => hp
def pJ (hp : HP) (a : Nat) (l : List (BitVec 64)) : HP := match hp[a]? with
  | some (.inr (.inr (.inl _))) => hp.set a (.inr (.inr (.inl l)))
  | _ => hp
def pQ (hp : HP) (a t : Nat) (l : List (Option Nat)) : HP := match hp[a]? with
  | some (.inr (.inr (.inr (u, _)))) => if u = t then hp.set a (.inr (.inr (.inr (u, l)))) else hp
  | _ => hp
/-- the class's static arrays; table 9 is the script -/
def stab (sc : List Int) : Nat → List Int
  | 0 => [1, 1, 2, 6, 24, 120, 720]
  | 1 => [1, 10, 100, 1000, 10000, 100000, 1000000]
  | 2 => [0, 0, 0, 1, 1, 2]
  | 3 => [10, 11, 12, 13, 20, 0, 0, 0, 0, 30, 31, 0, 40, 0, 0, 0, 0, 0, 0, 50, 0, 0, 60, 61]
  | 9 => sc
  | _ => []
/-- the texts, one a place where one is loaded: their bytes -/
def stxt : Nat → List Int
  | 0 => [108, 111, 119]
  | 1 => [104, 105, 103, 104]
  | 2 => [108, 101, 102, 116]
  | 3 => [114, 105, 103, 104, 116]
  | 4 => [108, 97, 115, 116]
  | 5 => [97, 110, 100]
  | 6 => [111, 114]
  | 7 => [110, 111, 116]
  | 8 => [110, 111, 116]
  | 9 => [40]
  | 10 => [41]
  | 11 => [108, 111, 119]
  | 12 => [104, 105, 103, 104]
  | 13 => [108, 101, 102, 116]
  | 14 => [114, 105, 103, 104, 116]
  | 15 => [108, 97, 115, 116]
  | 16 => [60]
  | 17 => [61]
  | 18 => [62]
  | 19 => [97, 110, 100]
  | 20 => [111, 114]
  | _ => []
def nTx : Nat := 21
def inb (i : Int) (n : Nat) : Bool := decide (0 ≤ w32 i) && decide (w32 i < n)
def f_none : FN := fun _ _ _ _ _ _ _ _ _ _ => none
def f_push : FN := fun _ nx _ _ v _ L st hp B => match v with
  | .inl _ => some (.inl (nx, L, v :: st, hp, B))
  | .inr (.inl _) => some (.inl (nx, L, v :: st, hp, B))
  | _ => none
def f_iload : FN := fun _ nx a _ _ _ L st hp B => match L[a]? with
  | some (some (.inl x)) => some (.inl (nx, L, mI x :: st, hp, B))
  | _ => none
def f_lload : FN := fun _ nx a _ _ _ L st hp B => match L[a]? with
  | some (some (.inr (.inl x))) => some (.inl (nx, L, mL x :: st, hp, B))
  | _ => none
def f_aload : FN := fun _ nx a _ _ _ L st hp B => match L[a]? with
  | some (some (.inr (.inr (.inl (some x))))) => some (.inl (nx, L, mR x :: st, hp, B))
  | some (some (.inr (.inr (.inr x)))) => some (.inl (nx, L, mS x :: st, hp, B))
  | _ => none
def isLong : Option AV → Bool
  | some (.inr (.inl _)) => true
  | _ => false
def unl (x : Option AV) : Option AV := if isLong x then none else x
def put1 : LV → Nat → AV → LV
  | [], _, _ => []
  | _ :: L, 0, v => some v :: L
  | x :: _ :: L, 1, v => unl x :: some v :: L
  | x :: L, n + 1, v => x :: put1 L n v
def put2 (L : LV) (i : Nat) (v : AV) : LV := (put1 L i v).set (i + 1) none
def f_istore : FN := fun _ nx a _ _ _ L st hp B => match st with
  | .inl x :: st => if a < L.length then some (.inl (nx, put1 L a (mI x), st, hp, B)) else none
  | _ => none
def f_lstore : FN := fun _ nx a _ _ _ L st hp B => match st with
  | .inr (.inl x) :: st => if a + 1 < L.length then some (.inl (nx, put2 L a (mL x), st, hp, B)) else none
  | _ => none
def f_astore : FN := fun _ nx a _ _ _ L st hp B => match st with
  | .inr (.inr (.inl (some x))) :: st => if a < L.length then some (.inl (nx, put1 L a (mR x), st, hp, B)) else none
  | _ => none
def f_iinc : FN := fun _ nx a _ v _ L st hp B => match L[a]?, v with
  | some (some (.inl x)), .inl k => some (.inl (nx, put1 L a (mI (x + k)), st, hp, B))
  | _, _ => none
def f_ii (g : Int → Int → Int) : FN := fun _ nx _ _ _ _ L st hp B => match st with
  | .inl y :: .inl x :: st => some (.inl (nx, L, mI (g x y) :: st, hp, B))
  | _ => none
def f_idiv : FN := fun _ nx _ _ _ _ L st hp B => match st with
  | .inl y :: .inl x :: st => if w32 y = 0 then none else some (.inl (nx, L, mI (Int.tdiv (w32 x) (w32 y)) :: st, hp, B))
  | _ => none
def f_irem : FN := fun _ nx _ _ _ _ L st hp B => match st with
  | .inl y :: .inl x :: st => if w32 y = 0 then none else some (.inl (nx, L, mI (Int.tmod (w32 x) (w32 y)) :: st, hp, B))
  | _ => none
def f_i (g : Int → Int) : FN := fun _ nx _ _ _ _ L st hp B => match st with
  | .inl x :: st => some (.inl (nx, L, mI (g x) :: st, hp, B))
  | _ => none
def f_ll (g : BitVec 64 → BitVec 64 → BitVec 64) : FN := fun _ nx _ _ _ _ L st hp B => match st with
  | .inr (.inl y) :: .inr (.inl x) :: st => some (.inl (nx, L, mL (g x y) :: st, hp, B))
  | _ => none
def f_li (g : BitVec 64 → Nat → BitVec 64) : FN := fun _ nx _ _ _ _ L st hp B => match st with
  | .inl y :: .inr (.inl x) :: st => some (.inl (nx, L, mL (g x (w32 y % 64).toNat) :: st, hp, B))
  | _ => none
def f_lcmp : FN := fun _ nx _ _ _ _ L st hp B => match st with
  | .inr (.inl y) :: .inr (.inl x) :: st => some (.inl (nx, L, mI (lCmp x y) :: st, hp, B))
  | _ => none
def f_i2l : FN := fun _ nx _ _ _ _ L st hp B => match st with
  | .inl x :: st => some (.inl (nx, L, mL (BitVec.ofInt 64 (w32 x)) :: st, hp, B))
  | _ => none
def f_l2i : FN := fun _ nx _ _ _ _ L st hp B => match st with
  | .inr (.inl x) :: st => some (.inl (nx, L, mI x.toInt :: st, hp, B))
  | _ => none
def f_dup : FN := fun _ nx _ _ _ _ L st hp B => match st with
  | v :: st => if isLong (some v) then none else some (.inl (nx, L, v :: v :: st, hp, B))
  | _ => none
def f_pop : FN := fun _ nx _ _ _ _ L st hp B => match st with
  | v :: st => if isLong (some v) then none else some (.inl (nx, L, st, hp, B))
  | _ => none
def f_dup2 : FN := fun _ nx _ _ _ _ L st hp B => match st with
  | v :: w :: st => if isLong (some v) || isLong (some w) then none else some (.inl (nx, L, v :: w :: v :: w :: st, hp, B))
  | _ => none
def cmpB : Nat → Int → Int → Bool
  | 0, x, y => decide (x = y)
  | 1, x, y => decide (¬ x = y)
  | 2, x, y => decide (x < y)
  | 3, x, y => decide (y ≤ x)
  | 4, x, y => decide (y < x)
  | _, x, y => decide (x ≤ y)
def f_if : FN := fun _ nx a b _ _ L st hp B => match st with
  | .inl x :: st => some (.inl (bif cmpB a (w32 x) 0 then b else nx, L, st, hp, B))
  | _ => none
def f_icmp : FN := fun _ nx a b _ _ L st hp B => match st with
  | .inl y :: .inl x :: st => some (.inl (bif cmpB a (w32 x) (w32 y) then b else nx, L, st, hp, B))
  | _ => none
def f_goto : FN := fun _ _ _ b _ _ L st hp B => some (.inl (b, L, st, hp, B))
def f_nonnull : FN := fun _ nx _ b _ _ L st hp B => match st with
  | .inr (.inr (.inl r)) :: st => some (.inl (bif r.isSome then b else nx, L, st, hp, B))
  | _ => none
def swT : List (Int × Nat) → Nat → Int → Nat
  | [], b, _ => b
  | (k, t) :: l, b, x => if x = k then t else swT l b x
def f_switch : FN := fun _ _ _ b _ l L st hp B => match st with
  | .inl x :: st => some (.inl (swT l b (w32 x), L, st, hp, B))
  | _ => none
def f_getf : FN := fun _ nx a b _ _ L st hp B => match st with
  | .inr (.inr (.inl (some o))) :: st => match gF hp o a b with
    | some v => some (.inl (nx, L, v :: st, hp, B))
    | none => none
  | _ => none
/-- what a field or an array of booleans keeps -/
def okZ (z : Bool) (v : AV) : Bool := match z, v with
  | true, .inl x => decide (x = 0) || decide (x = 1)
  | true, _ => false
  | false, _ => true
/-- does w fit a field of this kind: 0 int, 1 boolean, 2 long, 3 a reference (null is never laid in) -/
def likeV : Nat → AV → Bool
  | 0, .inl _ => true
  | 1, .inl x => decide (x = 0) || decide (x = 1)
  | 2, .inr (.inl _) => true
  | 3, .inr (.inr (.inl (some _))) => true
  | _, _ => false
/-- the kinds of the fields of the classes, in the order of vwCl -/
def fKs : List (List Nat) := [[0, 3, 0, 0, 0, 1], [0, 0, 2, 3, 3, 3, 3, 3, 3, 3, 3, 2], [0, 3, 3, 0, 2], [0, 3, 3], [0, 0, 0, 3, 3, 3, 3, 3, 3, 3], [3, 3, 3], [3, 3, 3], [0, 3], [0, 0, 3, 3, 3, 3, 0, 3], [3, 3, 3], [3, 3, 2, 0, 3, 3, 3, 3, 3, 3, 3, 3, 3, 1, 0, 2, 0, 3],
  [0, 0, 0, 2, 3, 3, 0, 0, 0, 2, 3, 3, 1, 3, 3, 3, 3, 0, 3, 3, 3, 3, 3, 0, 0, 0, 0, 0, 1, 3, 3, 3, 3, 3, 3, 3, 0, 3, 3, 3, 3, 3, 3, 3, 3, 0, 0, 0, 0, 1]]
def fKd (ci k : Nat) : Nat := (fKs.getD ci []).getD k 9
def f_putf : FN := fun _ nx a b v _ L st hp B => match v, st with
  | .inl kd, w :: .inr (.inr (.inl (some o))) :: st => match gF hp o a b with
    | some _ => if likeV kd.toNat w then some (.inl (nx, L, st, pF hp o a b w, B)) else none
    | none => none
  | _, _ => none
def f_gets : FN := fun _ nx a _ _ _ L st hp B => some (.inl (nx, L, mS a :: st, hp, B))
def f_iald : FN := fun sc nx _ _ _ _ L st hp B => match st with
  | .inl i :: .inr (.inr (.inl (some o))) :: st => match gA hp o with
    | some l => if inb i l.length then some (.inl (nx, L, mI (l.getD (w32 i).toNat 0) :: st, hp, B)) else none
    | none => none
  | .inl i :: .inr (.inr (.inr j)) :: st => if inb i (stab sc j).length then some (.inl (nx, L, mI ((stab sc j).getD (w32 i).toNat 0) :: st, hp, B)) else none
  | _ => none
def f_bald : FN := fun _ nx _ _ _ _ L st hp B => match st with
  | .inl i :: .inr (.inr (.inl (some o))) :: st => match gB hp o with
    | some l => if inb i l.length then some (.inl (nx, L, mI (l.getD (w32 i).toNat 0) :: st, hp, B)) else none
    | none => none
  | _ => none
def f_lald : FN := fun _ nx _ _ _ _ L st hp B => match st with
  | .inl i :: .inr (.inr (.inl (some o))) :: st => match gJ hp o with
    | some l => if inb i l.length then some (.inl (nx, L, mL (l.getD (w32 i).toNat 0) :: st, hp, B)) else none
    | none => none
  | _ => none
def f_aald : FN := fun _ nx a _ _ _ L st hp B => match st with
  | .inl i :: .inr (.inr (.inl (some o))) :: st => match gQ hp o a with
    | some l => if inb i l.length then some (.inl (nx, L, mQ (l.getD (w32 i).toNat none) :: st, hp, B)) else none
    | none => none
  | _ => none
def f_iast : FN := fun _ nx _ _ _ _ L st hp B => match st with
  | .inl x :: .inl i :: .inr (.inr (.inl (some o))) :: st => match gA hp o with
    | some l => if inb i l.length then some (.inl (nx, L, st, pA hp o (l.set (w32 i).toNat x), B)) else none
    | none => none
  | _ => none
def f_bast : FN := fun _ nx _ _ _ _ L st hp B => match st with
  | .inl x :: .inl i :: .inr (.inr (.inl (some o))) :: st => match gB hp o with
    | some l => if inb i l.length && okZ true (mI x) then some (.inl (nx, L, st, pB hp o (l.set (w32 i).toNat x), B)) else none
    | none => none
  | _ => none
def f_last : FN := fun _ nx _ _ _ _ L st hp B => match st with
  | .inr (.inl x) :: .inl i :: .inr (.inr (.inl (some o))) :: st => match gJ hp o with
    | some l => if inb i l.length then some (.inl (nx, L, st, pJ hp o (l.set (w32 i).toNat x), B)) else none
    | none => none
  | _ => none
/-- a: the array's kind, b: the class of what is laid in -/
def f_aast : FN := fun _ nx a b _ _ L st hp B => match st with
  | .inr (.inr (.inl (some x))) :: .inl i :: .inr (.inr (.inl (some o))) :: st => match gQ hp o a with
    | some l => if inb i l.length && decide (gC hp x = some b) then some (.inl (nx, L, st, pQ hp o a (l.set (w32 i).toNat (some x)), B)) else none
    | none => none
  | _ => none
/-- an array of ints (0), booleans (1), longs (2), of at most 5,000 -/
def f_newa : FN := fun _ nx a _ _ _ L st hp B => match st with
  | .inl n :: st => if decide (0 ≤ w32 n) && decide (w32 n ≤ 5000) && decide (1 ≤ B.1) && decide ((w32 n).toNat ≤ B.2) then
      some (.inl (nx, L, mR hp.length :: st, hp ++ [if a = 2 then .inr (.inr (.inl (List.replicate (w32 n).toNat 0#64))) else .inr (.inl (a, List.replicate (w32 n).toNat 0))], (B.1 - 1, B.2 - (w32 n).toNat))) else none
  | _ => none
def f_newq : FN := fun _ nx a _ _ _ L st hp B => match st with
  | .inl n :: st => if decide (0 ≤ w32 n) && decide (w32 n ≤ 5000) && decide (1 ≤ B.1) && decide ((w32 n).toNat ≤ B.2) then
      some (.inl (nx, L, mR hp.length :: st, hp ++ [.inr (.inr (.inr (a, List.replicate (w32 n).toNat none)))], (B.1 - 1, B.2 - (w32 n).toNat))) else none
  | _ => none
/-- new long[n][k] -/
def f_newg : FN := fun _ nx a _ _ _ L st hp B => match st with
  | .inl k :: .inl n :: st => if decide (0 ≤ w32 n) && decide (w32 n ≤ 50) && decide (0 ≤ w32 k) && decide (w32 k ≤ 50) && decide (1 + (w32 n).toNat ≤ B.1) && decide ((w32 n).toNat + (w32 n).toNat * (w32 k).toNat ≤ B.2) then
      some (.inl (nx, L, mR hp.length :: st, hp ++ (.inr (.inr (.inr (a, (List.range (w32 n).toNat).map (fun i => some (hp.length + 1 + i))))) :: List.replicate (w32 n).toNat (.inr (.inr (.inl (List.replicate (w32 k).toNat 0#64))))), (B.1 - (1 + (w32 n).toNat), B.2 - ((w32 n).toNat + (w32 n).toNat * (w32 k).toNat)))) else none
  | _ => none
def born1 : Nat → AV
  | 2 => mL 0#64
  | 3 => mN
  | _ => mI 0
/-- a: the class's number -/
def f_new : FN := fun _ nx a _ _ _ L st hp B => if decide (a < 12) && decide (1 ≤ B.1) && decide ((fKs.getD a []).length ≤ B.2) then
  some (.inl (nx, L, mR hp.length :: st, hp ++ [.inl (a, (fKs.getD a []).map born1)], (B.1 - 1, B.2 - (fKs.getD a []).length))) else none
/-- words that lie on the stack -/
def wdS : List AV → Nat
  | [] => 0
  | v :: l => (if isLong (some v) = true then 2 else 1) + wdS l
theorem wdS_nil : wdS [] = 0 := rfl
theorem wdS_i {x : Int} {l : List AV} : wdS (mI x :: l) = wdS l + 1 := Nat.add_comm 1 _
theorem wdS_l {x : BitVec 64} {l : List AV} : wdS (mL x :: l) = wdS l + 2 := Nat.add_comm 2 _
theorem wdS_r {x : Nat} {l : List AV} : wdS (mR x :: l) = wdS l + 1 := Nat.add_comm 1 _
theorem wdS_n {l : List AV} : wdS (mN :: l) = wdS l + 1 := Nat.add_comm 1 _
theorem wdS_s {x : Nat} {l : List AV} : wdS (mS x :: l) = wdS l + 1 := Nat.add_comm 1 _
/-- a: the method, b: how many are handed over (this, too); l: what it may make -/
def f_call : FN := fun _ nx a b _ l L st hp B => match l with
  | [(c, s)] => if decide (b ≤ st.length) && decide (c.toNat ≤ B.1) && decide (s ≤ B.2) && decide (wdS (st.drop b) ≤ 8) then
      some (.inr (.inl (a, (st.take b).reverse, nx, L, st.drop b, hp, (B.1 - c.toNat, B.2 - s)))) else none
  | _ => none
/-- the same where it is called on an object of the class (v: its number) -/
def f_callv : FN := fun sc nx a b v l L st hp B => match v, st[b - 1]? with
  | .inl c, some (.inr (.inr (.inl (some o)))) => if gC hp o = some c.toNat then f_call sc nx a b v l L st hp B else none
  | _, _ => none
/-- the same on a new object -/
def f_calli : FN := fun sc nx a b v l L st hp B => match st[b - 1]? with
  | some (.inr (.inr (.inl (some _)))) => f_call sc nx a b v l L st hp B
  | _ => none
/-- the same on a text -/
def f_callt : FN := fun sc nx a b v l L st hp B => match st[b - 1]? with
  | some (.inr (.inr (.inr j))) => if 100 ≤ j ∧ j < 100 + nTx then f_call sc nx a b v l L st hp B else none
  | _ => none
/-- a: 0 nothing, 1 an int, 2 a boolean, 3 a long -/
def f_ret : FN := fun _ _ a _ _ _ _ st _ _ => match a, st with
  | 0, [] => some (.inr (.inr none))
  | 1, [.inl x] => some (.inr (.inr (some (mI x))))
  | 2, [.inl x] => if x = 0 ∨ x = 1 then some (.inr (.inr (some (mI x)))) else none
  | 3, [.inr (.inl x)] => some (.inr (.inr (some (mL x))))
  | 4, [.inl x] => if 0 ≤ x ∧ x < 128 then some (.inr (.inr (some (mI x)))) else none
  | _, _ => none
def f_objinit : FN := fun _ nx _ _ _ _ L st hp B => match st with
  | .inr (.inr (.inl (some _))) :: st => if st.length ≤ 4 then some (.inl (nx, L, st, hp, B)) else none
  | _ => none
/-- n items of f from sp on, laid over g from dp on -/
def cpyL {α : Type} (d : α) (f g : List α) (sp dp n : Nat) : List α := (List.range g.length).map (fun k => if dp ≤ k ∧ k < dp + n then f.getD (sp + (k - dp)) d else g.getD k d)
def inbC (sp dp n : Int) (lf lg : Nat) : Bool := decide (0 ≤ w32 sp) && decide (0 ≤ w32 dp) && decide (0 ≤ w32 n) && decide (w32 sp + w32 n ≤ lf) && decide (w32 dp + w32 n ≤ lg)
def f_copyi : FN := fun _ nx _ _ _ _ L st hp B => match st with
  | .inl n :: .inl dp :: .inr (.inr (.inl (some y))) :: .inl sp :: .inr (.inr (.inl (some x))) :: st => match gA hp x, gA hp y with
    | some f, some g => if inbC sp dp n f.length g.length && decide (st.length ≤ 4) then some (.inl (nx, L, st, pA hp y (cpyL 0 f g (w32 sp).toNat (w32 dp).toNat (w32 n).toNat), B)) else none
    | _, _ => none
  | _ => none
def f_copyl : FN := fun _ nx _ _ _ _ L st hp B => match st with
  | .inl n :: .inl dp :: .inr (.inr (.inl (some y))) :: .inl sp :: .inr (.inr (.inl (some x))) :: st => match gJ hp x, gJ hp y with
    | some f, some g => if inbC sp dp n f.length g.length && decide (st.length ≤ 4) then some (.inl (nx, L, st, pJ hp y (cpyL 0#64 f g (w32 sp).toNat (w32 dp).toNat (w32 n).toNat), B)) else none
    | _, _ => none
  | _ => none
/-- a text, by its number -/
def f_ldcs : FN := fun _ nx a _ _ _ L st hp B => if a < nTx then some (.inl (nx, L, mS (100 + a) :: st, hp, B)) else none
/-- a text's bytes, its coder -/
def f_tval : FN := fun _ nx _ _ _ _ L st hp B => match st with
  | .inr (.inr (.inr j)) :: st => if 100 ≤ j ∧ j < 100 + nTx then some (.inl (nx, L, mS (100 + j) :: st, hp, B)) else none
  | _ => none
def f_tcod : FN := fun _ nx _ _ _ _ L st hp B => match st with
  | .inr (.inr (.inr j)) :: st => if 100 ≤ j ∧ j < 100 + nTx then some (.inl (nx, L, mI 0 :: st, hp, B)) else none
  | _ => none
def f_tbald : FN := fun _ nx _ _ _ _ L st hp B => match st with
  | .inl i :: .inr (.inr (.inr j)) :: st => if 200 ≤ j ∧ j < 200 + nTx ∧ inb i (stxt (j - 200)).length = true then some (.inl (nx, L, mI ((stxt (j - 200)).getD (w32 i).toNat 0) :: st, hp, B)) else none
  | _ => none
/-- String.COMPACT_STRINGS -/
def f_gcs : FN := fun _ nx _ _ _ _ L st hp B => some (.inl (nx, L, mI 1 :: st, hp, B))
/-- the lengths: of the script, of a text's bytes, of an array (a: 0 ints, 2 longs) -/
def f_slen : FN := fun sc nx _ _ _ _ L st hp B => match st with
  | .inr (.inr (.inr 9)) :: st => some (.inl (nx, L, mI sc.length :: st, hp, B))
  | _ => none
def f_tlen : FN := fun _ nx _ _ _ _ L st hp B => match st with
  | .inr (.inr (.inr j)) :: st => if 200 ≤ j ∧ j < 200 + nTx then some (.inl (nx, L, mI ((stxt (j - 200)).length : Nat) :: st, hp, B)) else none
  | _ => none
def f_alen : FN := fun _ nx a _ _ _ L st hp B => match st with
  | .inr (.inr (.inl (some o))) :: st => if a = 0 then match gA hp o with
      | some l => some (.inl (nx, L, mI (l.length : Nat) :: st, hp, B))
      | none => none
    else match gJ hp o with
      | some l => some (.inl (nx, L, mI (l.length : Nat) :: st, hp, B))
      | none => none
  | _ => none
def i2c (x : Int) : Int := x % 65536
/-- Math.min, max, abs -/
def f_mmin : FN := fun _ nx _ _ _ _ L st hp B => match st with
  | .inl y :: .inl x :: st => if st.length ≤ 4 then some (.inl (nx, L, mI (if w32 y < w32 x then y else x) :: st, hp, B)) else none
  | _ => none
def f_mmax : FN := fun _ nx _ _ _ _ L st hp B => match st with
  | .inl y :: .inl x :: st => if st.length ≤ 4 then some (.inl (nx, L, mI (if w32 x < w32 y then y else x) :: st, hp, B)) else none
  | _ => none
def f_mabs : FN := fun _ nx _ _ _ _ L st hp B => match st with
  | .inl x :: st => if st.length ≤ 4 then some (.inl (nx, L, mI (if 0 ≤ w32 x then x else 0 - x) :: st, hp, B)) else none
  | _ => none
def fT : List FN := [f_push, f_iload, f_lload, f_aload, f_istore, f_lstore, f_astore, f_iinc,
  f_ii (fun x y => x + y), f_ii (fun x y => x - y), f_ii (fun x y => x * y), f_idiv, f_irem, f_ii iAnd, f_ii iOr, f_ii iXor, f_ii iShl, f_ii iShr, f_ii iUshr, f_i (fun x => -x),
  f_ll (fun x y => x + y), f_ll (fun x y => x - y), f_ll (fun x y => x &&& y), f_ll (fun x y => x ||| y), f_ll (fun x y => x ^^^ y), f_li (fun x k => x <<< k), f_li (fun x k => x >>> k), f_lcmp,
  f_i2l, f_l2i, f_i i2b, f_i i2s, f_dup, f_dup2, f_if, f_icmp, f_goto, f_nonnull, f_switch, f_getf,
  f_putf, f_gets, f_ldcs, f_iald, f_bald, f_lald, f_aald, f_iast, f_bast, f_last, f_aast, f_newa, f_newq, f_newg, f_new, f_call, f_callv, f_ret, f_objinit, f_copyi, f_copyl, f_tval, f_tcod, f_tbald, f_gcs, f_slen, f_tlen, f_alen, f_i i2c, f_pop, f_callt, f_mmin, f_mmax, f_mabs, f_calli]
def stepE (sc : List Int) (e : AI) (nx : Nat) (L : LV) (st : List AV) (hp : HP) (B : BU) : Option SR := fT.getD e.2.1 f_none sc nx e.2.2.1 e.2.2.2.1 e.2.2.2.2.1 e.2.2.2.2.2 L st hp B
