/-! ===== tools: bits of ints, tables as lists, loops ===== -/
theorem lCmp_lt (x y : BitVec 64) : (w32 (lCmp x y) < 0) = (x.toInt < y.toInt) := by
  unfold lCmp
  split
  · next h => simp only [h]; decide
  · next h => split <;> (simp only [h]; decide)
theorem lCmp_gt (x y : BitVec 64) : (0 < w32 (lCmp x y)) = (y.toInt < x.toInt) := by
  unfold lCmp
  split
  · next h => have : ¬ y.toInt < x.toInt := by omega
              simp only [this]; decide
  · next h =>
    split
    · next h2 => have : ¬ y.toInt < x.toInt := by omega
                 simp only [this]; decide
    · next h2 => have : y.toInt < x.toInt := by omega
                 simp only [this]; decide
theorem lCmp_eq (x y : BitVec 64) : (w32 (lCmp x y) = 0) = (x = y) := by
  unfold lCmp
  split
  · next h => have : ¬ x = y := fun e => by subst e; omega
              simp only [this]; decide
  · next h =>
    split
    · next h2 => have : x = y := BitVec.eq_of_toInt_eq h2
                 simp only [this]; decide
    · next h2 => have : ¬ x = y := fun e => h2 (by rw [e])
                 simp only [this]; decide
theorem R_ite {R : PO} {c : Prop} [Decidable c] {a b : Option AV} {h : HP} : (if c then R a h else R b h) = R (if c then a else b) h := by split <;> rfl
theorem R_iteH {R : PO} {c : Prop} [Decidable c] {a : Option AV} {h h2 : HP} : (if c then R a h else R a h2) = R a (if c then h else h2) := by split <;> rfl
theorem tI_w32 (x : Int) : (BitVec.ofInt 64 (w32 x)).toInt = w32 x := by
  have := w32_in x
  rw [BitVec.toInt_ofInt, Int.bmod_def]
  split <;> omega
def zI (b : Bool) : Int := if b then 1 else 0
theorem w32_nat {n : Nat} (h : n < 2147483648) : w32 (n : Int) = n := w32_id (by omega) (by omega)
theorem w32_zI (b : Bool) : w32 (zI b) = zI b := by cases b <;> rfl
theorem zI_0 (b : Bool) : (zI b = 0) = (b = false) := by cases b <;> simp [zI]
theorem zI_1 (b : Bool) : (zI b = 1) = (b = true) := by cases b <;> simp [zI]
theorem zI_or (b : Bool) : zI b = 0 ∨ zI b = 1 := by cases b <;> simp [zI]
theorem zI_t : zI true = 1 := rfl
theorem zI_f : zI false = 0 := rfl
theorem w32_zI_0 (b : Bool) : (w32 (zI b) = 0) = (b = false) := by rw [w32_zI, zI_0]
theorem ite_zI (c : Prop) [Decidable c] : (if c then some (mI 1) else some (mI 0)) = some (mI (zI (decide c))) := by by_cases h : c <;> simp [h, zI]
theorem ite_zI2 (c : Prop) [Decidable c] : (if c then some (mI 0) else some (mI 1)) = some (mI (zI (decide (¬ c)))) := by by_cases h : c <;> simp [h, zI]
theorem shr_one (s : BitVec 64) (j : Nat) : (s >>> j &&& 1#64 = 1#64) = (s.getLsbD j = true) := by
  apply propext
  constructor
  · intro h
    have := congrArg (fun x : BitVec 64 => x.getLsbD 0) h
    simpa using this
  · intro h
    apply BitVec.eq_of_getLsbD_eq
    intro i hi
    rw [BitVec.getLsbD_and, BitVec.getLsbD_ushiftRight, BitVec.getLsbD_one]
    by_cases h0 : i = 0
    · subst h0; simp [h]
    · have : ¬ (0 = i) := fun e => h0 e.symm
      simp [h0]
theorem shr_one0 (s : BitVec 64) (j : Nat) : (s >>> j &&& 1#64 = 0#64) = (s.getLsbD j = false) := by
  apply propext
  constructor
  · intro h
    have := congrArg (fun x : BitVec 64 => x.getLsbD 0) h
    simpa using this
  · intro h
    apply BitVec.eq_of_getLsbD_eq
    intro i hi
    rw [BitVec.getLsbD_and, BitVec.getLsbD_ushiftRight, BitVec.getLsbD_one]
    by_cases h0 : i = 0
    · subst h0; simp [h]
    · have : ¬ (0 = i) := fun e => h0 e.symm
      simp [h0]
theorem shr_oneI (s : BitVec 64) (j : Nat) : (s >>> j &&& 1#64).toInt = zI (s.getLsbD j) := by
  cases h : s.getLsbD j
  · rw [(shr_one0 s j).mpr h]; rfl
  · rw [(shr_one s j).mpr h]; rfl
/-! ints as bits -/
theorem bO_nat {a : Nat} : BitVec.ofInt 32 (a : Int) = BitVec.ofNat 32 a := BitVec.ofInt_natCast 32 a
theorem bO_toNat {a : Nat} (h : a < 2147483648) : (BitVec.ofNat 32 a).toNat = a := by rw [BitVec.toNat_ofNat]; omega
theorem bT_small {x : BitVec 32} (h : x.toNat < 2147483648) : x.toInt = (x.toNat : Int) := by rw [BitVec.toInt_eq_toNat_of_lt (by omega)]
theorem land_lt {a b : Nat} (h : a < 2147483648) : a &&& b < 2147483648 := Nat.lt_of_le_of_lt Nat.and_le_left h
theorem lor_lt {a b : Nat} (h : a < 2147483648) (h2 : b < 2147483648) : a ||| b < 2147483648 := Nat.or_lt_two_pow (n := 31) h h2
theorem iAnd_nat {a b : Nat} (h : a < 2147483648) (h2 : b < 2147483648) : iAnd (a : Int) (b : Int) = ((a &&& b : Nat) : Int) := by
  show (BitVec.ofInt 32 (a : Int) &&& BitVec.ofInt 32 (b : Int)).toInt = _
  rw [bO_nat, bO_nat]
  have e : (BitVec.ofNat 32 a &&& BitVec.ofNat 32 b).toNat = a &&& b := by rw [BitVec.toNat_and, bO_toNat h, bO_toNat h2]
  rw [bT_small (by rw [e]; exact land_lt h), e]
theorem iOr_nat {a b : Nat} (h : a < 2147483648) (h2 : b < 2147483648) : iOr (a : Int) (b : Int) = ((a ||| b : Nat) : Int) := by
  show (BitVec.ofInt 32 (a : Int) ||| BitVec.ofInt 32 (b : Int)).toInt = _
  rw [bO_nat, bO_nat]
  have e : (BitVec.ofNat 32 a ||| BitVec.ofNat 32 b).toNat = a ||| b := by rw [BitVec.toNat_or, bO_toNat h, bO_toNat h2]
  rw [bT_small (by rw [e]; exact lor_lt h h2), e]
theorem iXor_m1 {a : Nat} (h : a < 2147483648) : iXor (a : Int) (-1) = -1 - (a : Int) := by
  show (BitVec.ofInt 32 (a : Int) ^^^ BitVec.ofInt 32 (-1)).toInt = _
  have e1 : BitVec.ofInt 32 (-1) = BitVec.allOnes 32 := by decide
  rw [bO_nat, e1, BitVec.xor_allOnes, BitVec.toInt_not, bO_toNat h, Int.bmod_def]
  omega
theorem iAnd_one (z : Int) : iAnd z 1 = z % 2 := by
  show (BitVec.ofInt 32 z &&& BitVec.ofInt 32 1).toInt = _
  have e1 : BitVec.ofInt 32 1 = 1#32 := by decide
  have e : (BitVec.ofInt 32 z &&& 1#32).toNat = (BitVec.ofInt 32 z).toNat % 2 := by rw [BitVec.toNat_and]; exact Nat.and_one_is_mod _
  rw [e1, bT_small (by rw [e]; omega), e, BitVec.toNat_ofInt]
  omega
theorem pow31 {k : Nat} (h : k < 31) : 2 ^ k < 2147483648 := Nat.pow_lt_pow_right (n := 31) (by decide) h
theorem iShl_1 {k : Nat} (h : k < 31) : iShl 1 (k : Int) = ((2 ^ k : Nat) : Int) := by
  unfold iShl
  rw [w32_nat (by omega)]
  have e : ((k : Int) % 32).toNat = k := by omega
  rw [e, Int.one_mul]
  norm_cast
theorem iShr_nat {a k : Nat} (h : a < 2147483648) (hk : k < 32) : iShr (a : Int) (k : Int) = ((a / 2 ^ k : Nat) : Int) := by
  unfold iShr
  rw [w32_nat h, w32_nat (by omega)]
  have e : ((k : Int) % 32).toNat = k := by omega
  rw [e]
  norm_cast
theorem iShr_not {a k : Nat} (h : a < 2147483648) (hk : k < 32) : iShr (-1 - (a : Int)) (k : Int) = -1 - ((a / 2 ^ k : Nat) : Int) := by
  unfold iShr
  rw [w32_id (by omega) (by omega), w32_nat (by omega)]
  have e : ((k : Int) % 32).toNat = k := by omega
  rw [e]
  have e2 : ((2 : Int) ^ k) = ((2 ^ k : Nat) : Int) := by norm_cast
  have hp : 0 < 2 ^ k := Nat.two_pow_pos k
  rw [e2]
  have hd := Nat.div_add_mod a (2 ^ k)
  have hm := Nat.mod_lt a hp
  generalize 2 ^ k = m at hd hm hp ⊢
  have hd' : (a : Int) = (m : Int) * ((a / m : Nat) : Int) + ((a % m : Nat) : Int) := by exact_mod_cast hd.symm
  generalize a / m = q at hd' ⊢
  generalize a % m = r at hd' hm
  have : -1 - (a : Int) = ((m : Int) - 1 - (r : Int)) + (m : Int) * (-1 - (q : Int)) := by
    rw [hd', Int.mul_sub]
    omega
  rw [this, Int.add_mul_ediv_left _ _ (by omega), Int.ediv_eq_zero_of_lt (by omega) (by omega)]
  omega
theorem iBit {a k : Nat} (h : a < 2147483648) (hk : k < 32) : (w32 (iAnd (iShr (a : Int) (k : Int)) 1) = 0) = (tst a k = false) := by
  rw [iShr_nat h hk, iAnd_one, w32_id (by omega) (by omega)]
  unfold tst
  rw [decide_eq_false_iff_not]
  apply propext
  omega
theorem iBitN {a k : Nat} (h : a < 2147483648) (hk : k < 32) : (w32 (iAnd (iShr (iXor (a : Int) (-1)) (k : Int)) 1) = 0) = (tst a k = true) := by
  rw [iXor_m1 h, iShr_not h hk, iAnd_one, w32_id (by omega) (by omega)]
  unfold tst
  rw [decide_eq_true_iff]
  apply propext
  omega
/-- a is within b -/
def sub1 (a b : Nat) : Bool := decide (a &&& b = a)
theorem iSub {a b : Nat} (h : a < 2147483648) (h2 : b < 2147483648) : (w32 (iAnd (a : Int) (iXor (b : Int) (-1))) = 0) = (sub1 a b = true) := by
  unfold sub1
  rw [decide_eq_true_iff]
  have e0 : iAnd (a : Int) (iXor (b : Int) (-1)) = (BitVec.ofNat 32 a &&& ~~~ BitVec.ofNat 32 b).toInt := by
    show (BitVec.ofInt 32 (a : Int) &&& BitVec.ofInt 32 ((BitVec.ofInt 32 (b : Int) ^^^ BitVec.ofInt 32 (-1)).toInt)).toInt = _
    have e1 : BitVec.ofInt 32 (-1) = BitVec.allOnes 32 := by decide
    rw [BitVec.ofInt_toInt, bO_nat, bO_nat, e1, BitVec.xor_allOnes]
  have hw : w32 (BitVec.ofNat 32 a &&& ~~~ BitVec.ofNat 32 b).toInt = (BitVec.ofNat 32 a &&& ~~~ BitVec.ofNat 32 b).toInt := by
    apply w32_id
    · have := BitVec.le_toInt (BitVec.ofNat 32 a &&& ~~~ BitVec.ofNat 32 b); simpa using this
    · have := BitVec.toInt_lt (x := BitVec.ofNat 32 a &&& ~~~ BitVec.ofNat 32 b); simpa using this
  rw [e0, hw]
  apply propext
  constructor
  · intro hz
    have hz' : BitVec.ofNat 32 a &&& ~~~ BitVec.ofNat 32 b = 0#32 := BitVec.eq_of_toInt_eq (by rw [hz]; rfl)
    apply Nat.eq_of_testBit_eq
    intro i
    rw [Nat.testBit_and]
    by_cases hi : i < 32
    · have := congrArg (fun x : BitVec 32 => x.getLsbD i) hz'
      simp only [BitVec.getLsbD_and, BitVec.getLsbD_not, BitVec.getLsbD_ofNat, hi, decide_true, Bool.true_and, BitVec.getLsbD_zero] at this
      cases ha : a.testBit i <;> simp_all
    · have : a.testBit i = false := Nat.testBit_lt_two_pow (Nat.lt_of_lt_of_le h (Nat.pow_le_pow_right (by decide) (show 31 ≤ i by omega) : 2 ^ 31 ≤ 2 ^ i))
      simp [this]
  · intro hz
    have : BitVec.ofNat 32 a &&& ~~~ BitVec.ofNat 32 b = 0#32 := by
      apply BitVec.eq_of_getLsbD_eq
      intro i hi
      have := congrArg (fun x : Nat => x.testBit i) hz
      simp only [Nat.testBit_and] at this
      simp only [BitVec.getLsbD_and, BitVec.getLsbD_not, BitVec.getLsbD_ofNat, hi, decide_true, Bool.true_and, BitVec.getLsbD_zero]
      cases ha : a.testBit i <;> simp_all
    rw [this]; rfl
/-! tables as lists -/
def tI (f : Nat → Nat) (N : Nat) : List Int := (List.range N).map (fun k => ((f k : Nat) : Int))
def tJ (f : Nat → Nat) (N : Nat) : List (BitVec 64) := (List.range N).map (fun k => BitVec.ofNat 64 (f k))
theorem tI_len {f : Nat → Nat} {N : Nat} : (tI f N).length = N := by simp [tI]
theorem tJ_len {f : Nat → Nat} {N : Nat} : (tJ f N).length = N := by simp [tJ]
theorem tI_get {f : Nat → Nat} {N k : Nat} (h : k < N) : (tI f N).getD k 0 = ((f k : Nat) : Int) := by
  unfold tI
  rw [List.getD_eq_getElem?_getD, List.getElem?_map, List.getElem?_range h]
  rfl
theorem tJ_get {f : Nat → Nat} {N k : Nat} (h : k < N) : (tJ f N).getD k 0 = BitVec.ofNat 64 (f k) := by
  unfold tJ
  rw [List.getD_eq_getElem?_getD, List.getElem?_map, List.getElem?_range h]
  rfl
theorem inB_of {x : Int} {k n : Nat} (h : x = (k : Int)) (hk : k < n) (hn : n < 2147483648) : inB x n := by
  subst h
  unfold inB
  rw [w32_nat (by omega)]
  omega
theorem gI {f : Nat → Nat} {N : Nat} {x : Int} {k : Nat} (hx : x = (k : Int)) (hk : k < N) (hN : N < 2147483648) : (tI f N).getD (w32 x).toNat 0 = ((f k : Nat) : Int) := by
  rw [hx, w32_nat (by omega), Int.toNat_natCast, tI_get hk]
theorem gJt {f : Nat → Nat} {N : Nat} {x : Int} {k : Nat} (hx : x = (k : Int)) (hk : k < N) (hN : N < 2147483648) : (tJ f N).getD (w32 x).toNat 0 = BitVec.ofNat 64 (f k) := by
  rw [hx, w32_nat (by omega), Int.toNat_natCast, tJ_get hk]
theorem bI {f : Nat → Nat} {N : Nat} {x : Int} {k : Nat} (hx : x = (k : Int)) (hk : k < N) (hN : N < 2147483648) : inB x (tI f N).length := by
  rw [tI_len]; exact inB_of hx hk hN
theorem bJ {f : Nat → Nat} {N : Nat} {x : Int} {k : Nat} (hx : x = (k : Int)) (hk : k < N) (hN : N < 2147483648) : inB x (tJ f N).length := by
  rw [tJ_len]; exact inB_of hx hk hN
/-! loops -/
theorem loop_to {P : Nat → Prop} {a : Nat} : ∀ {b : Nat}, a ≤ b → (∀ j, a ≤ j → j < b → (P j ↔ P (j + 1))) → (P a ↔ P b) := by
  intro b
  induction b with
  | zero => intro h _; rw [Nat.le_zero.mp h]
  | succ b ih =>
    intro h hs
    by_cases e : a = b + 1
    · rw [e]
    · exact (ih (by omega) (fun j h1 h2 => hs j h1 (by omega))).trans (hs b (by omega) (by omega))
/-- the first from a on (n of them) that is so -/
def fst (f : Nat → Bool) : Nat → Nat → Option Nat
  | 0, _ => none
  | n + 1, a => if f a = true then some a else fst f n (a + 1)
theorem fst_some {f : Nat → Bool} : ∀ {n a p : Nat}, fst f n a = some p → a ≤ p ∧ p < a + n ∧ f p = true := by
  intro n
  induction n with
  | zero => intro a p h; cases h
  | succ n ih =>
    intro a p h
    unfold fst at h
    split at h
    · next hf => cases h; exact ⟨Nat.le_refl _, by omega, hf⟩
    · obtain ⟨h1, h2, h3⟩ := ih h; exact ⟨by omega, by omega, h3⟩
theorem fst_least {f : Nat → Bool} : ∀ {n a p : Nat}, fst f n a = some p → ∀ q, a ≤ q → q < p → f q = false := by
  intro n
  induction n with
  | zero => intro a p h; cases h
  | succ n ih =>
    intro a p h q h1 h2
    unfold fst at h
    split at h
    · next hf => cases h; omega
    · next hf =>
      by_cases e : q = a
      · rw [e]; simpa using hf
      · exact ih h q (by omega) h2
theorem fst_none {f : Nat → Bool} : ∀ {n a : Nat}, fst f n a = none → ∀ q, a ≤ q → q < a + n → f q = false := by
  intro n
  induction n with
  | zero => intro a _ q h1 h2; omega
  | succ n ih =>
    intro a h q h1 h2
    unfold fst at h
    split at h
    · cases h
    · next hf =>
      by_cases e : q = a
      · rw [e]; simpa using hf
      · exact ih h q (by omega) (by omega)
theorem fst_none_of {f : Nat → Bool} : ∀ {n a : Nat}, (∀ q, a ≤ q → q < a + n → f q = false) → fst f n a = none := by
  intro n
  induction n with
  | zero => intro a _; rfl
  | succ n ih =>
    intro a h
    unfold fst
    rw [if_neg (by rw [h a (Nat.le_refl _) (by omega)]; decide)]
    exact ih (fun q h1 h2 => h q (by omega) (by omega))
theorem fst_some_of {f : Nat → Bool} : ∀ {n a p : Nat}, a ≤ p → p < a + n → f p = true → (∀ q, a ≤ q → q < p → f q = false) → fst f n a = some p := by
  intro n
  induction n with
  | zero => intro a p h1 h2; omega
  | succ n ih =>
    intro a p h1 h2 h3 h4
    unfold fst
    by_cases e : a = p
    · subst e; rw [if_pos h3]
    · rw [if_neg (by rw [h4 a (Nat.le_refl _) (by omega)]; decide)]
      exact ih (by omega) (by omega) h3 (fun q h5 h6 => h4 q (by omega) h6)
theorem fst_congr {f g : Nat → Bool} : ∀ {n a : Nat}, (∀ q, a ≤ q → q < a + n → f q = g q) → fst f n a = fst g n a := by
  intro n
  induction n with
  | zero => intro a _; rfl
  | succ n ih =>
    intro a h
    unfold fst
    rw [h a (Nat.le_refl _) (by omega), ih (fun q h1 h2 => h q (by omega) (by omega))]
def oI (o : Option Nat) : Int := match o with
  | some p => (p : Int)
  | none => -1
/-- a loop that looks for the first -/
theorem loop_fst {P : Nat → Prop} {E : Nat → Prop} {f : Nat → Bool} {N : Nat} (h : ∀ j, j < N → (P j ↔ if f j = true then E j else P (j + 1))) : ∀ {n a : Nat}, a + n = N → (P a ↔ match fst f n a with
  | some p => E p
  | none => P N) := by
  intro n
  induction n with
  | zero => intro a ha; rw [show a = N by omega]; exact Iff.rfl
  | succ n ih =>
    intro a ha
    rw [h a (by omega)]
    unfold fst
    split
    · exact Iff.rfl
    · exact ih (by omega)
theorem FC_le (n : Nat) : FC n ≤ 720 := by unfold FC; split <;> omega
theorem NA_le (n : Nat) : NA n ≤ 57 := by unfold NA; split <;> omega
theorem FC_pos {n : Nat} (h1 : 1 ≤ n) (h6 : n ≤ 6) : 1 ≤ FC n := by
  have : all6 (fun n => Nat.ble 1 (FC n)) = true := by decide +kernel
  exact Nat.le_of_ble_eq_true (all6_of this h1 h6)
theorem FCg_le {n : Nat} (h1 : 1 ≤ n) (h6 : n ≤ 6) : FC n * (n - 1) ≤ 3600 := by
  have : all6 (fun n => Nat.ble (FC n * (n - 1)) 3600) = true := by decide +kernel
  exact Nat.le_of_ble_eq_true (all6_of this h1 h6)
theorem gap_lt {n i p : Nat} (hi : i < FC n) (hp : p < n - 1) : i * (n - 1) + p < FC n * (n - 1) := by
  have : (i + 1) * (n - 1) ≤ FC n * (n - 1) := Nat.mul_le_mul_right _ hi
  rw [Nat.add_mul] at this
  omega
theorem swT_cons (k : Int) (t : Nat) (l : List (Int × Nat)) (b : Nat) (x : Int) : swT ((k, t) :: l) b x = if x = k then t else swT l b x := rfl
theorem swT_nil (b : Nat) (x : Int) : swT [] b x = b := rfl
