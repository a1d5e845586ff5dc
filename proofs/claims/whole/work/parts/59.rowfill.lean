/-! ===== the class's rows are made: one row's entries ===== -/
/-- the rows' cells from ra on, while they are filled -/
def RIP (h : HP) (ra n : Nat) (S D : List Int) (G : List (BitVec 64)) (A B P : List Int) : Prop := RW0 h ra n ∧ (gF h ra 4 2 = some (mI ((n - 1 : Nat) : Int)) ∧ gF h ra 4 3 = some (mR (ra + 1)) ∧ gF h ra 4 5 = some (mR (ra + 11)) ∧ gF h ra 4 6 = some (mR (ra + 12)) ∧ gF h ra 4 7 = some (mR (ra + 13)) ∧ gF h ra 4 8 = some (mR (ra + 14)) ∧ gF h ra 4 9 = some (mR (ra + 15)) ∧ gF h (ra + 1) 1 10 = some (mR (ra + 2)) ∧ gA h (ra + 2) = some (tI (fi n) 49)) ∧ gA h (ra + 11) = some S ∧ gA h (ra + 12) = some D ∧ gJ h (ra + 13) = some G ∧ gA h (ra + 14) = some A ∧ gA h (ra + 15) = some B ∧ gA h (ra + 16) = some P
theorem RW0_pA {h : HP} {ra n x : Nat} {l : List Int} (m : RW0 h ra n) (hx : x ≠ ra + 10) : RW0 (pA h x l) ra n := ⟨m.1, by rw [gF_pA, m.2.1], by rw [gF_pA, m.2.2.1], by rw [gF_pA, m.2.2.2.1], by rw [gA_pA hx, m.2.2.2.2]⟩
theorem RW0_pJ {h : HP} {ra n x : Nat} {l : List (BitVec 64)} (m : RW0 h ra n) : RW0 (pJ h x l) ra n := ⟨m.1, by rw [gF_pJ, m.2.1], by rw [gF_pJ, m.2.2.1], by rw [gF_pJ, m.2.2.2.1], by rw [gA_pJ, m.2.2.2.2]⟩
theorem RIP_11 {h : HP} {ra n : Nat} {S D : List Int} {G : List (BitVec 64)} {A B P : List Int} {l : List Int} (m : RIP h ra n S D G A B P) : RIP (pA h (ra + 11) l) ra n l D G A B P := by
  obtain ⟨m0, ⟨a1, a2, a3, a4, a5, a6, a7, a8, a9⟩, b1, b2, b3, b4, b5, b6⟩ := m
  exact ⟨RW0_pA m0 (by omega), ⟨by rw [gF_pA, a1], by rw [gF_pA, a2], by rw [gF_pA, a3], by rw [gF_pA, a4], by rw [gF_pA, a5], by rw [gF_pA, a6], by rw [gF_pA, a7], by rw [gF_pA, a8], by rw [gA_pA (by omega), a9]⟩, gA_pA_same b1, by rw [gA_pA (by omega), b2], by rw [gJ_pA, b3], by rw [gA_pA (by omega), b4], by rw [gA_pA (by omega), b5], by rw [gA_pA (by omega), b6]⟩
theorem RIP_12 {h : HP} {ra n : Nat} {S D : List Int} {G : List (BitVec 64)} {A B P : List Int} {l : List Int} (m : RIP h ra n S D G A B P) : RIP (pA h (ra + 12) l) ra n S l G A B P := by
  obtain ⟨m0, ⟨a1, a2, a3, a4, a5, a6, a7, a8, a9⟩, b1, b2, b3, b4, b5, b6⟩ := m
  exact ⟨RW0_pA m0 (by omega), ⟨by rw [gF_pA, a1], by rw [gF_pA, a2], by rw [gF_pA, a3], by rw [gF_pA, a4], by rw [gF_pA, a5], by rw [gF_pA, a6], by rw [gF_pA, a7], by rw [gF_pA, a8], by rw [gA_pA (by omega), a9]⟩, by rw [gA_pA (by omega), b1], gA_pA_same b2, by rw [gJ_pA, b3], by rw [gA_pA (by omega), b4], by rw [gA_pA (by omega), b5], by rw [gA_pA (by omega), b6]⟩
theorem RIP_13 {h : HP} {ra n : Nat} {S D : List Int} {G : List (BitVec 64)} {A B P : List Int} {l : List (BitVec 64)} (m : RIP h ra n S D G A B P) : RIP (pJ h (ra + 13) l) ra n S D l A B P := by
  obtain ⟨m0, ⟨a1, a2, a3, a4, a5, a6, a7, a8, a9⟩, b1, b2, b3, b4, b5, b6⟩ := m
  exact ⟨RW0_pJ m0, ⟨by rw [gF_pJ, a1], by rw [gF_pJ, a2], by rw [gF_pJ, a3], by rw [gF_pJ, a4], by rw [gF_pJ, a5], by rw [gF_pJ, a6], by rw [gF_pJ, a7], by rw [gF_pJ, a8], by rw [gA_pJ, a9]⟩, by rw [gA_pJ, b1], by rw [gA_pJ, b2], gJ_pJ_same b3, by rw [gA_pJ, b4], by rw [gA_pJ, b5], by rw [gA_pJ, b6]⟩
theorem RIP_14 {h : HP} {ra n : Nat} {S D : List Int} {G : List (BitVec 64)} {A B P : List Int} {l : List Int} (m : RIP h ra n S D G A B P) : RIP (pA h (ra + 14) l) ra n S D G l B P := by
  obtain ⟨m0, ⟨a1, a2, a3, a4, a5, a6, a7, a8, a9⟩, b1, b2, b3, b4, b5, b6⟩ := m
  exact ⟨RW0_pA m0 (by omega), ⟨by rw [gF_pA, a1], by rw [gF_pA, a2], by rw [gF_pA, a3], by rw [gF_pA, a4], by rw [gF_pA, a5], by rw [gF_pA, a6], by rw [gF_pA, a7], by rw [gF_pA, a8], by rw [gA_pA (by omega), a9]⟩, by rw [gA_pA (by omega), b1], by rw [gA_pA (by omega), b2], by rw [gJ_pA, b3], gA_pA_same b4, by rw [gA_pA (by omega), b5], by rw [gA_pA (by omega), b6]⟩
theorem RIP_15 {h : HP} {ra n : Nat} {S D : List Int} {G : List (BitVec 64)} {A B P : List Int} {l : List Int} (m : RIP h ra n S D G A B P) : RIP (pA h (ra + 15) l) ra n S D G A l P := by
  obtain ⟨m0, ⟨a1, a2, a3, a4, a5, a6, a7, a8, a9⟩, b1, b2, b3, b4, b5, b6⟩ := m
  exact ⟨RW0_pA m0 (by omega), ⟨by rw [gF_pA, a1], by rw [gF_pA, a2], by rw [gF_pA, a3], by rw [gF_pA, a4], by rw [gF_pA, a5], by rw [gF_pA, a6], by rw [gF_pA, a7], by rw [gF_pA, a8], by rw [gA_pA (by omega), a9]⟩, by rw [gA_pA (by omega), b1], by rw [gA_pA (by omega), b2], by rw [gJ_pA, b3], by rw [gA_pA (by omega), b4], gA_pA_same b5, by rw [gA_pA (by omega), b6]⟩
theorem RIP_16 {h : HP} {ra n : Nat} {S D : List Int} {G : List (BitVec 64)} {A B P : List Int} {l : List Int} (m : RIP h ra n S D G A B P) : RIP (pA h (ra + 16) l) ra n S D G A B l := by
  obtain ⟨m0, ⟨a1, a2, a3, a4, a5, a6, a7, a8, a9⟩, b1, b2, b3, b4, b5, b6⟩ := m
  exact ⟨RW0_pA m0 (by omega), ⟨by rw [gF_pA, a1], by rw [gF_pA, a2], by rw [gF_pA, a3], by rw [gF_pA, a4], by rw [gF_pA, a5], by rw [gF_pA, a6], by rw [gF_pA, a7], by rw [gF_pA, a8], by rw [gA_pA (by omega), a9]⟩, by rw [gA_pA (by omega), b1], by rw [gA_pA (by omega), b2], by rw [gJ_pA, b3], by rw [gA_pA (by omega), b4], by rw [gA_pA (by omega), b5], gA_pA_same b6⟩
/-- the places' digits -/
def plI (n i : Nat) (P : List Int) : Prop := P.length = n ∧ ∀ p, p < n → P.getD p 0 = ((dg n (num n i) p : Nat) : Int)
/-- the bit of a pair -/
def pbt (g l : Nat) : Nat := (g - 1) * (g - 2) / 2 + l - 1
theorem pbt_all : ∀ g, g < 7 → ∀ l, l < g → 1 ≤ l → pbt g l < 15 ∧ Int.tdiv (w32 (((g : Int) - 1) * ((g : Int) - 2))) (w32 2) + (l : Int) - 1 = ((pbt g l : Nat) : Int) := by decide +kernel
def sIn (n i p : Nat) : Nat → Nat → Nat
  | 0, acc => acc
  | k + 1, acc => if dg n (num n i) (p + 1 + k) < dg n (num n i) p then sIn n i p k acc ||| 2 ^ pbt (dg n (num n i) p) (dg n (num n i) (p + 1 + k)) else sIn n i p k acc
def sOut (n i : Nat) : Nat → Nat
  | 0 => 0
  | p + 1 => sIn n i p (n - 1 - p) (sOut n i p)
theorem sIn_succ (n i p k acc : Nat) : sIn n i p (k + 1) acc = if dg n (num n i) (p + 1 + k) < dg n (num n i) p then sIn n i p k acc ||| 2 ^ pbt (dg n (num n i) p) (dg n (num n i) (p + 1 + k)) else sIn n i p k acc := rfl
def sw_b (n : Nat) : Bool := allB (fun i => sOut n i n == sw n i) (FC n)
theorem sw_c : all6 sw_b = true := by decide +kernel
theorem sOut_sw {n i : Nat} (h1 : 1 ≤ n) (h6 : n ≤ 6) (hi : i < FC n) : sOut n i n = sw n i := beq_iff_eq.mp (allB_of (all6_of sw_c h1 h6) i hi)
theorem sIn_lt {n i p : Nat} (h1 : 1 ≤ n) (h6 : n ≤ 6) (hi : i < FC n) (hp : p < n) : ∀ k acc, p + 1 + k ≤ n → acc < 32768 → sIn n i p k acc < 32768 := by
  intro k
  induction k with
  | zero => intro acc _ h; exact h
  | succ k ih =>
    intro acc hk h
    have := ih acc (by omega) h
    rw [sIn_succ]
    split
    · next c =>
      have a := dg_in h1 h6 hi hp
      have b := dg_in h1 h6 hi (show p + 1 + k < n by omega)
      have e := (pbt_all _ (show dg n (num n i) p < 7 by omega) _ c b.1).1
      exact Nat.or_lt_two_pow (n := 15) this (Nat.pow_lt_pow_right (by decide) e)
    · exact this
theorem sOut_lt {n i : Nat} (h1 : 1 ≤ n) (h6 : n ≤ 6) (hi : i < FC n) : ∀ p, p ≤ n → sOut n i p < 32768 := by
  intro p
  induction p with
  | zero => intro _; show 0 < 32768; decide
  | succ p ih => intro hp; exact sIn_lt h1 h6 hi (by omega) _ _ (by omega) (ih (by omega))
