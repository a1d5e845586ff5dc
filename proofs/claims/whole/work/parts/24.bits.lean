/-! ===== how many bits ===== -/
def vB : List Nat → Nat
  | [] => 0
  | b :: l => b + 256 * vB l
def mB (m : Nat) : Nat → Nat
  | 0 => 0
  | k + 1 => m + 256 * mB m k
theorem land_split {a b c e : Nat} (ha : a < 256) (hb : b < 256) : (a + 256 * c) &&& (b + 256 * e) = (a &&& b) + 256 * (c &&& e) := by
  have h1 : ((a + 256 * c) &&& (b + 256 * e)) % 2 ^ 8 = a &&& b := by
    rw [Nat.and_mod_two_pow, show (a + 256 * c) % 2 ^ 8 = a by omega, show (b + 256 * e) % 2 ^ 8 = b by omega]
  have h2 : ((a + 256 * c) &&& (b + 256 * e)) / 2 ^ 8 = c &&& e := by
    rw [Nat.and_div_two_pow, show (a + 256 * c) / 2 ^ 8 = c by omega, show (b + 256 * e) / 2 ^ 8 = e by omega]
  have h3 := Nat.div_add_mod ((a + 256 * c) &&& (b + 256 * e)) (2 ^ 8)
  rw [h1, h2] at h3
  omega
def sA (b : Nat) : Nat := b - (b / 2 &&& 85)
def sB (b : Nat) : Nat := (b &&& 51) + (b / 4 &&& 51)
def sC (b : Nat) : Nat := (b + b / 16) &&& 15
def all256 (f : Nat → Bool) : Bool := allB f 256
theorem st1 : ∀ l : List Nat, (∀ b ∈ l, b < 256) → vB l / 2 &&& mB 85 l.length = vB (l.map (fun b => b / 2 &&& 85)) := by
  intro l
  induction l with
  | nil => intro _; rfl
  | cons b l ih =>
    intro h
    have hb : b < 256 := h b (List.mem_cons_self ..)
    have hi := ih (fun x hx => h x (List.mem_cons_of_mem _ hx))
    show (b + 256 * vB l) / 2 &&& (85 + 256 * mB 85 l.length) = (b / 2 &&& 85) + 256 * vB (l.map _)
    rw [← hi]
    generalize vB l = v
    have e : (b + 256 * v) / 2 = (b / 2 + 128 * (v % 2)) + 256 * (v / 2) := by omega
    rw [e, land_split (by omega) (by decide)]
    have key : all256 (fun b => (b / 2 + 128 &&& 85) == (b / 2 &&& 85)) = true := by decide +kernel
    have k2 := allB_of key b hb
    rw [beq_iff_eq] at k2
    rcases Nat.mod_two_eq_zero_or_one v with hv | hv <;> rw [hv]
    · simp
    · rw [Nat.mul_one, k2]
theorem st2 : ∀ l : List Nat, (∀ b ∈ l, b < 256) → vB l / 4 &&& mB 51 l.length = vB (l.map (fun b => b / 4 &&& 51)) := by
  intro l
  induction l with
  | nil => intro _; rfl
  | cons b l ih =>
    intro h
    have hb : b < 256 := h b (List.mem_cons_self ..)
    have hi := ih (fun x hx => h x (List.mem_cons_of_mem _ hx))
    show (b + 256 * vB l) / 4 &&& (51 + 256 * mB 51 l.length) = (b / 4 &&& 51) + 256 * vB (l.map _)
    rw [← hi]
    generalize vB l = v
    have e : (b + 256 * v) / 4 = (b / 4 + 64 * (v % 4)) + 256 * (v / 4) := by omega
    rw [e, land_split (by omega) (by decide)]
    have key : all256 (fun b => allB (fun q => (b / 4 + 64 * q &&& 51) == (b / 4 &&& 51)) 4) = true := by decide +kernel
    have k2 := allB_of (allB_of key b hb) (v % 4) (by omega)
    rw [beq_iff_eq] at k2
    rw [k2]
theorem st2b : ∀ l : List Nat, (∀ b ∈ l, b < 256) → vB l &&& mB 51 l.length = vB (l.map (fun b => b &&& 51)) := by
  intro l
  induction l with
  | nil => intro _; rfl
  | cons b l ih =>
    intro h
    have hb : b < 256 := h b (List.mem_cons_self ..)
    have hi := ih (fun x hx => h x (List.mem_cons_of_mem _ hx))
    show (b + 256 * vB l) &&& (51 + 256 * mB 51 l.length) = (b &&& 51) + 256 * vB (l.map _)
    rw [← hi, land_split hb (by decide)]
theorem st3 : ∀ l : List Nat, (∀ b ∈ l, b < 80 ∧ b % 16 < 5) → vB l % 16 < 5 ∧ (vB l + vB l / 16 &&& mB 15 l.length = vB (l.map sC)) := by
  intro l
  induction l with
  | nil => intro _; exact ⟨by decide, rfl⟩
  | cons b l ih =>
    intro h
    have hb := h b (List.mem_cons_self ..)
    obtain ⟨h5, hi⟩ := ih (fun x hx => h x (List.mem_cons_of_mem _ hx))
    refine ⟨by show (b + 256 * vB l) % 16 < 5; omega, ?_⟩
    show (b + 256 * vB l) + (b + 256 * vB l) / 16 &&& (15 + 256 * mB 15 l.length) = sC b + 256 * vB (l.map _)
    rw [← hi]
    generalize vB l = v at h5 ⊢
    have e : (b + 256 * v) + (b + 256 * v) / 16 = (b + b / 16 + 16 * (v % 16)) + 256 * (v + v / 16) := by omega
    rw [e, land_split (by omega) (by decide)]
    have key : all256 (fun b => allB (fun q => (b + b / 16 + 16 * q &&& 15) == (b + b / 16 &&& 15)) 5) = true := by decide +kernel
    have k2 := allB_of (allB_of key b (by omega)) (v % 16) h5
    rw [beq_iff_eq] at k2
    rw [k2]
    rfl
theorem vB_sub (f : Nat → Nat) : ∀ l : List Nat, (∀ b ∈ l, f b ≤ b) → vB l - vB (l.map f) = vB (l.map (fun b => b - f b)) ∧ vB (l.map f) ≤ vB l := by
  intro l
  induction l with
  | nil => intro _; exact ⟨rfl, Nat.le_refl _⟩
  | cons b l ih =>
    intro h
    have hb := h b (List.mem_cons_self ..)
    obtain ⟨h1, h2⟩ := ih (fun x hx => h x (List.mem_cons_of_mem _ hx))
    show (b + 256 * vB l) - (f b + 256 * vB (l.map f)) = (b - f b) + 256 * vB (l.map _) ∧ f b + 256 * vB (l.map f) ≤ b + 256 * vB l
    rw [← h1]
    omega
theorem vB_add (f g : Nat → Nat) : ∀ l : List Nat, vB (l.map f) + vB (l.map g) = vB (l.map (fun b => f b + g b)) := by
  intro l
  induction l with
  | nil => rfl
  | cons b l ih =>
    show (f b + 256 * vB (l.map f)) + (g b + 256 * vB (l.map g)) = (f b + g b) + 256 * vB (l.map _)
    rw [← ih]
    omega
/-- the first three steps on all bytes -/
theorem st_all {l : List Nat} (h : ∀ b ∈ l, b < 256) {x x1 x2 : Nat} (hx : x = vB l) (h1 : x1 = x - (x / 2 &&& mB 85 l.length)) (h2 : x2 = (x1 &&& mB 51 l.length) + (x1 / 4 &&& mB 51 l.length)) : (x / 2 &&& mB 85 l.length) ≤ x ∧ x2 = vB (l.map (fun b => sB (sA b))) ∧ (x2 + x2 / 16 &&& mB 15 l.length) = vB (l.map (fun b => sC (sB (sA b)))) := by
  have e1 := st1 l h
  have kA : all256 (fun b => Nat.ble (b / 2 &&& 85) b) = true := by decide +kernel
  obtain ⟨e2, e2b⟩ := vB_sub (fun b => b / 2 &&& 85) l (fun b hb => Nat.le_of_ble_eq_true (allB_of kA b (h b hb)))
  have ex1 : x1 = vB (l.map sA) := by rw [h1, hx, e1, e2]; rfl
  have hA : ∀ b ∈ l.map sA, b < 256 := by
    intro b hb
    obtain ⟨c, hc, rfl⟩ := List.mem_map.mp hb
    have := h c hc
    unfold sA; omega
  have e3 := st2 (l.map sA) hA
  have e4 := st2b (l.map sA) hA
  rw [List.length_map] at e3 e4
  have ex2 : x2 = vB (l.map (fun b => sB (sA b))) := by
    rw [h2, ex1, e3, e4, List.map_map, List.map_map, vB_add]
    rfl
  have kB : all256 (fun b => decide (sB (sA b) < 80) && decide (sB (sA b) % 16 < 5)) = true := by decide +kernel
  have hB : ∀ b ∈ l.map (fun b => sB (sA b)), b < 80 ∧ b % 16 < 5 := by
    intro b hb
    obtain ⟨c, hc, rfl⟩ := List.mem_map.mp hb
    have := allB_of kB c (h c hc)
    simpa using this
  have e5 := (st3 _ hB).2
  rw [List.length_map] at e5
  refine ⟨by rw [hx, e1]; exact e2b, ex2, ?_⟩
  rw [ex2, e5, List.map_map]
  rfl
theorem cnt_add (f : Nat → Bool) (a : Nat) : ∀ m, cnt f (a + m) = cnt f a + cnt (fun i => f (a + i)) m := by
  intro m
  induction m with
  | zero => exact (Int.add_zero _).symm
  | succ m ih => rw [← Nat.add_assoc, cnt_succ, ih, cnt_succ]; omega
def pop8 (b : Nat) : Int := cnt (fun i => b.testBit i) 8
def sumP : List Nat → Int
  | [] => 0
  | b :: l => pop8 b + sumP l
theorem cnt_vB : ∀ l : List Nat, (∀ b ∈ l, b < 256) → cnt (fun i => (vB l).testBit i) (8 * l.length) = sumP l := by
  intro l
  induction l with
  | nil => intro _; rfl
  | cons b l ih =>
    intro h
    have hb : b < 256 := h b (List.mem_cons_self ..)
    have hi := ih (fun x hx => h x (List.mem_cons_of_mem _ hx))
    show cnt (fun i => (b + 256 * vB l).testBit i) (8 * (l.length + 1)) = pop8 b + sumP l
    rw [show 8 * (l.length + 1) = 8 + 8 * l.length by omega, cnt_add, ← hi]
    have t1 : cnt (fun i => (b + 256 * vB l).testBit i) 8 = pop8 b := by
      apply cnt_congr
      intro k hk
      have : b = (b + 256 * vB l) % 2 ^ 8 := by omega
      have e := Nat.testBit_mod_two_pow (b + 256 * vB l) 8 k
      rw [← this, decide_eq_true hk, Bool.true_and] at e
      exact e.symm
    have t2 : cnt (fun i => (fun i => (b + 256 * vB l).testBit i) (8 + i)) (8 * l.length) = cnt (fun i => (vB l).testBit i) (8 * l.length) := by
      apply cnt_congr
      intro k _
      have : vB l = (b + 256 * vB l) / 2 ^ 8 := by omega
      have e : ((b + 256 * vB l) / 2 ^ 8).testBit k = (b + 256 * vB l).testBit (k + 8) := Nat.testBit_div_two_pow _ _
      rw [← this] at e
      rw [e, Nat.add_comm k 8]
    rw [t1, t2]
theorem sC_pop {b : Nat} (h : b < 256) : ((sC (sB (sA b)) : Nat) : Int) = pop8 b ∧ sC (sB (sA b)) ≤ 8 := by
  have k : all256 (fun b => decide (((sC (sB (sA b)) : Nat) : Int) = pop8 b) && Nat.ble (sC (sB (sA b))) 8) = true := by decide +kernel
  have := allB_of k b h
  rw [Bool.and_eq_true, decide_eq_true_eq] at this
  exact ⟨this.1, Nat.le_of_ble_eq_true this.2⟩
def bL : Nat → Nat → List Nat
  | 0, _ => []
  | k + 1, a => a % 256 :: bL k (a / 256)
theorem bL_lt : ∀ k a, ∀ b ∈ bL k a, b < 256 := by
  intro k
  induction k with
  | zero => intro a b hb; cases hb
  | succ k ih =>
    intro a b hb
    rcases List.mem_cons.mp hb with e | e
    · rw [e]; omega
    · exact ih _ b e
theorem bL_v : ∀ k a, a < 256 ^ k → vB (bL k a) = a := by
  intro k
  induction k with
  | zero => intro a h; have : a = 0 := by simpa using h
            rw [this]; rfl
  | succ k ih =>
    intro a h
    show a % 256 + 256 * vB (bL k (a / 256)) = a
    rw [ih (a / 256) (by rw [Nat.pow_succ] at h; omega)]
    omega
def popN (a : Nat) : Int := cnt (fun i => a.testBit i) 32
def popI (s : BitVec 64) : Int := cnt (fun i => s.getLsbD i) 64
theorem iUshr_nat {a k : Nat} (h : a < 2147483648) (hk : k < 32) : iUshr (a : Int) (k : Int) = ((a / 2 ^ k : Nat) : Int) := by
  unfold iUshr
  rw [w32_nat (by omega)]
  have e : ((k : Int) % 32).toNat = k := by omega
  have e2 : (a : Int) % 4294967296 = (a : Int) := by omega
  rw [e, e2]
  norm_cast
theorem su0 {a b m : Nat} (h : a < m) (h0 : 0 < m) : (a + m * b) / m = b := by rw [Nat.add_mul_div_left _ _ h0, Nat.div_eq_of_lt h, Nat.zero_add]
theorem su2 {c0 c1 c2 c3 c4 c5 c6 c7 : Nat} : c0 + 256 * (c1 + 256 * (c2 + 256 * (c3 + 256 * (c4 + 256 * (c5 + 256 * (c6 + 256 * c7)))))) + (c1 + 256 * (c2 + 256 * (c3 + 256 * (c4 + 256 * (c5 + 256 * (c6 + 256 * c7)))))) = (c0 + c1 + 256 * (c1 + c2)) + 65536 * (c2 + c3 + 256 * (c3 + c4 + 256 * (c4 + c5 + 256 * (c5 + c6 + 256 * (c6 + c7 + 256 * c7))))) := by omega
theorem su3 {c0 c1 c2 : Nat} (q0 : c0 ≤ 8) (q1 : c1 ≤ 8) (q2 : c2 ≤ 8) : c0 + c1 + 256 * (c1 + c2) < 65536 := by omega
theorem su4 {c0 c1 c2 c3 c4 c5 c6 c7 : Nat} : (c0 + c1 + 256 * (c1 + c2)) + 65536 * (c2 + c3 + 256 * (c3 + c4 + 256 * (c4 + c5 + 256 * (c5 + c6 + 256 * (c6 + c7 + 256 * c7))))) + (c2 + c3 + 256 * (c3 + c4 + 256 * (c4 + c5 + 256 * (c5 + c6 + 256 * (c6 + c7 + 256 * c7))))) = (c0 + c1 + (c2 + c3) + 256 * (c1 + c2 + (c3 + c4) + 256 * (c2 + c3 + (c4 + c5) + 256 * (c3 + c4 + (c5 + c6))))) + 4294967296 * (c4 + c5 + (c6 + c7) + 256 * (c5 + c6 + c7 + 256 * (c6 + c7 + 256 * c7))) := by omega
theorem su5 {c0 c1 c2 c3 c4 c5 c6 : Nat} (q0 : c0 ≤ 8) (q1 : c1 ≤ 8) (q2 : c2 ≤ 8) (q3 : c3 ≤ 8) (q4 : c4 ≤ 8) (q5 : c5 ≤ 8) (q6 : c6 ≤ 8) : c0 + c1 + (c2 + c3) + 256 * (c1 + c2 + (c3 + c4) + 256 * (c2 + c3 + (c4 + c5) + 256 * (c3 + c4 + (c5 + c6)))) < 4294967296 := by omega
theorem su6 {c0 c1 c2 c3 c4 c5 c6 c7 : Nat} : (c0 + c1 + (c2 + c3) + 256 * (c1 + c2 + (c3 + c4) + 256 * (c2 + c3 + (c4 + c5) + 256 * (c3 + c4 + (c5 + c6))))) + 4294967296 * (c4 + c5 + (c6 + c7) + 256 * (c5 + c6 + c7 + 256 * (c6 + c7 + 256 * c7))) + (c4 + c5 + (c6 + c7) + 256 * (c5 + c6 + c7 + 256 * (c6 + c7 + 256 * c7))) = (c0 + c1 + c2 + c3 + c4 + c5 + c6 + c7) + 128 * (2 * (c1 + c2 + (c3 + c4) + 256 * (c2 + c3 + (c4 + c5) + 256 * (c3 + c4 + (c5 + c6)))) + 33554432 * (c4 + c5 + (c6 + c7) + 256 * (c5 + c6 + c7 + 256 * (c6 + c7 + 256 * c7))) + 2 * (c5 + c6 + c7 + 256 * (c6 + c7 + 256 * c7))) := by omega
theorem su7 {c0 c1 c2 c3 c4 c5 c6 c7 : Nat} (q0 : c0 ≤ 8) (q1 : c1 ≤ 8) (q2 : c2 ≤ 8) (q3 : c3 ≤ 8) (q4 : c4 ≤ 8) (q5 : c5 ≤ 8) (q6 : c6 ≤ 8) (q7 : c7 ≤ 8) : c0 + c1 + c2 + c3 + c4 + c5 + c6 + c7 < 128 := by omega
theorem sum8 {c0 c1 c2 c3 c4 c5 c6 c7 x3 x4 x5 x6 : Nat} (q0 : c0 ≤ 8) (q1 : c1 ≤ 8) (q2 : c2 ≤ 8) (q3 : c3 ≤ 8) (q4 : c4 ≤ 8) (q5 : c5 ≤ 8) (q6 : c6 ≤ 8) (q7 : c7 ≤ 8) (h3 : x3 = c0 + 256 * (c1 + 256 * (c2 + 256 * (c3 + 256 * (c4 + 256 * (c5 + 256 * (c6 + 256 * c7))))))) (h4 : x4 = x3 + x3 / 256) (h5 : x5 = x4 + x4 / 65536) (h6 : x6 = x5 + x5 / 4294967296) : x6 % 128 = c0 + c1 + c2 + c3 + c4 + c5 + c6 + c7 := by
  rw [h3, su0 (Nat.lt_of_le_of_lt q0 (by decide)) (by decide), su2] at h4
  rw [h4, su0 (su3 q0 q1 q2) (by decide), su4] at h5
  rw [h5, su0 (su5 q0 q1 q2 q3 q4 q5 q6) (by decide), su6] at h6
  rw [h6, Nat.add_mul_mod_self_left, Nat.mod_eq_of_lt (su7 q0 q1 q2 q3 q4 q5 q6 q7)]
theorem su8 {c0 c1 c2 c3 : Nat} : c0 + 256 * (c1 + 256 * (c2 + 256 * c3)) + (c1 + 256 * (c2 + 256 * c3)) = (c0 + c1 + 256 * (c1 + c2)) + 65536 * (c2 + c3 + 256 * c3) := by omega
theorem su9 {c0 c1 c2 c3 : Nat} : (c0 + c1 + 256 * (c1 + c2)) + 65536 * (c2 + c3 + 256 * c3) + (c2 + c3 + 256 * c3) = (c0 + c1 + c2 + c3) + 64 * (4 * (c1 + c2) + 1024 * (c2 + c3 + 256 * c3) + 4 * c3) := by omega
theorem su10 {c0 c1 c2 c3 : Nat} (q0 : c0 ≤ 8) (q1 : c1 ≤ 8) (q2 : c2 ≤ 8) (q3 : c3 ≤ 8) : c0 + c1 + c2 + c3 < 64 := by omega
theorem sum4 {c0 c1 c2 c3 x3 x4 x5 : Nat} (q0 : c0 ≤ 8) (q1 : c1 ≤ 8) (q2 : c2 ≤ 8) (q3 : c3 ≤ 8) (h3 : x3 = c0 + 256 * (c1 + 256 * (c2 + 256 * c3))) (h4 : x4 = x3 + x3 / 256) (h5 : x5 = x4 + x4 / 65536) : x5 % 64 = c0 + c1 + c2 + c3 := by
  rw [h3, su0 (Nat.lt_of_le_of_lt q0 (by decide)) (by decide), su8] at h4
  rw [h4, su0 (su3 q0 q1 q2) (by decide), su9] at h5
  rw [h5, Nat.add_mul_mod_self_left, Nat.mod_eq_of_lt (su10 q0 q1 q2 q3)]
