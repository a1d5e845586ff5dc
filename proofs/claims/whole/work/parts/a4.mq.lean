/-! ===== meets and joins are there (2) ===== -/
def L6t : List (Nat × Nat × Nat) := [(0, 2, 1), (2, 5, 4), (5, 9, 8), (9, 14, 13), (0, 4, 3), (1, 5, 3), (2, 8, 7), (4, 9, 7), (5, 13, 12), (8, 14, 12), (0, 7, 6), (1, 8, 6), (3, 9, 6), (2, 12, 11), (4, 13, 11), (7, 14, 11), (0, 11, 10), (1, 12, 10), (3, 13, 10), (6, 14, 10)]
theorem L6t_eq : trLi 6 = L6t := by decide
def latU (L : List (Nat × Nat × Nat)) (n u : Nat) : Bool := !(L.all (trCo u)) || (Nat.blt (ixS n (trAd L u)) (FC n) && (sw n (ixS n (trAd L u)) == trAd L u))
def latP (k : Nat) : Bool := allB (fun r => latU L6t 6 (k * 1024 + r)) 1024
theorem latP_0 : latP 0 = true := by decide +kernel
theorem latP_1 : latP 1 = true := by decide +kernel
theorem latP_2 : latP 2 = true := by decide +kernel
theorem latP_3 : latP 3 = true := by decide +kernel
theorem latP_4 : latP 4 = true := by decide +kernel
theorem latP_5 : latP 5 = true := by decide +kernel
theorem latP_6 : latP 6 = true := by decide +kernel
theorem latP_7 : latP 7 = true := by decide +kernel
theorem latP_8 : latP 8 = true := by decide +kernel
theorem latP_9 : latP 9 = true := by decide +kernel
theorem latP_10 : latP 10 = true := by decide +kernel
theorem latP_11 : latP 11 = true := by decide +kernel
theorem latP_12 : latP 12 = true := by decide +kernel
theorem latP_13 : latP 13 = true := by decide +kernel
theorem latP_14 : latP 14 = true := by decide +kernel
theorem latP_15 : latP 15 = true := by decide +kernel
theorem latP_16 : latP 16 = true := by decide +kernel
theorem latP_17 : latP 17 = true := by decide +kernel
theorem latP_18 : latP 18 = true := by decide +kernel
theorem latP_19 : latP 19 = true := by decide +kernel
theorem latP_20 : latP 20 = true := by decide +kernel
theorem latP_21 : latP 21 = true := by decide +kernel
theorem latP_22 : latP 22 = true := by decide +kernel
theorem latP_23 : latP 23 = true := by decide +kernel
theorem latP_24 : latP 24 = true := by decide +kernel
theorem latP_25 : latP 25 = true := by decide +kernel
theorem latP_26 : latP 26 = true := by decide +kernel
theorem latP_27 : latP 27 = true := by decide +kernel
theorem latP_28 : latP 28 = true := by decide +kernel
theorem latP_29 : latP 29 = true := by decide +kernel
theorem latP_30 : latP 30 = true := by decide +kernel
theorem latP_31 : latP 31 = true := by decide +kernel
theorem lat_6 {u : Nat} (h : u < 2 ^ nPr 6) : latU L6t 6 u = true := by
  have hu : u < 32768 := h
  have e : u / 1024 * 1024 + u % 1024 = u := by omega
  have key : latP (u / 1024) = true := by
    obtain ⟨k, ek⟩ : ∃ k, u / 1024 = k := ⟨_, rfl⟩
    have hk : k < 32 := by omega
    rw [ek]
    rcases (show k = 0 ∨ k = 1 ∨ k = 2 ∨ k = 3 ∨ k = 4 ∨ k = 5 ∨ k = 6 ∨ k = 7 ∨ k = 8 ∨ k = 9 ∨ k = 10 ∨ k = 11 ∨ k = 12 ∨ k = 13 ∨ k = 14 ∨ k = 15 ∨ k = 16 ∨ k = 17 ∨ k = 18 ∨ k = 19 ∨ k = 20 ∨ k = 21 ∨ k = 22 ∨ k = 23 ∨ k = 24 ∨ k = 25 ∨ k = 26 ∨ k = 27 ∨ k = 28 ∨ k = 29 ∨ k = 30 ∨ k = 31 by omega) with e | e | e | e | e | e | e | e | e | e | e | e | e | e | e | e | e | e | e | e | e | e | e | e | e | e | e | e | e | e | e | e
    · rw [e]; exact latP_0
    · rw [e]; exact latP_1
    · rw [e]; exact latP_2
    · rw [e]; exact latP_3
    · rw [e]; exact latP_4
    · rw [e]; exact latP_5
    · rw [e]; exact latP_6
    · rw [e]; exact latP_7
    · rw [e]; exact latP_8
    · rw [e]; exact latP_9
    · rw [e]; exact latP_10
    · rw [e]; exact latP_11
    · rw [e]; exact latP_12
    · rw [e]; exact latP_13
    · rw [e]; exact latP_14
    · rw [e]; exact latP_15
    · rw [e]; exact latP_16
    · rw [e]; exact latP_17
    · rw [e]; exact latP_18
    · rw [e]; exact latP_19
    · rw [e]; exact latP_20
    · rw [e]; exact latP_21
    · rw [e]; exact latP_22
    · rw [e]; exact latP_23
    · rw [e]; exact latP_24
    · rw [e]; exact latP_25
    · rw [e]; exact latP_26
    · rw [e]; exact latP_27
    · rw [e]; exact latP_28
    · rw [e]; exact latP_29
    · rw [e]; exact latP_30
    · rw [e]; exact latP_31
  have := allB_of key (u % 1024) (by omega)
  rw [e] at this
  exact this
