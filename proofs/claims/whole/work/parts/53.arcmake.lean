/-! ===== the class's arcs are made: numbering ===== -/
/-- a table filled up to k -/
def tP (f : Nat → Nat) (k N : Nat) : List Int := (List.range N).map (fun j => if j < k then ((f j : Nat) : Int) else 0)
theorem tP_len {f : Nat → Nat} {k N : Nat} : (tP f k N).length = N := by unfold tP; rw [List.length_map, List.length_range]
theorem tP_get {f : Nat → Nat} {k N j : Nat} (h : j < N) : (tP f k N).getD j 0 = if j < k then ((f j : Nat) : Int) else 0 := by
  unfold tP
  rw [List.getD_eq_getElem?_getD, List.getElem?_map, List.getElem?_range h]
  rfl
theorem getElem_getD {l : List Int} {j : Nat} (h : j < l.length) : l[j]? = some (l.getD j 0) := by
  rw [List.getD_eq_getElem?_getD, List.getElem?_eq_getElem h]; rfl
theorem list_ext {l m : List Int} {N : Nat} (hl : l.length = N) (hm : m.length = N) (h : ∀ j, j < N → l.getD j 0 = m.getD j 0) : l = m := by
  apply List.ext_getElem?
  intro j
  by_cases hj : j < N
  · rw [getElem_getD (by omega), getElem_getD (by omega), h j hj]
  · rw [List.getElem?_eq_none (by omega), List.getElem?_eq_none (by omega)]
theorem tP_set {f : Nat → Nat} {k N : Nat} {x : Int} (hk : k < N) (hx : x = ((f k : Nat) : Int)) : (tP f k N).set k x = tP f (k + 1) N := by
  apply list_ext (N := N) (by rw [List.length_set, tP_len]) tP_len
  intro j hj
  rw [getD_set (by rw [tP_len]; exact hk), tP_get hj, tP_get hj]
  by_cases e : k = j
  · subst e; rw [if_pos rfl, if_pos (Nat.lt_succ_self k), hx]
  · rw [if_neg e]
    by_cases h : j < k
    · rw [if_pos h, if_pos (by omega)]
    · rw [if_neg h, if_neg (by omega)]
theorem tP_0 {f : Nat → Nat} {N : Nat} : tP f 0 N = List.replicate N 0 := by
  apply list_ext (N := N) tP_len (by rw [List.length_replicate])
  intro j hj
  rw [tP_get hj, if_neg (Nat.not_lt_zero j), List.getD_eq_getElem?_getD, List.getElem?_replicate, if_pos hj]
  rfl
theorem tP_N {f : Nat → Nat} {N : Nat} : tP f N N = tI f N := by
  apply list_ext (N := N) tP_len tI_len
  intro j hj
  rw [tP_get hj, if_pos hj, tI_get hj]
theorem tP_skip {f : Nat → Nat} {k m N : Nat} (h : ∀ j, k ≤ j → j < m → f j = 0) (hk : k ≤ m) : tP f k N = tP f m N := by
  apply list_ext (N := N) tP_len tP_len
  intro j hj
  rw [tP_get hj, tP_get hj]
  by_cases h1 : j < k
  · rw [if_pos h1, if_pos (by omega)]
  · rw [if_neg h1]
    by_cases h2 : j < m
    · rw [if_pos h2, h j (by omega) h2]; rfl
    · rw [if_neg h2]
/-- how many arcs come ahead of those of a, of those of a and b -/
def oA (n : Nat) : Nat → Nat
  | 0 => 0
  | a + 1 => if a = 0 then 0 else oA n a + (2 ^ (n - a) - 1)
def oF (n a b : Nat) : Nat := oA n a + (2 ^ (b - a - 1) - 1)
def om_b (n : Nat) : Bool := allB (fun a => allB (fun b => (!(decide (1 ≤ a) && decide (a < b) && decide (b ≤ n))) || (oF n a (b + 1) == oF n a b + 2 ^ (b - a - 1) && (fi n (a * 7 + b) == oF n a b && allB (fun l => Nat.ble (oF n a b + l + 1) (NA n) && (lo n (oF n a b + l) == a && (hi n (oF n a b + l) == b && (lf n (oF n a b + l) == l && (decide (((lc n (oF n a b + l) : Nat) : Int) = popN l) && (rc n (oF n a b + l) + lc n (oF n a b + l) == b - a - 1)))))) (2 ^ (b - a - 1))))) 7) 7
theorem om_c : all6 om_b = true := by decide +kernel
theorem om {n a b : Nat} (h1 : 1 ≤ n) (h6 : n ≤ 6) (ha : 1 ≤ a) (hab : a < b) (hb : b ≤ n) : oF n a (b + 1) = oF n a b + 2 ^ (b - a - 1) ∧ fi n (a * 7 + b) = oF n a b ∧ ∀ l, l < 2 ^ (b - a - 1) → oF n a b + l < NA n ∧ lo n (oF n a b + l) = a ∧ hi n (oF n a b + l) = b ∧ lf n (oF n a b + l) = l ∧ ((lc n (oF n a b + l) : Nat) : Int) = popN l ∧ rc n (oF n a b + l) + lc n (oF n a b + l) = b - a - 1 := by
  have := allB_of (allB_of (all6_of om_c h1 h6) a (by omega)) b (by omega)
  rw [decide_eq_true ha, decide_eq_true hab, decide_eq_true hb] at this
  simp only [Bool.and_self, Bool.not_true, Bool.false_or, Bool.and_eq_true, beq_iff_eq] at this
  obtain ⟨q1, q2, q3⟩ := this
  refine ⟨q1, q2, fun l hl => ?_⟩
  have r := allB_of q3 l hl
  simp only [Bool.and_eq_true, Nat.ble_eq, beq_iff_eq, decide_eq_true_eq] at r
  exact r
def om2_b (n : Nat) : Bool := allB (fun a => (!(decide (1 ≤ a) && decide (a < n))) || (oF n a (n + 1) == oF n (a + 1) (a + 2) && allB (fun j => decide (j < a * 7 + n + 1) || fi n j == 0) ((a + 1) * 7 + a + 2))) 7 && (oF n 1 2 == 0 && (allB (fun j => fi n j == 0) 9 && (oF n n (n + 1) == NA n && allB (fun j => decide (j < n * 7 + n + 1) || fi n j == 0) 49)))
theorem om2_c : all6 om2_b = true := by decide +kernel
theorem om2 {n : Nat} (h1 : 1 ≤ n) (h6 : n ≤ 6) : (∀ a, 1 ≤ a → a < n → oF n a (n + 1) = oF n (a + 1) (a + 2) ∧ ∀ j, a * 7 + n + 1 ≤ j → j < (a + 1) * 7 + a + 2 → fi n j = 0) ∧ oF n 1 2 = 0 ∧ (∀ j, j < 9 → fi n j = 0) ∧ oF n n (n + 1) = NA n ∧ ∀ j, n * 7 + n + 1 ≤ j → j < 49 → fi n j = 0 := by
  have := all6_of om2_c h1 h6
  unfold om2_b at this
  simp only [Bool.and_eq_true, beq_iff_eq] at this
  obtain ⟨q1, q2, q3, q4, q5⟩ := this
  refine ⟨fun a ha han => ?_, q2, fun j hj => by have := allB_of q3 j hj; simpa using this, q4, fun j hj1 hj2 => ?_⟩
  · have r := allB_of q1 a (by omega)
    rw [decide_eq_true ha, decide_eq_true han] at r
    simp only [Bool.and_self, Bool.not_true, Bool.false_or, Bool.and_eq_true, beq_iff_eq] at r
    refine ⟨r.1, fun j hj1 hj2 => ?_⟩
    have t := allB_of r.2 j hj2
    rw [decide_eq_false (by omega), Bool.false_or, beq_iff_eq] at t
    exact t
  · have t := allB_of q5 j hj2
    rw [decide_eq_false (by omega), Bool.false_or, beq_iff_eq] at t
    exact t
/-- the arcs' cells from a on, while they are numbered -/
def NAP (h : HP) (a n : Nat) (fiL l1 l2 l3 l4 l5 : List Int) : Prop := (gF h a 1 0 = some (mI (n : Int)) ∧ gF h a 1 3 = some (mR (a + 2)) ∧ gF h a 1 4 = some (mR (a + 3)) ∧ gF h a 1 5 = some (mR (a + 4)) ∧ gF h a 1 6 = some (mR (a + 5)) ∧ gF h a 1 7 = some (mR (a + 6)) ∧ gF h a 1 10 = some (mR (a + 1))) ∧ gA h (a + 1) = some fiL ∧ gA h (a + 2) = some l1 ∧ gA h (a + 3) = some l2 ∧ gA h (a + 4) = some l3 ∧ gA h (a + 5) = some l4 ∧ gA h (a + 6) = some l5
theorem NAP_1 {h : HP} {a n : Nat} {fiL l1 l2 l3 l4 l5 l : List Int} (m : NAP h a n fiL l1 l2 l3 l4 l5) : NAP (pA h (a + 1) l) a n l l1 l2 l3 l4 l5 := by
  obtain ⟨⟨a1, a2, a3, a4, a5, a6, a7⟩, b1, b2, b3, b4, b5, b6⟩ := m
  exact ⟨⟨by rw [gF_pA, a1], by rw [gF_pA, a2], by rw [gF_pA, a3], by rw [gF_pA, a4], by rw [gF_pA, a5], by rw [gF_pA, a6], by rw [gF_pA, a7]⟩, gA_pA_same b1, by rw [gA_pA (by omega), b2], by rw [gA_pA (by omega), b3], by rw [gA_pA (by omega), b4], by rw [gA_pA (by omega), b5], by rw [gA_pA (by omega), b6]⟩
theorem NAP_2 {h : HP} {a n : Nat} {fiL l1 l2 l3 l4 l5 l : List Int} (m : NAP h a n fiL l1 l2 l3 l4 l5) : NAP (pA h (a + 2) l) a n fiL l l2 l3 l4 l5 := by
  obtain ⟨⟨a1, a2, a3, a4, a5, a6, a7⟩, b1, b2, b3, b4, b5, b6⟩ := m
  exact ⟨⟨by rw [gF_pA, a1], by rw [gF_pA, a2], by rw [gF_pA, a3], by rw [gF_pA, a4], by rw [gF_pA, a5], by rw [gF_pA, a6], by rw [gF_pA, a7]⟩, by rw [gA_pA (by omega), b1], gA_pA_same b2, by rw [gA_pA (by omega), b3], by rw [gA_pA (by omega), b4], by rw [gA_pA (by omega), b5], by rw [gA_pA (by omega), b6]⟩
theorem NAP_3 {h : HP} {a n : Nat} {fiL l1 l2 l3 l4 l5 l : List Int} (m : NAP h a n fiL l1 l2 l3 l4 l5) : NAP (pA h (a + 3) l) a n fiL l1 l l3 l4 l5 := by
  obtain ⟨⟨a1, a2, a3, a4, a5, a6, a7⟩, b1, b2, b3, b4, b5, b6⟩ := m
  exact ⟨⟨by rw [gF_pA, a1], by rw [gF_pA, a2], by rw [gF_pA, a3], by rw [gF_pA, a4], by rw [gF_pA, a5], by rw [gF_pA, a6], by rw [gF_pA, a7]⟩, by rw [gA_pA (by omega), b1], by rw [gA_pA (by omega), b2], gA_pA_same b3, by rw [gA_pA (by omega), b4], by rw [gA_pA (by omega), b5], by rw [gA_pA (by omega), b6]⟩
theorem NAP_4 {h : HP} {a n : Nat} {fiL l1 l2 l3 l4 l5 l : List Int} (m : NAP h a n fiL l1 l2 l3 l4 l5) : NAP (pA h (a + 4) l) a n fiL l1 l2 l l4 l5 := by
  obtain ⟨⟨a1, a2, a3, a4, a5, a6, a7⟩, b1, b2, b3, b4, b5, b6⟩ := m
  exact ⟨⟨by rw [gF_pA, a1], by rw [gF_pA, a2], by rw [gF_pA, a3], by rw [gF_pA, a4], by rw [gF_pA, a5], by rw [gF_pA, a6], by rw [gF_pA, a7]⟩, by rw [gA_pA (by omega), b1], by rw [gA_pA (by omega), b2], by rw [gA_pA (by omega), b3], gA_pA_same b4, by rw [gA_pA (by omega), b5], by rw [gA_pA (by omega), b6]⟩
theorem NAP_5 {h : HP} {a n : Nat} {fiL l1 l2 l3 l4 l5 l : List Int} (m : NAP h a n fiL l1 l2 l3 l4 l5) : NAP (pA h (a + 5) l) a n fiL l1 l2 l3 l l5 := by
  obtain ⟨⟨a1, a2, a3, a4, a5, a6, a7⟩, b1, b2, b3, b4, b5, b6⟩ := m
  exact ⟨⟨by rw [gF_pA, a1], by rw [gF_pA, a2], by rw [gF_pA, a3], by rw [gF_pA, a4], by rw [gF_pA, a5], by rw [gF_pA, a6], by rw [gF_pA, a7]⟩, by rw [gA_pA (by omega), b1], by rw [gA_pA (by omega), b2], by rw [gA_pA (by omega), b3], by rw [gA_pA (by omega), b4], gA_pA_same b5, by rw [gA_pA (by omega), b6]⟩
theorem NAP_6 {h : HP} {a n : Nat} {fiL l1 l2 l3 l4 l5 l : List Int} (m : NAP h a n fiL l1 l2 l3 l4 l5) : NAP (pA h (a + 6) l) a n fiL l1 l2 l3 l4 l := by
  obtain ⟨⟨a1, a2, a3, a4, a5, a6, a7⟩, b1, b2, b3, b4, b5, b6⟩ := m
  exact ⟨⟨by rw [gF_pA, a1], by rw [gF_pA, a2], by rw [gF_pA, a3], by rw [gF_pA, a4], by rw [gF_pA, a5], by rw [gF_pA, a6], by rw [gF_pA, a7]⟩, by rw [gA_pA (by omega), b1], by rw [gA_pA (by omega), b2], by rw [gA_pA (by omega), b3], by rw [gA_pA (by omega), b4], by rw [gA_pA (by omega), b5], gA_pA_same b6⟩
