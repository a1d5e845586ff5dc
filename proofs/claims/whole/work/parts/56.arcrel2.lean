/-! ===== the class's arcs are made: the relation's loops ===== -/
/-- the first k bits of s -/
def rB (s k : Nat) : BitVec 64 := BitVec.ofNat 64 (s % 2 ^ k)
theorem rB_get {s k j : Nat} (hj : j < 64) : (rB s k).getLsbD j = (decide (j < k) && s.testBit j) := by
  unfold rB
  rw [BitVec.getLsbD_ofNat, decide_eq_true hj, Bool.true_and, Nat.testBit_mod_two_pow]
theorem rB_0 {s : Nat} : rB s 0 = 0#64 := by
  unfold rB
  rw [Nat.pow_zero, Nat.mod_one]
theorem rB_full {s N k : Nat} (h : s < 2 ^ N) (hk : N ≤ k) : rB s k = BitVec.ofNat 64 s := by
  unfold rB
  rw [Nat.mod_eq_of_lt (Nat.lt_of_lt_of_le h (Nat.pow_le_pow_right (by decide) hk))]
theorem rB_set {s k : Nat} (hk : k < 64) (h : s.testBit k = true) : rB s k ||| 1#64 <<< k = rB s (k + 1) := by
  apply BitVec.eq_of_getLsbD_eq
  intro j hj
  rw [BitVec.getLsbD_or, rB_get hj, rB_get hj, BitVec.getLsbD_shiftLeft, BitVec.getLsbD_one]
  by_cases e : j = k
  · subst e
    rw [decide_eq_true (Nat.lt_succ_self j), h, decide_eq_true hj]
    simp
  · by_cases h1 : j < k
    · rw [decide_eq_true h1, decide_eq_true (show j < k + 1 by omega)]; simp
    · rw [decide_eq_false h1, decide_eq_false (show ¬ j < k + 1 by omega), decide_eq_false (show ¬ j - k = 0 by omega)]; simp
theorem rB_non {s k : Nat} (h : s.testBit k = false) : rB s k = rB s (k + 1) := by
  apply BitVec.eq_of_getLsbD_eq
  intro j hj
  rw [rB_get hj, rB_get hj]
  by_cases e : j = k
  · subst e
    rw [h]; simp
  · by_cases h1 : j < k
    · rw [decide_eq_true h1, decide_eq_true (show j < k + 1 by omega)]
    · rw [decide_eq_false h1, decide_eq_false (show ¬ j < k + 1 by omega)]
def foS (n x y : Nat) : List (BitVec 64) := (List.range (NA n)).map (fun j => if j < x then FO n j else if j = x then rB (fo n x) y else 0#64)
def fgS (n x y : Nat) : List (BitVec 64) := (List.range (NA n)).map (fun j => rB (fg n j) (if j < y then x + 1 else x))
theorem foS_len {n x y : Nat} : (foS n x y).length = NA n := by unfold foS; rw [List.length_map, List.length_range]
theorem fgS_len {n x y : Nat} : (fgS n x y).length = NA n := by unfold fgS; rw [List.length_map, List.length_range]
theorem foS_get {n x y j : Nat} (h : j < NA n) : (foS n x y).getD j 0 = if j < x then FO n j else if j = x then rB (fo n x) y else 0#64 := by
  unfold foS
  rw [List.getD_eq_getElem?_getD, List.getElem?_map, List.getElem?_range h]
  rfl
theorem fgS_get {n x y j : Nat} (h : j < NA n) : (fgS n x y).getD j 0 = rB (fg n j) (if j < y then x + 1 else x) := by
  unfold fgS
  rw [List.getD_eq_getElem?_getD, List.getElem?_map, List.getElem?_range h]
  rfl
theorem list_extJ {l m : List (BitVec 64)} {N : Nat} (hl : l.length = N) (hm : m.length = N) (h : ∀ j, j < N → l.getD j 0 = m.getD j 0) : l = m := by
  apply List.ext_getElem?
  intro j
  by_cases hj : j < N
  · have := h j hj
    rw [List.getD_eq_getElem?_getD, List.getD_eq_getElem?_getD, List.getElem?_eq_getElem (by omega), List.getElem?_eq_getElem (by omega)] at this
    rw [List.getElem?_eq_getElem (by omega), List.getElem?_eq_getElem (by omega)]
    exact congrArg some this
  · rw [List.getElem?_eq_none (by omega), List.getElem?_eq_none (by omega)]
theorem foS_up {n x y : Nat} (hx : x < NA n) (hy : y < 64) (h : fr n x y = true) : (foS n x y).set x (rB (fo n x) y ||| 1#64 <<< y) = foS n x (y + 1) := by
  apply list_extJ (N := NA n) (by rw [List.length_set, foS_len]) foS_len
  intro j hj
  rw [getD_set (by rw [foS_len]; exact hx), foS_get hj, foS_get hj]
  by_cases e : x = j
  · subst e
    rw [if_pos rfl, if_neg (Nat.lt_irrefl _), if_pos rfl]
    exact rB_set hy h
  · rw [if_neg e]
    by_cases h1 : j < x
    · rw [if_pos h1, if_pos h1]
    · rw [if_neg h1, if_neg h1, if_neg (fun q => e q.symm), if_neg (fun q => e q.symm)]
theorem foS_no {n x y : Nat} (h : fr n x y = false) : foS n x y = foS n x (y + 1) := by
  unfold foS
  rw [show rB (fo n x) y = rB (fo n x) (y + 1) from rB_non h]
theorem fgS_up {n x y : Nat} (h1 : 1 ≤ n) (h6 : n ≤ 6) (hx : x < NA n) (hy : y < NA n) (h : fr n x y = true) : (fgS n x y).set y (rB (fg n y) x ||| 1#64 <<< x) = fgS n x (y + 1) := by
  have f1 := NA_le n
  apply list_extJ (N := NA n) (by rw [List.length_set, fgS_len]) fgS_len
  intro j hj
  rw [getD_set (by rw [fgS_len]; exact hy), fgS_get hj, fgS_get hj]
  by_cases e : y = j
  · subst e
    rw [if_pos rfl, if_pos (Nat.lt_succ_self y)]
    exact rB_set (by omega) (by rw [(fr_all h1 h6 hx hy).1]; exact h)
  · rw [if_neg e]
    by_cases h2 : j < y
    · rw [if_pos h2, if_pos (by omega)]
    · rw [if_neg h2, if_neg (by omega)]
theorem fgS_no {n x y : Nat} (h1 : 1 ≤ n) (h6 : n ≤ 6) (hx : x < NA n) (hy : y < NA n) (h : fr n x y = false) : fgS n x y = fgS n x (y + 1) := by
  apply list_extJ (N := NA n) fgS_len fgS_len
  intro j hj
  rw [fgS_get hj, fgS_get hj]
  by_cases e : y = j
  · subst e
    rw [if_neg (Nat.lt_irrefl _), if_pos (Nat.lt_succ_self y)]
    exact rB_non (by rw [(fr_all h1 h6 hx hy).1]; exact h)
  · by_cases h2 : j < y
    · rw [if_pos h2, if_pos (by omega)]
    · rw [if_neg h2, if_neg (by omega)]
theorem foS_row {n x : Nat} (h1 : 1 ≤ n) (h6 : n ≤ 6) (hx : x < NA n) : foS n x (NA n) = foS n (x + 1) 0 := by
  apply list_extJ (N := NA n) foS_len foS_len
  intro j hj
  rw [foS_get hj, foS_get hj]
  by_cases e : j < x
  · rw [if_pos e, if_pos (by omega)]
  · rw [if_neg e]
    by_cases e2 : j = x
    · subst e2
      rw [if_pos rfl, if_pos (Nat.lt_succ_self j)]
      exact rB_full (fr_hi h1 h6 hx).1 (Nat.le_refl _)
    · rw [if_neg e2, if_neg (by omega)]
      by_cases e3 : j = x + 1
      · rw [if_pos e3, rB_0]
      · rw [if_neg e3]
theorem fgS_row {n x : Nat} : fgS n x (NA n) = fgS n (x + 1) 0 := by
  apply list_extJ (N := NA n) fgS_len fgS_len
  intro j hj
  rw [fgS_get hj, fgS_get hj, if_pos hj, if_neg (Nat.not_lt_zero j)]
theorem foS_0 {n : Nat} : foS n 0 0 = List.replicate (NA n) 0#64 := by
  apply list_extJ (N := NA n) foS_len (by rw [List.length_replicate])
  intro j hj
  rw [foS_get hj, if_neg (Nat.not_lt_zero j), rB_0, List.getD_eq_getElem?_getD, List.getElem?_replicate, if_pos hj]
  split <;> rfl
theorem fgS_0 {n : Nat} : fgS n 0 0 = List.replicate (NA n) 0#64 := by
  apply list_extJ (N := NA n) fgS_len (by rw [List.length_replicate])
  intro j hj
  rw [fgS_get hj, if_neg (Nat.not_lt_zero j), rB_0, List.getD_eq_getElem?_getD, List.getElem?_replicate, if_pos hj]
  rfl
theorem foS_N {n : Nat} : foS n (NA n) 0 = tJ (fo n) (NA n) := by
  apply list_extJ (N := NA n) foS_len tJ_len
  intro j hj
  rw [foS_get hj, if_pos hj, tJ_get hj]; rfl
theorem fgS_N {n : Nat} (h1 : 1 ≤ n) (h6 : n ≤ 6) : fgS n (NA n) 0 = tJ (fg n) (NA n) := by
  apply list_extJ (N := NA n) fgS_len tJ_len
  intro j hj
  rw [fgS_get hj, if_neg (Nat.not_lt_zero j), tJ_get hj]
  exact rB_full (fr_hi h1 h6 hj).2 (Nat.le_refl _)
set_option maxHeartbeats 32000000 in
theorem ra_y (d : Nat) {a n x : Nat} (h1 : 1 ≤ n) (h6 : n ≤ 6) (hx : x < NA n) : ∀ (m y : Nat) (h : HP), y + m = NA n → RAP h a n (foS n x y) (fgS n x y) → ∃ h' y', RAP h' a n (foS n x (NA n)) (fgS n x (NA n)) ∧ Fr (a + 7) (a + 9) h h' ∧ ∀ R : PO, (AWh (d + 1) [] 10 R 8 [some (mR a), some (mI (x : Int)), some (mI (y : Int))] [] h (0, 0) ↔ AWk (d + 1) [] 10 R 39 (cd 10 39) [some (mR a), some (mI (x : Int)), some (mI y')] [] h' (0, 0)) := by
  have fN := NA_le n
  intro m
  induction m with
  | zero =>
    intro y h hm hR
    have e : y = NA n := by omega
    subst e
    refine ⟨h, ((NA n : Nat) : Int), hR, Fr_refl h, fun R => ?_⟩
    have a1 := hR.1.1
    rw [AWh_k, k_X1_relateArcs_8]
    simp only [AW_k, AWk_1, x_iload_2, x_aload_0, x_aloads_0, x_getf, x_icmp_ge, x_iload_1, x_callv_3, x_if_eq, x_dup2_ir, x_lald, x_push_i, x_push_l, x_lshl, x_lor, x_last, x_iinc_2, x_goto, unl_i, unl_l, unl_q, unl_r, unl_s, unl_n, k_X1_relateArcs_8, k_X1_relateArcs_9, k_X1_relateArcs_10, k_X1_relateArcs_11, k_X1_relateArcs_12, k_X1_relateArcs_13, k_X1_relateArcs_14, k_X1_relateArcs_15, k_X1_relateArcs_16, k_X1_relateArcs_17, k_X1_relateArcs_18, k_X1_relateArcs_19, k_X1_relateArcs_20, k_X1_relateArcs_21, k_X1_relateArcs_22, k_X1_relateArcs_23, k_X1_relateArcs_24, k_X1_relateArcs_25, k_X1_relateArcs_26, k_X1_relateArcs_27, k_X1_relateArcs_28, k_X1_relateArcs_29, k_X1_relateArcs_30, k_X1_relateArcs_31, k_X1_relateArcs_32, k_X1_relateArcs_33, k_X1_relateArcs_34, k_X1_relateArcs_35, k_X1_relateArcs_36, k_X1_relateArcs_37, k_X1_relateArcs_38, oE_some, Int.reduceToNat, Nat.reduceAdd, true_and, and_true, List.length_cons, List.length_nil, Option.toList_some, Option.toList_none, List.cons_append, List.nil_append, Nat.reduceLeDiff, Nat.le_refl, wdS_nil, wdS_i, wdS_l, wdS_r, wdS_n, wdS_s, a1]
    rw [if_neg (Int.lt_irrefl _)]
  | succ m ih =>
    intro y h hm hR
    have hy : y < NA n := by omega
    have by_ : y < 2147483648 := by omega
    have bx : x < 2147483648 := by omega
    have cy : (y : Int) < ((NA n : Nat) : Int) := by omega
    have x64 : x < 64 := by omega
    have y64 : y < 64 := by omega
    have cl := c1_lastsIn d h1 h6 hR hx hy
    cases hf : fr n x y
    · have e1 := foS_no hf
      have e2 := fgS_no h1 h6 hx hy hf
      obtain ⟨h', y', u1, u2, u3⟩ := ih (y + 1) h (by omega) (by rw [← e1, ← e2]; exact hR)
      refine ⟨h', y', u1, u2, fun R => ?_⟩
      have u3 := u3 R
      obtain ⟨⟨a1, a2, a3, a4, a5, a6⟩, b1, b2, b3, b4, b5⟩ := hR
      rw [AWh_k, k_X1_relateArcs_8]
      simp only [AW_k, AWk_1, x_iload_2, x_aload_0, x_aloads_0, x_getf, x_icmp_ge, x_iload_1, x_callv_3, x_if_eq, x_dup2_ir, x_lald, x_push_i, x_push_l, x_lshl, x_lor, x_last, x_iinc_2, x_goto, unl_i, unl_l, unl_q, unl_r, unl_s, unl_n, k_X1_relateArcs_8, k_X1_relateArcs_9, k_X1_relateArcs_10, k_X1_relateArcs_11, k_X1_relateArcs_12, k_X1_relateArcs_13, k_X1_relateArcs_14, k_X1_relateArcs_15, k_X1_relateArcs_16, k_X1_relateArcs_17, k_X1_relateArcs_18, k_X1_relateArcs_19, k_X1_relateArcs_20, k_X1_relateArcs_21, k_X1_relateArcs_22, k_X1_relateArcs_23, k_X1_relateArcs_24, k_X1_relateArcs_25, k_X1_relateArcs_26, k_X1_relateArcs_27, k_X1_relateArcs_28, k_X1_relateArcs_29, k_X1_relateArcs_30, k_X1_relateArcs_31, k_X1_relateArcs_32, k_X1_relateArcs_33, k_X1_relateArcs_34, k_X1_relateArcs_35, k_X1_relateArcs_36, k_X1_relateArcs_37, k_X1_relateArcs_38, oE_some, Int.reduceToNat, Nat.reduceAdd, true_and, and_true, List.length_cons, List.length_nil, Option.toList_some, Option.toList_none, List.cons_append, List.nil_append, Nat.reduceLeDiff, Nat.le_refl, wdS_nil, wdS_i, wdS_l, wdS_r, wdS_n, wdS_s, a1, gC_of a1, cl, hf, w32_zI_0, if_true]
      rw [w32_nat by_, w32_nat (NA_31 n), if_pos cy]
      exact u3
    · have s1 := RAP_7 (l := foS n x (y + 1)) hR
      have s2 := RAP_8 (l := fgS n x (y + 1)) s1
      have fr : Fr (a + 7) (a + 9) h (pJ (pJ h (a + 7) (foS n x (y + 1))) (a + 8) (fgS n x (y + 1))) := Fr_trans (Fr_pJ (by omega) (by omega)) (Fr_pJ (by omega) (by omega))
      obtain ⟨h', y', u1, u2, u3⟩ := ih (y + 1) _ (by omega) s2
      refine ⟨h', y', u1, Fr_trans fr u2, fun R => ?_⟩
      have u3 := u3 R
      have t1 := foS_up hx y64 hf
      have t2 := fgS_up h1 h6 hx hy hf
      have v1 : (foS n x y).getD x 0 = rB (fo n x) y := by rw [foS_get hx, if_neg (Nat.lt_irrefl _), if_pos rfl]
      have v2 : (fgS n x y).getD y 0 = rB (fg n y) x := by rw [fgS_get hy, if_neg (Nat.lt_irrefl _)]
      have j1 : x < (foS n x y).length := by rw [foS_len]; exact hx
      have j2 : y < (fgS n x y).length := by rw [fgS_len]; exact hy
      have L1 : (foS n x y).length < 2147483648 := by rw [foS_len]; exact NA_31 n
      have L2 : (fgS n x y).length < 2147483648 := by rw [fgS_len]; exact NA_31 n
      obtain ⟨⟨a1, a2, a3, a4, a5, a6⟩, b1, b2, b3, b4, b5⟩ := hR
      rw [AWh_k, k_X1_relateArcs_8]
      simp only [AW_k, AWk_1, x_iload_2, x_aload_0, x_aloads_0, x_getf, x_icmp_ge, x_iload_1, x_callv_3, x_if_eq, x_dup2_ir, x_lald, x_push_i, x_push_l, x_lshl, x_lor, x_last, x_iinc_2, x_goto, unl_i, unl_l, unl_q, unl_r, unl_s, unl_n, k_X1_relateArcs_8, k_X1_relateArcs_9, k_X1_relateArcs_10, k_X1_relateArcs_11, k_X1_relateArcs_12, k_X1_relateArcs_13, k_X1_relateArcs_14, k_X1_relateArcs_15, k_X1_relateArcs_16, k_X1_relateArcs_17, k_X1_relateArcs_18, k_X1_relateArcs_19, k_X1_relateArcs_20, k_X1_relateArcs_21, k_X1_relateArcs_22, k_X1_relateArcs_23, k_X1_relateArcs_24, k_X1_relateArcs_25, k_X1_relateArcs_26, k_X1_relateArcs_27, k_X1_relateArcs_28, k_X1_relateArcs_29, k_X1_relateArcs_30, k_X1_relateArcs_31, k_X1_relateArcs_32, k_X1_relateArcs_33, k_X1_relateArcs_34, k_X1_relateArcs_35, k_X1_relateArcs_36, k_X1_relateArcs_37, k_X1_relateArcs_38, oE_some, Int.reduceToNat, Nat.reduceAdd, true_and, and_true, List.length_cons, List.length_nil, Option.toList_some, Option.toList_none, List.cons_append, List.nil_append, Nat.reduceLeDiff, Nat.le_refl, wdS_nil, wdS_i, wdS_l, wdS_r, wdS_n, wdS_s, a1, gC_of a1, cl, hf, w32_zI_0, Bool.true_eq_false, if_false, a5, b4, inB_n j1 L1, w32_tn bx, v1, sh_k y64, t1, s1.1.2.2.2.2.2, s1.2.2.2.2.2, inB_n j2 L2, w32_tn by_, v2, sh_k x64, t2]
      rw [w32_nat by_, w32_nat (NA_31 n), if_pos cy]
      exact u3
set_option maxHeartbeats 32000000 in
theorem c1_relateArcs (d : Nat) {a n : Nat} {h : HP} (h1 : 1 ≤ n) (h6 : n ≤ 6) (hR : RAP h a n (List.replicate (NA n) 0#64) (List.replicate (NA n) 0#64)) : ∃ h', RAP h' a n (tJ (fo n) (NA n)) (tJ (fg n) (NA n)) ∧ Fr (a + 7) (a + 9) h h' ∧ ∀ R : PO, callD (d + 2) 10 [mR a] h R ↔ R none h' := by
  have fN := NA_le n
  have key : ∀ (m x : Nat) (h : HP) (y2 : Option AV), x + m = NA n → RAP h a n (foS n x 0) (fgS n x 0) → ∃ h', RAP h' a n (tJ (fo n) (NA n)) (tJ (fg n) (NA n)) ∧ Fr (a + 7) (a + 9) h h' ∧ ∀ R : PO, (AWh (d + 1) [] 10 R 2 [some (mR a), some (mI (x : Int)), y2] [] h (0, 0) ↔ R none h') := by
    intro m
    induction m with
    | zero =>
      intro x h y2 hm hR
      have e : x = NA n := by omega
      subst e
      rw [foS_N, fgS_N h1 h6] at hR
      refine ⟨h, hR, Fr_refl h, fun R => ?_⟩
      have a1 := hR.1.1
      rw [AWh_k, k_X1_relateArcs_2]
      simp only [AW_k, AWk_1, x_iload_1, x_aload_0, x_aloads_0, x_getf, x_icmp_ge, x_push_i, x_push_l, x_istore_2, unl_i, unl_l, unl_q, unl_r, unl_s, unl_n, k_X1_relateArcs_2, k_X1_relateArcs_3, k_X1_relateArcs_4, k_X1_relateArcs_5, k_X1_relateArcs_6, k_X1_relateArcs_7, oE_some, Int.reduceToNat, Nat.reduceAdd, true_and, and_true, List.length_cons, List.length_nil, Option.toList_some, Option.toList_none, List.cons_append, List.nil_append, Nat.reduceLeDiff, Nat.le_refl, wdS_nil, wdS_i, wdS_l, wdS_r, wdS_n, wdS_s, a1]
      rw [if_neg (Int.lt_irrefl _)]
      simp only [AW_k, AWk_1, x_ret, x_ret_i, x_ret_z, x_ret_l, x_ret_c, k_X1_relateArcs_41, oE_some, Int.reduceToNat, Nat.reduceAdd, true_and, and_true, List.length_cons, List.length_nil, Option.toList_some, Option.toList_none, List.cons_append, List.nil_append, Nat.reduceLeDiff, Nat.le_refl, wdS_nil, wdS_i, wdS_l, wdS_r, wdS_n, wdS_s]
    | succ m ih =>
      intro x h y2 hm hR
      have hx : x < NA n := by omega
      have bx : x < 2147483648 := by omega
      have cx : (x : Int) < ((NA n : Nat) : Int) := by omega
      obtain ⟨h2, y', u1, u2, u3⟩ := ra_y d h1 h6 hx (NA n) 0 h (by omega) hR
      rw [foS_row h1 h6 hx, fgS_row] at u1
      obtain ⟨h', v1, v2, v3⟩ := ih (x + 1) h2 (some (mI y')) (by omega) u1
      refine ⟨h', v1, Fr_trans u2 v2, fun R => ?_⟩
      have v3 := v3 R
      have u3 := u3 R
      have a1 := hR.1.1
      rw [AWh_k, k_X1_relateArcs_2]
      simp only [AW_k, AWk_1, x_iload_1, x_aload_0, x_aloads_0, x_getf, x_icmp_ge, x_push_i, x_push_l, x_istore_2, unl_i, unl_l, unl_q, unl_r, unl_s, unl_n, k_X1_relateArcs_2, k_X1_relateArcs_3, k_X1_relateArcs_4, k_X1_relateArcs_5, k_X1_relateArcs_6, k_X1_relateArcs_7, oE_some, Int.reduceToNat, Nat.reduceAdd, true_and, and_true, List.length_cons, List.length_nil, Option.toList_some, Option.toList_none, List.cons_append, List.nil_append, Nat.reduceLeDiff, Nat.le_refl, wdS_nil, wdS_i, wdS_l, wdS_r, wdS_n, wdS_s, a1]
      rw [w32_nat bx, w32_nat (NA_31 n), if_pos cx]
      refine Iff.trans u3 ?_
      simp only [AW_k, AWk_1, x_iinc_1, x_goto, unl_i, unl_l, unl_q, unl_r, unl_s, unl_n, k_X1_relateArcs_39, k_X1_relateArcs_40, oE_some, Int.reduceToNat, Nat.reduceAdd, true_and, and_true, List.length_cons, List.length_nil, Option.toList_some, Option.toList_none, List.cons_append, List.nil_append, Nat.reduceLeDiff, Nat.le_refl, wdS_nil, wdS_i, wdS_l, wdS_r, wdS_n, wdS_s]
      exact v3
  obtain ⟨h', v1, v2, v3⟩ := key (NA n) 0 h none (by omega) (by rw [foS_0, fgS_0]; exact hR)
  refine ⟨h', v1, v2, fun R => ?_⟩
  rw [callD_k]; simp only [entL_i, entL_l, entL_q, entL_s, entL_nil, n_X1_relateArcs, u_X1_relateArcs, m_X1_relateArcs, rep_2, List.cons_append, List.nil_append, List.append_nil, List.length_cons, List.length_nil, Nat.reduceAdd, true_and]
  simp only [AW_k, AWk_1, x_push_i, x_push_l, x_istore_1, unl_i, unl_l, unl_q, unl_r, unl_s, unl_n, k_X1_relateArcs_0, k_X1_relateArcs_1, oE_some, Int.reduceToNat, Nat.reduceAdd, true_and, and_true, List.length_cons, List.length_nil, Option.toList_some, Option.toList_none, List.cons_append, List.nil_append, Nat.reduceLeDiff, Nat.le_refl, wdS_nil, wdS_i, wdS_l, wdS_r, wdS_n, wdS_s]
  exact v3 R
