/-! ===== the class's rows: the rest of what only reads ===== -/
/-- the sum of f below n -/
def sumF (f : Nat → Int) : Nat → Int
  | 0 => 0
  | n + 1 => sumF f n + f n
theorem sumF_succ (f : Nat → Int) (n : Nat) : sumF f (n + 1) = sumF f n + f n := rfl
set_option maxHeartbeats 8000000 in
theorem c4_howManyRightUnder (d : Nat) {hp : HP} {ra n : Nat} {G : BitVec 64} (h : RWS hp ra n) (R : PO) : callD (d + 2) 55 [mR ra, mL G] hp R ↔ R (some (mI (sumF (fun i => if isL n G i = true then popN (dr n i) else 0) (FC n)))) hp := by
  have f1 := FC_le n
  rw [callD_k]; simp only [entL_i, entL_l, entL_q, entL_s, entL_nil, n_X4_howManyRightUnder, u_X4_howManyRightUnder, m_X4_howManyRightUnder, rep_2, List.cons_append, List.nil_append, List.append_nil, List.length_cons, List.length_nil, Nat.reduceAdd, true_and]
  simp only [AW_k, AWk_1, x_push_i, x_push_l, x_istore_3, x_istore_4, x_iload_4, x_aload_0, x_aloads_0, x_getf, x_icmp_ge, x_iload_3, x_lload_1, x_callv_3, x_if_eq, x_iald, x_ialds, x_call_1, x_goto, x_iadd, x_iinc_4, x_ret, x_ret_i, x_ret_z, x_ret_l, x_ret_c, unl_i, unl_l, unl_q, unl_r, unl_s, unl_n, k_X4_howManyRightUnder_0, k_X4_howManyRightUnder_1, k_X4_howManyRightUnder_2, k_X4_howManyRightUnder_3, k_X4_howManyRightUnder_4, k_X4_howManyRightUnder_5, k_X4_howManyRightUnder_6, k_X4_howManyRightUnder_7, k_X4_howManyRightUnder_8, k_X4_howManyRightUnder_9, k_X4_howManyRightUnder_10, k_X4_howManyRightUnder_11, k_X4_howManyRightUnder_12, k_X4_howManyRightUnder_13, k_X4_howManyRightUnder_14, k_X4_howManyRightUnder_15, k_X4_howManyRightUnder_16, k_X4_howManyRightUnder_17, k_X4_howManyRightUnder_18, k_X4_howManyRightUnder_19, k_X4_howManyRightUnder_20, k_X4_howManyRightUnder_21, k_X4_howManyRightUnder_22, k_X4_howManyRightUnder_23, k_X4_howManyRightUnder_24, k_X4_howManyRightUnder_25, k_X4_howManyRightUnder_26, oE_some, Int.reduceToNat, Nat.reduceAdd, true_and, and_true, List.length_cons, List.length_nil, Option.toList_some, Option.toList_none, List.cons_append, List.nil_append, Nat.reduceLeDiff, Nat.le_refl, wdS_nil, wdS_i, wdS_l, wdS_r, wdS_n, wdS_s]
  refine (loop_to (P := fun i => AWh (d + 1) [] 55 R 4 [some (mR ra), some (mL G), none, some (mI (sumF (fun i => if isL n G i = true then popN (dr n i) else 0) i)), some (mI (i : Int))] [] hp (0, 0)) (a := 0) (b := FC n) (by omega) ?_).trans ?_
  · intro i _ hi
    have b1 := dr_31 n i
    rw [AWh_k, k_X4_howManyRightUnder_4]
    simp only [AW_k, AWk_1, x_push_i, x_push_l, x_istore_3, x_istore_4, x_iload_4, x_aload_0, x_aloads_0, x_getf, x_icmp_ge, x_iload_3, x_lload_1, x_callv_3, x_if_eq, x_iald, x_ialds, x_call_1, x_goto, x_iadd, x_iinc_4, x_ret, x_ret_i, x_ret_z, x_ret_l, x_ret_c, unl_i, unl_l, unl_q, unl_r, unl_s, unl_n, k_X4_howManyRightUnder_0, k_X4_howManyRightUnder_1, k_X4_howManyRightUnder_2, k_X4_howManyRightUnder_3, k_X4_howManyRightUnder_4, k_X4_howManyRightUnder_5, k_X4_howManyRightUnder_6, k_X4_howManyRightUnder_7, k_X4_howManyRightUnder_8, k_X4_howManyRightUnder_9, k_X4_howManyRightUnder_10, k_X4_howManyRightUnder_11, k_X4_howManyRightUnder_12, k_X4_howManyRightUnder_13, k_X4_howManyRightUnder_14, k_X4_howManyRightUnder_15, k_X4_howManyRightUnder_16, k_X4_howManyRightUnder_17, k_X4_howManyRightUnder_18, k_X4_howManyRightUnder_19, k_X4_howManyRightUnder_20, k_X4_howManyRightUnder_21, k_X4_howManyRightUnder_22, k_X4_howManyRightUnder_23, k_X4_howManyRightUnder_24, k_X4_howManyRightUnder_25, k_X4_howManyRightUnder_26, oE_some, Int.reduceToNat, Nat.reduceAdd, true_and, and_true, List.length_cons, List.length_nil, Option.toList_some, Option.toList_none, List.cons_append, List.nil_append, Nat.reduceLeDiff, Nat.le_refl, wdS_nil, wdS_i, wdS_l, wdS_r, wdS_n, wdS_s, rw_count h, rC0 h, c4_isLeast d h hi, w32_zI_0, ite_bf, rw_drops h, rA_12 h, bI rfl hi (FC_31 n), gI rfl hi (FC_31 n), c_bits6 d (show dr n i < 2147483648 by omega)]
    rw [w32_nat (show i < 2147483648 by omega), w32_nat (FC_31 n), if_pos (by omega)]
    simp only [sumF_succ]
    cases isL n G i <;> exact Iff.rfl
  · rw [AWh_k, k_X4_howManyRightUnder_4]
    simp only [AW_k, AWk_1, x_push_i, x_push_l, x_istore_3, x_istore_4, x_iload_4, x_aload_0, x_aloads_0, x_getf, x_icmp_ge, x_iload_3, x_lload_1, x_callv_3, x_if_eq, x_iald, x_ialds, x_call_1, x_goto, x_iadd, x_iinc_4, x_ret, x_ret_i, x_ret_z, x_ret_l, x_ret_c, unl_i, unl_l, unl_q, unl_r, unl_s, unl_n, k_X4_howManyRightUnder_0, k_X4_howManyRightUnder_1, k_X4_howManyRightUnder_2, k_X4_howManyRightUnder_3, k_X4_howManyRightUnder_4, k_X4_howManyRightUnder_5, k_X4_howManyRightUnder_6, k_X4_howManyRightUnder_7, k_X4_howManyRightUnder_8, k_X4_howManyRightUnder_9, k_X4_howManyRightUnder_10, k_X4_howManyRightUnder_11, k_X4_howManyRightUnder_12, k_X4_howManyRightUnder_13, k_X4_howManyRightUnder_14, k_X4_howManyRightUnder_15, k_X4_howManyRightUnder_16, k_X4_howManyRightUnder_17, k_X4_howManyRightUnder_18, k_X4_howManyRightUnder_19, k_X4_howManyRightUnder_20, k_X4_howManyRightUnder_21, k_X4_howManyRightUnder_22, k_X4_howManyRightUnder_23, k_X4_howManyRightUnder_24, k_X4_howManyRightUnder_25, k_X4_howManyRightUnder_26, oE_some, Int.reduceToNat, Nat.reduceAdd, true_and, and_true, List.length_cons, List.length_nil, Option.toList_some, Option.toList_none, List.cons_append, List.nil_append, Nat.reduceLeDiff, Nat.le_refl, wdS_nil, wdS_i, wdS_l, wdS_r, wdS_n, wdS_s, rw_count h]
    rw [if_neg (Int.lt_irrefl _)]
def trn (n i : Nat) : Nat → Nat
  | 0 => 0
  | k + 1 => trn n i k * 10 + dg n (num n i) (n - 1 - k)
set_option maxHeartbeats 8000000 in
theorem c4_turnedRound (d : Nat) {hp : HP} {ra n i : Nat} (h : RWS hp ra n) (hi : i < FC n) (R : PO) : callD (d + 2) 37 [mR ra, mI (i : Int)] hp R ↔ R (some (mI (trn n i n : Int))) hp := by
  have h6 := rw_6 h
  have h1 := rw_1 h
  rw [callD_k]; simp only [entL_i, entL_l, entL_q, entL_s, entL_nil, n_X4_turnedRound, u_X4_turnedRound, m_X4_turnedRound, rep_2, List.cons_append, List.nil_append, List.append_nil, List.length_cons, List.length_nil, Nat.reduceAdd, true_and]
  simp only [AW_k, AWk_1, x_push_i, x_push_l, x_istore_2, x_aload_0, x_aloads_0, x_getf, x_isub, x_istore_3, x_iload_3, x_if_lt, x_iload_2, x_imul, x_iload_1, x_callv_3, x_iadd, x_iinc_3, x_goto, x_ret, x_ret_i, x_ret_z, x_ret_l, x_ret_c, unl_i, unl_l, unl_q, unl_r, unl_s, unl_n, k_X4_turnedRound_0, k_X4_turnedRound_1, k_X4_turnedRound_2, k_X4_turnedRound_3, k_X4_turnedRound_4, k_X4_turnedRound_5, k_X4_turnedRound_6, k_X4_turnedRound_7, k_X4_turnedRound_8, k_X4_turnedRound_9, k_X4_turnedRound_10, k_X4_turnedRound_11, k_X4_turnedRound_12, k_X4_turnedRound_13, k_X4_turnedRound_14, k_X4_turnedRound_15, k_X4_turnedRound_16, k_X4_turnedRound_17, k_X4_turnedRound_18, k_X4_turnedRound_19, k_X4_turnedRound_20, k_X4_turnedRound_21, oE_some, Int.reduceToNat, Nat.reduceAdd, true_and, and_true, List.length_cons, List.length_nil, Option.toList_some, Option.toList_none, List.cons_append, List.nil_append, Nat.reduceLeDiff, Nat.le_refl, wdS_nil, wdS_i, wdS_l, wdS_r, wdS_n, wdS_s, rw_n h]
  refine Iff.trans ?_ ((loop_to (P := fun k => AWh (d + 1) [] 37 R 7 [some (mR ra), some (mI (i : Int)), some (mI (trn n i k : Int)), some (mI ((n : Int) - 1 - (k : Int)))] [] hp (0, 0)) (a := 0) (b := n) (by omega) ?_).trans ?_)
  · rw [show (n : Int) - 1 - ((0 : Nat) : Int) = (n : Int) - 1 by omega]
    exact Iff.rfl
  · intro k _ hk
    have e : (n : Int) - 1 - (k : Int) = ((n - 1 - k : Nat) : Int) := by omega
    have e2 : (n : Int) - 1 - ((k + 1 : Nat) : Int) = ((n - 1 - k : Nat) : Int) + -1 := by omega
    rw [e, e2]
    rw [AWh_k, k_X4_turnedRound_7]
    simp only [AW_k, AWk_1, x_push_i, x_push_l, x_istore_2, x_aload_0, x_aloads_0, x_getf, x_isub, x_istore_3, x_iload_3, x_if_lt, x_iload_2, x_imul, x_iload_1, x_callv_3, x_iadd, x_iinc_3, x_goto, x_ret, x_ret_i, x_ret_z, x_ret_l, x_ret_c, unl_i, unl_l, unl_q, unl_r, unl_s, unl_n, k_X4_turnedRound_0, k_X4_turnedRound_1, k_X4_turnedRound_2, k_X4_turnedRound_3, k_X4_turnedRound_4, k_X4_turnedRound_5, k_X4_turnedRound_6, k_X4_turnedRound_7, k_X4_turnedRound_8, k_X4_turnedRound_9, k_X4_turnedRound_10, k_X4_turnedRound_11, k_X4_turnedRound_12, k_X4_turnedRound_13, k_X4_turnedRound_14, k_X4_turnedRound_15, k_X4_turnedRound_16, k_X4_turnedRound_17, k_X4_turnedRound_18, k_X4_turnedRound_19, k_X4_turnedRound_20, k_X4_turnedRound_21, oE_some, Int.reduceToNat, Nat.reduceAdd, true_and, and_true, List.length_cons, List.length_nil, Option.toList_some, Option.toList_none, List.cons_append, List.nil_append, Nat.reduceLeDiff, Nat.le_refl, wdS_nil, wdS_i, wdS_l, wdS_r, wdS_n, wdS_s, rC0 h, c4_valueAt d h hi (show n - 1 - k < n by omega)]
    rw [if_neg (by rw [w32_nat (by omega)]; omega)]
    have e3 : (trn n i k : Int) * 10 + (dg n (num n i) (n - 1 - k) : Int) = (trn n i (k + 1) : Int) := by
      show _ = ((trn n i k * 10 + dg n (num n i) (n - 1 - k) : Nat) : Int)
      omega
    rw [e3]
  · rw [AWh_k, k_X4_turnedRound_7]
    simp only [AW_k, AWk_1, x_push_i, x_push_l, x_istore_2, x_aload_0, x_aloads_0, x_getf, x_isub, x_istore_3, x_iload_3, x_if_lt, x_iload_2, x_imul, x_iload_1, x_callv_3, x_iadd, x_iinc_3, x_goto, x_ret, x_ret_i, x_ret_z, x_ret_l, x_ret_c, unl_i, unl_l, unl_q, unl_r, unl_s, unl_n, k_X4_turnedRound_0, k_X4_turnedRound_1, k_X4_turnedRound_2, k_X4_turnedRound_3, k_X4_turnedRound_4, k_X4_turnedRound_5, k_X4_turnedRound_6, k_X4_turnedRound_7, k_X4_turnedRound_8, k_X4_turnedRound_9, k_X4_turnedRound_10, k_X4_turnedRound_11, k_X4_turnedRound_12, k_X4_turnedRound_13, k_X4_turnedRound_14, k_X4_turnedRound_15, k_X4_turnedRound_16, k_X4_turnedRound_17, k_X4_turnedRound_18, k_X4_turnedRound_19, k_X4_turnedRound_20, k_X4_turnedRound_21, oE_some, Int.reduceToNat, Nat.reduceAdd, true_and, and_true, List.length_cons, List.length_nil, Option.toList_some, Option.toList_none, List.cons_append, List.nil_append, Nat.reduceLeDiff, Nat.le_refl, wdS_nil, wdS_i, wdS_l, wdS_r, wdS_n, wdS_s]
    rw [if_pos (by rw [w32_id (by omega) (by omega)]; omega)]
def plc (n i v : Nat) : Nat := match fst (fun p => decide (dg n (num n i) p = v)) (n - 1) 0 with
  | some p => p
  | none => n - 1
set_option maxHeartbeats 8000000 in
theorem c4_placeOf (d : Nat) {hp : HP} {ra n i v : Nat} (h : RWS hp ra n) (hi : i < FC n) (hv : v < 2147483648) (R : PO) : callD (d + 2) 42 [mR ra, mI (i : Int), mI (v : Int)] hp R ↔ R (some (mI (plc n i v : Int))) hp := by
  have h6 := rw_6 h
  rw [callD_k]; simp only [entL_i, entL_l, entL_q, entL_s, entL_nil, n_X4_placeOf, u_X4_placeOf, m_X4_placeOf, rep_1, List.cons_append, List.nil_append, List.append_nil, List.length_cons, List.length_nil, Nat.reduceAdd, true_and]
  simp only [AW_k, AWk_1, x_push_i, x_push_l, x_istore_3, x_iload_3, x_aload_0, x_aloads_0, x_getf, x_icmp_ge, x_iload_1, x_callv_3, x_iload_2, x_icmp_ne, x_ret, x_ret_i, x_ret_z, x_ret_l, x_ret_c, x_iinc_3, x_goto, unl_i, unl_l, unl_q, unl_r, unl_s, unl_n, k_X4_placeOf_0, k_X4_placeOf_1, k_X4_placeOf_2, k_X4_placeOf_3, k_X4_placeOf_4, k_X4_placeOf_5, k_X4_placeOf_6, k_X4_placeOf_7, k_X4_placeOf_8, k_X4_placeOf_9, k_X4_placeOf_10, k_X4_placeOf_11, k_X4_placeOf_12, k_X4_placeOf_13, k_X4_placeOf_14, k_X4_placeOf_15, k_X4_placeOf_16, k_X4_placeOf_17, k_X4_placeOf_18, oE_some, Int.reduceToNat, Nat.reduceAdd, true_and, and_true, List.length_cons, List.length_nil, Option.toList_some, Option.toList_none, List.cons_append, List.nil_append, Nat.reduceLeDiff, Nat.le_refl, wdS_nil, wdS_i, wdS_l, wdS_r, wdS_n, wdS_s]
  refine (loop_fst (P := fun p => AWh (d + 1) [] 42 R 2 [some (mR ra), some (mI (i : Int)), some (mI (v : Int)), some (mI (p : Int))] [] hp (0, 0)) (E := fun u => R (some (mI (u : Int))) hp) (f := fun p => decide (dg n (num n i) p = v)) (N := n - 1) ?_ (n := n - 1) (a := 0) (by omega)).trans ?_
  · intro p hp1
    have b1 := dg_lt n (num n i) p
    rw [AWh_k, k_X4_placeOf_2]
    simp only [AW_k, AWk_1, x_push_i, x_push_l, x_istore_3, x_iload_3, x_aload_0, x_aloads_0, x_getf, x_icmp_ge, x_iload_1, x_callv_3, x_iload_2, x_icmp_ne, x_ret, x_ret_i, x_ret_z, x_ret_l, x_ret_c, x_iinc_3, x_goto, unl_i, unl_l, unl_q, unl_r, unl_s, unl_n, k_X4_placeOf_0, k_X4_placeOf_1, k_X4_placeOf_2, k_X4_placeOf_3, k_X4_placeOf_4, k_X4_placeOf_5, k_X4_placeOf_6, k_X4_placeOf_7, k_X4_placeOf_8, k_X4_placeOf_9, k_X4_placeOf_10, k_X4_placeOf_11, k_X4_placeOf_12, k_X4_placeOf_13, k_X4_placeOf_14, k_X4_placeOf_15, k_X4_placeOf_16, k_X4_placeOf_17, k_X4_placeOf_18, oE_some, Int.reduceToNat, Nat.reduceAdd, true_and, and_true, List.length_cons, List.length_nil, Option.toList_some, Option.toList_none, List.cons_append, List.nil_append, Nat.reduceLeDiff, Nat.le_refl, wdS_nil, wdS_i, wdS_l, wdS_r, wdS_n, wdS_s, rw_gaps h, rC0 h, c4_valueAt d h hi (show p < n by omega)]
    rw [w32_nat (show p < 2147483648 by omega), w32_nat (show n - 1 < 2147483648 by omega), if_pos (by omega), w32_nat (show dg n (num n i) p < 2147483648 by omega), w32_nat hv]
    by_cases e : dg n (num n i) p = v
    · rw [if_pos (by omega), if_pos (decide_eq_true e)]
    · rw [if_neg (by omega), if_neg (by rw [decide_eq_false e]; decide)]; exact Iff.rfl
  · unfold plc
    split
    · next p e => rw [e]
    · next e =>
      rw [e]
      rw [AWh_k, k_X4_placeOf_2]
      simp only [AW_k, AWk_1, x_push_i, x_push_l, x_istore_3, x_iload_3, x_aload_0, x_aloads_0, x_getf, x_icmp_ge, x_iload_1, x_callv_3, x_iload_2, x_icmp_ne, x_ret, x_ret_i, x_ret_z, x_ret_l, x_ret_c, x_iinc_3, x_goto, unl_i, unl_l, unl_q, unl_r, unl_s, unl_n, k_X4_placeOf_0, k_X4_placeOf_1, k_X4_placeOf_2, k_X4_placeOf_3, k_X4_placeOf_4, k_X4_placeOf_5, k_X4_placeOf_6, k_X4_placeOf_7, k_X4_placeOf_8, k_X4_placeOf_9, k_X4_placeOf_10, k_X4_placeOf_11, k_X4_placeOf_12, k_X4_placeOf_13, k_X4_placeOf_14, k_X4_placeOf_15, k_X4_placeOf_16, k_X4_placeOf_17, k_X4_placeOf_18, oE_some, Int.reduceToNat, Nat.reduceAdd, true_and, and_true, List.length_cons, List.length_nil, Option.toList_some, Option.toList_none, List.cons_append, List.nil_append, Nat.reduceLeDiff, Nat.le_refl, wdS_nil, wdS_i, wdS_l, wdS_r, wdS_n, wdS_s, rw_gaps h]
      rw [if_neg (Int.lt_irrefl _)]
/-- one to the right, one to the left -/
def psR (n i p : Nat) : Option Nat := if (decide (p < n - 1) && dn n i p) = true then some (bs n i p) else none
def psL (n i p : Nat) : Option Nat := if (decide (1 ≤ p) && !dn n i (p - 1)) = true then some (bs n i (p - 1)) else none
theorem psR_ok {n i p q : Nat} (h1 : 1 ≤ n) (h6 : n ≤ 6) (hi : i < FC n) (h : psR n i p = some q) : q < FC n ∧ p + 1 < n := by
  unfold psR at h
  split at h
  · next e =>
    rw [Bool.and_eq_true, decide_eq_true_eq] at e
    cases h
    exact ⟨bs_ok h1 h6 hi e.1, by omega⟩
  · cases h
theorem psL_ok {n i p q : Nat} (h1 : 1 ≤ n) (h6 : n ≤ 6) (hi : i < FC n) (hp : p < n) (h : psL n i p = some q) : q < FC n ∧ 1 ≤ p := by
  unfold psL at h
  split at h
  · next e =>
    rw [Bool.and_eq_true, decide_eq_true_eq] at e
    cases h
    exact ⟨bs_ok h1 h6 hi (by omega), e.1⟩
  · cases h
set_option maxHeartbeats 8000000 in
theorem c4_passedR (d : Nat) {hp : HP} {ra n i p : Nat} (h : RWS hp ra n) (hi : i < FC n) (hp1 : p < n) (R : PO) : callD (d + 2) 44 [mR ra, mI (i : Int), mI (p : Int), mI 1] hp R ↔ R (some (mI (oI (psR n i p)))) hp := by
  have h1 := rw_1 h
  have h6 := rw_6 h
  unfold psR
  by_cases hg : p < n - 1
  · rw [callD_k]; simp only [entL_i, entL_l, entL_q, entL_s, entL_nil, n_X4_passed, u_X4_passed, m_X4_passed, rep_1, List.cons_append, List.nil_append, List.append_nil, List.length_cons, List.length_nil, Nat.reduceAdd, true_and]
    simp only [AW_k, AWk_1, x_iload_3, x_if_ge, x_iload_2, x_push_i, x_push_l, x_isub, x_goto, x_istore_4, x_iload_4, x_if_lt, x_aload_0, x_aloads_0, x_getf, x_icmp_ge, x_iload_1, x_callv_3, x_if_le, x_icmp_eq, x_ret, x_ret_i, x_ret_z, x_ret_l, x_ret_c, x_imul, x_iadd, x_iald, x_ialds, unl_i, unl_l, unl_q, unl_r, unl_s, unl_n, k_X4_passed_0, k_X4_passed_1, k_X4_passed_2, k_X4_passed_3, k_X4_passed_4, k_X4_passed_5, k_X4_passed_6, k_X4_passed_7, k_X4_passed_8, k_X4_passed_9, k_X4_passed_10, k_X4_passed_11, k_X4_passed_12, k_X4_passed_13, k_X4_passed_14, k_X4_passed_15, k_X4_passed_16, k_X4_passed_17, k_X4_passed_18, k_X4_passed_19, k_X4_passed_20, k_X4_passed_21, k_X4_passed_22, k_X4_passed_23, k_X4_passed_24, k_X4_passed_25, k_X4_passed_26, k_X4_passed_27, k_X4_passed_28, k_X4_passed_29, k_X4_passed_30, k_X4_passed_31, k_X4_passed_32, k_X4_passed_33, k_X4_passed_34, k_X4_passed_35, oE_some, Int.reduceToNat, Nat.reduceAdd, true_and, and_true, List.length_cons, List.length_nil, Option.toList_some, Option.toList_none, List.cons_append, List.nil_append, Nat.reduceLeDiff, Nat.le_refl, wdS_nil, wdS_i, wdS_l, wdS_r, wdS_n, wdS_s, rw_gaps h, rC0 h, c4_isDrop d h hi (show p < 32 by omega), rw_beside h, rA_15 h, gp_in h1 h6 hi hg, bs_get h1 h6 hi hg, show w32 1 = 1 from rfl]
    rw [w32_nat (show p < 2147483648 by omega), w32_nat (show n - 1 < 2147483648 by omega), w32_zI, if_neg (show ¬ (1 : Int) < 0 by decide), if_neg (show ¬ (p : Int) < 0 by omega), if_pos (show (p : Int) < ((n - 1 : Nat) : Int) by omega), if_pos (show (0 : Int) < 1 by decide), decide_eq_true hg, Bool.true_and]
    cases dn n i p <;> exact Iff.rfl
  · rw [callD_k]; simp only [entL_i, entL_l, entL_q, entL_s, entL_nil, n_X4_passed, u_X4_passed, m_X4_passed, rep_1, List.cons_append, List.nil_append, List.append_nil, List.length_cons, List.length_nil, Nat.reduceAdd, true_and]
    simp only [AW_k, AWk_1, x_iload_3, x_if_ge, x_iload_2, x_push_i, x_push_l, x_isub, x_goto, x_istore_4, x_iload_4, x_if_lt, x_aload_0, x_aloads_0, x_getf, x_icmp_ge, x_iload_1, x_callv_3, x_if_le, x_icmp_eq, x_ret, x_ret_i, x_ret_z, x_ret_l, x_ret_c, x_imul, x_iadd, x_iald, x_ialds, unl_i, unl_l, unl_q, unl_r, unl_s, unl_n, k_X4_passed_0, k_X4_passed_1, k_X4_passed_2, k_X4_passed_3, k_X4_passed_4, k_X4_passed_5, k_X4_passed_6, k_X4_passed_7, k_X4_passed_8, k_X4_passed_9, k_X4_passed_10, k_X4_passed_11, k_X4_passed_12, k_X4_passed_13, k_X4_passed_14, k_X4_passed_15, k_X4_passed_16, k_X4_passed_17, k_X4_passed_18, k_X4_passed_19, k_X4_passed_20, k_X4_passed_21, k_X4_passed_22, k_X4_passed_23, k_X4_passed_24, k_X4_passed_25, k_X4_passed_26, k_X4_passed_27, k_X4_passed_28, k_X4_passed_29, k_X4_passed_30, k_X4_passed_31, k_X4_passed_32, k_X4_passed_33, k_X4_passed_34, k_X4_passed_35, oE_some, Int.reduceToNat, Nat.reduceAdd, true_and, and_true, List.length_cons, List.length_nil, Option.toList_some, Option.toList_none, List.cons_append, List.nil_append, Nat.reduceLeDiff, Nat.le_refl, wdS_nil, wdS_i, wdS_l, wdS_r, wdS_n, wdS_s, rw_gaps h]
    rw [w32_nat (show p < 2147483648 by omega), w32_nat (show n - 1 < 2147483648 by omega), if_neg (show ¬ w32 1 < 0 by decide), if_neg (show ¬ (p : Int) < 0 by omega), if_neg (show ¬ (p : Int) < ((n - 1 : Nat) : Int) by omega), decide_eq_false hg]
    exact Iff.rfl
set_option maxHeartbeats 8000000 in
theorem c4_passedL (d : Nat) {hp : HP} {ra n i p : Nat} (h : RWS hp ra n) (hi : i < FC n) (hp1 : p < n) (R : PO) : callD (d + 2) 44 [mR ra, mI (i : Int), mI (p : Int), mI (-1)] hp R ↔ R (some (mI (oI (psL n i p)))) hp := by
  have h1 := rw_1 h
  have h6 := rw_6 h
  unfold psL
  by_cases hg : 1 ≤ p
  · have e : (p : Int) - 1 = ((p - 1 : Nat) : Int) := by omega
    have hg2 : p - 1 < n - 1 := by omega
    rw [callD_k]; simp only [entL_i, entL_l, entL_q, entL_s, entL_nil, n_X4_passed, u_X4_passed, m_X4_passed, rep_1, List.cons_append, List.nil_append, List.append_nil, List.length_cons, List.length_nil, Nat.reduceAdd, true_and]
    simp only [AW_k, AWk_1, x_iload_3, x_if_ge, x_iload_2, x_push_i, x_push_l, x_isub, x_goto, x_istore_4, x_iload_4, x_if_lt, x_aload_0, x_aloads_0, x_getf, x_icmp_ge, x_iload_1, x_callv_3, x_if_le, x_icmp_eq, x_ret, x_ret_i, x_ret_z, x_ret_l, x_ret_c, x_imul, x_iadd, x_iald, x_ialds, unl_i, unl_l, unl_q, unl_r, unl_s, unl_n, k_X4_passed_0, k_X4_passed_1, k_X4_passed_2, k_X4_passed_3, k_X4_passed_4, k_X4_passed_5, k_X4_passed_6, k_X4_passed_7, k_X4_passed_8, k_X4_passed_9, k_X4_passed_10, k_X4_passed_11, k_X4_passed_12, k_X4_passed_13, k_X4_passed_14, k_X4_passed_15, k_X4_passed_16, k_X4_passed_17, k_X4_passed_18, k_X4_passed_19, k_X4_passed_20, k_X4_passed_21, k_X4_passed_22, k_X4_passed_23, k_X4_passed_24, k_X4_passed_25, k_X4_passed_26, k_X4_passed_27, k_X4_passed_28, k_X4_passed_29, k_X4_passed_30, k_X4_passed_31, k_X4_passed_32, k_X4_passed_33, k_X4_passed_34, k_X4_passed_35, oE_some, Int.reduceToNat, Nat.reduceAdd, true_and, and_true, List.length_cons, List.length_nil, Option.toList_some, Option.toList_none, List.cons_append, List.nil_append, Nat.reduceLeDiff, Nat.le_refl, wdS_nil, wdS_i, wdS_l, wdS_r, wdS_n, wdS_s, rw_gaps h, rC0 h, e, c4_isDrop d h hi (show p - 1 < 32 by omega), rw_beside h, rA_15 h, gp_in h1 h6 hi hg2, bs_get h1 h6 hi hg2, show w32 (-1) = -1 from rfl]
    rw [w32_nat (show p - 1 < 2147483648 by omega), w32_nat (show n - 1 < 2147483648 by omega), w32_zI, if_pos (show (-1 : Int) < 0 by decide), if_neg (show ¬ ((p - 1 : Nat) : Int) < 0 by omega), if_pos (show ((p - 1 : Nat) : Int) < ((n - 1 : Nat) : Int) by omega), if_neg (show ¬ (0 : Int) < -1 by decide), show w32 0 = 0 from rfl, decide_eq_true hg, Bool.true_and]
    cases dn n i (p - 1) <;> exact Iff.rfl
  · have e : p = 0 := by omega
    subst e
    rw [callD_k]; simp only [entL_i, entL_l, entL_q, entL_s, entL_nil, n_X4_passed, u_X4_passed, m_X4_passed, rep_1, List.cons_append, List.nil_append, List.append_nil, List.length_cons, List.length_nil, Nat.reduceAdd, true_and]
    simp only [AW_k, AWk_1, x_iload_3, x_if_ge, x_iload_2, x_push_i, x_push_l, x_isub, x_goto, x_istore_4, x_iload_4, x_if_lt, x_aload_0, x_aloads_0, x_getf, x_icmp_ge, x_iload_1, x_callv_3, x_if_le, x_icmp_eq, x_ret, x_ret_i, x_ret_z, x_ret_l, x_ret_c, x_imul, x_iadd, x_iald, x_ialds, unl_i, unl_l, unl_q, unl_r, unl_s, unl_n, k_X4_passed_0, k_X4_passed_1, k_X4_passed_2, k_X4_passed_3, k_X4_passed_4, k_X4_passed_5, k_X4_passed_6, k_X4_passed_7, k_X4_passed_8, k_X4_passed_9, k_X4_passed_10, k_X4_passed_11, k_X4_passed_12, k_X4_passed_13, k_X4_passed_14, k_X4_passed_15, k_X4_passed_16, k_X4_passed_17, k_X4_passed_18, k_X4_passed_19, k_X4_passed_20, k_X4_passed_21, k_X4_passed_22, k_X4_passed_23, k_X4_passed_24, k_X4_passed_25, k_X4_passed_26, k_X4_passed_27, k_X4_passed_28, k_X4_passed_29, k_X4_passed_30, k_X4_passed_31, k_X4_passed_32, k_X4_passed_33, k_X4_passed_34, k_X4_passed_35, oE_some, Int.reduceToNat, Nat.reduceAdd, true_and, and_true, List.length_cons, List.length_nil, Option.toList_some, Option.toList_none, List.cons_append, List.nil_append, Nat.reduceLeDiff, Nat.le_refl, wdS_nil, wdS_i, wdS_l, wdS_r, wdS_n, wdS_s]
    rw [if_pos (by decide), if_pos (by decide)]
    exact Iff.rfl
/-- k steps that way of what stands at p -/
def jmR (n : Nat) : Nat → Nat → Nat → Option Nat
  | 0, i, _ => some i
  | k + 1, i, p => match psR n i p with
    | some q => jmR n k q (p + 1)
    | none => none
def nlR (n : Nat) (G : BitVec 64) : Nat → Nat → Nat → Option Nat
  | 0, _, _ => none
  | k + 1, i, p => match psR n i p with
    | some q => if isL n G q = true then some q else nlR n G k q (p + 1)
    | none => none
/-- k steps that way of what stands at p -/
def jmL (n : Nat) : Nat → Nat → Nat → Option Nat
  | 0, i, _ => some i
  | k + 1, i, p => match psL n i p with
    | some q => jmL n k q (p - 1)
    | none => none
def nlL (n : Nat) (G : BitVec 64) : Nat → Nat → Nat → Option Nat
  | 0, _, _ => none
  | k + 1, i, p => match psL n i p with
    | some q => if isL n G q = true then some q else nlL n G k q (p - 1)
    | none => none
theorem plc_lt {n i v : Nat} (h1 : 1 ≤ n) : plc n i v < n := by
  unfold plc
  split
  · next p e => have := (fst_some e).2.1; omega
  · omega
set_option maxHeartbeats 8000000 in
theorem c4_jumpedR (d : Nat) {hp : HP} {ra n i v k : Nat} (h : RWS hp ra n) (hi : i < FC n) (hv : v < 2147483648) (hk : k < 6) (hk1 : 0 ≤ k) (R : PO) : callD (d + 3) 43 [mR ra, mI (i : Int), mI (v : Int), mI ((k : Int))] hp R ↔ R (some (mI (oI (jmR n k i (plc n i v))))) hp := by
  have h1 := rw_1 h
  have h6 := rw_6 h
  have f1 := FC_le n
  have ab : (if 0 ≤ w32 ((k : Int)) then ((k : Int)) else 0 - ((k : Int))) = (k : Int) := by
    rw [w32_id (by omega) (by omega)]
    split <;> omega
  have hpl := plc_lt (i := i) (v := v) h1
  rw [callD_k]; simp only [entL_i, entL_l, entL_q, entL_s, entL_nil, n_X4_jumped, u_X4_jumped, m_X4_jumped, rep_4, List.cons_append, List.nil_append, List.append_nil, List.length_cons, List.length_nil, Nat.reduceAdd, true_and]
  simp only [AW_k, AWk_1, x_iload_3, x_if_ge, x_push_i, x_push_l, x_goto, x_istore_4, x_aload_0, x_aloads_0, x_iload_1, x_iload_2, x_callv_3, x_istore_5, x_istore_6, x_istore_7, x_iload_7, x_mabs, x_icmp_ge, x_iload_6, x_if_lt, x_iload_5, x_iload_4, x_callv_4, x_iadd, x_iinc_7, x_ret, x_ret_i, x_ret_z, x_ret_l, x_ret_c, unl_i, unl_l, unl_q, unl_r, unl_s, unl_n, k_X4_jumped_0, k_X4_jumped_1, k_X4_jumped_2, k_X4_jumped_3, k_X4_jumped_4, k_X4_jumped_5, k_X4_jumped_6, k_X4_jumped_7, k_X4_jumped_8, k_X4_jumped_9, k_X4_jumped_10, k_X4_jumped_11, k_X4_jumped_12, k_X4_jumped_13, k_X4_jumped_14, k_X4_jumped_15, k_X4_jumped_16, k_X4_jumped_17, k_X4_jumped_18, k_X4_jumped_19, k_X4_jumped_20, k_X4_jumped_21, k_X4_jumped_22, k_X4_jumped_23, k_X4_jumped_24, k_X4_jumped_25, k_X4_jumped_26, k_X4_jumped_27, k_X4_jumped_28, k_X4_jumped_29, k_X4_jumped_30, k_X4_jumped_31, k_X4_jumped_32, k_X4_jumped_33, k_X4_jumped_34, oE_some, Int.reduceToNat, Nat.reduceAdd, true_and, and_true, List.length_cons, List.length_nil, Option.toList_some, Option.toList_none, List.cons_append, List.nil_append, Nat.reduceLeDiff, Nat.le_refl, wdS_nil, wdS_i, wdS_l, wdS_r, wdS_n, wdS_s, rC0 h, c4_placeOf d h hi hv]
  rw [w32_id (x := (k : Int)) (by omega) (by omega), if_neg (by omega)]
  have key : ∀ (m j now p : Nat), j + m = k → now < FC n → p < n → (AWh (d + 2) [] 43 R 15 [some (mR ra), some (mI (i : Int)), some (mI (v : Int)), some (mI ((k : Int))), some (mI 1), some (mI (p : Int)), some (mI (now : Int)), some (mI (j : Int))] [] hp (0, 0) ↔ R (some (mI (oI (jmR n m now p)))) hp) := by
    intro m
    induction m with
    | zero =>
      intro j now p hj hi hp1
      rw [AWh_k, k_X4_jumped_15]
      simp only [AW_k, AWk_1, x_iload_3, x_if_ge, x_push_i, x_push_l, x_goto, x_istore_4, x_aload_0, x_aloads_0, x_iload_1, x_iload_2, x_callv_3, x_istore_5, x_istore_6, x_istore_7, x_iload_7, x_mabs, x_icmp_ge, x_iload_6, x_if_lt, x_iload_5, x_iload_4, x_callv_4, x_iadd, x_iinc_7, x_ret, x_ret_i, x_ret_z, x_ret_l, x_ret_c, unl_i, unl_l, unl_q, unl_r, unl_s, unl_n, k_X4_jumped_0, k_X4_jumped_1, k_X4_jumped_2, k_X4_jumped_3, k_X4_jumped_4, k_X4_jumped_5, k_X4_jumped_6, k_X4_jumped_7, k_X4_jumped_8, k_X4_jumped_9, k_X4_jumped_10, k_X4_jumped_11, k_X4_jumped_12, k_X4_jumped_13, k_X4_jumped_14, k_X4_jumped_15, k_X4_jumped_16, k_X4_jumped_17, k_X4_jumped_18, k_X4_jumped_19, k_X4_jumped_20, k_X4_jumped_21, k_X4_jumped_22, k_X4_jumped_23, k_X4_jumped_24, k_X4_jumped_25, k_X4_jumped_26, k_X4_jumped_27, k_X4_jumped_28, k_X4_jumped_29, k_X4_jumped_30, k_X4_jumped_31, k_X4_jumped_32, k_X4_jumped_33, k_X4_jumped_34, oE_some, Int.reduceToNat, Nat.reduceAdd, true_and, and_true, List.length_cons, List.length_nil, Option.toList_some, Option.toList_none, List.cons_append, List.nil_append, Nat.reduceLeDiff, Nat.le_refl, wdS_nil, wdS_i, wdS_l, wdS_r, wdS_n, wdS_s, ab]
      rw [w32_nat (show j < 2147483648 by omega), w32_nat (show k < 2147483648 by omega), if_neg (by omega)]
      exact Iff.rfl
    | succ m ih =>
      intro j now p hj hi hp1
      unfold jmR
      cases e : psR n now p with
      | none =>
        have eo : oI (psR n now p) = -1 := by rw [e]; rfl
        rw [AWh_k, k_X4_jumped_15]
        simp only [AW_k, AWk_1, x_iload_3, x_if_ge, x_push_i, x_push_l, x_goto, x_istore_4, x_aload_0, x_aloads_0, x_iload_1, x_iload_2, x_callv_3, x_istore_5, x_istore_6, x_istore_7, x_iload_7, x_mabs, x_icmp_ge, x_iload_6, x_if_lt, x_iload_5, x_iload_4, x_callv_4, x_iadd, x_iinc_7, x_ret, x_ret_i, x_ret_z, x_ret_l, x_ret_c, unl_i, unl_l, unl_q, unl_r, unl_s, unl_n, k_X4_jumped_0, k_X4_jumped_1, k_X4_jumped_2, k_X4_jumped_3, k_X4_jumped_4, k_X4_jumped_5, k_X4_jumped_6, k_X4_jumped_7, k_X4_jumped_8, k_X4_jumped_9, k_X4_jumped_10, k_X4_jumped_11, k_X4_jumped_12, k_X4_jumped_13, k_X4_jumped_14, k_X4_jumped_15, k_X4_jumped_16, k_X4_jumped_17, k_X4_jumped_18, k_X4_jumped_19, k_X4_jumped_20, k_X4_jumped_21, k_X4_jumped_22, k_X4_jumped_23, k_X4_jumped_24, k_X4_jumped_25, k_X4_jumped_26, k_X4_jumped_27, k_X4_jumped_28, k_X4_jumped_29, k_X4_jumped_30, k_X4_jumped_31, k_X4_jumped_32, k_X4_jumped_33, k_X4_jumped_34, oE_some, Int.reduceToNat, Nat.reduceAdd, true_and, and_true, List.length_cons, List.length_nil, Option.toList_some, Option.toList_none, List.cons_append, List.nil_append, Nat.reduceLeDiff, Nat.le_refl, wdS_nil, wdS_i, wdS_l, wdS_r, wdS_n, wdS_s, rC0 h, c4_passedR d h hi hp1, eo, ab]
        rw [w32_nat (show j < 2147483648 by omega), w32_nat (show k < 2147483648 by omega), if_pos (by omega), if_neg (by rw [w32_nat (by omega)]; omega)]
        rw [AWh_k, k_X4_jumped_15]
        simp only [AW_k, AWk_1, x_iload_3, x_if_ge, x_push_i, x_push_l, x_goto, x_istore_4, x_aload_0, x_aloads_0, x_iload_1, x_iload_2, x_callv_3, x_istore_5, x_istore_6, x_istore_7, x_iload_7, x_mabs, x_icmp_ge, x_iload_6, x_if_lt, x_iload_5, x_iload_4, x_callv_4, x_iadd, x_iinc_7, x_ret, x_ret_i, x_ret_z, x_ret_l, x_ret_c, unl_i, unl_l, unl_q, unl_r, unl_s, unl_n, k_X4_jumped_0, k_X4_jumped_1, k_X4_jumped_2, k_X4_jumped_3, k_X4_jumped_4, k_X4_jumped_5, k_X4_jumped_6, k_X4_jumped_7, k_X4_jumped_8, k_X4_jumped_9, k_X4_jumped_10, k_X4_jumped_11, k_X4_jumped_12, k_X4_jumped_13, k_X4_jumped_14, k_X4_jumped_15, k_X4_jumped_16, k_X4_jumped_17, k_X4_jumped_18, k_X4_jumped_19, k_X4_jumped_20, k_X4_jumped_21, k_X4_jumped_22, k_X4_jumped_23, k_X4_jumped_24, k_X4_jumped_25, k_X4_jumped_26, k_X4_jumped_27, k_X4_jumped_28, k_X4_jumped_29, k_X4_jumped_30, k_X4_jumped_31, k_X4_jumped_32, k_X4_jumped_33, k_X4_jumped_34, oE_some, Int.reduceToNat, Nat.reduceAdd, true_and, and_true, List.length_cons, List.length_nil, Option.toList_some, Option.toList_none, List.cons_append, List.nil_append, Nat.reduceLeDiff, Nat.le_refl, wdS_nil, wdS_i, wdS_l, wdS_r, wdS_n, wdS_s, ab]
        by_cases hj2 : w32 ((j : Int) + 1) < w32 (k : Int)
        · rw [if_pos hj2, if_pos (by decide)]; exact Iff.rfl
        · rw [if_neg hj2]; exact Iff.rfl
      | some q =>
        have eo : oI (psR n now p) = (q : Int) := by rw [e]; rfl
        obtain ⟨hq, hp2⟩ := psR_ok h1 h6 hi e
        rw [AWh_k, k_X4_jumped_15]
        simp only [AW_k, AWk_1, x_iload_3, x_if_ge, x_push_i, x_push_l, x_goto, x_istore_4, x_aload_0, x_aloads_0, x_iload_1, x_iload_2, x_callv_3, x_istore_5, x_istore_6, x_istore_7, x_iload_7, x_mabs, x_icmp_ge, x_iload_6, x_if_lt, x_iload_5, x_iload_4, x_callv_4, x_iadd, x_iinc_7, x_ret, x_ret_i, x_ret_z, x_ret_l, x_ret_c, unl_i, unl_l, unl_q, unl_r, unl_s, unl_n, k_X4_jumped_0, k_X4_jumped_1, k_X4_jumped_2, k_X4_jumped_3, k_X4_jumped_4, k_X4_jumped_5, k_X4_jumped_6, k_X4_jumped_7, k_X4_jumped_8, k_X4_jumped_9, k_X4_jumped_10, k_X4_jumped_11, k_X4_jumped_12, k_X4_jumped_13, k_X4_jumped_14, k_X4_jumped_15, k_X4_jumped_16, k_X4_jumped_17, k_X4_jumped_18, k_X4_jumped_19, k_X4_jumped_20, k_X4_jumped_21, k_X4_jumped_22, k_X4_jumped_23, k_X4_jumped_24, k_X4_jumped_25, k_X4_jumped_26, k_X4_jumped_27, k_X4_jumped_28, k_X4_jumped_29, k_X4_jumped_30, k_X4_jumped_31, k_X4_jumped_32, k_X4_jumped_33, k_X4_jumped_34, oE_some, Int.reduceToNat, Nat.reduceAdd, true_and, and_true, List.length_cons, List.length_nil, Option.toList_some, Option.toList_none, List.cons_append, List.nil_append, Nat.reduceLeDiff, Nat.le_refl, wdS_nil, wdS_i, wdS_l, wdS_r, wdS_n, wdS_s, rC0 h, c4_passedR d h hi hp1, eo, ab]
        rw [w32_nat (show j < 2147483648 by omega), w32_nat (show k < 2147483648 by omega), if_pos (by omega), if_neg (by rw [w32_nat (by omega)]; omega)]
        have hn := ih (j + 1) q (p + 1) (by omega) hq (by omega)
        skip
        exact hn
  exact key k 0 i (plc n i v) (by omega) hi hpl
set_option maxHeartbeats 8000000 in
theorem c4_nearestR (d : Nat) {hp : HP} {ra n i v : Nat} {G : BitVec 64} (h : RWS hp ra n) (hi : i < FC n) (hv : v < 2147483648) (R : PO) : callD (d + 3) 45 [mR ra, mI (i : Int), mI (v : Int), mI 1, mL G] hp R ↔ R (some (mI (oI (nlR n G n i (plc n i v))))) hp := by
  have h1 := rw_1 h
  have h6 := rw_6 h
  have f1 := FC_le n
  have hpl := plc_lt (i := i) (v := v) h1
  rw [callD_k]; simp only [entL_i, entL_l, entL_q, entL_s, entL_nil, n_X4_nearestLeast, u_X4_nearestLeast, m_X4_nearestLeast, rep_3, List.cons_append, List.nil_append, List.append_nil, List.length_cons, List.length_nil, Nat.reduceAdd, true_and]
  simp only [AW_k, AWk_1, x_aload_0, x_aloads_0, x_iload_1, x_iload_2, x_callv_3, x_istore_6, x_istore_7, x_push_i, x_push_l, x_istore_8, x_iload_8, x_getf, x_icmp_ge, x_iload_7, x_iload_6, x_iload_3, x_callv_4, x_iadd, x_if_lt, x_lload_4, x_if_eq, x_ret, x_ret_i, x_ret_z, x_ret_l, x_ret_c, x_iinc_8, x_goto, unl_i, unl_l, unl_q, unl_r, unl_s, unl_n, k_X4_nearestLeast_0, k_X4_nearestLeast_1, k_X4_nearestLeast_2, k_X4_nearestLeast_3, k_X4_nearestLeast_4, k_X4_nearestLeast_5, k_X4_nearestLeast_6, k_X4_nearestLeast_7, k_X4_nearestLeast_8, k_X4_nearestLeast_9, k_X4_nearestLeast_10, k_X4_nearestLeast_11, k_X4_nearestLeast_12, k_X4_nearestLeast_13, k_X4_nearestLeast_14, k_X4_nearestLeast_15, k_X4_nearestLeast_16, k_X4_nearestLeast_17, k_X4_nearestLeast_18, k_X4_nearestLeast_19, k_X4_nearestLeast_20, k_X4_nearestLeast_21, k_X4_nearestLeast_22, k_X4_nearestLeast_23, k_X4_nearestLeast_24, k_X4_nearestLeast_25, k_X4_nearestLeast_26, k_X4_nearestLeast_27, k_X4_nearestLeast_28, k_X4_nearestLeast_29, k_X4_nearestLeast_30, k_X4_nearestLeast_31, k_X4_nearestLeast_32, k_X4_nearestLeast_33, k_X4_nearestLeast_34, k_X4_nearestLeast_35, oE_some, Int.reduceToNat, Nat.reduceAdd, true_and, and_true, List.length_cons, List.length_nil, Option.toList_some, Option.toList_none, List.cons_append, List.nil_append, Nat.reduceLeDiff, Nat.le_refl, wdS_nil, wdS_i, wdS_l, wdS_r, wdS_n, wdS_s, rC0 h, c4_placeOf d h hi hv]
  have key : ∀ (m j now p : Nat), j + m = n → now < FC n → p < n → (AWh (d + 2) [] 45 R 9 [some (mR ra), some (mI (i : Int)), some (mI (v : Int)), some (mI 1), some (mL G), none, some (mI (p : Int)), some (mI (now : Int)), some (mI (j : Int))] [] hp (0, 0) ↔ R (some (mI (oI (nlR n G m now p)))) hp) := by
    intro m
    induction m with
    | zero =>
      intro j now p hj hi hp1
      rw [AWh_k, k_X4_nearestLeast_9]
      simp only [AW_k, AWk_1, x_aload_0, x_aloads_0, x_iload_1, x_iload_2, x_callv_3, x_istore_6, x_istore_7, x_push_i, x_push_l, x_istore_8, x_iload_8, x_getf, x_icmp_ge, x_iload_7, x_iload_6, x_iload_3, x_callv_4, x_iadd, x_if_lt, x_lload_4, x_if_eq, x_ret, x_ret_i, x_ret_z, x_ret_l, x_ret_c, x_iinc_8, x_goto, unl_i, unl_l, unl_q, unl_r, unl_s, unl_n, k_X4_nearestLeast_0, k_X4_nearestLeast_1, k_X4_nearestLeast_2, k_X4_nearestLeast_3, k_X4_nearestLeast_4, k_X4_nearestLeast_5, k_X4_nearestLeast_6, k_X4_nearestLeast_7, k_X4_nearestLeast_8, k_X4_nearestLeast_9, k_X4_nearestLeast_10, k_X4_nearestLeast_11, k_X4_nearestLeast_12, k_X4_nearestLeast_13, k_X4_nearestLeast_14, k_X4_nearestLeast_15, k_X4_nearestLeast_16, k_X4_nearestLeast_17, k_X4_nearestLeast_18, k_X4_nearestLeast_19, k_X4_nearestLeast_20, k_X4_nearestLeast_21, k_X4_nearestLeast_22, k_X4_nearestLeast_23, k_X4_nearestLeast_24, k_X4_nearestLeast_25, k_X4_nearestLeast_26, k_X4_nearestLeast_27, k_X4_nearestLeast_28, k_X4_nearestLeast_29, k_X4_nearestLeast_30, k_X4_nearestLeast_31, k_X4_nearestLeast_32, k_X4_nearestLeast_33, k_X4_nearestLeast_34, k_X4_nearestLeast_35, oE_some, Int.reduceToNat, Nat.reduceAdd, true_and, and_true, List.length_cons, List.length_nil, Option.toList_some, Option.toList_none, List.cons_append, List.nil_append, Nat.reduceLeDiff, Nat.le_refl, wdS_nil, wdS_i, wdS_l, wdS_r, wdS_n, wdS_s, rw_n h]
      rw [w32_nat (show j < 2147483648 by omega), w32_nat (show n < 2147483648 by omega), if_neg (by omega)]
      exact Iff.rfl
    | succ m ih =>
      intro j now p hj hi hp1
      unfold nlR
      cases e : psR n now p with
      | none =>
        have eo : oI (psR n now p) = -1 := by rw [e]; rfl
        rw [AWh_k, k_X4_nearestLeast_9]
        simp only [AW_k, AWk_1, x_aload_0, x_aloads_0, x_iload_1, x_iload_2, x_callv_3, x_istore_6, x_istore_7, x_push_i, x_push_l, x_istore_8, x_iload_8, x_getf, x_icmp_ge, x_iload_7, x_iload_6, x_iload_3, x_callv_4, x_iadd, x_if_lt, x_lload_4, x_if_eq, x_ret, x_ret_i, x_ret_z, x_ret_l, x_ret_c, x_iinc_8, x_goto, unl_i, unl_l, unl_q, unl_r, unl_s, unl_n, k_X4_nearestLeast_0, k_X4_nearestLeast_1, k_X4_nearestLeast_2, k_X4_nearestLeast_3, k_X4_nearestLeast_4, k_X4_nearestLeast_5, k_X4_nearestLeast_6, k_X4_nearestLeast_7, k_X4_nearestLeast_8, k_X4_nearestLeast_9, k_X4_nearestLeast_10, k_X4_nearestLeast_11, k_X4_nearestLeast_12, k_X4_nearestLeast_13, k_X4_nearestLeast_14, k_X4_nearestLeast_15, k_X4_nearestLeast_16, k_X4_nearestLeast_17, k_X4_nearestLeast_18, k_X4_nearestLeast_19, k_X4_nearestLeast_20, k_X4_nearestLeast_21, k_X4_nearestLeast_22, k_X4_nearestLeast_23, k_X4_nearestLeast_24, k_X4_nearestLeast_25, k_X4_nearestLeast_26, k_X4_nearestLeast_27, k_X4_nearestLeast_28, k_X4_nearestLeast_29, k_X4_nearestLeast_30, k_X4_nearestLeast_31, k_X4_nearestLeast_32, k_X4_nearestLeast_33, k_X4_nearestLeast_34, k_X4_nearestLeast_35, oE_some, Int.reduceToNat, Nat.reduceAdd, true_and, and_true, List.length_cons, List.length_nil, Option.toList_some, Option.toList_none, List.cons_append, List.nil_append, Nat.reduceLeDiff, Nat.le_refl, wdS_nil, wdS_i, wdS_l, wdS_r, wdS_n, wdS_s, rw_n h, rC0 h, c4_passedR d h hi hp1, eo]
        rw [w32_nat (show j < 2147483648 by omega), w32_nat (show n < 2147483648 by omega), if_pos (by omega), if_pos (by decide)]
        exact Iff.rfl
      | some q =>
        have eo : oI (psR n now p) = (q : Int) := by rw [e]; rfl
        obtain ⟨hq, hp2⟩ := psR_ok h1 h6 hi e
        rw [AWh_k, k_X4_nearestLeast_9]
        simp only [AW_k, AWk_1, x_aload_0, x_aloads_0, x_iload_1, x_iload_2, x_callv_3, x_istore_6, x_istore_7, x_push_i, x_push_l, x_istore_8, x_iload_8, x_getf, x_icmp_ge, x_iload_7, x_iload_6, x_iload_3, x_callv_4, x_iadd, x_if_lt, x_lload_4, x_if_eq, x_ret, x_ret_i, x_ret_z, x_ret_l, x_ret_c, x_iinc_8, x_goto, unl_i, unl_l, unl_q, unl_r, unl_s, unl_n, k_X4_nearestLeast_0, k_X4_nearestLeast_1, k_X4_nearestLeast_2, k_X4_nearestLeast_3, k_X4_nearestLeast_4, k_X4_nearestLeast_5, k_X4_nearestLeast_6, k_X4_nearestLeast_7, k_X4_nearestLeast_8, k_X4_nearestLeast_9, k_X4_nearestLeast_10, k_X4_nearestLeast_11, k_X4_nearestLeast_12, k_X4_nearestLeast_13, k_X4_nearestLeast_14, k_X4_nearestLeast_15, k_X4_nearestLeast_16, k_X4_nearestLeast_17, k_X4_nearestLeast_18, k_X4_nearestLeast_19, k_X4_nearestLeast_20, k_X4_nearestLeast_21, k_X4_nearestLeast_22, k_X4_nearestLeast_23, k_X4_nearestLeast_24, k_X4_nearestLeast_25, k_X4_nearestLeast_26, k_X4_nearestLeast_27, k_X4_nearestLeast_28, k_X4_nearestLeast_29, k_X4_nearestLeast_30, k_X4_nearestLeast_31, k_X4_nearestLeast_32, k_X4_nearestLeast_33, k_X4_nearestLeast_34, k_X4_nearestLeast_35, oE_some, Int.reduceToNat, Nat.reduceAdd, true_and, and_true, List.length_cons, List.length_nil, Option.toList_some, Option.toList_none, List.cons_append, List.nil_append, Nat.reduceLeDiff, Nat.le_refl, wdS_nil, wdS_i, wdS_l, wdS_r, wdS_n, wdS_s, rw_n h, rC0 h, c4_passedR d h hi hp1, eo, c4_isLeast (d + 1) h hq, w32_zI_0, ite_bf]
        rw [w32_nat (show j < 2147483648 by omega), w32_nat (show n < 2147483648 by omega), if_pos (by omega), if_neg (by rw [w32_nat (by omega)]; omega)]
        have hn := ih (j + 1) q (p + 1) (by omega) hq (by omega)
        skip
        cases isL n G q
        · exact hn
        · exact Iff.rfl
  exact key n 0 i (plc n i v) (by omega) hi hpl
set_option maxHeartbeats 8000000 in
theorem c4_jumpedL (d : Nat) {hp : HP} {ra n i v k : Nat} (h : RWS hp ra n) (hi : i < FC n) (hv : v < 2147483648) (hk : k < 6) (hk1 : 1 ≤ k) (R : PO) : callD (d + 3) 43 [mR ra, mI (i : Int), mI (v : Int), mI (-(k : Int))] hp R ↔ R (some (mI (oI (jmL n k i (plc n i v))))) hp := by
  have h1 := rw_1 h
  have h6 := rw_6 h
  have f1 := FC_le n
  have ab : (if 0 ≤ w32 (-(k : Int)) then (-(k : Int)) else 0 - (-(k : Int))) = (k : Int) := by
    rw [w32_id (by omega) (by omega)]
    split <;> omega
  have hpl := plc_lt (i := i) (v := v) h1
  rw [callD_k]; simp only [entL_i, entL_l, entL_q, entL_s, entL_nil, n_X4_jumped, u_X4_jumped, m_X4_jumped, rep_4, List.cons_append, List.nil_append, List.append_nil, List.length_cons, List.length_nil, Nat.reduceAdd, true_and]
  simp only [AW_k, AWk_1, x_iload_3, x_if_ge, x_push_i, x_push_l, x_goto, x_istore_4, x_aload_0, x_aloads_0, x_iload_1, x_iload_2, x_callv_3, x_istore_5, x_istore_6, x_istore_7, x_iload_7, x_mabs, x_icmp_ge, x_iload_6, x_if_lt, x_iload_5, x_iload_4, x_callv_4, x_iadd, x_iinc_7, x_ret, x_ret_i, x_ret_z, x_ret_l, x_ret_c, unl_i, unl_l, unl_q, unl_r, unl_s, unl_n, k_X4_jumped_0, k_X4_jumped_1, k_X4_jumped_2, k_X4_jumped_3, k_X4_jumped_4, k_X4_jumped_5, k_X4_jumped_6, k_X4_jumped_7, k_X4_jumped_8, k_X4_jumped_9, k_X4_jumped_10, k_X4_jumped_11, k_X4_jumped_12, k_X4_jumped_13, k_X4_jumped_14, k_X4_jumped_15, k_X4_jumped_16, k_X4_jumped_17, k_X4_jumped_18, k_X4_jumped_19, k_X4_jumped_20, k_X4_jumped_21, k_X4_jumped_22, k_X4_jumped_23, k_X4_jumped_24, k_X4_jumped_25, k_X4_jumped_26, k_X4_jumped_27, k_X4_jumped_28, k_X4_jumped_29, k_X4_jumped_30, k_X4_jumped_31, k_X4_jumped_32, k_X4_jumped_33, k_X4_jumped_34, oE_some, Int.reduceToNat, Nat.reduceAdd, true_and, and_true, List.length_cons, List.length_nil, Option.toList_some, Option.toList_none, List.cons_append, List.nil_append, Nat.reduceLeDiff, Nat.le_refl, wdS_nil, wdS_i, wdS_l, wdS_r, wdS_n, wdS_s, rC0 h, c4_placeOf d h hi hv]
  rw [w32_id (x := -(k : Int)) (by omega) (by omega), if_pos (by omega)]
  have key : ∀ (m j now p : Nat), j + m = k → now < FC n → p < n → (AWh (d + 2) [] 43 R 15 [some (mR ra), some (mI (i : Int)), some (mI (v : Int)), some (mI (-(k : Int))), some (mI (-1)), some (mI (p : Int)), some (mI (now : Int)), some (mI (j : Int))] [] hp (0, 0) ↔ R (some (mI (oI (jmL n m now p)))) hp) := by
    intro m
    induction m with
    | zero =>
      intro j now p hj hi hp1
      rw [AWh_k, k_X4_jumped_15]
      simp only [AW_k, AWk_1, x_iload_3, x_if_ge, x_push_i, x_push_l, x_goto, x_istore_4, x_aload_0, x_aloads_0, x_iload_1, x_iload_2, x_callv_3, x_istore_5, x_istore_6, x_istore_7, x_iload_7, x_mabs, x_icmp_ge, x_iload_6, x_if_lt, x_iload_5, x_iload_4, x_callv_4, x_iadd, x_iinc_7, x_ret, x_ret_i, x_ret_z, x_ret_l, x_ret_c, unl_i, unl_l, unl_q, unl_r, unl_s, unl_n, k_X4_jumped_0, k_X4_jumped_1, k_X4_jumped_2, k_X4_jumped_3, k_X4_jumped_4, k_X4_jumped_5, k_X4_jumped_6, k_X4_jumped_7, k_X4_jumped_8, k_X4_jumped_9, k_X4_jumped_10, k_X4_jumped_11, k_X4_jumped_12, k_X4_jumped_13, k_X4_jumped_14, k_X4_jumped_15, k_X4_jumped_16, k_X4_jumped_17, k_X4_jumped_18, k_X4_jumped_19, k_X4_jumped_20, k_X4_jumped_21, k_X4_jumped_22, k_X4_jumped_23, k_X4_jumped_24, k_X4_jumped_25, k_X4_jumped_26, k_X4_jumped_27, k_X4_jumped_28, k_X4_jumped_29, k_X4_jumped_30, k_X4_jumped_31, k_X4_jumped_32, k_X4_jumped_33, k_X4_jumped_34, oE_some, Int.reduceToNat, Nat.reduceAdd, true_and, and_true, List.length_cons, List.length_nil, Option.toList_some, Option.toList_none, List.cons_append, List.nil_append, Nat.reduceLeDiff, Nat.le_refl, wdS_nil, wdS_i, wdS_l, wdS_r, wdS_n, wdS_s, ab]
      rw [w32_nat (show j < 2147483648 by omega), w32_nat (show k < 2147483648 by omega), if_neg (by omega)]
      exact Iff.rfl
    | succ m ih =>
      intro j now p hj hi hp1
      unfold jmL
      cases e : psL n now p with
      | none =>
        have eo : oI (psL n now p) = -1 := by rw [e]; rfl
        rw [AWh_k, k_X4_jumped_15]
        simp only [AW_k, AWk_1, x_iload_3, x_if_ge, x_push_i, x_push_l, x_goto, x_istore_4, x_aload_0, x_aloads_0, x_iload_1, x_iload_2, x_callv_3, x_istore_5, x_istore_6, x_istore_7, x_iload_7, x_mabs, x_icmp_ge, x_iload_6, x_if_lt, x_iload_5, x_iload_4, x_callv_4, x_iadd, x_iinc_7, x_ret, x_ret_i, x_ret_z, x_ret_l, x_ret_c, unl_i, unl_l, unl_q, unl_r, unl_s, unl_n, k_X4_jumped_0, k_X4_jumped_1, k_X4_jumped_2, k_X4_jumped_3, k_X4_jumped_4, k_X4_jumped_5, k_X4_jumped_6, k_X4_jumped_7, k_X4_jumped_8, k_X4_jumped_9, k_X4_jumped_10, k_X4_jumped_11, k_X4_jumped_12, k_X4_jumped_13, k_X4_jumped_14, k_X4_jumped_15, k_X4_jumped_16, k_X4_jumped_17, k_X4_jumped_18, k_X4_jumped_19, k_X4_jumped_20, k_X4_jumped_21, k_X4_jumped_22, k_X4_jumped_23, k_X4_jumped_24, k_X4_jumped_25, k_X4_jumped_26, k_X4_jumped_27, k_X4_jumped_28, k_X4_jumped_29, k_X4_jumped_30, k_X4_jumped_31, k_X4_jumped_32, k_X4_jumped_33, k_X4_jumped_34, oE_some, Int.reduceToNat, Nat.reduceAdd, true_and, and_true, List.length_cons, List.length_nil, Option.toList_some, Option.toList_none, List.cons_append, List.nil_append, Nat.reduceLeDiff, Nat.le_refl, wdS_nil, wdS_i, wdS_l, wdS_r, wdS_n, wdS_s, rC0 h, c4_passedL d h hi hp1, eo, ab]
        rw [w32_nat (show j < 2147483648 by omega), w32_nat (show k < 2147483648 by omega), if_pos (by omega), if_neg (by rw [w32_nat (by omega)]; omega)]
        rw [AWh_k, k_X4_jumped_15]
        simp only [AW_k, AWk_1, x_iload_3, x_if_ge, x_push_i, x_push_l, x_goto, x_istore_4, x_aload_0, x_aloads_0, x_iload_1, x_iload_2, x_callv_3, x_istore_5, x_istore_6, x_istore_7, x_iload_7, x_mabs, x_icmp_ge, x_iload_6, x_if_lt, x_iload_5, x_iload_4, x_callv_4, x_iadd, x_iinc_7, x_ret, x_ret_i, x_ret_z, x_ret_l, x_ret_c, unl_i, unl_l, unl_q, unl_r, unl_s, unl_n, k_X4_jumped_0, k_X4_jumped_1, k_X4_jumped_2, k_X4_jumped_3, k_X4_jumped_4, k_X4_jumped_5, k_X4_jumped_6, k_X4_jumped_7, k_X4_jumped_8, k_X4_jumped_9, k_X4_jumped_10, k_X4_jumped_11, k_X4_jumped_12, k_X4_jumped_13, k_X4_jumped_14, k_X4_jumped_15, k_X4_jumped_16, k_X4_jumped_17, k_X4_jumped_18, k_X4_jumped_19, k_X4_jumped_20, k_X4_jumped_21, k_X4_jumped_22, k_X4_jumped_23, k_X4_jumped_24, k_X4_jumped_25, k_X4_jumped_26, k_X4_jumped_27, k_X4_jumped_28, k_X4_jumped_29, k_X4_jumped_30, k_X4_jumped_31, k_X4_jumped_32, k_X4_jumped_33, k_X4_jumped_34, oE_some, Int.reduceToNat, Nat.reduceAdd, true_and, and_true, List.length_cons, List.length_nil, Option.toList_some, Option.toList_none, List.cons_append, List.nil_append, Nat.reduceLeDiff, Nat.le_refl, wdS_nil, wdS_i, wdS_l, wdS_r, wdS_n, wdS_s, ab]
        by_cases hj2 : w32 ((j : Int) + 1) < w32 (k : Int)
        · rw [if_pos hj2, if_pos (by decide)]; exact Iff.rfl
        · rw [if_neg hj2]; exact Iff.rfl
      | some q =>
        have eo : oI (psL n now p) = (q : Int) := by rw [e]; rfl
        obtain ⟨hq, hp2⟩ := psL_ok h1 h6 hi hp1 e
        rw [AWh_k, k_X4_jumped_15]
        simp only [AW_k, AWk_1, x_iload_3, x_if_ge, x_push_i, x_push_l, x_goto, x_istore_4, x_aload_0, x_aloads_0, x_iload_1, x_iload_2, x_callv_3, x_istore_5, x_istore_6, x_istore_7, x_iload_7, x_mabs, x_icmp_ge, x_iload_6, x_if_lt, x_iload_5, x_iload_4, x_callv_4, x_iadd, x_iinc_7, x_ret, x_ret_i, x_ret_z, x_ret_l, x_ret_c, unl_i, unl_l, unl_q, unl_r, unl_s, unl_n, k_X4_jumped_0, k_X4_jumped_1, k_X4_jumped_2, k_X4_jumped_3, k_X4_jumped_4, k_X4_jumped_5, k_X4_jumped_6, k_X4_jumped_7, k_X4_jumped_8, k_X4_jumped_9, k_X4_jumped_10, k_X4_jumped_11, k_X4_jumped_12, k_X4_jumped_13, k_X4_jumped_14, k_X4_jumped_15, k_X4_jumped_16, k_X4_jumped_17, k_X4_jumped_18, k_X4_jumped_19, k_X4_jumped_20, k_X4_jumped_21, k_X4_jumped_22, k_X4_jumped_23, k_X4_jumped_24, k_X4_jumped_25, k_X4_jumped_26, k_X4_jumped_27, k_X4_jumped_28, k_X4_jumped_29, k_X4_jumped_30, k_X4_jumped_31, k_X4_jumped_32, k_X4_jumped_33, k_X4_jumped_34, oE_some, Int.reduceToNat, Nat.reduceAdd, true_and, and_true, List.length_cons, List.length_nil, Option.toList_some, Option.toList_none, List.cons_append, List.nil_append, Nat.reduceLeDiff, Nat.le_refl, wdS_nil, wdS_i, wdS_l, wdS_r, wdS_n, wdS_s, rC0 h, c4_passedL d h hi hp1, eo, ab]
        rw [w32_nat (show j < 2147483648 by omega), w32_nat (show k < 2147483648 by omega), if_pos (by omega), if_neg (by rw [w32_nat (by omega)]; omega)]
        have hn := ih (j + 1) q (p - 1) (by omega) hq (by omega)
        rw [show ((p - 1 : Nat) : Int) = (p : Int) + -1 by omega] at hn
        exact hn
  exact key k 0 i (plc n i v) (by omega) hi hpl
set_option maxHeartbeats 8000000 in
theorem c4_nearestL (d : Nat) {hp : HP} {ra n i v : Nat} {G : BitVec 64} (h : RWS hp ra n) (hi : i < FC n) (hv : v < 2147483648) (R : PO) : callD (d + 3) 45 [mR ra, mI (i : Int), mI (v : Int), mI (-1), mL G] hp R ↔ R (some (mI (oI (nlL n G n i (plc n i v))))) hp := by
  have h1 := rw_1 h
  have h6 := rw_6 h
  have f1 := FC_le n
  have hpl := plc_lt (i := i) (v := v) h1
  rw [callD_k]; simp only [entL_i, entL_l, entL_q, entL_s, entL_nil, n_X4_nearestLeast, u_X4_nearestLeast, m_X4_nearestLeast, rep_3, List.cons_append, List.nil_append, List.append_nil, List.length_cons, List.length_nil, Nat.reduceAdd, true_and]
  simp only [AW_k, AWk_1, x_aload_0, x_aloads_0, x_iload_1, x_iload_2, x_callv_3, x_istore_6, x_istore_7, x_push_i, x_push_l, x_istore_8, x_iload_8, x_getf, x_icmp_ge, x_iload_7, x_iload_6, x_iload_3, x_callv_4, x_iadd, x_if_lt, x_lload_4, x_if_eq, x_ret, x_ret_i, x_ret_z, x_ret_l, x_ret_c, x_iinc_8, x_goto, unl_i, unl_l, unl_q, unl_r, unl_s, unl_n, k_X4_nearestLeast_0, k_X4_nearestLeast_1, k_X4_nearestLeast_2, k_X4_nearestLeast_3, k_X4_nearestLeast_4, k_X4_nearestLeast_5, k_X4_nearestLeast_6, k_X4_nearestLeast_7, k_X4_nearestLeast_8, k_X4_nearestLeast_9, k_X4_nearestLeast_10, k_X4_nearestLeast_11, k_X4_nearestLeast_12, k_X4_nearestLeast_13, k_X4_nearestLeast_14, k_X4_nearestLeast_15, k_X4_nearestLeast_16, k_X4_nearestLeast_17, k_X4_nearestLeast_18, k_X4_nearestLeast_19, k_X4_nearestLeast_20, k_X4_nearestLeast_21, k_X4_nearestLeast_22, k_X4_nearestLeast_23, k_X4_nearestLeast_24, k_X4_nearestLeast_25, k_X4_nearestLeast_26, k_X4_nearestLeast_27, k_X4_nearestLeast_28, k_X4_nearestLeast_29, k_X4_nearestLeast_30, k_X4_nearestLeast_31, k_X4_nearestLeast_32, k_X4_nearestLeast_33, k_X4_nearestLeast_34, k_X4_nearestLeast_35, oE_some, Int.reduceToNat, Nat.reduceAdd, true_and, and_true, List.length_cons, List.length_nil, Option.toList_some, Option.toList_none, List.cons_append, List.nil_append, Nat.reduceLeDiff, Nat.le_refl, wdS_nil, wdS_i, wdS_l, wdS_r, wdS_n, wdS_s, rC0 h, c4_placeOf d h hi hv]
  have key : ∀ (m j now p : Nat), j + m = n → now < FC n → p < n → (AWh (d + 2) [] 45 R 9 [some (mR ra), some (mI (i : Int)), some (mI (v : Int)), some (mI (-1)), some (mL G), none, some (mI (p : Int)), some (mI (now : Int)), some (mI (j : Int))] [] hp (0, 0) ↔ R (some (mI (oI (nlL n G m now p)))) hp) := by
    intro m
    induction m with
    | zero =>
      intro j now p hj hi hp1
      rw [AWh_k, k_X4_nearestLeast_9]
      simp only [AW_k, AWk_1, x_aload_0, x_aloads_0, x_iload_1, x_iload_2, x_callv_3, x_istore_6, x_istore_7, x_push_i, x_push_l, x_istore_8, x_iload_8, x_getf, x_icmp_ge, x_iload_7, x_iload_6, x_iload_3, x_callv_4, x_iadd, x_if_lt, x_lload_4, x_if_eq, x_ret, x_ret_i, x_ret_z, x_ret_l, x_ret_c, x_iinc_8, x_goto, unl_i, unl_l, unl_q, unl_r, unl_s, unl_n, k_X4_nearestLeast_0, k_X4_nearestLeast_1, k_X4_nearestLeast_2, k_X4_nearestLeast_3, k_X4_nearestLeast_4, k_X4_nearestLeast_5, k_X4_nearestLeast_6, k_X4_nearestLeast_7, k_X4_nearestLeast_8, k_X4_nearestLeast_9, k_X4_nearestLeast_10, k_X4_nearestLeast_11, k_X4_nearestLeast_12, k_X4_nearestLeast_13, k_X4_nearestLeast_14, k_X4_nearestLeast_15, k_X4_nearestLeast_16, k_X4_nearestLeast_17, k_X4_nearestLeast_18, k_X4_nearestLeast_19, k_X4_nearestLeast_20, k_X4_nearestLeast_21, k_X4_nearestLeast_22, k_X4_nearestLeast_23, k_X4_nearestLeast_24, k_X4_nearestLeast_25, k_X4_nearestLeast_26, k_X4_nearestLeast_27, k_X4_nearestLeast_28, k_X4_nearestLeast_29, k_X4_nearestLeast_30, k_X4_nearestLeast_31, k_X4_nearestLeast_32, k_X4_nearestLeast_33, k_X4_nearestLeast_34, k_X4_nearestLeast_35, oE_some, Int.reduceToNat, Nat.reduceAdd, true_and, and_true, List.length_cons, List.length_nil, Option.toList_some, Option.toList_none, List.cons_append, List.nil_append, Nat.reduceLeDiff, Nat.le_refl, wdS_nil, wdS_i, wdS_l, wdS_r, wdS_n, wdS_s, rw_n h]
      rw [w32_nat (show j < 2147483648 by omega), w32_nat (show n < 2147483648 by omega), if_neg (by omega)]
      exact Iff.rfl
    | succ m ih =>
      intro j now p hj hi hp1
      unfold nlL
      cases e : psL n now p with
      | none =>
        have eo : oI (psL n now p) = -1 := by rw [e]; rfl
        rw [AWh_k, k_X4_nearestLeast_9]
        simp only [AW_k, AWk_1, x_aload_0, x_aloads_0, x_iload_1, x_iload_2, x_callv_3, x_istore_6, x_istore_7, x_push_i, x_push_l, x_istore_8, x_iload_8, x_getf, x_icmp_ge, x_iload_7, x_iload_6, x_iload_3, x_callv_4, x_iadd, x_if_lt, x_lload_4, x_if_eq, x_ret, x_ret_i, x_ret_z, x_ret_l, x_ret_c, x_iinc_8, x_goto, unl_i, unl_l, unl_q, unl_r, unl_s, unl_n, k_X4_nearestLeast_0, k_X4_nearestLeast_1, k_X4_nearestLeast_2, k_X4_nearestLeast_3, k_X4_nearestLeast_4, k_X4_nearestLeast_5, k_X4_nearestLeast_6, k_X4_nearestLeast_7, k_X4_nearestLeast_8, k_X4_nearestLeast_9, k_X4_nearestLeast_10, k_X4_nearestLeast_11, k_X4_nearestLeast_12, k_X4_nearestLeast_13, k_X4_nearestLeast_14, k_X4_nearestLeast_15, k_X4_nearestLeast_16, k_X4_nearestLeast_17, k_X4_nearestLeast_18, k_X4_nearestLeast_19, k_X4_nearestLeast_20, k_X4_nearestLeast_21, k_X4_nearestLeast_22, k_X4_nearestLeast_23, k_X4_nearestLeast_24, k_X4_nearestLeast_25, k_X4_nearestLeast_26, k_X4_nearestLeast_27, k_X4_nearestLeast_28, k_X4_nearestLeast_29, k_X4_nearestLeast_30, k_X4_nearestLeast_31, k_X4_nearestLeast_32, k_X4_nearestLeast_33, k_X4_nearestLeast_34, k_X4_nearestLeast_35, oE_some, Int.reduceToNat, Nat.reduceAdd, true_and, and_true, List.length_cons, List.length_nil, Option.toList_some, Option.toList_none, List.cons_append, List.nil_append, Nat.reduceLeDiff, Nat.le_refl, wdS_nil, wdS_i, wdS_l, wdS_r, wdS_n, wdS_s, rw_n h, rC0 h, c4_passedL d h hi hp1, eo]
        rw [w32_nat (show j < 2147483648 by omega), w32_nat (show n < 2147483648 by omega), if_pos (by omega), if_pos (by decide)]
        exact Iff.rfl
      | some q =>
        have eo : oI (psL n now p) = (q : Int) := by rw [e]; rfl
        obtain ⟨hq, hp2⟩ := psL_ok h1 h6 hi hp1 e
        rw [AWh_k, k_X4_nearestLeast_9]
        simp only [AW_k, AWk_1, x_aload_0, x_aloads_0, x_iload_1, x_iload_2, x_callv_3, x_istore_6, x_istore_7, x_push_i, x_push_l, x_istore_8, x_iload_8, x_getf, x_icmp_ge, x_iload_7, x_iload_6, x_iload_3, x_callv_4, x_iadd, x_if_lt, x_lload_4, x_if_eq, x_ret, x_ret_i, x_ret_z, x_ret_l, x_ret_c, x_iinc_8, x_goto, unl_i, unl_l, unl_q, unl_r, unl_s, unl_n, k_X4_nearestLeast_0, k_X4_nearestLeast_1, k_X4_nearestLeast_2, k_X4_nearestLeast_3, k_X4_nearestLeast_4, k_X4_nearestLeast_5, k_X4_nearestLeast_6, k_X4_nearestLeast_7, k_X4_nearestLeast_8, k_X4_nearestLeast_9, k_X4_nearestLeast_10, k_X4_nearestLeast_11, k_X4_nearestLeast_12, k_X4_nearestLeast_13, k_X4_nearestLeast_14, k_X4_nearestLeast_15, k_X4_nearestLeast_16, k_X4_nearestLeast_17, k_X4_nearestLeast_18, k_X4_nearestLeast_19, k_X4_nearestLeast_20, k_X4_nearestLeast_21, k_X4_nearestLeast_22, k_X4_nearestLeast_23, k_X4_nearestLeast_24, k_X4_nearestLeast_25, k_X4_nearestLeast_26, k_X4_nearestLeast_27, k_X4_nearestLeast_28, k_X4_nearestLeast_29, k_X4_nearestLeast_30, k_X4_nearestLeast_31, k_X4_nearestLeast_32, k_X4_nearestLeast_33, k_X4_nearestLeast_34, k_X4_nearestLeast_35, oE_some, Int.reduceToNat, Nat.reduceAdd, true_and, and_true, List.length_cons, List.length_nil, Option.toList_some, Option.toList_none, List.cons_append, List.nil_append, Nat.reduceLeDiff, Nat.le_refl, wdS_nil, wdS_i, wdS_l, wdS_r, wdS_n, wdS_s, rw_n h, rC0 h, c4_passedL d h hi hp1, eo, c4_isLeast (d + 1) h hq, w32_zI_0, ite_bf]
        rw [w32_nat (show j < 2147483648 by omega), w32_nat (show n < 2147483648 by omega), if_pos (by omega), if_neg (by rw [w32_nat (by omega)]; omega)]
        have hn := ih (j + 1) q (p - 1) (by omega) hq (by omega)
        rw [show ((p - 1 : Nat) : Int) = (p : Int) + -1 by omega] at hn
        cases isL n G q
        · exact hn
        · exact Iff.rfl
  exact key n 0 i (plc n i v) (by omega) hi hpl
/-- the arcs of a way down from now to lo -/
def abt (n lo : Nat) : Nat → Nat → BitVec 64
  | 0, _ => 0#64
  | k + 1, now => if now = lo then 0#64 else match fst (fun p => dn n now p && blw n lo (bs n now p)) (n - 1) 0 with
    | some p => (1#64 <<< ar n now p) ||| abt n lo k (bs n now p)
    | none => abt n lo k now
theorem or0 (s : BitVec 64) : s ||| 0#64 = s := by simp
theorem orA (s t u : BitVec 64) : s ||| (t ||| u) = (s ||| t) ||| u := (BitVec.or_assoc ..).symm
set_option maxHeartbeats 8000000 in
theorem c4_arcsBetween (d : Nat) {hp : HP} {ra n lo up : Nat} (h : RWS hp ra n) (hl : lo < FC n) (hu : up < FC n) (R : PO) : callD (d + 2) 47 [mR ra, mI (lo : Int), mI (up : Int)] hp R ↔ R (some (mL (abt n lo 15 up))) hp := by
  have h1 := rw_1 h
  have h6 := rw_6 h
  have f1 := FC_le n
  rw [callD_k]; simp only [entL_i, entL_l, entL_q, entL_s, entL_nil, n_X4_arcsBetween, u_X4_arcsBetween, m_X4_arcsBetween, rep_6, List.cons_append, List.nil_append, List.append_nil, List.length_cons, List.length_nil, Nat.reduceAdd, true_and]
  simp only [AW_k, AWk_1, x_push_i, x_push_l, x_lstore_3, x_iload_2, x_istore_5, x_istore_6, x_iload_6, x_icmp_ge, x_iload_5, x_iload_1, x_icmp_eq, x_istore_7, x_iload_7, x_aload_0, x_aloads_0, x_getf, x_imul, x_iadd, x_iald, x_ialds, x_istore_8, x_callv_3, x_if_eq, x_iload_8, x_lload_3, x_lshl, x_lor, x_goto, x_iinc_7, x_iinc_6, x_ret, x_ret_i, x_ret_z, x_ret_l, x_ret_c, unl_i, unl_l, unl_q, unl_r, unl_s, unl_n, k_X4_arcsBetween_0, k_X4_arcsBetween_1, k_X4_arcsBetween_2, k_X4_arcsBetween_3, k_X4_arcsBetween_4, k_X4_arcsBetween_5, k_X4_arcsBetween_6, k_X4_arcsBetween_7, k_X4_arcsBetween_8, k_X4_arcsBetween_9, k_X4_arcsBetween_10, k_X4_arcsBetween_11, k_X4_arcsBetween_12, k_X4_arcsBetween_13, k_X4_arcsBetween_14, k_X4_arcsBetween_15, k_X4_arcsBetween_16, k_X4_arcsBetween_17, k_X4_arcsBetween_18, k_X4_arcsBetween_19, k_X4_arcsBetween_20, k_X4_arcsBetween_21, k_X4_arcsBetween_22, k_X4_arcsBetween_23, k_X4_arcsBetween_24, k_X4_arcsBetween_25, k_X4_arcsBetween_26, k_X4_arcsBetween_27, k_X4_arcsBetween_28, k_X4_arcsBetween_29, k_X4_arcsBetween_30, k_X4_arcsBetween_31, k_X4_arcsBetween_32, k_X4_arcsBetween_33, k_X4_arcsBetween_34, k_X4_arcsBetween_35, k_X4_arcsBetween_36, k_X4_arcsBetween_37, k_X4_arcsBetween_38, k_X4_arcsBetween_39, k_X4_arcsBetween_40, k_X4_arcsBetween_41, k_X4_arcsBetween_42, k_X4_arcsBetween_43, k_X4_arcsBetween_44, k_X4_arcsBetween_45, k_X4_arcsBetween_46, k_X4_arcsBetween_47, k_X4_arcsBetween_48, k_X4_arcsBetween_49, k_X4_arcsBetween_50, k_X4_arcsBetween_51, k_X4_arcsBetween_52, k_X4_arcsBetween_53, k_X4_arcsBetween_54, k_X4_arcsBetween_55, k_X4_arcsBetween_56, k_X4_arcsBetween_57, k_X4_arcsBetween_58, k_X4_arcsBetween_59, k_X4_arcsBetween_60, oE_some, Int.reduceToNat, Nat.reduceAdd, true_and, and_true, List.length_cons, List.length_nil, Option.toList_some, Option.toList_none, List.cons_append, List.nil_append, Nat.reduceLeDiff, Nat.le_refl, wdS_nil, wdS_i, wdS_l, wdS_r, wdS_n, wdS_s]
  have key : ∀ (m j now : Nat) (s : BitVec 64) (y7 y8 : Option AV), j + m = 15 → now < FC n → (AWh (d + 1) [] 47 R 6 [some (mR ra), some (mI (lo : Int)), some (mI (up : Int)), some (mL s), none, some (mI (now : Int)), some (mI (j : Int)), y7, y8] [] hp (0, 0) ↔ R (some (mL (s ||| abt n lo m now))) hp) := by
    intro m
    induction m with
    | zero =>
      intro j now s y7 y8 hj hn
      have : j = 15 := by omega
      subst this
      rw [AWh_k, k_X4_arcsBetween_6]
      simp only [AW_k, AWk_1, x_push_i, x_push_l, x_lstore_3, x_iload_2, x_istore_5, x_istore_6, x_iload_6, x_icmp_ge, x_iload_5, x_iload_1, x_icmp_eq, x_istore_7, x_iload_7, x_aload_0, x_aloads_0, x_getf, x_imul, x_iadd, x_iald, x_ialds, x_istore_8, x_callv_3, x_if_eq, x_iload_8, x_lload_3, x_lshl, x_lor, x_goto, x_iinc_7, x_iinc_6, x_ret, x_ret_i, x_ret_z, x_ret_l, x_ret_c, unl_i, unl_l, unl_q, unl_r, unl_s, unl_n, k_X4_arcsBetween_0, k_X4_arcsBetween_1, k_X4_arcsBetween_2, k_X4_arcsBetween_3, k_X4_arcsBetween_4, k_X4_arcsBetween_5, k_X4_arcsBetween_6, k_X4_arcsBetween_7, k_X4_arcsBetween_8, k_X4_arcsBetween_9, k_X4_arcsBetween_10, k_X4_arcsBetween_11, k_X4_arcsBetween_12, k_X4_arcsBetween_13, k_X4_arcsBetween_14, k_X4_arcsBetween_15, k_X4_arcsBetween_16, k_X4_arcsBetween_17, k_X4_arcsBetween_18, k_X4_arcsBetween_19, k_X4_arcsBetween_20, k_X4_arcsBetween_21, k_X4_arcsBetween_22, k_X4_arcsBetween_23, k_X4_arcsBetween_24, k_X4_arcsBetween_25, k_X4_arcsBetween_26, k_X4_arcsBetween_27, k_X4_arcsBetween_28, k_X4_arcsBetween_29, k_X4_arcsBetween_30, k_X4_arcsBetween_31, k_X4_arcsBetween_32, k_X4_arcsBetween_33, k_X4_arcsBetween_34, k_X4_arcsBetween_35, k_X4_arcsBetween_36, k_X4_arcsBetween_37, k_X4_arcsBetween_38, k_X4_arcsBetween_39, k_X4_arcsBetween_40, k_X4_arcsBetween_41, k_X4_arcsBetween_42, k_X4_arcsBetween_43, k_X4_arcsBetween_44, k_X4_arcsBetween_45, k_X4_arcsBetween_46, k_X4_arcsBetween_47, k_X4_arcsBetween_48, k_X4_arcsBetween_49, k_X4_arcsBetween_50, k_X4_arcsBetween_51, k_X4_arcsBetween_52, k_X4_arcsBetween_53, k_X4_arcsBetween_54, k_X4_arcsBetween_55, k_X4_arcsBetween_56, k_X4_arcsBetween_57, k_X4_arcsBetween_58, k_X4_arcsBetween_59, k_X4_arcsBetween_60, oE_some, Int.reduceToNat, Nat.reduceAdd, true_and, and_true, List.length_cons, List.length_nil, Option.toList_some, Option.toList_none, List.cons_append, List.nil_append, Nat.reduceLeDiff, Nat.le_refl, wdS_nil, wdS_i, wdS_l, wdS_r, wdS_n, wdS_s]
      rw [if_neg (by decide)]
      unfold abt
      rw [or0]
    | succ m ih =>
      intro j now s y7 y8 hj hn
      rw [AWh_k, k_X4_arcsBetween_6]
      simp only [AW_k, AWk_1, x_push_i, x_push_l, x_lstore_3, x_iload_2, x_istore_5, x_istore_6, x_iload_6, x_icmp_ge, x_iload_5, x_iload_1, x_icmp_eq, x_istore_7, x_iload_7, x_aload_0, x_aloads_0, x_getf, x_imul, x_iadd, x_iald, x_ialds, x_istore_8, x_callv_3, x_if_eq, x_iload_8, x_lload_3, x_lshl, x_lor, x_goto, x_iinc_7, x_iinc_6, x_ret, x_ret_i, x_ret_z, x_ret_l, x_ret_c, unl_i, unl_l, unl_q, unl_r, unl_s, unl_n, k_X4_arcsBetween_0, k_X4_arcsBetween_1, k_X4_arcsBetween_2, k_X4_arcsBetween_3, k_X4_arcsBetween_4, k_X4_arcsBetween_5, k_X4_arcsBetween_6, k_X4_arcsBetween_7, k_X4_arcsBetween_8, k_X4_arcsBetween_9, k_X4_arcsBetween_10, k_X4_arcsBetween_11, k_X4_arcsBetween_12, k_X4_arcsBetween_13, k_X4_arcsBetween_14, k_X4_arcsBetween_15, k_X4_arcsBetween_16, k_X4_arcsBetween_17, k_X4_arcsBetween_18, k_X4_arcsBetween_19, k_X4_arcsBetween_20, k_X4_arcsBetween_21, k_X4_arcsBetween_22, k_X4_arcsBetween_23, k_X4_arcsBetween_24, k_X4_arcsBetween_25, k_X4_arcsBetween_26, k_X4_arcsBetween_27, k_X4_arcsBetween_28, k_X4_arcsBetween_29, k_X4_arcsBetween_30, k_X4_arcsBetween_31, k_X4_arcsBetween_32, k_X4_arcsBetween_33, k_X4_arcsBetween_34, k_X4_arcsBetween_35, k_X4_arcsBetween_36, k_X4_arcsBetween_37, k_X4_arcsBetween_38, k_X4_arcsBetween_39, k_X4_arcsBetween_40, k_X4_arcsBetween_41, k_X4_arcsBetween_42, k_X4_arcsBetween_43, k_X4_arcsBetween_44, k_X4_arcsBetween_45, k_X4_arcsBetween_46, k_X4_arcsBetween_47, k_X4_arcsBetween_48, k_X4_arcsBetween_49, k_X4_arcsBetween_50, k_X4_arcsBetween_51, k_X4_arcsBetween_52, k_X4_arcsBetween_53, k_X4_arcsBetween_54, k_X4_arcsBetween_55, k_X4_arcsBetween_56, k_X4_arcsBetween_57, k_X4_arcsBetween_58, k_X4_arcsBetween_59, k_X4_arcsBetween_60, oE_some, Int.reduceToNat, Nat.reduceAdd, true_and, and_true, List.length_cons, List.length_nil, Option.toList_some, Option.toList_none, List.cons_append, List.nil_append, Nat.reduceLeDiff, Nat.le_refl, wdS_nil, wdS_i, wdS_l, wdS_r, wdS_n, wdS_s]
      rw [w32_nat (show j < 2147483648 by omega), if_pos (show (j : Int) < w32 15 by rw [show w32 15 = 15 from rfl]; omega), w32_nat (show now < 2147483648 by omega), w32_nat (show lo < 2147483648 by omega)]
      unfold abt
      by_cases e : now = lo
      · rw [if_pos (by omega), if_pos e, or0]
      · rw [if_neg (by omega), if_neg e]
        have hw : ∀ p, p < n - 1 → (AWh (d + 1) [] 47 R 14 [some (mR ra), some (mI (lo : Int)), some (mI (up : Int)), some (mL s), none, some (mI (now : Int)), some (mI (j : Int)), some (mI (p : Int)), (if p = 0 then y8 else some (mI (bs n now (p - 1) : Int)))] [] hp (0, 0) ↔ if (dn n now p && blw n lo (bs n now p)) = true then AWh (d + 1) [] 47 R 6 [some (mR ra), some (mI (lo : Int)), some (mI (up : Int)), some (mL (s ||| (1#64 <<< ar n now p))), none, some (mI (bs n now p : Int)), some (mI ((j + 1 : Nat) : Int)), some (mI (p : Int)), some (mI (bs n now p : Int))] [] hp (0, 0) else AWh (d + 1) [] 47 R 14 [some (mR ra), some (mI (lo : Int)), some (mI (up : Int)), some (mL s), none, some (mI (now : Int)), some (mI (j : Int)), some (mI ((p + 1 : Nat) : Int)), (if p + 1 = 0 then y8 else some (mI (bs n now (p + 1 - 1) : Int)))] [] hp (0, 0)) := by
          intro p hp1
          have hb := bs_ok h1 h6 hn hp1
          rw [if_neg (show ¬ p + 1 = 0 by omega), Nat.add_sub_cancel]
          rw [AWh_k, k_X4_arcsBetween_14]
          simp only [AW_k, AWk_1, x_push_i, x_push_l, x_lstore_3, x_iload_2, x_istore_5, x_istore_6, x_iload_6, x_icmp_ge, x_iload_5, x_iload_1, x_icmp_eq, x_istore_7, x_iload_7, x_aload_0, x_aloads_0, x_getf, x_imul, x_iadd, x_iald, x_ialds, x_istore_8, x_callv_3, x_if_eq, x_iload_8, x_lload_3, x_lshl, x_lor, x_goto, x_iinc_7, x_iinc_6, x_ret, x_ret_i, x_ret_z, x_ret_l, x_ret_c, unl_i, unl_l, unl_q, unl_r, unl_s, unl_n, k_X4_arcsBetween_0, k_X4_arcsBetween_1, k_X4_arcsBetween_2, k_X4_arcsBetween_3, k_X4_arcsBetween_4, k_X4_arcsBetween_5, k_X4_arcsBetween_6, k_X4_arcsBetween_7, k_X4_arcsBetween_8, k_X4_arcsBetween_9, k_X4_arcsBetween_10, k_X4_arcsBetween_11, k_X4_arcsBetween_12, k_X4_arcsBetween_13, k_X4_arcsBetween_14, k_X4_arcsBetween_15, k_X4_arcsBetween_16, k_X4_arcsBetween_17, k_X4_arcsBetween_18, k_X4_arcsBetween_19, k_X4_arcsBetween_20, k_X4_arcsBetween_21, k_X4_arcsBetween_22, k_X4_arcsBetween_23, k_X4_arcsBetween_24, k_X4_arcsBetween_25, k_X4_arcsBetween_26, k_X4_arcsBetween_27, k_X4_arcsBetween_28, k_X4_arcsBetween_29, k_X4_arcsBetween_30, k_X4_arcsBetween_31, k_X4_arcsBetween_32, k_X4_arcsBetween_33, k_X4_arcsBetween_34, k_X4_arcsBetween_35, k_X4_arcsBetween_36, k_X4_arcsBetween_37, k_X4_arcsBetween_38, k_X4_arcsBetween_39, k_X4_arcsBetween_40, k_X4_arcsBetween_41, k_X4_arcsBetween_42, k_X4_arcsBetween_43, k_X4_arcsBetween_44, k_X4_arcsBetween_45, k_X4_arcsBetween_46, k_X4_arcsBetween_47, k_X4_arcsBetween_48, k_X4_arcsBetween_49, k_X4_arcsBetween_50, k_X4_arcsBetween_51, k_X4_arcsBetween_52, k_X4_arcsBetween_53, k_X4_arcsBetween_54, k_X4_arcsBetween_55, k_X4_arcsBetween_56, k_X4_arcsBetween_57, k_X4_arcsBetween_58, k_X4_arcsBetween_59, k_X4_arcsBetween_60, oE_some, Int.reduceToNat, Nat.reduceAdd, true_and, and_true, List.length_cons, List.length_nil, Option.toList_some, Option.toList_none, List.cons_append, List.nil_append, Nat.reduceLeDiff, Nat.le_refl, wdS_nil, wdS_i, wdS_l, wdS_r, wdS_n, wdS_s, rw_gaps h, rw_beside h, rA_15 h, gp_in h1 h6 hn hp1, bs_get h1 h6 hn hp1, rC0 h, c4_isDrop d h hn (show p < 32 by omega), c4_isBelow d h hl hb, w32_zI_0, ite_bf, rw_arcAt h, rA_14 h, ar_get h1 h6 hn hp1, sh_ar]
          rw [w32_nat (show p < 2147483648 by omega), w32_nat (show n - 1 < 2147483648 by omega), if_pos (by omega)]
          cases dn n now p <;> cases blw n lo (bs n now p) <;> exact Iff.rfl
        refine (loop_fst (P := fun p => AWh (d + 1) [] 47 R 14 [some (mR ra), some (mI (lo : Int)), some (mI (up : Int)), some (mL s), none, some (mI (now : Int)), some (mI (j : Int)), some (mI (p : Int)), (if p = 0 then y8 else some (mI (bs n now (p - 1) : Int)))] [] hp (0, 0)) (E := fun p => AWh (d + 1) [] 47 R 6 [some (mR ra), some (mI (lo : Int)), some (mI (up : Int)), some (mL (s ||| (1#64 <<< ar n now p))), none, some (mI (bs n now p : Int)), some (mI ((j + 1 : Nat) : Int)), some (mI (p : Int)), some (mI (bs n now p : Int))] [] hp (0, 0)) (f := fun p => dn n now p && blw n lo (bs n now p)) (N := n - 1) hw (n := n - 1) (a := 0) (by omega)).trans ?_
        cases e2 : fst (fun p => dn n now p && blw n lo (bs n now p)) (n - 1) 0 with
        | some p =>
          have hp1 : p < n - 1 := by have := (fst_some e2).2.1; omega
          have := ih (j + 1) (bs n now p) (s ||| (1#64 <<< ar n now p)) (some (mI (p : Int))) (some (mI (bs n now p : Int))) (by omega) (bs_ok h1 h6 hn hp1)
          rw [← orA] at this
          exact this
        | none =>
          show AWh _ _ _ _ _ _ _ _ _ ↔ _
          rw [AWh_k, k_X4_arcsBetween_14]
          simp only [AW_k, AWk_1, x_push_i, x_push_l, x_lstore_3, x_iload_2, x_istore_5, x_istore_6, x_iload_6, x_icmp_ge, x_iload_5, x_iload_1, x_icmp_eq, x_istore_7, x_iload_7, x_aload_0, x_aloads_0, x_getf, x_imul, x_iadd, x_iald, x_ialds, x_istore_8, x_callv_3, x_if_eq, x_iload_8, x_lload_3, x_lshl, x_lor, x_goto, x_iinc_7, x_iinc_6, x_ret, x_ret_i, x_ret_z, x_ret_l, x_ret_c, unl_i, unl_l, unl_q, unl_r, unl_s, unl_n, k_X4_arcsBetween_0, k_X4_arcsBetween_1, k_X4_arcsBetween_2, k_X4_arcsBetween_3, k_X4_arcsBetween_4, k_X4_arcsBetween_5, k_X4_arcsBetween_6, k_X4_arcsBetween_7, k_X4_arcsBetween_8, k_X4_arcsBetween_9, k_X4_arcsBetween_10, k_X4_arcsBetween_11, k_X4_arcsBetween_12, k_X4_arcsBetween_13, k_X4_arcsBetween_14, k_X4_arcsBetween_15, k_X4_arcsBetween_16, k_X4_arcsBetween_17, k_X4_arcsBetween_18, k_X4_arcsBetween_19, k_X4_arcsBetween_20, k_X4_arcsBetween_21, k_X4_arcsBetween_22, k_X4_arcsBetween_23, k_X4_arcsBetween_24, k_X4_arcsBetween_25, k_X4_arcsBetween_26, k_X4_arcsBetween_27, k_X4_arcsBetween_28, k_X4_arcsBetween_29, k_X4_arcsBetween_30, k_X4_arcsBetween_31, k_X4_arcsBetween_32, k_X4_arcsBetween_33, k_X4_arcsBetween_34, k_X4_arcsBetween_35, k_X4_arcsBetween_36, k_X4_arcsBetween_37, k_X4_arcsBetween_38, k_X4_arcsBetween_39, k_X4_arcsBetween_40, k_X4_arcsBetween_41, k_X4_arcsBetween_42, k_X4_arcsBetween_43, k_X4_arcsBetween_44, k_X4_arcsBetween_45, k_X4_arcsBetween_46, k_X4_arcsBetween_47, k_X4_arcsBetween_48, k_X4_arcsBetween_49, k_X4_arcsBetween_50, k_X4_arcsBetween_51, k_X4_arcsBetween_52, k_X4_arcsBetween_53, k_X4_arcsBetween_54, k_X4_arcsBetween_55, k_X4_arcsBetween_56, k_X4_arcsBetween_57, k_X4_arcsBetween_58, k_X4_arcsBetween_59, k_X4_arcsBetween_60, oE_some, Int.reduceToNat, Nat.reduceAdd, true_and, and_true, List.length_cons, List.length_nil, Option.toList_some, Option.toList_none, List.cons_append, List.nil_append, Nat.reduceLeDiff, Nat.le_refl, wdS_nil, wdS_i, wdS_l, wdS_r, wdS_n, wdS_s, rw_gaps h]
          rw [if_neg (Int.lt_irrefl _)]
          exact ih (j + 1) now s _ _ (by omega) hn
  have := key 15 0 up 0#64 none none rfl hu
  rw [show (0#64 ||| abt n lo 15 up) = abt n lo 15 up by simp] at this
  exact this
