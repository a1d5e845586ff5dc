/-! ===== the class's arcs: the rest ===== -/
theorem stB_succ (f : Nat → Bool) (k : Nat) : stB f (k + 1) = stB f k ||| (if f k = true then 1#64 <<< k else 0#64) := rfl
set_option maxHeartbeats 8000000 in
theorem c3_takenBy (d : Nat) {hp : HP} {ra n kind m : Nat} (h : RWS hp ra n) (hk : kind < 6) (hm : m < 16) (R : PO) : callD (d + 3) 26 [mI (kind : Int), mI (m : Int), mR (ra + 1)] hp R ↔ R (some (mL (stB (tk n kind m) (NA n)))) hp := by
  have f1 := NA_le n
  rw [callD_k]; simp only [entL_i, entL_l, entL_q, entL_s, entL_nil, n_X3_takenBy, u_X3_takenBy, m_X3_takenBy, rep_3, List.cons_append, List.nil_append, List.append_nil, List.length_cons, List.length_nil, Nat.reduceAdd, true_and]
  simp only [AW_k, AWk_1, x_push_i, x_push_l, x_lstore_3, x_istore_5, x_iload_5, x_aload_2, x_aloads_2, x_getf, x_icmp_ge, x_lload_3, x_iload_0, x_iload_1, x_call_4, x_if_eq, x_lshl, x_goto, x_lor, x_iinc_5, x_ret, x_ret_i, x_ret_z, x_ret_l, x_ret_c, unl_i, unl_l, unl_q, unl_r, unl_s, unl_n, k_X3_takenBy_0, k_X3_takenBy_1, k_X3_takenBy_2, k_X3_takenBy_3, k_X3_takenBy_4, k_X3_takenBy_5, k_X3_takenBy_6, k_X3_takenBy_7, k_X3_takenBy_8, k_X3_takenBy_9, k_X3_takenBy_10, k_X3_takenBy_11, k_X3_takenBy_12, k_X3_takenBy_13, k_X3_takenBy_14, k_X3_takenBy_15, k_X3_takenBy_16, k_X3_takenBy_17, k_X3_takenBy_18, k_X3_takenBy_19, k_X3_takenBy_20, k_X3_takenBy_21, k_X3_takenBy_22, k_X3_takenBy_23, k_X3_takenBy_24, k_X3_takenBy_25, oE_some, Int.reduceToNat, Nat.reduceAdd, true_and, and_true, List.length_cons, List.length_nil, Option.toList_some, Option.toList_none, List.cons_append, List.nil_append, Nat.reduceLeDiff, Nat.le_refl, wdS_nil, wdS_i, wdS_l, wdS_r, wdS_n, wdS_s]
  refine (loop_to (P := fun a => AWh (d + 2) [] 26 R 4 [some (mI (kind : Int)), some (mI (m : Int)), some (mR (ra + 1)), some (mL (stB (tk n kind m) a)), none, some (mI (a : Int))] [] hp (0, 0)) (a := 0) (b := NA n) (by omega) ?_).trans ?_
  · intro a _ ha
    rw [AWh_k, k_X3_takenBy_4]
    simp only [AW_k, AWk_1, x_push_i, x_push_l, x_lstore_3, x_istore_5, x_iload_5, x_aload_2, x_aloads_2, x_getf, x_icmp_ge, x_lload_3, x_iload_0, x_iload_1, x_call_4, x_if_eq, x_lshl, x_goto, x_lor, x_iinc_5, x_ret, x_ret_i, x_ret_z, x_ret_l, x_ret_c, unl_i, unl_l, unl_q, unl_r, unl_s, unl_n, k_X3_takenBy_0, k_X3_takenBy_1, k_X3_takenBy_2, k_X3_takenBy_3, k_X3_takenBy_4, k_X3_takenBy_5, k_X3_takenBy_6, k_X3_takenBy_7, k_X3_takenBy_8, k_X3_takenBy_9, k_X3_takenBy_10, k_X3_takenBy_11, k_X3_takenBy_12, k_X3_takenBy_13, k_X3_takenBy_14, k_X3_takenBy_15, k_X3_takenBy_16, k_X3_takenBy_17, k_X3_takenBy_18, k_X3_takenBy_19, k_X3_takenBy_20, k_X3_takenBy_21, k_X3_takenBy_22, k_X3_takenBy_23, k_X3_takenBy_24, k_X3_takenBy_25, oE_some, Int.reduceToNat, Nat.reduceAdd, true_and, and_true, List.length_cons, List.length_nil, Option.toList_some, Option.toList_none, List.cons_append, List.nil_append, Nat.reduceLeDiff, Nat.le_refl, wdS_nil, wdS_i, wdS_l, wdS_r, wdS_n, wdS_s, rw_ac h, c3_takes d h hk hm ha, w32_zI_0, ite_bf, sh_k (show a < 64 by omega)]
    rw [w32_nat (show a < 2147483648 by omega), w32_nat (NA_31 n), if_pos (by omega)]
    simp only [stB_succ]
    cases tk n kind m a <;> exact Iff.rfl
  · rw [AWh_k, k_X3_takenBy_4]
    simp only [AW_k, AWk_1, x_push_i, x_push_l, x_lstore_3, x_istore_5, x_iload_5, x_aload_2, x_aloads_2, x_getf, x_icmp_ge, x_lload_3, x_iload_0, x_iload_1, x_call_4, x_if_eq, x_lshl, x_goto, x_lor, x_iinc_5, x_ret, x_ret_i, x_ret_z, x_ret_l, x_ret_c, unl_i, unl_l, unl_q, unl_r, unl_s, unl_n, k_X3_takenBy_0, k_X3_takenBy_1, k_X3_takenBy_2, k_X3_takenBy_3, k_X3_takenBy_4, k_X3_takenBy_5, k_X3_takenBy_6, k_X3_takenBy_7, k_X3_takenBy_8, k_X3_takenBy_9, k_X3_takenBy_10, k_X3_takenBy_11, k_X3_takenBy_12, k_X3_takenBy_13, k_X3_takenBy_14, k_X3_takenBy_15, k_X3_takenBy_16, k_X3_takenBy_17, k_X3_takenBy_18, k_X3_takenBy_19, k_X3_takenBy_20, k_X3_takenBy_21, k_X3_takenBy_22, k_X3_takenBy_23, k_X3_takenBy_24, k_X3_takenBy_25, oE_some, Int.reduceToNat, Nat.reduceAdd, true_and, and_true, List.length_cons, List.length_nil, Option.toList_some, Option.toList_none, List.cons_append, List.nil_append, Nat.reduceLeDiff, Nat.le_refl, wdS_nil, wdS_i, wdS_l, wdS_r, wdS_n, wdS_s, rw_ac h]
    rw [if_neg (Int.lt_irrefl _)]
/-- k numbers from v on behind acc; those of them alone that are (or aren't) left -/
def apU : Nat → Nat → Nat → Nat
  | 0, _, acc => acc
  | k + 1, v, acc => apU k (v + 1) (acc * 10 + v)
def apB (n a : Nat) (z : Bool) : Nat → Nat → Nat → Nat
  | 0, _, acc => acc
  | k + 1, v, acc => apB n a z k (v + 1) (if tst (lf n a) (v - lo n a - 1) = z then acc * 10 + v else acc)
def lrw (n a : Nat) : Nat := apU (n - hi n a) (hi n a + 1) (apB n a false (hi n a - lo n a - 1) (lo n a + 1) (apB n a true (hi n a - lo n a - 1) (lo n a + 1) (apU (lo n a - 1) 1 0) * 100 + hi n a * 10 + lo n a))
theorem iBitI {a k : Nat} (h : a < 2147483648) (hk : k < 32) : w32 (iAnd (iShr (a : Int) (k : Int)) 1) = zI (tst a k) := by
  rw [iShr_nat h hk, iAnd_one, w32_id (by omega) (by omega)]
  unfold tst zI
  by_cases e : a / 2 ^ k % 2 = 1
  · rw [decide_eq_true e, if_pos rfl]; omega
  · rw [decide_eq_false e, if_neg (by decide)]; omega
set_option maxHeartbeats 8000000 in
theorem c1_withBetween (d : Nat) {hp : HP} {ra n a acc : Nat} {z : Bool} (h : RWS hp ra n) (ha : a < NA n) (R : PO) : callD (d + 1) 15 [mR (ra + 1), mI (acc : Int), mI (a : Int), mI (zI z)] hp R ↔ R (some (mI (apB n a z (hi n a - lo n a - 1) (lo n a + 1) acc : Int))) hp := by
  obtain ⟨a1, a2, a3, -, -⟩ := arc_ok (rw_1 h) (rw_6 h) ha
  have b3 := hi_8 n a
  have b4 := lo_8 n a
  have b5 : lf n a < 2147483648 := Nat.lt_trans (lf_16 n a) (by decide)
  have g3 := @gI (hi n) (NA n) _ a rfl ha (NA_31 n)
  have g4 := @gI (lo n) (NA n) _ a rfl ha (NA_31 n)
  have g5 := @gI (lf n) (NA n) _ a rfl ha (NA_31 n)
  rw [callD_k]; simp only [entL_i, entL_l, entL_q, entL_s, entL_nil, n_X1_withBetween, u_X1_withBetween, m_X1_withBetween, rep_2, List.cons_append, List.nil_append, List.append_nil, List.length_cons, List.length_nil, Nat.reduceAdd, true_and]
  simp only [AW_k, AWk_1, x_iload_1, x_istore_4, x_aload_0, x_aloads_0, x_getf, x_iload_2, x_iald, x_ialds, x_push_i, x_push_l, x_iadd, x_istore_5, x_iload_5, x_icmp_ge, x_isub, x_ishr, x_iand, x_iload_3, x_icmp_ne, x_iload_4, x_imul, x_iinc_5, x_goto, x_ret, x_ret_i, x_ret_z, x_ret_l, x_ret_c, unl_i, unl_l, unl_q, unl_r, unl_s, unl_n, k_X1_withBetween_0, k_X1_withBetween_1, k_X1_withBetween_2, k_X1_withBetween_3, k_X1_withBetween_4, k_X1_withBetween_5, k_X1_withBetween_6, k_X1_withBetween_7, k_X1_withBetween_8, k_X1_withBetween_9, k_X1_withBetween_10, k_X1_withBetween_11, k_X1_withBetween_12, k_X1_withBetween_13, k_X1_withBetween_14, k_X1_withBetween_15, k_X1_withBetween_16, k_X1_withBetween_17, k_X1_withBetween_18, k_X1_withBetween_19, k_X1_withBetween_20, k_X1_withBetween_21, k_X1_withBetween_22, k_X1_withBetween_23, k_X1_withBetween_24, k_X1_withBetween_25, k_X1_withBetween_26, k_X1_withBetween_27, k_X1_withBetween_28, k_X1_withBetween_29, k_X1_withBetween_30, k_X1_withBetween_31, k_X1_withBetween_32, k_X1_withBetween_33, k_X1_withBetween_34, k_X1_withBetween_35, k_X1_withBetween_36, k_X1_withBetween_37, k_X1_withBetween_38, k_X1_withBetween_39, k_X1_withBetween_40, k_X1_withBetween_41, oE_some, Int.reduceToNat, Nat.reduceAdd, true_and, and_true, List.length_cons, List.length_nil, Option.toList_some, Option.toList_none, List.cons_append, List.nil_append, Nat.reduceLeDiff, Nat.le_refl, wdS_nil, wdS_i, wdS_l, wdS_r, wdS_n, wdS_s, rw_low h, rA_3 h, bI rfl ha (NA_31 n), g4]
  have key : ∀ (k v c : Nat), v + k = hi n a → lo n a < v → (AWh d [] 15 R 9 [some (mR (ra + 1)), some (mI (acc : Int)), some (mI (a : Int)), some (mI (zI z)), some (mI (c : Int)), some (mI (v : Int))] [] hp (0, 0) ↔ R (some (mI (apB n a z k v c : Int))) hp) := by
    intro k
    induction k with
    | zero =>
      intro v c hv1 hv2
      rw [AWh_k, k_X1_withBetween_9]
      simp only [AW_k, AWk_1, x_iload_1, x_istore_4, x_aload_0, x_aloads_0, x_getf, x_iload_2, x_iald, x_ialds, x_push_i, x_push_l, x_iadd, x_istore_5, x_iload_5, x_icmp_ge, x_isub, x_ishr, x_iand, x_iload_3, x_icmp_ne, x_iload_4, x_imul, x_iinc_5, x_goto, x_ret, x_ret_i, x_ret_z, x_ret_l, x_ret_c, unl_i, unl_l, unl_q, unl_r, unl_s, unl_n, k_X1_withBetween_0, k_X1_withBetween_1, k_X1_withBetween_2, k_X1_withBetween_3, k_X1_withBetween_4, k_X1_withBetween_5, k_X1_withBetween_6, k_X1_withBetween_7, k_X1_withBetween_8, k_X1_withBetween_9, k_X1_withBetween_10, k_X1_withBetween_11, k_X1_withBetween_12, k_X1_withBetween_13, k_X1_withBetween_14, k_X1_withBetween_15, k_X1_withBetween_16, k_X1_withBetween_17, k_X1_withBetween_18, k_X1_withBetween_19, k_X1_withBetween_20, k_X1_withBetween_21, k_X1_withBetween_22, k_X1_withBetween_23, k_X1_withBetween_24, k_X1_withBetween_25, k_X1_withBetween_26, k_X1_withBetween_27, k_X1_withBetween_28, k_X1_withBetween_29, k_X1_withBetween_30, k_X1_withBetween_31, k_X1_withBetween_32, k_X1_withBetween_33, k_X1_withBetween_34, k_X1_withBetween_35, k_X1_withBetween_36, k_X1_withBetween_37, k_X1_withBetween_38, k_X1_withBetween_39, k_X1_withBetween_40, k_X1_withBetween_41, oE_some, Int.reduceToNat, Nat.reduceAdd, true_and, and_true, List.length_cons, List.length_nil, Option.toList_some, Option.toList_none, List.cons_append, List.nil_append, Nat.reduceLeDiff, Nat.le_refl, wdS_nil, wdS_i, wdS_l, wdS_r, wdS_n, wdS_s, rw_high h, rA_4 h, bI rfl ha (NA_31 n), g3]
      rw [w32_nat (show v < 2147483648 by omega), w32_nat (show hi n a < 2147483648 by omega), if_neg (by omega)]
      exact Iff.rfl
    | succ k ih =>
      intro v c hv1 hv2
      have ev : (v : Int) - (lo n a : Int) - 1 = ((v - lo n a - 1 : Nat) : Int) := by omega
      rw [AWh_k, k_X1_withBetween_9]
      simp only [AW_k, AWk_1, x_iload_1, x_istore_4, x_aload_0, x_aloads_0, x_getf, x_iload_2, x_iald, x_ialds, x_push_i, x_push_l, x_iadd, x_istore_5, x_iload_5, x_icmp_ge, x_isub, x_ishr, x_iand, x_iload_3, x_icmp_ne, x_iload_4, x_imul, x_iinc_5, x_goto, x_ret, x_ret_i, x_ret_z, x_ret_l, x_ret_c, unl_i, unl_l, unl_q, unl_r, unl_s, unl_n, k_X1_withBetween_0, k_X1_withBetween_1, k_X1_withBetween_2, k_X1_withBetween_3, k_X1_withBetween_4, k_X1_withBetween_5, k_X1_withBetween_6, k_X1_withBetween_7, k_X1_withBetween_8, k_X1_withBetween_9, k_X1_withBetween_10, k_X1_withBetween_11, k_X1_withBetween_12, k_X1_withBetween_13, k_X1_withBetween_14, k_X1_withBetween_15, k_X1_withBetween_16, k_X1_withBetween_17, k_X1_withBetween_18, k_X1_withBetween_19, k_X1_withBetween_20, k_X1_withBetween_21, k_X1_withBetween_22, k_X1_withBetween_23, k_X1_withBetween_24, k_X1_withBetween_25, k_X1_withBetween_26, k_X1_withBetween_27, k_X1_withBetween_28, k_X1_withBetween_29, k_X1_withBetween_30, k_X1_withBetween_31, k_X1_withBetween_32, k_X1_withBetween_33, k_X1_withBetween_34, k_X1_withBetween_35, k_X1_withBetween_36, k_X1_withBetween_37, k_X1_withBetween_38, k_X1_withBetween_39, k_X1_withBetween_40, k_X1_withBetween_41, oE_some, Int.reduceToNat, Nat.reduceAdd, true_and, and_true, List.length_cons, List.length_nil, Option.toList_some, Option.toList_none, List.cons_append, List.nil_append, Nat.reduceLeDiff, Nat.le_refl, wdS_nil, wdS_i, wdS_l, wdS_r, wdS_n, wdS_s, rw_high h, rA_4 h, bI rfl ha (NA_31 n), g3, rw_left h, rA_5 h, g5, rw_low h, rA_3 h, g4, ev, iBitI b5 (show v - lo n a - 1 < 32 by omega), w32_zI]
      rw [w32_nat (show v < 2147483648 by omega), w32_nat (show hi n a < 2147483648 by omega), if_pos (by omega)]
      unfold apB
      have i1 := ih (v + 1) (c * 10 + v) (by omega) (by omega)
      have i2 := ih (v + 1) c (by omega) (by omega)
      by_cases e : tst (lf n a) (v - lo n a - 1) = z
      · rw [if_pos (by rw [e]), if_pos e]
        exact i1
      · rw [if_neg (by intro q; apply e; revert q; cases tst (lf n a) (v - lo n a - 1) <;> cases z <;> decide), if_neg e]
        exact i2
  have := key (hi n a - lo n a - 1) (lo n a + 1) acc (by omega) (by omega)
  exact this
set_option maxHeartbeats 8000000 in
theorem c1_leastRowWith (d : Nat) {hp : HP} {ra n a : Nat} (h : RWS hp ra n) (ha : a < NA n) (R : PO) : callD (d + 2) 14 [mR (ra + 1), mI (a : Int)] hp R ↔ R (some (mI (lrw n a : Int))) hp := by
  obtain ⟨a1, a2, a3, -, -⟩ := arc_ok (rw_1 h) (rw_6 h) ha
  have h6 := rw_6 h
  have b3 := hi_8 n a
  have b4 := lo_8 n a
  have g3 := @gI (hi n) (NA n) _ a rfl ha (NA_31 n)
  have g4 := @gI (lo n) (NA n) _ a rfl ha (NA_31 n)
  have k2 : ∀ (k v c : Nat), v + k = n + 1 → (AWh (d + 1) [] 14 R 53 [some (mR (ra + 1)), some (mI (a : Int)), some (mI (c : Int)), some (mI (v : Int))] [] hp (0, 0) ↔ R (some (mI (apU k v c : Int))) hp) := by
    intro k
    induction k with
    | zero =>
      intro v c hv1
      rw [AWh_k, k_X1_leastRowWith_53]
      simp only [AW_k, AWk_1, x_push_i, x_push_l, x_istore_2, x_istore_3, x_iload_3, x_aload_0, x_aloads_0, x_getf, x_iload_1, x_iald, x_ialds, x_icmp_ge, x_iload_2, x_imul, x_iadd, x_iinc_3, x_goto, x_callv_4, x_icmp_gt, x_ret, x_ret_i, x_ret_z, x_ret_l, x_ret_c, unl_i, unl_l, unl_q, unl_r, unl_s, unl_n, k_X1_leastRowWith_0, k_X1_leastRowWith_1, k_X1_leastRowWith_2, k_X1_leastRowWith_3, k_X1_leastRowWith_4, k_X1_leastRowWith_5, k_X1_leastRowWith_6, k_X1_leastRowWith_7, k_X1_leastRowWith_8, k_X1_leastRowWith_9, k_X1_leastRowWith_10, k_X1_leastRowWith_11, k_X1_leastRowWith_12, k_X1_leastRowWith_13, k_X1_leastRowWith_14, k_X1_leastRowWith_15, k_X1_leastRowWith_16, k_X1_leastRowWith_17, k_X1_leastRowWith_18, k_X1_leastRowWith_19, k_X1_leastRowWith_20, k_X1_leastRowWith_21, k_X1_leastRowWith_22, k_X1_leastRowWith_23, k_X1_leastRowWith_24, k_X1_leastRowWith_25, k_X1_leastRowWith_26, k_X1_leastRowWith_27, k_X1_leastRowWith_28, k_X1_leastRowWith_29, k_X1_leastRowWith_30, k_X1_leastRowWith_31, k_X1_leastRowWith_32, k_X1_leastRowWith_33, k_X1_leastRowWith_34, k_X1_leastRowWith_35, k_X1_leastRowWith_36, k_X1_leastRowWith_37, k_X1_leastRowWith_38, k_X1_leastRowWith_39, k_X1_leastRowWith_40, k_X1_leastRowWith_41, k_X1_leastRowWith_42, k_X1_leastRowWith_43, k_X1_leastRowWith_44, k_X1_leastRowWith_45, k_X1_leastRowWith_46, k_X1_leastRowWith_47, k_X1_leastRowWith_48, k_X1_leastRowWith_49, k_X1_leastRowWith_50, k_X1_leastRowWith_51, k_X1_leastRowWith_52, k_X1_leastRowWith_53, k_X1_leastRowWith_54, k_X1_leastRowWith_55, k_X1_leastRowWith_56, k_X1_leastRowWith_57, k_X1_leastRowWith_58, k_X1_leastRowWith_59, k_X1_leastRowWith_60, k_X1_leastRowWith_61, k_X1_leastRowWith_62, k_X1_leastRowWith_63, k_X1_leastRowWith_64, k_X1_leastRowWith_65, k_X1_leastRowWith_66, oE_some, Int.reduceToNat, Nat.reduceAdd, true_and, and_true, List.length_cons, List.length_nil, Option.toList_some, Option.toList_none, List.cons_append, List.nil_append, Nat.reduceLeDiff, Nat.le_refl, wdS_nil, wdS_i, wdS_l, wdS_r, wdS_n, wdS_s, rw_an h]
      rw [w32_nat (show v < 2147483648 by omega), w32_nat (show n < 2147483648 by omega), if_pos (by omega)]
      exact Iff.rfl
    | succ k ih =>
      intro v c hv1
      rw [AWh_k, k_X1_leastRowWith_53]
      simp only [AW_k, AWk_1, x_push_i, x_push_l, x_istore_2, x_istore_3, x_iload_3, x_aload_0, x_aloads_0, x_getf, x_iload_1, x_iald, x_ialds, x_icmp_ge, x_iload_2, x_imul, x_iadd, x_iinc_3, x_goto, x_callv_4, x_icmp_gt, x_ret, x_ret_i, x_ret_z, x_ret_l, x_ret_c, unl_i, unl_l, unl_q, unl_r, unl_s, unl_n, k_X1_leastRowWith_0, k_X1_leastRowWith_1, k_X1_leastRowWith_2, k_X1_leastRowWith_3, k_X1_leastRowWith_4, k_X1_leastRowWith_5, k_X1_leastRowWith_6, k_X1_leastRowWith_7, k_X1_leastRowWith_8, k_X1_leastRowWith_9, k_X1_leastRowWith_10, k_X1_leastRowWith_11, k_X1_leastRowWith_12, k_X1_leastRowWith_13, k_X1_leastRowWith_14, k_X1_leastRowWith_15, k_X1_leastRowWith_16, k_X1_leastRowWith_17, k_X1_leastRowWith_18, k_X1_leastRowWith_19, k_X1_leastRowWith_20, k_X1_leastRowWith_21, k_X1_leastRowWith_22, k_X1_leastRowWith_23, k_X1_leastRowWith_24, k_X1_leastRowWith_25, k_X1_leastRowWith_26, k_X1_leastRowWith_27, k_X1_leastRowWith_28, k_X1_leastRowWith_29, k_X1_leastRowWith_30, k_X1_leastRowWith_31, k_X1_leastRowWith_32, k_X1_leastRowWith_33, k_X1_leastRowWith_34, k_X1_leastRowWith_35, k_X1_leastRowWith_36, k_X1_leastRowWith_37, k_X1_leastRowWith_38, k_X1_leastRowWith_39, k_X1_leastRowWith_40, k_X1_leastRowWith_41, k_X1_leastRowWith_42, k_X1_leastRowWith_43, k_X1_leastRowWith_44, k_X1_leastRowWith_45, k_X1_leastRowWith_46, k_X1_leastRowWith_47, k_X1_leastRowWith_48, k_X1_leastRowWith_49, k_X1_leastRowWith_50, k_X1_leastRowWith_51, k_X1_leastRowWith_52, k_X1_leastRowWith_53, k_X1_leastRowWith_54, k_X1_leastRowWith_55, k_X1_leastRowWith_56, k_X1_leastRowWith_57, k_X1_leastRowWith_58, k_X1_leastRowWith_59, k_X1_leastRowWith_60, k_X1_leastRowWith_61, k_X1_leastRowWith_62, k_X1_leastRowWith_63, k_X1_leastRowWith_64, k_X1_leastRowWith_65, k_X1_leastRowWith_66, oE_some, Int.reduceToNat, Nat.reduceAdd, true_and, and_true, List.length_cons, List.length_nil, Option.toList_some, Option.toList_none, List.cons_append, List.nil_append, Nat.reduceLeDiff, Nat.le_refl, wdS_nil, wdS_i, wdS_l, wdS_r, wdS_n, wdS_s, rw_an h]
      rw [w32_nat (show v < 2147483648 by omega), w32_nat (show n < 2147483648 by omega), if_neg (by omega)]
      exact ih (v + 1) (c * 10 + v) (by omega)
  have k1 : ∀ (k v c : Nat), v + k = lo n a → (AWh (d + 1) [] 14 R 4 [some (mR (ra + 1)), some (mI (a : Int)), some (mI (c : Int)), some (mI (v : Int))] [] hp (0, 0) ↔ R (some (mI (apU (n - hi n a) (hi n a + 1) (apB n a false (hi n a - lo n a - 1) (lo n a + 1) (apB n a true (hi n a - lo n a - 1) (lo n a + 1) (apU k v c) * 100 + hi n a * 10 + lo n a)) : Int))) hp) := by
    intro k
    induction k with
    | zero =>
      intro v c hv1
      have w1 := c1_withBetween d (acc := c) (z := true) h ha
      have w2 := c1_withBetween d (acc := apB n a true (hi n a - lo n a - 1) (lo n a + 1) c * 100 + hi n a * 10 + lo n a) (z := false) h ha
      have e2 : (apB n a true (hi n a - lo n a - 1) (lo n a + 1) c : Int) * 100 + (hi n a : Int) * 10 + (lo n a : Int) = ((apB n a true (hi n a - lo n a - 1) (lo n a + 1) c * 100 + hi n a * 10 + lo n a : Nat) : Int) := by omega
      rw [zI_t] at w1
      rw [zI_f] at w2
      rw [AWh_k, k_X1_leastRowWith_4]
      simp only [AW_k, AWk_1, x_push_i, x_push_l, x_istore_2, x_istore_3, x_iload_3, x_aload_0, x_aloads_0, x_getf, x_iload_1, x_iald, x_ialds, x_icmp_ge, x_iload_2, x_imul, x_iadd, x_iinc_3, x_goto, x_callv_4, x_icmp_gt, x_ret, x_ret_i, x_ret_z, x_ret_l, x_ret_c, unl_i, unl_l, unl_q, unl_r, unl_s, unl_n, k_X1_leastRowWith_0, k_X1_leastRowWith_1, k_X1_leastRowWith_2, k_X1_leastRowWith_3, k_X1_leastRowWith_4, k_X1_leastRowWith_5, k_X1_leastRowWith_6, k_X1_leastRowWith_7, k_X1_leastRowWith_8, k_X1_leastRowWith_9, k_X1_leastRowWith_10, k_X1_leastRowWith_11, k_X1_leastRowWith_12, k_X1_leastRowWith_13, k_X1_leastRowWith_14, k_X1_leastRowWith_15, k_X1_leastRowWith_16, k_X1_leastRowWith_17, k_X1_leastRowWith_18, k_X1_leastRowWith_19, k_X1_leastRowWith_20, k_X1_leastRowWith_21, k_X1_leastRowWith_22, k_X1_leastRowWith_23, k_X1_leastRowWith_24, k_X1_leastRowWith_25, k_X1_leastRowWith_26, k_X1_leastRowWith_27, k_X1_leastRowWith_28, k_X1_leastRowWith_29, k_X1_leastRowWith_30, k_X1_leastRowWith_31, k_X1_leastRowWith_32, k_X1_leastRowWith_33, k_X1_leastRowWith_34, k_X1_leastRowWith_35, k_X1_leastRowWith_36, k_X1_leastRowWith_37, k_X1_leastRowWith_38, k_X1_leastRowWith_39, k_X1_leastRowWith_40, k_X1_leastRowWith_41, k_X1_leastRowWith_42, k_X1_leastRowWith_43, k_X1_leastRowWith_44, k_X1_leastRowWith_45, k_X1_leastRowWith_46, k_X1_leastRowWith_47, k_X1_leastRowWith_48, k_X1_leastRowWith_49, k_X1_leastRowWith_50, k_X1_leastRowWith_51, k_X1_leastRowWith_52, k_X1_leastRowWith_53, k_X1_leastRowWith_54, k_X1_leastRowWith_55, k_X1_leastRowWith_56, k_X1_leastRowWith_57, k_X1_leastRowWith_58, k_X1_leastRowWith_59, k_X1_leastRowWith_60, k_X1_leastRowWith_61, k_X1_leastRowWith_62, k_X1_leastRowWith_63, k_X1_leastRowWith_64, k_X1_leastRowWith_65, k_X1_leastRowWith_66, oE_some, Int.reduceToNat, Nat.reduceAdd, true_and, and_true, List.length_cons, List.length_nil, Option.toList_some, Option.toList_none, List.cons_append, List.nil_append, Nat.reduceLeDiff, Nat.le_refl, wdS_nil, wdS_i, wdS_l, wdS_r, wdS_n, wdS_s, rw_low h, rA_3 h, bI rfl ha (NA_31 n), g4, rC1 h, w1, rw_high h, rA_4 h, g3, e2, w2]
      rw [w32_nat (show v < 2147483648 by omega), w32_nat (show lo n a < 2147483648 by omega), if_neg (by omega)]
      exact k2 (n - hi n a) (hi n a + 1) _ (by omega)
    | succ k ih =>
      intro v c hv1
      rw [AWh_k, k_X1_leastRowWith_4]
      simp only [AW_k, AWk_1, x_push_i, x_push_l, x_istore_2, x_istore_3, x_iload_3, x_aload_0, x_aloads_0, x_getf, x_iload_1, x_iald, x_ialds, x_icmp_ge, x_iload_2, x_imul, x_iadd, x_iinc_3, x_goto, x_callv_4, x_icmp_gt, x_ret, x_ret_i, x_ret_z, x_ret_l, x_ret_c, unl_i, unl_l, unl_q, unl_r, unl_s, unl_n, k_X1_leastRowWith_0, k_X1_leastRowWith_1, k_X1_leastRowWith_2, k_X1_leastRowWith_3, k_X1_leastRowWith_4, k_X1_leastRowWith_5, k_X1_leastRowWith_6, k_X1_leastRowWith_7, k_X1_leastRowWith_8, k_X1_leastRowWith_9, k_X1_leastRowWith_10, k_X1_leastRowWith_11, k_X1_leastRowWith_12, k_X1_leastRowWith_13, k_X1_leastRowWith_14, k_X1_leastRowWith_15, k_X1_leastRowWith_16, k_X1_leastRowWith_17, k_X1_leastRowWith_18, k_X1_leastRowWith_19, k_X1_leastRowWith_20, k_X1_leastRowWith_21, k_X1_leastRowWith_22, k_X1_leastRowWith_23, k_X1_leastRowWith_24, k_X1_leastRowWith_25, k_X1_leastRowWith_26, k_X1_leastRowWith_27, k_X1_leastRowWith_28, k_X1_leastRowWith_29, k_X1_leastRowWith_30, k_X1_leastRowWith_31, k_X1_leastRowWith_32, k_X1_leastRowWith_33, k_X1_leastRowWith_34, k_X1_leastRowWith_35, k_X1_leastRowWith_36, k_X1_leastRowWith_37, k_X1_leastRowWith_38, k_X1_leastRowWith_39, k_X1_leastRowWith_40, k_X1_leastRowWith_41, k_X1_leastRowWith_42, k_X1_leastRowWith_43, k_X1_leastRowWith_44, k_X1_leastRowWith_45, k_X1_leastRowWith_46, k_X1_leastRowWith_47, k_X1_leastRowWith_48, k_X1_leastRowWith_49, k_X1_leastRowWith_50, k_X1_leastRowWith_51, k_X1_leastRowWith_52, k_X1_leastRowWith_53, k_X1_leastRowWith_54, k_X1_leastRowWith_55, k_X1_leastRowWith_56, k_X1_leastRowWith_57, k_X1_leastRowWith_58, k_X1_leastRowWith_59, k_X1_leastRowWith_60, k_X1_leastRowWith_61, k_X1_leastRowWith_62, k_X1_leastRowWith_63, k_X1_leastRowWith_64, k_X1_leastRowWith_65, k_X1_leastRowWith_66, oE_some, Int.reduceToNat, Nat.reduceAdd, true_and, and_true, List.length_cons, List.length_nil, Option.toList_some, Option.toList_none, List.cons_append, List.nil_append, Nat.reduceLeDiff, Nat.le_refl, wdS_nil, wdS_i, wdS_l, wdS_r, wdS_n, wdS_s, rw_low h, rA_3 h, bI rfl ha (NA_31 n), g4]
      rw [w32_nat (show v < 2147483648 by omega), w32_nat (show lo n a < 2147483648 by omega), if_pos (by omega)]
      exact ih (v + 1) (c * 10 + v) (by omega)
  rw [callD_k]; simp only [entL_i, entL_l, entL_q, entL_s, entL_nil, n_X1_leastRowWith, u_X1_leastRowWith, m_X1_leastRowWith, rep_2, List.cons_append, List.nil_append, List.append_nil, List.length_cons, List.length_nil, Nat.reduceAdd, true_and]
  simp only [AW_k, AWk_1, x_push_i, x_push_l, x_istore_2, x_istore_3, x_iload_3, x_aload_0, x_aloads_0, x_getf, x_iload_1, x_iald, x_ialds, x_icmp_ge, x_iload_2, x_imul, x_iadd, x_iinc_3, x_goto, x_callv_4, x_icmp_gt, x_ret, x_ret_i, x_ret_z, x_ret_l, x_ret_c, unl_i, unl_l, unl_q, unl_r, unl_s, unl_n, k_X1_leastRowWith_0, k_X1_leastRowWith_1, k_X1_leastRowWith_2, k_X1_leastRowWith_3, k_X1_leastRowWith_4, k_X1_leastRowWith_5, k_X1_leastRowWith_6, k_X1_leastRowWith_7, k_X1_leastRowWith_8, k_X1_leastRowWith_9, k_X1_leastRowWith_10, k_X1_leastRowWith_11, k_X1_leastRowWith_12, k_X1_leastRowWith_13, k_X1_leastRowWith_14, k_X1_leastRowWith_15, k_X1_leastRowWith_16, k_X1_leastRowWith_17, k_X1_leastRowWith_18, k_X1_leastRowWith_19, k_X1_leastRowWith_20, k_X1_leastRowWith_21, k_X1_leastRowWith_22, k_X1_leastRowWith_23, k_X1_leastRowWith_24, k_X1_leastRowWith_25, k_X1_leastRowWith_26, k_X1_leastRowWith_27, k_X1_leastRowWith_28, k_X1_leastRowWith_29, k_X1_leastRowWith_30, k_X1_leastRowWith_31, k_X1_leastRowWith_32, k_X1_leastRowWith_33, k_X1_leastRowWith_34, k_X1_leastRowWith_35, k_X1_leastRowWith_36, k_X1_leastRowWith_37, k_X1_leastRowWith_38, k_X1_leastRowWith_39, k_X1_leastRowWith_40, k_X1_leastRowWith_41, k_X1_leastRowWith_42, k_X1_leastRowWith_43, k_X1_leastRowWith_44, k_X1_leastRowWith_45, k_X1_leastRowWith_46, k_X1_leastRowWith_47, k_X1_leastRowWith_48, k_X1_leastRowWith_49, k_X1_leastRowWith_50, k_X1_leastRowWith_51, k_X1_leastRowWith_52, k_X1_leastRowWith_53, k_X1_leastRowWith_54, k_X1_leastRowWith_55, k_X1_leastRowWith_56, k_X1_leastRowWith_57, k_X1_leastRowWith_58, k_X1_leastRowWith_59, k_X1_leastRowWith_60, k_X1_leastRowWith_61, k_X1_leastRowWith_62, k_X1_leastRowWith_63, k_X1_leastRowWith_64, k_X1_leastRowWith_65, k_X1_leastRowWith_66, oE_some, Int.reduceToNat, Nat.reduceAdd, true_and, and_true, List.length_cons, List.length_nil, Option.toList_some, Option.toList_none, List.cons_append, List.nil_append, Nat.reduceLeDiff, Nat.le_refl, wdS_nil, wdS_i, wdS_l, wdS_r, wdS_n, wdS_s]
  exact k1 (lo n a - 1) 1 0 (by omega)
/-! the last set bit -/
theorem tb_low {k q j : Nat} : (2 ^ k * q).testBit j = (decide (k ≤ j) && q.testBit (j - k)) := Nat.testBit_two_pow_mul ..
theorem low_bits {m k : Nat} : ∀ j, (2 ^ k * (2 * m + 1)).testBit j = false ∧ (2 ^ k * (2 * m + 1) - 1).testBit j = true ↔ j < k := by
  intro j
  have e : 2 ^ k * (2 * m + 1) - 1 = 2 ^ k * (2 * m) + (2 ^ k - 1) := by
    have := Nat.two_pow_pos k
    rw [Nat.mul_add, Nat.mul_one]
    omega
  rw [e, Nat.testBit_two_pow_mul_add _ (Nat.sub_lt (Nat.two_pow_pos k) (by decide)), tb_low]
  by_cases hj : j < k
  · rw [if_pos hj, Nat.testBit_two_pow_sub_one, decide_eq_false (show ¬ k ≤ j by omega), decide_eq_true hj]
    simp [hj]
  · rw [if_neg hj, decide_eq_true (show k ≤ j by omega), Bool.true_and]
    simp only [hj, iff_false]
    rcases Nat.eq_zero_or_pos (j - k) with h0 | h0
    · rw [h0]; simp
    · have h1 : j - k = (j - k - 1) + 1 := by omega
      rw [h1, Nat.testBit_succ, Nat.testBit_succ, show (2 * m + 1) / 2 = m by omega, show 2 * m / 2 = m by omega]
      cases m.testBit (j - k - 1) <;> simp
