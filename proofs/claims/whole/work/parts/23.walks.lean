/-! ===== the class's rows: going down and up, meets and joins ===== -/
/-- goes by gaps that m has, of arcs in G, at most k times -/
def goM (n : Nat) (G : BitVec 64) (m : Nat → Nat → Bool) : Nat → Nat → Nat
  | 0, i => i
  | k + 1, i => match fgo n G i (m i) with
    | some p => goM n G m k (bs n i p)
    | none => i
def lst (n : Nat) (G : BitVec 64) (i : Nat) : Nat := goM n G (mD n) 15 i
def gst (n : Nat) (G : BitVec 64) (i : Nat) : Nat := goM n G (mU n) 15 i
theorem fgo_lt {n i p : Nat} {G : BitVec 64} {m : Nat → Bool} (h : fgo n G i m = some p) : p < n - 1 := by
  have := (fst_some h).2.1; omega
theorem bs_ok {n i p : Nat} (h1 : 1 ≤ n) (h6 : n ≤ 6) (hi : i < FC n) (hp : p < n - 1) : bs n i p < FC n := bs_lt h1 h6 hi hp
theorem goM_ok {n : Nat} {G : BitVec 64} {m : Nat → Nat → Bool} (h1 : 1 ≤ n) (h6 : n ≤ 6) : ∀ (k i : Nat), i < FC n → goM n G m k i < FC n := by
  intro k
  induction k with
  | zero => intro i hi; exact hi
  | succ k ih =>
    intro i hi
    unfold goM
    split
    · next p e => exact ih _ (bs_ok h1 h6 hi (fgo_lt e))
    · exact hi
theorem lst_ok {n i : Nat} {G : BitVec 64} (h1 : 1 ≤ n) (h6 : n ≤ 6) (hi : i < FC n) : lst n G i < FC n := goM_ok h1 h6 _ _ hi
theorem gst_ok {n i : Nat} {G : BitVec 64} (h1 : 1 ≤ n) (h6 : n ≤ 6) (hi : i < FC n) : gst n G i < FC n := goM_ok h1 h6 _ _ hi
set_option maxHeartbeats 8000000 in
theorem c4_leastOf (d : Nat) {hp : HP} {ra n i : Nat} {G : BitVec 64} (h : RWS hp ra n) (hi : i < FC n) (R : PO) : callD (d + 2) 50 [mR ra, mI (i : Int), mL G] hp R ↔ R (some (mI (lst n G i : Int))) hp := by
  have h1 := rw_1 h
  have h6 := rw_6 h
  rw [callD_k]; simp only [entL_i, entL_l, entL_q, entL_s, entL_nil, n_X4_leastOf, u_X4_leastOf, m_X4_leastOf, rep_3, List.cons_append, List.nil_append, List.append_nil, List.length_cons, List.length_nil, Nat.reduceAdd, true_and]
  simp only [AW_k, AWk_1, x_iload_1, x_istore_4, x_push_i, x_push_l, x_istore_5, x_iload_5, x_icmp_ge, x_aload_0, x_aloads_0, x_iload_4, x_getf, x_iald, x_ialds, x_lload_2, x_callv_4, x_istore_6, x_iload_6, x_if_ge, x_ret, x_ret_i, x_ret_z, x_ret_l, x_ret_c, x_imul, x_iadd, x_iinc_5, x_goto, unl_i, unl_l, unl_q, unl_r, unl_s, unl_n, k_X4_leastOf_0, k_X4_leastOf_1, k_X4_leastOf_2, k_X4_leastOf_3, k_X4_leastOf_4, k_X4_leastOf_5, k_X4_leastOf_6, k_X4_leastOf_7, k_X4_leastOf_8, k_X4_leastOf_9, k_X4_leastOf_10, k_X4_leastOf_11, k_X4_leastOf_12, k_X4_leastOf_13, k_X4_leastOf_14, k_X4_leastOf_15, k_X4_leastOf_16, k_X4_leastOf_17, k_X4_leastOf_18, k_X4_leastOf_19, k_X4_leastOf_20, k_X4_leastOf_21, k_X4_leastOf_22, k_X4_leastOf_23, k_X4_leastOf_24, k_X4_leastOf_25, k_X4_leastOf_26, k_X4_leastOf_27, k_X4_leastOf_28, k_X4_leastOf_29, k_X4_leastOf_30, k_X4_leastOf_31, k_X4_leastOf_32, k_X4_leastOf_33, oE_some, Int.reduceToNat, Nat.reduceAdd, true_and, and_true, List.length_cons, List.length_nil, Option.toList_some, Option.toList_none, List.cons_append, List.nil_append, Nat.reduceLeDiff, Nat.le_refl, wdS_nil, wdS_i, wdS_l, wdS_r, wdS_n, wdS_s]
  have key : ∀ (k j now : Nat) (y : Option AV), j + k = 15 → now < FC n → (AWh (d + 1) [] 50 R 4 [some (mR ra), some (mI (i : Int)), some (mL G), none, some (mI (now : Int)), some (mI (j : Int)), y] [] hp (0, 0) ↔ R (some (mI (goM n G (mD n) k now : Int))) hp) := by
    intro k
    induction k with
    | zero =>
      intro j now y hj hnow
      have hj : j = 15 := by omega
      subst hj
      rw [AWh_k, k_X4_leastOf_4]
      simp only [AW_k, AWk_1, x_iload_1, x_istore_4, x_push_i, x_push_l, x_istore_5, x_iload_5, x_icmp_ge, x_aload_0, x_aloads_0, x_iload_4, x_getf, x_iald, x_ialds, x_lload_2, x_callv_4, x_istore_6, x_iload_6, x_if_ge, x_ret, x_ret_i, x_ret_z, x_ret_l, x_ret_c, x_imul, x_iadd, x_iinc_5, x_goto, unl_i, unl_l, unl_q, unl_r, unl_s, unl_n, k_X4_leastOf_0, k_X4_leastOf_1, k_X4_leastOf_2, k_X4_leastOf_3, k_X4_leastOf_4, k_X4_leastOf_5, k_X4_leastOf_6, k_X4_leastOf_7, k_X4_leastOf_8, k_X4_leastOf_9, k_X4_leastOf_10, k_X4_leastOf_11, k_X4_leastOf_12, k_X4_leastOf_13, k_X4_leastOf_14, k_X4_leastOf_15, k_X4_leastOf_16, k_X4_leastOf_17, k_X4_leastOf_18, k_X4_leastOf_19, k_X4_leastOf_20, k_X4_leastOf_21, k_X4_leastOf_22, k_X4_leastOf_23, k_X4_leastOf_24, k_X4_leastOf_25, k_X4_leastOf_26, k_X4_leastOf_27, k_X4_leastOf_28, k_X4_leastOf_29, k_X4_leastOf_30, k_X4_leastOf_31, k_X4_leastOf_32, k_X4_leastOf_33, oE_some, Int.reduceToNat, Nat.reduceAdd, true_and, and_true, List.length_cons, List.length_nil, Option.toList_some, Option.toList_none, List.cons_append, List.nil_append, Nat.reduceLeDiff, Nat.le_refl, wdS_nil, wdS_i, wdS_l, wdS_r, wdS_n, wdS_s]
      rw [if_neg (by decide)]
      exact Iff.rfl
    | succ k ih =>
      intro j now y hj hnow
      unfold goM
      cases e : fgo n G now (mD n now) with
      | none =>
        have eo : oI (fgo n G now (mD n now)) = -1 := by rw [e]; rfl
        rw [AWh_k, k_X4_leastOf_4]
        simp only [AW_k, AWk_1, x_iload_1, x_istore_4, x_push_i, x_push_l, x_istore_5, x_iload_5, x_icmp_ge, x_aload_0, x_aloads_0, x_iload_4, x_getf, x_iald, x_ialds, x_lload_2, x_callv_4, x_istore_6, x_iload_6, x_if_ge, x_ret, x_ret_i, x_ret_z, x_ret_l, x_ret_c, x_imul, x_iadd, x_iinc_5, x_goto, unl_i, unl_l, unl_q, unl_r, unl_s, unl_n, k_X4_leastOf_0, k_X4_leastOf_1, k_X4_leastOf_2, k_X4_leastOf_3, k_X4_leastOf_4, k_X4_leastOf_5, k_X4_leastOf_6, k_X4_leastOf_7, k_X4_leastOf_8, k_X4_leastOf_9, k_X4_leastOf_10, k_X4_leastOf_11, k_X4_leastOf_12, k_X4_leastOf_13, k_X4_leastOf_14, k_X4_leastOf_15, k_X4_leastOf_16, k_X4_leastOf_17, k_X4_leastOf_18, k_X4_leastOf_19, k_X4_leastOf_20, k_X4_leastOf_21, k_X4_leastOf_22, k_X4_leastOf_23, k_X4_leastOf_24, k_X4_leastOf_25, k_X4_leastOf_26, k_X4_leastOf_27, k_X4_leastOf_28, k_X4_leastOf_29, k_X4_leastOf_30, k_X4_leastOf_31, k_X4_leastOf_32, k_X4_leastOf_33, oE_some, Int.reduceToNat, Nat.reduceAdd, true_and, and_true, List.length_cons, List.length_nil, Option.toList_some, Option.toList_none, List.cons_append, List.nil_append, Nat.reduceLeDiff, Nat.le_refl, wdS_nil, wdS_i, wdS_l, wdS_r, wdS_n, wdS_s, rC0 h, rw_drops h, rA_12 h, bI rfl hnow (FC_31 n), gI rfl hnow (FC_31 n), c4_firstGone d h hnow msk_d, eo]
        rw [w32_nat (show j < 2147483648 by omega), if_pos (show (j : Int) < w32 15 by rw [show w32 15 = 15 from rfl]; omega), if_pos (by decide)]
      | some p =>
        have hp1 := fgo_lt e
        have eo : oI (fgo n G now (mD n now)) = (p : Int) := by rw [e]; rfl
        rw [AWh_k, k_X4_leastOf_4]
        simp only [AW_k, AWk_1, x_iload_1, x_istore_4, x_push_i, x_push_l, x_istore_5, x_iload_5, x_icmp_ge, x_aload_0, x_aloads_0, x_iload_4, x_getf, x_iald, x_ialds, x_lload_2, x_callv_4, x_istore_6, x_iload_6, x_if_ge, x_ret, x_ret_i, x_ret_z, x_ret_l, x_ret_c, x_imul, x_iadd, x_iinc_5, x_goto, unl_i, unl_l, unl_q, unl_r, unl_s, unl_n, k_X4_leastOf_0, k_X4_leastOf_1, k_X4_leastOf_2, k_X4_leastOf_3, k_X4_leastOf_4, k_X4_leastOf_5, k_X4_leastOf_6, k_X4_leastOf_7, k_X4_leastOf_8, k_X4_leastOf_9, k_X4_leastOf_10, k_X4_leastOf_11, k_X4_leastOf_12, k_X4_leastOf_13, k_X4_leastOf_14, k_X4_leastOf_15, k_X4_leastOf_16, k_X4_leastOf_17, k_X4_leastOf_18, k_X4_leastOf_19, k_X4_leastOf_20, k_X4_leastOf_21, k_X4_leastOf_22, k_X4_leastOf_23, k_X4_leastOf_24, k_X4_leastOf_25, k_X4_leastOf_26, k_X4_leastOf_27, k_X4_leastOf_28, k_X4_leastOf_29, k_X4_leastOf_30, k_X4_leastOf_31, k_X4_leastOf_32, k_X4_leastOf_33, oE_some, Int.reduceToNat, Nat.reduceAdd, true_and, and_true, List.length_cons, List.length_nil, Option.toList_some, Option.toList_none, List.cons_append, List.nil_append, Nat.reduceLeDiff, Nat.le_refl, wdS_nil, wdS_i, wdS_l, wdS_r, wdS_n, wdS_s, rC0 h, rw_drops h, rA_12 h, bI rfl hnow (FC_31 n), gI rfl hnow (FC_31 n), c4_firstGone d h hnow msk_d, eo, rw_beside h, rA_15 h, rw_gaps h, gp_in h1 h6 hnow hp1, bs_get h1 h6 hnow hp1]
        rw [w32_nat (show j < 2147483648 by omega), if_pos (show (j : Int) < w32 15 by rw [show w32 15 = 15 from rfl]; omega), if_neg (by rw [w32_nat (by omega)]; omega)]
        exact ih (j + 1) (bs n now p) (some (mI (p : Int))) (by omega) (bs_ok h1 h6 hnow hp1)
  exact key 15 0 i none rfl hi
set_option maxHeartbeats 8000000 in
theorem c4_greatestOf (d : Nat) {hp : HP} {ra n i : Nat} {G : BitVec 64} (h : RWS hp ra n) (hi : i < FC n) (R : PO) : callD (d + 2) 51 [mR ra, mI (i : Int), mL G] hp R ↔ R (some (mI (gst n G i : Int))) hp := by
  have h1 := rw_1 h
  have h6 := rw_6 h
  rw [callD_k]; simp only [entL_i, entL_l, entL_q, entL_s, entL_nil, n_X4_greatestOf, u_X4_greatestOf, m_X4_greatestOf, rep_3, List.cons_append, List.nil_append, List.append_nil, List.length_cons, List.length_nil, Nat.reduceAdd, true_and]
  simp only [AW_k, AWk_1, x_iload_1, x_istore_4, x_push_i, x_push_l, x_istore_5, x_iload_5, x_icmp_ge, x_aload_0, x_aloads_0, x_iload_4, x_getf, x_iald, x_ialds, x_ixor, x_lload_2, x_callv_4, x_istore_6, x_iload_6, x_if_ge, x_ret, x_ret_i, x_ret_z, x_ret_l, x_ret_c, x_imul, x_iadd, x_iinc_5, x_goto, unl_i, unl_l, unl_q, unl_r, unl_s, unl_n, k_X4_greatestOf_0, k_X4_greatestOf_1, k_X4_greatestOf_2, k_X4_greatestOf_3, k_X4_greatestOf_4, k_X4_greatestOf_5, k_X4_greatestOf_6, k_X4_greatestOf_7, k_X4_greatestOf_8, k_X4_greatestOf_9, k_X4_greatestOf_10, k_X4_greatestOf_11, k_X4_greatestOf_12, k_X4_greatestOf_13, k_X4_greatestOf_14, k_X4_greatestOf_15, k_X4_greatestOf_16, k_X4_greatestOf_17, k_X4_greatestOf_18, k_X4_greatestOf_19, k_X4_greatestOf_20, k_X4_greatestOf_21, k_X4_greatestOf_22, k_X4_greatestOf_23, k_X4_greatestOf_24, k_X4_greatestOf_25, k_X4_greatestOf_26, k_X4_greatestOf_27, k_X4_greatestOf_28, k_X4_greatestOf_29, k_X4_greatestOf_30, k_X4_greatestOf_31, k_X4_greatestOf_32, k_X4_greatestOf_33, k_X4_greatestOf_34, k_X4_greatestOf_35, oE_some, Int.reduceToNat, Nat.reduceAdd, true_and, and_true, List.length_cons, List.length_nil, Option.toList_some, Option.toList_none, List.cons_append, List.nil_append, Nat.reduceLeDiff, Nat.le_refl, wdS_nil, wdS_i, wdS_l, wdS_r, wdS_n, wdS_s]
  have key : ∀ (k j now : Nat) (y : Option AV), j + k = 15 → now < FC n → (AWh (d + 1) [] 51 R 4 [some (mR ra), some (mI (i : Int)), some (mL G), none, some (mI (now : Int)), some (mI (j : Int)), y] [] hp (0, 0) ↔ R (some (mI (goM n G (mU n) k now : Int))) hp) := by
    intro k
    induction k with
    | zero =>
      intro j now y hj hnow
      have hj : j = 15 := by omega
      subst hj
      rw [AWh_k, k_X4_greatestOf_4]
      simp only [AW_k, AWk_1, x_iload_1, x_istore_4, x_push_i, x_push_l, x_istore_5, x_iload_5, x_icmp_ge, x_aload_0, x_aloads_0, x_iload_4, x_getf, x_iald, x_ialds, x_ixor, x_lload_2, x_callv_4, x_istore_6, x_iload_6, x_if_ge, x_ret, x_ret_i, x_ret_z, x_ret_l, x_ret_c, x_imul, x_iadd, x_iinc_5, x_goto, unl_i, unl_l, unl_q, unl_r, unl_s, unl_n, k_X4_greatestOf_0, k_X4_greatestOf_1, k_X4_greatestOf_2, k_X4_greatestOf_3, k_X4_greatestOf_4, k_X4_greatestOf_5, k_X4_greatestOf_6, k_X4_greatestOf_7, k_X4_greatestOf_8, k_X4_greatestOf_9, k_X4_greatestOf_10, k_X4_greatestOf_11, k_X4_greatestOf_12, k_X4_greatestOf_13, k_X4_greatestOf_14, k_X4_greatestOf_15, k_X4_greatestOf_16, k_X4_greatestOf_17, k_X4_greatestOf_18, k_X4_greatestOf_19, k_X4_greatestOf_20, k_X4_greatestOf_21, k_X4_greatestOf_22, k_X4_greatestOf_23, k_X4_greatestOf_24, k_X4_greatestOf_25, k_X4_greatestOf_26, k_X4_greatestOf_27, k_X4_greatestOf_28, k_X4_greatestOf_29, k_X4_greatestOf_30, k_X4_greatestOf_31, k_X4_greatestOf_32, k_X4_greatestOf_33, k_X4_greatestOf_34, k_X4_greatestOf_35, oE_some, Int.reduceToNat, Nat.reduceAdd, true_and, and_true, List.length_cons, List.length_nil, Option.toList_some, Option.toList_none, List.cons_append, List.nil_append, Nat.reduceLeDiff, Nat.le_refl, wdS_nil, wdS_i, wdS_l, wdS_r, wdS_n, wdS_s]
      rw [if_neg (by decide)]
      exact Iff.rfl
    | succ k ih =>
      intro j now y hj hnow
      unfold goM
      cases e : fgo n G now (mU n now) with
      | none =>
        have eo : oI (fgo n G now (mU n now)) = -1 := by rw [e]; rfl
        rw [AWh_k, k_X4_greatestOf_4]
        simp only [AW_k, AWk_1, x_iload_1, x_istore_4, x_push_i, x_push_l, x_istore_5, x_iload_5, x_icmp_ge, x_aload_0, x_aloads_0, x_iload_4, x_getf, x_iald, x_ialds, x_ixor, x_lload_2, x_callv_4, x_istore_6, x_iload_6, x_if_ge, x_ret, x_ret_i, x_ret_z, x_ret_l, x_ret_c, x_imul, x_iadd, x_iinc_5, x_goto, unl_i, unl_l, unl_q, unl_r, unl_s, unl_n, k_X4_greatestOf_0, k_X4_greatestOf_1, k_X4_greatestOf_2, k_X4_greatestOf_3, k_X4_greatestOf_4, k_X4_greatestOf_5, k_X4_greatestOf_6, k_X4_greatestOf_7, k_X4_greatestOf_8, k_X4_greatestOf_9, k_X4_greatestOf_10, k_X4_greatestOf_11, k_X4_greatestOf_12, k_X4_greatestOf_13, k_X4_greatestOf_14, k_X4_greatestOf_15, k_X4_greatestOf_16, k_X4_greatestOf_17, k_X4_greatestOf_18, k_X4_greatestOf_19, k_X4_greatestOf_20, k_X4_greatestOf_21, k_X4_greatestOf_22, k_X4_greatestOf_23, k_X4_greatestOf_24, k_X4_greatestOf_25, k_X4_greatestOf_26, k_X4_greatestOf_27, k_X4_greatestOf_28, k_X4_greatestOf_29, k_X4_greatestOf_30, k_X4_greatestOf_31, k_X4_greatestOf_32, k_X4_greatestOf_33, k_X4_greatestOf_34, k_X4_greatestOf_35, oE_some, Int.reduceToNat, Nat.reduceAdd, true_and, and_true, List.length_cons, List.length_nil, Option.toList_some, Option.toList_none, List.cons_append, List.nil_append, Nat.reduceLeDiff, Nat.le_refl, wdS_nil, wdS_i, wdS_l, wdS_r, wdS_n, wdS_s, rC0 h, rw_drops h, rA_12 h, bI rfl hnow (FC_31 n), gI rfl hnow (FC_31 n), c4_firstGone d h hnow msk_r, eo]
        rw [w32_nat (show j < 2147483648 by omega), if_pos (show (j : Int) < w32 15 by rw [show w32 15 = 15 from rfl]; omega), if_pos (by decide)]
      | some p =>
        have hp1 := fgo_lt e
        have eo : oI (fgo n G now (mU n now)) = (p : Int) := by rw [e]; rfl
        rw [AWh_k, k_X4_greatestOf_4]
        simp only [AW_k, AWk_1, x_iload_1, x_istore_4, x_push_i, x_push_l, x_istore_5, x_iload_5, x_icmp_ge, x_aload_0, x_aloads_0, x_iload_4, x_getf, x_iald, x_ialds, x_ixor, x_lload_2, x_callv_4, x_istore_6, x_iload_6, x_if_ge, x_ret, x_ret_i, x_ret_z, x_ret_l, x_ret_c, x_imul, x_iadd, x_iinc_5, x_goto, unl_i, unl_l, unl_q, unl_r, unl_s, unl_n, k_X4_greatestOf_0, k_X4_greatestOf_1, k_X4_greatestOf_2, k_X4_greatestOf_3, k_X4_greatestOf_4, k_X4_greatestOf_5, k_X4_greatestOf_6, k_X4_greatestOf_7, k_X4_greatestOf_8, k_X4_greatestOf_9, k_X4_greatestOf_10, k_X4_greatestOf_11, k_X4_greatestOf_12, k_X4_greatestOf_13, k_X4_greatestOf_14, k_X4_greatestOf_15, k_X4_greatestOf_16, k_X4_greatestOf_17, k_X4_greatestOf_18, k_X4_greatestOf_19, k_X4_greatestOf_20, k_X4_greatestOf_21, k_X4_greatestOf_22, k_X4_greatestOf_23, k_X4_greatestOf_24, k_X4_greatestOf_25, k_X4_greatestOf_26, k_X4_greatestOf_27, k_X4_greatestOf_28, k_X4_greatestOf_29, k_X4_greatestOf_30, k_X4_greatestOf_31, k_X4_greatestOf_32, k_X4_greatestOf_33, k_X4_greatestOf_34, k_X4_greatestOf_35, oE_some, Int.reduceToNat, Nat.reduceAdd, true_and, and_true, List.length_cons, List.length_nil, Option.toList_some, Option.toList_none, List.cons_append, List.nil_append, Nat.reduceLeDiff, Nat.le_refl, wdS_nil, wdS_i, wdS_l, wdS_r, wdS_n, wdS_s, rC0 h, rw_drops h, rA_12 h, bI rfl hnow (FC_31 n), gI rfl hnow (FC_31 n), c4_firstGone d h hnow msk_r, eo, rw_beside h, rA_15 h, rw_gaps h, gp_in h1 h6 hnow hp1, bs_get h1 h6 hnow hp1]
        rw [w32_nat (show j < 2147483648 by omega), if_pos (show (j : Int) < w32 15 by rw [show w32 15 = 15 from rfl]; omega), if_neg (by rw [w32_nat (by omega)]; omega)]
        exact ih (j + 1) (bs n now p) (some (mI (p : Int))) (by omega) (bs_ok h1 h6 hnow hp1)
  exact key 15 0 i none rfl hi
def cnt (f : Nat → Bool) : Nat → Int
  | 0 => 0
  | n + 1 => cnt f n + zI (f n)
theorem cnt_succ (f : Nat → Bool) (n : Nat) : cnt f (n + 1) = cnt f n + zI (f n) := rfl
theorem cnt_in (f : Nat → Bool) : ∀ n, 0 ≤ cnt f n ∧ cnt f n ≤ n := by
  intro n
  induction n with
  | zero => exact ⟨Int.le_refl _, Int.le_refl _⟩
  | succ n ih =>
    rw [cnt_succ]
    have := zI_or (f n)
    omega
theorem cnt_congr {f g : Nat → Bool} : ∀ {n : Nat}, (∀ k, k < n → f k = g k) → cnt f n = cnt g n := by
  intro n
  induction n with
  | zero => intro _; rfl
  | succ n ih => intro h; rw [cnt_succ, cnt_succ, ih (fun k hk => h k (by omega)), h n (by omega)]
theorem cnt_zero {f : Nat → Bool} : ∀ {n : Nat}, (∀ k, k < n → f k = false) → cnt f n = 0 := by
  intro n
  induction n with
  | zero => intro _; rfl
  | succ n ih => intro h; rw [cnt_succ, ih (fun k hk => h k (by omega)), h n (by omega)]; rfl
/-- the meet, as the class looks for it -/
def mtF (n i j : Nat) : Nat → Nat
  | 0 => 0
  | k + 1 => if (blw n (k + 1) i && blw n (k + 1) j) = true then k + 1 else mtF n i j k
def mt (n i j : Nat) : Nat := mtF n i j (min i j)
def jn (n i j : Nat) : Nat := match fst (fun u => blw n i u && blw n j u) (FC n - max i j) (max i j) with
  | some u => u
  | none => FC n - 1
theorem w_min {i j : Nat} (hi : i < 2147483648) (hj : j < 2147483648) : (if w32 (j : Int) < w32 (i : Int) then (j : Int) else (i : Int)) = ((min i j : Nat) : Int) := by
  rw [w32_nat hi, w32_nat hj]; omega
theorem w_max {i j : Nat} (hi : i < 2147483648) (hj : j < 2147483648) : (if w32 (i : Int) < w32 (j : Int) then (j : Int) else (i : Int)) = ((max i j : Nat) : Int) := by
  rw [w32_nat hi, w32_nat hj]; omega
set_option maxHeartbeats 8000000 in
theorem c4_meetOf (d : Nat) {hp : HP} {ra n i j : Nat} (h : RWS hp ra n) (hi : i < FC n) (hj : j < FC n) (R : PO) : callD (d + 2) 39 [mR ra, mI (i : Int), mI (j : Int)] hp R ↔ R (some (mI (mt n i j : Int))) hp := by
  have f1 := FC_le n
  rw [callD_k]; simp only [entL_i, entL_l, entL_q, entL_s, entL_nil, n_X4_meetOf, u_X4_meetOf, m_X4_meetOf, rep_1, List.cons_append, List.nil_append, List.append_nil, List.length_cons, List.length_nil, Nat.reduceAdd, true_and]
  simp only [AW_k, AWk_1, x_iload_1, x_iload_2, x_mmin, x_istore_3, x_iload_3, x_if_le, x_aload_0, x_aloads_0, x_callv_3, x_if_eq, x_ret, x_ret_i, x_ret_z, x_ret_l, x_ret_c, x_iinc_3, x_goto, x_push_i, x_push_l, unl_i, unl_l, unl_q, unl_r, unl_s, unl_n, k_X4_meetOf_0, k_X4_meetOf_1, k_X4_meetOf_2, k_X4_meetOf_3, k_X4_meetOf_4, k_X4_meetOf_5, k_X4_meetOf_6, k_X4_meetOf_7, k_X4_meetOf_8, k_X4_meetOf_9, k_X4_meetOf_10, k_X4_meetOf_11, k_X4_meetOf_12, k_X4_meetOf_13, k_X4_meetOf_14, k_X4_meetOf_15, k_X4_meetOf_16, k_X4_meetOf_17, k_X4_meetOf_18, k_X4_meetOf_19, k_X4_meetOf_20, k_X4_meetOf_21, oE_some, Int.reduceToNat, Nat.reduceAdd, true_and, and_true, List.length_cons, List.length_nil, Option.toList_some, Option.toList_none, List.cons_append, List.nil_append, Nat.reduceLeDiff, Nat.le_refl, wdS_nil, wdS_i, wdS_l, wdS_r, wdS_n, wdS_s, w_min (show i < 2147483648 by omega) (show j < 2147483648 by omega)]
  have key : ∀ l, l < FC n → (AWh (d + 1) [] 39 R 4 [some (mR ra), some (mI (i : Int)), some (mI (j : Int)), some (mI (l : Int))] [] hp (0, 0) ↔ R (some (mI (mtF n i j l : Int))) hp) := by
    intro l
    induction l with
    | zero =>
      intro hl
      rw [AWh_k, k_X4_meetOf_4]
      simp only [AW_k, AWk_1, x_iload_1, x_iload_2, x_mmin, x_istore_3, x_iload_3, x_if_le, x_aload_0, x_aloads_0, x_callv_3, x_if_eq, x_ret, x_ret_i, x_ret_z, x_ret_l, x_ret_c, x_iinc_3, x_goto, x_push_i, x_push_l, unl_i, unl_l, unl_q, unl_r, unl_s, unl_n, k_X4_meetOf_0, k_X4_meetOf_1, k_X4_meetOf_2, k_X4_meetOf_3, k_X4_meetOf_4, k_X4_meetOf_5, k_X4_meetOf_6, k_X4_meetOf_7, k_X4_meetOf_8, k_X4_meetOf_9, k_X4_meetOf_10, k_X4_meetOf_11, k_X4_meetOf_12, k_X4_meetOf_13, k_X4_meetOf_14, k_X4_meetOf_15, k_X4_meetOf_16, k_X4_meetOf_17, k_X4_meetOf_18, k_X4_meetOf_19, k_X4_meetOf_20, k_X4_meetOf_21, oE_some, Int.reduceToNat, Nat.reduceAdd, true_and, and_true, List.length_cons, List.length_nil, Option.toList_some, Option.toList_none, List.cons_append, List.nil_append, Nat.reduceLeDiff, Nat.le_refl, wdS_nil, wdS_i, wdS_l, wdS_r, wdS_n, wdS_s]
      rw [if_neg (by decide)]
      exact Iff.rfl
    | succ l ih =>
      intro hl
      rw [AWh_k, k_X4_meetOf_4]
      simp only [AW_k, AWk_1, x_iload_1, x_iload_2, x_mmin, x_istore_3, x_iload_3, x_if_le, x_aload_0, x_aloads_0, x_callv_3, x_if_eq, x_ret, x_ret_i, x_ret_z, x_ret_l, x_ret_c, x_iinc_3, x_goto, x_push_i, x_push_l, unl_i, unl_l, unl_q, unl_r, unl_s, unl_n, k_X4_meetOf_0, k_X4_meetOf_1, k_X4_meetOf_2, k_X4_meetOf_3, k_X4_meetOf_4, k_X4_meetOf_5, k_X4_meetOf_6, k_X4_meetOf_7, k_X4_meetOf_8, k_X4_meetOf_9, k_X4_meetOf_10, k_X4_meetOf_11, k_X4_meetOf_12, k_X4_meetOf_13, k_X4_meetOf_14, k_X4_meetOf_15, k_X4_meetOf_16, k_X4_meetOf_17, k_X4_meetOf_18, k_X4_meetOf_19, k_X4_meetOf_20, k_X4_meetOf_21, oE_some, Int.reduceToNat, Nat.reduceAdd, true_and, and_true, List.length_cons, List.length_nil, Option.toList_some, Option.toList_none, List.cons_append, List.nil_append, Nat.reduceLeDiff, Nat.le_refl, wdS_nil, wdS_i, wdS_l, wdS_r, wdS_n, wdS_s, rC0 h, c4_isBelow d h hl hi, c4_isBelow d h hl hj, w32_zI_0, ite_bf]
      rw [if_pos (by rw [w32_nat (by omega)]; omega)]
      unfold mtF
      have e : ((l + 1 : Nat) : Int) + -1 = (l : Int) := by omega
      rw [e, ih (by omega)]
      cases blw n (l + 1) i <;> cases blw n (l + 1) j <;> exact Iff.rfl
  exact key (min i j) (by omega)
set_option maxHeartbeats 8000000 in
theorem c4_joinOf (d : Nat) {hp : HP} {ra n i j : Nat} (h : RWS hp ra n) (hi : i < FC n) (hj : j < FC n) (R : PO) : callD (d + 2) 40 [mR ra, mI (i : Int), mI (j : Int)] hp R ↔ R (some (mI (jn n i j : Int))) hp := by
  have f1 := FC_le n
  rw [callD_k]; simp only [entL_i, entL_l, entL_q, entL_s, entL_nil, n_X4_joinOf, u_X4_joinOf, m_X4_joinOf, rep_1, List.cons_append, List.nil_append, List.append_nil, List.length_cons, List.length_nil, Nat.reduceAdd, true_and]
  simp only [AW_k, AWk_1, x_iload_1, x_iload_2, x_mmax, x_istore_3, x_iload_3, x_aload_0, x_aloads_0, x_getf, x_icmp_ge, x_callv_3, x_if_eq, x_ret, x_ret_i, x_ret_z, x_ret_l, x_ret_c, x_iinc_3, x_goto, x_push_i, x_push_l, x_isub, unl_i, unl_l, unl_q, unl_r, unl_s, unl_n, k_X4_joinOf_0, k_X4_joinOf_1, k_X4_joinOf_2, k_X4_joinOf_3, k_X4_joinOf_4, k_X4_joinOf_5, k_X4_joinOf_6, k_X4_joinOf_7, k_X4_joinOf_8, k_X4_joinOf_9, k_X4_joinOf_10, k_X4_joinOf_11, k_X4_joinOf_12, k_X4_joinOf_13, k_X4_joinOf_14, k_X4_joinOf_15, k_X4_joinOf_16, k_X4_joinOf_17, k_X4_joinOf_18, k_X4_joinOf_19, k_X4_joinOf_20, k_X4_joinOf_21, k_X4_joinOf_22, k_X4_joinOf_23, k_X4_joinOf_24, k_X4_joinOf_25, k_X4_joinOf_26, oE_some, Int.reduceToNat, Nat.reduceAdd, true_and, and_true, List.length_cons, List.length_nil, Option.toList_some, Option.toList_none, List.cons_append, List.nil_append, Nat.reduceLeDiff, Nat.le_refl, wdS_nil, wdS_i, wdS_l, wdS_r, wdS_n, wdS_s, w_max (show i < 2147483648 by omega) (show j < 2147483648 by omega)]
  refine (loop_fst (P := fun u => AWh (d + 1) [] 40 R 4 [some (mR ra), some (mI (i : Int)), some (mI (j : Int)), some (mI (u : Int))] [] hp (0, 0)) (E := fun u => R (some (mI (u : Int))) hp) (f := fun u => blw n i u && blw n j u) (N := FC n) ?_ (n := FC n - max i j) (a := max i j) (by omega)).trans ?_
  · intro u hu
    rw [AWh_k, k_X4_joinOf_4]
    simp only [AW_k, AWk_1, x_iload_1, x_iload_2, x_mmax, x_istore_3, x_iload_3, x_aload_0, x_aloads_0, x_getf, x_icmp_ge, x_callv_3, x_if_eq, x_ret, x_ret_i, x_ret_z, x_ret_l, x_ret_c, x_iinc_3, x_goto, x_push_i, x_push_l, x_isub, unl_i, unl_l, unl_q, unl_r, unl_s, unl_n, k_X4_joinOf_0, k_X4_joinOf_1, k_X4_joinOf_2, k_X4_joinOf_3, k_X4_joinOf_4, k_X4_joinOf_5, k_X4_joinOf_6, k_X4_joinOf_7, k_X4_joinOf_8, k_X4_joinOf_9, k_X4_joinOf_10, k_X4_joinOf_11, k_X4_joinOf_12, k_X4_joinOf_13, k_X4_joinOf_14, k_X4_joinOf_15, k_X4_joinOf_16, k_X4_joinOf_17, k_X4_joinOf_18, k_X4_joinOf_19, k_X4_joinOf_20, k_X4_joinOf_21, k_X4_joinOf_22, k_X4_joinOf_23, k_X4_joinOf_24, k_X4_joinOf_25, k_X4_joinOf_26, oE_some, Int.reduceToNat, Nat.reduceAdd, true_and, and_true, List.length_cons, List.length_nil, Option.toList_some, Option.toList_none, List.cons_append, List.nil_append, Nat.reduceLeDiff, Nat.le_refl, wdS_nil, wdS_i, wdS_l, wdS_r, wdS_n, wdS_s, rC0 h, rw_count h, c4_isBelow d h hi hu, c4_isBelow d h hj hu, w32_zI_0, ite_bf]
    rw [w32_nat (show u < 2147483648 by omega), w32_nat (FC_31 n), if_pos (by omega)]
    cases blw n i u <;> cases blw n j u <;> exact Iff.rfl
  · unfold jn
    split
    · next p e => rw [e]
    · next e =>
      rw [e]
      rw [AWh_k, k_X4_joinOf_4]
      simp only [AW_k, AWk_1, x_iload_1, x_iload_2, x_mmax, x_istore_3, x_iload_3, x_aload_0, x_aloads_0, x_getf, x_icmp_ge, x_callv_3, x_if_eq, x_ret, x_ret_i, x_ret_z, x_ret_l, x_ret_c, x_iinc_3, x_goto, x_push_i, x_push_l, x_isub, unl_i, unl_l, unl_q, unl_r, unl_s, unl_n, k_X4_joinOf_0, k_X4_joinOf_1, k_X4_joinOf_2, k_X4_joinOf_3, k_X4_joinOf_4, k_X4_joinOf_5, k_X4_joinOf_6, k_X4_joinOf_7, k_X4_joinOf_8, k_X4_joinOf_9, k_X4_joinOf_10, k_X4_joinOf_11, k_X4_joinOf_12, k_X4_joinOf_13, k_X4_joinOf_14, k_X4_joinOf_15, k_X4_joinOf_16, k_X4_joinOf_17, k_X4_joinOf_18, k_X4_joinOf_19, k_X4_joinOf_20, k_X4_joinOf_21, k_X4_joinOf_22, k_X4_joinOf_23, k_X4_joinOf_24, k_X4_joinOf_25, k_X4_joinOf_26, oE_some, Int.reduceToNat, Nat.reduceAdd, true_and, and_true, List.length_cons, List.length_nil, Option.toList_some, Option.toList_none, List.cons_append, List.nil_append, Nat.reduceLeDiff, Nat.le_refl, wdS_nil, wdS_i, wdS_l, wdS_r, wdS_n, wdS_s, rw_count h]
      rw [if_neg (Int.lt_irrefl _)]
      have e2 : (FC n : Int) - 1 = ((FC n - 1 : Nat) : Int) := by omega
      rw [e2]
theorem zI3 {α : Type} (a b : Bool) (f : Int → α) : (if a = true then (if b = true then f 1 else f 0) else f 0) = f (zI (a && b)) := by cases a <;> cases b <;> rfl
/-- how many are alike, as the class counts them -/
def hma (n : Nat) (G : BitVec 64) (i : Nat) : Int := cnt (fun o => decide (lst n G i ≤ o) && (blw n (lst n G i) o && blw n o (gst n G i))) (max (lst n G i) (gst n G i + 1))
set_option maxHeartbeats 8000000 in
theorem c4_howManyAlike (d : Nat) {hp : HP} {ra n i : Nat} {G : BitVec 64} (h : RWS hp ra n) (hi : i < FC n) (R : PO) : callD (d + 3) 52 [mR ra, mI (i : Int), mL G] hp R ↔ R (some (mI (hma n G i))) hp := by
  have h1 := rw_1 h
  have h6 := rw_6 h
  have f1 := FC_le n
  have hl := lst_ok (G := G) h1 h6 hi
  have hg := gst_ok (G := G) h1 h6 hi
  rw [callD_k]; simp only [entL_i, entL_l, entL_q, entL_s, entL_nil, n_X4_howManyAlike, u_X4_howManyAlike, m_X4_howManyAlike, rep_4, List.cons_append, List.nil_append, List.append_nil, List.length_cons, List.length_nil, Nat.reduceAdd, true_and]
  simp only [AW_k, AWk_1, x_aload_0, x_aloads_0, x_iload_1, x_lload_2, x_callv_3, x_istore_4, x_istore_5, x_push_i, x_push_l, x_istore_6, x_iload_4, x_istore_7, x_iload_7, x_iload_5, x_icmp_gt, x_iload_6, x_if_eq, x_goto, x_iadd, x_iinc_7, x_ret, x_ret_i, x_ret_z, x_ret_l, x_ret_c, unl_i, unl_l, unl_q, unl_r, unl_s, unl_n, k_X4_howManyAlike_0, k_X4_howManyAlike_1, k_X4_howManyAlike_2, k_X4_howManyAlike_3, k_X4_howManyAlike_4, k_X4_howManyAlike_5, k_X4_howManyAlike_6, k_X4_howManyAlike_7, k_X4_howManyAlike_8, k_X4_howManyAlike_9, k_X4_howManyAlike_10, k_X4_howManyAlike_11, k_X4_howManyAlike_12, k_X4_howManyAlike_13, k_X4_howManyAlike_14, k_X4_howManyAlike_15, k_X4_howManyAlike_16, k_X4_howManyAlike_17, k_X4_howManyAlike_18, k_X4_howManyAlike_19, k_X4_howManyAlike_20, k_X4_howManyAlike_21, k_X4_howManyAlike_22, k_X4_howManyAlike_23, k_X4_howManyAlike_24, k_X4_howManyAlike_25, k_X4_howManyAlike_26, k_X4_howManyAlike_27, k_X4_howManyAlike_28, k_X4_howManyAlike_29, k_X4_howManyAlike_30, k_X4_howManyAlike_31, k_X4_howManyAlike_32, k_X4_howManyAlike_33, k_X4_howManyAlike_34, k_X4_howManyAlike_35, k_X4_howManyAlike_36, oE_some, Int.reduceToNat, Nat.reduceAdd, true_and, and_true, List.length_cons, List.length_nil, Option.toList_some, Option.toList_none, List.cons_append, List.nil_append, Nat.reduceLeDiff, Nat.le_refl, wdS_nil, wdS_i, wdS_l, wdS_r, wdS_n, wdS_s, rC0 h, c4_leastOf d h hi, c4_greatestOf d h hi]
  unfold hma
  generalize lst n G i = l at hl ⊢
  generalize gst n G i = g at hg ⊢
  have e0 : cnt (fun o => decide (l ≤ o) && (blw n l o && blw n o g)) l = 0 := cnt_zero (fun k hk => by
    rw [decide_eq_false (by omega)]; rfl)
  refine Iff.trans ?_ ((loop_to (P := fun j => AWh (d + 2) [] 52 R 14 [some (mR ra), some (mI (i : Int)), some (mL G), none, some (mI (l : Int)), some (mI (g : Int)), some (mI (cnt (fun o => decide (l ≤ o) && (blw n l o && blw n o g)) j)), some (mI (j : Int))] [] hp (0, 0)) (a := l) (b := max l (g + 1)) (by omega) ?_).trans ?_)
  · show _ ↔ AWh _ _ _ _ _ [_, _, _, _, _, _, some (mI (cnt (fun o => decide (l ≤ o) && (blw n l o && blw n o g)) l)), _] _ _ _
    rw [e0]
  · intro j hj1 hj2
    rw [AWh_k, k_X4_howManyAlike_14]
    simp only [AW_k, AWk_1, x_aload_0, x_aloads_0, x_iload_1, x_lload_2, x_callv_3, x_istore_4, x_istore_5, x_push_i, x_push_l, x_istore_6, x_iload_4, x_istore_7, x_iload_7, x_iload_5, x_icmp_gt, x_iload_6, x_if_eq, x_goto, x_iadd, x_iinc_7, x_ret, x_ret_i, x_ret_z, x_ret_l, x_ret_c, unl_i, unl_l, unl_q, unl_r, unl_s, unl_n, k_X4_howManyAlike_0, k_X4_howManyAlike_1, k_X4_howManyAlike_2, k_X4_howManyAlike_3, k_X4_howManyAlike_4, k_X4_howManyAlike_5, k_X4_howManyAlike_6, k_X4_howManyAlike_7, k_X4_howManyAlike_8, k_X4_howManyAlike_9, k_X4_howManyAlike_10, k_X4_howManyAlike_11, k_X4_howManyAlike_12, k_X4_howManyAlike_13, k_X4_howManyAlike_14, k_X4_howManyAlike_15, k_X4_howManyAlike_16, k_X4_howManyAlike_17, k_X4_howManyAlike_18, k_X4_howManyAlike_19, k_X4_howManyAlike_20, k_X4_howManyAlike_21, k_X4_howManyAlike_22, k_X4_howManyAlike_23, k_X4_howManyAlike_24, k_X4_howManyAlike_25, k_X4_howManyAlike_26, k_X4_howManyAlike_27, k_X4_howManyAlike_28, k_X4_howManyAlike_29, k_X4_howManyAlike_30, k_X4_howManyAlike_31, k_X4_howManyAlike_32, k_X4_howManyAlike_33, k_X4_howManyAlike_34, k_X4_howManyAlike_35, k_X4_howManyAlike_36, oE_some, Int.reduceToNat, Nat.reduceAdd, true_and, and_true, List.length_cons, List.length_nil, Option.toList_some, Option.toList_none, List.cons_append, List.nil_append, Nat.reduceLeDiff, Nat.le_refl, wdS_nil, wdS_i, wdS_l, wdS_r, wdS_n, wdS_s, rC0 h, c4_isBelow (d + 1) h hl (show j < FC n by omega), c4_isBelow (d + 1) h (show j < FC n by omega) hg, w32_zI_0, ite_bf]
    rw [w32_nat (show j < 2147483648 by omega), w32_nat (show g < 2147483648 by omega), if_neg (by omega)]
    simp only [cnt_succ, decide_eq_true hj1, Bool.true_and]
    cases blw n l j <;> cases blw n j g <;> exact Iff.rfl
  · rw [AWh_k, k_X4_howManyAlike_14]
    simp only [AW_k, AWk_1, x_aload_0, x_aloads_0, x_iload_1, x_lload_2, x_callv_3, x_istore_4, x_istore_5, x_push_i, x_push_l, x_istore_6, x_iload_4, x_istore_7, x_iload_7, x_iload_5, x_icmp_gt, x_iload_6, x_if_eq, x_goto, x_iadd, x_iinc_7, x_ret, x_ret_i, x_ret_z, x_ret_l, x_ret_c, unl_i, unl_l, unl_q, unl_r, unl_s, unl_n, k_X4_howManyAlike_0, k_X4_howManyAlike_1, k_X4_howManyAlike_2, k_X4_howManyAlike_3, k_X4_howManyAlike_4, k_X4_howManyAlike_5, k_X4_howManyAlike_6, k_X4_howManyAlike_7, k_X4_howManyAlike_8, k_X4_howManyAlike_9, k_X4_howManyAlike_10, k_X4_howManyAlike_11, k_X4_howManyAlike_12, k_X4_howManyAlike_13, k_X4_howManyAlike_14, k_X4_howManyAlike_15, k_X4_howManyAlike_16, k_X4_howManyAlike_17, k_X4_howManyAlike_18, k_X4_howManyAlike_19, k_X4_howManyAlike_20, k_X4_howManyAlike_21, k_X4_howManyAlike_22, k_X4_howManyAlike_23, k_X4_howManyAlike_24, k_X4_howManyAlike_25, k_X4_howManyAlike_26, k_X4_howManyAlike_27, k_X4_howManyAlike_28, k_X4_howManyAlike_29, k_X4_howManyAlike_30, k_X4_howManyAlike_31, k_X4_howManyAlike_32, k_X4_howManyAlike_33, k_X4_howManyAlike_34, k_X4_howManyAlike_35, k_X4_howManyAlike_36, oE_some, Int.reduceToNat, Nat.reduceAdd, true_and, and_true, List.length_cons, List.length_nil, Option.toList_some, Option.toList_none, List.cons_append, List.nil_append, Nat.reduceLeDiff, Nat.le_refl, wdS_nil, wdS_i, wdS_l, wdS_r, wdS_n, wdS_s]
    rw [w32_nat (show max l (g + 1) < 2147483648 by omega), w32_nat (show g < 2147483648 by omega), if_pos (by omega)]
def isL (n : Nat) (G : BitVec 64) (i : Nat) : Bool := decide (BitVec.ofNat 64 (dgm n i) &&& G = 0#64)
theorem ite_dec {α : Type} (c : Prop) [Decidable c] (x y : α) : (if c then x else y) = (if decide c = true then x else y) := by by_cases h : c <;> simp [h]
set_option maxHeartbeats 8000000 in
theorem c4_isLeast (d : Nat) {hp : HP} {ra n i : Nat} {G : BitVec 64} (h : RWS hp ra n) (hi : i < FC n) (R : PO) : callD (d + 1) 49 [mR ra, mI (i : Int), mL G] hp R ↔ R (some (mI (zI (isL n G i)))) hp := by
  rw [callD_k]; simp only [entL_i, entL_l, entL_q, entL_s, entL_nil, n_X4_isLeast, u_X4_isLeast, m_X4_isLeast, rep_0, List.cons_append, List.nil_append, List.append_nil, List.length_cons, List.length_nil, Nat.reduceAdd, true_and]
  simp only [AW_k, AWk_1, x_aload_0, x_aloads_0, x_getf, x_iload_1, x_lald, x_lload_2, x_land, x_push_i, x_push_l, x_lcmp, x_if_ne, x_goto, x_ret, x_ret_i, x_ret_z, x_ret_l, x_ret_c, k_X4_isLeast_0, k_X4_isLeast_1, k_X4_isLeast_2, k_X4_isLeast_3, k_X4_isLeast_4, k_X4_isLeast_5, k_X4_isLeast_6, k_X4_isLeast_7, k_X4_isLeast_8, k_X4_isLeast_9, k_X4_isLeast_10, k_X4_isLeast_11, k_X4_isLeast_12, oE_some, Int.reduceToNat, Nat.reduceAdd, true_and, and_true, List.length_cons, List.length_nil, Option.toList_some, Option.toList_none, List.cons_append, List.nil_append, Nat.reduceLeDiff, Nat.le_refl, wdS_nil, wdS_i, wdS_l, wdS_r, wdS_n, wdS_s, rw_dgms h, rA_13 h, bJ rfl hi (FC_31 n), gJt rfl hi (FC_31 n), lCmp_eq, or_true, true_or, R_ite, ite_zI]
  exact Iff.rfl
set_option maxHeartbeats 8000000 in
theorem c4_withDiagram (d : Nat) {hp : HP} {ra n : Nat} {G : BitVec 64} (h : RWS hp ra n) (R : PO) : callD (d + 1) 46 [mR ra, mL G] hp R ↔ R (some (mI (oI (fst (fun i => decide (BitVec.ofNat 64 (dgm n i) = G)) (FC n) 0)))) hp := by
  have f1 := FC_le n
  rw [callD_k]; simp only [entL_i, entL_l, entL_q, entL_s, entL_nil, n_X4_withDiagram, u_X4_withDiagram, m_X4_withDiagram, rep_1, List.cons_append, List.nil_append, List.append_nil, List.length_cons, List.length_nil, Nat.reduceAdd, true_and]
  simp only [AW_k, AWk_1, x_push_i, x_push_l, x_istore_3, x_iload_3, x_aload_0, x_aloads_0, x_getf, x_icmp_ge, x_lald, x_lload_1, x_lcmp, x_if_ne, x_ret, x_ret_i, x_ret_z, x_ret_l, x_ret_c, x_iinc_3, x_goto, unl_i, unl_l, unl_q, unl_r, unl_s, unl_n, k_X4_withDiagram_0, k_X4_withDiagram_1, k_X4_withDiagram_2, k_X4_withDiagram_3, k_X4_withDiagram_4, k_X4_withDiagram_5, k_X4_withDiagram_6, k_X4_withDiagram_7, k_X4_withDiagram_8, k_X4_withDiagram_9, k_X4_withDiagram_10, k_X4_withDiagram_11, k_X4_withDiagram_12, k_X4_withDiagram_13, k_X4_withDiagram_14, k_X4_withDiagram_15, k_X4_withDiagram_16, k_X4_withDiagram_17, k_X4_withDiagram_18, oE_some, Int.reduceToNat, Nat.reduceAdd, true_and, and_true, List.length_cons, List.length_nil, Option.toList_some, Option.toList_none, List.cons_append, List.nil_append, Nat.reduceLeDiff, Nat.le_refl, wdS_nil, wdS_i, wdS_l, wdS_r, wdS_n, wdS_s]
  refine (loop_fst (P := fun i => AWh d [] 46 R 2 [some (mR ra), some (mL G), none, some (mI (i : Int))] [] hp (0, 0)) (E := fun u => R (some (mI (u : Int))) hp) (f := fun i => decide (BitVec.ofNat 64 (dgm n i) = G)) (N := FC n) ?_ (n := FC n) (a := 0) (by omega)).trans ?_
  · intro i hi
    rw [AWh_k, k_X4_withDiagram_2]
    simp only [AW_k, AWk_1, x_push_i, x_push_l, x_istore_3, x_iload_3, x_aload_0, x_aloads_0, x_getf, x_icmp_ge, x_lald, x_lload_1, x_lcmp, x_if_ne, x_ret, x_ret_i, x_ret_z, x_ret_l, x_ret_c, x_iinc_3, x_goto, unl_i, unl_l, unl_q, unl_r, unl_s, unl_n, k_X4_withDiagram_0, k_X4_withDiagram_1, k_X4_withDiagram_2, k_X4_withDiagram_3, k_X4_withDiagram_4, k_X4_withDiagram_5, k_X4_withDiagram_6, k_X4_withDiagram_7, k_X4_withDiagram_8, k_X4_withDiagram_9, k_X4_withDiagram_10, k_X4_withDiagram_11, k_X4_withDiagram_12, k_X4_withDiagram_13, k_X4_withDiagram_14, k_X4_withDiagram_15, k_X4_withDiagram_16, k_X4_withDiagram_17, k_X4_withDiagram_18, oE_some, Int.reduceToNat, Nat.reduceAdd, true_and, and_true, List.length_cons, List.length_nil, Option.toList_some, Option.toList_none, List.cons_append, List.nil_append, Nat.reduceLeDiff, Nat.le_refl, wdS_nil, wdS_i, wdS_l, wdS_r, wdS_n, wdS_s, rw_count h, rw_dgms h, rA_13 h, bJ rfl hi (FC_31 n), gJt rfl hi (FC_31 n), lCmp_eq]
    rw [w32_nat (show i < 2147483648 by omega), w32_nat (FC_31 n), if_pos (by omega), ite_dec]
    exact Iff.rfl
  · split
    · next p e => rw [e]; exact Iff.rfl
    · next e =>
      rw [e]
      rw [AWh_k, k_X4_withDiagram_2]
      simp only [AW_k, AWk_1, x_push_i, x_push_l, x_istore_3, x_iload_3, x_aload_0, x_aloads_0, x_getf, x_icmp_ge, x_lald, x_lload_1, x_lcmp, x_if_ne, x_ret, x_ret_i, x_ret_z, x_ret_l, x_ret_c, x_iinc_3, x_goto, unl_i, unl_l, unl_q, unl_r, unl_s, unl_n, k_X4_withDiagram_0, k_X4_withDiagram_1, k_X4_withDiagram_2, k_X4_withDiagram_3, k_X4_withDiagram_4, k_X4_withDiagram_5, k_X4_withDiagram_6, k_X4_withDiagram_7, k_X4_withDiagram_8, k_X4_withDiagram_9, k_X4_withDiagram_10, k_X4_withDiagram_11, k_X4_withDiagram_12, k_X4_withDiagram_13, k_X4_withDiagram_14, k_X4_withDiagram_15, k_X4_withDiagram_16, k_X4_withDiagram_17, k_X4_withDiagram_18, oE_some, Int.reduceToNat, Nat.reduceAdd, true_and, and_true, List.length_cons, List.length_nil, Option.toList_some, Option.toList_none, List.cons_append, List.nil_append, Nat.reduceLeDiff, Nat.le_refl, wdS_nil, wdS_i, wdS_l, wdS_r, wdS_n, wdS_s, rw_count h]
      rw [if_neg (Int.lt_irrefl _)]
      exact Iff.rfl
set_option maxHeartbeats 8000000 in
theorem c4_leastRowAt (d : Nat) {hp : HP} {ra n : Nat} {G : BitVec 64} {x : Int} (h : RWS hp ra n) (hx : w32 x = x) (R : PO) : callD (d + 2) 53 [mR ra, mI x, mL G] hp R ↔ R (some (mI (oI (fst (fun i => isL n G i && decide (cnt (isL n G) i = x)) (FC n) 0)))) hp := by
  have f1 := FC_le n
  rw [callD_k]; simp only [entL_i, entL_l, entL_q, entL_s, entL_nil, n_X4_leastRowAt, u_X4_leastRowAt, m_X4_leastRowAt, rep_2, List.cons_append, List.nil_append, List.append_nil, List.length_cons, List.length_nil, Nat.reduceAdd, true_and]
  simp only [AW_k, AWk_1, x_push_i, x_push_l, x_istore_4, x_istore_5, x_iload_5, x_aload_0, x_aloads_0, x_getf, x_icmp_ge, x_lload_2, x_callv_3, x_if_eq, x_iload_4, x_iload_1, x_icmp_ne, x_ret, x_ret_i, x_ret_z, x_ret_l, x_ret_c, x_iinc_4, x_iinc_5, x_goto, unl_i, unl_l, unl_q, unl_r, unl_s, unl_n, k_X4_leastRowAt_0, k_X4_leastRowAt_1, k_X4_leastRowAt_2, k_X4_leastRowAt_3, k_X4_leastRowAt_4, k_X4_leastRowAt_5, k_X4_leastRowAt_6, k_X4_leastRowAt_7, k_X4_leastRowAt_8, k_X4_leastRowAt_9, k_X4_leastRowAt_10, k_X4_leastRowAt_11, k_X4_leastRowAt_12, k_X4_leastRowAt_13, k_X4_leastRowAt_14, k_X4_leastRowAt_15, k_X4_leastRowAt_16, k_X4_leastRowAt_17, k_X4_leastRowAt_18, k_X4_leastRowAt_19, k_X4_leastRowAt_20, k_X4_leastRowAt_21, k_X4_leastRowAt_22, oE_some, Int.reduceToNat, Nat.reduceAdd, true_and, and_true, List.length_cons, List.length_nil, Option.toList_some, Option.toList_none, List.cons_append, List.nil_append, Nat.reduceLeDiff, Nat.le_refl, wdS_nil, wdS_i, wdS_l, wdS_r, wdS_n, wdS_s]
  refine (loop_fst (P := fun i => AWh (d + 1) [] 53 R 4 [some (mR ra), some (mI x), some (mL G), none, some (mI (cnt (isL n G) i)), some (mI (i : Int))] [] hp (0, 0)) (E := fun u => R (some (mI (u : Int))) hp) (f := fun i => isL n G i && decide (cnt (isL n G) i = x)) (N := FC n) ?_ (n := FC n) (a := 0) (by omega)).trans ?_
  · intro i hi
    rw [AWh_k, k_X4_leastRowAt_4]
    simp only [AW_k, AWk_1, x_push_i, x_push_l, x_istore_4, x_istore_5, x_iload_5, x_aload_0, x_aloads_0, x_getf, x_icmp_ge, x_lload_2, x_callv_3, x_if_eq, x_iload_4, x_iload_1, x_icmp_ne, x_ret, x_ret_i, x_ret_z, x_ret_l, x_ret_c, x_iinc_4, x_iinc_5, x_goto, unl_i, unl_l, unl_q, unl_r, unl_s, unl_n, k_X4_leastRowAt_0, k_X4_leastRowAt_1, k_X4_leastRowAt_2, k_X4_leastRowAt_3, k_X4_leastRowAt_4, k_X4_leastRowAt_5, k_X4_leastRowAt_6, k_X4_leastRowAt_7, k_X4_leastRowAt_8, k_X4_leastRowAt_9, k_X4_leastRowAt_10, k_X4_leastRowAt_11, k_X4_leastRowAt_12, k_X4_leastRowAt_13, k_X4_leastRowAt_14, k_X4_leastRowAt_15, k_X4_leastRowAt_16, k_X4_leastRowAt_17, k_X4_leastRowAt_18, k_X4_leastRowAt_19, k_X4_leastRowAt_20, k_X4_leastRowAt_21, k_X4_leastRowAt_22, oE_some, Int.reduceToNat, Nat.reduceAdd, true_and, and_true, List.length_cons, List.length_nil, Option.toList_some, Option.toList_none, List.cons_append, List.nil_append, Nat.reduceLeDiff, Nat.le_refl, wdS_nil, wdS_i, wdS_l, wdS_r, wdS_n, wdS_s, rw_count h, rC0 h, c4_isLeast d h hi, w32_zI_0, ite_bf]
    have hc := cnt_in (isL n G) i
    rw [w32_nat (show i < 2147483648 by omega), w32_nat (FC_31 n), if_pos (by omega), hx, w32_id (by omega) (by omega)]
    simp only [cnt_succ]
    cases isL n G i
    · simp only [zI_f, Int.add_zero]; exact Iff.rfl
    · by_cases e : cnt (isL n G) i = x
      · rw [if_pos rfl, if_pos e, decide_eq_true e]; exact Iff.rfl
      · rw [if_pos rfl, if_neg e, decide_eq_false e]; exact Iff.rfl
  · split
    · next p e => rw [e]; exact Iff.rfl
    · next e =>
      rw [e]
      rw [AWh_k, k_X4_leastRowAt_4]
      simp only [AW_k, AWk_1, x_push_i, x_push_l, x_istore_4, x_istore_5, x_iload_5, x_aload_0, x_aloads_0, x_getf, x_icmp_ge, x_lload_2, x_callv_3, x_if_eq, x_iload_4, x_iload_1, x_icmp_ne, x_ret, x_ret_i, x_ret_z, x_ret_l, x_ret_c, x_iinc_4, x_iinc_5, x_goto, unl_i, unl_l, unl_q, unl_r, unl_s, unl_n, k_X4_leastRowAt_0, k_X4_leastRowAt_1, k_X4_leastRowAt_2, k_X4_leastRowAt_3, k_X4_leastRowAt_4, k_X4_leastRowAt_5, k_X4_leastRowAt_6, k_X4_leastRowAt_7, k_X4_leastRowAt_8, k_X4_leastRowAt_9, k_X4_leastRowAt_10, k_X4_leastRowAt_11, k_X4_leastRowAt_12, k_X4_leastRowAt_13, k_X4_leastRowAt_14, k_X4_leastRowAt_15, k_X4_leastRowAt_16, k_X4_leastRowAt_17, k_X4_leastRowAt_18, k_X4_leastRowAt_19, k_X4_leastRowAt_20, k_X4_leastRowAt_21, k_X4_leastRowAt_22, oE_some, Int.reduceToNat, Nat.reduceAdd, true_and, and_true, List.length_cons, List.length_nil, Option.toList_some, Option.toList_none, List.cons_append, List.nil_append, Nat.reduceLeDiff, Nat.le_refl, wdS_nil, wdS_i, wdS_l, wdS_r, wdS_n, wdS_s, rw_count h]
      rw [if_neg (Int.lt_irrefl _)]
      exact Iff.rfl
set_option maxHeartbeats 8000000 in
theorem c4_howManyClasses (d : Nat) {hp : HP} {ra n : Nat} {G : BitVec 64} (h : RWS hp ra n) (R : PO) : callD (d + 2) 54 [mR ra, mL G] hp R ↔ R (some (mI (cnt (isL n G) (FC n)))) hp := by
  have f1 := FC_le n
  rw [callD_k]; simp only [entL_i, entL_l, entL_q, entL_s, entL_nil, n_X4_howManyClasses, u_X4_howManyClasses, m_X4_howManyClasses, rep_2, List.cons_append, List.nil_append, List.append_nil, List.length_cons, List.length_nil, Nat.reduceAdd, true_and]
  simp only [AW_k, AWk_1, x_push_i, x_push_l, x_istore_3, x_istore_4, x_iload_4, x_aload_0, x_aloads_0, x_getf, x_icmp_ge, x_iload_3, x_lload_1, x_callv_3, x_if_eq, x_goto, x_iadd, x_iinc_4, x_ret, x_ret_i, x_ret_z, x_ret_l, x_ret_c, unl_i, unl_l, unl_q, unl_r, unl_s, unl_n, k_X4_howManyClasses_0, k_X4_howManyClasses_1, k_X4_howManyClasses_2, k_X4_howManyClasses_3, k_X4_howManyClasses_4, k_X4_howManyClasses_5, k_X4_howManyClasses_6, k_X4_howManyClasses_7, k_X4_howManyClasses_8, k_X4_howManyClasses_9, k_X4_howManyClasses_10, k_X4_howManyClasses_11, k_X4_howManyClasses_12, k_X4_howManyClasses_13, k_X4_howManyClasses_14, k_X4_howManyClasses_15, k_X4_howManyClasses_16, k_X4_howManyClasses_17, k_X4_howManyClasses_18, k_X4_howManyClasses_19, k_X4_howManyClasses_20, k_X4_howManyClasses_21, k_X4_howManyClasses_22, oE_some, Int.reduceToNat, Nat.reduceAdd, true_and, and_true, List.length_cons, List.length_nil, Option.toList_some, Option.toList_none, List.cons_append, List.nil_append, Nat.reduceLeDiff, Nat.le_refl, wdS_nil, wdS_i, wdS_l, wdS_r, wdS_n, wdS_s]
  refine (loop_to (P := fun i => AWh (d + 1) [] 54 R 4 [some (mR ra), some (mL G), none, some (mI (cnt (isL n G) i)), some (mI (i : Int))] [] hp (0, 0)) (a := 0) (b := FC n) (by omega) ?_).trans ?_
  · intro i _ hi
    rw [AWh_k, k_X4_howManyClasses_4]
    simp only [AW_k, AWk_1, x_push_i, x_push_l, x_istore_3, x_istore_4, x_iload_4, x_aload_0, x_aloads_0, x_getf, x_icmp_ge, x_iload_3, x_lload_1, x_callv_3, x_if_eq, x_goto, x_iadd, x_iinc_4, x_ret, x_ret_i, x_ret_z, x_ret_l, x_ret_c, unl_i, unl_l, unl_q, unl_r, unl_s, unl_n, k_X4_howManyClasses_0, k_X4_howManyClasses_1, k_X4_howManyClasses_2, k_X4_howManyClasses_3, k_X4_howManyClasses_4, k_X4_howManyClasses_5, k_X4_howManyClasses_6, k_X4_howManyClasses_7, k_X4_howManyClasses_8, k_X4_howManyClasses_9, k_X4_howManyClasses_10, k_X4_howManyClasses_11, k_X4_howManyClasses_12, k_X4_howManyClasses_13, k_X4_howManyClasses_14, k_X4_howManyClasses_15, k_X4_howManyClasses_16, k_X4_howManyClasses_17, k_X4_howManyClasses_18, k_X4_howManyClasses_19, k_X4_howManyClasses_20, k_X4_howManyClasses_21, k_X4_howManyClasses_22, oE_some, Int.reduceToNat, Nat.reduceAdd, true_and, and_true, List.length_cons, List.length_nil, Option.toList_some, Option.toList_none, List.cons_append, List.nil_append, Nat.reduceLeDiff, Nat.le_refl, wdS_nil, wdS_i, wdS_l, wdS_r, wdS_n, wdS_s, rw_count h, rC0 h, c4_isLeast d h hi, w32_zI_0, ite_bf]
    rw [w32_nat (show i < 2147483648 by omega), w32_nat (FC_31 n), if_pos (by omega)]
    simp only [cnt_succ]
    cases isL n G i <;> exact Iff.rfl
  · rw [AWh_k, k_X4_howManyClasses_4]
    simp only [AW_k, AWk_1, x_push_i, x_push_l, x_istore_3, x_istore_4, x_iload_4, x_aload_0, x_aloads_0, x_getf, x_icmp_ge, x_iload_3, x_lload_1, x_callv_3, x_if_eq, x_goto, x_iadd, x_iinc_4, x_ret, x_ret_i, x_ret_z, x_ret_l, x_ret_c, unl_i, unl_l, unl_q, unl_r, unl_s, unl_n, k_X4_howManyClasses_0, k_X4_howManyClasses_1, k_X4_howManyClasses_2, k_X4_howManyClasses_3, k_X4_howManyClasses_4, k_X4_howManyClasses_5, k_X4_howManyClasses_6, k_X4_howManyClasses_7, k_X4_howManyClasses_8, k_X4_howManyClasses_9, k_X4_howManyClasses_10, k_X4_howManyClasses_11, k_X4_howManyClasses_12, k_X4_howManyClasses_13, k_X4_howManyClasses_14, k_X4_howManyClasses_15, k_X4_howManyClasses_16, k_X4_howManyClasses_17, k_X4_howManyClasses_18, k_X4_howManyClasses_19, k_X4_howManyClasses_20, k_X4_howManyClasses_21, k_X4_howManyClasses_22, oE_some, Int.reduceToNat, Nat.reduceAdd, true_and, and_true, List.length_cons, List.length_nil, Option.toList_some, Option.toList_none, List.cons_append, List.nil_append, Nat.reduceLeDiff, Nat.le_refl, wdS_nil, wdS_i, wdS_l, wdS_r, wdS_n, wdS_s, rw_count h]
    rw [if_neg (Int.lt_irrefl _)]
