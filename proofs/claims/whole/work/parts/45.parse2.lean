/-! ===== the class's reader: its methods ===== -/
set_option maxHeartbeats 8000000 in
theorem c8_isValue (d : Nat) {hp : HP} {x : Nat} (hx : x < 1000) (R : PO) : callD (d + 1) 89 [mI (x : Int)] hp R ↔ R (some (mI (zI (isVl x)))) hp := by
  have bx : x < 2147483648 := by omega
  have e : isVl x = (decide (1 ≤ (x : Int)) && decide ((x : Int) ≤ 6)) := by
    unfold isVl
    by_cases h1 : 1 ≤ x <;> by_cases h2 : x ≤ 6
    · rw [decide_eq_true h1, decide_eq_true h2, decide_eq_true (show 1 ≤ (x : Int) by omega), decide_eq_true (show (x : Int) ≤ 6 by omega)]
    · rw [decide_eq_false h2, decide_eq_false (show ¬ (x : Int) ≤ 6 by omega), Bool.and_false, Bool.and_false]
    · rw [decide_eq_false h1, decide_eq_false (show ¬ 1 ≤ (x : Int) by omega), Bool.false_and, Bool.false_and]
    · rw [decide_eq_false h1, decide_eq_false (show ¬ 1 ≤ (x : Int) by omega), Bool.false_and, Bool.false_and]
  rw [e]
  rw [callD_k]; simp only [entL_i, entL_l, entL_q, entL_s, entL_nil, n_X8_isValue, u_X8_isValue, m_X8_isValue, rep_0, List.cons_append, List.nil_append, List.append_nil, List.length_cons, List.length_nil, Nat.reduceAdd, true_and]
  simp only [AW_k, AWk_1, x_iload_0, x_push_i, x_push_l, x_icmp_lt, x_icmp_gt, x_goto, x_ret, x_ret_i, x_ret_z, x_ret_l, x_ret_c, k_X8_isValue_0, k_X8_isValue_1, k_X8_isValue_2, k_X8_isValue_3, k_X8_isValue_4, k_X8_isValue_5, k_X8_isValue_6, k_X8_isValue_7, k_X8_isValue_8, k_X8_isValue_9, oE_some, Int.reduceToNat, Nat.reduceAdd, true_and, and_true, List.length_cons, List.length_nil, Option.toList_some, Option.toList_none, List.cons_append, List.nil_append, Nat.reduceLeDiff, Nat.le_refl, wdS_nil, wdS_i, wdS_l, wdS_r, wdS_n, wdS_s, or_true, true_or, R_ite, w32_nat bx, show w32 1 = 1 from rfl, show w32 6 = 6 from rfl, in_ite]
set_option maxHeartbeats 8000000 in
theorem c8_holds (d : Nat) {hp : HP} {l r : Int} {g : Nat} (hg : g < 1000) (R : PO) : callD (d + 1) 90 [mI l, mI (g : Int), mI r] hp R ↔ R (some (mI (zI (hld l g r)))) hp := by
  have bg : g < 2147483648 := by omega
  unfold hld
  by_cases e0 : g = 60
  · subst e0
    rw [if_pos rfl]
    rw [callD_k]; simp only [entL_i, entL_l, entL_q, entL_s, entL_nil, n_X8_holds, u_X8_holds, m_X8_holds, rep_0, List.cons_append, List.nil_append, List.append_nil, List.length_cons, List.length_nil, Nat.reduceAdd, true_and]
    simp only [AW_k, AWk_1, x_iload_1, x_push_i, x_push_l, x_icmp_ne, x_iload_0, x_iload_2, x_icmp_ge, x_goto, x_icmp_le, x_ret, x_ret_i, x_ret_z, x_ret_l, x_ret_c, k_X8_holds_0, k_X8_holds_1, k_X8_holds_2, k_X8_holds_3, k_X8_holds_4, k_X8_holds_5, k_X8_holds_6, k_X8_holds_7, k_X8_holds_8, k_X8_holds_9, k_X8_holds_10, k_X8_holds_11, k_X8_holds_12, k_X8_holds_13, k_X8_holds_14, k_X8_holds_15, k_X8_holds_16, k_X8_holds_17, k_X8_holds_18, k_X8_holds_19, k_X8_holds_20, k_X8_holds_21, k_X8_holds_22, k_X8_holds_23, k_X8_holds_24, k_X8_holds_25, k_X8_holds_26, oE_some, Int.reduceToNat, Nat.reduceAdd, true_and, and_true, List.length_cons, List.length_nil, Option.toList_some, Option.toList_none, List.cons_append, List.nil_append, Nat.reduceLeDiff, Nat.le_refl, wdS_nil, wdS_i, wdS_l, wdS_r, wdS_n, wdS_s, or_true, true_or, R_ite, show w32 ((60 : Nat) : Int) = 60 from rfl, show w32 60 = 60 from rfl, if_true, ite_zI3]
  · rw [if_neg e0]
    have n0 : ¬ (g : Int) = 60 := by omega
    by_cases e1 : g = 61
    · subst e1
      rw [if_pos rfl]
      rw [callD_k]; simp only [entL_i, entL_l, entL_q, entL_s, entL_nil, n_X8_holds, u_X8_holds, m_X8_holds, rep_0, List.cons_append, List.nil_append, List.append_nil, List.length_cons, List.length_nil, Nat.reduceAdd, true_and]
      simp only [AW_k, AWk_1, x_iload_1, x_push_i, x_push_l, x_icmp_ne, x_iload_0, x_iload_2, x_icmp_ge, x_goto, x_icmp_le, x_ret, x_ret_i, x_ret_z, x_ret_l, x_ret_c, k_X8_holds_0, k_X8_holds_1, k_X8_holds_2, k_X8_holds_3, k_X8_holds_4, k_X8_holds_5, k_X8_holds_6, k_X8_holds_7, k_X8_holds_8, k_X8_holds_9, k_X8_holds_10, k_X8_holds_11, k_X8_holds_12, k_X8_holds_13, k_X8_holds_14, k_X8_holds_15, k_X8_holds_16, k_X8_holds_17, k_X8_holds_18, k_X8_holds_19, k_X8_holds_20, k_X8_holds_21, k_X8_holds_22, k_X8_holds_23, k_X8_holds_24, k_X8_holds_25, k_X8_holds_26, oE_some, Int.reduceToNat, Nat.reduceAdd, true_and, and_true, List.length_cons, List.length_nil, Option.toList_some, Option.toList_none, List.cons_append, List.nil_append, Nat.reduceLeDiff, Nat.le_refl, wdS_nil, wdS_i, wdS_l, wdS_r, wdS_n, wdS_s, or_true, true_or, R_ite, show w32 ((61 : Nat) : Int) = 61 from rfl, show w32 60 = 60 from rfl, show w32 61 = 61 from rfl, if_true, if_false, Int.reduceEq, ite_zI3]
    · rw [if_neg e1]
      have n1 : ¬ (g : Int) = 61 := by omega
      rw [callD_k]; simp only [entL_i, entL_l, entL_q, entL_s, entL_nil, n_X8_holds, u_X8_holds, m_X8_holds, rep_0, List.cons_append, List.nil_append, List.append_nil, List.length_cons, List.length_nil, Nat.reduceAdd, true_and]
      simp only [AW_k, AWk_1, x_iload_1, x_push_i, x_push_l, x_icmp_ne, x_iload_0, x_iload_2, x_icmp_ge, x_goto, x_icmp_le, x_ret, x_ret_i, x_ret_z, x_ret_l, x_ret_c, k_X8_holds_0, k_X8_holds_1, k_X8_holds_2, k_X8_holds_3, k_X8_holds_4, k_X8_holds_5, k_X8_holds_6, k_X8_holds_7, k_X8_holds_8, k_X8_holds_9, k_X8_holds_10, k_X8_holds_11, k_X8_holds_12, k_X8_holds_13, k_X8_holds_14, k_X8_holds_15, k_X8_holds_16, k_X8_holds_17, k_X8_holds_18, k_X8_holds_19, k_X8_holds_20, k_X8_holds_21, k_X8_holds_22, k_X8_holds_23, k_X8_holds_24, k_X8_holds_25, k_X8_holds_26, oE_some, Int.reduceToNat, Nat.reduceAdd, true_and, and_true, List.length_cons, List.length_nil, Option.toList_some, Option.toList_none, List.cons_append, List.nil_append, Nat.reduceLeDiff, Nat.le_refl, wdS_nil, wdS_i, wdS_l, wdS_r, wdS_n, wdS_s, or_true, true_or, R_ite, w32_nat bg, show w32 60 = 60 from rfl, show w32 61 = 61 from rfl, n0, n1, if_false, ite_zI3]
set_option maxHeartbeats 16000000 in
theorem c8_factOf (d : Nat) {a ra n L x k : Nat} {W B : Nat → Nat} {V : Nat → Int} {tb ws bg wo : List Int} {h : HP} {s : PSt} (hX : PX a ra n L W B V tb ws bg wo h s) (hx : x < NA n) (hk : k ≤ L) (R : PO) : callD (d + 1) 91 [mR a, mI (x : Int), mI (k : Int)] h R ↔ R (some (mI (fct n W V x k))) h := by
  obtain ⟨x1, x2, x3, x4, x5⟩ := hX
  obtain ⟨⟨l1, l2, l3⟩, L2, hw, hb, h0⟩ := x3
  have q := hw k hk
  have hWb := (hb k hk).1
  have k200 : k ≤ 200 := by omega
  have bk : k < 2147483648 := by omega
  have bW : W k < 2147483648 := by omega
  unfold fct
  by_cases e2 : W k = 2
  · have c2 : (W k : Int) = 2 := by omega
    rw [if_pos e2]
    rw [callD_k]; simp only [entL_i, entL_l, entL_q, entL_s, entL_nil, n_X8_factOf, u_X8_factOf, m_X8_factOf, rep_0, List.cons_append, List.nil_append, List.append_nil, List.length_cons, List.length_nil, Nat.reduceAdd, true_and]
    simp only [AW_k, AWk_1, x_aload_0, x_aloads_0, x_getf, x_iload_2, x_iald, x_ialds, x_switch, AW_sw, AW_sw0, x_iload_1, x_ret, x_ret_i, x_ret_z, x_ret_l, x_ret_c, k_X8_factOf_0, k_X8_factOf_1, k_X8_factOf_2, k_X8_factOf_3, k_X8_factOf_4, k_X8_factOf_5, k_X8_factOf_6, k_X8_factOf_7, k_X8_factOf_8, k_X8_factOf_9, k_X8_factOf_10, k_X8_factOf_11, k_X8_factOf_12, k_X8_factOf_13, k_X8_factOf_14, k_X8_factOf_15, k_X8_factOf_16, k_X8_factOf_17, k_X8_factOf_18, k_X8_factOf_19, k_X8_factOf_20, k_X8_factOf_21, k_X8_factOf_22, k_X8_factOf_23, k_X8_factOf_24, k_X8_factOf_25, k_X8_factOf_26, k_X8_factOf_27, k_X8_factOf_28, k_X8_factOf_29, k_X8_factOf_30, k_X8_factOf_31, k_X8_factOf_32, k_X8_factOf_33, k_X8_factOf_34, k_X8_factOf_35, k_X8_factOf_36, k_X8_factOf_37, oE_some, Int.reduceToNat, Nat.reduceAdd, true_and, and_true, List.length_cons, List.length_nil, Option.toList_some, Option.toList_none, List.cons_append, List.nil_append, Nat.reduceLeDiff, Nat.le_refl, wdS_nil, wdS_i, wdS_l, wdS_r, wdS_n, wdS_s, x2.1.2.2.2.1, x2.2.2.1, w201 l1 k200, gtW bk q.1, w32_nat bW, c2, show w32 2 = 2 from rfl, swT_cons, swT_nil, if_true, x2.1.2.2.2.2.2.2.2, rw_low x1, rA_3 x1, bI rfl hx (NA_31 n), gI rfl hx (NA_31 n)]
  · have c2 : ¬ (W k : Int) = 2 := by omega
    rw [if_neg e2]
    by_cases e3 : W k = 3
    · have c3 : (W k : Int) = 3 := by omega
      rw [if_pos e3]
      rw [callD_k]; simp only [entL_i, entL_l, entL_q, entL_s, entL_nil, n_X8_factOf, u_X8_factOf, m_X8_factOf, rep_0, List.cons_append, List.nil_append, List.append_nil, List.length_cons, List.length_nil, Nat.reduceAdd, true_and]
      simp only [AW_k, AWk_1, x_aload_0, x_aloads_0, x_getf, x_iload_2, x_iald, x_ialds, x_switch, AW_sw, AW_sw0, x_iload_1, x_ret, x_ret_i, x_ret_z, x_ret_l, x_ret_c, k_X8_factOf_0, k_X8_factOf_1, k_X8_factOf_2, k_X8_factOf_3, k_X8_factOf_4, k_X8_factOf_5, k_X8_factOf_6, k_X8_factOf_7, k_X8_factOf_8, k_X8_factOf_9, k_X8_factOf_10, k_X8_factOf_11, k_X8_factOf_12, k_X8_factOf_13, k_X8_factOf_14, k_X8_factOf_15, k_X8_factOf_16, k_X8_factOf_17, k_X8_factOf_18, k_X8_factOf_19, k_X8_factOf_20, k_X8_factOf_21, k_X8_factOf_22, k_X8_factOf_23, k_X8_factOf_24, k_X8_factOf_25, k_X8_factOf_26, k_X8_factOf_27, k_X8_factOf_28, k_X8_factOf_29, k_X8_factOf_30, k_X8_factOf_31, k_X8_factOf_32, k_X8_factOf_33, k_X8_factOf_34, k_X8_factOf_35, k_X8_factOf_36, k_X8_factOf_37, oE_some, Int.reduceToNat, Nat.reduceAdd, true_and, and_true, List.length_cons, List.length_nil, Option.toList_some, Option.toList_none, List.cons_append, List.nil_append, Nat.reduceLeDiff, Nat.le_refl, wdS_nil, wdS_i, wdS_l, wdS_r, wdS_n, wdS_s, x2.1.2.2.2.1, x2.2.2.1, w201 l1 k200, gtW bk q.1, w32_nat bW, c3, show w32 3 = 3 from rfl, swT_cons, swT_nil, if_true, if_false, Int.reduceEq, x2.1.2.2.2.2.2.2.2, rw_high x1, rA_4 x1, bI rfl hx (NA_31 n), gI rfl hx (NA_31 n)]
    · have c3 : ¬ (W k : Int) = 3 := by omega
      rw [if_neg e3]
      by_cases e4 : W k = 4
      · have c4 : (W k : Int) = 4 := by omega
        rw [if_pos e4]
        rw [callD_k]; simp only [entL_i, entL_l, entL_q, entL_s, entL_nil, n_X8_factOf, u_X8_factOf, m_X8_factOf, rep_0, List.cons_append, List.nil_append, List.append_nil, List.length_cons, List.length_nil, Nat.reduceAdd, true_and]
        simp only [AW_k, AWk_1, x_aload_0, x_aloads_0, x_getf, x_iload_2, x_iald, x_ialds, x_switch, AW_sw, AW_sw0, x_iload_1, x_ret, x_ret_i, x_ret_z, x_ret_l, x_ret_c, k_X8_factOf_0, k_X8_factOf_1, k_X8_factOf_2, k_X8_factOf_3, k_X8_factOf_4, k_X8_factOf_5, k_X8_factOf_6, k_X8_factOf_7, k_X8_factOf_8, k_X8_factOf_9, k_X8_factOf_10, k_X8_factOf_11, k_X8_factOf_12, k_X8_factOf_13, k_X8_factOf_14, k_X8_factOf_15, k_X8_factOf_16, k_X8_factOf_17, k_X8_factOf_18, k_X8_factOf_19, k_X8_factOf_20, k_X8_factOf_21, k_X8_factOf_22, k_X8_factOf_23, k_X8_factOf_24, k_X8_factOf_25, k_X8_factOf_26, k_X8_factOf_27, k_X8_factOf_28, k_X8_factOf_29, k_X8_factOf_30, k_X8_factOf_31, k_X8_factOf_32, k_X8_factOf_33, k_X8_factOf_34, k_X8_factOf_35, k_X8_factOf_36, k_X8_factOf_37, oE_some, Int.reduceToNat, Nat.reduceAdd, true_and, and_true, List.length_cons, List.length_nil, Option.toList_some, Option.toList_none, List.cons_append, List.nil_append, Nat.reduceLeDiff, Nat.le_refl, wdS_nil, wdS_i, wdS_l, wdS_r, wdS_n, wdS_s, x2.1.2.2.2.1, x2.2.2.1, w201 l1 k200, gtW bk q.1, w32_nat bW, c4, show w32 4 = 4 from rfl, swT_cons, swT_nil, if_true, if_false, Int.reduceEq, x2.1.2.2.2.2.2.2.2, rw_lefts x1, rA_6 x1, bI rfl hx (NA_31 n), gI rfl hx (NA_31 n)]
      · have c4 : ¬ (W k : Int) = 4 := by omega
        rw [if_neg e4]
        by_cases e5 : W k = 5
        · have c5 : (W k : Int) = 5 := by omega
          rw [if_pos e5]
          rw [callD_k]; simp only [entL_i, entL_l, entL_q, entL_s, entL_nil, n_X8_factOf, u_X8_factOf, m_X8_factOf, rep_0, List.cons_append, List.nil_append, List.append_nil, List.length_cons, List.length_nil, Nat.reduceAdd, true_and]
          simp only [AW_k, AWk_1, x_aload_0, x_aloads_0, x_getf, x_iload_2, x_iald, x_ialds, x_switch, AW_sw, AW_sw0, x_iload_1, x_ret, x_ret_i, x_ret_z, x_ret_l, x_ret_c, k_X8_factOf_0, k_X8_factOf_1, k_X8_factOf_2, k_X8_factOf_3, k_X8_factOf_4, k_X8_factOf_5, k_X8_factOf_6, k_X8_factOf_7, k_X8_factOf_8, k_X8_factOf_9, k_X8_factOf_10, k_X8_factOf_11, k_X8_factOf_12, k_X8_factOf_13, k_X8_factOf_14, k_X8_factOf_15, k_X8_factOf_16, k_X8_factOf_17, k_X8_factOf_18, k_X8_factOf_19, k_X8_factOf_20, k_X8_factOf_21, k_X8_factOf_22, k_X8_factOf_23, k_X8_factOf_24, k_X8_factOf_25, k_X8_factOf_26, k_X8_factOf_27, k_X8_factOf_28, k_X8_factOf_29, k_X8_factOf_30, k_X8_factOf_31, k_X8_factOf_32, k_X8_factOf_33, k_X8_factOf_34, k_X8_factOf_35, k_X8_factOf_36, k_X8_factOf_37, oE_some, Int.reduceToNat, Nat.reduceAdd, true_and, and_true, List.length_cons, List.length_nil, Option.toList_some, Option.toList_none, List.cons_append, List.nil_append, Nat.reduceLeDiff, Nat.le_refl, wdS_nil, wdS_i, wdS_l, wdS_r, wdS_n, wdS_s, x2.1.2.2.2.1, x2.2.2.1, w201 l1 k200, gtW bk q.1, w32_nat bW, c5, show w32 5 = 5 from rfl, swT_cons, swT_nil, if_true, if_false, Int.reduceEq, x2.1.2.2.2.2.2.2.2, rw_rights x1, rA_7 x1, bI rfl hx (NA_31 n), gI rfl hx (NA_31 n)]
        · have c5 : ¬ (W k : Int) = 5 := by omega
          rw [if_neg e5]
          by_cases e6 : W k = 6
          · have c6 : (W k : Int) = 6 := by omega
            rw [if_pos e6]
            rw [callD_k]; simp only [entL_i, entL_l, entL_q, entL_s, entL_nil, n_X8_factOf, u_X8_factOf, m_X8_factOf, rep_0, List.cons_append, List.nil_append, List.append_nil, List.length_cons, List.length_nil, Nat.reduceAdd, true_and]
            simp only [AW_k, AWk_1, x_aload_0, x_aloads_0, x_getf, x_iload_2, x_iald, x_ialds, x_switch, AW_sw, AW_sw0, x_iload_1, x_ret, x_ret_i, x_ret_z, x_ret_l, x_ret_c, k_X8_factOf_0, k_X8_factOf_1, k_X8_factOf_2, k_X8_factOf_3, k_X8_factOf_4, k_X8_factOf_5, k_X8_factOf_6, k_X8_factOf_7, k_X8_factOf_8, k_X8_factOf_9, k_X8_factOf_10, k_X8_factOf_11, k_X8_factOf_12, k_X8_factOf_13, k_X8_factOf_14, k_X8_factOf_15, k_X8_factOf_16, k_X8_factOf_17, k_X8_factOf_18, k_X8_factOf_19, k_X8_factOf_20, k_X8_factOf_21, k_X8_factOf_22, k_X8_factOf_23, k_X8_factOf_24, k_X8_factOf_25, k_X8_factOf_26, k_X8_factOf_27, k_X8_factOf_28, k_X8_factOf_29, k_X8_factOf_30, k_X8_factOf_31, k_X8_factOf_32, k_X8_factOf_33, k_X8_factOf_34, k_X8_factOf_35, k_X8_factOf_36, k_X8_factOf_37, oE_some, Int.reduceToNat, Nat.reduceAdd, true_and, and_true, List.length_cons, List.length_nil, Option.toList_some, Option.toList_none, List.cons_append, List.nil_append, Nat.reduceLeDiff, Nat.le_refl, wdS_nil, wdS_i, wdS_l, wdS_r, wdS_n, wdS_s, x2.1.2.2.2.1, x2.2.2.1, w201 l1 k200, gtW bk q.1, w32_nat bW, c6, show w32 6 = 6 from rfl, swT_cons, swT_nil, if_true, if_false, Int.reduceEq, x2.1.2.2.2.2.2.2.2, rw_an x1]
          · have c6 : ¬ (W k : Int) = 6 := by omega
            rw [if_neg e6]
            rw [callD_k]; simp only [entL_i, entL_l, entL_q, entL_s, entL_nil, n_X8_factOf, u_X8_factOf, m_X8_factOf, rep_0, List.cons_append, List.nil_append, List.append_nil, List.length_cons, List.length_nil, Nat.reduceAdd, true_and]
            simp only [AW_k, AWk_1, x_aload_0, x_aloads_0, x_getf, x_iload_2, x_iald, x_ialds, x_switch, AW_sw, AW_sw0, x_iload_1, x_ret, x_ret_i, x_ret_z, x_ret_l, x_ret_c, k_X8_factOf_0, k_X8_factOf_1, k_X8_factOf_2, k_X8_factOf_3, k_X8_factOf_4, k_X8_factOf_5, k_X8_factOf_6, k_X8_factOf_7, k_X8_factOf_8, k_X8_factOf_9, k_X8_factOf_10, k_X8_factOf_11, k_X8_factOf_12, k_X8_factOf_13, k_X8_factOf_14, k_X8_factOf_15, k_X8_factOf_16, k_X8_factOf_17, k_X8_factOf_18, k_X8_factOf_19, k_X8_factOf_20, k_X8_factOf_21, k_X8_factOf_22, k_X8_factOf_23, k_X8_factOf_24, k_X8_factOf_25, k_X8_factOf_26, k_X8_factOf_27, k_X8_factOf_28, k_X8_factOf_29, k_X8_factOf_30, k_X8_factOf_31, k_X8_factOf_32, k_X8_factOf_33, k_X8_factOf_34, k_X8_factOf_35, k_X8_factOf_36, k_X8_factOf_37, oE_some, Int.reduceToNat, Nat.reduceAdd, true_and, and_true, List.length_cons, List.length_nil, Option.toList_some, Option.toList_none, List.cons_append, List.nil_append, Nat.reduceLeDiff, Nat.le_refl, wdS_nil, wdS_i, wdS_l, wdS_r, wdS_n, wdS_s, x2.1.2.2.2.1, x2.2.2.1, w201 l1 k200, gtW bk q.1, w32_nat bW, c2, c3, c4, c5, c6, swT_cons, swT_nil, if_true, if_false, x2.1.2.2.2.2.2.1, x2.2.2.2.2, w201 l3 k200, gtW bk q.2.2]
/-- a method of the reader: what it tells, where it stands then -/
def PC (a ra n L : Nat) (W B : Nat → Nat) (V : Nat → Int) (tb ws bg wo : List Int) (d M : Nat) (args : List AV) (f : PSt → BitVec 64 × PSt) : Prop := ∀ (h : HP) (s : PSt), PX a ra n L W B V tb ws bg wo h s → ∃ h', PX a ra n L W B V tb ws bg wo h' (f s).2 ∧ Fr a (a + 5) h h' ∧ ∀ R : PO, callD d M args h R ↔ R (some (mL (f s).1)) h'
theorem zI_3 (x y z : Prop) [Decidable x] [Decidable y] [Decidable z] {α : Type} (f : Int → α) : (if x then f 1 else if y then f 1 else if z then f 1 else f 0) = f (zI (decide x || decide y || decide z)) := by
  by_cases h1 : x <;> by_cases h2 : y <;> by_cases h3 : z <;> simp [h1, h2, h3, zI]
theorem dec_nat (x k : Nat) : decide (x = k) = decide ((x : Int) = (k : Int)) := by
  by_cases e : x = k
  · rw [decide_eq_true e, decide_eq_true (by omega)]
  · rw [decide_eq_false e, decide_eq_false (by omega)]
theorem sg_eq (x : Nat) : isSg x = (decide ((x : Int) = 60) || decide ((x : Int) = 61) || decide ((x : Int) = 62)) := by
  unfold isSg
  rw [dec_nat x 60, dec_nat x 61, dec_nat x 62]
  rfl
set_option maxHeartbeats 32000000 in
theorem c8_compared (d : Nat) {a ra n L : Nat} {W B : Nat → Nat} {V : Nat → Int} {tb ws bg wo : List Int} : PC a ra n L W B V tb ws bg wo (d + 2) 88 [mR a] (cmpP n W B V) := by
  intro h s hX
  have hX0 := hX
  obtain ⟨x1, x2, x3, x4, x5⟩ := hX
  obtain ⟨⟨l1, l2, l3⟩, L2, hw, hb, h0⟩ := x3
  have hs := x4.1
  have fNA := NA_le n
  have q := hw s.2 hs
  have hWb := (hb s.2 hs).1
  have s200 : s.2 ≤ 200 := by omega
  have bs2 : s.2 < 2147483648 := by omega
  obtain ⟨h1, y1, f1, p1⟩ := c8_pass d (c := isVl (W s.2)) hX0
  generalize hs1 : psP W B (isVl (W s.2)) s = s1 at y1
  have y1' := y1
  obtain ⟨z1, z2, -, z4, -⟩ := y1'
  have hs1' := z4.1
  have q1 := hw s1.2 hs1'
  have hWb1 := (hb s1.2 hs1').1
  have s1200 : s1.2 ≤ 200 := by omega
  have bs1 : s1.2 < 2147483648 := by omega
  have bW1 : W s1.2 < 2147483648 := by omega
  obtain ⟨h2, y2, f2, p2⟩ := c8_pass d (c := isSg (W s1.2)) y1
  generalize hs2 : psP W B (isSg (W s1.2)) s1 = s2 at y2
  have y2' := y2
  obtain ⟨v1, v2, -, v4, -⟩ := y2'
  have hs2' := v4.1
  have q2 := hw s2.2 hs2'
  have hWb2 := (hb s2.2 hs2').1
  have s2200 : s2.2 ≤ 200 := by omega
  have bs22 : s2.2 < 2147483648 := by omega
  obtain ⟨h3, y3, f3, p3⟩ := c8_pass d (c := isVl (W s2.2)) y2
  have e3 : cmpP n W B V s = (stB (fun x => hld (fct n W V x s.2) (W s1.2) (fct n W V x s2.2)) (NA n), psP W B (isVl (W s2.2)) s2) := by
    unfold cmpP
    rw [hs1, hs2]
  rw [e3]
  refine ⟨h3, y3, Fr_trans (Fr_trans f1 f2) f3, fun R => ?_⟩
  have esg : isSg (W s1.2) = (decide ((W s1.2 : Int) = 60) || decide ((W s1.2 : Int) = 61) || decide ((W s1.2 : Int) = 62)) := by
    exact sg_eq _
  have loop : AWh (d + 1) [] 88 R 46 [some (mR a), some (mI (s.2 : Int)), some (mI (W s1.2 : Int)), some (mI (s2.2 : Int)), some (mL 0#64), none, some (mI 0)] [] h3 (0, 0) ↔ R (some (mL (stB (fun x => hld (fct n W V x s.2) (W s1.2) (fct n W V x s2.2)) (NA n)))) h3 := by
    refine (loop_to (P := fun x => AWh (d + 1) [] 88 R 46 [some (mR a), some (mI (s.2 : Int)), some (mI (W s1.2 : Int)), some (mI (s2.2 : Int)), some (mL (stB (fun x => hld (fct n W V x s.2) (W s1.2) (fct n W V x s2.2)) x)), none, some (mI (x : Int))] [] h3 (0, 0)) (a := 0) (b := NA n) (Nat.zero_le _) ?_).trans ?_
    · intro x _ hx
      have bx : x < 2147483648 := by omega
      have cx : (x : Int) < ((NA n : Nat) : Int) := by omega
      have x64 : x < 64 := by omega
      rw [AWh_k, k_X8_compared_46]
      simp only [AW_k, AWk_1, x_aload_0, x_aloads_0, x_getf, x_istore_1, x_iald, x_ialds, x_call_1, x_callv_2, x_istore_2, x_iload_2, x_push_i, x_push_l, x_icmp_eq, x_icmp_ne, x_goto, x_istore_3, x_lstore_4, x_istore_6, x_iload_6, x_icmp_ge, x_lload_4, x_iload_1, x_callv_3, x_iload_3, x_call_3, x_if_eq, x_lshl, x_lor, x_iinc_6, x_ret, x_ret_i, x_ret_z, x_ret_l, x_ret_c, unl_i, unl_l, unl_q, unl_r, unl_s, unl_n, k_X8_compared_0, k_X8_compared_1, k_X8_compared_2, k_X8_compared_3, k_X8_compared_4, k_X8_compared_5, k_X8_compared_6, k_X8_compared_7, k_X8_compared_8, k_X8_compared_9, k_X8_compared_10, k_X8_compared_11, k_X8_compared_12, k_X8_compared_13, k_X8_compared_14, k_X8_compared_15, k_X8_compared_16, k_X8_compared_17, k_X8_compared_18, k_X8_compared_19, k_X8_compared_20, k_X8_compared_21, k_X8_compared_22, k_X8_compared_23, k_X8_compared_24, k_X8_compared_25, k_X8_compared_26, k_X8_compared_27, k_X8_compared_28, k_X8_compared_29, k_X8_compared_30, k_X8_compared_31, k_X8_compared_32, k_X8_compared_33, k_X8_compared_34, k_X8_compared_35, k_X8_compared_36, k_X8_compared_37, k_X8_compared_38, k_X8_compared_39, k_X8_compared_40, k_X8_compared_41, k_X8_compared_42, k_X8_compared_43, k_X8_compared_44, k_X8_compared_45, k_X8_compared_46, k_X8_compared_47, k_X8_compared_48, k_X8_compared_49, k_X8_compared_50, k_X8_compared_51, k_X8_compared_52, k_X8_compared_53, k_X8_compared_54, k_X8_compared_55, k_X8_compared_56, k_X8_compared_57, k_X8_compared_58, k_X8_compared_59, k_X8_compared_60, k_X8_compared_61, k_X8_compared_62, k_X8_compared_63, k_X8_compared_64, k_X8_compared_65, k_X8_compared_66, k_X8_compared_67, k_X8_compared_68, k_X8_compared_69, k_X8_compared_70, k_X8_compared_71, k_X8_compared_72, k_X8_compared_73, oE_some, Int.reduceToNat, Nat.reduceAdd, true_and, and_true, List.length_cons, List.length_nil, Option.toList_some, Option.toList_none, List.cons_append, List.nil_append, Nat.reduceLeDiff, Nat.le_refl, wdS_nil, wdS_i, wdS_l, wdS_r, wdS_n, wdS_s, y3.2.1.1.2.2.2.2.2.2.2, rw_ac y3.1, gC_of y3.2.1.1.1, c8_factOf d y3 hx hs, c8_factOf d y3 hx hs2', c8_holds d hWb1, w32_zI_0, ite_bf, sh_k x64]
      rw [w32_nat bx, w32_nat (NA_31 n), if_pos cx]
      simp only [stB_succ]
      cases hld (fct n W V x s.2) (W s1.2) (fct n W V x s2.2) <;> exact Iff.rfl
    · rw [AWh_k, k_X8_compared_46]
      simp only [AW_k, AWk_1, x_aload_0, x_aloads_0, x_getf, x_istore_1, x_iald, x_ialds, x_call_1, x_callv_2, x_istore_2, x_iload_2, x_push_i, x_push_l, x_icmp_eq, x_icmp_ne, x_goto, x_istore_3, x_lstore_4, x_istore_6, x_iload_6, x_icmp_ge, x_lload_4, x_iload_1, x_callv_3, x_iload_3, x_call_3, x_if_eq, x_lshl, x_lor, x_iinc_6, x_ret, x_ret_i, x_ret_z, x_ret_l, x_ret_c, unl_i, unl_l, unl_q, unl_r, unl_s, unl_n, k_X8_compared_0, k_X8_compared_1, k_X8_compared_2, k_X8_compared_3, k_X8_compared_4, k_X8_compared_5, k_X8_compared_6, k_X8_compared_7, k_X8_compared_8, k_X8_compared_9, k_X8_compared_10, k_X8_compared_11, k_X8_compared_12, k_X8_compared_13, k_X8_compared_14, k_X8_compared_15, k_X8_compared_16, k_X8_compared_17, k_X8_compared_18, k_X8_compared_19, k_X8_compared_20, k_X8_compared_21, k_X8_compared_22, k_X8_compared_23, k_X8_compared_24, k_X8_compared_25, k_X8_compared_26, k_X8_compared_27, k_X8_compared_28, k_X8_compared_29, k_X8_compared_30, k_X8_compared_31, k_X8_compared_32, k_X8_compared_33, k_X8_compared_34, k_X8_compared_35, k_X8_compared_36, k_X8_compared_37, k_X8_compared_38, k_X8_compared_39, k_X8_compared_40, k_X8_compared_41, k_X8_compared_42, k_X8_compared_43, k_X8_compared_44, k_X8_compared_45, k_X8_compared_46, k_X8_compared_47, k_X8_compared_48, k_X8_compared_49, k_X8_compared_50, k_X8_compared_51, k_X8_compared_52, k_X8_compared_53, k_X8_compared_54, k_X8_compared_55, k_X8_compared_56, k_X8_compared_57, k_X8_compared_58, k_X8_compared_59, k_X8_compared_60, k_X8_compared_61, k_X8_compared_62, k_X8_compared_63, k_X8_compared_64, k_X8_compared_65, k_X8_compared_66, k_X8_compared_67, k_X8_compared_68, k_X8_compared_69, k_X8_compared_70, k_X8_compared_71, k_X8_compared_72, k_X8_compared_73, oE_some, Int.reduceToNat, Nat.reduceAdd, true_and, and_true, List.length_cons, List.length_nil, Option.toList_some, Option.toList_none, List.cons_append, List.nil_append, Nat.reduceLeDiff, Nat.le_refl, wdS_nil, wdS_i, wdS_l, wdS_r, wdS_n, wdS_s, y3.2.1.1.2.2.2.2.2.2.2, rw_ac y3.1]
      rw [if_neg (Int.lt_irrefl _)]
  have hT : isSg (W s1.2) = true → ∀ R : PO, callD (d + 1) 84 [mR a, mI 1] h1 R ↔ R none h2 := fun e => by rw [e] at p2; exact p2
  have hF : isSg (W s1.2) = false → ∀ R : PO, callD (d + 1) 84 [mR a, mI 0] h1 R ↔ R none h2 := fun e => by rw [e] at p2; exact p2
  rw [callD_k]; simp only [entL_i, entL_l, entL_q, entL_s, entL_nil, n_X8_compared, u_X8_compared, m_X8_compared, rep_6, List.cons_append, List.nil_append, List.append_nil, List.length_cons, List.length_nil, Nat.reduceAdd, true_and]
  simp only [AW_k, AWk_1, x_aload_0, x_aloads_0, x_getf, x_istore_1, x_iald, x_ialds, x_call_1, x_callv_2, x_istore_2, x_iload_2, x_push_i, x_push_l, x_icmp_eq, x_icmp_ne, x_goto, x_istore_3, x_lstore_4, x_istore_6, x_iload_6, x_icmp_ge, x_lload_4, x_iload_1, x_callv_3, x_iload_3, x_call_3, x_if_eq, x_lshl, x_lor, x_iinc_6, x_ret, x_ret_i, x_ret_z, x_ret_l, x_ret_c, unl_i, unl_l, unl_q, unl_r, unl_s, unl_n, k_X8_compared_0, k_X8_compared_1, k_X8_compared_2, k_X8_compared_3, k_X8_compared_4, k_X8_compared_5, k_X8_compared_6, k_X8_compared_7, k_X8_compared_8, k_X8_compared_9, k_X8_compared_10, k_X8_compared_11, k_X8_compared_12, k_X8_compared_13, k_X8_compared_14, k_X8_compared_15, k_X8_compared_16, k_X8_compared_17, k_X8_compared_18, k_X8_compared_19, k_X8_compared_20, k_X8_compared_21, k_X8_compared_22, k_X8_compared_23, k_X8_compared_24, k_X8_compared_25, k_X8_compared_26, k_X8_compared_27, k_X8_compared_28, k_X8_compared_29, k_X8_compared_30, k_X8_compared_31, k_X8_compared_32, k_X8_compared_33, k_X8_compared_34, k_X8_compared_35, k_X8_compared_36, k_X8_compared_37, k_X8_compared_38, k_X8_compared_39, k_X8_compared_40, k_X8_compared_41, k_X8_compared_42, k_X8_compared_43, k_X8_compared_44, k_X8_compared_45, k_X8_compared_46, k_X8_compared_47, k_X8_compared_48, k_X8_compared_49, k_X8_compared_50, k_X8_compared_51, k_X8_compared_52, k_X8_compared_53, k_X8_compared_54, k_X8_compared_55, k_X8_compared_56, k_X8_compared_57, k_X8_compared_58, k_X8_compared_59, k_X8_compared_60, k_X8_compared_61, k_X8_compared_62, k_X8_compared_63, k_X8_compared_64, k_X8_compared_65, k_X8_compared_66, k_X8_compared_67, k_X8_compared_68, k_X8_compared_69, k_X8_compared_70, k_X8_compared_71, k_X8_compared_72, k_X8_compared_73, oE_some, Int.reduceToNat, Nat.reduceAdd, true_and, and_true, List.length_cons, List.length_nil, Option.toList_some, Option.toList_none, List.cons_append, List.nil_append, Nat.reduceLeDiff, Nat.le_refl, wdS_nil, wdS_i, wdS_l, wdS_r, wdS_n, wdS_s, x2.1.2.2.2.2.2.2.1, x2.1.2.2.2.1, x2.2.2.1, w201 l1 s200, gtW bs2 q.1, c8_isValue d hWb, gC_of x2.1.1, p1, z2.1.2.2.2.2.2.2.1, z2.1.2.2.2.1, z2.2.2.1, w201 l1 s1200, gtW bs1 q1.1, w32_nat bW1, gC_of z2.1.1, show w32 60 = 60 from rfl, show w32 61 = 61 from rfl, show w32 62 = 62 from rfl]
  have fin : ∀ (g : Int), (∀ R : PO, callD (d + 1) 84 [mR a, mI g] h1 R ↔ R none h2) → (callD (d + 1) 84 [mR a, mI g] h1 (fun v h => oE (gF h a 8 6) fun v_1 => AWk (d + 1) [] 88 R 33 (0, 4, 3, 0, mI 0, []) [some (mR a), some (mI (s.2 : Int)), some (mI (W s1.2 : Int)), none, none, none, none] (v_1 :: (v.toList ++ [])) h (0, 0)) ↔ R (some (mL (stB (fun x => hld (fct n W V x s.2) (W s1.2) (fct n W V x s2.2)) (NA n)))) h3) := by
    intro g hg
    rw [hg]
    simp only [AW_k, AWk_1, x_aload_0, x_aloads_0, x_getf, x_istore_1, x_iald, x_ialds, x_call_1, x_callv_2, x_istore_2, x_iload_2, x_push_i, x_push_l, x_icmp_eq, x_icmp_ne, x_goto, x_istore_3, x_lstore_4, x_istore_6, x_iload_6, x_icmp_ge, x_lload_4, x_iload_1, x_callv_3, x_iload_3, x_call_3, x_if_eq, x_lshl, x_lor, x_iinc_6, x_ret, x_ret_i, x_ret_z, x_ret_l, x_ret_c, unl_i, unl_l, unl_q, unl_r, unl_s, unl_n, k_X8_compared_0, k_X8_compared_1, k_X8_compared_2, k_X8_compared_3, k_X8_compared_4, k_X8_compared_5, k_X8_compared_6, k_X8_compared_7, k_X8_compared_8, k_X8_compared_9, k_X8_compared_10, k_X8_compared_11, k_X8_compared_12, k_X8_compared_13, k_X8_compared_14, k_X8_compared_15, k_X8_compared_16, k_X8_compared_17, k_X8_compared_18, k_X8_compared_19, k_X8_compared_20, k_X8_compared_21, k_X8_compared_22, k_X8_compared_23, k_X8_compared_24, k_X8_compared_25, k_X8_compared_26, k_X8_compared_27, k_X8_compared_28, k_X8_compared_29, k_X8_compared_30, k_X8_compared_31, k_X8_compared_32, k_X8_compared_33, k_X8_compared_34, k_X8_compared_35, k_X8_compared_36, k_X8_compared_37, k_X8_compared_38, k_X8_compared_39, k_X8_compared_40, k_X8_compared_41, k_X8_compared_42, k_X8_compared_43, k_X8_compared_44, k_X8_compared_45, k_X8_compared_46, k_X8_compared_47, k_X8_compared_48, k_X8_compared_49, k_X8_compared_50, k_X8_compared_51, k_X8_compared_52, k_X8_compared_53, k_X8_compared_54, k_X8_compared_55, k_X8_compared_56, k_X8_compared_57, k_X8_compared_58, k_X8_compared_59, k_X8_compared_60, k_X8_compared_61, k_X8_compared_62, k_X8_compared_63, k_X8_compared_64, k_X8_compared_65, k_X8_compared_66, k_X8_compared_67, k_X8_compared_68, k_X8_compared_69, k_X8_compared_70, k_X8_compared_71, k_X8_compared_72, k_X8_compared_73, oE_some, Int.reduceToNat, Nat.reduceAdd, true_and, and_true, List.length_cons, List.length_nil, Option.toList_some, Option.toList_none, List.cons_append, List.nil_append, Nat.reduceLeDiff, Nat.le_refl, wdS_nil, wdS_i, wdS_l, wdS_r, wdS_n, wdS_s, v2.1.2.2.2.2.2.2.1, v2.1.2.2.2.1, v2.2.2.1, w201 l1 s2200, gtW bs22 q2.1, c8_isValue d hWb2, gC_of v2.1.1, p3]
    exact loop
  by_cases c0 : (W s1.2 : Int) = 60
  · rw [if_pos c0]
    exact fin 1 (hT (by rw [esg, decide_eq_true c0]; rfl))
  · rw [if_neg c0]
    by_cases c1 : (W s1.2 : Int) = 61
    · rw [if_pos c1]
      exact fin 1 (hT (by rw [esg, decide_eq_true c1, Bool.or_true]; rfl))
    · rw [if_neg c1]
      by_cases c2 : (W s1.2 : Int) = 62
      · rw [if_pos c2]
        exact fin 1 (hT (by rw [esg, decide_eq_true c2, Bool.or_true]))
      · rw [if_neg c2]
        exact fin 0 (hF (by rw [esg, decide_eq_false c0, decide_eq_false c1, decide_eq_false c2]; rfl))
theorem notP_succ (W B : Nat → Nat) (f : Nat) (z : Bool) (s : PSt) : notP W B (f + 1) z s = if s.1 < 0 ∧ W s.2 = 9 then notP W B f (!z) (psP W B true s) else (z, s) := rfl
theorem lopP_succ (W B : Nat → Nat) (c : Nat) (g : BitVec 64 → BitVec 64 → BitVec 64) (sub : PSt → BitVec 64 × PSt) (f : Nat) (x : BitVec 64) (s : PSt) : lopP W B c g sub (f + 1) x s = if s.1 < 0 ∧ W s.2 = c then lopP W B c g sub f (g x (sub (psP W B true s)).1) (sub (psP W B true s)).2 else (x, s) := rfl
