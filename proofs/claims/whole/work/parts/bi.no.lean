/-! ===== the reference's sheets ===== -/
theorem m_isSheet_n (d : Nat) {hp : HP} {x : Int} (hx : w32 x = x) (e : shO x = none) (R : PO) : callD (d + 2) 261 [mI x] hp R ↔ R (some (mI 0)) hp := by
  have c1 : inI x 0 3 = false := by
    apply decide_eq_false
    intro q
    unfold shO at e
    rw [if_pos ⟨q.1, by omega⟩] at e
    cases e
  rw [callD_k]; simp only [entL_i, entL_l, entL_q, entL_s, entL_nil, n_X11_isSheet, u_X11_isSheet, m_X11_isSheet, rep_0, List.cons_append, List.nil_append, List.append_nil, List.length_cons, List.length_nil, Nat.reduceAdd, true_and]
  simp only [AW_k, AWk_1, x_iload_0, x_i2l, x_push_i, x_push_l, x_call_3, x_ret, x_ret_i, x_ret_z, x_ret_l, x_ret_c, k_X11_isSheet_0, k_X11_isSheet_1, k_X11_isSheet_2, k_X11_isSheet_3, k_X11_isSheet_4, k_X11_isSheet_5, oE_some, Int.reduceToNat, Nat.reduceAdd, true_and, and_true, List.length_cons, List.length_nil, Option.toList_some, Option.toList_none, List.cons_append, List.nil_append, Nat.reduceLeDiff, Nat.le_refl, m_in d, tI_id hx, q0_I, q3_I, c1, zI_f, true_or, true_and]
theorem m_isSheet_s (d : Nat) {hp : HP} {x : Int} {s : Nat} (hx : w32 x = x) (e : shO x = some s) (R : PO) : callD (d + 2) 261 [mI x] hp R ↔ R (some (mI 1)) hp := by
  have c1 : inI x 0 3 = true := by
    obtain ⟨a, b⟩ := shO_lt e
    exact decide_eq_true ⟨by omega, by omega⟩
  rw [callD_k]; simp only [entL_i, entL_l, entL_q, entL_s, entL_nil, n_X11_isSheet, u_X11_isSheet, m_X11_isSheet, rep_0, List.cons_append, List.nil_append, List.append_nil, List.length_cons, List.length_nil, Nat.reduceAdd, true_and]
  simp only [AW_k, AWk_1, x_iload_0, x_i2l, x_push_i, x_push_l, x_call_3, x_ret, x_ret_i, x_ret_z, x_ret_l, x_ret_c, k_X11_isSheet_0, k_X11_isSheet_1, k_X11_isSheet_2, k_X11_isSheet_3, k_X11_isSheet_4, k_X11_isSheet_5, oE_some, Int.reduceToNat, Nat.reduceAdd, true_and, and_true, List.length_cons, List.length_nil, Option.toList_some, Option.toList_none, List.cons_append, List.nil_append, Nat.reduceLeDiff, Nat.le_refl, m_in d, tI_id hx, q0_I, q3_I, c1, zI_t, or_true, true_and]
