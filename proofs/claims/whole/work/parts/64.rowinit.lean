/-! ===== the class's rows are made ===== -/
theorem arC_len (n a : Nat) : (arC n a).length = 9 := rfl
/-- new arcs behind one more cell -/
theorem c1_init_n (d : Nat) {h0 : HP} {n : Nat} {o : AC} (h1 : 1 ≤ n) (h6 : n ≤ 6) (R : PO) : callD (d + 4) 8 [mR (h0.length + 1), mI (n : Int)] (h0 ++ [o, .inl (1, (fKs.getD 1 []).map born1)]) R ↔ R none (h0 ++ o :: arC n (h0.length + 1)) := by
  obtain ⟨h', k1, k2, k3, k4⟩ := c1_init d (h0 := h0 ++ [o]) h1 h6
  have e0 : (h0 ++ [o]).length = h0.length + 1 := List.length_append
  rw [e0] at k2 k3 k4
  have ef : h' = h0 ++ o :: arC n (h0.length + 1) := by
    apply List.ext_getElem?
    intro k
    by_cases c1 : k < h0.length + 1
    · rw [k1 k (by rw [e0]; exact c1)]
      by_cases c2 : k < h0.length
      · rw [List.getElem?_append_left c2, List.getElem?_append_left c2]
      · have e : k = h0.length := by omega
        subst e
        rw [get_pre0, get_pre0]; rfl
    · by_cases c3 : k < h0.length + 10
      · obtain ⟨j, hj⟩ : ∃ j, k = h0.length + 1 + j := ⟨k - (h0.length + 1), by omega⟩
        subst hj
        rw [k3 j (by omega), show h0.length + 1 + j = h0.length + (1 + j) by omega, get_pre, Nat.add_comm 1 j, List.getElem?_cons_succ]
      · rw [List.getElem?_eq_none (by omega), List.getElem?_eq_none (by rw [List.length_append, List.length_cons, arC_len]; omega)]
  rw [ef, List.append_assoc] at k4
  exact k4 R
/-- the rows' cells before they are filled -/
def rwT (n a : Nat) : HP := .inl (4, [mI (n : Int), mI ((FC n : Nat) : Int), mI ((n - 1 : Nat) : Int), mR (a + 1), mR (a + 10), mR (a + 11), mR (a + 12), mR (a + 13), mR (a + 14), mR (a + 15)]) :: (arC n (a + 1) ++ [.inr (.inl (0, List.replicate (FC n) 0)), .inr (.inl (0, List.replicate (FC n) 0)), .inr (.inl (0, List.replicate (FC n) 0)), .inr (.inr (.inl (List.replicate (FC n) 0#64))), .inr (.inl (0, List.replicate (FC n * (n - 1)) 0)), .inr (.inl (0, List.replicate (FC n * (n - 1)) 0))])
set_option maxHeartbeats 32000000 in
theorem c4_init_a (d : Nat) {h0 : HP} {n : Nat} (h1 : 1 ≤ n) (h6 : n ≤ 6) : ∃ B : BU, (1 ≤ B.1 ∧ n ≤ B.2) ∧ ∀ R : PO, callD (d + 5) 29 [mR h0.length, mI (n : Int)] (h0 ++ [.inl (4, (fKs.getD 4 []).map born1)]) R ↔ AW (d + 4) [] 29 R 59 [some (mR h0.length), some (mI (n : Int)), some (mI 0), none, none] [] (h0 ++ rwT n h0.length) B := by
  have fN := FC_le n
  have fg := FCg_le h1 h6
  have f7 : n < 7 := by omega
  have e1 : (n : Int) - 1 = ((n - 1 : Nat) : Int) := by omega
  have i0 : (0 : Int) ≤ ((FC n : Nat) : Int) := by omega
  have i5 : ((FC n : Nat) : Int) ≤ 5000 := by omega
  have j0 : (0 : Int) ≤ ((FC n * (n - 1) : Nat) : Int) := by omega
  have j5 : ((FC n * (n - 1) : Nat) : Int) ≤ 5000 := by omega
  have b31 : FC n < 2147483648 := by omega
  have g31 : FC n * (n - 1) < 2147483648 := by omega
  have c0 : FC n ≤ 10086 := by omega
  have c1 : FC n ≤ 10086 - FC n := by omega
  have c2 : FC n ≤ 10086 - FC n - FC n := by omega
  have c3 : FC n ≤ 10086 - FC n - FC n - FC n := by omega
  have c4 : FC n * (n - 1) ≤ 10086 - FC n - FC n - FC n - FC n := by omega
  have c5 : FC n * (n - 1) ≤ 10086 - FC n - FC n - FC n - FC n - FC n * (n - 1) := by omega
  have c6 : n ≤ 10086 - FC n - FC n - FC n - FC n - FC n * (n - 1) - FC n * (n - 1) := by omega
  have em : ((FC n : Nat) : Int) * ((n - 1 : Nat) : Int) = ((FC n * (n - 1) : Nat) : Int) := (Int.natCast_mul _ _).symm
  have eb : (fKs.getD 4 []).map born1 = [mI 0, mI 0, mI 0, mN, mN, mN, mN, mN, mN, mN] := rfl
  have gi := F_in (x := (n : Int)) rfl f7
  have gf := F_get (x := (n : Int)) rfl f7
  have p1 := fun o R => c1_init_n d (h0 := h0) (o := o) h1 h6 R
  rw [eb]
  refine ⟨(1, 10086 - FC n - FC n - FC n - FC n - FC n * (n - 1) - FC n * (n - 1)), ⟨Nat.le_refl _, c6⟩, fun R => ?_⟩
  rw [callD_k]; simp only [entL_i, entL_l, entL_q, entL_s, entL_nil, n_X4_init, u_X4_init, m_X4_init, rep_3, List.cons_append, List.nil_append, List.append_nil, List.length_cons, List.length_nil, Nat.reduceAdd, true_and]
  simp only [AW_k, AWk_1, x_aload_0, x_aloads_0, x_oinit, x_iload_1, x_putf_i, x_gets, x_iald, x_ialds, x_push_i, x_push_l, x_isub, x_new, x_dup_i, x_dup_r, x_dup_q, x_calliB_2, x_putf_r, x_getf, x_newa_i, x_newa_z, x_newa_l, x_imul, x_istore_2, unl_i, unl_l, unl_q, unl_r, unl_s, unl_n, k_X4_init_0, k_X4_init_1, k_X4_init_2, k_X4_init_3, k_X4_init_4, k_X4_init_5, k_X4_init_6, k_X4_init_7, k_X4_init_8, k_X4_init_9, k_X4_init_10, k_X4_init_11, k_X4_init_12, k_X4_init_13, k_X4_init_14, k_X4_init_15, k_X4_init_16, k_X4_init_17, k_X4_init_18, k_X4_init_19, k_X4_init_20, k_X4_init_21, k_X4_init_22, k_X4_init_23, k_X4_init_24, k_X4_init_25, k_X4_init_26, k_X4_init_27, k_X4_init_28, k_X4_init_29, k_X4_init_30, k_X4_init_31, k_X4_init_32, k_X4_init_33, k_X4_init_34, k_X4_init_35, k_X4_init_36, k_X4_init_37, k_X4_init_38, k_X4_init_39, k_X4_init_40, k_X4_init_41, k_X4_init_42, k_X4_init_43, k_X4_init_44, k_X4_init_45, k_X4_init_46, k_X4_init_47, k_X4_init_48, k_X4_init_49, k_X4_init_50, k_X4_init_51, k_X4_init_52, k_X4_init_53, k_X4_init_54, k_X4_init_55, k_X4_init_56, k_X4_init_57, k_X4_init_58, oE_some, Int.reduceToNat, Nat.reduceAdd, true_and, and_true, List.length_cons, List.length_nil, Option.toList_some, Option.toList_none, List.cons_append, List.nil_append, Nat.reduceLeDiff, Nat.le_refl, wdS_nil, wdS_i, wdS_l, wdS_r, wdS_n, wdS_s, gi, gf, p1, e1, em, i0, i5, j0, j5, c0, c1, c2, c3, c4, c5, w32_nat b31, w32_nat g31, Int.toNat_natCast, Nat.reduceSub, Nat.reduceLT, show (fKs.getD 1 []).length = 12 from rfl, List.append_assoc, len_pre, arC_len, gF_pre, gF_pre0, gF_0, pF_pre, pF_pre0, pF_0, List.set_cons_zero, List.set_cons_succ, List.getElem?_cons_zero, List.getElem?_cons_succ, Nat.zero_add, and_self]
  exact Iff.rfl
