/-! ===== the reference's own methods: rows alike, classes ===== -/
theorem num_eq {n i j : Nat} (h1 : 1 ≤ n) (h6 : n ≤ 6) (hi : i < FC n) (hj : j < FC n) : (((num n i : Nat) : Int) = ((num n j : Nat) : Int)) = (i = j) := by
  apply propext
  constructor
  · intro e; exact num_inj h1 h6 hi hj (by omega)
  · intro e; rw [e]
set_option maxHeartbeats 16000000 in
theorem m_manyAlike (d : Nat) {hp : HP} {n i : Nat} {G : BitVec 64} (h : MA hp n) (hG : gF hp 54 11 3 = some (mL G)) (hC : clo n G) (hi2 : i < FC n) (R : PO) : callD (d + 6) 232 [mR 54, mI ((num n i : Nat) : Int)] hp R ↔ R (some (mI (hma n G i))) hp := by
  have hK := h.1
  have h1 := hK.1.1
  have h6 := hK.1.2
  have g1 := hK.2.1
  have g2 := hK.2.2.2.1
  have a2 := hK.2.2.2.2.2
  have f1 := FC_le n
  have n7 : n < 7 := by omega
  have bn : n < 2147483648 := by omega
  have ib : inB (n : Int) FW.length := inB_n n7 (by decide)
  have li := lst_ok (G := G) h1 h6 hi2
  have bl := num_31 h1 h6 li
  rw [← myN_hma h1 h6 hC hi2]
  have key : ∀ (m k : Nat), k + m = FC n → (AWh (d + 5) [] 232 R 8 [some (mR 54), some (mI ((num n i : Nat) : Int)), some (mI ((num n (lst n G i) : Nat) : Int)), some (mI (cnt (fun k => decide (lst n G k = lst n G i)) k)), some (mI (k : Int))] [] hp (0, 0) ↔ R (some (mI (myN n G i))) hp) := by
    intro m
    induction m with
    | zero =>
      intro k hk
      have e : k = FC n := by omega
      subst e
      rw [AWh_k, k_X11_manyAlike_8]
      simp only [AW_k, AWk_1, x_iload_4, x_aload_0, x_aloads_0, x_getf, x_iald, x_ialds, x_icmp_ge, x_iload_3, x_callv_2, x_iload_2, x_icmp_ne, x_push_i, x_push_l, x_goto, x_iadd, x_istore_3, x_iinc_4, x_ret, x_ret_i, x_ret_z, x_ret_l, x_ret_c, unl_i, unl_l, unl_q, unl_r, unl_s, unl_n, k_X11_manyAlike_8, k_X11_manyAlike_9, k_X11_manyAlike_10, k_X11_manyAlike_11, k_X11_manyAlike_12, k_X11_manyAlike_13, k_X11_manyAlike_14, k_X11_manyAlike_15, k_X11_manyAlike_16, k_X11_manyAlike_17, k_X11_manyAlike_18, k_X11_manyAlike_19, k_X11_manyAlike_20, k_X11_manyAlike_21, k_X11_manyAlike_22, k_X11_manyAlike_23, k_X11_manyAlike_24, k_X11_manyAlike_25, k_X11_manyAlike_26, k_X11_manyAlike_27, k_X11_manyAlike_28, k_X11_manyAlike_29, k_X11_manyAlike_30, k_X11_manyAlike_31, oE_some, Int.reduceToNat, Nat.reduceAdd, true_and, and_true, List.length_cons, List.length_nil, Option.toList_some, Option.toList_none, List.cons_append, List.nil_append, Nat.reduceLeDiff, Nat.le_refl, wdS_nil, wdS_i, wdS_l, wdS_r, wdS_n, wdS_s, g1, g2, a2, ib, w32_tn bn, FW_get n7]
      rw [if_neg (Int.lt_irrefl _)]
      all_goals exact Iff.rfl
    | succ m ih =>
      intro k hk
      have hkF : k < FC n := by omega
      have bk : k < 2147483648 := by omega
      have bF := FC_31 n
      have f1 : ((k : Int) < ((FC n : Nat) : Int)) = True := eq_true (by omega)
      have e1 : (k : Int) + 1 = ((k + 1 : Nat) : Int) := by omega
      have lk := lst_ok (G := G) h1 h6 hkF
      have bk2 := num_31 h1 h6 lk
      have hnx := ih (k + 1) (by omega)
      rw [cnt_succ] at hnx
      have en := num_eq h1 h6 lk li
      rw [AWh_k, k_X11_manyAlike_8]
      by_cases c : lst n G k = lst n G i
      · rw [decide_eq_true c] at hnx
        simp only [AW_k, AWk_1, x_iload_4, x_aload_0, x_aloads_0, x_getf, x_iald, x_ialds, x_icmp_ge, x_iload_3, x_callv_2, x_iload_2, x_icmp_ne, x_push_i, x_push_l, x_goto, x_iadd, x_istore_3, x_iinc_4, unl_i, unl_l, unl_q, unl_r, unl_s, unl_n, k_X11_manyAlike_8, k_X11_manyAlike_9, k_X11_manyAlike_10, k_X11_manyAlike_11, k_X11_manyAlike_12, k_X11_manyAlike_13, k_X11_manyAlike_14, k_X11_manyAlike_15, k_X11_manyAlike_16, k_X11_manyAlike_17, k_X11_manyAlike_18, k_X11_manyAlike_19, k_X11_manyAlike_20, k_X11_manyAlike_21, k_X11_manyAlike_22, k_X11_manyAlike_23, k_X11_manyAlike_24, k_X11_manyAlike_25, k_X11_manyAlike_26, k_X11_manyAlike_27, k_X11_manyAlike_28, k_X11_manyAlike_29, oE_some, Int.reduceToNat, Nat.reduceAdd, true_and, and_true, List.length_cons, List.length_nil, Option.toList_some, Option.toList_none, List.cons_append, List.nil_append, Nat.reduceLeDiff, Nat.le_refl, wdS_nil, wdS_i, wdS_l, wdS_r, wdS_n, wdS_s, g1, g2, a2, ib, w32_tn bn, FW_get n7, w32_nat bk, w32_nat bF, f1, cM hK, m_rowBy (d + 3) hK hkF, m_leastOf d h hG hkF, w32_nat bk2, w32_nat bl, en, c, e1, ↓reduceIte]
        exact hnx
      · rw [decide_eq_false c] at hnx
        simp only [AW_k, AWk_1, x_iload_4, x_aload_0, x_aloads_0, x_getf, x_iald, x_ialds, x_icmp_ge, x_iload_3, x_callv_2, x_iload_2, x_icmp_ne, x_push_i, x_push_l, x_goto, x_iadd, x_istore_3, x_iinc_4, unl_i, unl_l, unl_q, unl_r, unl_s, unl_n, k_X11_manyAlike_8, k_X11_manyAlike_9, k_X11_manyAlike_10, k_X11_manyAlike_11, k_X11_manyAlike_12, k_X11_manyAlike_13, k_X11_manyAlike_14, k_X11_manyAlike_15, k_X11_manyAlike_16, k_X11_manyAlike_17, k_X11_manyAlike_18, k_X11_manyAlike_19, k_X11_manyAlike_20, k_X11_manyAlike_21, k_X11_manyAlike_22, k_X11_manyAlike_23, k_X11_manyAlike_24, k_X11_manyAlike_25, k_X11_manyAlike_26, k_X11_manyAlike_27, k_X11_manyAlike_28, k_X11_manyAlike_29, oE_some, Int.reduceToNat, Nat.reduceAdd, true_and, and_true, List.length_cons, List.length_nil, Option.toList_some, Option.toList_none, List.cons_append, List.nil_append, Nat.reduceLeDiff, Nat.le_refl, wdS_nil, wdS_i, wdS_l, wdS_r, wdS_n, wdS_s, g1, g2, a2, ib, w32_tn bn, FW_get n7, w32_nat bk, w32_nat bF, f1, cM hK, m_rowBy (d + 3) hK hkF, m_leastOf d h hG hkF, w32_nat bk2, w32_nat bl, en, c, e1, ↓reduceIte]
        exact hnx
  rw [callD_k]; simp only [entL_i, entL_l, entL_q, entL_s, entL_nil, n_X11_manyAlike, u_X11_manyAlike, m_X11_manyAlike, rep_3, List.cons_append, List.nil_append, List.append_nil, List.length_cons, List.length_nil, Nat.reduceAdd, true_and]
  simp only [AW_k, AWk_1, x_aload_0, x_aloads_0, x_iload_1, x_callv_2, x_istore_2, x_push_i, x_push_l, x_istore_3, x_istore_4, x_iload_4, unl_i, unl_l, unl_q, unl_r, unl_s, unl_n, k_X11_manyAlike_0, k_X11_manyAlike_1, k_X11_manyAlike_2, k_X11_manyAlike_3, k_X11_manyAlike_4, k_X11_manyAlike_5, k_X11_manyAlike_6, k_X11_manyAlike_7, k_X11_manyAlike_8, oE_some, Int.reduceToNat, Nat.reduceAdd, true_and, and_true, List.length_cons, List.length_nil, Option.toList_some, Option.toList_none, List.cons_append, List.nil_append, Nat.reduceLeDiff, Nat.le_refl, wdS_nil, wdS_i, wdS_l, wdS_r, wdS_n, wdS_s, cM hK, m_leastOf d h hG hi2]
  exact key (FC n) 0 (Nat.zero_add _)
theorem m_alike (d : Nat) {hp : HP} {n : Nat} {G : BitVec 64} {x w : Int} (h : MA hp n) (hG : gF hp 54 11 3 = some (mL G)) (hC : clo n G) (hx : w32 x = x) (hw : w32 w = w) (R : PO) : callD (d + 100) 233 [mR 54, mI x, mI w] hp R ↔ R (some (mI (an1 n x (alW n G w)))) hp := by
  have hK := h.1
  cases ex : ixo n x with
  | none =>
    rw [an1_n ex]
    rw [callD_k]; simp only [entL_i, entL_l, entL_q, entL_s, entL_nil, n_X11_alike, u_X11_alike, m_X11_alike, rep_0, List.cons_append, List.nil_append, List.append_nil, List.length_cons, List.length_nil, Nat.reduceAdd, true_and]
    simp only [AW_k, AWk_1, x_aload_0, x_aloads_0, x_iload_1, x_callv_2, x_if_eq, x_iload_2, x_i2l, x_push_i, x_push_l, x_call_3, x_if_ne, x_ret, x_ret_i, x_ret_z, x_ret_l, x_ret_c, k_X11_alike_0, k_X11_alike_1, k_X11_alike_2, k_X11_alike_3, k_X11_alike_4, k_X11_alike_5, k_X11_alike_6, k_X11_alike_7, k_X11_alike_8, k_X11_alike_9, k_X11_alike_10, k_X11_alike_11, oE_some, Int.reduceToNat, Nat.reduceAdd, true_and, and_true, List.length_cons, List.length_nil, Option.toList_some, Option.toList_none, List.cons_append, List.nil_append, Nat.reduceLeDiff, Nat.le_refl, wdS_nil, wdS_i, wdS_l, wdS_r, wdS_n, wdS_s, cM hK, m_isRow_n (d + 97) hK hx ex, w00, ↓reduceIte]
  | some i =>
    have hi := ixo_lt ex
    have exn := ixo_num ex
    rw [an1_s ex]
    unfold alW
    have ms := fun R => m_leastOf (d + 94) h hG hi R
    have mg := fun R => m_greatestOf (d + 94) h hG hi R
    have mm := fun R => m_manyAlike (d + 93) h hG hC hi R
    rw [exn] at ms mg mm
    by_cases c : 0 ≤ w ∧ w ≤ 2
    · have ci : inI w 0 2 = true := decide_eq_true c
      rw [callD_k]; simp only [entL_i, entL_l, entL_q, entL_s, entL_nil, n_X11_alike, u_X11_alike, m_X11_alike, rep_0, List.cons_append, List.nil_append, List.append_nil, List.length_cons, List.length_nil, Nat.reduceAdd, true_and]
      simp only [AW_k, AWk_1, x_aload_0, x_aloads_0, x_iload_1, x_callv_2, x_if_eq, x_iload_2, x_i2l, x_push_i, x_push_l, x_call_3, x_if_ne, x_ret, x_ret_i, x_ret_z, x_ret_l, x_ret_c, k_X11_alike_0, k_X11_alike_1, k_X11_alike_2, k_X11_alike_3, k_X11_alike_4, k_X11_alike_5, k_X11_alike_6, k_X11_alike_7, k_X11_alike_8, k_X11_alike_9, k_X11_alike_10, k_X11_alike_11, k_X11_alike_12, oE_some, Int.reduceToNat, Nat.reduceAdd, true_and, and_true, List.length_cons, List.length_nil, Option.toList_some, Option.toList_none, List.cons_append, List.nil_append, Nat.reduceLeDiff, Nat.le_refl, wdS_nil, wdS_i, wdS_l, wdS_r, wdS_n, wdS_s, cM hK, m_isRow_s (d + 97) hK hx ex, w10, m_in (d + 98), tI_id hw, q0_I, q2_I, ci, zI_t, ↓reduceIte]
      by_cases c0 : w = 0
      · rw [if_pos c0]
        simp only [AW_k, AWk_1, x_iload_2, x_if_ne, x_aload_0, x_aloads_0, x_iload_1, x_callv_2, x_goto, x_push_i, x_push_l, x_icmp_ne, x_ret, x_ret_i, x_ret_z, x_ret_l, x_ret_c, k_X11_alike_12, k_X11_alike_13, k_X11_alike_14, k_X11_alike_15, k_X11_alike_16, k_X11_alike_17, k_X11_alike_18, k_X11_alike_19, k_X11_alike_20, k_X11_alike_21, k_X11_alike_22, k_X11_alike_23, k_X11_alike_24, k_X11_alike_25, k_X11_alike_26, k_X11_alike_27, k_X11_alike_28, oE_some, Int.reduceToNat, Nat.reduceAdd, true_and, and_true, List.length_cons, List.length_nil, Option.toList_some, Option.toList_none, List.cons_append, List.nil_append, Nat.reduceLeDiff, Nat.le_refl, wdS_nil, wdS_i, wdS_l, wdS_r, wdS_n, wdS_s, cM hK, hw, c0, wz0, ms, ↓reduceIte]
      · rw [if_neg c0]
        by_cases c1 : w = 1
        · rw [if_pos c1]
          simp only [AW_k, AWk_1, x_iload_2, x_if_ne, x_aload_0, x_aloads_0, x_iload_1, x_callv_2, x_goto, x_push_i, x_push_l, x_icmp_ne, x_ret, x_ret_i, x_ret_z, x_ret_l, x_ret_c, k_X11_alike_12, k_X11_alike_13, k_X11_alike_14, k_X11_alike_15, k_X11_alike_16, k_X11_alike_17, k_X11_alike_18, k_X11_alike_19, k_X11_alike_20, k_X11_alike_21, k_X11_alike_22, k_X11_alike_23, k_X11_alike_24, k_X11_alike_25, k_X11_alike_26, k_X11_alike_27, k_X11_alike_28, oE_some, Int.reduceToNat, Nat.reduceAdd, true_and, and_true, List.length_cons, List.length_nil, Option.toList_some, Option.toList_none, List.cons_append, List.nil_append, Nat.reduceLeDiff, Nat.le_refl, wdS_nil, wdS_i, wdS_l, wdS_r, wdS_n, wdS_s, cM hK, hw, c1, wz1, Int.reduceEq, mg, ↓reduceIte]
        · have c2 : w = 2 := by omega
          rw [if_neg c1, if_pos c2]
          simp only [AW_k, AWk_1, x_iload_2, x_if_ne, x_aload_0, x_aloads_0, x_iload_1, x_callv_2, x_goto, x_push_i, x_push_l, x_icmp_ne, x_ret, x_ret_i, x_ret_z, x_ret_l, x_ret_c, k_X11_alike_12, k_X11_alike_13, k_X11_alike_14, k_X11_alike_15, k_X11_alike_16, k_X11_alike_17, k_X11_alike_18, k_X11_alike_19, k_X11_alike_20, k_X11_alike_21, k_X11_alike_22, k_X11_alike_23, k_X11_alike_24, k_X11_alike_25, k_X11_alike_26, k_X11_alike_27, k_X11_alike_28, oE_some, Int.reduceToNat, Nat.reduceAdd, true_and, and_true, List.length_cons, List.length_nil, Option.toList_some, Option.toList_none, List.cons_append, List.nil_append, Nat.reduceLeDiff, Nat.le_refl, wdS_nil, wdS_i, wdS_l, wdS_r, wdS_n, wdS_s, cM hK, hw, c2, wz1, wz2, Int.reduceEq, mm, ↓reduceIte]
    · have ci : inI w 0 2 = false := decide_eq_false c
      have w0 : ¬ w = 0 := by omega
      have w1 : ¬ w = 1 := by omega
      have w2 : ¬ w = 2 := by omega
      rw [if_neg w0, if_neg w1, if_neg w2]
      rw [callD_k]; simp only [entL_i, entL_l, entL_q, entL_s, entL_nil, n_X11_alike, u_X11_alike, m_X11_alike, rep_0, List.cons_append, List.nil_append, List.append_nil, List.length_cons, List.length_nil, Nat.reduceAdd, true_and]
      simp only [AW_k, AWk_1, x_aload_0, x_aloads_0, x_iload_1, x_callv_2, x_if_eq, x_iload_2, x_i2l, x_push_i, x_push_l, x_call_3, x_if_ne, x_ret, x_ret_i, x_ret_z, x_ret_l, x_ret_c, k_X11_alike_0, k_X11_alike_1, k_X11_alike_2, k_X11_alike_3, k_X11_alike_4, k_X11_alike_5, k_X11_alike_6, k_X11_alike_7, k_X11_alike_8, k_X11_alike_9, k_X11_alike_10, k_X11_alike_11, oE_some, Int.reduceToNat, Nat.reduceAdd, true_and, and_true, List.length_cons, List.length_nil, Option.toList_some, Option.toList_none, List.cons_append, List.nil_append, Nat.reduceLeDiff, Nat.le_refl, wdS_nil, wdS_i, wdS_l, wdS_r, wdS_n, wdS_s, cM hK, m_isRow_s (d + 97) hK hx ex, w10, m_in (d + 98), tI_id hw, q0_I, q2_I, ci, zI_f, w00, ↓reduceIte]
set_option maxHeartbeats 16000000 in
theorem m_classAt (d : Nat) {hp : HP} {n : Nat} {G : BitVec 64} {x : Int} (h : MA hp n) (hG : gF hp 54 11 3 = some (mL G)) (hx : w32 x = x) (R : PO) : callD (d + 100) 234 [mR 54, mI x] hp R ↔ R (some (mI (caA n G x))) hp := by
  have hK := h.1
  have h1 := hK.1.1
  have h6 := hK.1.2
  have g1 := hK.2.1
  have g2 := hK.2.2.2.1
  have a2 := hK.2.2.2.2.2
  have f1 := FC_le n
  have n7 : n < 7 := by omega
  have bn : n < 2147483648 := by omega
  have ib : inB (n : Int) FW.length := inB_n n7 (by decide)
  have f0 := FC_pos h1 h6
  have xr := w32_in x
  rw [hx] at xr
  unfold caA
  by_cases c0 : 0 ≤ x
  · rw [if_pos c0]
    unfold caO
    have key : ∀ (m k : Nat) (y4 : Option AV), k + m = FC n → cnt (isL n G) k ≤ x → (AWh (d + 99) [] 234 R 4 [some (mR 54), some (mI x), some (mI (x - cnt (isL n G) k)), some (mI (k : Int)), y4] [] hp (0, 0) ↔ R (some (mI (match fst (fun i => isL n G i && decide (cnt (isL n G) i = x)) m k with
      | some i => ((num n i : Nat) : Int)
      | none => -1))) hp) := by
      intro m
      induction m with
      | zero =>
        intro k y4 hk hc
        have e : k = FC n := by omega
        subst e
        rw [AWh_k, k_X11_classAt_4]
        simp only [AW_k, AWk_1, x_iload_3, x_aload_0, x_aloads_0, x_getf, x_iald, x_ialds, x_icmp_ge, x_iload_2, x_if_lt, x_callv_2, x_istore_4, x_iload_4, x_if_eq, x_if_ne, x_ret, x_ret_i, x_ret_z, x_ret_l, x_ret_c, x_iinc_2, x_iinc_3, x_goto, x_push_i, x_push_l, unl_i, unl_l, unl_q, unl_r, unl_s, unl_n, k_X11_classAt_4, k_X11_classAt_5, k_X11_classAt_6, k_X11_classAt_7, k_X11_classAt_8, k_X11_classAt_9, k_X11_classAt_10, k_X11_classAt_11, k_X11_classAt_12, k_X11_classAt_13, k_X11_classAt_14, k_X11_classAt_15, k_X11_classAt_16, k_X11_classAt_17, k_X11_classAt_18, k_X11_classAt_19, k_X11_classAt_20, k_X11_classAt_21, k_X11_classAt_22, k_X11_classAt_23, k_X11_classAt_24, k_X11_classAt_25, k_X11_classAt_26, k_X11_classAt_27, k_X11_classAt_28, k_X11_classAt_29, oE_some, Int.reduceToNat, Nat.reduceAdd, true_and, and_true, List.length_cons, List.length_nil, Option.toList_some, Option.toList_none, List.cons_append, List.nil_append, Nat.reduceLeDiff, Nat.le_refl, wdS_nil, wdS_i, wdS_l, wdS_r, wdS_n, wdS_s, g1, g2, a2, ib, w32_tn bn, FW_get n7]
        rw [if_neg (Int.lt_irrefl _)]
        all_goals exact Iff.rfl
      | succ m ih =>
        intro k y4 hk hc
        have hkF : k < FC n := by omega
        have bk : k < 2147483648 := by omega
        have bF := FC_31 n
        have f1 : ((k : Int) < ((FC n : Nat) : Int)) = True := eq_true (by omega)
        have e1 : (k : Int) + 1 = ((k + 1 : Nat) : Int) := by omega
        have cb := cnt_in (isL n G) k
        have e2 : x - cnt (isL n G) k + -1 = x - (cnt (isL n G) k + 1) := by omega
        have e3 : x - cnt (isL n G) k = x - (cnt (isL n G) k + 0) := by omega
        have z1 : ¬ cnt (isL n G) k = x → cnt (isL n G) k + 1 ≤ x := by omega
        have z2 : ¬ cnt (isL n G) k = x → ¬ (x - cnt (isL n G) k = 0) := by omega
        have z3 : cnt (isL n G) k = x → x - cnt (isL n G) k = 0 := by omega
        have n2 : (x - cnt (isL n G) k < 0) = False := eq_false (by omega)
        have wl : w32 (x - cnt (isL n G) k) = x - cnt (isL n G) k := w32_id (by omega) (by omega)
        unfold fst
        rw [AWh_k, k_X11_classAt_4]
        cases c : isL n G k with
        | false =>
          have hnx := ih (k + 1) (some (mI ((num n k : Nat) : Int))) (by omega) (by rw [cnt_succ, c]; show _ + 0 ≤ x; omega)
          rw [cnt_succ, c] at hnx
          rw [Bool.false_and, if_neg (by decide)]
          simp only [AW_k, AWk_1, x_iload_3, x_aload_0, x_aloads_0, x_getf, x_iald, x_ialds, x_icmp_ge, x_iload_2, x_if_lt, x_callv_2, x_istore_4, x_iload_4, x_if_eq, x_if_ne, x_ret, x_ret_i, x_ret_z, x_ret_l, x_ret_c, x_iinc_2, x_iinc_3, x_goto, unl_i, unl_l, unl_q, unl_r, unl_s, unl_n, k_X11_classAt_4, k_X11_classAt_5, k_X11_classAt_6, k_X11_classAt_7, k_X11_classAt_8, k_X11_classAt_9, k_X11_classAt_10, k_X11_classAt_11, k_X11_classAt_12, k_X11_classAt_13, k_X11_classAt_14, k_X11_classAt_15, k_X11_classAt_16, k_X11_classAt_17, k_X11_classAt_18, k_X11_classAt_19, k_X11_classAt_20, k_X11_classAt_21, k_X11_classAt_22, k_X11_classAt_23, k_X11_classAt_24, k_X11_classAt_25, k_X11_classAt_26, k_X11_classAt_27, oE_some, Int.reduceToNat, Nat.reduceAdd, true_and, and_true, List.length_cons, List.length_nil, Option.toList_some, Option.toList_none, List.cons_append, List.nil_append, Nat.reduceLeDiff, Nat.le_refl, wdS_nil, wdS_i, wdS_l, wdS_r, wdS_n, wdS_s, g1, g2, a2, ib, w32_tn bn, FW_get n7, w32_nat bk, w32_nat bF, f1, wl, n2, cM hK, m_rowBy (d + 97) hK hkF, m_isLeast (d + 95) h hG hkF, c, zI_f, w00, e1, ↓reduceIte]
          rw [e3]
          exact hnx
        | true =>
          by_cases c2 : cnt (isL n G) k = x
          · rw [decide_eq_true c2, Bool.and_self, if_pos rfl]
            have z0 := z3 c2
            simp only [AW_k, AWk_1, x_iload_3, x_aload_0, x_aloads_0, x_getf, x_iald, x_ialds, x_icmp_ge, x_iload_2, x_if_lt, x_callv_2, x_istore_4, x_iload_4, x_if_eq, x_if_ne, x_ret, x_ret_i, x_ret_z, x_ret_l, x_ret_c, x_iinc_2, x_iinc_3, x_goto, unl_i, unl_l, unl_q, unl_r, unl_s, unl_n, k_X11_classAt_4, k_X11_classAt_5, k_X11_classAt_6, k_X11_classAt_7, k_X11_classAt_8, k_X11_classAt_9, k_X11_classAt_10, k_X11_classAt_11, k_X11_classAt_12, k_X11_classAt_13, k_X11_classAt_14, k_X11_classAt_15, k_X11_classAt_16, k_X11_classAt_17, k_X11_classAt_18, k_X11_classAt_19, k_X11_classAt_20, k_X11_classAt_21, k_X11_classAt_22, k_X11_classAt_23, k_X11_classAt_24, k_X11_classAt_25, k_X11_classAt_26, k_X11_classAt_27, oE_some, Int.reduceToNat, Nat.reduceAdd, true_and, and_true, List.length_cons, List.length_nil, Option.toList_some, Option.toList_none, List.cons_append, List.nil_append, Nat.reduceLeDiff, Nat.le_refl, wdS_nil, wdS_i, wdS_l, wdS_r, wdS_n, wdS_s, g1, g2, a2, ib, w32_tn bn, FW_get n7, w32_nat bk, w32_nat bF, f1, wl, n2, cM hK, m_rowBy (d + 97) hK hkF, m_isLeast (d + 95) h hG hkF, c, zI_t, w10, z0, wz0, show ((0 : Int) < 0) = False from eq_false (by decide), ↓reduceIte]
          · have hnx := ih (k + 1) (some (mI ((num n k : Nat) : Int))) (by omega) (by rw [cnt_succ, c]; exact z1 c2)
            rw [cnt_succ, c] at hnx
            have z0 := z2 c2
            rw [decide_eq_false c2, Bool.and_false, if_neg (by decide)]
            simp only [AW_k, AWk_1, x_iload_3, x_aload_0, x_aloads_0, x_getf, x_iald, x_ialds, x_icmp_ge, x_iload_2, x_if_lt, x_callv_2, x_istore_4, x_iload_4, x_if_eq, x_if_ne, x_ret, x_ret_i, x_ret_z, x_ret_l, x_ret_c, x_iinc_2, x_iinc_3, x_goto, unl_i, unl_l, unl_q, unl_r, unl_s, unl_n, k_X11_classAt_4, k_X11_classAt_5, k_X11_classAt_6, k_X11_classAt_7, k_X11_classAt_8, k_X11_classAt_9, k_X11_classAt_10, k_X11_classAt_11, k_X11_classAt_12, k_X11_classAt_13, k_X11_classAt_14, k_X11_classAt_15, k_X11_classAt_16, k_X11_classAt_17, k_X11_classAt_18, k_X11_classAt_19, k_X11_classAt_20, k_X11_classAt_21, k_X11_classAt_22, k_X11_classAt_23, k_X11_classAt_24, k_X11_classAt_25, k_X11_classAt_26, k_X11_classAt_27, oE_some, Int.reduceToNat, Nat.reduceAdd, true_and, and_true, List.length_cons, List.length_nil, Option.toList_some, Option.toList_none, List.cons_append, List.nil_append, Nat.reduceLeDiff, Nat.le_refl, wdS_nil, wdS_i, wdS_l, wdS_r, wdS_n, wdS_s, g1, g2, a2, ib, w32_tn bn, FW_get n7, w32_nat bk, w32_nat bF, f1, wl, n2, cM hK, m_rowBy (d + 97) hK hkF, m_isLeast (d + 95) h hG hkF, c, zI_t, w10, z0, e1, e2, ↓reduceIte]
            exact hnx
    have k0 := key (FC n) 0 none (Nat.zero_add _) c0
    rw [show x - cnt (isL n G) 0 = x from Int.sub_zero x] at k0
    rw [callD_k]; simp only [entL_i, entL_l, entL_q, entL_s, entL_nil, n_X11_classAt, u_X11_classAt, m_X11_classAt, rep_3, List.cons_append, List.nil_append, List.append_nil, List.length_cons, List.length_nil, Nat.reduceAdd, true_and]
    simp only [AW_k, AWk_1, x_iload_1, x_istore_2, x_push_i, x_push_l, x_istore_3, x_iload_3, unl_i, unl_l, unl_q, unl_r, unl_s, unl_n, k_X11_classAt_0, k_X11_classAt_1, k_X11_classAt_2, k_X11_classAt_3, k_X11_classAt_4, oE_some, Int.reduceToNat, Nat.reduceAdd, true_and, and_true, List.length_cons, List.length_nil, Option.toList_some, Option.toList_none, List.cons_append, List.nil_append, Nat.reduceLeDiff, Nat.le_refl, wdS_nil, wdS_i, wdS_l, wdS_r, wdS_n, wdS_s]
    exact k0
  · rw [if_neg c0]
    have n2 : (x < 0) = True := eq_true (by omega)
    have f2 : ((0 : Int) < ((FC n : Nat) : Int)) = True := eq_true (by omega)
    have bF := FC_31 n
    have p1 : callD (d + 100) 234 [mR 54, mI x] hp R ↔ AWh (d + 99) [] 234 R 4 [some (mR 54), some (mI x), some (mI x), some (mI 0), none] [] hp (0, 0) := by
      rw [callD_k]; simp only [entL_i, entL_l, entL_q, entL_s, entL_nil, n_X11_classAt, u_X11_classAt, m_X11_classAt, rep_3, List.cons_append, List.nil_append, List.append_nil, List.length_cons, List.length_nil, Nat.reduceAdd, true_and]
      simp only [AW_k, AWk_1, x_iload_1, x_istore_2, x_push_i, x_push_l, x_istore_3, x_iload_3, unl_i, unl_l, unl_q, unl_r, unl_s, unl_n, k_X11_classAt_0, k_X11_classAt_1, k_X11_classAt_2, k_X11_classAt_3, k_X11_classAt_4, oE_some, Int.reduceToNat, Nat.reduceAdd, true_and, and_true, List.length_cons, List.length_nil, Option.toList_some, Option.toList_none, List.cons_append, List.nil_append, Nat.reduceLeDiff, Nat.le_refl, wdS_nil, wdS_i, wdS_l, wdS_r, wdS_n, wdS_s]
    rw [p1]
    rw [AWh_k, k_X11_classAt_4]
    simp only [AW_k, AWk_1, x_iload_3, x_aload_0, x_aloads_0, x_getf, x_iald, x_ialds, x_icmp_ge, x_iload_2, x_if_lt, x_callv_2, x_istore_4, x_iload_4, x_if_eq, x_if_ne, x_ret, x_ret_i, x_ret_z, x_ret_l, x_ret_c, x_iinc_2, x_iinc_3, x_goto, x_push_i, x_push_l, unl_i, unl_l, unl_q, unl_r, unl_s, unl_n, k_X11_classAt_4, k_X11_classAt_5, k_X11_classAt_6, k_X11_classAt_7, k_X11_classAt_8, k_X11_classAt_9, k_X11_classAt_10, k_X11_classAt_11, k_X11_classAt_12, k_X11_classAt_13, k_X11_classAt_14, k_X11_classAt_15, k_X11_classAt_16, k_X11_classAt_17, k_X11_classAt_18, k_X11_classAt_19, k_X11_classAt_20, k_X11_classAt_21, k_X11_classAt_22, k_X11_classAt_23, k_X11_classAt_24, k_X11_classAt_25, k_X11_classAt_26, k_X11_classAt_27, k_X11_classAt_28, k_X11_classAt_29, oE_some, Int.reduceToNat, Nat.reduceAdd, true_and, and_true, List.length_cons, List.length_nil, Option.toList_some, Option.toList_none, List.cons_append, List.nil_append, Nat.reduceLeDiff, Nat.le_refl, wdS_nil, wdS_i, wdS_l, wdS_r, wdS_n, wdS_s, g1, g2, a2, ib, w32_tn bn, FW_get n7, wz0, w32_nat bF, f2, hx, n2, ↓reduceIte]
theorem m_classes (d : Nat) {hp : HP} {n : Nat} {G : BitVec 64} {x y w : Int} (h : MA hp n) (hG : gF hp 54 11 3 = some (mL G)) (hC : clo n G) (hx : w32 x = x) (hy : w32 y = y) (hw : w32 w = w) (R : PO) : callD (d + 100) 235 [mR 54, mI x, mI y, mI w] hp R ↔ R (some (mI (an2 n x y (clW n G w)))) hp := by
  have hK := h.1
  have h1 := hK.1.1
  have h6 := hK.1.2
  cases ex : ixo n x with
  | none =>
    rw [an2_n ex]
    rw [callD_k]; simp only [entL_i, entL_l, entL_q, entL_s, entL_nil, n_X11_classes, u_X11_classes, m_X11_classes, rep_2, List.cons_append, List.nil_append, List.append_nil, List.length_cons, List.length_nil, Nat.reduceAdd, true_and]
    simp only [AW_k, AWk_1, x_aload_0, x_aloads_0, x_iload_1, x_iload_2, x_callv_3, x_if_eq, x_iload_3, x_i2l, x_push_i, x_push_l, x_call_3, x_if_ne, x_ret, x_ret_i, x_ret_z, x_ret_l, x_ret_c, k_X11_classes_0, k_X11_classes_1, k_X11_classes_2, k_X11_classes_3, k_X11_classes_4, k_X11_classes_5, k_X11_classes_6, k_X11_classes_7, k_X11_classes_8, k_X11_classes_9, k_X11_classes_10, k_X11_classes_11, k_X11_classes_12, oE_some, Int.reduceToNat, Nat.reduceAdd, true_and, and_true, List.length_cons, List.length_nil, Option.toList_some, Option.toList_none, List.cons_append, List.nil_append, Nat.reduceLeDiff, Nat.le_refl, wdS_nil, wdS_i, wdS_l, wdS_r, wdS_n, wdS_s, cM hK, m_areRows (d + 96) hK hx hy, areN ex, zI_f, w00, ↓reduceIte]
  | some i =>
    have hi := ixo_lt ex
    have exn := ixo_num ex
    cases ey : ixo n y with
    | none =>
      rw [an2_m ex ey]
      rw [callD_k]; simp only [entL_i, entL_l, entL_q, entL_s, entL_nil, n_X11_classes, u_X11_classes, m_X11_classes, rep_2, List.cons_append, List.nil_append, List.append_nil, List.length_cons, List.length_nil, Nat.reduceAdd, true_and]
      simp only [AW_k, AWk_1, x_aload_0, x_aloads_0, x_iload_1, x_iload_2, x_callv_3, x_if_eq, x_iload_3, x_i2l, x_push_i, x_push_l, x_call_3, x_if_ne, x_ret, x_ret_i, x_ret_z, x_ret_l, x_ret_c, k_X11_classes_0, k_X11_classes_1, k_X11_classes_2, k_X11_classes_3, k_X11_classes_4, k_X11_classes_5, k_X11_classes_6, k_X11_classes_7, k_X11_classes_8, k_X11_classes_9, k_X11_classes_10, k_X11_classes_11, k_X11_classes_12, oE_some, Int.reduceToNat, Nat.reduceAdd, true_and, and_true, List.length_cons, List.length_nil, Option.toList_some, Option.toList_none, List.cons_append, List.nil_append, Nat.reduceLeDiff, Nat.le_refl, wdS_nil, wdS_i, wdS_l, wdS_r, wdS_n, wdS_s, cM hK, m_areRows (d + 96) hK hx hy, areM ex ey, zI_f, w00, ↓reduceIte]
    | some j =>
      have hj := ixo_lt ey
      have eyn := ixo_num ey
      have li := lst_ok (G := G) h1 h6 hi
      have lj := lst_ok (G := G) h1 h6 hj
      have hm : mt n (lst n G i) (lst n G j) < FC n := mt_ok li
      have hn : jn n (lst n G i) (lst n G j) < FC n := jn_ok li
      rw [an2_s ex ey]
      unfold clW
      rw [← lst_mt h1 h6 hC hi hj, ← lst_jn h1 h6 hC hi hj]
      have m1 := fun R => m_leastOf (d + 94) h hG hi R
      have m2 := fun R => m_leastOf (d + 94) h hG hj R
      rw [exn] at m1
      rw [eyn] at m2
      by_cases c : 0 ≤ w ∧ w ≤ 2
      · have ci : inI w 0 2 = true := decide_eq_true c
        rw [callD_k]; simp only [entL_i, entL_l, entL_q, entL_s, entL_nil, n_X11_classes, u_X11_classes, m_X11_classes, rep_2, List.cons_append, List.nil_append, List.append_nil, List.length_cons, List.length_nil, Nat.reduceAdd, true_and]
        simp only [AW_k, AWk_1, x_aload_0, x_aloads_0, x_iload_1, x_iload_2, x_callv_3, x_if_eq, x_iload_3, x_i2l, x_push_i, x_push_l, x_call_3, x_if_ne, x_ret, x_ret_i, x_ret_z, x_ret_l, x_ret_c, x_callv_2, x_istore_4, x_istore_5, unl_i, unl_l, unl_q, unl_r, unl_s, unl_n, k_X11_classes_0, k_X11_classes_1, k_X11_classes_2, k_X11_classes_3, k_X11_classes_4, k_X11_classes_5, k_X11_classes_6, k_X11_classes_7, k_X11_classes_8, k_X11_classes_9, k_X11_classes_10, k_X11_classes_11, k_X11_classes_12, k_X11_classes_13, k_X11_classes_14, k_X11_classes_15, k_X11_classes_16, k_X11_classes_17, k_X11_classes_18, k_X11_classes_19, k_X11_classes_20, oE_some, Int.reduceToNat, Nat.reduceAdd, true_and, and_true, List.length_cons, List.length_nil, Option.toList_some, Option.toList_none, List.cons_append, List.nil_append, Nat.reduceLeDiff, Nat.le_refl, wdS_nil, wdS_i, wdS_l, wdS_r, wdS_n, wdS_s, cM hK, m_areRows (d + 96) hK hx hy, areT ex ey, w10, m_in (d + 98), tI_id hw, q0_I, q2_I, ci, zI_t, m1, m2, ↓reduceIte]
        by_cases c0 : w = 0
        · rw [if_pos c0]
          simp only [AW_k, AWk_1, x_iload_3, x_if_ne, x_aload_0, x_aloads_0, x_iload_4, x_iload_5, x_callv_3, x_if_eq, x_push_i, x_push_l, x_goto, x_icmp_ne, x_callv_2, x_ret, x_ret_i, x_ret_z, x_ret_l, x_ret_c, k_X11_classes_21, k_X11_classes_22, k_X11_classes_23, k_X11_classes_24, k_X11_classes_25, k_X11_classes_26, k_X11_classes_27, k_X11_classes_28, k_X11_classes_29, k_X11_classes_30, k_X11_classes_31, k_X11_classes_32, k_X11_classes_33, k_X11_classes_34, k_X11_classes_35, k_X11_classes_36, k_X11_classes_37, k_X11_classes_38, k_X11_classes_39, k_X11_classes_40, k_X11_classes_41, k_X11_classes_42, k_X11_classes_43, k_X11_classes_44, k_X11_classes_45, k_X11_classes_46, oE_some, Int.reduceToNat, Nat.reduceAdd, true_and, and_true, List.length_cons, List.length_nil, Option.toList_some, Option.toList_none, List.cons_append, List.nil_append, Nat.reduceLeDiff, Nat.le_refl, wdS_nil, wdS_i, wdS_l, wdS_r, wdS_n, wdS_s, cM hK, hw, c0, wz0, m_isBelow (d + 96) hK li lj, wB, ↓reduceIte]
          cases blw n (lst n G i) (lst n G j) <;> exact Iff.rfl
        · rw [if_neg c0]
          by_cases c1 : w = 1
          · rw [if_pos c1]
            simp only [AW_k, AWk_1, x_iload_3, x_if_ne, x_aload_0, x_aloads_0, x_iload_4, x_iload_5, x_callv_3, x_if_eq, x_push_i, x_push_l, x_goto, x_icmp_ne, x_callv_2, x_ret, x_ret_i, x_ret_z, x_ret_l, x_ret_c, k_X11_classes_21, k_X11_classes_22, k_X11_classes_23, k_X11_classes_24, k_X11_classes_25, k_X11_classes_26, k_X11_classes_27, k_X11_classes_28, k_X11_classes_29, k_X11_classes_30, k_X11_classes_31, k_X11_classes_32, k_X11_classes_33, k_X11_classes_34, k_X11_classes_35, k_X11_classes_36, k_X11_classes_37, k_X11_classes_38, k_X11_classes_39, k_X11_classes_40, k_X11_classes_41, k_X11_classes_42, k_X11_classes_43, k_X11_classes_44, k_X11_classes_45, k_X11_classes_46, oE_some, Int.reduceToNat, Nat.reduceAdd, true_and, and_true, List.length_cons, List.length_nil, Option.toList_some, Option.toList_none, List.cons_append, List.nil_append, Nat.reduceLeDiff, Nat.le_refl, wdS_nil, wdS_i, wdS_l, wdS_r, wdS_n, wdS_s, cM hK, hw, c1, wz1, Int.reduceEq, m_meetOf (d + 96) hK li lj, m_leastOf (d + 94) h hG hm, ↓reduceIte]
          · have c2 : w = 2 := by omega
            rw [if_neg c1, if_pos c2]
            simp only [AW_k, AWk_1, x_iload_3, x_if_ne, x_aload_0, x_aloads_0, x_iload_4, x_iload_5, x_callv_3, x_if_eq, x_push_i, x_push_l, x_goto, x_icmp_ne, x_callv_2, x_ret, x_ret_i, x_ret_z, x_ret_l, x_ret_c, k_X11_classes_21, k_X11_classes_22, k_X11_classes_23, k_X11_classes_24, k_X11_classes_25, k_X11_classes_26, k_X11_classes_27, k_X11_classes_28, k_X11_classes_29, k_X11_classes_30, k_X11_classes_31, k_X11_classes_32, k_X11_classes_33, k_X11_classes_34, k_X11_classes_35, k_X11_classes_36, k_X11_classes_37, k_X11_classes_38, k_X11_classes_39, k_X11_classes_40, k_X11_classes_41, k_X11_classes_42, k_X11_classes_43, k_X11_classes_44, k_X11_classes_45, k_X11_classes_46, oE_some, Int.reduceToNat, Nat.reduceAdd, true_and, and_true, List.length_cons, List.length_nil, Option.toList_some, Option.toList_none, List.cons_append, List.nil_append, Nat.reduceLeDiff, Nat.le_refl, wdS_nil, wdS_i, wdS_l, wdS_r, wdS_n, wdS_s, cM hK, hw, c2, wz1, wz2, Int.reduceEq, m_joinOf (d + 96) hK li lj, m_leastOf (d + 94) h hG hn, ↓reduceIte]
      · have ci : inI w 0 2 = false := decide_eq_false c
        have w0 : ¬ w = 0 := by omega
        have w1 : ¬ w = 1 := by omega
        have w2 : ¬ w = 2 := by omega
        rw [if_neg w0, if_neg w1, if_neg w2]
        rw [callD_k]; simp only [entL_i, entL_l, entL_q, entL_s, entL_nil, n_X11_classes, u_X11_classes, m_X11_classes, rep_2, List.cons_append, List.nil_append, List.append_nil, List.length_cons, List.length_nil, Nat.reduceAdd, true_and]
        simp only [AW_k, AWk_1, x_aload_0, x_aloads_0, x_iload_1, x_iload_2, x_callv_3, x_if_eq, x_iload_3, x_i2l, x_push_i, x_push_l, x_call_3, x_if_ne, x_ret, x_ret_i, x_ret_z, x_ret_l, x_ret_c, k_X11_classes_0, k_X11_classes_1, k_X11_classes_2, k_X11_classes_3, k_X11_classes_4, k_X11_classes_5, k_X11_classes_6, k_X11_classes_7, k_X11_classes_8, k_X11_classes_9, k_X11_classes_10, k_X11_classes_11, k_X11_classes_12, oE_some, Int.reduceToNat, Nat.reduceAdd, true_and, and_true, List.length_cons, List.length_nil, Option.toList_some, Option.toList_none, List.cons_append, List.nil_append, Nat.reduceLeDiff, Nat.le_refl, wdS_nil, wdS_i, wdS_l, wdS_r, wdS_n, wdS_s, cM hK, m_areRows (d + 96) hK hx hy, areT ex ey, w10, m_in (d + 98), tI_id hw, q0_I, q2_I, ci, zI_t, zI_f, w00, ↓reduceIte]
