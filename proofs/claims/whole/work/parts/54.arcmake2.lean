/-! ===== the class's arcs are made: the numbering's loops ===== -/
def NAk (h : HP) (a n j k : Nat) : Prop := NAP h a n (tP (fi n) j 49) (tP (lo n) k (NA n)) (tP (hi n) k (NA n)) (tP (lf n) k (NA n)) (tP (lc n) k (NA n)) (tP (rc n) k (NA n))
set_option maxHeartbeats 32000000 in
theorem na_l (d : Nat) {a n av bv j : Nat} (h1 : 1 ≤ n) (h6 : n ≤ 6) (ha : 1 ≤ av) (hab : av < bv) (hb : bv ≤ n) : ∀ (m l : Nat) (h : HP), l + m = 2 ^ (bv - av - 1) → NAk h a n j (oF n av bv + l) → ∃ h' l', NAk h' a n j (oF n av bv + 2 ^ (bv - av - 1)) ∧ Fr (a + 1) (a + 7) h h' ∧ ∀ R : PO, (AWh (d + 1) [] 9 R 27 [some (mR a), some (mI ((oF n av bv + l : Nat) : Int)), some (mI (av : Int)), some (mI (bv : Int)), some (mI (l : Int))] [] h (0, 0) ↔ AWk (d + 1) [] 9 R 74 (cd 9 74) [some (mR a), some (mI ((oF n av bv + 2 ^ (bv - av - 1) : Nat) : Int)), some (mI (av : Int)), some (mI (bv : Int)), some (mI l')] [] h' (0, 0)) := by
  have esh : iShl 1 ((bv : Int) - (av : Int) - 1) = ((2 ^ (bv - av - 1) : Nat) : Int) := iShl_1I (by omega) (by omega)
  have hP : 2 ^ (bv - av - 1) ≤ 16 := by
    have : bv - av - 1 ≤ 4 := by omega
    exact Nat.le_trans (Nat.pow_le_pow_right (by decide) this) (by decide)
  obtain ⟨-, -, q⟩ := om h1 h6 ha hab hb
  generalize 2 ^ (bv - av - 1) = P at esh hP q ⊢
  have fN := NA_le n
  intro m
  induction m with
  | zero =>
    intro l h hl hN
    have e : l = P := by omega
    subst e
    refine ⟨h, (l : Int), hN, Fr_refl h, fun R => ?_⟩
    rw [AWh_k, k_X1_numberArcs_27]
    simp only [AW_k, AWk_1, x_iload_4, x_push_i, x_push_l, x_iload_3, x_iload_2, x_isub, x_ishl, x_icmp_ge, x_aload_0, x_aloads_0, x_getf, x_iload_1, x_iast, x_call_1, x_iald, x_ialds, x_iinc_1, x_iinc_4, x_goto, unl_i, unl_l, unl_q, unl_r, unl_s, unl_n, k_X1_numberArcs_27, k_X1_numberArcs_28, k_X1_numberArcs_29, k_X1_numberArcs_30, k_X1_numberArcs_31, k_X1_numberArcs_32, k_X1_numberArcs_33, k_X1_numberArcs_34, k_X1_numberArcs_35, k_X1_numberArcs_36, k_X1_numberArcs_37, k_X1_numberArcs_38, k_X1_numberArcs_39, k_X1_numberArcs_40, k_X1_numberArcs_41, k_X1_numberArcs_42, k_X1_numberArcs_43, k_X1_numberArcs_44, k_X1_numberArcs_45, k_X1_numberArcs_46, k_X1_numberArcs_47, k_X1_numberArcs_48, k_X1_numberArcs_49, k_X1_numberArcs_50, k_X1_numberArcs_51, k_X1_numberArcs_52, k_X1_numberArcs_53, k_X1_numberArcs_54, k_X1_numberArcs_55, k_X1_numberArcs_56, k_X1_numberArcs_57, k_X1_numberArcs_58, k_X1_numberArcs_59, k_X1_numberArcs_60, k_X1_numberArcs_61, k_X1_numberArcs_62, k_X1_numberArcs_63, k_X1_numberArcs_64, k_X1_numberArcs_65, k_X1_numberArcs_66, k_X1_numberArcs_67, k_X1_numberArcs_68, k_X1_numberArcs_69, k_X1_numberArcs_70, k_X1_numberArcs_71, k_X1_numberArcs_72, k_X1_numberArcs_73, oE_some, Int.reduceToNat, Nat.reduceAdd, true_and, and_true, List.length_cons, List.length_nil, Option.toList_some, Option.toList_none, List.cons_append, List.nil_append, Nat.reduceLeDiff, Nat.le_refl, wdS_nil, wdS_i, wdS_l, wdS_r, wdS_n, wdS_s, esh]
    rw [if_neg (Int.lt_irrefl _)]
  | succ m ih =>
    intro l h hl hN
    have hlP : l < P := by omega
    obtain ⟨k0, k1, k2, k3, k4, k5⟩ := q l hlP
    have bl : l < 2147483648 := by omega
    have bP : P < 2147483648 := by omega
    have cl : (l : Int) < (P : Int) := by omega
    have ek : ((oF n av bv + l : Nat) : Int) + 1 = ((oF n av bv + (l + 1) : Nat) : Int) := by omega
    have ecv : (bv : Int) - (av : Int) - 1 - ((lc n (oF n av bv + l) : Nat) : Int) = ((rc n (oF n av bv + l) : Nat) : Int) := by omega
    generalize hk : oF n av bv + l = k at k0 k1 k2 k3 k4 k5 hN ek ecv ⊢
    have bk : k < 2147483648 := by omega
    have jk : ∀ f : Nat → Nat, k < (tP f k (NA n)).length := fun f => by rw [tP_len]; exact k0
    have Lk : ∀ f : Nat → Nat, (tP f k (NA n)).length < 2147483648 := fun f => by rw [tP_len]; exact NA_31 n
    have s1 := NAP_2 (l := tP (lo n) (k + 1) (NA n)) hN
    have s2 := NAP_3 (l := tP (hi n) (k + 1) (NA n)) s1
    have s3 := NAP_4 (l := tP (lf n) (k + 1) (NA n)) s2
    have s4 := NAP_5 (l := tP (lc n) (k + 1) (NA n)) s3
    have s5 := NAP_6 (l := tP (rc n) (k + 1) (NA n)) s4
    have fr : Fr (a + 1) (a + 7) h (pA (pA (pA (pA (pA h (a + 2) (tP (lo n) (k + 1) (NA n))) (a + 3) (tP (hi n) (k + 1) (NA n))) (a + 4) (tP (lf n) (k + 1) (NA n))) (a + 5) (tP (lc n) (k + 1) (NA n))) (a + 6) (tP (rc n) (k + 1) (NA n))) := Fr_trans (Fr_trans (Fr_trans (Fr_trans (Fr_pA (by omega) (by omega)) (Fr_pA (by omega) (by omega))) (Fr_pA (by omega) (by omega))) (Fr_pA (by omega) (by omega))) (Fr_pA (by omega) (by omega))
    have s5' : NAk (pA (pA (pA (pA (pA h (a + 2) (tP (lo n) (k + 1) (NA n))) (a + 3) (tP (hi n) (k + 1) (NA n))) (a + 4) (tP (lf n) (k + 1) (NA n))) (a + 5) (tP (lc n) (k + 1) (NA n))) (a + 6) (tP (rc n) (k + 1) (NA n))) a n j (oF n av bv + (l + 1)) := by
      rw [show oF n av bv + (l + 1) = k + 1 by omega]; exact s5
    obtain ⟨h', l', u1, u2, u3⟩ := ih (l + 1) _ (by omega) s5'
    refine ⟨h', l', u1, Fr_trans fr u2, fun R => ?_⟩
    have t1 : (tP (lo n) k (NA n)).set k (av : Int) = tP (lo n) (k + 1) (NA n) := tP_set k0 (by rw [k1])
    have t2 : (tP (hi n) k (NA n)).set k (bv : Int) = tP (hi n) (k + 1) (NA n) := tP_set k0 (by rw [k2])
    have t3 : (tP (lf n) k (NA n)).set k (l : Int) = tP (lf n) (k + 1) (NA n) := tP_set k0 (by rw [k3])
    have t4 : (tP (lc n) k (NA n)).set k (popN l) = tP (lc n) (k + 1) (NA n) := tP_set k0 (by rw [k4])
    have t5 : (tP (rc n) k (NA n)).set k ((rc n k : Nat) : Int) = tP (rc n) (k + 1) (NA n) := tP_set k0 rfl
    have g4 : (tP (lc n) (k + 1) (NA n)).getD k 0 = ((lc n k : Nat) : Int) := by rw [tP_get k0, if_pos (Nat.lt_succ_self k)]
    have j4 : k < (tP (lc n) (k + 1) (NA n)).length := by rw [tP_len]; exact k0
    have L4 : (tP (lc n) (k + 1) (NA n)).length < 2147483648 := by rw [tP_len]; exact NA_31 n
    have u3 := u3 R
    rw [← ek] at u3
    obtain ⟨⟨a1, a2, a3, a4, a5, a6, a7⟩, b1, b2, b3, b4, b5, b6⟩ := hN
    rw [AWh_k, k_X1_numberArcs_27]
    simp only [AW_k, AWk_1, x_iload_4, x_push_i, x_push_l, x_iload_3, x_iload_2, x_isub, x_ishl, x_icmp_ge, x_aload_0, x_aloads_0, x_getf, x_iload_1, x_iast, x_call_1, x_iald, x_ialds, x_iinc_1, x_iinc_4, x_goto, unl_i, unl_l, unl_q, unl_r, unl_s, unl_n, k_X1_numberArcs_27, k_X1_numberArcs_28, k_X1_numberArcs_29, k_X1_numberArcs_30, k_X1_numberArcs_31, k_X1_numberArcs_32, k_X1_numberArcs_33, k_X1_numberArcs_34, k_X1_numberArcs_35, k_X1_numberArcs_36, k_X1_numberArcs_37, k_X1_numberArcs_38, k_X1_numberArcs_39, k_X1_numberArcs_40, k_X1_numberArcs_41, k_X1_numberArcs_42, k_X1_numberArcs_43, k_X1_numberArcs_44, k_X1_numberArcs_45, k_X1_numberArcs_46, k_X1_numberArcs_47, k_X1_numberArcs_48, k_X1_numberArcs_49, k_X1_numberArcs_50, k_X1_numberArcs_51, k_X1_numberArcs_52, k_X1_numberArcs_53, k_X1_numberArcs_54, k_X1_numberArcs_55, k_X1_numberArcs_56, k_X1_numberArcs_57, k_X1_numberArcs_58, k_X1_numberArcs_59, k_X1_numberArcs_60, k_X1_numberArcs_61, k_X1_numberArcs_62, k_X1_numberArcs_63, k_X1_numberArcs_64, k_X1_numberArcs_65, k_X1_numberArcs_66, k_X1_numberArcs_67, k_X1_numberArcs_68, k_X1_numberArcs_69, k_X1_numberArcs_70, k_X1_numberArcs_71, k_X1_numberArcs_72, k_X1_numberArcs_73, oE_some, Int.reduceToNat, Nat.reduceAdd, true_and, and_true, List.length_cons, List.length_nil, Option.toList_some, Option.toList_none, List.cons_append, List.nil_append, Nat.reduceLeDiff, Nat.le_refl, wdS_nil, wdS_i, wdS_l, wdS_r, wdS_n, wdS_s, esh, a2, a3, a4, a5, a6, b2, b3, b4, b5, b6, s1.1.2.2.1, s2.1.2.2.2.1, s3.1.2.2.2.2.1, s4.1.2.2.2.2.1, s4.1.2.2.2.2.2.1, s1.2.2.2.1, s2.2.2.2.2.1, s3.2.2.2.2.2.1, s4.2.2.2.2.2.1, s4.2.2.2.2.2.2, inB_n (jk (lo n)) (Lk (lo n)), inB_n (jk (hi n)) (Lk (hi n)), inB_n (jk (lf n)) (Lk (lf n)), inB_n (jk (lc n)) (Lk (lc n)), inB_n (jk (rc n)) (Lk (rc n)), inB_n j4 L4, w32_tn bk, t1, t2, t3, t4, t5, g4, c_bits6 d bl, ecv]
    rw [w32_nat bl, w32_nat bP, if_pos cl]
    exact u3
set_option maxHeartbeats 32000000 in
theorem na_b (d : Nat) {a n av : Nat} (h1 : 1 ≤ n) (h6 : n ≤ 6) (ha : 1 ≤ av) : ∀ (m bv : Nat) (h : HP) (y4 : Option AV), bv + m = n + 1 → av < bv → NAk h a n (av * 7 + bv) (oF n av bv) → ∃ h' y5, NAk h' a n (av * 7 + n + 1) (oF n av (n + 1)) ∧ Fr (a + 1) (a + 7) h h' ∧ ∀ R : PO, (AWh (d + 1) [] 9 R 12 [some (mR a), some (mI (oF n av bv : Int)), some (mI (av : Int)), some (mI (bv : Int)), y4] [] h (0, 0) ↔ AWk (d + 1) [] 9 R 76 (cd 9 76) [some (mR a), some (mI (oF n av (n + 1) : Int)), some (mI (av : Int)), some (mI ((n + 1 : Nat) : Int)), y5] [] h' (0, 0)) := by
  intro m
  induction m with
  | zero =>
    intro bv h y4 hm hab hN
    have e : bv = n + 1 := by omega
    subst e
    refine ⟨h, y4, hN, Fr_refl h, fun R => ?_⟩
    have bn : n < 2147483648 := by omega
    have bn1 : n + 1 < 2147483648 := by omega
    have cn : (n : Int) < ((n + 1 : Nat) : Int) := by omega
    have a1 := hN.1.1
    rw [AWh_k, k_X1_numberArcs_12]
    simp only [AW_k, AWk_1, x_iload_3, x_aload_0, x_aloads_0, x_getf, x_icmp_gt, x_iload_2, x_push_i, x_push_l, x_imul, x_iadd, x_iload_1, x_iast, x_istore_4, unl_i, unl_l, unl_q, unl_r, unl_s, unl_n, k_X1_numberArcs_12, k_X1_numberArcs_13, k_X1_numberArcs_14, k_X1_numberArcs_15, k_X1_numberArcs_16, k_X1_numberArcs_17, k_X1_numberArcs_18, k_X1_numberArcs_19, k_X1_numberArcs_20, k_X1_numberArcs_21, k_X1_numberArcs_22, k_X1_numberArcs_23, k_X1_numberArcs_24, k_X1_numberArcs_25, k_X1_numberArcs_26, oE_some, Int.reduceToNat, Nat.reduceAdd, true_and, and_true, List.length_cons, List.length_nil, Option.toList_some, Option.toList_none, List.cons_append, List.nil_append, Nat.reduceLeDiff, Nat.le_refl, wdS_nil, wdS_i, wdS_l, wdS_r, wdS_n, wdS_s, a1]
    rw [w32_nat bn1, w32_nat bn, if_pos cn]
  | succ m ih =>
    intro bv h y4 hm hab hN
    have hbn : bv ≤ n := by omega
    have bn : n < 2147483648 := by omega
    have bb : bv < 2147483648 := by omega
    have cn : ¬ (n : Int) < (bv : Int) := by omega
    obtain ⟨q1, q2, -⟩ := om h1 h6 ha hab hbn
    have ei : (av : Int) * 7 + (bv : Int) = ((av * 7 + bv : Nat) : Int) := by omega
    have hi49 : av * 7 + bv < 49 := by omega
    have bi : av * 7 + bv < 2147483648 := by omega
    have j1 : av * 7 + bv < (tP (fi n) (av * 7 + bv) 49).length := by rw [tP_len]; exact hi49
    have L1 : (tP (fi n) (av * 7 + bv) 49).length < 2147483648 := by rw [tP_len]; decide
    have ts : (tP (fi n) (av * 7 + bv) 49).set (av * 7 + bv) (oF n av bv : Int) = tP (fi n) (av * 7 + bv + 1) 49 := tP_set hi49 (by rw [q2])
    have s1 : NAk (pA h (a + 1) (tP (fi n) (av * 7 + bv + 1) 49)) a n (av * 7 + bv + 1) (oF n av bv) := NAP_1 hN
    have f1 : Fr (a + 1) (a + 7) h (pA h (a + 1) (tP (fi n) (av * 7 + bv + 1) 49)) := Fr_pA (by omega) (by omega)
    obtain ⟨h2, l', u1, u2, u3⟩ := na_l d h1 h6 ha hab hbn (2 ^ (bv - av - 1)) 0 _ (by rw [Nat.zero_add]) s1
    rw [← q1] at u1
    obtain ⟨h', y5, v1, v2, v3⟩ := ih (bv + 1) h2 (some (mI l')) (by omega) (by omega) u1
    refine ⟨h', y5, v1, Fr_trans (Fr_trans f1 u2) v2, fun R => ?_⟩
    have v3 := v3 R
    have u3 := u3 R
    rw [← q1] at u3
    obtain ⟨⟨a1, a2, a3, a4, a5, a6, a7⟩, b1, -⟩ := hN
    rw [AWh_k, k_X1_numberArcs_12]
    simp only [AW_k, AWk_1, x_iload_3, x_aload_0, x_aloads_0, x_getf, x_icmp_gt, x_iload_2, x_push_i, x_push_l, x_imul, x_iadd, x_iload_1, x_iast, x_istore_4, unl_i, unl_l, unl_q, unl_r, unl_s, unl_n, k_X1_numberArcs_12, k_X1_numberArcs_13, k_X1_numberArcs_14, k_X1_numberArcs_15, k_X1_numberArcs_16, k_X1_numberArcs_17, k_X1_numberArcs_18, k_X1_numberArcs_19, k_X1_numberArcs_20, k_X1_numberArcs_21, k_X1_numberArcs_22, k_X1_numberArcs_23, k_X1_numberArcs_24, k_X1_numberArcs_25, k_X1_numberArcs_26, oE_some, Int.reduceToNat, Nat.reduceAdd, true_and, and_true, List.length_cons, List.length_nil, Option.toList_some, Option.toList_none, List.cons_append, List.nil_append, Nat.reduceLeDiff, Nat.le_refl, wdS_nil, wdS_i, wdS_l, wdS_r, wdS_n, wdS_s, a1, a7, b1, ei, inB_n j1 L1, w32_tn bi, ts]
    rw [w32_nat bb, w32_nat bn, if_neg cn]
    refine Iff.trans u3 ?_
    simp only [AW_k, AWk_1, x_iinc_3, x_goto, unl_i, unl_l, unl_q, unl_r, unl_s, unl_n, k_X1_numberArcs_74, k_X1_numberArcs_75, oE_some, Int.reduceToNat, Nat.reduceAdd, true_and, and_true, List.length_cons, List.length_nil, Option.toList_some, Option.toList_none, List.cons_append, List.nil_append, Nat.reduceLeDiff, Nat.le_refl, wdS_nil, wdS_i, wdS_l, wdS_r, wdS_n, wdS_s]
    exact v3
set_option maxHeartbeats 32000000 in
theorem na_a (d : Nat) {a n : Nat} (h1 : 1 ≤ n) (h6 : n ≤ 6) : ∀ (m av : Nat) (h : HP) (y3 y4 : Option AV), av + m = n → 1 ≤ av → NAk h a n (av * 7 + av + 1) (oF n av (av + 1)) → ∃ h', NAk h' a n (n * 7 + n + 1) (oF n n (n + 1)) ∧ Fr (a + 1) (a + 7) h h' ∧ ∀ R : PO, (AWh (d + 1) [] 9 R 4 [some (mR a), some (mI (oF n av (av + 1) : Int)), some (mI (av : Int)), y3, y4] [] h (0, 0) ↔ R none h') := by
  intro m
  induction m with
  | zero =>
    intro av h y3 y4 hm ha hN
    have e : av = n := by omega
    subst e
    refine ⟨h, hN, Fr_refl h, fun R => ?_⟩
    have a1 := hN.1.1
    rw [AWh_k, k_X1_numberArcs_4]
    simp only [AW_k, AWk_1, x_iload_2, x_aload_0, x_aloads_0, x_getf, x_icmp_ge, x_push_i, x_push_l, x_iadd, x_istore_3, unl_i, unl_l, unl_q, unl_r, unl_s, unl_n, k_X1_numberArcs_4, k_X1_numberArcs_5, k_X1_numberArcs_6, k_X1_numberArcs_7, k_X1_numberArcs_8, k_X1_numberArcs_9, k_X1_numberArcs_10, k_X1_numberArcs_11, oE_some, Int.reduceToNat, Nat.reduceAdd, true_and, and_true, List.length_cons, List.length_nil, Option.toList_some, Option.toList_none, List.cons_append, List.nil_append, Nat.reduceLeDiff, Nat.le_refl, wdS_nil, wdS_i, wdS_l, wdS_r, wdS_n, wdS_s, a1]
    rw [if_neg (Int.lt_irrefl _)]
    simp only [AW_k, AWk_1, x_ret, x_ret_i, x_ret_z, x_ret_l, x_ret_c, k_X1_numberArcs_78, oE_some, Int.reduceToNat, Nat.reduceAdd, true_and, and_true, List.length_cons, List.length_nil, Option.toList_some, Option.toList_none, List.cons_append, List.nil_append, Nat.reduceLeDiff, Nat.le_refl, wdS_nil, wdS_i, wdS_l, wdS_r, wdS_n, wdS_s]
  | succ m ih =>
    intro av h y3 y4 hm ha hN
    have han : av < n := by omega
    have bn : n < 2147483648 := by omega
    have ba : av < 2147483648 := by omega
    have cn : (av : Int) < (n : Int) := by omega
    have e1 : (av : Int) + 1 = ((av + 1 : Nat) : Int) := by omega
    obtain ⟨o1, -⟩ := om2 h1 h6
    obtain ⟨o2, o3⟩ := o1 av ha han
    obtain ⟨h2, y5, u1, u2, u3⟩ := na_b d (a := a) h1 h6 ha (n - av) (av + 1) h y4 (by omega) (by omega) hN
    have u1' : NAk h2 a n ((av + 1) * 7 + (av + 1) + 1) (oF n (av + 1) (av + 1 + 1)) := by
      unfold NAk at u1 ⊢
      rw [← o2, ← tP_skip (f := fi n) (N := 49) (k := av * 7 + n + 1) (m := (av + 1) * 7 + (av + 1) + 1) (fun j hj1 hj2 => o3 j hj1 (by omega)) (by omega)]
      exact u1
    obtain ⟨h', v1, v2, v3⟩ := ih (av + 1) h2 (some (mI ((n + 1 : Nat) : Int))) y5 (by omega) (by omega) u1'
    refine ⟨h', v1, Fr_trans u2 v2, fun R => ?_⟩
    have v3 := v3 R
    have u3 := u3 R
    rw [← o2] at v3
    have a1 := hN.1.1
    rw [AWh_k, k_X1_numberArcs_4]
    simp only [AW_k, AWk_1, x_iload_2, x_aload_0, x_aloads_0, x_getf, x_icmp_ge, x_push_i, x_push_l, x_iadd, x_istore_3, unl_i, unl_l, unl_q, unl_r, unl_s, unl_n, k_X1_numberArcs_4, k_X1_numberArcs_5, k_X1_numberArcs_6, k_X1_numberArcs_7, k_X1_numberArcs_8, k_X1_numberArcs_9, k_X1_numberArcs_10, k_X1_numberArcs_11, oE_some, Int.reduceToNat, Nat.reduceAdd, true_and, and_true, List.length_cons, List.length_nil, Option.toList_some, Option.toList_none, List.cons_append, List.nil_append, Nat.reduceLeDiff, Nat.le_refl, wdS_nil, wdS_i, wdS_l, wdS_r, wdS_n, wdS_s, a1, e1]
    rw [w32_nat ba, w32_nat bn, if_pos cn]
    refine Iff.trans u3 ?_
    simp only [AW_k, AWk_1, x_iinc_2, x_goto, unl_i, unl_l, unl_q, unl_r, unl_s, unl_n, k_X1_numberArcs_76, k_X1_numberArcs_77, oE_some, Int.reduceToNat, Nat.reduceAdd, true_and, and_true, List.length_cons, List.length_nil, Option.toList_some, Option.toList_none, List.cons_append, List.nil_append, Nat.reduceLeDiff, Nat.le_refl, wdS_nil, wdS_i, wdS_l, wdS_r, wdS_n, wdS_s, e1]
    exact v3
theorem c1_numberArcs (d : Nat) {a n : Nat} {h : HP} (h1 : 1 ≤ n) (h6 : n ≤ 6) (hN : NAP h a n (List.replicate 49 0) (List.replicate (NA n) 0) (List.replicate (NA n) 0) (List.replicate (NA n) 0) (List.replicate (NA n) 0) (List.replicate (NA n) 0)) : ∃ h', NAP h' a n (tI (fi n) 49) (tI (lo n) (NA n)) (tI (hi n) (NA n)) (tI (lf n) (NA n)) (tI (lc n) (NA n)) (tI (rc n) (NA n)) ∧ Fr (a + 1) (a + 7) h h' ∧ ∀ R : PO, callD (d + 2) 9 [mR a] h R ↔ R none h' := by
  obtain ⟨-, o1, o2, o3, o4⟩ := om2 h1 h6
  have hN' : NAk h a n (1 * 7 + 1 + 1) (oF n 1 (1 + 1)) := by
    unfold NAk
    rw [show oF n 1 (1 + 1) = 0 from o1, ← tP_skip (f := fi n) (N := 49) (k := 0) (m := 1 * 7 + 1 + 1) (fun j _ hj2 => o2 j hj2) (by omega), tP_0, tP_0, tP_0, tP_0, tP_0, tP_0]
    exact hN
  obtain ⟨h', v1, v2, v3⟩ := na_a d (a := a) h1 h6 (n - 1) 1 h none none (by omega) (by omega) hN'
  refine ⟨h', ?_, v2, fun R => ?_⟩
  · unfold NAk at v1
    rw [o3, tP_skip (f := fi n) (N := 49) (k := n * 7 + n + 1) (m := 49) (fun j hj1 hj2 => o4 j hj1 hj2) (by omega), tP_N, tP_N, tP_N, tP_N, tP_N, tP_N] at v1
    exact v1
  · have v3 := v3 R
    rw [show oF n 1 (1 + 1) = 0 from o1] at v3
    rw [callD_k]; simp only [entL_i, entL_l, entL_q, entL_s, entL_nil, n_X1_numberArcs, u_X1_numberArcs, m_X1_numberArcs, rep_4, List.cons_append, List.nil_append, List.append_nil, List.length_cons, List.length_nil, Nat.reduceAdd, true_and]
    simp only [AW_k, AWk_1, x_push_i, x_push_l, x_istore_1, x_istore_2, unl_i, unl_l, unl_q, unl_r, unl_s, unl_n, k_X1_numberArcs_0, k_X1_numberArcs_1, k_X1_numberArcs_2, k_X1_numberArcs_3, oE_some, Int.reduceToNat, Nat.reduceAdd, true_and, and_true, List.length_cons, List.length_nil, Option.toList_some, Option.toList_none, List.cons_append, List.nil_append, Nat.reduceLeDiff, Nat.le_refl, wdS_nil, wdS_i, wdS_l, wdS_r, wdS_n, wdS_s]
    exact v3
