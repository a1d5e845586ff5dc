/-! ===== the class's reader: one, all, any, read ===== -/
theorem zI_not (z : Bool) : (if w32 (zI z) = 0 then (1 : Int) else 0) = zI (!z) := by cases z <;> rfl
set_option maxHeartbeats 32000000 in
theorem c8_nots (d : Nat) {a ra n L o : Nat} {W B : Nat → Nat} {V : Nat → Int} {tb ws bg wo : List Int} : ∀ (f i : Nat) (z : Bool) (h : HP) (s : PSt), i + f = 200 → PX a ra n L W B V tb ws bg wo h s → ∃ h' i', PX a ra n L W B V tb ws bg wo h' (notP W B f z s).2 ∧ Fr a (a + 5) h h' ∧ ∀ R : PO, (AWh (d + 2) [] 87 R 4 [some (mR a), some (mI (o : Int)), some (mI (zI z)), some (mI (i : Int)), none] [] h (0, 0) ↔ AW (d + 2) [] 87 R 28 [some (mR a), some (mI (o : Int)), some (mI (zI (notP W B f z s).1)), some (mI i'), none] [] h' (0, 0)) := by
  intro f
  induction f with
  | zero =>
    intro i z h s hi hX
    refine ⟨h, (i : Int), hX, Fr_refl h, fun R => ?_⟩
    have e : i = 200 := by omega
    subst e
    rw [AWh_k, k_X8_oneOf_4]
    simp only [AW_k, AWk_1, x_iload_3, x_push_i, x_push_l, x_icmp_ge, x_aload_0, x_aloads_0, x_getf, x_if_ge, x_iald, x_ialds, x_icmp_ne, x_iload_2, x_if_ne, x_goto, x_istore_2, x_callv_2, x_iinc_3, unl_i, unl_l, unl_q, unl_r, unl_s, unl_n, k_X8_oneOf_4, k_X8_oneOf_5, k_X8_oneOf_6, k_X8_oneOf_7, k_X8_oneOf_8, k_X8_oneOf_9, k_X8_oneOf_10, k_X8_oneOf_11, k_X8_oneOf_12, k_X8_oneOf_13, k_X8_oneOf_14, k_X8_oneOf_15, k_X8_oneOf_16, k_X8_oneOf_17, k_X8_oneOf_18, k_X8_oneOf_19, k_X8_oneOf_20, k_X8_oneOf_21, k_X8_oneOf_22, k_X8_oneOf_23, k_X8_oneOf_24, k_X8_oneOf_25, k_X8_oneOf_26, k_X8_oneOf_27, oE_some, Int.reduceToNat, Nat.reduceAdd, true_and, and_true, List.length_cons, List.length_nil, Option.toList_some, Option.toList_none, List.cons_append, List.nil_append, Nat.reduceLeDiff, Nat.le_refl, wdS_nil, wdS_i, wdS_l, wdS_r, wdS_n, wdS_s]
    rw [if_neg (by decide)]
    exact Iff.rfl
  | succ f ih =>
    intro i z h s hi hX
    have hX0 := hX
    obtain ⟨x1, x2, x3, x4, x5⟩ := hX
    obtain ⟨⟨l1, l2, l3⟩, L2, hw, hb, h0⟩ := x3
    have hs := x4.1
    have f1 := x4.2.1
    have f2 := x4.2.2
    have q := hw s.2 hs
    have hWb := (hb s.2 hs).1
    have s200 : s.2 ≤ 200 := by omega
    have bs2 : s.2 < 2147483648 := by omega
    have bW : W s.2 < 2147483648 := by omega
    have r1 : -2147483648 ≤ s.1 := by omega
    have r2 : s.1 < 2147483648 := by omega
    have bi : i < 2147483648 := by omega
    have ci : (i : Int) < 200 := by omega
    rw [notP_succ]
    by_cases c : s.1 < 0 ∧ W s.2 = 9
    · rw [if_pos c]
      have c9 : (W s.2 : Int) = 9 := by have := c.2; omega
      obtain ⟨h1, y1, g1, p1⟩ := c8_pass (d + 1) (c := true) hX0
      obtain ⟨h', i', u1, u2, u3⟩ := ih (i + 1) (!z) h1 _ (by omega) y1
      refine ⟨h', i', u1, Fr_trans g1 u2, fun R => ?_⟩
      rw [zI_t] at p1
      cases z
      · rw [AWh_k, k_X8_oneOf_4]
        simp only [AW_k, AWk_1, x_iload_3, x_push_i, x_push_l, x_icmp_ge, x_aload_0, x_aloads_0, x_getf, x_if_ge, x_iald, x_ialds, x_icmp_ne, x_iload_2, x_if_ne, x_goto, x_istore_2, x_callv_2, x_iinc_3, unl_i, unl_l, unl_q, unl_r, unl_s, unl_n, k_X8_oneOf_4, k_X8_oneOf_5, k_X8_oneOf_6, k_X8_oneOf_7, k_X8_oneOf_8, k_X8_oneOf_9, k_X8_oneOf_10, k_X8_oneOf_11, k_X8_oneOf_12, k_X8_oneOf_13, k_X8_oneOf_14, k_X8_oneOf_15, k_X8_oneOf_16, k_X8_oneOf_17, k_X8_oneOf_18, k_X8_oneOf_19, k_X8_oneOf_20, k_X8_oneOf_21, k_X8_oneOf_22, k_X8_oneOf_23, k_X8_oneOf_24, k_X8_oneOf_25, k_X8_oneOf_26, k_X8_oneOf_27, oE_some, Int.reduceToNat, Nat.reduceAdd, true_and, and_true, List.length_cons, List.length_nil, Option.toList_some, Option.toList_none, List.cons_append, List.nil_append, Nat.reduceLeDiff, Nat.le_refl, wdS_nil, wdS_i, wdS_l, wdS_r, wdS_n, wdS_s, x2.1.2.1, x2.1.2.2.2.1, x2.1.2.2.2.2.2.2.1, x2.2.2.1, w201 l1 s200, gtW bs2 q.1, gC_of x2.1.1, p1, zI_f]
        rw [w32_nat bi, show w32 200 = 200 from rfl, if_pos ci, w32_id r1 r2, if_pos c.1, w32_nat bW, show w32 9 = 9 from rfl, if_pos c9, show w32 0 = 0 from rfl, if_pos rfl]
        exact (u3 R).trans AW_k
      · rw [AWh_k, k_X8_oneOf_4]
        simp only [AW_k, AWk_1, x_iload_3, x_push_i, x_push_l, x_icmp_ge, x_aload_0, x_aloads_0, x_getf, x_if_ge, x_iald, x_ialds, x_icmp_ne, x_iload_2, x_if_ne, x_goto, x_istore_2, x_callv_2, x_iinc_3, unl_i, unl_l, unl_q, unl_r, unl_s, unl_n, k_X8_oneOf_4, k_X8_oneOf_5, k_X8_oneOf_6, k_X8_oneOf_7, k_X8_oneOf_8, k_X8_oneOf_9, k_X8_oneOf_10, k_X8_oneOf_11, k_X8_oneOf_12, k_X8_oneOf_13, k_X8_oneOf_14, k_X8_oneOf_15, k_X8_oneOf_16, k_X8_oneOf_17, k_X8_oneOf_18, k_X8_oneOf_19, k_X8_oneOf_20, k_X8_oneOf_21, k_X8_oneOf_22, k_X8_oneOf_23, k_X8_oneOf_24, k_X8_oneOf_25, k_X8_oneOf_26, k_X8_oneOf_27, oE_some, Int.reduceToNat, Nat.reduceAdd, true_and, and_true, List.length_cons, List.length_nil, Option.toList_some, Option.toList_none, List.cons_append, List.nil_append, Nat.reduceLeDiff, Nat.le_refl, wdS_nil, wdS_i, wdS_l, wdS_r, wdS_n, wdS_s, x2.1.2.1, x2.1.2.2.2.1, x2.1.2.2.2.2.2.2.1, x2.2.2.1, w201 l1 s200, gtW bs2 q.1, gC_of x2.1.1, p1, zI_t]
        rw [w32_nat bi, show w32 200 = 200 from rfl, if_pos ci, w32_id r1 r2, if_pos c.1, w32_nat bW, show w32 9 = 9 from rfl, if_pos c9, if_neg (by decide)]
        exact (u3 R).trans AW_k
    · rw [if_neg c]
      refine ⟨h, (i : Int), hX0, Fr_refl h, fun R => ?_⟩
      by_cases c1 : s.1 < 0
      · have c9 : ¬ (W s.2 : Int) = 9 := fun e => c ⟨c1, by omega⟩
        rw [AWh_k, k_X8_oneOf_4]
        simp only [AW_k, AWk_1, x_iload_3, x_push_i, x_push_l, x_icmp_ge, x_aload_0, x_aloads_0, x_getf, x_if_ge, x_iald, x_ialds, x_icmp_ne, x_iload_2, x_if_ne, x_goto, x_istore_2, x_callv_2, x_iinc_3, unl_i, unl_l, unl_q, unl_r, unl_s, unl_n, k_X8_oneOf_4, k_X8_oneOf_5, k_X8_oneOf_6, k_X8_oneOf_7, k_X8_oneOf_8, k_X8_oneOf_9, k_X8_oneOf_10, k_X8_oneOf_11, k_X8_oneOf_12, k_X8_oneOf_13, k_X8_oneOf_14, k_X8_oneOf_15, k_X8_oneOf_16, k_X8_oneOf_17, k_X8_oneOf_18, k_X8_oneOf_19, k_X8_oneOf_20, k_X8_oneOf_21, k_X8_oneOf_22, k_X8_oneOf_23, k_X8_oneOf_24, k_X8_oneOf_25, k_X8_oneOf_26, k_X8_oneOf_27, oE_some, Int.reduceToNat, Nat.reduceAdd, true_and, and_true, List.length_cons, List.length_nil, Option.toList_some, Option.toList_none, List.cons_append, List.nil_append, Nat.reduceLeDiff, Nat.le_refl, wdS_nil, wdS_i, wdS_l, wdS_r, wdS_n, wdS_s, x2.1.2.1, x2.1.2.2.2.1, x2.1.2.2.2.2.2.2.1, x2.2.2.1, w201 l1 s200, gtW bs2 q.1]
        rw [w32_nat bi, show w32 200 = 200 from rfl, if_pos ci, w32_id r1 r2, if_pos c1, w32_nat bW, show w32 9 = 9 from rfl, if_neg c9]
      · rw [AWh_k, k_X8_oneOf_4]
        simp only [AW_k, AWk_1, x_iload_3, x_push_i, x_push_l, x_icmp_ge, x_aload_0, x_aloads_0, x_getf, x_if_ge, k_X8_oneOf_4, k_X8_oneOf_5, k_X8_oneOf_6, k_X8_oneOf_7, k_X8_oneOf_8, k_X8_oneOf_9, k_X8_oneOf_10, k_X8_oneOf_11, oE_some, Int.reduceToNat, Nat.reduceAdd, true_and, and_true, List.length_cons, List.length_nil, Option.toList_some, Option.toList_none, List.cons_append, List.nil_append, Nat.reduceLeDiff, Nat.le_refl, wdS_nil, wdS_i, wdS_l, wdS_r, wdS_n, wdS_s, x2.1.2.1]
        rw [w32_nat bi, show w32 200 = 200 from rfl, if_pos ci, w32_id r1 r2, if_neg c1]
set_option maxHeartbeats 32000000 in
theorem c8_oneOf (d : Nat) {a ra n L o : Nat} {W B : Nat → Nat} {V : Nat → Int} {tb ws bg wo : List Int} {low : PSt → BitVec 64 × PSt} (ho : o ≤ 3) (hlow : o < 3 → PC a ra n L W B V tb ws bg wo (d + 2) 85 [mR a, mI ((o + 1 : Nat) : Int)] low) : PC a ra n L W B V tb ws bg wo (d + 3) 87 [mR a, mI (o : Int)] (oneP n W B V low o) := by
  intro h s hX
  have bo : o < 2147483648 := by omega
  have eo : (o : Int) + 1 = ((o + 1 : Nat) : Int) := by omega
  -- behind the word: turned or not
  have tail : ∀ (h' : HP) (s' : PSt) (z : Bool) (x : BitVec 64) (R : PO), PX a ra n L W B V tb ws bg wo h' s' → (AW (d + 2) [] 87 R 65 [some (mR a), some (mI (o : Int)), some (mI (zI z)), some (mL x), none] [] h' (0, 0) ↔ R (some (mL (if z = true then aL n &&& ~~~ x else x))) h') := by
    intro h' s' z x R hX'
    simp only [AW_k, AWk_1, x_iload_2, x_if_eq, x_aload_0, x_aloads_0, x_getf, x_lload_3, x_push_i, x_push_l, x_lxor, x_land, x_goto, x_ret, x_ret_i, x_ret_z, x_ret_l, x_ret_c, k_X8_oneOf_65, k_X8_oneOf_66, k_X8_oneOf_67, k_X8_oneOf_68, k_X8_oneOf_69, k_X8_oneOf_70, k_X8_oneOf_71, k_X8_oneOf_72, k_X8_oneOf_73, k_X8_oneOf_74, k_X8_oneOf_75, k_X8_oneOf_76, oE_some, Int.reduceToNat, Nat.reduceAdd, true_and, and_true, List.length_cons, List.length_nil, Option.toList_some, Option.toList_none, List.cons_append, List.nil_append, Nat.reduceLeDiff, Nat.le_refl, wdS_nil, wdS_i, wdS_l, wdS_r, wdS_n, wdS_s, hX'.2.1.1.2.2.2.2.2.2.2, rw_all hX'.1, w32_zI_0, ite_bf, xor_m1]
    cases z <;> exact Iff.rfl
  obtain ⟨h1, i1, y1, g1, nots⟩ := c8_nots d (o := o) 200 0 false h s rfl hX
  generalize hz : notP W B 200 false s = zs at y1 nots
  obtain ⟨z, s1⟩ := zs
  dsimp only at y1 nots
  have y1' := y1
  obtain ⟨x1, x2, x3, x4, x5⟩ := y1'
  obtain ⟨⟨l1, l2, l3⟩, L2, hw, hb, h0⟩ := x3
  have hs := x4.1
  have q := hw s1.2 hs
  have hWb := (hb s1.2 hs).1
  have s200 : s1.2 ≤ 200 := by omega
  have bs2 : s1.2 < 2147483648 := by omega
  have bW : W s1.2 < 2147483648 := by omega
  by_cases c : W s1.2 = 40 ∧ o < 3
  · have e : oneP n W B V low o s = (if z = true then aL n &&& ~~~ (low (psP W B true s1)).1 else (low (psP W B true s1)).1, psP W B (decide (W (low (psP W B true s1)).2.2 = 41)) (low (psP W B true s1)).2) := by
      unfold oneP
      rw [hz]
      dsimp only
      rw [if_pos c]
    rw [e]
    have c40 : (W s1.2 : Int) = 40 := by have := c.1; omega
    have co : (o : Int) < 3 := by have := c.2; omega
    obtain ⟨h2, y2, g2, p2⟩ := c8_pass (d + 1) (c := true) y1
    rw [zI_t] at p2
    have k2 := gC_of y2.2.1.1.1
    obtain ⟨h3, y3, g3, p3⟩ := hlow c.2 h2 _ y2
    generalize hlw : low (psP W B true s1) = hs2 at y3 p3
    obtain ⟨x, s3⟩ := hs2
    dsimp only at y3 p3 ⊢
    have y3' := y3
    obtain ⟨v1, v2, v3, v4, v5⟩ := y3'
    have hs3 := v4.1
    have q3 := hw s3.2 hs3
    have hWb3 := (hb s3.2 hs3).1
    have s3200 : s3.2 ≤ 200 := by omega
    have bs3 : s3.2 < 2147483648 := by omega
    have bW3 : W s3.2 < 2147483648 := by omega
    obtain ⟨h4, y4, g4, p4⟩ := c8_pass (d + 1) (c := decide (W s3.2 = 41)) y3
    refine ⟨h4, y4, Fr_trans (Fr_trans (Fr_trans g1 g2) g3) g4, fun R => ?_⟩
    have t := tail h4 _ z x R y4
    have n1 := nots R
    rw [callD_k]; simp only [entL_i, entL_l, entL_q, entL_s, entL_nil, n_X8_oneOf, u_X8_oneOf, m_X8_oneOf, rep_3, List.cons_append, List.nil_append, List.append_nil, List.length_cons, List.length_nil, Nat.reduceAdd, true_and]
    simp only [AW_k, AWk_1, x_push_i, x_push_l, x_istore_2, x_istore_3, unl_i, unl_l, unl_q, unl_r, unl_s, unl_n, k_X8_oneOf_0, k_X8_oneOf_1, k_X8_oneOf_2, k_X8_oneOf_3, oE_some, Int.reduceToNat, Nat.reduceAdd, true_and, and_true, List.length_cons, List.length_nil, Option.toList_some, Option.toList_none, List.cons_append, List.nil_append, Nat.reduceLeDiff, Nat.le_refl, wdS_nil, wdS_i, wdS_l, wdS_r, wdS_n, wdS_s]
    refine n1.trans ?_
    have hp4 : ∀ R : PO, (if (W s3.2 : Int) = 41 then callD (d + 2) 84 [mR a, mI 1] h3 R else callD (d + 2) 84 [mR a, mI 0] h3 R) ↔ R none h4 := by
      intro R
      by_cases c41 : W s3.2 = 41
      · rw [decide_eq_true c41, zI_t] at p4
        rw [if_pos (show (W s3.2 : Int) = 41 by omega)]
        exact p4 R
      · rw [decide_eq_false c41, zI_f] at p4
        rw [if_neg (show ¬ (W s3.2 : Int) = 41 by omega)]
        exact p4 R
    by_cases c41 : (W s3.2 : Int) = 41
    · have p5 := fun R => hp4 R
      simp only [c41, if_true] at p5
      simp only [AW_k, AWk_1, x_push_i, x_push_l, x_lstore_3, x_aload_0, x_aloads_0, x_getf, x_iald, x_ialds, x_icmp_ne, x_iload_1, x_icmp_ge, x_callv_2, x_iadd, x_goto, unl_i, unl_l, unl_q, unl_r, unl_s, unl_n, k_X8_oneOf_28, k_X8_oneOf_29, k_X8_oneOf_30, k_X8_oneOf_31, k_X8_oneOf_32, k_X8_oneOf_33, k_X8_oneOf_34, k_X8_oneOf_35, k_X8_oneOf_36, k_X8_oneOf_37, k_X8_oneOf_38, k_X8_oneOf_39, k_X8_oneOf_40, k_X8_oneOf_41, k_X8_oneOf_42, k_X8_oneOf_43, k_X8_oneOf_44, k_X8_oneOf_45, k_X8_oneOf_46, k_X8_oneOf_47, k_X8_oneOf_48, k_X8_oneOf_49, k_X8_oneOf_50, k_X8_oneOf_51, k_X8_oneOf_52, k_X8_oneOf_53, k_X8_oneOf_54, k_X8_oneOf_55, k_X8_oneOf_56, k_X8_oneOf_57, k_X8_oneOf_58, k_X8_oneOf_59, k_X8_oneOf_60, k_X8_oneOf_61, oE_some, Int.reduceToNat, Nat.reduceAdd, true_and, and_true, List.length_cons, List.length_nil, Option.toList_some, Option.toList_none, List.cons_append, List.nil_append, Nat.reduceLeDiff, Nat.le_refl, wdS_nil, wdS_i, wdS_l, wdS_r, wdS_n, wdS_s, x2.1.2.2.2.1, x2.1.2.2.2.2.2.2.1, x2.2.2.1, w201 l1 s200, gtW bs2 q.1, gC_of x2.1.1, p2, k2, eo, p3, v2.1.2.2.2.1, v2.1.2.2.2.2.2.2.1, v2.2.2.1, w201 l1 s3200, gtW bs3 q3.1, gC_of v2.1.1, p5, w32_nat bW3, c41, show w32 41 = 41 from rfl, if_true]
      rw [w32_nat bW, show w32 40 = 40 from rfl, if_pos c40, w32_nat bo, show w32 3 = 3 from rfl, if_pos co]
      exact AW_k.symm.trans t
    · have p5 := fun R => hp4 R
      simp only [c41, if_false] at p5
      simp only [AW_k, AWk_1, x_push_i, x_push_l, x_lstore_3, x_aload_0, x_aloads_0, x_getf, x_iald, x_ialds, x_icmp_ne, x_iload_1, x_icmp_ge, x_callv_2, x_iadd, x_goto, unl_i, unl_l, unl_q, unl_r, unl_s, unl_n, k_X8_oneOf_28, k_X8_oneOf_29, k_X8_oneOf_30, k_X8_oneOf_31, k_X8_oneOf_32, k_X8_oneOf_33, k_X8_oneOf_34, k_X8_oneOf_35, k_X8_oneOf_36, k_X8_oneOf_37, k_X8_oneOf_38, k_X8_oneOf_39, k_X8_oneOf_40, k_X8_oneOf_41, k_X8_oneOf_42, k_X8_oneOf_43, k_X8_oneOf_44, k_X8_oneOf_45, k_X8_oneOf_46, k_X8_oneOf_47, k_X8_oneOf_48, k_X8_oneOf_49, k_X8_oneOf_50, k_X8_oneOf_51, k_X8_oneOf_52, k_X8_oneOf_53, k_X8_oneOf_54, k_X8_oneOf_55, k_X8_oneOf_56, k_X8_oneOf_57, k_X8_oneOf_58, k_X8_oneOf_59, k_X8_oneOf_60, k_X8_oneOf_61, oE_some, Int.reduceToNat, Nat.reduceAdd, true_and, and_true, List.length_cons, List.length_nil, Option.toList_some, Option.toList_none, List.cons_append, List.nil_append, Nat.reduceLeDiff, Nat.le_refl, wdS_nil, wdS_i, wdS_l, wdS_r, wdS_n, wdS_s, x2.1.2.2.2.1, x2.1.2.2.2.2.2.2.1, x2.2.2.1, w201 l1 s200, gtW bs2 q.1, gC_of x2.1.1, p2, k2, eo, p3, v2.1.2.2.2.1, v2.1.2.2.2.2.2.2.1, v2.2.2.1, w201 l1 s3200, gtW bs3 q3.1, gC_of v2.1.1, p5, w32_nat bW3, c41, show w32 41 = 41 from rfl, if_false]
      rw [w32_nat bW, show w32 40 = 40 from rfl, if_pos c40, w32_nat bo, show w32 3 = 3 from rfl, if_pos co]
      exact AW_k.symm.trans t
  · have e : oneP n W B V low o s = (if z = true then aL n &&& ~~~ (cmpP n W B V s1).1 else (cmpP n W B V s1).1, (cmpP n W B V s1).2) := by
      unfold oneP
      rw [hz]
      dsimp only
      rw [if_neg c]
    rw [e]
    obtain ⟨h2, y2, g2, p2⟩ := c8_compared d h1 s1 y1
    generalize cmpP n W B V s1 = hs2 at y2 p2
    obtain ⟨x, s3⟩ := hs2
    dsimp only at y2 p2 ⊢
    refine ⟨h2, y2, Fr_trans g1 g2, fun R => ?_⟩
    have t := tail h2 s3 z x R y2
    rw [callD_k]; simp only [entL_i, entL_l, entL_q, entL_s, entL_nil, n_X8_oneOf, u_X8_oneOf, m_X8_oneOf, rep_3, List.cons_append, List.nil_append, List.append_nil, List.length_cons, List.length_nil, Nat.reduceAdd, true_and]
    simp only [AW_k, AWk_1, x_push_i, x_push_l, x_istore_2, x_istore_3, unl_i, unl_l, unl_q, unl_r, unl_s, unl_n, k_X8_oneOf_0, k_X8_oneOf_1, k_X8_oneOf_2, k_X8_oneOf_3, oE_some, Int.reduceToNat, Nat.reduceAdd, true_and, and_true, List.length_cons, List.length_nil, Option.toList_some, Option.toList_none, List.cons_append, List.nil_append, Nat.reduceLeDiff, Nat.le_refl, wdS_nil, wdS_i, wdS_l, wdS_r, wdS_n, wdS_s]
    refine (nots R).trans ?_
    by_cases c40 : (W s1.2 : Int) = 40
    · have co : ¬ (o : Int) < 3 := fun q => c ⟨by omega, by omega⟩
      simp only [AW_k, AWk_1, x_push_i, x_push_l, x_lstore_3, x_aload_0, x_aloads_0, x_getf, x_iald, x_ialds, x_icmp_ne, x_iload_1, x_icmp_ge, unl_i, unl_l, unl_q, unl_r, unl_s, unl_n, k_X8_oneOf_28, k_X8_oneOf_29, k_X8_oneOf_30, k_X8_oneOf_31, k_X8_oneOf_32, k_X8_oneOf_33, k_X8_oneOf_34, k_X8_oneOf_35, k_X8_oneOf_36, k_X8_oneOf_37, k_X8_oneOf_38, k_X8_oneOf_39, oE_some, Int.reduceToNat, Nat.reduceAdd, true_and, and_true, List.length_cons, List.length_nil, Option.toList_some, Option.toList_none, List.cons_append, List.nil_append, Nat.reduceLeDiff, Nat.le_refl, wdS_nil, wdS_i, wdS_l, wdS_r, wdS_n, wdS_s, x2.1.2.2.2.1, x2.1.2.2.2.2.2.2.1, x2.2.2.1, w201 l1 s200, gtW bs2 q.1]
      rw [w32_nat bW, show w32 40 = 40 from rfl, if_pos c40, w32_nat bo, show w32 3 = 3 from rfl, if_neg co]
      simp only [AW_k, AWk_1, x_aload_0, x_aloads_0, x_callv_1, x_lstore_3, unl_i, unl_l, unl_q, unl_r, unl_s, unl_n, k_X8_oneOf_62, k_X8_oneOf_63, k_X8_oneOf_64, oE_some, Int.reduceToNat, Nat.reduceAdd, true_and, and_true, List.length_cons, List.length_nil, Option.toList_some, Option.toList_none, List.cons_append, List.nil_append, Nat.reduceLeDiff, Nat.le_refl, wdS_nil, wdS_i, wdS_l, wdS_r, wdS_n, wdS_s, gC_of x2.1.1, p2]
      exact AW_k.symm.trans t
    · simp only [AW_k, AWk_1, x_push_i, x_push_l, x_lstore_3, x_aload_0, x_aloads_0, x_getf, x_iald, x_ialds, x_icmp_ne, unl_i, unl_l, unl_q, unl_r, unl_s, unl_n, k_X8_oneOf_28, k_X8_oneOf_29, k_X8_oneOf_30, k_X8_oneOf_31, k_X8_oneOf_32, k_X8_oneOf_33, k_X8_oneOf_34, k_X8_oneOf_35, k_X8_oneOf_36, oE_some, Int.reduceToNat, Nat.reduceAdd, true_and, and_true, List.length_cons, List.length_nil, Option.toList_some, Option.toList_none, List.cons_append, List.nil_append, Nat.reduceLeDiff, Nat.le_refl, wdS_nil, wdS_i, wdS_l, wdS_r, wdS_n, wdS_s, x2.1.2.2.2.1, x2.1.2.2.2.2.2.2.1, x2.2.2.1, w201 l1 s200, gtW bs2 q.1]
      rw [w32_nat bW, show w32 40 = 40 from rfl, if_neg c40]
      simp only [AW_k, AWk_1, x_aload_0, x_aloads_0, x_callv_1, x_lstore_3, unl_i, unl_l, unl_q, unl_r, unl_s, unl_n, k_X8_oneOf_62, k_X8_oneOf_63, k_X8_oneOf_64, oE_some, Int.reduceToNat, Nat.reduceAdd, true_and, and_true, List.length_cons, List.length_nil, Option.toList_some, Option.toList_none, List.cons_append, List.nil_append, Nat.reduceLeDiff, Nat.le_refl, wdS_nil, wdS_i, wdS_l, wdS_r, wdS_n, wdS_s, gC_of x2.1.1, p2]
      exact AW_k.symm.trans t
