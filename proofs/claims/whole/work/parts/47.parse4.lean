/-! ===== the class's reader: all, any, read ===== -/
set_option maxHeartbeats 32000000 in
theorem c8_allOf (d : Nat) {a ra n L o : Nat} {W B : Nat → Nat} {V : Nat → Int} {tb ws bg wo : List Int} {low : PSt → BitVec 64 × PSt} (hsub : PC a ra n L W B V tb ws bg wo (d + 3) 87 [mR a, mI (o : Int)] (oneP n W B V low o)) : PC a ra n L W B V tb ws bg wo (d + 4) 86 [mR a, mI (o : Int)] (allP n W B V low o) := by
  intro h s hX
  have key : ∀ (f i : Nat) (x : BitVec 64) (h : HP) (s : PSt), i + f = 200 → PX a ra n L W B V tb ws bg wo h s → ∃ h', PX a ra n L W B V tb ws bg wo h' (lopP W B 7 (fun x y => x &&& y) (oneP n W B V low o) f x s).2 ∧ Fr a (a + 5) h h' ∧ ∀ R : PO, (AWh (d + 3) [] 86 R 6 [some (mR a), some (mI (o : Int)), some (mL x), none, some (mI (i : Int))] [] h (0, 0) ↔ R (some (mL (lopP W B 7 (fun x y => x &&& y) (oneP n W B V low o) f x s).1)) h') := by
    intro f
    induction f with
    | zero =>
      intro i x h s hi hX
      refine ⟨h, hX, Fr_refl h, fun R => ?_⟩
      have e : i = 200 := by omega
      subst e
      rw [AWh_k, k_X8_allOf_6]
      simp only [AW_k, AWk_1, x_aload_0, x_aloads_0, x_iload_1, x_callv_2, x_lstore_2, x_push_i, x_push_l, x_istore_4, x_iload_4, x_icmp_ge, x_getf, x_if_ge, x_iald, x_ialds, x_icmp_ne, x_lload_2, x_land, x_iinc_4, x_goto, x_ret, x_ret_i, x_ret_z, x_ret_l, x_ret_c, unl_i, unl_l, unl_q, unl_r, unl_s, unl_n, k_X8_allOf_0, k_X8_allOf_1, k_X8_allOf_2, k_X8_allOf_3, k_X8_allOf_4, k_X8_allOf_5, k_X8_allOf_6, k_X8_allOf_7, k_X8_allOf_8, k_X8_allOf_9, k_X8_allOf_10, k_X8_allOf_11, k_X8_allOf_12, k_X8_allOf_13, k_X8_allOf_14, k_X8_allOf_15, k_X8_allOf_16, k_X8_allOf_17, k_X8_allOf_18, k_X8_allOf_19, k_X8_allOf_20, k_X8_allOf_21, k_X8_allOf_22, k_X8_allOf_23, k_X8_allOf_24, k_X8_allOf_25, k_X8_allOf_26, k_X8_allOf_27, k_X8_allOf_28, k_X8_allOf_29, k_X8_allOf_30, k_X8_allOf_31, oE_some, Int.reduceToNat, Nat.reduceAdd, true_and, and_true, List.length_cons, List.length_nil, Option.toList_some, Option.toList_none, List.cons_append, List.nil_append, Nat.reduceLeDiff, Nat.le_refl, wdS_nil, wdS_i, wdS_l, wdS_r, wdS_n, wdS_s]
      rw [if_neg (by decide)]
      exact Iff.rfl
    | succ f ih =>
      intro i x h s hi hX
      have hX0 := hX
      obtain ⟨x1, x2, x3, x4, x5⟩ := hX
      obtain ⟨⟨l1, l2, l3⟩, L2, hw, hb, h0⟩ := x3
      have hs := x4.1
      have f1 := x4.2.1
      have f2 := x4.2.2
      have q := hw s.2 hs
      have hWb := (hb s.2 hs).1
      have s200 : s.2 ≤ 200 := by omega
      have bs2 : s.2 < 2147483648 := by omega
      have bW : W s.2 < 2147483648 := by omega
      have r1 : -2147483648 ≤ s.1 := by omega
      have r2 : s.1 < 2147483648 := by omega
      have bi : i < 2147483648 := by omega
      have ci : (i : Int) < 200 := by omega
      rw [lopP_succ]
      by_cases c : s.1 < 0 ∧ W s.2 = 7
      · rw [if_pos c]
        have c9 : (W s.2 : Int) = 7 := by have := c.2; omega
        obtain ⟨h1, y1, g1, p1⟩ := c8_pass (d + 2) (c := true) hX0
        rw [zI_t] at p1
        have k1 := gC_of y1.2.1.1.1
        obtain ⟨h2, y2, g2, p2⟩ := hsub h1 _ y1
        obtain ⟨h', u1, u2, u3⟩ := ih (i + 1) ((fun x y => x &&& y) x ((oneP n W B V low o) (psP W B true s)).1) h2 _ (by omega) y2
        refine ⟨h', u1, Fr_trans (Fr_trans g1 g2) u2, fun R => ?_⟩
        rw [AWh_k, k_X8_allOf_6]
        simp only [AW_k, AWk_1, x_aload_0, x_aloads_0, x_iload_1, x_callv_2, x_lstore_2, x_push_i, x_push_l, x_istore_4, x_iload_4, x_icmp_ge, x_getf, x_if_ge, x_iald, x_ialds, x_icmp_ne, x_lload_2, x_land, x_iinc_4, x_goto, x_ret, x_ret_i, x_ret_z, x_ret_l, x_ret_c, unl_i, unl_l, unl_q, unl_r, unl_s, unl_n, k_X8_allOf_0, k_X8_allOf_1, k_X8_allOf_2, k_X8_allOf_3, k_X8_allOf_4, k_X8_allOf_5, k_X8_allOf_6, k_X8_allOf_7, k_X8_allOf_8, k_X8_allOf_9, k_X8_allOf_10, k_X8_allOf_11, k_X8_allOf_12, k_X8_allOf_13, k_X8_allOf_14, k_X8_allOf_15, k_X8_allOf_16, k_X8_allOf_17, k_X8_allOf_18, k_X8_allOf_19, k_X8_allOf_20, k_X8_allOf_21, k_X8_allOf_22, k_X8_allOf_23, k_X8_allOf_24, k_X8_allOf_25, k_X8_allOf_26, k_X8_allOf_27, k_X8_allOf_28, k_X8_allOf_29, k_X8_allOf_30, k_X8_allOf_31, oE_some, Int.reduceToNat, Nat.reduceAdd, true_and, and_true, List.length_cons, List.length_nil, Option.toList_some, Option.toList_none, List.cons_append, List.nil_append, Nat.reduceLeDiff, Nat.le_refl, wdS_nil, wdS_i, wdS_l, wdS_r, wdS_n, wdS_s, x2.1.2.1, x2.1.2.2.2.1, x2.1.2.2.2.2.2.2.1, x2.2.2.1, w201 l1 s200, gtW bs2 q.1, gC_of x2.1.1, p1, k1, p2]
        rw [w32_nat bi, show w32 200 = 200 from rfl, if_pos ci, w32_id r1 r2, if_pos c.1, w32_nat bW, show w32 7 = 7 from rfl, if_pos c9]
        exact u3 R
      · rw [if_neg c]
        refine ⟨h, hX0, Fr_refl h, fun R => ?_⟩
        by_cases c1 : s.1 < 0
        · have c9 : ¬ (W s.2 : Int) = 7 := fun e => c ⟨c1, by omega⟩
          rw [AWh_k, k_X8_allOf_6]
          simp only [AW_k, AWk_1, x_aload_0, x_aloads_0, x_iload_1, x_callv_2, x_lstore_2, x_push_i, x_push_l, x_istore_4, x_iload_4, x_icmp_ge, x_getf, x_if_ge, x_iald, x_ialds, x_icmp_ne, x_lload_2, x_land, x_iinc_4, x_goto, x_ret, x_ret_i, x_ret_z, x_ret_l, x_ret_c, unl_i, unl_l, unl_q, unl_r, unl_s, unl_n, k_X8_allOf_0, k_X8_allOf_1, k_X8_allOf_2, k_X8_allOf_3, k_X8_allOf_4, k_X8_allOf_5, k_X8_allOf_6, k_X8_allOf_7, k_X8_allOf_8, k_X8_allOf_9, k_X8_allOf_10, k_X8_allOf_11, k_X8_allOf_12, k_X8_allOf_13, k_X8_allOf_14, k_X8_allOf_15, k_X8_allOf_16, k_X8_allOf_17, k_X8_allOf_18, k_X8_allOf_19, k_X8_allOf_20, k_X8_allOf_21, k_X8_allOf_22, k_X8_allOf_23, k_X8_allOf_24, k_X8_allOf_25, k_X8_allOf_26, k_X8_allOf_27, k_X8_allOf_28, k_X8_allOf_29, k_X8_allOf_30, k_X8_allOf_31, oE_some, Int.reduceToNat, Nat.reduceAdd, true_and, and_true, List.length_cons, List.length_nil, Option.toList_some, Option.toList_none, List.cons_append, List.nil_append, Nat.reduceLeDiff, Nat.le_refl, wdS_nil, wdS_i, wdS_l, wdS_r, wdS_n, wdS_s, x2.1.2.1, x2.1.2.2.2.1, x2.1.2.2.2.2.2.2.1, x2.2.2.1, w201 l1 s200, gtW bs2 q.1]
          rw [w32_nat bi, show w32 200 = 200 from rfl, if_pos ci, w32_id r1 r2, if_pos c1, w32_nat bW, show w32 7 = 7 from rfl, if_neg c9]
        · rw [AWh_k, k_X8_allOf_6]
          simp only [AW_k, AWk_1, x_aload_0, x_aloads_0, x_iload_1, x_callv_2, x_lstore_2, x_push_i, x_push_l, x_istore_4, x_iload_4, x_icmp_ge, x_getf, x_if_ge, x_iald, x_ialds, x_icmp_ne, x_lload_2, x_land, x_iinc_4, x_goto, x_ret, x_ret_i, x_ret_z, x_ret_l, x_ret_c, unl_i, unl_l, unl_q, unl_r, unl_s, unl_n, k_X8_allOf_0, k_X8_allOf_1, k_X8_allOf_2, k_X8_allOf_3, k_X8_allOf_4, k_X8_allOf_5, k_X8_allOf_6, k_X8_allOf_7, k_X8_allOf_8, k_X8_allOf_9, k_X8_allOf_10, k_X8_allOf_11, k_X8_allOf_12, k_X8_allOf_13, k_X8_allOf_14, k_X8_allOf_15, k_X8_allOf_16, k_X8_allOf_17, k_X8_allOf_18, k_X8_allOf_19, k_X8_allOf_20, k_X8_allOf_21, k_X8_allOf_22, k_X8_allOf_23, k_X8_allOf_24, k_X8_allOf_25, k_X8_allOf_26, k_X8_allOf_27, k_X8_allOf_28, k_X8_allOf_29, k_X8_allOf_30, k_X8_allOf_31, oE_some, Int.reduceToNat, Nat.reduceAdd, true_and, and_true, List.length_cons, List.length_nil, Option.toList_some, Option.toList_none, List.cons_append, List.nil_append, Nat.reduceLeDiff, Nat.le_refl, wdS_nil, wdS_i, wdS_l, wdS_r, wdS_n, wdS_s, x2.1.2.1]
          rw [w32_nat bi, show w32 200 = 200 from rfl, if_pos ci, w32_id r1 r2, if_neg c1]
  obtain ⟨h1, y1, g1, p1⟩ := hsub h s hX
  obtain ⟨h', u1, u2, u3⟩ := key 200 0 ((oneP n W B V low o) s).1 h1 _ rfl y1
  refine ⟨h', u1, Fr_trans g1 u2, fun R => ?_⟩
  have k0 := gC_of hX.2.1.1.1
  rw [callD_k]; simp only [entL_i, entL_l, entL_q, entL_s, entL_nil, n_X8_allOf, u_X8_allOf, m_X8_allOf, rep_3, List.cons_append, List.nil_append, List.append_nil, List.length_cons, List.length_nil, Nat.reduceAdd, true_and]
  simp only [AW_k, AWk_1, x_aload_0, x_aloads_0, x_iload_1, x_callv_2, x_lstore_2, x_push_i, x_push_l, x_istore_4, x_iload_4, x_icmp_ge, x_getf, x_if_ge, x_iald, x_ialds, x_icmp_ne, x_lload_2, x_land, x_iinc_4, x_goto, x_ret, x_ret_i, x_ret_z, x_ret_l, x_ret_c, unl_i, unl_l, unl_q, unl_r, unl_s, unl_n, k_X8_allOf_0, k_X8_allOf_1, k_X8_allOf_2, k_X8_allOf_3, k_X8_allOf_4, k_X8_allOf_5, k_X8_allOf_6, k_X8_allOf_7, k_X8_allOf_8, k_X8_allOf_9, k_X8_allOf_10, k_X8_allOf_11, k_X8_allOf_12, k_X8_allOf_13, k_X8_allOf_14, k_X8_allOf_15, k_X8_allOf_16, k_X8_allOf_17, k_X8_allOf_18, k_X8_allOf_19, k_X8_allOf_20, k_X8_allOf_21, k_X8_allOf_22, k_X8_allOf_23, k_X8_allOf_24, k_X8_allOf_25, k_X8_allOf_26, k_X8_allOf_27, k_X8_allOf_28, k_X8_allOf_29, k_X8_allOf_30, k_X8_allOf_31, oE_some, Int.reduceToNat, Nat.reduceAdd, true_and, and_true, List.length_cons, List.length_nil, Option.toList_some, Option.toList_none, List.cons_append, List.nil_append, Nat.reduceLeDiff, Nat.le_refl, wdS_nil, wdS_i, wdS_l, wdS_r, wdS_n, wdS_s, k0, p1]
  exact u3 R
set_option maxHeartbeats 32000000 in
theorem c8_anyOf (d : Nat) {a ra n L o : Nat} {W B : Nat → Nat} {V : Nat → Int} {tb ws bg wo : List Int} {low : PSt → BitVec 64 × PSt} (hsub : PC a ra n L W B V tb ws bg wo (d + 4) 86 [mR a, mI (o : Int)] (allP n W B V low o)) : PC a ra n L W B V tb ws bg wo (d + 5) 85 [mR a, mI (o : Int)] (anyP n W B V low o) := by
  intro h s hX
  have key : ∀ (f i : Nat) (x : BitVec 64) (h : HP) (s : PSt), i + f = 200 → PX a ra n L W B V tb ws bg wo h s → ∃ h', PX a ra n L W B V tb ws bg wo h' (lopP W B 8 (fun x y => x ||| y) (allP n W B V low o) f x s).2 ∧ Fr a (a + 5) h h' ∧ ∀ R : PO, (AWh (d + 4) [] 85 R 6 [some (mR a), some (mI (o : Int)), some (mL x), none, some (mI (i : Int))] [] h (0, 0) ↔ R (some (mL (lopP W B 8 (fun x y => x ||| y) (allP n W B V low o) f x s).1)) h') := by
    intro f
    induction f with
    | zero =>
      intro i x h s hi hX
      refine ⟨h, hX, Fr_refl h, fun R => ?_⟩
      have e : i = 200 := by omega
      subst e
      rw [AWh_k, k_X8_anyOf_6]
      simp only [AW_k, AWk_1, x_aload_0, x_aloads_0, x_iload_1, x_callv_2, x_lstore_2, x_push_i, x_push_l, x_istore_4, x_iload_4, x_icmp_ge, x_getf, x_if_ge, x_iald, x_ialds, x_icmp_ne, x_lload_2, x_lor, x_iinc_4, x_goto, x_ret, x_ret_i, x_ret_z, x_ret_l, x_ret_c, unl_i, unl_l, unl_q, unl_r, unl_s, unl_n, k_X8_anyOf_0, k_X8_anyOf_1, k_X8_anyOf_2, k_X8_anyOf_3, k_X8_anyOf_4, k_X8_anyOf_5, k_X8_anyOf_6, k_X8_anyOf_7, k_X8_anyOf_8, k_X8_anyOf_9, k_X8_anyOf_10, k_X8_anyOf_11, k_X8_anyOf_12, k_X8_anyOf_13, k_X8_anyOf_14, k_X8_anyOf_15, k_X8_anyOf_16, k_X8_anyOf_17, k_X8_anyOf_18, k_X8_anyOf_19, k_X8_anyOf_20, k_X8_anyOf_21, k_X8_anyOf_22, k_X8_anyOf_23, k_X8_anyOf_24, k_X8_anyOf_25, k_X8_anyOf_26, k_X8_anyOf_27, k_X8_anyOf_28, k_X8_anyOf_29, k_X8_anyOf_30, k_X8_anyOf_31, oE_some, Int.reduceToNat, Nat.reduceAdd, true_and, and_true, List.length_cons, List.length_nil, Option.toList_some, Option.toList_none, List.cons_append, List.nil_append, Nat.reduceLeDiff, Nat.le_refl, wdS_nil, wdS_i, wdS_l, wdS_r, wdS_n, wdS_s]
      rw [if_neg (by decide)]
      exact Iff.rfl
    | succ f ih =>
      intro i x h s hi hX
      have hX0 := hX
      obtain ⟨x1, x2, x3, x4, x5⟩ := hX
      obtain ⟨⟨l1, l2, l3⟩, L2, hw, hb, h0⟩ := x3
      have hs := x4.1
      have f1 := x4.2.1
      have f2 := x4.2.2
      have q := hw s.2 hs
      have hWb := (hb s.2 hs).1
      have s200 : s.2 ≤ 200 := by omega
      have bs2 : s.2 < 2147483648 := by omega
      have bW : W s.2 < 2147483648 := by omega
      have r1 : -2147483648 ≤ s.1 := by omega
      have r2 : s.1 < 2147483648 := by omega
      have bi : i < 2147483648 := by omega
      have ci : (i : Int) < 200 := by omega
      rw [lopP_succ]
      by_cases c : s.1 < 0 ∧ W s.2 = 8
      · rw [if_pos c]
        have c9 : (W s.2 : Int) = 8 := by have := c.2; omega
        obtain ⟨h1, y1, g1, p1⟩ := c8_pass (d + 3) (c := true) hX0
        rw [zI_t] at p1
        have k1 := gC_of y1.2.1.1.1
        obtain ⟨h2, y2, g2, p2⟩ := hsub h1 _ y1
        obtain ⟨h', u1, u2, u3⟩ := ih (i + 1) ((fun x y => x ||| y) x ((allP n W B V low o) (psP W B true s)).1) h2 _ (by omega) y2
        refine ⟨h', u1, Fr_trans (Fr_trans g1 g2) u2, fun R => ?_⟩
        rw [AWh_k, k_X8_anyOf_6]
        simp only [AW_k, AWk_1, x_aload_0, x_aloads_0, x_iload_1, x_callv_2, x_lstore_2, x_push_i, x_push_l, x_istore_4, x_iload_4, x_icmp_ge, x_getf, x_if_ge, x_iald, x_ialds, x_icmp_ne, x_lload_2, x_lor, x_iinc_4, x_goto, x_ret, x_ret_i, x_ret_z, x_ret_l, x_ret_c, unl_i, unl_l, unl_q, unl_r, unl_s, unl_n, k_X8_anyOf_0, k_X8_anyOf_1, k_X8_anyOf_2, k_X8_anyOf_3, k_X8_anyOf_4, k_X8_anyOf_5, k_X8_anyOf_6, k_X8_anyOf_7, k_X8_anyOf_8, k_X8_anyOf_9, k_X8_anyOf_10, k_X8_anyOf_11, k_X8_anyOf_12, k_X8_anyOf_13, k_X8_anyOf_14, k_X8_anyOf_15, k_X8_anyOf_16, k_X8_anyOf_17, k_X8_anyOf_18, k_X8_anyOf_19, k_X8_anyOf_20, k_X8_anyOf_21, k_X8_anyOf_22, k_X8_anyOf_23, k_X8_anyOf_24, k_X8_anyOf_25, k_X8_anyOf_26, k_X8_anyOf_27, k_X8_anyOf_28, k_X8_anyOf_29, k_X8_anyOf_30, k_X8_anyOf_31, oE_some, Int.reduceToNat, Nat.reduceAdd, true_and, and_true, List.length_cons, List.length_nil, Option.toList_some, Option.toList_none, List.cons_append, List.nil_append, Nat.reduceLeDiff, Nat.le_refl, wdS_nil, wdS_i, wdS_l, wdS_r, wdS_n, wdS_s, x2.1.2.1, x2.1.2.2.2.1, x2.1.2.2.2.2.2.2.1, x2.2.2.1, w201 l1 s200, gtW bs2 q.1, gC_of x2.1.1, p1, k1, p2]
        rw [w32_nat bi, show w32 200 = 200 from rfl, if_pos ci, w32_id r1 r2, if_pos c.1, w32_nat bW, show w32 8 = 8 from rfl, if_pos c9]
        exact u3 R
      · rw [if_neg c]
        refine ⟨h, hX0, Fr_refl h, fun R => ?_⟩
        by_cases c1 : s.1 < 0
        · have c9 : ¬ (W s.2 : Int) = 8 := fun e => c ⟨c1, by omega⟩
          rw [AWh_k, k_X8_anyOf_6]
          simp only [AW_k, AWk_1, x_aload_0, x_aloads_0, x_iload_1, x_callv_2, x_lstore_2, x_push_i, x_push_l, x_istore_4, x_iload_4, x_icmp_ge, x_getf, x_if_ge, x_iald, x_ialds, x_icmp_ne, x_lload_2, x_lor, x_iinc_4, x_goto, x_ret, x_ret_i, x_ret_z, x_ret_l, x_ret_c, unl_i, unl_l, unl_q, unl_r, unl_s, unl_n, k_X8_anyOf_0, k_X8_anyOf_1, k_X8_anyOf_2, k_X8_anyOf_3, k_X8_anyOf_4, k_X8_anyOf_5, k_X8_anyOf_6, k_X8_anyOf_7, k_X8_anyOf_8, k_X8_anyOf_9, k_X8_anyOf_10, k_X8_anyOf_11, k_X8_anyOf_12, k_X8_anyOf_13, k_X8_anyOf_14, k_X8_anyOf_15, k_X8_anyOf_16, k_X8_anyOf_17, k_X8_anyOf_18, k_X8_anyOf_19, k_X8_anyOf_20, k_X8_anyOf_21, k_X8_anyOf_22, k_X8_anyOf_23, k_X8_anyOf_24, k_X8_anyOf_25, k_X8_anyOf_26, k_X8_anyOf_27, k_X8_anyOf_28, k_X8_anyOf_29, k_X8_anyOf_30, k_X8_anyOf_31, oE_some, Int.reduceToNat, Nat.reduceAdd, true_and, and_true, List.length_cons, List.length_nil, Option.toList_some, Option.toList_none, List.cons_append, List.nil_append, Nat.reduceLeDiff, Nat.le_refl, wdS_nil, wdS_i, wdS_l, wdS_r, wdS_n, wdS_s, x2.1.2.1, x2.1.2.2.2.1, x2.1.2.2.2.2.2.2.1, x2.2.2.1, w201 l1 s200, gtW bs2 q.1]
          rw [w32_nat bi, show w32 200 = 200 from rfl, if_pos ci, w32_id r1 r2, if_pos c1, w32_nat bW, show w32 8 = 8 from rfl, if_neg c9]
        · rw [AWh_k, k_X8_anyOf_6]
          simp only [AW_k, AWk_1, x_aload_0, x_aloads_0, x_iload_1, x_callv_2, x_lstore_2, x_push_i, x_push_l, x_istore_4, x_iload_4, x_icmp_ge, x_getf, x_if_ge, x_iald, x_ialds, x_icmp_ne, x_lload_2, x_lor, x_iinc_4, x_goto, x_ret, x_ret_i, x_ret_z, x_ret_l, x_ret_c, unl_i, unl_l, unl_q, unl_r, unl_s, unl_n, k_X8_anyOf_0, k_X8_anyOf_1, k_X8_anyOf_2, k_X8_anyOf_3, k_X8_anyOf_4, k_X8_anyOf_5, k_X8_anyOf_6, k_X8_anyOf_7, k_X8_anyOf_8, k_X8_anyOf_9, k_X8_anyOf_10, k_X8_anyOf_11, k_X8_anyOf_12, k_X8_anyOf_13, k_X8_anyOf_14, k_X8_anyOf_15, k_X8_anyOf_16, k_X8_anyOf_17, k_X8_anyOf_18, k_X8_anyOf_19, k_X8_anyOf_20, k_X8_anyOf_21, k_X8_anyOf_22, k_X8_anyOf_23, k_X8_anyOf_24, k_X8_anyOf_25, k_X8_anyOf_26, k_X8_anyOf_27, k_X8_anyOf_28, k_X8_anyOf_29, k_X8_anyOf_30, k_X8_anyOf_31, oE_some, Int.reduceToNat, Nat.reduceAdd, true_and, and_true, List.length_cons, List.length_nil, Option.toList_some, Option.toList_none, List.cons_append, List.nil_append, Nat.reduceLeDiff, Nat.le_refl, wdS_nil, wdS_i, wdS_l, wdS_r, wdS_n, wdS_s, x2.1.2.1]
          rw [w32_nat bi, show w32 200 = 200 from rfl, if_pos ci, w32_id r1 r2, if_neg c1]
  obtain ⟨h1, y1, g1, p1⟩ := hsub h s hX
  obtain ⟨h', u1, u2, u3⟩ := key 200 0 ((allP n W B V low o) s).1 h1 _ rfl y1
  refine ⟨h', u1, Fr_trans g1 u2, fun R => ?_⟩
  have k0 := gC_of hX.2.1.1.1
  rw [callD_k]; simp only [entL_i, entL_l, entL_q, entL_s, entL_nil, n_X8_anyOf, u_X8_anyOf, m_X8_anyOf, rep_3, List.cons_append, List.nil_append, List.append_nil, List.length_cons, List.length_nil, Nat.reduceAdd, true_and]
  simp only [AW_k, AWk_1, x_aload_0, x_aloads_0, x_iload_1, x_callv_2, x_lstore_2, x_push_i, x_push_l, x_istore_4, x_iload_4, x_icmp_ge, x_getf, x_if_ge, x_iald, x_ialds, x_icmp_ne, x_lload_2, x_lor, x_iinc_4, x_goto, x_ret, x_ret_i, x_ret_z, x_ret_l, x_ret_c, unl_i, unl_l, unl_q, unl_r, unl_s, unl_n, k_X8_anyOf_0, k_X8_anyOf_1, k_X8_anyOf_2, k_X8_anyOf_3, k_X8_anyOf_4, k_X8_anyOf_5, k_X8_anyOf_6, k_X8_anyOf_7, k_X8_anyOf_8, k_X8_anyOf_9, k_X8_anyOf_10, k_X8_anyOf_11, k_X8_anyOf_12, k_X8_anyOf_13, k_X8_anyOf_14, k_X8_anyOf_15, k_X8_anyOf_16, k_X8_anyOf_17, k_X8_anyOf_18, k_X8_anyOf_19, k_X8_anyOf_20, k_X8_anyOf_21, k_X8_anyOf_22, k_X8_anyOf_23, k_X8_anyOf_24, k_X8_anyOf_25, k_X8_anyOf_26, k_X8_anyOf_27, k_X8_anyOf_28, k_X8_anyOf_29, k_X8_anyOf_30, k_X8_anyOf_31, oE_some, Int.reduceToNat, Nat.reduceAdd, true_and, and_true, List.length_cons, List.length_nil, Option.toList_some, Option.toList_none, List.cons_append, List.nil_append, Nat.reduceLeDiff, Nat.le_refl, wdS_nil, wdS_i, wdS_l, wdS_r, wdS_n, wdS_s, k0, p1]
  exact u3 R
theorem c8_anyL {a ra n L : Nat} {W B : Nat → Nat} {V : Nat → Int} {tb ws bg wo : List Int} : ∀ (k d : Nat), k ≤ 3 → PC a ra n L W B V tb ws bg wo (d + 3 * k + 5) 85 [mR a, mI ((3 - k : Nat) : Int)] (anyL n W B V k) := by
  intro k
  induction k with
  | zero =>
    intro d _
    exact c8_anyOf d (o := 3) (c8_allOf d (c8_oneOf d (o := 3) (Nat.le_refl _) (fun q => absurd q (Nat.lt_irrefl _))))
  | succ k ih =>
    intro d hk
    have i1 := ih d (by omega)
    have e : 3 - (k + 1) + 1 = 3 - k := by omega
    have e2 : d + 3 * (k + 1) + 5 = (d + 3 * k + 3) + 5 := by omega
    rw [e2]
    refine c8_anyOf (d + 3 * k + 3) (o := 3 - (k + 1)) (c8_allOf (d + 3 * k + 3) (c8_oneOf (d + 3 * k + 3) (o := 3 - (k + 1)) (by omega) (fun _ => ?_)))
    rw [e]
    exact i1
/-- the whole text: what holds, the fault -/
def rdP (n : Nat) (W B : Nat → Nat) (V : Nat → Int) : BitVec 64 × Int := ((anyL n W B V 3 (-1, 0)).1, (psP W B (decide (W (anyL n W B V 3 (-1, 0)).2.2 = 0)) (anyL n W B V 3 (-1, 0)).2).1)
