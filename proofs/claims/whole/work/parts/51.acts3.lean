/-! ===== acts: a body runs ===== -/
theorem ATS_eta {hp : HP} {a : Nat} {s : ASt} {k m nu : Int} (h : ATS hp a s k m nu) : ATS hp a (s.1, s.2.1, s.2.2) k m nu := h
set_option maxHeartbeats 16000000 in
theorem c0_pre {a k bo e : Nat} {m nu x : Int} {s : ASt} {h : HP} (hb : bo < 100) (he : ¬ (s.2.2 = true ∨ 20 < e)) (hA : ATS h a s (k : Int) m nu) : ∃ h1, ATS h1 a (beg bo s) (k : Int) m nu ∧ Fr a (a + 2) h h1 ∧ ∀ (D : Nat) (R : PO), (AW D [] 6 R 0 [some (mR a), some (mI (bo : Int)), some (mI x), some (mI (e : Int))] [] h (0, 0) ↔ AW D [] 6 R 24 [some (mR a), some (mI (bo : Int)), some (mI x), some (mI (e : Int))] [] h1 (0, 0)) := by
  obtain ⟨tr, bd, pt⟩ := s
  have hp0 : pt = false := by
    cases pt
    · rfl
    · exact absurd (Or.inl rfl) he
  subst hp0
  have be : e < 2147483648 := Nat.lt_of_le_of_lt (Nat.le_of_not_lt (fun q => he (Or.inr q))) (by decide)
  have ce : ¬ (20 : Int) < (e : Int) := fun q => he (Or.inr (by omega))
  have h30 := hA.2.2.2
  have hl := hA.2.2.1
  dsimp only at h30 hl
  have bt : tr < 2147483648 := by omega
  have et : (tr : Int) + 1 = ((tr + 1 : Nat) : Int) := by omega
  unfold beg
  dsimp only
  by_cases c : tr < 30
  · have ct : (tr : Int) < 30 := by omega
    have j1 : tr < bd.length := by omega
    have L1 : bd.length < 2147483648 := by omega
    have t1 := ATS_1 (l := bd.set tr (bo : Int)) hA (by rw [List.length_set]; exact hl)
    have t2 := ATS_0 (t := tr + 1) t1 (by omega)
    have k1 := gC_of t2.1.1
    rw [if_pos c]
    refine ⟨_, t2, Fr_trans (Fr_pA (by omega) (by omega)) (Fr_pF (by omega) (by omega)), fun D R => ?_⟩
    have a1 : gF h a 0 0 = some (mI (tr : Int)) := hA.1.1
    have a2 : gF h a 0 1 = some (mR (a + 1)) := hA.1.2.1
    have a6 : gF h a 0 5 = some (mI (zI false)) := hA.1.2.2.2.2.2
    have b1 : gA h (a + 1) = some bd := hA.2.1
    have c1 : gF (pA h (a + 1) (bd.set tr (bo : Int))) a 0 0 = some (mI (tr : Int)) := t1.1.1
    simp only [AW_k, AWk_1, x_aload_0, x_aloads_0, x_getf, x_if_ne, x_iload_3, x_push_i, x_push_l, x_icmp_le, x_ret, x_ret_i, x_ret_z, x_ret_l, x_ret_c, x_icmp_ge, x_iload_1, x_iast, x_dup_i, x_dup_r, x_dup_q, x_iadd, x_putf_i, k_X0_run_0, k_X0_run_1, k_X0_run_2, k_X0_run_3, k_X0_run_4, k_X0_run_5, k_X0_run_6, k_X0_run_7, k_X0_run_8, k_X0_run_9, k_X0_run_10, k_X0_run_11, k_X0_run_12, k_X0_run_13, k_X0_run_14, k_X0_run_15, k_X0_run_16, k_X0_run_17, k_X0_run_18, k_X0_run_19, k_X0_run_20, k_X0_run_21, k_X0_run_22, k_X0_run_23, oE_some, Int.reduceToNat, Nat.reduceAdd, true_and, and_true, List.length_cons, List.length_nil, Option.toList_some, Option.toList_none, List.cons_append, List.nil_append, Nat.reduceLeDiff, Nat.le_refl, wdS_nil, wdS_i, wdS_l, wdS_r, wdS_n, wdS_s, a1, a2, a6, b1, c1, w32_zI_0, if_true, inB_n j1 L1, w32_tn bt, et]
    rw [w32_nat be, show w32 20 = 20 from rfl, if_neg ce, w32_nat bt, show w32 30 = 30 from rfl, if_pos ct]
  · have ct : ¬ (tr : Int) < 30 := by omega
    rw [if_neg c]
    refine ⟨h, hA, Fr_refl h, fun D R => ?_⟩
    have a1 : gF h a 0 0 = some (mI (tr : Int)) := hA.1.1
    have a6 : gF h a 0 5 = some (mI (zI false)) := hA.1.2.2.2.2.2
    simp only [AW_k, AWk_1, x_aload_0, x_aloads_0, x_getf, x_if_ne, x_iload_3, x_push_i, x_push_l, x_icmp_le, x_ret, x_ret_i, x_ret_z, x_ret_l, x_ret_c, x_icmp_ge, k_X0_run_0, k_X0_run_1, k_X0_run_2, k_X0_run_3, k_X0_run_4, k_X0_run_5, k_X0_run_6, k_X0_run_7, k_X0_run_8, k_X0_run_9, k_X0_run_10, k_X0_run_11, oE_some, Int.reduceToNat, Nat.reduceAdd, true_and, and_true, List.length_cons, List.length_nil, Option.toList_some, Option.toList_none, List.cons_append, List.nil_append, Nat.reduceLeDiff, Nat.le_refl, wdS_nil, wdS_i, wdS_l, wdS_r, wdS_n, wdS_s, a1, a6, w32_zI_0, if_true]
    rw [w32_nat be, show w32 20 = 20 from rfl, if_neg ce, w32_nat bt, show w32 30 = 30 from rfl, if_neg ct]
set_option maxHeartbeats 16000000 in
theorem c0_b10 (d : Nat) {a k f e : Nat} {m nu x : Int} {s : ASt} {h : HP} (hk : k < 6) (he : e + 1 + f = 22) (hs : ¬ (s.2.2 = true ∨ 20 < e)) (hR : RNC (d + 2) a k m nu f) (hA : ATS h a s (k : Int) m nu) : ∃ h', ATS h' a (rnA k m nu (f + 1) 10 x e s).2 (k : Int) m nu ∧ Fr a (a + 2) h h' ∧ ∀ R : PO, callD (d + 2 * f + 4) 6 [mR a, mI ((10 : Nat) : Int), mI x, mI (e : Int)] h R ↔ R (some (mI (rnA k m nu (f + 1) 10 x e s).1)) h' := by
  rw [rnA_10 hs]
  obtain ⟨h1, y1, g1, p1⟩ := c0_pre (x := x) (show 10 < 100 by decide) hs hA
  refine ⟨h1, y1, g1, fun R => ?_⟩
  rw [callD_k]; simp only [entL_i, entL_l, entL_q, entL_s, entL_nil, n_X0_run, u_X0_run, m_X0_run, rep_0, List.cons_append, List.nil_append, List.append_nil, List.length_cons, List.length_nil, Nat.reduceAdd, true_and]
  refine (p1 _ R).trans ?_
  simp only [AW_k, AWk_1, x_iload_1, x_switch, AW_sw, AW_sw0, x_iload_2, x_push_i, x_push_l, x_imul, x_aload_0, x_aloads_0, x_getf, x_iadd, x_ret, x_ret_i, x_ret_z, x_ret_l, x_ret_c, k_X0_run_24, k_X0_run_25, k_X0_run_26, k_X0_run_27, k_X0_run_28, k_X0_run_29, k_X0_run_30, k_X0_run_31, k_X0_run_32, oE_some, Int.reduceToNat, Nat.reduceAdd, true_and, and_true, List.length_cons, List.length_nil, Option.toList_some, Option.toList_none, List.cons_append, List.nil_append, Nat.reduceLeDiff, Nat.le_refl, wdS_nil, wdS_i, wdS_l, wdS_r, wdS_n, wdS_s, show w32 ((10 : Nat) : Int) = 10 from rfl, swT_cons, swT_nil, if_true, if_false, Int.reduceEq, y1.1.2.2.2.2.1]
set_option maxHeartbeats 16000000 in
theorem c0_b11 (d : Nat) {a k f e : Nat} {m nu x : Int} {s : ASt} {h : HP} (hk : k < 6) (he : e + 1 + f = 22) (hs : ¬ (s.2.2 = true ∨ 20 < e)) (hR : RNC (d + 2) a k m nu f) (hA : ATS h a s (k : Int) m nu) : ∃ h', ATS h' a (rnA k m nu (f + 1) 11 x e s).2 (k : Int) m nu ∧ Fr a (a + 2) h h' ∧ ∀ R : PO, callD (d + 2 * f + 4) 6 [mR a, mI ((11 : Nat) : Int), mI x, mI (e : Int)] h R ↔ R (some (mI (rnA k m nu (f + 1) 11 x e s).1)) h' := by
  rw [rnA_11 hs]
  obtain ⟨h1, y1, g1, p1⟩ := c0_pre (x := x) (show 11 < 100 by decide) hs hA
  obtain ⟨h2, y2, g2, p2⟩ := c0_own d (c := 0) (x := x) hk (by decide) he hR y1
  have q2 : ∀ R : PO, callD (d + 2 * f + 3) 4 [mR a, mI 0, mI x, mI (e : Int)] h1 R ↔ _ := p2
  refine ⟨h2, y2, Fr_trans (g1) g2, fun R => ?_⟩
  rw [callD_k]; simp only [entL_i, entL_l, entL_q, entL_s, entL_nil, n_X0_run, u_X0_run, m_X0_run, rep_0, List.cons_append, List.nil_append, List.append_nil, List.length_cons, List.length_nil, Nat.reduceAdd, true_and]
  refine (p1 _ R).trans ?_
  simp only [AW_k, AWk_1, x_iload_1, x_switch, AW_sw, AW_sw0, x_iload_2, x_push_i, x_push_l, x_imul, x_aload_0, x_aloads_0, x_getf, x_iadd, x_ret, x_ret_i, x_ret_z, x_ret_l, x_ret_c, x_iload_3, x_callv_4, x_isub, k_X0_run_24, k_X0_run_25, k_X0_run_26, k_X0_run_27, k_X0_run_28, k_X0_run_29, k_X0_run_30, k_X0_run_31, k_X0_run_32, k_X0_run_33, k_X0_run_34, k_X0_run_35, k_X0_run_36, k_X0_run_37, k_X0_run_38, k_X0_run_39, k_X0_run_40, k_X0_run_41, oE_some, Int.reduceToNat, Nat.reduceAdd, true_and, and_true, List.length_cons, List.length_nil, Option.toList_some, Option.toList_none, List.cons_append, List.nil_append, Nat.reduceLeDiff, Nat.le_refl, wdS_nil, wdS_i, wdS_l, wdS_r, wdS_n, wdS_s, show w32 ((11 : Nat) : Int) = 11 from rfl, swT_cons, swT_nil, if_true, if_false, Int.reduceEq, y1.1.2.2.2.2.1, y1.1.2.2.2.1, gC_of y1.1.1, q2, y2.1.2.2.2.2.1, y2.1.2.2.2.1, gC_of y2.1.1]
set_option maxHeartbeats 16000000 in
theorem c0_b12 (d : Nat) {a k f e : Nat} {m nu x : Int} {s : ASt} {h : HP} (hk : k < 6) (he : e + 1 + f = 22) (hs : ¬ (s.2.2 = true ∨ 20 < e)) (hR : RNC (d + 2) a k m nu f) (hA : ATS h a s (k : Int) m nu) : ∃ h', ATS h' a (rnA k m nu (f + 1) 12 x e s).2 (k : Int) m nu ∧ Fr a (a + 2) h h' ∧ ∀ R : PO, callD (d + 2 * f + 4) 6 [mR a, mI ((12 : Nat) : Int), mI x, mI (e : Int)] h R ↔ R (some (mI (rnA k m nu (f + 1) 12 x e s).1)) h' := by
  rw [rnA_12 hs]
  obtain ⟨h1, y1, g1, p1⟩ := c0_pre (x := x) (show 12 < 100 by decide) hs hA
  by_cases c : w32 (m - nu) = 0
  · rw [if_pos c]
    have t2 := ATS_5 (q := true) y1
    refine ⟨_, t2, Fr_trans g1 (Fr_pF (by omega) (by omega)), fun R => ?_⟩
    have a6 : gF h1 a 0 5 = some (mI (zI (beg 12 s).2.2)) := y1.1.2.2.2.2.2
    have cp : ∀ R : PO, callD (d + 2 * f + 3) 7 [mR a, mI x, mI (m - nu)] h1 R ↔ R (some (mI 0)) (pF h1 a 0 5 (mI (zI true))) := by
      intro R
      rw [callD_k]; simp only [entL_i, entL_l, entL_q, entL_s, entL_nil, n_X0_partedBy, u_X0_partedBy, m_X0_partedBy, rep_0, List.cons_append, List.nil_append, List.append_nil, List.length_cons, List.length_nil, Nat.reduceAdd, true_and]
      simp only [AW_k, AWk_1, x_iload_2, x_if_ne, x_aload_0, x_aloads_0, x_push_i, x_push_l, x_putf_z, x_ret, x_ret_i, x_ret_z, x_ret_l, x_ret_c, x_iload_1, x_idiv, k_X0_partedBy_0, k_X0_partedBy_1, k_X0_partedBy_2, k_X0_partedBy_3, k_X0_partedBy_4, k_X0_partedBy_5, k_X0_partedBy_6, k_X0_partedBy_7, k_X0_partedBy_8, k_X0_partedBy_9, k_X0_partedBy_10, oE_some, Int.reduceToNat, Nat.reduceAdd, true_and, and_true, List.length_cons, List.length_nil, Option.toList_some, Option.toList_none, List.cons_append, List.nil_append, Nat.reduceLeDiff, Nat.le_refl, wdS_nil, wdS_i, wdS_l, wdS_r, wdS_n, wdS_s, c, if_true, a6, or_true, true_or]
      exact Iff.rfl
    rw [callD_k]; simp only [entL_i, entL_l, entL_q, entL_s, entL_nil, n_X0_run, u_X0_run, m_X0_run, rep_0, List.cons_append, List.nil_append, List.append_nil, List.length_cons, List.length_nil, Nat.reduceAdd, true_and]
    refine (p1 _ R).trans ?_
    simp only [AW_k, AWk_1, x_iload_1, x_switch, AW_sw, AW_sw0, x_iload_2, x_push_i, x_push_l, x_imul, x_aload_0, x_aloads_0, x_getf, x_iadd, x_ret, x_ret_i, x_ret_z, x_ret_l, x_ret_c, x_iload_3, x_callv_4, x_isub, x_callv_3, k_X0_run_24, k_X0_run_25, k_X0_run_26, k_X0_run_27, k_X0_run_28, k_X0_run_29, k_X0_run_30, k_X0_run_31, k_X0_run_32, k_X0_run_33, k_X0_run_34, k_X0_run_35, k_X0_run_36, k_X0_run_37, k_X0_run_38, k_X0_run_39, k_X0_run_40, k_X0_run_41, k_X0_run_42, k_X0_run_43, k_X0_run_44, k_X0_run_45, k_X0_run_46, k_X0_run_47, k_X0_run_48, k_X0_run_49, k_X0_run_50, oE_some, Int.reduceToNat, Nat.reduceAdd, true_and, and_true, List.length_cons, List.length_nil, Option.toList_some, Option.toList_none, List.cons_append, List.nil_append, Nat.reduceLeDiff, Nat.le_refl, wdS_nil, wdS_i, wdS_l, wdS_r, wdS_n, wdS_s, show w32 ((12 : Nat) : Int) = 12 from rfl, swT_cons, swT_nil, if_true, if_false, Int.reduceEq, y1.1.2.2.2.2.1, y1.1.2.2.2.1, gC_of y1.1.1, cp]
  · rw [if_neg c]
    refine ⟨h1, y1, g1, fun R => ?_⟩
    have cp : ∀ R : PO, callD (d + 2 * f + 3) 7 [mR a, mI x, mI (m - nu)] h1 R ↔ R (some (mI (Int.tdiv (w32 x) (w32 (m - nu))))) h1 := by
      intro R
      rw [callD_k]; simp only [entL_i, entL_l, entL_q, entL_s, entL_nil, n_X0_partedBy, u_X0_partedBy, m_X0_partedBy, rep_0, List.cons_append, List.nil_append, List.append_nil, List.length_cons, List.length_nil, Nat.reduceAdd, true_and]
      simp only [AW_k, AWk_1, x_iload_2, x_if_ne, x_aload_0, x_aloads_0, x_push_i, x_push_l, x_putf_z, x_ret, x_ret_i, x_ret_z, x_ret_l, x_ret_c, x_iload_1, x_idiv, k_X0_partedBy_0, k_X0_partedBy_1, k_X0_partedBy_2, k_X0_partedBy_3, k_X0_partedBy_4, k_X0_partedBy_5, k_X0_partedBy_6, k_X0_partedBy_7, k_X0_partedBy_8, k_X0_partedBy_9, k_X0_partedBy_10, oE_some, Int.reduceToNat, Nat.reduceAdd, true_and, and_true, List.length_cons, List.length_nil, Option.toList_some, Option.toList_none, List.cons_append, List.nil_append, Nat.reduceLeDiff, Nat.le_refl, wdS_nil, wdS_i, wdS_l, wdS_r, wdS_n, wdS_s, c, if_false, not_false_eq_true]
    rw [callD_k]; simp only [entL_i, entL_l, entL_q, entL_s, entL_nil, n_X0_run, u_X0_run, m_X0_run, rep_0, List.cons_append, List.nil_append, List.append_nil, List.length_cons, List.length_nil, Nat.reduceAdd, true_and]
    refine (p1 _ R).trans ?_
    simp only [AW_k, AWk_1, x_iload_1, x_switch, AW_sw, AW_sw0, x_iload_2, x_push_i, x_push_l, x_imul, x_aload_0, x_aloads_0, x_getf, x_iadd, x_ret, x_ret_i, x_ret_z, x_ret_l, x_ret_c, x_iload_3, x_callv_4, x_isub, x_callv_3, k_X0_run_24, k_X0_run_25, k_X0_run_26, k_X0_run_27, k_X0_run_28, k_X0_run_29, k_X0_run_30, k_X0_run_31, k_X0_run_32, k_X0_run_33, k_X0_run_34, k_X0_run_35, k_X0_run_36, k_X0_run_37, k_X0_run_38, k_X0_run_39, k_X0_run_40, k_X0_run_41, k_X0_run_42, k_X0_run_43, k_X0_run_44, k_X0_run_45, k_X0_run_46, k_X0_run_47, k_X0_run_48, k_X0_run_49, k_X0_run_50, oE_some, Int.reduceToNat, Nat.reduceAdd, true_and, and_true, List.length_cons, List.length_nil, Option.toList_some, Option.toList_none, List.cons_append, List.nil_append, Nat.reduceLeDiff, Nat.le_refl, wdS_nil, wdS_i, wdS_l, wdS_r, wdS_n, wdS_s, show w32 ((12 : Nat) : Int) = 12 from rfl, swT_cons, swT_nil, if_true, if_false, Int.reduceEq, y1.1.2.2.2.2.1, y1.1.2.2.2.1, gC_of y1.1.1, cp]
set_option maxHeartbeats 16000000 in
theorem c0_b13 (d : Nat) {a k f e : Nat} {m nu x : Int} {s : ASt} {h : HP} (hk : k < 6) (he : e + 1 + f = 22) (hs : ¬ (s.2.2 = true ∨ 20 < e)) (hR : RNC (d + 2) a k m nu f) (hA : ATS h a s (k : Int) m nu) : ∃ h', ATS h' a (rnA k m nu (f + 1) 13 x e s).2 (k : Int) m nu ∧ Fr a (a + 2) h h' ∧ ∀ R : PO, callD (d + 2 * f + 4) 6 [mR a, mI ((13 : Nat) : Int), mI x, mI (e : Int)] h R ↔ R (some (mI (rnA k m nu (f + 1) 13 x e s).1)) h' := by
  rw [rnA_13 hs]
  obtain ⟨h1, y1, g1, p1⟩ := c0_pre (x := x) (show 13 < 100 by decide) hs hA
  obtain ⟨h2, y2, g2, p2⟩ := c0_own d (c := 1) (x := x) hk (by decide) he hR y1
  have q2 : ∀ R : PO, callD (d + 2 * f + 3) 4 [mR a, mI 1, mI x, mI (e : Int)] h1 R ↔ _ := p2
  obtain ⟨h3, y3, g3, p3⟩ := c0_own d (c := 2) (x := (x + 1)) hk (by decide) he hR y2
  have q3 : ∀ R : PO, callD (d + 2 * f + 3) 4 [mR a, mI 2, mI (x + 1), mI (e : Int)] h2 R ↔ _ := p3
  refine ⟨h3, y3, Fr_trans (Fr_trans (g1) g2) g3, fun R => ?_⟩
  rw [callD_k]; simp only [entL_i, entL_l, entL_q, entL_s, entL_nil, n_X0_run, u_X0_run, m_X0_run, rep_0, List.cons_append, List.nil_append, List.append_nil, List.length_cons, List.length_nil, Nat.reduceAdd, true_and]
  refine (p1 _ R).trans ?_
  simp only [AW_k, AWk_1, x_iload_1, x_switch, AW_sw, AW_sw0, x_iload_2, x_push_i, x_push_l, x_imul, x_aload_0, x_aloads_0, x_getf, x_iadd, x_ret, x_ret_i, x_ret_z, x_ret_l, x_ret_c, x_iload_3, x_callv_4, x_isub, x_callv_3, x_ixor, k_X0_run_24, k_X0_run_25, k_X0_run_26, k_X0_run_27, k_X0_run_28, k_X0_run_29, k_X0_run_30, k_X0_run_31, k_X0_run_32, k_X0_run_33, k_X0_run_34, k_X0_run_35, k_X0_run_36, k_X0_run_37, k_X0_run_38, k_X0_run_39, k_X0_run_40, k_X0_run_41, k_X0_run_42, k_X0_run_43, k_X0_run_44, k_X0_run_45, k_X0_run_46, k_X0_run_47, k_X0_run_48, k_X0_run_49, k_X0_run_50, k_X0_run_51, k_X0_run_52, k_X0_run_53, k_X0_run_54, k_X0_run_55, k_X0_run_56, k_X0_run_57, k_X0_run_58, k_X0_run_59, k_X0_run_60, k_X0_run_61, k_X0_run_62, k_X0_run_63, k_X0_run_64, oE_some, Int.reduceToNat, Nat.reduceAdd, true_and, and_true, List.length_cons, List.length_nil, Option.toList_some, Option.toList_none, List.cons_append, List.nil_append, Nat.reduceLeDiff, Nat.le_refl, wdS_nil, wdS_i, wdS_l, wdS_r, wdS_n, wdS_s, show w32 ((13 : Nat) : Int) = 13 from rfl, swT_cons, swT_nil, if_true, if_false, Int.reduceEq, y1.1.2.2.2.2.1, y1.1.2.2.2.1, gC_of y1.1.1, q2, y2.1.2.2.2.2.1, y2.1.2.2.2.1, gC_of y2.1.1, q3, y3.1.2.2.2.2.1, y3.1.2.2.2.1, gC_of y3.1.1]
set_option maxHeartbeats 16000000 in
theorem c0_b20 (d : Nat) {a k f e : Nat} {m nu x : Int} {s : ASt} {h : HP} (hk : k < 6) (he : e + 1 + f = 22) (hs : ¬ (s.2.2 = true ∨ 20 < e)) (hR : RNC (d + 2) a k m nu f) (hA : ATS h a s (k : Int) m nu) : ∃ h', ATS h' a (rnA k m nu (f + 1) 20 x e s).2 (k : Int) m nu ∧ Fr a (a + 2) h h' ∧ ∀ R : PO, callD (d + 2 * f + 4) 6 [mR a, mI ((20 : Nat) : Int), mI x, mI (e : Int)] h R ↔ R (some (mI (rnA k m nu (f + 1) 20 x e s).1)) h' := by
  rw [rnA_20 hs]
  obtain ⟨h1, y1, g1, p1⟩ := c0_pre (x := x) (show 20 < 100 by decide) hs hA
  obtain ⟨h2, y2, g2, p2⟩ := c0_above d (b := 1) (c := 0) (x := x) (by decide) (by decide) he hR y1
  rw [show KAB.getD 1 0 = 0 from rfl] at y2 p2
  have q2 : ∀ R : PO, callD (d + 2 * f + 3) 5 [mR a, mI 1, mI 0, mI x, mI (e : Int)] h1 R ↔ _ := p2
  refine ⟨h2, y2, Fr_trans (g1) g2, fun R => ?_⟩
  rw [callD_k]; simp only [entL_i, entL_l, entL_q, entL_s, entL_nil, n_X0_run, u_X0_run, m_X0_run, rep_0, List.cons_append, List.nil_append, List.append_nil, List.length_cons, List.length_nil, Nat.reduceAdd, true_and]
  refine (p1 _ R).trans ?_
  simp only [AW_k, AWk_1, x_iload_1, x_switch, AW_sw, AW_sw0, x_iload_2, x_push_i, x_push_l, x_imul, x_aload_0, x_aloads_0, x_getf, x_iadd, x_ret, x_ret_i, x_ret_z, x_ret_l, x_ret_c, x_iload_3, x_callv_4, x_isub, x_callv_3, x_ixor, x_callv_5, k_X0_run_24, k_X0_run_25, k_X0_run_26, k_X0_run_27, k_X0_run_28, k_X0_run_29, k_X0_run_30, k_X0_run_31, k_X0_run_32, k_X0_run_33, k_X0_run_34, k_X0_run_35, k_X0_run_36, k_X0_run_37, k_X0_run_38, k_X0_run_39, k_X0_run_40, k_X0_run_41, k_X0_run_42, k_X0_run_43, k_X0_run_44, k_X0_run_45, k_X0_run_46, k_X0_run_47, k_X0_run_48, k_X0_run_49, k_X0_run_50, k_X0_run_51, k_X0_run_52, k_X0_run_53, k_X0_run_54, k_X0_run_55, k_X0_run_56, k_X0_run_57, k_X0_run_58, k_X0_run_59, k_X0_run_60, k_X0_run_61, k_X0_run_62, k_X0_run_63, k_X0_run_64, k_X0_run_65, k_X0_run_66, k_X0_run_67, k_X0_run_68, k_X0_run_69, k_X0_run_70, k_X0_run_71, k_X0_run_72, k_X0_run_73, oE_some, Int.reduceToNat, Nat.reduceAdd, true_and, and_true, List.length_cons, List.length_nil, Option.toList_some, Option.toList_none, List.cons_append, List.nil_append, Nat.reduceLeDiff, Nat.le_refl, wdS_nil, wdS_i, wdS_l, wdS_r, wdS_n, wdS_s, show w32 ((20 : Nat) : Int) = 20 from rfl, swT_cons, swT_nil, if_true, if_false, Int.reduceEq, y1.1.2.2.2.2.1, y1.1.2.2.2.1, gC_of y1.1.1, q2, y2.1.2.2.2.2.1, y2.1.2.2.2.1, gC_of y2.1.1]
set_option maxHeartbeats 16000000 in
theorem c0_b30 (d : Nat) {a k f e : Nat} {m nu x : Int} {s : ASt} {h : HP} (hk : k < 6) (he : e + 1 + f = 22) (hs : ¬ (s.2.2 = true ∨ 20 < e)) (hR : RNC (d + 2) a k m nu f) (hA : ATS h a s (k : Int) m nu) : ∃ h', ATS h' a (rnA k m nu (f + 1) 30 x e s).2 (k : Int) m nu ∧ Fr a (a + 2) h h' ∧ ∀ R : PO, callD (d + 2 * f + 4) 6 [mR a, mI ((30 : Nat) : Int), mI x, mI (e : Int)] h R ↔ R (some (mI (rnA k m nu (f + 1) 30 x e s).1)) h' := by
  rw [rnA_30 hs]
  obtain ⟨h1, y1, g1, p1⟩ := c0_pre (x := x) (show 30 < 100 by decide) hs hA
  obtain ⟨h2, y2, g2, p2⟩ := c0_above d (b := 2) (c := 1) (x := x) (by decide) (by decide) he hR y1
  rw [show KAB.getD 2 0 = 0 from rfl] at y2 p2
  have q2 : ∀ R : PO, callD (d + 2 * f + 3) 5 [mR a, mI 2, mI 1, mI x, mI (e : Int)] h1 R ↔ _ := p2
  refine ⟨h2, y2, Fr_trans (g1) g2, fun R => ?_⟩
  rw [callD_k]; simp only [entL_i, entL_l, entL_q, entL_s, entL_nil, n_X0_run, u_X0_run, m_X0_run, rep_0, List.cons_append, List.nil_append, List.append_nil, List.length_cons, List.length_nil, Nat.reduceAdd, true_and]
  refine (p1 _ R).trans ?_
  simp only [AW_k, AWk_1, x_iload_1, x_switch, AW_sw, AW_sw0, x_iload_2, x_push_i, x_push_l, x_imul, x_aload_0, x_aloads_0, x_getf, x_iadd, x_ret, x_ret_i, x_ret_z, x_ret_l, x_ret_c, x_iload_3, x_callv_4, x_isub, x_callv_3, x_ixor, x_callv_5, k_X0_run_24, k_X0_run_25, k_X0_run_26, k_X0_run_27, k_X0_run_28, k_X0_run_29, k_X0_run_30, k_X0_run_31, k_X0_run_32, k_X0_run_33, k_X0_run_34, k_X0_run_35, k_X0_run_36, k_X0_run_37, k_X0_run_38, k_X0_run_39, k_X0_run_40, k_X0_run_41, k_X0_run_42, k_X0_run_43, k_X0_run_44, k_X0_run_45, k_X0_run_46, k_X0_run_47, k_X0_run_48, k_X0_run_49, k_X0_run_50, k_X0_run_51, k_X0_run_52, k_X0_run_53, k_X0_run_54, k_X0_run_55, k_X0_run_56, k_X0_run_57, k_X0_run_58, k_X0_run_59, k_X0_run_60, k_X0_run_61, k_X0_run_62, k_X0_run_63, k_X0_run_64, k_X0_run_65, k_X0_run_66, k_X0_run_67, k_X0_run_68, k_X0_run_69, k_X0_run_70, k_X0_run_71, k_X0_run_72, k_X0_run_73, k_X0_run_74, k_X0_run_75, k_X0_run_76, k_X0_run_77, k_X0_run_78, k_X0_run_79, k_X0_run_80, k_X0_run_81, k_X0_run_82, oE_some, Int.reduceToNat, Nat.reduceAdd, true_and, and_true, List.length_cons, List.length_nil, Option.toList_some, Option.toList_none, List.cons_append, List.nil_append, Nat.reduceLeDiff, Nat.le_refl, wdS_nil, wdS_i, wdS_l, wdS_r, wdS_n, wdS_s, show w32 ((30 : Nat) : Int) = 30 from rfl, swT_cons, swT_nil, if_true, if_false, Int.reduceEq, y1.1.2.2.2.2.1, y1.1.2.2.2.1, gC_of y1.1.1, q2, y2.1.2.2.2.2.1, y2.1.2.2.2.1, gC_of y2.1.1]
set_option maxHeartbeats 16000000 in
theorem c0_b31 (d : Nat) {a k f e : Nat} {m nu x : Int} {s : ASt} {h : HP} (hk : k < 6) (he : e + 1 + f = 22) (hs : ¬ (s.2.2 = true ∨ 20 < e)) (hR : RNC (d + 2) a k m nu f) (hA : ATS h a s (k : Int) m nu) : ∃ h', ATS h' a (rnA k m nu (f + 1) 31 x e s).2 (k : Int) m nu ∧ Fr a (a + 2) h h' ∧ ∀ R : PO, callD (d + 2 * f + 4) 6 [mR a, mI ((31 : Nat) : Int), mI x, mI (e : Int)] h R ↔ R (some (mI (rnA k m nu (f + 1) 31 x e s).1)) h' := by
  rw [rnA_31 hs]
  obtain ⟨h1, y1, g1, p1⟩ := c0_pre (x := x) (show 31 < 100 by decide) hs hA
  obtain ⟨h2, y2, g2, p2⟩ := c0_above d (b := 2) (c := 2) (x := x) (by decide) (by decide) he hR y1
  rw [show KAB.getD 2 0 = 0 from rfl] at y2 p2
  have q2 : ∀ R : PO, callD (d + 2 * f + 3) 5 [mR a, mI 2, mI 2, mI x, mI (e : Int)] h1 R ↔ _ := p2
  obtain ⟨h3, y3, g3, p3⟩ := c0_own d (c := 0) (x := nu) hk (by decide) he hR y2
  have q3 : ∀ R : PO, callD (d + 2 * f + 3) 4 [mR a, mI 0, mI nu, mI (e : Int)] h2 R ↔ _ := p3
  refine ⟨h3, y3, Fr_trans (Fr_trans (g1) g2) g3, fun R => ?_⟩
  rw [callD_k]; simp only [entL_i, entL_l, entL_q, entL_s, entL_nil, n_X0_run, u_X0_run, m_X0_run, rep_0, List.cons_append, List.nil_append, List.append_nil, List.length_cons, List.length_nil, Nat.reduceAdd, true_and]
  refine (p1 _ R).trans ?_
  simp only [AW_k, AWk_1, x_iload_1, x_switch, AW_sw, AW_sw0, x_iload_2, x_push_i, x_push_l, x_imul, x_aload_0, x_aloads_0, x_getf, x_iadd, x_ret, x_ret_i, x_ret_z, x_ret_l, x_ret_c, x_iload_3, x_callv_4, x_isub, x_callv_3, x_ixor, x_callv_5, k_X0_run_24, k_X0_run_25, k_X0_run_26, k_X0_run_27, k_X0_run_28, k_X0_run_29, k_X0_run_30, k_X0_run_31, k_X0_run_32, k_X0_run_33, k_X0_run_34, k_X0_run_35, k_X0_run_36, k_X0_run_37, k_X0_run_38, k_X0_run_39, k_X0_run_40, k_X0_run_41, k_X0_run_42, k_X0_run_43, k_X0_run_44, k_X0_run_45, k_X0_run_46, k_X0_run_47, k_X0_run_48, k_X0_run_49, k_X0_run_50, k_X0_run_51, k_X0_run_52, k_X0_run_53, k_X0_run_54, k_X0_run_55, k_X0_run_56, k_X0_run_57, k_X0_run_58, k_X0_run_59, k_X0_run_60, k_X0_run_61, k_X0_run_62, k_X0_run_63, k_X0_run_64, k_X0_run_65, k_X0_run_66, k_X0_run_67, k_X0_run_68, k_X0_run_69, k_X0_run_70, k_X0_run_71, k_X0_run_72, k_X0_run_73, k_X0_run_74, k_X0_run_75, k_X0_run_76, k_X0_run_77, k_X0_run_78, k_X0_run_79, k_X0_run_80, k_X0_run_81, k_X0_run_82, k_X0_run_83, k_X0_run_84, k_X0_run_85, k_X0_run_86, k_X0_run_87, k_X0_run_88, k_X0_run_89, k_X0_run_90, k_X0_run_91, k_X0_run_92, k_X0_run_93, k_X0_run_94, k_X0_run_95, k_X0_run_96, oE_some, Int.reduceToNat, Nat.reduceAdd, true_and, and_true, List.length_cons, List.length_nil, Option.toList_some, Option.toList_none, List.cons_append, List.nil_append, Nat.reduceLeDiff, Nat.le_refl, wdS_nil, wdS_i, wdS_l, wdS_r, wdS_n, wdS_s, show w32 ((31 : Nat) : Int) = 31 from rfl, swT_cons, swT_nil, if_true, if_false, Int.reduceEq, y1.1.2.2.2.2.1, y1.1.2.2.2.1, gC_of y1.1.1, q2, y2.1.2.2.2.2.1, y2.1.2.2.2.1, gC_of y2.1.1, q3, y3.1.2.2.2.2.1, y3.1.2.2.2.1, gC_of y3.1.1]
set_option maxHeartbeats 16000000 in
theorem c0_b40 (d : Nat) {a k f e : Nat} {m nu x : Int} {s : ASt} {h : HP} (hk : k < 6) (he : e + 1 + f = 22) (hs : ¬ (s.2.2 = true ∨ 20 < e)) (hR : RNC (d + 2) a k m nu f) (hA : ATS h a s (k : Int) m nu) : ∃ h', ATS h' a (rnA k m nu (f + 1) 40 x e s).2 (k : Int) m nu ∧ Fr a (a + 2) h h' ∧ ∀ R : PO, callD (d + 2 * f + 4) 6 [mR a, mI ((40 : Nat) : Int), mI x, mI (e : Int)] h R ↔ R (some (mI (rnA k m nu (f + 1) 40 x e s).1)) h' := by
  rw [rnA_40 hs]
  obtain ⟨h1, y1, g1, p1⟩ := c0_pre (x := x) (show 40 < 100 by decide) hs hA
  obtain ⟨h2, y2, g2, p2⟩ := c0_above d (b := 3) (c := 0) (x := (x + 2)) (by decide) (by decide) he hR y1
  rw [show KAB.getD 3 0 = 1 from rfl] at y2 p2
  have q2 : ∀ R : PO, callD (d + 2 * f + 3) 5 [mR a, mI 3, mI 0, mI (x + 2), mI (e : Int)] h1 R ↔ _ := p2
  refine ⟨h2, y2, Fr_trans (g1) g2, fun R => ?_⟩
  rw [callD_k]; simp only [entL_i, entL_l, entL_q, entL_s, entL_nil, n_X0_run, u_X0_run, m_X0_run, rep_0, List.cons_append, List.nil_append, List.append_nil, List.length_cons, List.length_nil, Nat.reduceAdd, true_and]
  refine (p1 _ R).trans ?_
  simp only [AW_k, AWk_1, x_iload_1, x_switch, AW_sw, AW_sw0, x_iload_2, x_push_i, x_push_l, x_imul, x_aload_0, x_aloads_0, x_getf, x_iadd, x_ret, x_ret_i, x_ret_z, x_ret_l, x_ret_c, x_iload_3, x_callv_4, x_isub, x_callv_3, x_ixor, x_callv_5, k_X0_run_24, k_X0_run_25, k_X0_run_26, k_X0_run_27, k_X0_run_28, k_X0_run_29, k_X0_run_30, k_X0_run_31, k_X0_run_32, k_X0_run_33, k_X0_run_34, k_X0_run_35, k_X0_run_36, k_X0_run_37, k_X0_run_38, k_X0_run_39, k_X0_run_40, k_X0_run_41, k_X0_run_42, k_X0_run_43, k_X0_run_44, k_X0_run_45, k_X0_run_46, k_X0_run_47, k_X0_run_48, k_X0_run_49, k_X0_run_50, k_X0_run_51, k_X0_run_52, k_X0_run_53, k_X0_run_54, k_X0_run_55, k_X0_run_56, k_X0_run_57, k_X0_run_58, k_X0_run_59, k_X0_run_60, k_X0_run_61, k_X0_run_62, k_X0_run_63, k_X0_run_64, k_X0_run_65, k_X0_run_66, k_X0_run_67, k_X0_run_68, k_X0_run_69, k_X0_run_70, k_X0_run_71, k_X0_run_72, k_X0_run_73, k_X0_run_74, k_X0_run_75, k_X0_run_76, k_X0_run_77, k_X0_run_78, k_X0_run_79, k_X0_run_80, k_X0_run_81, k_X0_run_82, k_X0_run_83, k_X0_run_84, k_X0_run_85, k_X0_run_86, k_X0_run_87, k_X0_run_88, k_X0_run_89, k_X0_run_90, k_X0_run_91, k_X0_run_92, k_X0_run_93, k_X0_run_94, k_X0_run_95, k_X0_run_96, k_X0_run_97, k_X0_run_98, k_X0_run_99, k_X0_run_100, k_X0_run_101, k_X0_run_102, k_X0_run_103, k_X0_run_104, k_X0_run_105, k_X0_run_106, k_X0_run_107, oE_some, Int.reduceToNat, Nat.reduceAdd, true_and, and_true, List.length_cons, List.length_nil, Option.toList_some, Option.toList_none, List.cons_append, List.nil_append, Nat.reduceLeDiff, Nat.le_refl, wdS_nil, wdS_i, wdS_l, wdS_r, wdS_n, wdS_s, show w32 ((40 : Nat) : Int) = 40 from rfl, swT_cons, swT_nil, if_true, if_false, Int.reduceEq, y1.1.2.2.2.2.1, y1.1.2.2.2.1, gC_of y1.1.1, q2, y2.1.2.2.2.2.1, y2.1.2.2.2.1, gC_of y2.1.1]
set_option maxHeartbeats 16000000 in
theorem c0_b50 (d : Nat) {a k f e : Nat} {m nu x : Int} {s : ASt} {h : HP} (hk : k < 6) (he : e + 1 + f = 22) (hs : ¬ (s.2.2 = true ∨ 20 < e)) (hR : RNC (d + 2) a k m nu f) (hA : ATS h a s (k : Int) m nu) : ∃ h', ATS h' a (rnA k m nu (f + 1) 50 x e s).2 (k : Int) m nu ∧ Fr a (a + 2) h h' ∧ ∀ R : PO, callD (d + 2 * f + 4) 6 [mR a, mI ((50 : Nat) : Int), mI x, mI (e : Int)] h R ↔ R (some (mI (rnA k m nu (f + 1) 50 x e s).1)) h' := by
  rw [rnA_50 hs]
  obtain ⟨h1, y1, g1, p1⟩ := c0_pre (x := x) (show 50 < 100 by decide) hs hA
  obtain ⟨h2, y2, g2, p2⟩ := c0_above d (b := 4) (c := 3) (x := x) (by decide) (by decide) he hR y1
  rw [show KAB.getD 4 0 = 1 from rfl] at y2 p2
  have q2 : ∀ R : PO, callD (d + 2 * f + 3) 5 [mR a, mI 4, mI 3, mI x, mI (e : Int)] h1 R ↔ _ := p2
  obtain ⟨h3, y3, g3, p3⟩ := c0_own d (c := 1) (x := m) hk (by decide) he hR y2
  have q3 : ∀ R : PO, callD (d + 2 * f + 3) 4 [mR a, mI 1, mI m, mI (e : Int)] h2 R ↔ _ := p3
  refine ⟨h3, y3, Fr_trans (Fr_trans (g1) g2) g3, fun R => ?_⟩
  rw [callD_k]; simp only [entL_i, entL_l, entL_q, entL_s, entL_nil, n_X0_run, u_X0_run, m_X0_run, rep_0, List.cons_append, List.nil_append, List.append_nil, List.length_cons, List.length_nil, Nat.reduceAdd, true_and]
  refine (p1 _ R).trans ?_
  simp only [AW_k, AWk_1, x_iload_1, x_switch, AW_sw, AW_sw0, x_iload_2, x_push_i, x_push_l, x_imul, x_aload_0, x_aloads_0, x_getf, x_iadd, x_ret, x_ret_i, x_ret_z, x_ret_l, x_ret_c, x_iload_3, x_callv_4, x_isub, x_callv_3, x_ixor, x_callv_5, k_X0_run_24, k_X0_run_25, k_X0_run_26, k_X0_run_27, k_X0_run_28, k_X0_run_29, k_X0_run_30, k_X0_run_31, k_X0_run_32, k_X0_run_33, k_X0_run_34, k_X0_run_35, k_X0_run_36, k_X0_run_37, k_X0_run_38, k_X0_run_39, k_X0_run_40, k_X0_run_41, k_X0_run_42, k_X0_run_43, k_X0_run_44, k_X0_run_45, k_X0_run_46, k_X0_run_47, k_X0_run_48, k_X0_run_49, k_X0_run_50, k_X0_run_51, k_X0_run_52, k_X0_run_53, k_X0_run_54, k_X0_run_55, k_X0_run_56, k_X0_run_57, k_X0_run_58, k_X0_run_59, k_X0_run_60, k_X0_run_61, k_X0_run_62, k_X0_run_63, k_X0_run_64, k_X0_run_65, k_X0_run_66, k_X0_run_67, k_X0_run_68, k_X0_run_69, k_X0_run_70, k_X0_run_71, k_X0_run_72, k_X0_run_73, k_X0_run_74, k_X0_run_75, k_X0_run_76, k_X0_run_77, k_X0_run_78, k_X0_run_79, k_X0_run_80, k_X0_run_81, k_X0_run_82, k_X0_run_83, k_X0_run_84, k_X0_run_85, k_X0_run_86, k_X0_run_87, k_X0_run_88, k_X0_run_89, k_X0_run_90, k_X0_run_91, k_X0_run_92, k_X0_run_93, k_X0_run_94, k_X0_run_95, k_X0_run_96, k_X0_run_97, k_X0_run_98, k_X0_run_99, k_X0_run_100, k_X0_run_101, k_X0_run_102, k_X0_run_103, k_X0_run_104, k_X0_run_105, k_X0_run_106, k_X0_run_107, k_X0_run_108, k_X0_run_109, k_X0_run_110, k_X0_run_111, k_X0_run_112, k_X0_run_113, k_X0_run_114, k_X0_run_115, k_X0_run_116, k_X0_run_117, k_X0_run_118, k_X0_run_119, k_X0_run_120, k_X0_run_121, oE_some, Int.reduceToNat, Nat.reduceAdd, true_and, and_true, List.length_cons, List.length_nil, Option.toList_some, Option.toList_none, List.cons_append, List.nil_append, Nat.reduceLeDiff, Nat.le_refl, wdS_nil, wdS_i, wdS_l, wdS_r, wdS_n, wdS_s, show w32 ((50 : Nat) : Int) = 50 from rfl, swT_cons, swT_nil, if_true, if_false, Int.reduceEq, y1.1.2.2.2.2.1, y1.1.2.2.2.1, gC_of y1.1.1, q2, y2.1.2.2.2.2.1, y2.1.2.2.2.1, gC_of y2.1.1, q3, y3.1.2.2.2.2.1, y3.1.2.2.2.1, gC_of y3.1.1]
set_option maxHeartbeats 16000000 in
theorem c0_b60 (d : Nat) {a k f e : Nat} {m nu x : Int} {s : ASt} {h : HP} (hk : k < 6) (he : e + 1 + f = 22) (hs : ¬ (s.2.2 = true ∨ 20 < e)) (hR : RNC (d + 2) a k m nu f) (hA : ATS h a s (k : Int) m nu) : ∃ h', ATS h' a (rnA k m nu (f + 1) 60 x e s).2 (k : Int) m nu ∧ Fr a (a + 2) h h' ∧ ∀ R : PO, callD (d + 2 * f + 4) 6 [mR a, mI ((60 : Nat) : Int), mI x, mI (e : Int)] h R ↔ R (some (mI (rnA k m nu (f + 1) 60 x e s).1)) h' := by
  rw [rnA_60 hs]
  obtain ⟨h1, y1, g1, p1⟩ := c0_pre (x := x) (show 60 < 100 by decide) hs hA
  obtain ⟨h2, y2, g2, p2⟩ := c0_above d (b := 5) (c := 2) (x := (x - m)) (by decide) (by decide) he hR y1
  rw [show KAB.getD 5 0 = 2 from rfl] at y2 p2
  have q2 : ∀ R : PO, callD (d + 2 * f + 3) 5 [mR a, mI 5, mI 2, mI (x - m), mI (e : Int)] h1 R ↔ _ := p2
  refine ⟨h2, y2, Fr_trans (g1) g2, fun R => ?_⟩
  rw [callD_k]; simp only [entL_i, entL_l, entL_q, entL_s, entL_nil, n_X0_run, u_X0_run, m_X0_run, rep_0, List.cons_append, List.nil_append, List.append_nil, List.length_cons, List.length_nil, Nat.reduceAdd, true_and]
  refine (p1 _ R).trans ?_
  simp only [AW_k, AWk_1, x_iload_1, x_switch, AW_sw, AW_sw0, x_iload_2, x_push_i, x_push_l, x_imul, x_aload_0, x_aloads_0, x_getf, x_iadd, x_ret, x_ret_i, x_ret_z, x_ret_l, x_ret_c, x_iload_3, x_callv_4, x_isub, x_callv_3, x_ixor, x_callv_5, k_X0_run_24, k_X0_run_25, k_X0_run_26, k_X0_run_27, k_X0_run_28, k_X0_run_29, k_X0_run_30, k_X0_run_31, k_X0_run_32, k_X0_run_33, k_X0_run_34, k_X0_run_35, k_X0_run_36, k_X0_run_37, k_X0_run_38, k_X0_run_39, k_X0_run_40, k_X0_run_41, k_X0_run_42, k_X0_run_43, k_X0_run_44, k_X0_run_45, k_X0_run_46, k_X0_run_47, k_X0_run_48, k_X0_run_49, k_X0_run_50, k_X0_run_51, k_X0_run_52, k_X0_run_53, k_X0_run_54, k_X0_run_55, k_X0_run_56, k_X0_run_57, k_X0_run_58, k_X0_run_59, k_X0_run_60, k_X0_run_61, k_X0_run_62, k_X0_run_63, k_X0_run_64, k_X0_run_65, k_X0_run_66, k_X0_run_67, k_X0_run_68, k_X0_run_69, k_X0_run_70, k_X0_run_71, k_X0_run_72, k_X0_run_73, k_X0_run_74, k_X0_run_75, k_X0_run_76, k_X0_run_77, k_X0_run_78, k_X0_run_79, k_X0_run_80, k_X0_run_81, k_X0_run_82, k_X0_run_83, k_X0_run_84, k_X0_run_85, k_X0_run_86, k_X0_run_87, k_X0_run_88, k_X0_run_89, k_X0_run_90, k_X0_run_91, k_X0_run_92, k_X0_run_93, k_X0_run_94, k_X0_run_95, k_X0_run_96, k_X0_run_97, k_X0_run_98, k_X0_run_99, k_X0_run_100, k_X0_run_101, k_X0_run_102, k_X0_run_103, k_X0_run_104, k_X0_run_105, k_X0_run_106, k_X0_run_107, k_X0_run_108, k_X0_run_109, k_X0_run_110, k_X0_run_111, k_X0_run_112, k_X0_run_113, k_X0_run_114, k_X0_run_115, k_X0_run_116, k_X0_run_117, k_X0_run_118, k_X0_run_119, k_X0_run_120, k_X0_run_121, k_X0_run_122, k_X0_run_123, k_X0_run_124, k_X0_run_125, k_X0_run_126, k_X0_run_127, k_X0_run_128, k_X0_run_129, k_X0_run_130, k_X0_run_131, k_X0_run_132, k_X0_run_133, oE_some, Int.reduceToNat, Nat.reduceAdd, true_and, and_true, List.length_cons, List.length_nil, Option.toList_some, Option.toList_none, List.cons_append, List.nil_append, Nat.reduceLeDiff, Nat.le_refl, wdS_nil, wdS_i, wdS_l, wdS_r, wdS_n, wdS_s, show w32 ((60 : Nat) : Int) = 60 from rfl, swT_cons, swT_nil, if_true, if_false, Int.reduceEq, y1.1.2.2.2.2.1, y1.1.2.2.2.1, gC_of y1.1.1, q2, y2.1.2.2.2.2.1, y2.1.2.2.2.1, gC_of y2.1.1]
set_option maxHeartbeats 16000000 in
theorem c0_b61 (d : Nat) {a k f e : Nat} {m nu x : Int} {s : ASt} {h : HP} (hk : k < 6) (he : e + 1 + f = 22) (hs : ¬ (s.2.2 = true ∨ 20 < e)) (hR : RNC (d + 2) a k m nu f) (hA : ATS h a s (k : Int) m nu) : ∃ h', ATS h' a (rnA k m nu (f + 1) 61 x e s).2 (k : Int) m nu ∧ Fr a (a + 2) h h' ∧ ∀ R : PO, callD (d + 2 * f + 4) 6 [mR a, mI ((61 : Nat) : Int), mI x, mI (e : Int)] h R ↔ R (some (mI (rnA k m nu (f + 1) 61 x e s).1)) h' := by
  rw [rnA_61 hs]
  obtain ⟨h1, y1, g1, p1⟩ := c0_pre (x := x) (show 61 < 100 by decide) hs hA
  obtain ⟨h2, y2, g2, p2⟩ := c0_above d (b := 5) (c := 3) (x := x) (by decide) (by decide) he hR y1
  rw [show KAB.getD 5 0 = 2 from rfl] at y2 p2
  have q2 : ∀ R : PO, callD (d + 2 * f + 3) 5 [mR a, mI 5, mI 3, mI x, mI (e : Int)] h1 R ↔ _ := p2
  obtain ⟨h3, y3, g3, p3⟩ := c0_own d (c := 1) (x := 1) hk (by decide) he hR y2
  have q3 : ∀ R : PO, callD (d + 2 * f + 3) 4 [mR a, mI 1, mI 1, mI (e : Int)] h2 R ↔ _ := p3
  refine ⟨h3, y3, Fr_trans (Fr_trans (g1) g2) g3, fun R => ?_⟩
  rw [callD_k]; simp only [entL_i, entL_l, entL_q, entL_s, entL_nil, n_X0_run, u_X0_run, m_X0_run, rep_0, List.cons_append, List.nil_append, List.append_nil, List.length_cons, List.length_nil, Nat.reduceAdd, true_and]
  refine (p1 _ R).trans ?_
  simp only [AW_k, AWk_1, x_iload_1, x_switch, AW_sw, AW_sw0, x_iload_2, x_push_i, x_push_l, x_imul, x_aload_0, x_aloads_0, x_getf, x_iadd, x_ret, x_ret_i, x_ret_z, x_ret_l, x_ret_c, x_iload_3, x_callv_4, x_isub, x_callv_3, x_ixor, x_callv_5, k_X0_run_24, k_X0_run_25, k_X0_run_26, k_X0_run_27, k_X0_run_28, k_X0_run_29, k_X0_run_30, k_X0_run_31, k_X0_run_32, k_X0_run_33, k_X0_run_34, k_X0_run_35, k_X0_run_36, k_X0_run_37, k_X0_run_38, k_X0_run_39, k_X0_run_40, k_X0_run_41, k_X0_run_42, k_X0_run_43, k_X0_run_44, k_X0_run_45, k_X0_run_46, k_X0_run_47, k_X0_run_48, k_X0_run_49, k_X0_run_50, k_X0_run_51, k_X0_run_52, k_X0_run_53, k_X0_run_54, k_X0_run_55, k_X0_run_56, k_X0_run_57, k_X0_run_58, k_X0_run_59, k_X0_run_60, k_X0_run_61, k_X0_run_62, k_X0_run_63, k_X0_run_64, k_X0_run_65, k_X0_run_66, k_X0_run_67, k_X0_run_68, k_X0_run_69, k_X0_run_70, k_X0_run_71, k_X0_run_72, k_X0_run_73, k_X0_run_74, k_X0_run_75, k_X0_run_76, k_X0_run_77, k_X0_run_78, k_X0_run_79, k_X0_run_80, k_X0_run_81, k_X0_run_82, k_X0_run_83, k_X0_run_84, k_X0_run_85, k_X0_run_86, k_X0_run_87, k_X0_run_88, k_X0_run_89, k_X0_run_90, k_X0_run_91, k_X0_run_92, k_X0_run_93, k_X0_run_94, k_X0_run_95, k_X0_run_96, k_X0_run_97, k_X0_run_98, k_X0_run_99, k_X0_run_100, k_X0_run_101, k_X0_run_102, k_X0_run_103, k_X0_run_104, k_X0_run_105, k_X0_run_106, k_X0_run_107, k_X0_run_108, k_X0_run_109, k_X0_run_110, k_X0_run_111, k_X0_run_112, k_X0_run_113, k_X0_run_114, k_X0_run_115, k_X0_run_116, k_X0_run_117, k_X0_run_118, k_X0_run_119, k_X0_run_120, k_X0_run_121, k_X0_run_122, k_X0_run_123, k_X0_run_124, k_X0_run_125, k_X0_run_126, k_X0_run_127, k_X0_run_128, k_X0_run_129, k_X0_run_130, k_X0_run_131, k_X0_run_132, k_X0_run_133, k_X0_run_134, k_X0_run_135, k_X0_run_136, k_X0_run_137, k_X0_run_138, k_X0_run_139, k_X0_run_140, k_X0_run_141, k_X0_run_142, k_X0_run_143, k_X0_run_144, k_X0_run_145, k_X0_run_146, oE_some, Int.reduceToNat, Nat.reduceAdd, true_and, and_true, List.length_cons, List.length_nil, Option.toList_some, Option.toList_none, List.cons_append, List.nil_append, Nat.reduceLeDiff, Nat.le_refl, wdS_nil, wdS_i, wdS_l, wdS_r, wdS_n, wdS_s, show w32 ((61 : Nat) : Int) = 61 from rfl, swT_cons, swT_nil, if_true, if_false, Int.reduceEq, y1.1.2.2.2.2.1, y1.1.2.2.2.1, gC_of y1.1.1, q2, y2.1.2.2.2.2.1, y2.1.2.2.2.1, gC_of y2.1.1, q3, y3.1.2.2.2.2.1, y3.1.2.2.2.1, gC_of y3.1.1]
theorem c0_run {a k : Nat} {m nu : Int} (d : Nat) (hk : k < 6) : ∀ f, 1 ≤ f → RNC (d + 2) a k m nu f := by
  intro f
  induction f with
  | zero => intro h; omega
  | succ f ih =>
    intro _ bo x e s h hb he hA
    have ed : d + 2 + 2 * (f + 1) = d + 2 * f + 4 := by omega
    rw [ed]
    by_cases c : s.2.2 = true ∨ 20 < e
    · rw [rnA_stop c]
      refine ⟨h, hA, Fr_refl h, fun R => ?_⟩
      have be : e < 2147483648 := by omega
      by_cases c1 : s.2.2 = true
      · have a6 : gF h a 0 5 = some (mI (zI true)) := by rw [← c1]; exact hA.1.2.2.2.2.2
        rw [callD_k]; simp only [entL_i, entL_l, entL_q, entL_s, entL_nil, n_X0_run, u_X0_run, m_X0_run, rep_0, List.cons_append, List.nil_append, List.append_nil, List.length_cons, List.length_nil, Nat.reduceAdd, true_and]
        simp only [AW_k, AWk_1, x_aload_0, x_aloads_0, x_getf, x_if_ne, x_iload_3, x_push_i, x_push_l, x_icmp_le, x_ret, x_ret_i, x_ret_z, x_ret_l, x_ret_c, k_X0_run_0, k_X0_run_1, k_X0_run_2, k_X0_run_3, k_X0_run_4, k_X0_run_5, k_X0_run_6, k_X0_run_7, oE_some, Int.reduceToNat, Nat.reduceAdd, true_and, and_true, List.length_cons, List.length_nil, Option.toList_some, Option.toList_none, List.cons_append, List.nil_append, Nat.reduceLeDiff, Nat.le_refl, wdS_nil, wdS_i, wdS_l, wdS_r, wdS_n, wdS_s, a6, w32_zI_0, Bool.true_eq_false, if_false]
      · have c2 : (20 : Int) < (e : Int) := by
          rcases c with c | c
          · exact absurd c c1
          · omega
        have hf : s.2.2 = false := by cases q : s.2.2 with
          | false => rfl
          | true => exact absurd q c1
        have a6 : gF h a 0 5 = some (mI (zI false)) := by rw [← hf]; exact hA.1.2.2.2.2.2
        rw [callD_k]; simp only [entL_i, entL_l, entL_q, entL_s, entL_nil, n_X0_run, u_X0_run, m_X0_run, rep_0, List.cons_append, List.nil_append, List.append_nil, List.length_cons, List.length_nil, Nat.reduceAdd, true_and]
        simp only [AW_k, AWk_1, x_aload_0, x_aloads_0, x_getf, x_if_ne, x_iload_3, x_push_i, x_push_l, x_icmp_le, x_ret, x_ret_i, x_ret_z, x_ret_l, x_ret_c, k_X0_run_0, k_X0_run_1, k_X0_run_2, k_X0_run_3, k_X0_run_4, k_X0_run_5, k_X0_run_6, k_X0_run_7, oE_some, Int.reduceToNat, Nat.reduceAdd, true_and, and_true, List.length_cons, List.length_nil, Option.toList_some, Option.toList_none, List.cons_append, List.nil_append, Nat.reduceLeDiff, Nat.le_refl, wdS_nil, wdS_i, wdS_l, wdS_r, wdS_n, wdS_s, a6, w32_zI_0, if_true]
        rw [w32_nat be, show w32 20 = 20 from rfl, if_pos c2]
    · have he2 : e + 1 + f = 22 := by omega
      have hf1 : 1 ≤ f := by
        have : ¬ 20 < e := fun q => c (Or.inr q)
        omega
      have iR := ih hf1
      have hm : bo = 10 ∨ bo = 11 ∨ bo = 12 ∨ bo = 13 ∨ bo = 20 ∨ bo = 30 ∨ bo = 31 ∨ bo = 40 ∨ bo = 50 ∨ bo = 60 ∨ bo = 61 := by
        unfold okB at hb
        simpa using hb
      rcases hm with q | q | q | q | q | q | q | q | q | q | q <;> subst q
      · exact c0_b10 d hk he2 c iR hA
      · exact c0_b11 d hk he2 c iR hA
      · exact c0_b12 d hk he2 c iR hA
      · exact c0_b13 d hk he2 c iR hA
      · exact c0_b20 d hk he2 c iR hA
      · exact c0_b30 d hk he2 c iR hA
      · exact c0_b31 d hk he2 c iR hA
      · exact c0_b40 d hk he2 c iR hA
      · exact c0_b50 d hk he2 c iR hA
      · exact c0_b60 d hk he2 c iR hA
      · exact c0_b61 d hk he2 c iR hA
