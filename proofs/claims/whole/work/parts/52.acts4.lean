/-! ===== acts: performed ===== -/
def acR (k : Nat) (m nu : Int) (c : Nat) (x : Int) (s : ASt) : Int × ASt := rnA k m nu 21 (bfr k c) x 1 (s.1, s.2.1, false)
def acV (k : Nat) (m nu : Int) (c : Nat) (x : Int) (s : ASt) : Int := if (acR k m nu c x s).2.2.2 = true then -15 else (acR k m nu c x s).1
set_option maxHeartbeats 16000000 in
theorem c0_perform (d : Nat) {a k c : Nat} {m nu x k0 m0 nu0 : Int} {s : ASt} {h : HP} (hk : k < 6) (hc : c < 4) (hA : ATS h a s k0 m0 nu0) : ∃ h', ATS h' a (acR k m nu c x s).2 (k : Int) m nu ∧ Fr a (a + 2) h h' ∧ ∀ R : PO, callD (d + 46) 2 [mR a, mI (k : Int), mI m, mI nu, mI (c : Int), mI x] h R ↔ R (some (mI (acV k m nu c x s))) h' := by
  obtain ⟨tr, bd, pt⟩ := s
  have t2 := ATS_2 (k' := (k : Int)) hA
  have t3 := ATS_3 (m' := m) t2
  have t4 := ATS_4 (nu' := nu) t3
  have t5 := ATS_5 (q := false) t4
  have fr : Fr a (a + 2) h (pF (pF (pF (pF h a 0 2 (mI (k : Int))) a 0 3 (mI m)) a 0 4 (mI nu)) a 0 5 (mI (zI false))) := Fr_trans (Fr_trans (Fr_trans (Fr_pF (by omega) (by omega)) (Fr_pF (by omega) (by omega))) (Fr_pF (by omega) (by omega))) (Fr_pF (by omega) (by omega))
  obtain ⟨h', u1, u2, u3⟩ := c0_own (e := 0) (f := 21) (x := x) d hk hc (by omega) (c0_run d hk 21 (by decide)) t5
  have v3 : ∀ R : PO, callD (d + 45) 4 [mR a, mI (c : Int), mI x, mI 0] (pF (pF (pF (pF h a 0 2 (mI (k : Int))) a 0 3 (mI m)) a 0 4 (mI nu)) a 0 5 (mI 0)) R ↔ R (some (mI (acR k m nu c x (tr, bd, pt)).1)) h' := u3
  have u1' : ATS h' a (acR k m nu c x (tr, bd, pt)).2 (k : Int) m nu := u1
  refine ⟨h', u1', Fr_trans fr u2, fun R => ?_⟩
  have a2 := hA.1.2.2.1
  have a3 := t2.1.2.2.2.1
  have a4 := t3.1.2.2.2.2.1
  have a5 := t4.1.2.2.2.2.2
  have k5 : gC (pF (pF (pF (pF h a 0 2 (mI (k : Int))) a 0 3 (mI m)) a 0 4 (mI nu)) a 0 5 (mI 0)) a = some 0 := gC_of t5.1.1
  have a6 := u1'.1.2.2.2.2.2
  unfold acV
  generalize acR k m nu c x (tr, bd, pt) = r at v3 a6
  rw [callD_k]; simp only [entL_i, entL_l, entL_q, entL_s, entL_nil, n_X0_perform, u_X0_perform, m_X0_perform, rep_1, List.cons_append, List.nil_append, List.append_nil, List.length_cons, List.length_nil, Nat.reduceAdd, true_and]
  simp only [AW_k, AWk_1, x_aload_0, x_aloads_0, x_iload_1, x_putf_i, x_iload_2, x_iload_3, x_push_i, x_push_l, x_putf_z, x_iload_4, x_iload_5, x_callv_4, x_istore_6, x_getf, x_if_eq, x_goto, x_iload_6, x_ret, x_ret_i, x_ret_z, x_ret_l, x_ret_c, unl_i, unl_l, unl_q, unl_r, unl_s, unl_n, k_X0_perform_0, k_X0_perform_1, k_X0_perform_2, k_X0_perform_3, k_X0_perform_4, k_X0_perform_5, k_X0_perform_6, k_X0_perform_7, k_X0_perform_8, k_X0_perform_9, k_X0_perform_10, k_X0_perform_11, k_X0_perform_12, k_X0_perform_13, k_X0_perform_14, k_X0_perform_15, k_X0_perform_16, k_X0_perform_17, k_X0_perform_18, k_X0_perform_19, k_X0_perform_20, k_X0_perform_21, k_X0_perform_22, k_X0_perform_23, k_X0_perform_24, oE_some, Int.reduceToNat, Nat.reduceAdd, true_and, and_true, List.length_cons, List.length_nil, Option.toList_some, Option.toList_none, List.cons_append, List.nil_append, Nat.reduceLeDiff, Nat.le_refl, wdS_nil, wdS_i, wdS_l, wdS_r, wdS_n, wdS_s, a2, a3, a4, a5, true_or, k5, v3, a6, w32_zI_0, ite_bf]
  cases r.2.2.2 <;> exact Iff.rfl
set_option maxHeartbeats 16000000 in
theorem c0_forget (d : Nat) {a : Nat} {k m nu : Int} {s : ASt} {h : HP} (hA : ATS h a s k m nu) : ∃ h', ATS h' a (0, s.2.1, s.2.2) k m nu ∧ Fr a (a + 2) h h' ∧ ∀ R : PO, callD (d + 1) 1 [mR a] h R ↔ R none h' := by
  obtain ⟨tr, bd, pt⟩ := s
  have t1 := ATS_0 (t := 0) hA (by omega)
  refine ⟨_, t1, Fr_pF (by omega) (by omega), fun R => ?_⟩
  have a1 := hA.1.1
  rw [callD_k]; simp only [entL_i, entL_l, entL_q, entL_s, entL_nil, n_X0_forget, u_X0_forget, m_X0_forget, rep_0, List.cons_append, List.nil_append, List.append_nil, List.length_cons, List.length_nil, Nat.reduceAdd, true_and]
  simp only [AW_k, AWk_1, x_aload_0, x_aloads_0, x_push_i, x_push_l, x_putf_i, x_ret, x_ret_i, x_ret_z, x_ret_l, x_ret_c, k_X0_forget_0, k_X0_forget_1, k_X0_forget_2, k_X0_forget_3, oE_some, Int.reduceToNat, Nat.reduceAdd, true_and, and_true, List.length_cons, List.length_nil, Option.toList_some, Option.toList_none, List.cons_append, List.nil_append, Nat.reduceLeDiff, Nat.le_refl, wdS_nil, wdS_i, wdS_l, wdS_r, wdS_n, wdS_s, a1]
  exact Iff.rfl
