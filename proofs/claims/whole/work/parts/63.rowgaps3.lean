/-! ===== the class's rows are made: one row's gaps ===== -/
theorem rig_0 {h : HP} {ra n i : Nat} {S P : List Int} (hi : i < FC n) (hR : RIP h ra n S (tP (dr n) i (FC n)) (dgT n i) (tP (arK n) (i * (n - 1)) (FC n * (n - 1))) (tP (bsK n) (i * (n - 1)) (FC n * (n - 1))) P) : RIg h ra n i 0 S P := by
  unfold RIg
  have e1 : (tP (dr n) i (FC n)).set i ((rdA n i 0 : Nat) : Int) = tP (dr n) i (FC n) := by
    apply list_ext (N := FC n) (by rw [List.length_set, tP_len]) tP_len
    intro j hj
    rw [getD_set (by rw [tP_len]; exact hi)]
    by_cases e : i = j
    · subst e; rw [if_pos rfl, tP_get hj, if_neg (Nat.lt_irrefl _)]; rfl
    · rw [if_neg e]
  have e2 : (dgT n i).set i (ddA n i 0) = dgT n i := by
    apply list_extJ (N := FC n) (by rw [List.length_set, dgT_len]) dgT_len
    intro j hj
    rw [getD_set (by rw [dgT_len]; exact hi)]
    by_cases e : i = j
    · subst e; rw [if_pos rfl, dgT_get hj, if_neg (Nat.lt_irrefl _)]; rfl
    · rw [if_neg e]
  rw [e1, e2, Nat.add_zero]
  exact hR
theorem rig_N {h : HP} {ra n i : Nat} {S P : List Int} (h1 : 1 ≤ n) (h6 : n ≤ 6) (hi : i < FC n) (hR : RIg h ra n i (n - 1) S P) : RIP h ra n S (tP (dr n) (i + 1) (FC n)) (dgT n (i + 1)) (tP (arK n) ((i + 1) * (n - 1)) (FC n * (n - 1))) (tP (bsK n) ((i + 1) * (n - 1)) (FC n * (n - 1))) P := by
  unfold RIg at hR
  obtain ⟨k1, k2⟩ := rd_ok h1 h6 hi
  have e1 : (tP (dr n) i (FC n)).set i ((rdA n i (n - 1) : Nat) : Int) = tP (dr n) (i + 1) (FC n) := tP_set hi (by rw [k1])
  have e2 : (dgT n i).set i (ddA n i (n - 1)) = dgT n (i + 1) := by
    apply list_extJ (N := FC n) (by rw [List.length_set, dgT_len]) dgT_len
    intro j hj
    rw [getD_set (by rw [dgT_len]; exact hi), dgT_get hj, dgT_get hj]
    by_cases e : i = j
    · subst e; rw [if_pos rfl, if_pos (Nat.lt_succ_self i), k2]
    · rw [if_neg e]
      by_cases h2 : j < i
      · rw [if_pos h2, if_pos (by omega)]
      · rw [if_neg h2, if_neg (by omega)]
  have e3 : i * (n - 1) + (n - 1) = (i + 1) * (n - 1) := by rw [Nat.add_mul, Nat.one_mul]
  rw [e1, e2, e3] at hR
  exact hR
set_option maxHeartbeats 32000000 in
theorem c4_fillGaps (d : Nat) {h : HP} {ra n i : Nat} {S P : List Int} (h1 : 1 ≤ n) (h6 : n ≤ 6) (hi : i < FC n) (hP : plI n i P) (hR : RIP h ra n S (tP (dr n) i (FC n)) (dgT n i) (tP (arK n) (i * (n - 1)) (FC n * (n - 1))) (tP (bsK n) (i * (n - 1)) (FC n * (n - 1))) P) : ∃ h', RIP h' ra n S (tP (dr n) (i + 1) (FC n)) (dgT n (i + 1)) (tP (arK n) ((i + 1) * (n - 1)) (FC n * (n - 1))) (tP (bsK n) ((i + 1) * (n - 1)) (FC n * (n - 1))) P ∧ Fr (ra + 12) (ra + 16) h h' ∧ ∀ R : PO, callD (d + 3) 33 [mR ra, mI (i : Int), mR (ra + 16)] h R ↔ R none h' := by
  have key : ∀ (m p : Nat) (h : HP) (y4 : Option AV), p + m = n - 1 → RIg h ra n i p S P → ∃ h', RIg h' ra n i (n - 1) S P ∧ Fr (ra + 12) (ra + 16) h h' ∧ ∀ R : PO, (AWh (d + 2) [] 33 R 2 [some (mR ra), some (mI (i : Int)), some (mR (ra + 16)), some (mI (p : Int)), y4] [] h (0, 0) ↔ R none h') := by
    intro m
    induction m with
    | zero =>
      intro p h y4 hp hR
      have e : p = n - 1 := by omega
      subst e
      refine ⟨h, hR, Fr_refl h, fun R => ?_⟩
      have a1 := hR.2.1.1
      rw [AWh_k, k_X4_fillGaps_2]
      simp only [AW_k, AWk_1, x_iload_3, x_aload_0, x_aloads_0, x_getf, x_icmp_ge, k_X4_fillGaps_2, k_X4_fillGaps_3, k_X4_fillGaps_4, k_X4_fillGaps_5, oE_some, Int.reduceToNat, Nat.reduceAdd, true_and, and_true, List.length_cons, List.length_nil, Option.toList_some, Option.toList_none, List.cons_append, List.nil_append, Nat.reduceLeDiff, Nat.le_refl, wdS_nil, wdS_i, wdS_l, wdS_r, wdS_n, wdS_s, a1]
      rw [if_neg (Int.lt_irrefl _)]
      simp only [AW_k, AWk_1, x_ret, x_ret_i, x_ret_z, x_ret_l, x_ret_c, k_X4_fillGaps_88, oE_some, Int.reduceToNat, Nat.reduceAdd, true_and, and_true, List.length_cons, List.length_nil, Option.toList_some, Option.toList_none, List.cons_append, List.nil_append, Nat.reduceLeDiff, Nat.le_refl, wdS_nil, wdS_i, wdS_l, wdS_r, wdS_n, wdS_s]
    | succ m ih =>
      intro p h y4 hp hR
      obtain ⟨h2, u1, u2, u3⟩ := fg_step d (y4 := y4) h1 h6 hi (show p < n - 1 by omega) hP hR
      obtain ⟨h', v1, v2, v3⟩ := ih (p + 1) h2 (some (mI ((ar n i p : Nat) : Int))) (by omega) u1
      exact ⟨h', v1, Fr_trans u2 v2, fun R => (u3 R).trans (v3 R)⟩
  obtain ⟨h', v1, v2, v3⟩ := key (n - 1) 0 h none (by omega) (rig_0 hi hR)
  refine ⟨h', rig_N h1 h6 hi v1, v2, fun R => ?_⟩
  rw [callD_k]; simp only [entL_i, entL_l, entL_q, entL_s, entL_nil, n_X4_fillGaps, u_X4_fillGaps, m_X4_fillGaps, rep_2, List.cons_append, List.nil_append, List.append_nil, List.length_cons, List.length_nil, Nat.reduceAdd, true_and]
  simp only [AW_k, AWk_1, x_push_i, x_push_l, x_istore_3, unl_i, unl_l, unl_q, unl_r, unl_s, unl_n, k_X4_fillGaps_0, k_X4_fillGaps_1, oE_some, Int.reduceToNat, Nat.reduceAdd, true_and, and_true, List.length_cons, List.length_nil, Option.toList_some, Option.toList_none, List.cons_append, List.nil_append, Nat.reduceLeDiff, Nat.le_refl, wdS_nil, wdS_i, wdS_l, wdS_r, wdS_n, wdS_s]
  exact v3 R
