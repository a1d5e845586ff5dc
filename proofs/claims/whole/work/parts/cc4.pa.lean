/-! ===== the reference's wayUp ===== -/
set_option maxHeartbeats 16000000 in
theorem x_wayUp_m (d : Nat) {hp : HP} {n : Nat} {G : BitVec 64} {z : Int} {c : Nat} {ks : List Int} {es : List Int} {ik : Bool} {kn : Nat} {kG : BitVec 64} {kz : Int} {kc : Nat} {kks : List Int} {kes : List Int} {tc : Nat} {tb : List Int} {sc : Nat} {tl : List Int} {so : List Int} {le : List Int} {it : Nat → List (BitVec 64)} {he : List Int} {th : List Int} {sl : List Int} {tr : Nat} {bo : List Int} {w : Int} (hX : MI (hp) n G z c ks es ik kn kG kz kc kks kes tc tb sc tl so le it he th sl tr bo) (hw : w32 w = w) (hC : clo n G) : ∃ h', MI (h') n G z c ks es ik kn kG kz kc kks kes tc tb sc tl so le it he th sl tr bo ∧ Fr 54 83 hp h' ∧ ∀ R : PO, callD (d + 100) 243 [mR 54, mI w] hp R ↔ R (some (mI (wuA n G w))) h' := by
  have hX0 := hX
  obtain ⟨g0, -, -, cK, hA, hG⟩ := MI_ws hX
  have h1 := hA.1.1.1
  have h6 := hA.1.1.2
  have bn : n < 2147483648 := by clear hw; omega
  have i6 : w32 6 = 6 := rfl
  unfold wuA
  by_cases c : 0 ≤ w ∧ w ≤ 1
  · have d1 : inI w 0 1 = true := decide_eq_true c
    rw [if_pos c]
    by_cases h5 : n ≤ 5
    · rw [if_pos h5]
      have n6 : ((n : Int) = 6) = False := eq_false (by clear hw; omega)
      have f := FC_120 h1 h5
      have f0 := FC_pos h1 h6
      obtain ⟨li, fa, fe, qu, w0⟩ := BW_of hX
      obtain ⟨h', li', fa', fe', r1, r2, r3, r4, r5⟩ := m_climbs (d + 92) w0 h1 h5 hC
      have hT : FC n - 1 < FC n := by clear hw; omega
      have hc : lst n G (FC n - 1) < FC n := lst_ok h1 h6 hT
      have hcL := lst_isL (G := G) h1 h6 hT
      have va := JW_end h1 h5 hC r3 hc hcL
      have vb := JW_end h1 h5 hC r4 hc hcL
      refine ⟨h', MI_BW hX0 r2 r1, Fr_mono r2 (by clear hw; omega) (by clear hw; omega), fun R => ?_⟩
      obtain ⟨hA', ⟨b1, b2, b3, b4⟩, ⟨x1, x2, x3⟩, ⟨d1', d2, d3⟩, q1, q2, q3⟩ := r1
      have hK' := hA'.1
      have hK'' := hK'
      have cK' := cM hK'
      obtain ⟨-, y0, y18, y19, z63, z64⟩ := hK''
      have iw : inB (n : Int) FW.length := inB_n (show n < FW.length by rw [FW_7]; clear hw; omega) (by decide)
      have fw := FW_get (show n < 7 by clear hw; omega)
      have e1 : ((FC n : Nat) : Int) - 1 = ((FC n - 1 : Nat) : Int) := by clear hw; omega
      have bc : lst n G (FC n - 1) < 2147483648 := by clear hw; omega
      have ia : inB ((lst n G (FC n - 1) : Nat) : Int) fa'.length := by rw [q1]; exact inB_n (by clear hw; omega) (by decide)
      have ib : inB ((lst n G (FC n - 1) : Nat) : Int) fe'.length := by rw [q2]; exact inB_n (by clear hw; omega) (by decide)
      have k1 := fun R => m_rowBy (d + 97) hK' hT R
      have k2 := fun R => m_leastOf (d + 94) hA' b1 hT R
      have k3 := fun R => m_rank (d + 97) hK' hc R
      by_cases c0 : w = 0
      · subst c0
        have ew : wuV n G (decide ((0 : Int) = 0)) = wuF n G true (lst n G (FC n - 1)) := by rw [decide_eq_true rfl]; rfl
        rw [ew]
        rw [callD_k]; simp only [entL_i, entL_l, entL_q, entL_s, entL_nil, n_X11_wayUp, u_X11_wayUp, m_X11_wayUp, rep_1, List.cons_append, List.nil_append, List.append_nil, List.length_cons, List.length_nil, Nat.reduceAdd, true_and]
        simp only [AW_k, AWk_1, x_iload_1, x_i2l, x_push_i, x_push_l, x_call_3, x_if_ne, x_ret, x_ret_i, x_ret_z, x_ret_l, x_ret_c, k_X11_wayUp_0, k_X11_wayUp_1, k_X11_wayUp_2, k_X11_wayUp_3, k_X11_wayUp_4, k_X11_wayUp_5, k_X11_wayUp_6, k_X11_wayUp_7, oE_some, Int.reduceToNat, Nat.reduceAdd, true_and, and_true, List.length_cons, List.length_nil, Option.toList_some, Option.toList_none, List.cons_append, List.nil_append, Nat.reduceLeDiff, Nat.le_refl, wdS_nil, wdS_i, wdS_l, wdS_r, wdS_n, wdS_s, m_in (d + 98), tI_id hw, q0_I, one_long, d1, zI_t, w10, ↓reduceIte]
        simp only [AW_k, AWk_1, x_aload_0, x_aloads_0, x_getf, x_push_i, x_push_l, x_icmp_ne, x_ret, x_ret_i, x_ret_z, x_ret_l, x_ret_c, x_callv_1, x_iald, x_ialds, x_isub, x_callv_2, x_istore_2, x_iload_1, x_if_ne, x_iload_2, x_goto, unl_i, unl_l, unl_q, unl_r, unl_s, unl_n, k_X11_wayUp_8, k_X11_wayUp_9, k_X11_wayUp_10, k_X11_wayUp_11, k_X11_wayUp_12, k_X11_wayUp_13, k_X11_wayUp_14, k_X11_wayUp_15, k_X11_wayUp_16, k_X11_wayUp_17, k_X11_wayUp_18, k_X11_wayUp_19, k_X11_wayUp_20, k_X11_wayUp_21, k_X11_wayUp_22, k_X11_wayUp_23, k_X11_wayUp_24, k_X11_wayUp_25, k_X11_wayUp_26, k_X11_wayUp_27, k_X11_wayUp_28, k_X11_wayUp_29, k_X11_wayUp_30, k_X11_wayUp_31, k_X11_wayUp_32, k_X11_wayUp_33, k_X11_wayUp_34, k_X11_wayUp_35, k_X11_wayUp_36, k_X11_wayUp_37, k_X11_wayUp_38, k_X11_wayUp_39, k_X11_wayUp_40, k_X11_wayUp_41, oE_some, Int.reduceToNat, Nat.reduceAdd, true_and, and_true, List.length_cons, List.length_nil, Option.toList_some, Option.toList_none, List.cons_append, List.nil_append, Nat.reduceLeDiff, Nat.le_refl, wdS_nil, wdS_i, wdS_l, wdS_r, wdS_n, wdS_s, g0, w32_nat bn, i6, n6, cK, r5, cK', y19, z64, y0, w32_tn bn, iw, fw, e1, k1, k2, k3, w00, x1, d1', ia, w32_nat bc, Int.toNat_natCast, va, ↓reduceIte]
      · have ew : wuV n G (decide (w = 0)) = wuF n G false (lst n G (FC n - 1)) := by rw [decide_eq_false c0]; rfl
        rw [ew]
        rw [callD_k]; simp only [entL_i, entL_l, entL_q, entL_s, entL_nil, n_X11_wayUp, u_X11_wayUp, m_X11_wayUp, rep_1, List.cons_append, List.nil_append, List.append_nil, List.length_cons, List.length_nil, Nat.reduceAdd, true_and]
        simp only [AW_k, AWk_1, x_iload_1, x_i2l, x_push_i, x_push_l, x_call_3, x_if_ne, x_ret, x_ret_i, x_ret_z, x_ret_l, x_ret_c, k_X11_wayUp_0, k_X11_wayUp_1, k_X11_wayUp_2, k_X11_wayUp_3, k_X11_wayUp_4, k_X11_wayUp_5, k_X11_wayUp_6, k_X11_wayUp_7, oE_some, Int.reduceToNat, Nat.reduceAdd, true_and, and_true, List.length_cons, List.length_nil, Option.toList_some, Option.toList_none, List.cons_append, List.nil_append, Nat.reduceLeDiff, Nat.le_refl, wdS_nil, wdS_i, wdS_l, wdS_r, wdS_n, wdS_s, m_in (d + 98), tI_id hw, q0_I, one_long, d1, zI_t, w10, ↓reduceIte]
        simp only [AW_k, AWk_1, x_aload_0, x_aloads_0, x_getf, x_push_i, x_push_l, x_icmp_ne, x_ret, x_ret_i, x_ret_z, x_ret_l, x_ret_c, x_callv_1, x_iald, x_ialds, x_isub, x_callv_2, x_istore_2, x_iload_1, x_if_ne, x_iload_2, x_goto, unl_i, unl_l, unl_q, unl_r, unl_s, unl_n, k_X11_wayUp_8, k_X11_wayUp_9, k_X11_wayUp_10, k_X11_wayUp_11, k_X11_wayUp_12, k_X11_wayUp_13, k_X11_wayUp_14, k_X11_wayUp_15, k_X11_wayUp_16, k_X11_wayUp_17, k_X11_wayUp_18, k_X11_wayUp_19, k_X11_wayUp_20, k_X11_wayUp_21, k_X11_wayUp_22, k_X11_wayUp_23, k_X11_wayUp_24, k_X11_wayUp_25, k_X11_wayUp_26, k_X11_wayUp_27, k_X11_wayUp_28, k_X11_wayUp_29, k_X11_wayUp_30, k_X11_wayUp_31, k_X11_wayUp_32, k_X11_wayUp_33, k_X11_wayUp_34, k_X11_wayUp_35, k_X11_wayUp_36, k_X11_wayUp_37, k_X11_wayUp_38, k_X11_wayUp_39, k_X11_wayUp_40, k_X11_wayUp_41, oE_some, Int.reduceToNat, Nat.reduceAdd, true_and, and_true, List.length_cons, List.length_nil, Option.toList_some, Option.toList_none, List.cons_append, List.nil_append, Nat.reduceLeDiff, Nat.le_refl, wdS_nil, wdS_i, wdS_l, wdS_r, wdS_n, wdS_s, g0, w32_nat bn, i6, n6, cK, r5, cK', y19, z64, y0, w32_tn bn, iw, fw, e1, k1, k2, k3, hw, c0, x2, d2, ib, w32_nat bc, Int.toNat_natCast, vb, ↓reduceIte]
    · rw [if_neg h5]
      have n6 : ((n : Int) = 6) = True := eq_true (by clear hw; omega)
      refine ⟨hp, hX0, Fr_refl hp, fun R => ?_⟩
      rw [callD_k]; simp only [entL_i, entL_l, entL_q, entL_s, entL_nil, n_X11_wayUp, u_X11_wayUp, m_X11_wayUp, rep_1, List.cons_append, List.nil_append, List.append_nil, List.length_cons, List.length_nil, Nat.reduceAdd, true_and]
      simp only [AW_k, AWk_1, x_iload_1, x_i2l, x_push_i, x_push_l, x_call_3, x_if_ne, x_ret, x_ret_i, x_ret_z, x_ret_l, x_ret_c, k_X11_wayUp_0, k_X11_wayUp_1, k_X11_wayUp_2, k_X11_wayUp_3, k_X11_wayUp_4, k_X11_wayUp_5, k_X11_wayUp_6, k_X11_wayUp_7, oE_some, Int.reduceToNat, Nat.reduceAdd, true_and, and_true, List.length_cons, List.length_nil, Option.toList_some, Option.toList_none, List.cons_append, List.nil_append, Nat.reduceLeDiff, Nat.le_refl, wdS_nil, wdS_i, wdS_l, wdS_r, wdS_n, wdS_s, m_in (d + 98), tI_id hw, q0_I, one_long, d1, zI_t, w10, ↓reduceIte]
      simp only [AW_k, AWk_1, x_aload_0, x_aloads_0, x_getf, x_push_i, x_push_l, x_icmp_ne, x_ret, x_ret_i, x_ret_z, x_ret_l, x_ret_c, k_X11_wayUp_8, k_X11_wayUp_9, k_X11_wayUp_10, k_X11_wayUp_11, k_X11_wayUp_12, k_X11_wayUp_13, oE_some, Int.reduceToNat, Nat.reduceAdd, true_and, and_true, List.length_cons, List.length_nil, Option.toList_some, Option.toList_none, List.cons_append, List.nil_append, Nat.reduceLeDiff, Nat.le_refl, wdS_nil, wdS_i, wdS_l, wdS_r, wdS_n, wdS_s, g0, w32_nat bn, i6, n6, ↓reduceIte]
  · have d1 : inI w 0 1 = false := decide_eq_false c
    rw [if_neg c]
    refine ⟨hp, hX0, Fr_refl hp, fun R => ?_⟩
    rw [callD_k]; simp only [entL_i, entL_l, entL_q, entL_s, entL_nil, n_X11_wayUp, u_X11_wayUp, m_X11_wayUp, rep_1, List.cons_append, List.nil_append, List.append_nil, List.length_cons, List.length_nil, Nat.reduceAdd, true_and]
    simp only [AW_k, AWk_1, x_iload_1, x_i2l, x_push_i, x_push_l, x_call_3, x_if_ne, x_ret, x_ret_i, x_ret_z, x_ret_l, x_ret_c, k_X11_wayUp_0, k_X11_wayUp_1, k_X11_wayUp_2, k_X11_wayUp_3, k_X11_wayUp_4, k_X11_wayUp_5, k_X11_wayUp_6, k_X11_wayUp_7, oE_some, Int.reduceToNat, Nat.reduceAdd, true_and, and_true, List.length_cons, List.length_nil, Option.toList_some, Option.toList_none, List.cons_append, List.nil_append, Nat.reduceLeDiff, Nat.le_refl, wdS_nil, wdS_i, wdS_l, wdS_r, wdS_n, wdS_s, m_in (d + 98), tI_id hw, q0_I, one_long, d1, zI_f, w00, ↓reduceIte]
