/-! ===== the reference's stairs ===== -/
set_option maxHeartbeats 16000000 in
theorem m_isStep (d : Nat) {hp : HP} {sc : Nat} {i w : Int} (g36 : gF hp 54 11 36 = some (mI (sc : Int))) (hi : w32 i = i) (hw : w32 w = w) (hc : sc ≤ 15) (R : PO) : callD (d + 2) 256 [mR 54, mI i, mI w] hp R ↔ R (some (mI (zI (stO sc i w).isSome))) hp := by
  have es : w32 ((sc : Int) - 1) = (sc : Int) - 1 := w32_id (by omega) (by omega)
  by_cases c1 : 0 ≤ i ∧ i ≤ (sc : Int) - 1
  · have d1 : inI i 0 ((sc : Int) - 1) = true := decide_eq_true c1
    by_cases c2 : 0 ≤ w ∧ w ≤ 1
    · have d2 : inI w 0 1 = true := decide_eq_true c2
      have e : stO sc i w = some (i.toNat * 2 + w.toNat) := if_pos ⟨c1.1, by omega, c2.1, c2.2⟩
      rw [e, Option.isSome_some]
      rw [callD_k]; simp only [entL_i, entL_l, entL_q, entL_s, entL_nil, n_X11_isStep, u_X11_isStep, m_X11_isStep, rep_0, List.cons_append, List.nil_append, List.append_nil, List.length_cons, List.length_nil, Nat.reduceAdd, true_and]
      simp only [AW_k, AWk_1, x_iload_1, x_i2l, x_push_i, x_push_l, x_aload_0, x_aloads_0, x_getf, x_isub, x_call_3, x_if_eq, k_X11_isStep_0, k_X11_isStep_1, k_X11_isStep_2, k_X11_isStep_3, k_X11_isStep_4, k_X11_isStep_5, k_X11_isStep_6, k_X11_isStep_7, k_X11_isStep_8, k_X11_isStep_9, oE_some, Int.reduceToNat, Nat.reduceAdd, true_and, and_true, List.length_cons, List.length_nil, Option.toList_some, Option.toList_none, List.cons_append, List.nil_append, Nat.reduceLeDiff, Nat.le_refl, wdS_nil, wdS_i, wdS_l, wdS_r, wdS_n, wdS_s, g36, m_in d, tI_id hi, tI_id es, q0_I, d1, zI_t, w10, ↓reduceIte]
      simp only [AW_k, AWk_1, x_iload_2, x_i2l, x_push_i, x_push_l, x_call_3, x_if_eq, x_goto, x_ret, x_ret_i, x_ret_z, x_ret_l, x_ret_c, k_X11_isStep_10, k_X11_isStep_11, k_X11_isStep_12, k_X11_isStep_13, k_X11_isStep_14, k_X11_isStep_15, k_X11_isStep_16, k_X11_isStep_17, k_X11_isStep_18, k_X11_isStep_19, oE_some, Int.reduceToNat, Nat.reduceAdd, true_and, and_true, List.length_cons, List.length_nil, Option.toList_some, Option.toList_none, List.cons_append, List.nil_append, Nat.reduceLeDiff, Nat.le_refl, wdS_nil, wdS_i, wdS_l, wdS_r, wdS_n, wdS_s, m_in d, tI_id hw, q0_I, q1_I, d2, zI_t, w10, or_true, true_and, ↓reduceIte]
    · have d2 : inI w 0 1 = false := decide_eq_false c2
      have e : stO sc i w = none := if_neg (fun q => c2 q.2.2)
      rw [e, Option.isSome_none]
      rw [callD_k]; simp only [entL_i, entL_l, entL_q, entL_s, entL_nil, n_X11_isStep, u_X11_isStep, m_X11_isStep, rep_0, List.cons_append, List.nil_append, List.append_nil, List.length_cons, List.length_nil, Nat.reduceAdd, true_and]
      simp only [AW_k, AWk_1, x_iload_1, x_i2l, x_push_i, x_push_l, x_aload_0, x_aloads_0, x_getf, x_isub, x_call_3, x_if_eq, k_X11_isStep_0, k_X11_isStep_1, k_X11_isStep_2, k_X11_isStep_3, k_X11_isStep_4, k_X11_isStep_5, k_X11_isStep_6, k_X11_isStep_7, k_X11_isStep_8, k_X11_isStep_9, oE_some, Int.reduceToNat, Nat.reduceAdd, true_and, and_true, List.length_cons, List.length_nil, Option.toList_some, Option.toList_none, List.cons_append, List.nil_append, Nat.reduceLeDiff, Nat.le_refl, wdS_nil, wdS_i, wdS_l, wdS_r, wdS_n, wdS_s, g36, m_in d, tI_id hi, tI_id es, q0_I, d1, zI_t, w10, ↓reduceIte]
      simp only [AW_k, AWk_1, x_iload_2, x_i2l, x_push_i, x_push_l, x_call_3, x_if_eq, x_goto, x_ret, x_ret_i, x_ret_z, x_ret_l, x_ret_c, k_X11_isStep_10, k_X11_isStep_11, k_X11_isStep_12, k_X11_isStep_13, k_X11_isStep_14, k_X11_isStep_15, k_X11_isStep_16, k_X11_isStep_17, k_X11_isStep_18, k_X11_isStep_19, oE_some, Int.reduceToNat, Nat.reduceAdd, true_and, and_true, List.length_cons, List.length_nil, Option.toList_some, Option.toList_none, List.cons_append, List.nil_append, Nat.reduceLeDiff, Nat.le_refl, wdS_nil, wdS_i, wdS_l, wdS_r, wdS_n, wdS_s, m_in d, tI_id hw, q0_I, q1_I, d2, zI_f, w00, true_or, true_and, ↓reduceIte]
  · have d1 : inI i 0 ((sc : Int) - 1) = false := decide_eq_false c1
    have e : stO sc i w = none := if_neg (fun q => c1 ⟨q.1, by omega⟩)
    rw [e, Option.isSome_none]
    rw [callD_k]; simp only [entL_i, entL_l, entL_q, entL_s, entL_nil, n_X11_isStep, u_X11_isStep, m_X11_isStep, rep_0, List.cons_append, List.nil_append, List.append_nil, List.length_cons, List.length_nil, Nat.reduceAdd, true_and]
    simp only [AW_k, AWk_1, x_iload_1, x_i2l, x_push_i, x_push_l, x_aload_0, x_aloads_0, x_getf, x_isub, x_call_3, x_if_eq, x_iload_2, x_goto, x_ret, x_ret_i, x_ret_z, x_ret_l, x_ret_c, k_X11_isStep_0, k_X11_isStep_1, k_X11_isStep_2, k_X11_isStep_3, k_X11_isStep_4, k_X11_isStep_5, k_X11_isStep_6, k_X11_isStep_7, k_X11_isStep_8, k_X11_isStep_9, k_X11_isStep_10, k_X11_isStep_11, k_X11_isStep_12, k_X11_isStep_13, k_X11_isStep_14, k_X11_isStep_15, k_X11_isStep_16, k_X11_isStep_17, k_X11_isStep_18, k_X11_isStep_19, oE_some, Int.reduceToNat, Nat.reduceAdd, true_and, and_true, List.length_cons, List.length_nil, Option.toList_some, Option.toList_none, List.cons_append, List.nil_append, Nat.reduceLeDiff, Nat.le_refl, wdS_nil, wdS_i, wdS_l, wdS_r, wdS_n, wdS_s, g36, m_in d, tI_id hi, tI_id es, q0_I, d1, zI_f, w00, true_or, true_and, ↓reduceIte]
set_option maxHeartbeats 16000000 in
theorem x_step_m (d : Nat) {hp : HP} {n : Nat} {G : BitVec 64} {z : Int} {c : Nat} {ks : List Int} {es : List Int} {ik : Bool} {kn : Nat} {kG : BitVec 64} {kz : Int} {kc : Nat} {kks : List Int} {kes : List Int} {tc : Nat} {tb : List Int} {sc : Nat} {tl : List Int} {so : List Int} {le : List Int} {it : Nat → List (BitVec 64)} {he : List Int} {th : List Int} {sl : List Int} {tr : Nat} {bo : List Int} {i w : Int} (hX : MI (hp) n G z c ks es ik kn kG kz kc kks kes tc tb sc tl so le it he th sl tr bo) (hO : stOK sc tl) (hi : w32 i = i) (hw : w32 w = w) (R : PO) : callD (d + 100) 257 [mR 54, mI i, mI w] hp R ↔ R (some (mI (stA sc tl i w))) hp := by
  obtain ⟨⟨u1, u2, u3⟩, kN, kZ, kM, kGm, l5, l6, qk, q0, q1, q2, q3, q4, q5, q6, q7, q8, q9⟩ := hX
  obtain ⟨fr_, to_, co_, op_, wr_, ki_, nu_, mm_, pa_, hF⟩ := YO_F q0
  have hA : MA hp n := ⟨⟨⟨u2, u3⟩, hF 0, hF 18, hF 19, q1.1.1, q1.1.2⟩, ⟨hF 13, hF 14, hF 15, hF 16, hF 17⟩, q1.2⟩
  have hK := hA.1
  have cK := cM hK
  have hG : gF hp 54 11 3 = some (mL G) := hF 3
  have hs := m_isStep (d + 97) (hF 36) hi hw hO.1
  unfold stA
  cases e : stO sc i w with
  | none =>
    rw [e, Option.isSome_none] at hs
    rw [callD_k]; simp only [entL_i, entL_l, entL_q, entL_s, entL_nil, n_X11_step, u_X11_step, m_X11_step, rep_0, List.cons_append, List.nil_append, List.append_nil, List.length_cons, List.length_nil, Nat.reduceAdd, true_and]
    simp only [AW_k, AWk_1, x_aload_0, x_aloads_0, x_iload_1, x_iload_2, x_callv_3, x_if_eq, x_getf, x_push_i, x_push_l, x_imul, x_iadd, x_iald, x_ialds, x_goto, x_ret, x_ret_i, x_ret_z, x_ret_l, x_ret_c, k_X11_step_0, k_X11_step_1, k_X11_step_2, k_X11_step_3, k_X11_step_4, k_X11_step_5, k_X11_step_6, k_X11_step_7, k_X11_step_8, k_X11_step_9, k_X11_step_10, k_X11_step_11, k_X11_step_12, k_X11_step_13, k_X11_step_14, k_X11_step_15, oE_some, Int.reduceToNat, Nat.reduceAdd, true_and, and_true, List.length_cons, List.length_nil, Option.toList_some, Option.toList_none, List.cons_append, List.nil_append, Nat.reduceLeDiff, Nat.le_refl, wdS_nil, wdS_i, wdS_l, wdS_r, wdS_n, wdS_s, cK, hs, zI_f, w00, ↓reduceIte]
  | some k =>
    rw [e, Option.isSome_some] at hs
    obtain ⟨k30, ek⟩ := stO_lt e hO.1
    have ek2 : 2 * i + w = (k : Int) := by omega
    have bk : k < 2147483648 := by omega
    have iB : inB (k : Int) tl.length := by rw [hO.2.1]; exact inB_n k30 (by decide)
    have g35 : gF hp 54 11 35 = some (mR 74) := hF 35
    have a74 := q6.1
    rw [callD_k]; simp only [entL_i, entL_l, entL_q, entL_s, entL_nil, n_X11_step, u_X11_step, m_X11_step, rep_0, List.cons_append, List.nil_append, List.append_nil, List.length_cons, List.length_nil, Nat.reduceAdd, true_and]
    simp only [AW_k, AWk_1, x_aload_0, x_aloads_0, x_iload_1, x_iload_2, x_callv_3, x_if_eq, x_getf, x_push_i, x_push_l, x_imul, x_iadd, x_iald, x_ialds, x_goto, x_ret, x_ret_i, x_ret_z, x_ret_l, x_ret_c, k_X11_step_0, k_X11_step_1, k_X11_step_2, k_X11_step_3, k_X11_step_4, k_X11_step_5, k_X11_step_6, k_X11_step_7, k_X11_step_8, k_X11_step_9, k_X11_step_10, k_X11_step_11, k_X11_step_12, k_X11_step_13, k_X11_step_14, k_X11_step_15, oE_some, Int.reduceToNat, Nat.reduceAdd, true_and, and_true, List.length_cons, List.length_nil, Option.toList_some, Option.toList_none, List.cons_append, List.nil_append, Nat.reduceLeDiff, Nat.le_refl, wdS_nil, wdS_i, wdS_l, wdS_r, wdS_n, wdS_s, cK, hs, zI_t, w10, g35, a74, ek2, iB, w32_nat bk, Int.toNat_natCast, ↓reduceIte]
set_option maxHeartbeats 16000000 in
theorem x_alterStep_m (d : Nat) {hp : HP} {n : Nat} {G : BitVec 64} {z : Int} {c : Nat} {ks : List Int} {es : List Int} {ik : Bool} {kn : Nat} {kG : BitVec 64} {kz : Int} {kc : Nat} {kks : List Int} {kes : List Int} {tc : Nat} {tb : List Int} {sc : Nat} {tl : List Int} {so : List Int} {le : List Int} {it : Nat → List (BitVec 64)} {he : List Int} {th : List Int} {sl : List Int} {tr : Nat} {bo : List Int} {i w v : Int} (hX : MI (hp) n G z c ks es ik kn kG kz kc kks kes tc tb sc tl so le it he th sl tr bo) (hO : stOK sc tl) (hi : w32 i = i) (hw : w32 w = w) (hv : w32 v = v) : ∃ h', MI (h') n G z c ks es ik kn kG kz kc kks kes tc tb sc (stU sc tl i w v) so le it he th sl tr bo ∧ Fr 54 83 hp h' ∧ ∀ R : PO, callD (d + 100) 258 [mR 54, mI i, mI w, mI v] hp R ↔ R (some (mI (stA sc tl i w))) h' := by
  have hX0 := hX
  obtain ⟨⟨u1, u2, u3⟩, kN, kZ, kM, kGm, l5, l6, qk, q0, q1, q2, q3, q4, q5, q6, q7, q8, q9⟩ := hX
  obtain ⟨fr_, to_, co_, op_, wr_, ki_, nu_, mm_, pa_, hF⟩ := YO_F q0
  have hA : MA hp n := ⟨⟨⟨u2, u3⟩, hF 0, hF 18, hF 19, q1.1.1, q1.1.2⟩, ⟨hF 13, hF 14, hF 15, hF 16, hF 17⟩, q1.2⟩
  have hK := hA.1
  have cK := cM hK
  have hG : gF hp 54 11 3 = some (mL G) := hF 3
  have hs := fun R => m_isStep (d + 97) (hF 36) hi hw hO.1 R
  unfold stA stU
  cases e : stO sc i w with
  | none =>
    rw [e, Option.isSome_none] at hs
    refine ⟨hp, hX0, Fr_refl hp, fun R => ?_⟩
    rw [callD_k]; simp only [entL_i, entL_l, entL_q, entL_s, entL_nil, n_X11_alterStep, u_X11_alterStep, m_X11_alterStep, rep_1, List.cons_append, List.nil_append, List.append_nil, List.length_cons, List.length_nil, Nat.reduceAdd, true_and]
    simp only [AW_k, AWk_1, x_aload_0, x_aloads_0, x_iload_1, x_iload_2, x_callv_3, x_if_ne, x_push_i, x_push_l, x_ret, x_ret_i, x_ret_z, x_ret_l, x_ret_c, x_getf, x_imul, x_iadd, x_iald, x_ialds, x_istore_4, x_iload_3, x_iast, x_iload_4, unl_i, unl_l, unl_q, unl_r, unl_s, unl_n, k_X11_alterStep_0, k_X11_alterStep_1, k_X11_alterStep_2, k_X11_alterStep_3, k_X11_alterStep_4, k_X11_alterStep_5, k_X11_alterStep_6, k_X11_alterStep_7, k_X11_alterStep_8, k_X11_alterStep_9, k_X11_alterStep_10, k_X11_alterStep_11, k_X11_alterStep_12, k_X11_alterStep_13, k_X11_alterStep_14, k_X11_alterStep_15, k_X11_alterStep_16, k_X11_alterStep_17, k_X11_alterStep_18, k_X11_alterStep_19, k_X11_alterStep_20, k_X11_alterStep_21, k_X11_alterStep_22, k_X11_alterStep_23, k_X11_alterStep_24, k_X11_alterStep_25, k_X11_alterStep_26, oE_some, Int.reduceToNat, Nat.reduceAdd, true_and, and_true, List.length_cons, List.length_nil, Option.toList_some, Option.toList_none, List.cons_append, List.nil_append, Nat.reduceLeDiff, Nat.le_refl, wdS_nil, wdS_i, wdS_l, wdS_r, wdS_n, wdS_s, cK, hs, zI_f, w00, ↓reduceIte]
  | some k =>
    rw [e, Option.isSome_some] at hs
    obtain ⟨k30, ek⟩ := stO_lt e hO.1
    have ek2 : 2 * i + w = (k : Int) := by omega
    have bk : k < 2147483648 := by omega
    have iB : inB (k : Int) tl.length := by rw [hO.2.1]; exact inB_n k30 (by decide)
    have g35 : gF hp 54 11 35 = some (mR 74) := hF 35
    have a74 := q6.1
    refine ⟨pA hp 74 (tl.set k v), MI_S hX0 (Fr_pA (by omega) (by omega)) ⟨gA_pA_same a74, by rw [List.length_set]; exact q6.2⟩, Fr_pA (by omega) (by omega), fun R => ?_⟩
    rw [callD_k]; simp only [entL_i, entL_l, entL_q, entL_s, entL_nil, n_X11_alterStep, u_X11_alterStep, m_X11_alterStep, rep_1, List.cons_append, List.nil_append, List.append_nil, List.length_cons, List.length_nil, Nat.reduceAdd, true_and]
    simp only [AW_k, AWk_1, x_aload_0, x_aloads_0, x_iload_1, x_iload_2, x_callv_3, x_if_ne, x_push_i, x_push_l, x_ret, x_ret_i, x_ret_z, x_ret_l, x_ret_c, x_getf, x_imul, x_iadd, x_iald, x_ialds, x_istore_4, x_iload_3, x_iast, x_iload_4, unl_i, unl_l, unl_q, unl_r, unl_s, unl_n, k_X11_alterStep_0, k_X11_alterStep_1, k_X11_alterStep_2, k_X11_alterStep_3, k_X11_alterStep_4, k_X11_alterStep_5, k_X11_alterStep_6, k_X11_alterStep_7, k_X11_alterStep_8, k_X11_alterStep_9, k_X11_alterStep_10, k_X11_alterStep_11, k_X11_alterStep_12, k_X11_alterStep_13, k_X11_alterStep_14, k_X11_alterStep_15, k_X11_alterStep_16, k_X11_alterStep_17, k_X11_alterStep_18, k_X11_alterStep_19, k_X11_alterStep_20, k_X11_alterStep_21, k_X11_alterStep_22, k_X11_alterStep_23, k_X11_alterStep_24, k_X11_alterStep_25, k_X11_alterStep_26, oE_some, Int.reduceToNat, Nat.reduceAdd, true_and, and_true, List.length_cons, List.length_nil, Option.toList_some, Option.toList_none, List.cons_append, List.nil_append, Nat.reduceLeDiff, Nat.le_refl, wdS_nil, wdS_i, wdS_l, wdS_r, wdS_n, wdS_s, cK, hs, zI_t, w10, g35, a74, ek2, iB, w32_nat bk, Int.toNat_natCast, hv, ↓reduceIte]
