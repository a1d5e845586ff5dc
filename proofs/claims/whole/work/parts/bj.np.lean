/-! ===== the reference's put ===== -/
set_option maxHeartbeats 8000000 in
theorem m_narrowed (d : Nat) {hp : HP} {v : BitVec 64} {s : Int} (hs : w32 s = s) (R : PO) : callD (d + 1) 263 [mI s, mL v] hp R ↔ R (some (mL (nrw v s))) hp := by
  unfold nrw
  by_cases e0 : s = 0
  · subst e0
    rw [callD_k]; simp only [entL_i, entL_l, entL_q, entL_s, entL_nil, n_X11_narrowed, u_X11_narrowed, m_X11_narrowed, rep_0, List.cons_append, List.nil_append, List.append_nil, List.length_cons, List.length_nil, Nat.reduceAdd, true_and]
    simp only [AW_k, AWk_1, x_iload_0, x_if_ne, x_lload_1, x_l2i, x_i2b, x_i2l, x_goto, x_push_i, x_push_l, x_icmp_ne, x_i2s, x_ret, x_ret_i, x_ret_z, x_ret_l, x_ret_c, k_X11_narrowed_0, k_X11_narrowed_1, k_X11_narrowed_2, k_X11_narrowed_3, k_X11_narrowed_4, k_X11_narrowed_5, k_X11_narrowed_6, k_X11_narrowed_7, k_X11_narrowed_8, k_X11_narrowed_9, k_X11_narrowed_10, k_X11_narrowed_11, k_X11_narrowed_12, k_X11_narrowed_13, k_X11_narrowed_14, k_X11_narrowed_15, k_X11_narrowed_16, k_X11_narrowed_17, k_X11_narrowed_18, k_X11_narrowed_19, k_X11_narrowed_20, k_X11_narrowed_21, k_X11_narrowed_22, k_X11_narrowed_23, oE_some, Int.reduceToNat, Nat.reduceAdd, true_and, and_true, List.length_cons, List.length_nil, Option.toList_some, Option.toList_none, List.cons_append, List.nil_append, Nat.reduceLeDiff, Nat.le_refl, wdS_nil, wdS_i, wdS_l, wdS_r, wdS_n, wdS_s, show w32 0 = 0 from rfl, ↓reduceIte]
  · rw [if_neg e0]
    by_cases e1 : s = 1
    · subst e1
      rw [callD_k]; simp only [entL_i, entL_l, entL_q, entL_s, entL_nil, n_X11_narrowed, u_X11_narrowed, m_X11_narrowed, rep_0, List.cons_append, List.nil_append, List.append_nil, List.length_cons, List.length_nil, Nat.reduceAdd, true_and]
      simp only [AW_k, AWk_1, x_iload_0, x_if_ne, x_lload_1, x_l2i, x_i2b, x_i2l, x_goto, x_push_i, x_push_l, x_icmp_ne, x_i2s, x_ret, x_ret_i, x_ret_z, x_ret_l, x_ret_c, k_X11_narrowed_0, k_X11_narrowed_1, k_X11_narrowed_2, k_X11_narrowed_3, k_X11_narrowed_4, k_X11_narrowed_5, k_X11_narrowed_6, k_X11_narrowed_7, k_X11_narrowed_8, k_X11_narrowed_9, k_X11_narrowed_10, k_X11_narrowed_11, k_X11_narrowed_12, k_X11_narrowed_13, k_X11_narrowed_14, k_X11_narrowed_15, k_X11_narrowed_16, k_X11_narrowed_17, k_X11_narrowed_18, k_X11_narrowed_19, k_X11_narrowed_20, k_X11_narrowed_21, k_X11_narrowed_22, k_X11_narrowed_23, oE_some, Int.reduceToNat, Nat.reduceAdd, true_and, and_true, List.length_cons, List.length_nil, Option.toList_some, Option.toList_none, List.cons_append, List.nil_append, Nat.reduceLeDiff, Nat.le_refl, wdS_nil, wdS_i, wdS_l, wdS_r, wdS_n, wdS_s, show w32 1 = 1 from rfl, Int.reduceEq, ↓reduceIte]
    · rw [if_neg e1]
      by_cases e2 : s = 2
      · subst e2
        rw [callD_k]; simp only [entL_i, entL_l, entL_q, entL_s, entL_nil, n_X11_narrowed, u_X11_narrowed, m_X11_narrowed, rep_0, List.cons_append, List.nil_append, List.append_nil, List.length_cons, List.length_nil, Nat.reduceAdd, true_and]
        simp only [AW_k, AWk_1, x_iload_0, x_if_ne, x_lload_1, x_l2i, x_i2b, x_i2l, x_goto, x_push_i, x_push_l, x_icmp_ne, x_i2s, x_ret, x_ret_i, x_ret_z, x_ret_l, x_ret_c, k_X11_narrowed_0, k_X11_narrowed_1, k_X11_narrowed_2, k_X11_narrowed_3, k_X11_narrowed_4, k_X11_narrowed_5, k_X11_narrowed_6, k_X11_narrowed_7, k_X11_narrowed_8, k_X11_narrowed_9, k_X11_narrowed_10, k_X11_narrowed_11, k_X11_narrowed_12, k_X11_narrowed_13, k_X11_narrowed_14, k_X11_narrowed_15, k_X11_narrowed_16, k_X11_narrowed_17, k_X11_narrowed_18, k_X11_narrowed_19, k_X11_narrowed_20, k_X11_narrowed_21, k_X11_narrowed_22, k_X11_narrowed_23, oE_some, Int.reduceToNat, Nat.reduceAdd, true_and, and_true, List.length_cons, List.length_nil, Option.toList_some, Option.toList_none, List.cons_append, List.nil_append, Nat.reduceLeDiff, Nat.le_refl, wdS_nil, wdS_i, wdS_l, wdS_r, wdS_n, wdS_s, show w32 1 = 1 from rfl, show w32 2 = 2 from rfl, Int.reduceEq, ↓reduceIte]
      · rw [if_neg e2]
        rw [callD_k]; simp only [entL_i, entL_l, entL_q, entL_s, entL_nil, n_X11_narrowed, u_X11_narrowed, m_X11_narrowed, rep_0, List.cons_append, List.nil_append, List.append_nil, List.length_cons, List.length_nil, Nat.reduceAdd, true_and]
        simp only [AW_k, AWk_1, x_iload_0, x_if_ne, x_lload_1, x_l2i, x_i2b, x_i2l, x_goto, x_push_i, x_push_l, x_icmp_ne, x_i2s, x_ret, x_ret_i, x_ret_z, x_ret_l, x_ret_c, k_X11_narrowed_0, k_X11_narrowed_1, k_X11_narrowed_2, k_X11_narrowed_3, k_X11_narrowed_4, k_X11_narrowed_5, k_X11_narrowed_6, k_X11_narrowed_7, k_X11_narrowed_8, k_X11_narrowed_9, k_X11_narrowed_10, k_X11_narrowed_11, k_X11_narrowed_12, k_X11_narrowed_13, k_X11_narrowed_14, k_X11_narrowed_15, k_X11_narrowed_16, k_X11_narrowed_17, k_X11_narrowed_18, k_X11_narrowed_19, k_X11_narrowed_20, k_X11_narrowed_21, k_X11_narrowed_22, k_X11_narrowed_23, oE_some, Int.reduceToNat, Nat.reduceAdd, true_and, and_true, List.length_cons, List.length_nil, Option.toList_some, Option.toList_none, List.cons_append, List.nil_append, Nat.reduceLeDiff, Nat.le_refl, wdS_nil, wdS_i, wdS_l, wdS_r, wdS_n, wdS_s, show w32 1 = 1 from rfl, show w32 2 = 2 from rfl, hs, e0, e1, e2, ↓reduceIte]
theorem ce_set {ce : List (BitVec 64)} {it : Nat → List (BitVec 64)} {s i0 : Nat} {v : BitVec 64} (lce : ce.length = 160) (hce : ∀ k, k < 4 → ∀ j, j < 40 → ce.getD (40 * k + j) 0 = (it k).getD j 0) (hs : s < 4) (hi : i0 < 40) (hl : ∀ k, k < 4 → (it k).length = 40) : ∀ k, k < 4 → ∀ j, j < 40 → (ce.set (40 * s + i0) v).getD (40 * k + j) 0 = ((updF it s ((it s).set i0 v)) k).getD j 0 := by
  intro k hk j hj
  rw [getD_set (by omega)]
  unfold updF
  by_cases e : k = s
  · subst e
    rw [if_pos rfl, getD_set (by rw [hl k hk]; exact hi)]
    by_cases e2 : i0 = j
    · rw [if_pos (by omega), if_pos e2]
    · rw [if_neg (by omega), if_neg e2, hce k hk j hj]
  · rw [if_neg e, if_neg (by omega), hce k hk j hj]
set_option maxHeartbeats 16000000 in
theorem x_put_m (d : Nat) {hp : HP} {n : Nat} {G : BitVec 64} {z : Int} {c : Nat} {ks : List Int} {es : List Int} {ik : Bool} {kn : Nat} {kG : BitVec 64} {kz : Int} {kc : Nat} {kks : List Int} {kes : List Int} {tc : Nat} {tb : List Int} {sc : Nat} {tl : List Int} {so : List Int} {le : List Int} {it : Nat → List (BitVec 64)} {he : List Int} {th : List Int} {sl : List Int} {tr : Nat} {bo : List Int} {x i : Int} {v : BitVec 64} (hX : MI (hp) n G z c ks es ik kn kG kz kc kks kes tc tb sc tl so le it he th sl tr bo) (hO : shOK so le it) (hx : w32 x = x) (hi : w32 i = i) : ∃ h', MI (h') n G z c ks es ik kn kG kz kc kks kes tc tb sc tl so le (ptI so le it x i v) he th sl tr bo ∧ Fr 54 83 hp h' ∧ ∀ R : PO, callD (d + 100) 264 [mR 54, mI x, mI i, mL v] hp R ↔ R (some (mI (ptA so le x i))) h' := by
  have hX0 := hX
  obtain ⟨⟨u1, u2, u3⟩, kN, kZ, kM, kGm, l5, l6, qk, q0, q1, q2, q3, q4, q5, q6, q7, q8, q9⟩ := hX
  obtain ⟨fr_, to_, co_, op_, wr_, ki_, nu_, mm_, pa_, hF⟩ := YO_F q0
  have hA : MA hp n := ⟨⟨⟨u2, u3⟩, hF 0, hF 18, hF 19, q1.1.1, q1.1.2⟩, ⟨hF 13, hF 14, hF 15, hF 16, hF 17⟩, q1.2⟩
  have hK := hA.1
  have cK := cM hK
  have hG : gF hp 54 11 3 = some (mL G) := hF 3
  have g37 : gF hp 54 11 37 = some (mR 75) := hF 37
  have g38 : gF hp 54 11 38 = some (mR 76) := hF 38
  have g39 : gF hp 54 11 39 = some (mR 77) := hF 39
  obtain ⟨⟨a75, a76⟩, ⟨ce, j77, lce, hce⟩, as, j78, las⟩ := q7
  obtain ⟨lso, lle, lit, hlk⟩ := hO
  unfold ptI ptA
  cases ex : shO x with
  | none =>
    have e : ptO so le x i = none := by unfold ptO; rw [ex]
    rw [e]
    refine ⟨hp, hX0, Fr_refl hp, fun R => ?_⟩
    rw [callD_k]; simp only [entL_i, entL_l, entL_q, entL_s, entL_nil, n_X11_put, u_X11_put, m_X11_put, rep_0, List.cons_append, List.nil_append, List.append_nil, List.length_cons, List.length_nil, Nat.reduceAdd, true_and]
    simp only [AW_k, AWk_1, x_iload_1, x_call_1, x_if_ne, x_push_i, x_push_l, x_ret, x_ret_i, x_ret_z, x_ret_l, x_ret_c, x_aload_0, x_aloads_0, x_getf, x_iald, x_ialds, x_if_ge, x_iload_2, x_i2l, x_isub, x_call_3, x_imul, x_iadd, x_lload_3, x_call_2, x_last, k_X11_put_0, k_X11_put_1, k_X11_put_2, k_X11_put_3, k_X11_put_4, k_X11_put_5, k_X11_put_6, k_X11_put_7, k_X11_put_8, k_X11_put_9, k_X11_put_10, k_X11_put_11, k_X11_put_12, k_X11_put_13, k_X11_put_14, k_X11_put_15, k_X11_put_16, k_X11_put_17, k_X11_put_18, k_X11_put_19, k_X11_put_20, k_X11_put_21, k_X11_put_22, k_X11_put_23, k_X11_put_24, k_X11_put_25, k_X11_put_26, k_X11_put_27, k_X11_put_28, k_X11_put_29, k_X11_put_30, k_X11_put_31, k_X11_put_32, k_X11_put_33, k_X11_put_34, k_X11_put_35, k_X11_put_36, k_X11_put_37, k_X11_put_38, k_X11_put_39, k_X11_put_40, k_X11_put_41, oE_some, Int.reduceToNat, Nat.reduceAdd, true_and, and_true, List.length_cons, List.length_nil, Option.toList_some, Option.toList_none, List.cons_append, List.nil_append, Nat.reduceLeDiff, Nat.le_refl, wdS_nil, wdS_i, wdS_l, wdS_r, wdS_n, wdS_s, m_isSheet_n (d + 97) hx ex, w00, ↓reduceIte]
  | some s =>
    obtain ⟨hs, es'⟩ := shO_lt ex
    have ms := fun R => m_isSheet_s (d + 97) (hp := hp) hx ex R
    have e : ptO so le x i = if so.getD s 0 = -1 then none else if 0 ≤ i ∧ i < le.getD s 0 then some s else none := by unfold ptO; rw [ex]
    rw [e]
    have bs : s < 2147483648 := by omega
    obtain ⟨L, l1, l2, l3, l4⟩ := hlk s hs
    have iso : inB (s : Int) so.length := by rw [lso]; exact inB_n hs (by decide)
    have ile : inB (s : Int) le.length := by rw [lle]; exact inB_n hs (by decide)
    have r1 : -2147483648 ≤ so.getD s 0 := by omega
    have r2 : so.getD s 0 < 2147483648 := by omega
    have r3 : -2147483648 ≤ (L : Int) - 1 := by omega
    have r4 : (L : Int) - 1 < 2147483648 := by omega
    subst es'
    by_cases c0 : so.getD s 0 = -1
    · have n2 : (so.getD s 0 < 0) = True := eq_true (by clear hi hx; omega)
      rw [if_pos c0]
      refine ⟨hp, hX0, Fr_refl hp, fun R => ?_⟩
      simp only [if_pos c0]
      rw [callD_k]; simp only [entL_i, entL_l, entL_q, entL_s, entL_nil, n_X11_put, u_X11_put, m_X11_put, rep_0, List.cons_append, List.nil_append, List.append_nil, List.length_cons, List.length_nil, Nat.reduceAdd, true_and]
      simp only [AW_k, AWk_1, x_iload_1, x_call_1, x_if_ne, x_push_i, x_push_l, x_ret, x_ret_i, x_ret_z, x_ret_l, x_ret_c, x_aload_0, x_aloads_0, x_getf, x_iald, x_ialds, x_if_ge, x_iload_2, x_i2l, x_isub, x_call_3, x_imul, x_iadd, x_lload_3, x_call_2, x_last, k_X11_put_0, k_X11_put_1, k_X11_put_2, k_X11_put_3, k_X11_put_4, k_X11_put_5, k_X11_put_6, k_X11_put_7, k_X11_put_8, k_X11_put_9, k_X11_put_10, k_X11_put_11, k_X11_put_12, k_X11_put_13, k_X11_put_14, k_X11_put_15, k_X11_put_16, k_X11_put_17, k_X11_put_18, k_X11_put_19, k_X11_put_20, k_X11_put_21, k_X11_put_22, k_X11_put_23, k_X11_put_24, k_X11_put_25, k_X11_put_26, k_X11_put_27, k_X11_put_28, k_X11_put_29, k_X11_put_30, k_X11_put_31, k_X11_put_32, k_X11_put_33, k_X11_put_34, k_X11_put_35, k_X11_put_36, k_X11_put_37, k_X11_put_38, k_X11_put_39, k_X11_put_40, k_X11_put_41, oE_some, Int.reduceToNat, Nat.reduceAdd, true_and, and_true, List.length_cons, List.length_nil, Option.toList_some, Option.toList_none, List.cons_append, List.nil_append, Nat.reduceLeDiff, Nat.le_refl, wdS_nil, wdS_i, wdS_l, wdS_r, wdS_n, wdS_s, ms, w10, g37, a75, iso, w32_nat bs, Int.toNat_natCast, w32_id r1 r2, n2, ↓reduceIte]
    · have n2 : (so.getD s 0 < 0) = False := eq_false (by clear hi hx; omega)
      rw [if_neg c0]
      by_cases c1 : 0 ≤ i ∧ i < le.getD s 0
      · rw [if_pos c1]
        have d2 : inI i 0 ((L : Int) - 1) = true := decide_eq_true ⟨c1.1, by clear hi hx; omega⟩
        obtain ⟨j, ej⟩ : ∃ j : Nat, i = (j : Int) := ⟨i.toNat, by clear hi hx; omega⟩
        subst ej
        have hj40 : j < 40 := by clear hi hx; omega
        have ec : 40 * (s : Int) + (j : Int) = ((40 * s + j : Nat) : Int) := by clear hi hx; omega
        have bc : 40 * s + j < 2147483648 := by clear hi hx; omega
        have ic : inB ((40 * s + j : Nat) : Int) ce.length := by rw [lce]; exact inB_n (by clear hi hx; omega) (by decide)
        have hnew := ce_set (v := nrw v (so.getD s 0)) lce hce hs hj40 lit
        refine ⟨pJ hp 77 (ce.set (40 * s + j) (nrw v (so.getD s 0))), MI_H hX0 (Fr_pJ (by omega) (by omega)) ⟨⟨by rw [gA_pJ, a75], by rw [gA_pJ, a76]⟩, ⟨_, gJ_pJ_same j77, by rw [List.length_set]; exact lce, hnew⟩, as, by rw [gJ_pJ (by omega), j78], las⟩, Fr_pJ (by omega) (by omega), fun R => ?_⟩
        simp only [if_neg c0, if_pos c1]
        rw [callD_k]; simp only [entL_i, entL_l, entL_q, entL_s, entL_nil, n_X11_put, u_X11_put, m_X11_put, rep_0, List.cons_append, List.nil_append, List.append_nil, List.length_cons, List.length_nil, Nat.reduceAdd, true_and]
        simp only [AW_k, AWk_1, x_iload_1, x_call_1, x_if_ne, x_push_i, x_push_l, x_ret, x_ret_i, x_ret_z, x_ret_l, x_ret_c, x_aload_0, x_aloads_0, x_getf, x_iald, x_ialds, x_if_ge, x_iload_2, x_i2l, x_isub, x_call_3, k_X11_put_0, k_X11_put_1, k_X11_put_2, k_X11_put_3, k_X11_put_4, k_X11_put_5, k_X11_put_6, k_X11_put_7, k_X11_put_8, k_X11_put_9, k_X11_put_10, k_X11_put_11, k_X11_put_12, k_X11_put_13, k_X11_put_14, k_X11_put_15, k_X11_put_16, k_X11_put_17, k_X11_put_18, k_X11_put_19, k_X11_put_20, k_X11_put_21, k_X11_put_22, k_X11_put_23, oE_some, Int.reduceToNat, Nat.reduceAdd, true_and, and_true, List.length_cons, List.length_nil, Option.toList_some, Option.toList_none, List.cons_append, List.nil_append, Nat.reduceLeDiff, Nat.le_refl, wdS_nil, wdS_i, wdS_l, wdS_r, wdS_n, wdS_s, ms, w10, g37, a75, iso, w32_nat bs, Int.toNat_natCast, w32_id r1 r2, n2, g38, a76, ile, l1, m_in (d + 98), tI_id hi, tI_id (w32_id r3 r4), q0_I, d2, zI_t, ↓reduceIte]
        simp only [AW_k, AWk_1, x_aload_0, x_aloads_0, x_getf, x_push_i, x_push_l, x_iload_1, x_imul, x_iload_2, x_iadd, x_iald, x_ialds, x_lload_3, x_call_2, x_last, x_ret, x_ret_i, x_ret_z, x_ret_l, x_ret_c, k_X11_put_26, k_X11_put_27, k_X11_put_28, k_X11_put_29, k_X11_put_30, k_X11_put_31, k_X11_put_32, k_X11_put_33, k_X11_put_34, k_X11_put_35, k_X11_put_36, k_X11_put_37, k_X11_put_38, k_X11_put_39, k_X11_put_40, k_X11_put_41, oE_some, Int.reduceToNat, Nat.reduceAdd, true_and, and_true, List.length_cons, List.length_nil, Option.toList_some, Option.toList_none, List.cons_append, List.nil_append, Nat.reduceLeDiff, Nat.le_refl, wdS_nil, wdS_i, wdS_l, wdS_r, wdS_n, wdS_s, g39, j77, g37, a75, iso, w32_nat bs, Int.toNat_natCast, m_narrowed (d + 98) (w32_id r1 r2), ec, ic, w32_nat bc]
      · rw [if_neg c1]
        have d2 : inI i 0 ((L : Int) - 1) = false := decide_eq_false (fun q => c1 ⟨q.1, by clear hi hx; omega⟩)
        refine ⟨hp, hX0, Fr_refl hp, fun R => ?_⟩
        simp only [if_neg c0, if_neg c1]
        rw [callD_k]; simp only [entL_i, entL_l, entL_q, entL_s, entL_nil, n_X11_put, u_X11_put, m_X11_put, rep_0, List.cons_append, List.nil_append, List.append_nil, List.length_cons, List.length_nil, Nat.reduceAdd, true_and]
        simp only [AW_k, AWk_1, x_iload_1, x_call_1, x_if_ne, x_push_i, x_push_l, x_ret, x_ret_i, x_ret_z, x_ret_l, x_ret_c, x_aload_0, x_aloads_0, x_getf, x_iald, x_ialds, x_if_ge, x_iload_2, x_i2l, x_isub, x_call_3, k_X11_put_0, k_X11_put_1, k_X11_put_2, k_X11_put_3, k_X11_put_4, k_X11_put_5, k_X11_put_6, k_X11_put_7, k_X11_put_8, k_X11_put_9, k_X11_put_10, k_X11_put_11, k_X11_put_12, k_X11_put_13, k_X11_put_14, k_X11_put_15, k_X11_put_16, k_X11_put_17, k_X11_put_18, k_X11_put_19, k_X11_put_20, k_X11_put_21, k_X11_put_22, k_X11_put_23, k_X11_put_24, k_X11_put_25, oE_some, Int.reduceToNat, Nat.reduceAdd, true_and, and_true, List.length_cons, List.length_nil, Option.toList_some, Option.toList_none, List.cons_append, List.nil_append, Nat.reduceLeDiff, Nat.le_refl, wdS_nil, wdS_i, wdS_l, wdS_r, wdS_n, wdS_s, ms, w10, g37, a75, iso, w32_nat bs, Int.toNat_natCast, w32_id r1 r2, n2, g38, a76, ile, l1, m_in (d + 98), tI_id hi, tI_id (w32_id r3 r4), q0_I, d2, zI_f, w00, ↓reduceIte]
