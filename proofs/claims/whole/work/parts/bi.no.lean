/-! ===== the reference's sheets ===== -/
theorem m_isSheet_n (d : Nat) {hp : HP} {x : Int} (hx : w32 x = x) (e : shO x = none) (R : PO) : callD (d + 2) 261 [mI x] hp R ↔ R (some (mI 0)) hp := by
  have c1 : inI x 0 3 = false := by
    apply decide_eq_false
    intro q
    unfold shO at e
    rw [if_pos ⟨q.1, by omega⟩] at e
    cases e
  rw [callD_k]; simp only [entL_i, entL_l, entL_q, entL_s, entL_nil, n_X11_isSheet, u_X11_isSheet, m_X11_isSheet, rep_0, List.cons_append, List.nil_append, List.append_nil, List.length_cons, List.length_nil, Nat.reduceAdd, true_and]
  simp only [AW_k, AWk_1, x_iload_0, x_i2l, x_push_i, x_push_l, x_call_3, x_ret, x_ret_i, x_ret_z, x_ret_l, x_ret_c, k_X11_isSheet_0, k_X11_isSheet_1, k_X11_isSheet_2, k_X11_isSheet_3, k_X11_isSheet_4, k_X11_isSheet_5, oE_some, Int.reduceToNat, Nat.reduceAdd, true_and, and_true, List.length_cons, List.length_nil, Option.toList_some, Option.toList_none, List.cons_append, List.nil_append, Nat.reduceLeDiff, Nat.le_refl, wdS_nil, wdS_i, wdS_l, wdS_r, wdS_n, wdS_s, m_in d, tI_id hx, q0_I, q3_I, c1, zI_f, true_or, true_and]
theorem m_isSheet_s (d : Nat) {hp : HP} {x : Int} {s : Nat} (hx : w32 x = x) (e : shO x = some s) (R : PO) : callD (d + 2) 261 [mI x] hp R ↔ R (some (mI 1)) hp := by
  have c1 : inI x 0 3 = true := by
    obtain ⟨a, b⟩ := shO_lt e
    exact decide_eq_true ⟨by omega, by omega⟩
  rw [callD_k]; simp only [entL_i, entL_l, entL_q, entL_s, entL_nil, n_X11_isSheet, u_X11_isSheet, m_X11_isSheet, rep_0, List.cons_append, List.nil_append, List.append_nil, List.length_cons, List.length_nil, Nat.reduceAdd, true_and]
  simp only [AW_k, AWk_1, x_iload_0, x_i2l, x_push_i, x_push_l, x_call_3, x_ret, x_ret_i, x_ret_z, x_ret_l, x_ret_c, k_X11_isSheet_0, k_X11_isSheet_1, k_X11_isSheet_2, k_X11_isSheet_3, k_X11_isSheet_4, k_X11_isSheet_5, oE_some, Int.reduceToNat, Nat.reduceAdd, true_and, and_true, List.length_cons, List.length_nil, Option.toList_some, Option.toList_none, List.cons_append, List.nil_append, Nat.reduceLeDiff, Nat.le_refl, wdS_nil, wdS_i, wdS_l, wdS_r, wdS_n, wdS_s, m_in d, tI_id hx, q0_I, q3_I, c1, zI_t, or_true, true_and]
set_option maxHeartbeats 16000000 in
theorem x_item_m (d : Nat) {hp : HP} {n : Nat} {G : BitVec 64} {z : Int} {c : Nat} {ks : List Int} {es : List Int} {ik : Bool} {kn : Nat} {kG : BitVec 64} {kz : Int} {kc : Nat} {kks : List Int} {kes : List Int} {tc : Nat} {tb : List Int} {sc : Nat} {tl : List Int} {so : List Int} {le : List Int} {it : Nat → List (BitVec 64)} {he : List Int} {th : List Int} {sl : List Int} {tr : Nat} {bo : List Int} {x o i : Int} (hX : MI (hp) n G z c ks es ik kn kG kz kc kks kes tc tb sc tl so le it he th sl tr bo) (hO : shOK so le it) (hx : w32 x = x) (ho : w32 o = o) (hi : w32 i = i) (R : PO) : callD (d + 100) 265 [mR 54, mI x, mI o, mI i] hp R ↔ R (some (mI (imA so le it x o i))) hp := by
  obtain ⟨⟨u1, u2, u3⟩, kN, kZ, kM, kGm, l5, l6, qk, q0, q1, q2, q3, q4, q5, q6, q7, q8, q9⟩ := hX
  obtain ⟨fr_, to_, co_, op_, wr_, ki_, nu_, mm_, pa_, hF⟩ := YO_F q0
  have hA : MA hp n := ⟨⟨⟨u2, u3⟩, hF 0, hF 18, hF 19, q1.1.1, q1.1.2⟩, ⟨hF 13, hF 14, hF 15, hF 16, hF 17⟩, q1.2⟩
  have hK := hA.1
  have cK := cM hK
  have hG : gF hp 54 11 3 = some (mL G) := hF 3
  have g37 : gF hp 54 11 37 = some (mR 75) := hF 37
  have g38 : gF hp 54 11 38 = some (mR 76) := hF 38
  have g39 : gF hp 54 11 39 = some (mR 77) := hF 39
  obtain ⟨⟨a75, a76⟩, ⟨ce, j77, lce, hce⟩, as, j78, las⟩ := q7
  obtain ⟨lso, lle, lit, hlk⟩ := hO
  unfold imA
  cases ex : shO x with
  | none =>
    rw [callD_k]; simp only [entL_i, entL_l, entL_q, entL_s, entL_nil, n_X11_item, u_X11_item, m_X11_item, rep_0, List.cons_append, List.nil_append, List.append_nil, List.length_cons, List.length_nil, Nat.reduceAdd, true_and]
    simp only [AW_k, AWk_1, x_iload_1, x_call_1, x_if_eq, x_iload_2, x_i2l, x_push_i, x_push_l, x_call_3, x_if_ne, x_ret, x_ret_i, x_ret_z, x_ret_l, x_ret_c, x_aload_0, x_aloads_0, x_getf, x_iald, x_ialds, x_icmp_eq, x_if_ge, x_goto, x_iload_3, x_isub, x_imul, x_iadd, x_lald, x_l2i, k_X11_item_0, k_X11_item_1, k_X11_item_2, k_X11_item_3, k_X11_item_4, k_X11_item_5, k_X11_item_6, k_X11_item_7, k_X11_item_8, k_X11_item_9, k_X11_item_10, k_X11_item_11, k_X11_item_12, k_X11_item_13, k_X11_item_14, k_X11_item_15, k_X11_item_16, k_X11_item_17, k_X11_item_18, k_X11_item_19, k_X11_item_20, k_X11_item_21, k_X11_item_22, k_X11_item_23, k_X11_item_24, k_X11_item_25, k_X11_item_26, k_X11_item_27, k_X11_item_28, k_X11_item_29, k_X11_item_30, k_X11_item_31, k_X11_item_32, k_X11_item_33, k_X11_item_34, k_X11_item_35, k_X11_item_36, k_X11_item_37, k_X11_item_38, k_X11_item_39, k_X11_item_40, k_X11_item_41, k_X11_item_42, k_X11_item_43, k_X11_item_44, k_X11_item_45, k_X11_item_46, k_X11_item_47, k_X11_item_48, k_X11_item_49, oE_some, Int.reduceToNat, Nat.reduceAdd, true_and, and_true, List.length_cons, List.length_nil, Option.toList_some, Option.toList_none, List.cons_append, List.nil_append, Nat.reduceLeDiff, Nat.le_refl, wdS_nil, wdS_i, wdS_l, wdS_r, wdS_n, wdS_s, m_isSheet_n (d + 97) hx ex, w00, ↓reduceIte]
  | some s =>
    obtain ⟨hs, es'⟩ := shO_lt ex
    have ms := fun R => m_isSheet_s (d + 97) (hp := hp) hx ex R
    have bs : s < 2147483648 := by omega
    obtain ⟨L, l1, l2, l3, l4⟩ := hlk s hs
    have iso : inB (s : Int) so.length := by rw [lso]; exact inB_n hs (by decide)
    have ile : inB (s : Int) le.length := by rw [lle]; exact inB_n hs (by decide)
    have r1 : -2147483648 ≤ so.getD s 0 := by omega
    have r2 : so.getD s 0 < 2147483648 := by omega
    have r3 : -2147483648 ≤ (L : Int) - 1 := by omega
    have r4 : (L : Int) - 1 < 2147483648 := by omega
    subst es'
    by_cases c1 : 0 ≤ o ∧ o ≤ 3
    · have d1 : inI o 0 3 = true := decide_eq_true c1
      by_cases c2 : so.getD s 0 = -1
      · have n1 : (so.getD s 0 = o) = False := eq_false (by omega)
        have n2 : (so.getD s 0 < 0) = True := eq_true (by omega)
        simp only [if_pos c1, if_pos c2]
        rw [callD_k]; simp only [entL_i, entL_l, entL_q, entL_s, entL_nil, n_X11_item, u_X11_item, m_X11_item, rep_0, List.cons_append, List.nil_append, List.append_nil, List.length_cons, List.length_nil, Nat.reduceAdd, true_and]
        simp only [AW_k, AWk_1, x_iload_1, x_call_1, x_if_eq, x_iload_2, x_i2l, x_push_i, x_push_l, x_call_3, x_if_ne, x_ret, x_ret_i, x_ret_z, x_ret_l, x_ret_c, k_X11_item_0, k_X11_item_1, k_X11_item_2, k_X11_item_3, k_X11_item_4, k_X11_item_5, k_X11_item_6, k_X11_item_7, k_X11_item_8, k_X11_item_9, k_X11_item_10, oE_some, Int.reduceToNat, Nat.reduceAdd, true_and, and_true, List.length_cons, List.length_nil, Option.toList_some, Option.toList_none, List.cons_append, List.nil_append, Nat.reduceLeDiff, Nat.le_refl, wdS_nil, wdS_i, wdS_l, wdS_r, wdS_n, wdS_s, ms, w10, m_in (d + 98), tI_id ho, q0_I, q3_I, d1, zI_t, ↓reduceIte]
        simp only [AW_k, AWk_1, x_aload_0, x_aloads_0, x_getf, x_iload_1, x_iald, x_ialds, x_iload_2, x_icmp_eq, x_if_ge, x_push_i, x_push_l, x_goto, x_ret, x_ret_i, x_ret_z, x_ret_l, x_ret_c, k_X11_item_11, k_X11_item_12, k_X11_item_13, k_X11_item_14, k_X11_item_15, k_X11_item_16, k_X11_item_17, k_X11_item_18, k_X11_item_19, k_X11_item_20, k_X11_item_21, k_X11_item_22, k_X11_item_23, k_X11_item_24, k_X11_item_25, oE_some, Int.reduceToNat, Nat.reduceAdd, true_and, and_true, List.length_cons, List.length_nil, Option.toList_some, Option.toList_none, List.cons_append, List.nil_append, Nat.reduceLeDiff, Nat.le_refl, wdS_nil, wdS_i, wdS_l, wdS_r, wdS_n, wdS_s, g37, a75, iso, w32_nat bs, Int.toNat_natCast, w32_id r1 r2, ho, n1, n2, ↓reduceIte]
      · by_cases c3 : so.getD s 0 = o
        · have n1 : (so.getD s 0 = o) = True := eq_true c3
          by_cases c4 : 0 ≤ i ∧ i < le.getD s 0
          · have d2 : inI i 0 ((L : Int) - 1) = true := decide_eq_true ⟨c4.1, by clear hi hx ho; omega⟩
            simp only [if_pos c1, if_neg c2, if_pos c3, if_pos c4]
            obtain ⟨j, ej⟩ : ∃ j : Nat, i = (j : Int) := ⟨i.toNat, by clear hi hx ho; omega⟩
            subst ej
            have hj40 : j < 40 := by clear hi hx ho; omega
            have ec : 40 * (s : Int) + (j : Int) = ((40 * s + j : Nat) : Int) := by clear hi hx ho; omega
            have bc : 40 * s + j < 2147483648 := by clear hi hx ho; omega
            have ic : inB ((40 * s + j : Nat) : Int) ce.length := by rw [lce]; exact inB_n (by clear hi hx ho; omega) (by decide)
            have hc := hce s hs j hj40
            rw [callD_k]; simp only [entL_i, entL_l, entL_q, entL_s, entL_nil, n_X11_item, u_X11_item, m_X11_item, rep_0, List.cons_append, List.nil_append, List.append_nil, List.length_cons, List.length_nil, Nat.reduceAdd, true_and]
            simp only [AW_k, AWk_1, x_iload_1, x_call_1, x_if_eq, x_iload_2, x_i2l, x_push_i, x_push_l, x_call_3, x_if_ne, x_ret, x_ret_i, x_ret_z, x_ret_l, x_ret_c, k_X11_item_0, k_X11_item_1, k_X11_item_2, k_X11_item_3, k_X11_item_4, k_X11_item_5, k_X11_item_6, k_X11_item_7, k_X11_item_8, k_X11_item_9, k_X11_item_10, oE_some, Int.reduceToNat, Nat.reduceAdd, true_and, and_true, List.length_cons, List.length_nil, Option.toList_some, Option.toList_none, List.cons_append, List.nil_append, Nat.reduceLeDiff, Nat.le_refl, wdS_nil, wdS_i, wdS_l, wdS_r, wdS_n, wdS_s, ms, w10, m_in (d + 98), tI_id ho, q0_I, q3_I, d1, zI_t, ↓reduceIte]
            simp only [AW_k, AWk_1, x_aload_0, x_aloads_0, x_getf, x_iload_1, x_iald, x_ialds, x_iload_2, x_icmp_eq, k_X11_item_11, k_X11_item_12, k_X11_item_13, k_X11_item_14, k_X11_item_15, k_X11_item_16, oE_some, Int.reduceToNat, Nat.reduceAdd, true_and, and_true, List.length_cons, List.length_nil, Option.toList_some, Option.toList_none, List.cons_append, List.nil_append, Nat.reduceLeDiff, Nat.le_refl, wdS_nil, wdS_i, wdS_l, wdS_r, wdS_n, wdS_s, g37, a75, iso, w32_nat bs, Int.toNat_natCast, w32_id r1 r2, ho, n1, ↓reduceIte]
            simp only [AW_k, AWk_1, x_iload_3, x_i2l, x_push_i, x_push_l, x_aload_0, x_aloads_0, x_getf, x_iload_1, x_iald, x_ialds, x_isub, x_call_3, x_if_eq, k_X11_item_26, k_X11_item_27, k_X11_item_28, k_X11_item_29, k_X11_item_30, k_X11_item_31, k_X11_item_32, k_X11_item_33, k_X11_item_34, k_X11_item_35, k_X11_item_36, k_X11_item_37, oE_some, Int.reduceToNat, Nat.reduceAdd, true_and, and_true, List.length_cons, List.length_nil, Option.toList_some, Option.toList_none, List.cons_append, List.nil_append, Nat.reduceLeDiff, Nat.le_refl, wdS_nil, wdS_i, wdS_l, wdS_r, wdS_n, wdS_s, g38, a76, ile, w32_nat bs, Int.toNat_natCast, l1, m_in (d + 98), tI_id hi, tI_id (w32_id r3 r4), q0_I, d2, zI_t, w10, ↓reduceIte]
            simp only [AW_k, AWk_1, x_aload_0, x_aloads_0, x_getf, x_push_i, x_push_l, x_iload_1, x_imul, x_iload_3, x_iadd, x_lald, x_l2i, x_goto, x_ret, x_ret_i, x_ret_z, x_ret_l, x_ret_c, k_X11_item_38, k_X11_item_39, k_X11_item_40, k_X11_item_41, k_X11_item_42, k_X11_item_43, k_X11_item_44, k_X11_item_45, k_X11_item_46, k_X11_item_47, k_X11_item_48, k_X11_item_49, oE_some, Int.reduceToNat, Nat.reduceAdd, true_and, and_true, List.length_cons, List.length_nil, Option.toList_some, Option.toList_none, List.cons_append, List.nil_append, Nat.reduceLeDiff, Nat.le_refl, wdS_nil, wdS_i, wdS_l, wdS_r, wdS_n, wdS_s, g39, j77, ec, ic, w32_nat bc, Int.toNat_natCast, hc]
          · have d2 : inI i 0 ((L : Int) - 1) = false := decide_eq_false (fun q => c4 ⟨q.1, by clear hi hx ho; omega⟩)
            simp only [if_pos c1, if_neg c2, if_pos c3, if_neg c4]
            rw [callD_k]; simp only [entL_i, entL_l, entL_q, entL_s, entL_nil, n_X11_item, u_X11_item, m_X11_item, rep_0, List.cons_append, List.nil_append, List.append_nil, List.length_cons, List.length_nil, Nat.reduceAdd, true_and]
            simp only [AW_k, AWk_1, x_iload_1, x_call_1, x_if_eq, x_iload_2, x_i2l, x_push_i, x_push_l, x_call_3, x_if_ne, x_ret, x_ret_i, x_ret_z, x_ret_l, x_ret_c, k_X11_item_0, k_X11_item_1, k_X11_item_2, k_X11_item_3, k_X11_item_4, k_X11_item_5, k_X11_item_6, k_X11_item_7, k_X11_item_8, k_X11_item_9, k_X11_item_10, oE_some, Int.reduceToNat, Nat.reduceAdd, true_and, and_true, List.length_cons, List.length_nil, Option.toList_some, Option.toList_none, List.cons_append, List.nil_append, Nat.reduceLeDiff, Nat.le_refl, wdS_nil, wdS_i, wdS_l, wdS_r, wdS_n, wdS_s, ms, w10, m_in (d + 98), tI_id ho, q0_I, q3_I, d1, zI_t, ↓reduceIte]
            simp only [AW_k, AWk_1, x_aload_0, x_aloads_0, x_getf, x_iload_1, x_iald, x_ialds, x_iload_2, x_icmp_eq, k_X11_item_11, k_X11_item_12, k_X11_item_13, k_X11_item_14, k_X11_item_15, k_X11_item_16, oE_some, Int.reduceToNat, Nat.reduceAdd, true_and, and_true, List.length_cons, List.length_nil, Option.toList_some, Option.toList_none, List.cons_append, List.nil_append, Nat.reduceLeDiff, Nat.le_refl, wdS_nil, wdS_i, wdS_l, wdS_r, wdS_n, wdS_s, g37, a75, iso, w32_nat bs, Int.toNat_natCast, w32_id r1 r2, ho, n1, ↓reduceIte]
            simp only [AW_k, AWk_1, x_iload_3, x_i2l, x_push_i, x_push_l, x_aload_0, x_aloads_0, x_getf, x_iload_1, x_iald, x_ialds, x_isub, x_call_3, x_if_eq, x_imul, x_iadd, x_lald, x_l2i, x_goto, x_ret, x_ret_i, x_ret_z, x_ret_l, x_ret_c, k_X11_item_26, k_X11_item_27, k_X11_item_28, k_X11_item_29, k_X11_item_30, k_X11_item_31, k_X11_item_32, k_X11_item_33, k_X11_item_34, k_X11_item_35, k_X11_item_36, k_X11_item_37, k_X11_item_38, k_X11_item_39, k_X11_item_40, k_X11_item_41, k_X11_item_42, k_X11_item_43, k_X11_item_44, k_X11_item_45, k_X11_item_46, k_X11_item_47, k_X11_item_48, k_X11_item_49, oE_some, Int.reduceToNat, Nat.reduceAdd, true_and, and_true, List.length_cons, List.length_nil, Option.toList_some, Option.toList_none, List.cons_append, List.nil_append, Nat.reduceLeDiff, Nat.le_refl, wdS_nil, wdS_i, wdS_l, wdS_r, wdS_n, wdS_s, g38, a76, ile, w32_nat bs, Int.toNat_natCast, l1, m_in (d + 98), tI_id hi, tI_id (w32_id r3 r4), q0_I, d2, zI_f, w00, ↓reduceIte]
        · have n1 : (so.getD s 0 = o) = False := eq_false c3
          have n2 : (so.getD s 0 < 0) = False := eq_false (by omega)
          simp only [if_pos c1, if_neg c2, if_neg c3]
          rw [callD_k]; simp only [entL_i, entL_l, entL_q, entL_s, entL_nil, n_X11_item, u_X11_item, m_X11_item, rep_0, List.cons_append, List.nil_append, List.append_nil, List.length_cons, List.length_nil, Nat.reduceAdd, true_and]
          simp only [AW_k, AWk_1, x_iload_1, x_call_1, x_if_eq, x_iload_2, x_i2l, x_push_i, x_push_l, x_call_3, x_if_ne, x_ret, x_ret_i, x_ret_z, x_ret_l, x_ret_c, k_X11_item_0, k_X11_item_1, k_X11_item_2, k_X11_item_3, k_X11_item_4, k_X11_item_5, k_X11_item_6, k_X11_item_7, k_X11_item_8, k_X11_item_9, k_X11_item_10, oE_some, Int.reduceToNat, Nat.reduceAdd, true_and, and_true, List.length_cons, List.length_nil, Option.toList_some, Option.toList_none, List.cons_append, List.nil_append, Nat.reduceLeDiff, Nat.le_refl, wdS_nil, wdS_i, wdS_l, wdS_r, wdS_n, wdS_s, ms, w10, m_in (d + 98), tI_id ho, q0_I, q3_I, d1, zI_t, ↓reduceIte]
          simp only [AW_k, AWk_1, x_aload_0, x_aloads_0, x_getf, x_iload_1, x_iald, x_ialds, x_iload_2, x_icmp_eq, x_if_ge, x_push_i, x_push_l, x_goto, x_ret, x_ret_i, x_ret_z, x_ret_l, x_ret_c, k_X11_item_11, k_X11_item_12, k_X11_item_13, k_X11_item_14, k_X11_item_15, k_X11_item_16, k_X11_item_17, k_X11_item_18, k_X11_item_19, k_X11_item_20, k_X11_item_21, k_X11_item_22, k_X11_item_23, k_X11_item_24, k_X11_item_25, oE_some, Int.reduceToNat, Nat.reduceAdd, true_and, and_true, List.length_cons, List.length_nil, Option.toList_some, Option.toList_none, List.cons_append, List.nil_append, Nat.reduceLeDiff, Nat.le_refl, wdS_nil, wdS_i, wdS_l, wdS_r, wdS_n, wdS_s, g37, a75, iso, w32_nat bs, Int.toNat_natCast, w32_id r1 r2, ho, n1, n2, ↓reduceIte]
    · have d1 : inI o 0 3 = false := decide_eq_false c1
      simp only [if_neg c1]
      rw [callD_k]; simp only [entL_i, entL_l, entL_q, entL_s, entL_nil, n_X11_item, u_X11_item, m_X11_item, rep_0, List.cons_append, List.nil_append, List.append_nil, List.length_cons, List.length_nil, Nat.reduceAdd, true_and]
      simp only [AW_k, AWk_1, x_iload_1, x_call_1, x_if_eq, x_iload_2, x_i2l, x_push_i, x_push_l, x_call_3, x_if_ne, x_ret, x_ret_i, x_ret_z, x_ret_l, x_ret_c, k_X11_item_0, k_X11_item_1, k_X11_item_2, k_X11_item_3, k_X11_item_4, k_X11_item_5, k_X11_item_6, k_X11_item_7, k_X11_item_8, k_X11_item_9, k_X11_item_10, oE_some, Int.reduceToNat, Nat.reduceAdd, true_and, and_true, List.length_cons, List.length_nil, Option.toList_some, Option.toList_none, List.cons_append, List.nil_append, Nat.reduceLeDiff, Nat.le_refl, wdS_nil, wdS_i, wdS_l, wdS_r, wdS_n, wdS_s, ms, w10, m_in (d + 98), tI_id ho, q0_I, q3_I, d1, zI_f, w00, ↓reduceIte]
