/-! ===== the class's own methods: what is gone ===== -/
/-- what is asked of an arc -/
def arcW (n : Nat) (G : BitVec 64) (w : Int) (a : Nat) : Int := if w = 0 then ((lo n a : Nat) : Int) else if w = 1 then ((hi n a : Nat) : Int) else if w = 2 then ((lf n a : Nat) : Int) else if w = 3 then zI (G.getLsbD a) else if w = 4 then popI (FO n a) else if w = 5 then popI (FG n a) else if w = 6 then ((lrw n a : Nat) : Int) else -1
set_option maxHeartbeats 16000000 in
theorem x10_arcIs (d : Nat) {hp : HP} {n : Nat} {G : BitVec 64} {z : Int} {c : Nat} {ks : List Int} {es : List Int} {ik : Bool} {kn : Nat} {kG : BitVec 64} {kz : Int} {kc : Nat} {kks : List Int} {kes : List Int} {tc : Nat} {tb : List Int} {sc : Nat} {tl : List Int} {so : List Int} {le : List Int} {it : Nat → List (BitVec 64)} {he : List Int} {th : List Int} {sl : List Int} {tr : Nat} {bo : List Int} {x w : Int} (hX : XI hp n G z c ks es ik kn kG kz kc kks kes tc tb sc tl so le it he th sl tr bo) (hx : w32 x = x) (hw : w32 w = w) (R : PO) : callD (d + 100) 110 [mR 0, mI x, mI w] hp R ↔ R (some (mI (aa1 n x (arcW n G w)))) hp := by
  have hX0 := hX
  obtain ⟨ra, ts, q0, q1, q2, q3, q4, q5, q6, q7, q8, q9, q10, q11, qk⟩ := hX
  have hR := q1.1
  have h1 := rw_1 hR
  have h6 := rw_6 hR
  have f1 := FC_le n
  have cR := rC0 hR
  have cA := rC1 hR
  have o0 : gF hp 0 10 0 = some (mR 1) := XO_F q0 0
  have o1 : gF hp 0 10 1 = some (mR ra) := XO_F q0 1
  have o2 : gF hp 0 10 2 = some (mL G) := XO_F q0 2
  have o3 : gF hp 0 10 3 = some (mI z) := XO_F q0 3
  have o4 : gF hp 0 10 4 = some (mR 2) := XO_F q0 4
  have o5 : gF hp 0 10 5 = some (mR 5) := XO_F q0 5
  have o6 : gF hp 0 10 6 = some (mR 10) := XO_F q0 6
  have o7 : gF hp 0 10 7 = some (mR 14) := XO_F q0 7
  have o8 : gF hp 0 10 8 = some (mR 17) := XO_F q0 8
  have o9 : gF hp 0 10 9 = some (mR 19) := XO_F q0 9
  have o10 : gF hp 0 10 10 = some (mR 27) := XO_F q0 10
  have o11 : gF hp 0 10 11 = some (mR 31) := XO_F q0 11
  have o12 : gF hp 0 10 12 = some (mR 33) := XO_F q0 12
  have o13 : gF hp 0 10 13 = some (mI (zI ik)) := XO_F q0 13
  have o14 : gF hp 0 10 14 = some (mI (kn : Int)) := XO_F q0 14
  have o15 : gF hp 0 10 15 = some (mL kG) := XO_F q0 15
  have o16 : gF hp 0 10 16 = some (mI kz) := XO_F q0 16
  have o17 : gF hp 0 10 17 = some (mR 34) := XO_F q0 17
  have cO := gC_of o0
  cases ex : axo n x with
  | none =>
    rw [aa1_n ex]
    rw [callD_k]; simp only [entL_i, entL_l, entL_q, entL_s, entL_nil, n_X10_arcIs, u_X10_arcIs, m_X10_arcIs, rep_1, List.cons_append, List.nil_append, List.append_nil, List.length_cons, List.length_nil, Nat.reduceAdd, true_and]
    simp only [AW_k, AWk_1, x_aload_0, x_aloads_0, x_iload_1, x_callv_2, x_if_ne, x_push_i, x_push_l, x_ret, x_ret_i, x_ret_z, x_ret_l, x_ret_c, x_getf, x_astore_3, x_iload_2, x_switch, AW_sw, AW_sw0, x_aload_3, x_aloads_3, x_iald, x_ialds, x_lushr, x_land, x_l2i, x_lald, x_call_1, unl_i, unl_l, unl_q, unl_r, unl_s, unl_n, k_X10_arcIs_0, k_X10_arcIs_1, k_X10_arcIs_2, k_X10_arcIs_3, k_X10_arcIs_4, k_X10_arcIs_5, k_X10_arcIs_6, k_X10_arcIs_7, k_X10_arcIs_8, k_X10_arcIs_9, k_X10_arcIs_10, k_X10_arcIs_11, k_X10_arcIs_12, k_X10_arcIs_13, k_X10_arcIs_14, k_X10_arcIs_15, k_X10_arcIs_16, k_X10_arcIs_17, k_X10_arcIs_18, k_X10_arcIs_19, k_X10_arcIs_20, k_X10_arcIs_21, k_X10_arcIs_22, k_X10_arcIs_23, k_X10_arcIs_24, k_X10_arcIs_25, k_X10_arcIs_26, k_X10_arcIs_27, k_X10_arcIs_28, k_X10_arcIs_29, k_X10_arcIs_30, k_X10_arcIs_31, k_X10_arcIs_32, k_X10_arcIs_33, k_X10_arcIs_34, k_X10_arcIs_35, k_X10_arcIs_36, k_X10_arcIs_37, k_X10_arcIs_38, k_X10_arcIs_39, k_X10_arcIs_40, k_X10_arcIs_41, k_X10_arcIs_42, k_X10_arcIs_43, k_X10_arcIs_44, k_X10_arcIs_45, k_X10_arcIs_46, k_X10_arcIs_47, k_X10_arcIs_48, k_X10_arcIs_49, k_X10_arcIs_50, k_X10_arcIs_51, k_X10_arcIs_52, oE_some, Int.reduceToNat, Nat.reduceAdd, true_and, and_true, List.length_cons, List.length_nil, Option.toList_some, Option.toList_none, List.cons_append, List.nil_append, Nat.reduceLeDiff, Nat.le_refl, wdS_nil, wdS_i, wdS_l, wdS_r, wdS_n, wdS_s, cO, isArc_n (d + 98) hX0 hx ex, w00, ↓reduceIte]
  | some a =>
    obtain ⟨ha, ea⟩ := axo_lt ex
    have bN := NA_le n
    have sk := sh_k (show a < 64 by omega)
    rw [aa1_s ex]
    unfold arcW
    have en := isArc_s (d + 98) hX0 hx ex
    subst ea
    rw [callD_k]; simp only [entL_i, entL_l, entL_q, entL_s, entL_nil, n_X10_arcIs, u_X10_arcIs, m_X10_arcIs, rep_1, List.cons_append, List.nil_append, List.append_nil, List.length_cons, List.length_nil, Nat.reduceAdd, true_and]
    simp only [AW_k, AWk_1, x_aload_0, x_aloads_0, x_iload_1, x_callv_2, x_if_ne, x_push_i, x_push_l, x_ret, x_ret_i, x_ret_z, x_ret_l, x_ret_c, x_getf, x_astore_3, x_iload_2, unl_i, unl_l, unl_q, unl_r, unl_s, unl_n, k_X10_arcIs_0, k_X10_arcIs_1, k_X10_arcIs_2, k_X10_arcIs_3, k_X10_arcIs_4, k_X10_arcIs_5, k_X10_arcIs_6, k_X10_arcIs_7, k_X10_arcIs_8, k_X10_arcIs_9, k_X10_arcIs_10, oE_some, Int.reduceToNat, Nat.reduceAdd, true_and, and_true, List.length_cons, List.length_nil, Option.toList_some, Option.toList_none, List.cons_append, List.nil_append, Nat.reduceLeDiff, Nat.le_refl, wdS_nil, wdS_i, wdS_l, wdS_r, wdS_n, wdS_s, cO, en, w10, o1, rw_arcs hR, hw, ↓reduceIte]
    by_cases c0 : w = 0
    · rw [if_pos c0]
      simp only [AW_k, AWk_1, x_switch, AW_sw, AW_sw0, x_aload_3, x_aloads_3, x_getf, x_iload_1, x_iald, x_ialds, x_ret, x_ret_i, x_ret_z, x_ret_l, x_ret_c, x_aload_0, x_aloads_0, x_lushr, x_push_i, x_push_l, x_land, x_l2i, x_lald, x_call_1, x_callv_2, k_X10_arcIs_11, k_X10_arcIs_12, k_X10_arcIs_13, k_X10_arcIs_14, k_X10_arcIs_15, k_X10_arcIs_16, k_X10_arcIs_17, k_X10_arcIs_18, k_X10_arcIs_19, k_X10_arcIs_20, k_X10_arcIs_21, k_X10_arcIs_22, k_X10_arcIs_23, k_X10_arcIs_24, k_X10_arcIs_25, k_X10_arcIs_26, k_X10_arcIs_27, k_X10_arcIs_28, k_X10_arcIs_29, k_X10_arcIs_30, k_X10_arcIs_31, k_X10_arcIs_32, k_X10_arcIs_33, k_X10_arcIs_34, k_X10_arcIs_35, k_X10_arcIs_36, k_X10_arcIs_37, k_X10_arcIs_38, k_X10_arcIs_39, k_X10_arcIs_40, k_X10_arcIs_41, k_X10_arcIs_42, k_X10_arcIs_43, k_X10_arcIs_44, k_X10_arcIs_45, k_X10_arcIs_46, k_X10_arcIs_47, k_X10_arcIs_48, k_X10_arcIs_49, k_X10_arcIs_50, k_X10_arcIs_51, k_X10_arcIs_52, oE_some, Int.reduceToNat, Nat.reduceAdd, true_and, and_true, List.length_cons, List.length_nil, Option.toList_some, Option.toList_none, List.cons_append, List.nil_append, Nat.reduceLeDiff, Nat.le_refl, wdS_nil, wdS_i, wdS_l, wdS_r, wdS_n, wdS_s, swT_cons, swT_nil, hw, c0, wz0, wz1, wz2, wz3, wz4, wz5, wz6, Int.reduceEq, ↓reduceIte, rw_low hR, rA_3 hR, bI rfl ha (NA_31 n), gI rfl ha (NA_31 n)]
    · rw [if_neg c0]
      by_cases c1 : w = 1
      · rw [if_pos c1]
        simp only [AW_k, AWk_1, x_switch, AW_sw, AW_sw0, x_aload_3, x_aloads_3, x_getf, x_iload_1, x_iald, x_ialds, x_ret, x_ret_i, x_ret_z, x_ret_l, x_ret_c, x_aload_0, x_aloads_0, x_lushr, x_push_i, x_push_l, x_land, x_l2i, x_lald, x_call_1, x_callv_2, k_X10_arcIs_11, k_X10_arcIs_12, k_X10_arcIs_13, k_X10_arcIs_14, k_X10_arcIs_15, k_X10_arcIs_16, k_X10_arcIs_17, k_X10_arcIs_18, k_X10_arcIs_19, k_X10_arcIs_20, k_X10_arcIs_21, k_X10_arcIs_22, k_X10_arcIs_23, k_X10_arcIs_24, k_X10_arcIs_25, k_X10_arcIs_26, k_X10_arcIs_27, k_X10_arcIs_28, k_X10_arcIs_29, k_X10_arcIs_30, k_X10_arcIs_31, k_X10_arcIs_32, k_X10_arcIs_33, k_X10_arcIs_34, k_X10_arcIs_35, k_X10_arcIs_36, k_X10_arcIs_37, k_X10_arcIs_38, k_X10_arcIs_39, k_X10_arcIs_40, k_X10_arcIs_41, k_X10_arcIs_42, k_X10_arcIs_43, k_X10_arcIs_44, k_X10_arcIs_45, k_X10_arcIs_46, k_X10_arcIs_47, k_X10_arcIs_48, k_X10_arcIs_49, k_X10_arcIs_50, k_X10_arcIs_51, k_X10_arcIs_52, oE_some, Int.reduceToNat, Nat.reduceAdd, true_and, and_true, List.length_cons, List.length_nil, Option.toList_some, Option.toList_none, List.cons_append, List.nil_append, Nat.reduceLeDiff, Nat.le_refl, wdS_nil, wdS_i, wdS_l, wdS_r, wdS_n, wdS_s, swT_cons, swT_nil, hw, c0, c1, wz0, wz1, wz2, wz3, wz4, wz5, wz6, Int.reduceEq, ↓reduceIte, rw_high hR, rA_4 hR, bI rfl ha (NA_31 n), gI rfl ha (NA_31 n)]
      · rw [if_neg c1]
        by_cases c2 : w = 2
        · rw [if_pos c2]
          simp only [AW_k, AWk_1, x_switch, AW_sw, AW_sw0, x_aload_3, x_aloads_3, x_getf, x_iload_1, x_iald, x_ialds, x_ret, x_ret_i, x_ret_z, x_ret_l, x_ret_c, x_aload_0, x_aloads_0, x_lushr, x_push_i, x_push_l, x_land, x_l2i, x_lald, x_call_1, x_callv_2, k_X10_arcIs_11, k_X10_arcIs_12, k_X10_arcIs_13, k_X10_arcIs_14, k_X10_arcIs_15, k_X10_arcIs_16, k_X10_arcIs_17, k_X10_arcIs_18, k_X10_arcIs_19, k_X10_arcIs_20, k_X10_arcIs_21, k_X10_arcIs_22, k_X10_arcIs_23, k_X10_arcIs_24, k_X10_arcIs_25, k_X10_arcIs_26, k_X10_arcIs_27, k_X10_arcIs_28, k_X10_arcIs_29, k_X10_arcIs_30, k_X10_arcIs_31, k_X10_arcIs_32, k_X10_arcIs_33, k_X10_arcIs_34, k_X10_arcIs_35, k_X10_arcIs_36, k_X10_arcIs_37, k_X10_arcIs_38, k_X10_arcIs_39, k_X10_arcIs_40, k_X10_arcIs_41, k_X10_arcIs_42, k_X10_arcIs_43, k_X10_arcIs_44, k_X10_arcIs_45, k_X10_arcIs_46, k_X10_arcIs_47, k_X10_arcIs_48, k_X10_arcIs_49, k_X10_arcIs_50, k_X10_arcIs_51, k_X10_arcIs_52, oE_some, Int.reduceToNat, Nat.reduceAdd, true_and, and_true, List.length_cons, List.length_nil, Option.toList_some, Option.toList_none, List.cons_append, List.nil_append, Nat.reduceLeDiff, Nat.le_refl, wdS_nil, wdS_i, wdS_l, wdS_r, wdS_n, wdS_s, swT_cons, swT_nil, hw, c0, c1, c2, wz0, wz1, wz2, wz3, wz4, wz5, wz6, Int.reduceEq, ↓reduceIte, rw_left hR, rA_5 hR, bI rfl ha (NA_31 n), gI rfl ha (NA_31 n)]
        · rw [if_neg c2]
          by_cases c3 : w = 3
          · rw [if_pos c3]
            simp only [AW_k, AWk_1, x_switch, AW_sw, AW_sw0, x_aload_3, x_aloads_3, x_getf, x_iload_1, x_iald, x_ialds, x_ret, x_ret_i, x_ret_z, x_ret_l, x_ret_c, x_aload_0, x_aloads_0, x_lushr, x_push_i, x_push_l, x_land, x_l2i, x_lald, x_call_1, x_callv_2, k_X10_arcIs_11, k_X10_arcIs_12, k_X10_arcIs_13, k_X10_arcIs_14, k_X10_arcIs_15, k_X10_arcIs_16, k_X10_arcIs_17, k_X10_arcIs_18, k_X10_arcIs_19, k_X10_arcIs_20, k_X10_arcIs_21, k_X10_arcIs_22, k_X10_arcIs_23, k_X10_arcIs_24, k_X10_arcIs_25, k_X10_arcIs_26, k_X10_arcIs_27, k_X10_arcIs_28, k_X10_arcIs_29, k_X10_arcIs_30, k_X10_arcIs_31, k_X10_arcIs_32, k_X10_arcIs_33, k_X10_arcIs_34, k_X10_arcIs_35, k_X10_arcIs_36, k_X10_arcIs_37, k_X10_arcIs_38, k_X10_arcIs_39, k_X10_arcIs_40, k_X10_arcIs_41, k_X10_arcIs_42, k_X10_arcIs_43, k_X10_arcIs_44, k_X10_arcIs_45, k_X10_arcIs_46, k_X10_arcIs_47, k_X10_arcIs_48, k_X10_arcIs_49, k_X10_arcIs_50, k_X10_arcIs_51, k_X10_arcIs_52, oE_some, Int.reduceToNat, Nat.reduceAdd, true_and, and_true, List.length_cons, List.length_nil, Option.toList_some, Option.toList_none, List.cons_append, List.nil_append, Nat.reduceLeDiff, Nat.le_refl, wdS_nil, wdS_i, wdS_l, wdS_r, wdS_n, wdS_s, swT_cons, swT_nil, hw, c0, c1, c2, c3, wz0, wz1, wz2, wz3, wz4, wz5, wz6, Int.reduceEq, ↓reduceIte, o2, sk, bit_I]
          · rw [if_neg c3]
            by_cases c4 : w = 4
            · rw [if_pos c4]
              simp only [AW_k, AWk_1, x_switch, AW_sw, AW_sw0, x_aload_3, x_aloads_3, x_getf, x_iload_1, x_iald, x_ialds, x_ret, x_ret_i, x_ret_z, x_ret_l, x_ret_c, x_aload_0, x_aloads_0, x_lushr, x_push_i, x_push_l, x_land, x_l2i, x_lald, x_call_1, x_callv_2, k_X10_arcIs_11, k_X10_arcIs_12, k_X10_arcIs_13, k_X10_arcIs_14, k_X10_arcIs_15, k_X10_arcIs_16, k_X10_arcIs_17, k_X10_arcIs_18, k_X10_arcIs_19, k_X10_arcIs_20, k_X10_arcIs_21, k_X10_arcIs_22, k_X10_arcIs_23, k_X10_arcIs_24, k_X10_arcIs_25, k_X10_arcIs_26, k_X10_arcIs_27, k_X10_arcIs_28, k_X10_arcIs_29, k_X10_arcIs_30, k_X10_arcIs_31, k_X10_arcIs_32, k_X10_arcIs_33, k_X10_arcIs_34, k_X10_arcIs_35, k_X10_arcIs_36, k_X10_arcIs_37, k_X10_arcIs_38, k_X10_arcIs_39, k_X10_arcIs_40, k_X10_arcIs_41, k_X10_arcIs_42, k_X10_arcIs_43, k_X10_arcIs_44, k_X10_arcIs_45, k_X10_arcIs_46, k_X10_arcIs_47, k_X10_arcIs_48, k_X10_arcIs_49, k_X10_arcIs_50, k_X10_arcIs_51, k_X10_arcIs_52, oE_some, Int.reduceToNat, Nat.reduceAdd, true_and, and_true, List.length_cons, List.length_nil, Option.toList_some, Option.toList_none, List.cons_append, List.nil_append, Nat.reduceLeDiff, Nat.le_refl, wdS_nil, wdS_i, wdS_l, wdS_r, wdS_n, wdS_s, swT_cons, swT_nil, hw, c0, c1, c2, c3, c4, wz0, wz1, wz2, wz3, wz4, wz5, wz6, Int.reduceEq, ↓reduceIte, rw_forced hR, rA_8 hR, bJ rfl ha (NA_31 n), gJt rfl ha (NA_31 n), c_bits (d + 98)]
              exact Iff.rfl
            · rw [if_neg c4]
              by_cases c5 : w = 5
              · rw [if_pos c5]
                simp only [AW_k, AWk_1, x_switch, AW_sw, AW_sw0, x_aload_3, x_aloads_3, x_getf, x_iload_1, x_iald, x_ialds, x_ret, x_ret_i, x_ret_z, x_ret_l, x_ret_c, x_aload_0, x_aloads_0, x_lushr, x_push_i, x_push_l, x_land, x_l2i, x_lald, x_call_1, x_callv_2, k_X10_arcIs_11, k_X10_arcIs_12, k_X10_arcIs_13, k_X10_arcIs_14, k_X10_arcIs_15, k_X10_arcIs_16, k_X10_arcIs_17, k_X10_arcIs_18, k_X10_arcIs_19, k_X10_arcIs_20, k_X10_arcIs_21, k_X10_arcIs_22, k_X10_arcIs_23, k_X10_arcIs_24, k_X10_arcIs_25, k_X10_arcIs_26, k_X10_arcIs_27, k_X10_arcIs_28, k_X10_arcIs_29, k_X10_arcIs_30, k_X10_arcIs_31, k_X10_arcIs_32, k_X10_arcIs_33, k_X10_arcIs_34, k_X10_arcIs_35, k_X10_arcIs_36, k_X10_arcIs_37, k_X10_arcIs_38, k_X10_arcIs_39, k_X10_arcIs_40, k_X10_arcIs_41, k_X10_arcIs_42, k_X10_arcIs_43, k_X10_arcIs_44, k_X10_arcIs_45, k_X10_arcIs_46, k_X10_arcIs_47, k_X10_arcIs_48, k_X10_arcIs_49, k_X10_arcIs_50, k_X10_arcIs_51, k_X10_arcIs_52, oE_some, Int.reduceToNat, Nat.reduceAdd, true_and, and_true, List.length_cons, List.length_nil, Option.toList_some, Option.toList_none, List.cons_append, List.nil_append, Nat.reduceLeDiff, Nat.le_refl, wdS_nil, wdS_i, wdS_l, wdS_r, wdS_n, wdS_s, swT_cons, swT_nil, hw, c0, c1, c2, c3, c4, c5, wz0, wz1, wz2, wz3, wz4, wz5, wz6, Int.reduceEq, ↓reduceIte, rw_forcing hR, rA_9 hR, bJ rfl ha (NA_31 n), gJt rfl ha (NA_31 n), c_bits (d + 98)]
                exact Iff.rfl
              · rw [if_neg c5]
                by_cases c6 : w = 6
                · rw [if_pos c6]
                  simp only [AW_k, AWk_1, x_switch, AW_sw, AW_sw0, x_aload_3, x_aloads_3, x_getf, x_iload_1, x_iald, x_ialds, x_ret, x_ret_i, x_ret_z, x_ret_l, x_ret_c, x_aload_0, x_aloads_0, x_lushr, x_push_i, x_push_l, x_land, x_l2i, x_lald, x_call_1, x_callv_2, k_X10_arcIs_11, k_X10_arcIs_12, k_X10_arcIs_13, k_X10_arcIs_14, k_X10_arcIs_15, k_X10_arcIs_16, k_X10_arcIs_17, k_X10_arcIs_18, k_X10_arcIs_19, k_X10_arcIs_20, k_X10_arcIs_21, k_X10_arcIs_22, k_X10_arcIs_23, k_X10_arcIs_24, k_X10_arcIs_25, k_X10_arcIs_26, k_X10_arcIs_27, k_X10_arcIs_28, k_X10_arcIs_29, k_X10_arcIs_30, k_X10_arcIs_31, k_X10_arcIs_32, k_X10_arcIs_33, k_X10_arcIs_34, k_X10_arcIs_35, k_X10_arcIs_36, k_X10_arcIs_37, k_X10_arcIs_38, k_X10_arcIs_39, k_X10_arcIs_40, k_X10_arcIs_41, k_X10_arcIs_42, k_X10_arcIs_43, k_X10_arcIs_44, k_X10_arcIs_45, k_X10_arcIs_46, k_X10_arcIs_47, k_X10_arcIs_48, k_X10_arcIs_49, k_X10_arcIs_50, k_X10_arcIs_51, k_X10_arcIs_52, oE_some, Int.reduceToNat, Nat.reduceAdd, true_and, and_true, List.length_cons, List.length_nil, Option.toList_some, Option.toList_none, List.cons_append, List.nil_append, Nat.reduceLeDiff, Nat.le_refl, wdS_nil, wdS_i, wdS_l, wdS_r, wdS_n, wdS_s, swT_cons, swT_nil, hw, c0, c1, c2, c3, c4, c5, c6, wz0, wz1, wz2, wz3, wz4, wz5, wz6, Int.reduceEq, ↓reduceIte, cA, c1_leastRowWith (d + 97) hR ha]
                · rw [if_neg c6]
                  simp only [AW_k, AWk_1, x_switch, AW_sw, AW_sw0, x_aload_3, x_aloads_3, x_getf, x_iload_1, x_iald, x_ialds, x_ret, x_ret_i, x_ret_z, x_ret_l, x_ret_c, x_aload_0, x_aloads_0, x_lushr, x_push_i, x_push_l, x_land, x_l2i, x_lald, x_call_1, x_callv_2, k_X10_arcIs_11, k_X10_arcIs_12, k_X10_arcIs_13, k_X10_arcIs_14, k_X10_arcIs_15, k_X10_arcIs_16, k_X10_arcIs_17, k_X10_arcIs_18, k_X10_arcIs_19, k_X10_arcIs_20, k_X10_arcIs_21, k_X10_arcIs_22, k_X10_arcIs_23, k_X10_arcIs_24, k_X10_arcIs_25, k_X10_arcIs_26, k_X10_arcIs_27, k_X10_arcIs_28, k_X10_arcIs_29, k_X10_arcIs_30, k_X10_arcIs_31, k_X10_arcIs_32, k_X10_arcIs_33, k_X10_arcIs_34, k_X10_arcIs_35, k_X10_arcIs_36, k_X10_arcIs_37, k_X10_arcIs_38, k_X10_arcIs_39, k_X10_arcIs_40, k_X10_arcIs_41, k_X10_arcIs_42, k_X10_arcIs_43, k_X10_arcIs_44, k_X10_arcIs_45, k_X10_arcIs_46, k_X10_arcIs_47, k_X10_arcIs_48, k_X10_arcIs_49, k_X10_arcIs_50, k_X10_arcIs_51, k_X10_arcIs_52, oE_some, Int.reduceToNat, Nat.reduceAdd, true_and, and_true, List.length_cons, List.length_nil, Option.toList_some, Option.toList_none, List.cons_append, List.nil_append, Nat.reduceLeDiff, Nat.le_refl, wdS_nil, wdS_i, wdS_l, wdS_r, wdS_n, wdS_s, swT_cons, swT_nil, hw, c0, c1, c2, c3, c4, c5, c6, wz0, wz1, wz2, wz3, wz4, wz5, wz6, Int.reduceEq, ↓reduceIte]
/-- of two arcs -/
def aa2 (n : Nat) (x y : Int) (f : Nat → Nat → Int) : Int := match axo n x with
  | some a => match axo n y with
    | some b => f a b
    | none => -1
  | none => -1
theorem aa2_n {n : Nat} {x y : Int} {f : Nat → Nat → Int} (h : axo n x = none) : aa2 n x y f = -1 := by unfold aa2; rw [h]
theorem aa2_m {n a : Nat} {x y : Int} {f : Nat → Nat → Int} (h : axo n x = some a) (h2 : axo n y = none) : aa2 n x y f = -1 := by unfold aa2; rw [h, h2]
theorem aa2_s {n a b : Nat} {x y : Int} {f : Nat → Nat → Int} (h : axo n x = some a) (h2 : axo n y = some b) : aa2 n x y f = f a b := by unfold aa2; rw [h, h2]
set_option maxHeartbeats 16000000 in
theorem x10_forces (d : Nat) {hp : HP} {n : Nat} {G : BitVec 64} {z : Int} {c : Nat} {ks : List Int} {es : List Int} {ik : Bool} {kn : Nat} {kG : BitVec 64} {kz : Int} {kc : Nat} {kks : List Int} {kes : List Int} {tc : Nat} {tb : List Int} {sc : Nat} {tl : List Int} {so : List Int} {le : List Int} {it : Nat → List (BitVec 64)} {he : List Int} {th : List Int} {sl : List Int} {tr : Nat} {bo : List Int} {x y : Int} (hX : XI hp n G z c ks es ik kn kG kz kc kks kes tc tb sc tl so le it he th sl tr bo) (hx : w32 x = x) (hy : w32 y = y) (R : PO) : callD (d + 100) 111 [mR 0, mI x, mI y] hp R ↔ R (some (mI (aa2 n x y (fun a b => zI ((FO n a).getLsbD b))))) hp := by
  have hX0 := hX
  obtain ⟨ra, ts, q0, q1, q2, q3, q4, q5, q6, q7, q8, q9, q10, q11, qk⟩ := hX
  have hR := q1.1
  have h1 := rw_1 hR
  have h6 := rw_6 hR
  have f1 := FC_le n
  have cR := rC0 hR
  have cA := rC1 hR
  have o0 : gF hp 0 10 0 = some (mR 1) := XO_F q0 0
  have o1 : gF hp 0 10 1 = some (mR ra) := XO_F q0 1
  have o2 : gF hp 0 10 2 = some (mL G) := XO_F q0 2
  have o3 : gF hp 0 10 3 = some (mI z) := XO_F q0 3
  have o4 : gF hp 0 10 4 = some (mR 2) := XO_F q0 4
  have o5 : gF hp 0 10 5 = some (mR 5) := XO_F q0 5
  have o6 : gF hp 0 10 6 = some (mR 10) := XO_F q0 6
  have o7 : gF hp 0 10 7 = some (mR 14) := XO_F q0 7
  have o8 : gF hp 0 10 8 = some (mR 17) := XO_F q0 8
  have o9 : gF hp 0 10 9 = some (mR 19) := XO_F q0 9
  have o10 : gF hp 0 10 10 = some (mR 27) := XO_F q0 10
  have o11 : gF hp 0 10 11 = some (mR 31) := XO_F q0 11
  have o12 : gF hp 0 10 12 = some (mR 33) := XO_F q0 12
  have o13 : gF hp 0 10 13 = some (mI (zI ik)) := XO_F q0 13
  have o14 : gF hp 0 10 14 = some (mI (kn : Int)) := XO_F q0 14
  have o15 : gF hp 0 10 15 = some (mL kG) := XO_F q0 15
  have o16 : gF hp 0 10 16 = some (mI kz) := XO_F q0 16
  have o17 : gF hp 0 10 17 = some (mR 34) := XO_F q0 17
  have cO := gC_of o0
  cases ex : axo n x with
  | none =>
    rw [aa2_n ex]
    rw [callD_k]; simp only [entL_i, entL_l, entL_q, entL_s, entL_nil, n_X10_forces, u_X10_forces, m_X10_forces, rep_0, List.cons_append, List.nil_append, List.append_nil, List.length_cons, List.length_nil, Nat.reduceAdd, true_and]
    simp only [AW_k, AWk_1, x_aload_0, x_aloads_0, x_iload_1, x_callv_2, x_if_eq, x_iload_2, x_if_ne, x_push_i, x_push_l, x_ret, x_ret_i, x_ret_z, x_ret_l, x_ret_c, x_getf, x_lald, x_lushr, x_land, x_l2i, k_X10_forces_0, k_X10_forces_1, k_X10_forces_2, k_X10_forces_3, k_X10_forces_4, k_X10_forces_5, k_X10_forces_6, k_X10_forces_7, k_X10_forces_8, k_X10_forces_9, k_X10_forces_10, k_X10_forces_11, k_X10_forces_12, k_X10_forces_13, k_X10_forces_14, k_X10_forces_15, k_X10_forces_16, k_X10_forces_17, k_X10_forces_18, k_X10_forces_19, k_X10_forces_20, k_X10_forces_21, oE_some, Int.reduceToNat, Nat.reduceAdd, true_and, and_true, List.length_cons, List.length_nil, Option.toList_some, Option.toList_none, List.cons_append, List.nil_append, Nat.reduceLeDiff, Nat.le_refl, wdS_nil, wdS_i, wdS_l, wdS_r, wdS_n, wdS_s, cO, isArc_n (d + 98) hX0 hx ex, w00, ↓reduceIte]
  | some a =>
    obtain ⟨ha, ea⟩ := axo_lt ex
    have en := isArc_s (d + 98) hX0 hx ex
    cases ey : axo n y with
    | none =>
      rw [aa2_m ex ey]
      rw [callD_k]; simp only [entL_i, entL_l, entL_q, entL_s, entL_nil, n_X10_forces, u_X10_forces, m_X10_forces, rep_0, List.cons_append, List.nil_append, List.append_nil, List.length_cons, List.length_nil, Nat.reduceAdd, true_and]
      simp only [AW_k, AWk_1, x_aload_0, x_aloads_0, x_iload_1, x_callv_2, x_if_eq, x_iload_2, x_if_ne, x_push_i, x_push_l, x_ret, x_ret_i, x_ret_z, x_ret_l, x_ret_c, x_getf, x_lald, x_lushr, x_land, x_l2i, k_X10_forces_0, k_X10_forces_1, k_X10_forces_2, k_X10_forces_3, k_X10_forces_4, k_X10_forces_5, k_X10_forces_6, k_X10_forces_7, k_X10_forces_8, k_X10_forces_9, k_X10_forces_10, k_X10_forces_11, k_X10_forces_12, k_X10_forces_13, k_X10_forces_14, k_X10_forces_15, k_X10_forces_16, k_X10_forces_17, k_X10_forces_18, k_X10_forces_19, k_X10_forces_20, k_X10_forces_21, oE_some, Int.reduceToNat, Nat.reduceAdd, true_and, and_true, List.length_cons, List.length_nil, Option.toList_some, Option.toList_none, List.cons_append, List.nil_append, Nat.reduceLeDiff, Nat.le_refl, wdS_nil, wdS_i, wdS_l, wdS_r, wdS_n, wdS_s, cO, en, isArc_n (d + 98) hX0 hy ey, w00, w10, ↓reduceIte]
    | some b =>
      obtain ⟨hb, eb⟩ := axo_lt ey
      have bN := NA_le n
      have sk := sh_k (show b < 64 by omega)
      have ef := isArc_s (d + 98) hX0 hy ey
      rw [aa2_s ex ey]
      subst ea
      subst eb
      rw [callD_k]; simp only [entL_i, entL_l, entL_q, entL_s, entL_nil, n_X10_forces, u_X10_forces, m_X10_forces, rep_0, List.cons_append, List.nil_append, List.append_nil, List.length_cons, List.length_nil, Nat.reduceAdd, true_and]
      simp only [AW_k, AWk_1, x_aload_0, x_aloads_0, x_iload_1, x_callv_2, x_if_eq, x_iload_2, x_if_ne, x_push_i, x_push_l, x_ret, x_ret_i, x_ret_z, x_ret_l, x_ret_c, x_getf, x_lald, x_lushr, x_land, x_l2i, k_X10_forces_0, k_X10_forces_1, k_X10_forces_2, k_X10_forces_3, k_X10_forces_4, k_X10_forces_5, k_X10_forces_6, k_X10_forces_7, k_X10_forces_8, k_X10_forces_9, k_X10_forces_10, k_X10_forces_11, k_X10_forces_12, k_X10_forces_13, k_X10_forces_14, k_X10_forces_15, k_X10_forces_16, k_X10_forces_17, k_X10_forces_18, k_X10_forces_19, k_X10_forces_20, k_X10_forces_21, oE_some, Int.reduceToNat, Nat.reduceAdd, true_and, and_true, List.length_cons, List.length_nil, Option.toList_some, Option.toList_none, List.cons_append, List.nil_append, Nat.reduceLeDiff, Nat.le_refl, wdS_nil, wdS_i, wdS_l, wdS_r, wdS_n, wdS_s, cO, en, ef, w10, o1, rw_arcs hR, rw_forced hR, rA_8 hR, bJ rfl ha (NA_31 n), gJt rfl ha (NA_31 n), sk, bit_I, ↓reduceIte]
      exact Iff.rfl
def dgA (n : Nat) (x : Int) : BitVec 64 := match ixo n x with
  | some i => BitVec.ofNat 64 (dgm n i)
  | none => 18446744073709551615#64
set_option maxHeartbeats 16000000 in
theorem x10_diagram (d : Nat) {hp : HP} {n : Nat} {G : BitVec 64} {z : Int} {c : Nat} {ks : List Int} {es : List Int} {ik : Bool} {kn : Nat} {kG : BitVec 64} {kz : Int} {kc : Nat} {kks : List Int} {kes : List Int} {tc : Nat} {tb : List Int} {sc : Nat} {tl : List Int} {so : List Int} {le : List Int} {it : Nat → List (BitVec 64)} {he : List Int} {th : List Int} {sl : List Int} {tr : Nat} {bo : List Int} {x : Int} (hX : XI hp n G z c ks es ik kn kG kz kc kks kes tc tb sc tl so le it he th sl tr bo) (hx : w32 x = x) (R : PO) : callD (d + 100) 112 [mR 0, mI x] hp R ↔ R (some (mL (dgA n x))) hp := by
  obtain ⟨ra, ts, q0, q1, q2, q3, q4, q5, q6, q7, q8, q9, q10, q11, qk⟩ := hX
  have hR := q1.1
  have h1 := rw_1 hR
  have h6 := rw_6 hR
  have f1 := FC_le n
  have cR := rC0 hR
  have cA := rC1 hR
  have o0 : gF hp 0 10 0 = some (mR 1) := XO_F q0 0
  have o1 : gF hp 0 10 1 = some (mR ra) := XO_F q0 1
  have o2 : gF hp 0 10 2 = some (mL G) := XO_F q0 2
  have o3 : gF hp 0 10 3 = some (mI z) := XO_F q0 3
  have o4 : gF hp 0 10 4 = some (mR 2) := XO_F q0 4
  have o5 : gF hp 0 10 5 = some (mR 5) := XO_F q0 5
  have o6 : gF hp 0 10 6 = some (mR 10) := XO_F q0 6
  have o7 : gF hp 0 10 7 = some (mR 14) := XO_F q0 7
  have o8 : gF hp 0 10 8 = some (mR 17) := XO_F q0 8
  have o9 : gF hp 0 10 9 = some (mR 19) := XO_F q0 9
  have o10 : gF hp 0 10 10 = some (mR 27) := XO_F q0 10
  have o11 : gF hp 0 10 11 = some (mR 31) := XO_F q0 11
  have o12 : gF hp 0 10 12 = some (mR 33) := XO_F q0 12
  have o13 : gF hp 0 10 13 = some (mI (zI ik)) := XO_F q0 13
  have o14 : gF hp 0 10 14 = some (mI (kn : Int)) := XO_F q0 14
  have o15 : gF hp 0 10 15 = some (mL kG) := XO_F q0 15
  have o16 : gF hp 0 10 16 = some (mI kz) := XO_F q0 16
  have o17 : gF hp 0 10 17 = some (mR 34) := XO_F q0 17
  have cO := gC_of o0
  unfold dgA
  cases ex : ixo n x with
  | none =>
    rw [callD_k]; simp only [entL_i, entL_l, entL_q, entL_s, entL_nil, n_X10_diagram, u_X10_diagram, m_X10_diagram, rep_1, List.cons_append, List.nil_append, List.append_nil, List.length_cons, List.length_nil, Nat.reduceAdd, true_and]
    simp only [AW_k, AWk_1, x_aload_0, x_aloads_0, x_getf, x_iload_1, x_callv_2, x_istore_2, x_iload_2, x_if_ge, x_push_i, x_push_l, x_goto, x_lald, x_ret, x_ret_i, x_ret_z, x_ret_l, x_ret_c, unl_i, unl_l, unl_q, unl_r, unl_s, unl_n, k_X10_diagram_0, k_X10_diagram_1, k_X10_diagram_2, k_X10_diagram_3, k_X10_diagram_4, k_X10_diagram_5, k_X10_diagram_6, k_X10_diagram_7, k_X10_diagram_8, k_X10_diagram_9, k_X10_diagram_10, k_X10_diagram_11, k_X10_diagram_12, k_X10_diagram_13, k_X10_diagram_14, oE_some, Int.reduceToNat, Nat.reduceAdd, true_and, and_true, List.length_cons, List.length_nil, Option.toList_some, Option.toList_none, List.cons_append, List.nil_append, Nat.reduceLeDiff, Nat.le_refl, wdS_nil, wdS_i, wdS_l, wdS_r, wdS_n, wdS_s, o1, cR, find_n (d + 98) hR hx ex, wN, ↓reduceIte]
  | some i =>
    have hi := ixo_lt ex
    have bi : i < 2147483648 := by omega
    rw [callD_k]; simp only [entL_i, entL_l, entL_q, entL_s, entL_nil, n_X10_diagram, u_X10_diagram, m_X10_diagram, rep_1, List.cons_append, List.nil_append, List.append_nil, List.length_cons, List.length_nil, Nat.reduceAdd, true_and]
    simp only [AW_k, AWk_1, x_aload_0, x_aloads_0, x_getf, x_iload_1, x_callv_2, x_istore_2, x_iload_2, x_if_ge, x_push_i, x_push_l, x_goto, x_lald, x_ret, x_ret_i, x_ret_z, x_ret_l, x_ret_c, unl_i, unl_l, unl_q, unl_r, unl_s, unl_n, k_X10_diagram_0, k_X10_diagram_1, k_X10_diagram_2, k_X10_diagram_3, k_X10_diagram_4, k_X10_diagram_5, k_X10_diagram_6, k_X10_diagram_7, k_X10_diagram_8, k_X10_diagram_9, k_X10_diagram_10, k_X10_diagram_11, k_X10_diagram_12, k_X10_diagram_13, k_X10_diagram_14, oE_some, Int.reduceToNat, Nat.reduceAdd, true_and, and_true, List.length_cons, List.length_nil, Option.toList_some, Option.toList_none, List.cons_append, List.nil_append, Nat.reduceLeDiff, Nat.le_refl, wdS_nil, wdS_i, wdS_l, wdS_r, wdS_n, wdS_s, o1, cR, find_s (d + 98) hR hx ex, wI bi, rw_dgms hR, rA_13 hR, bJ rfl hi (FC_31 n), gJt rfl hi (FC_31 n), ↓reduceIte]
/-- the row of a set of arcs -/
def roA (n : Nat) (s : BitVec 64) : Int := if s &&& (aL n ^^^ 18446744073709551615#64) = 0#64 then nuO n (fst (fun i => decide (BitVec.ofNat 64 (dgm n i) = s)) (FC n) 0) else -1
set_option maxHeartbeats 16000000 in
theorem x10_rowOf (d : Nat) {hp : HP} {n : Nat} {G : BitVec 64} {z : Int} {c : Nat} {ks : List Int} {es : List Int} {ik : Bool} {kn : Nat} {kG : BitVec 64} {kz : Int} {kc : Nat} {kks : List Int} {kes : List Int} {tc : Nat} {tb : List Int} {sc : Nat} {tl : List Int} {so : List Int} {le : List Int} {it : Nat → List (BitVec 64)} {he : List Int} {th : List Int} {sl : List Int} {tr : Nat} {bo : List Int} {s : BitVec 64} (hX : XI hp n G z c ks es ik kn kG kz kc kks kes tc tb sc tl so le it he th sl tr bo) (R : PO) : callD (d + 100) 113 [mR 0, mL s] hp R ↔ R (some (mI (roA n s))) hp := by
  obtain ⟨ra, ts, q0, q1, q2, q3, q4, q5, q6, q7, q8, q9, q10, q11, qk⟩ := hX
  have hR := q1.1
  have h1 := rw_1 hR
  have h6 := rw_6 hR
  have f1 := FC_le n
  have cR := rC0 hR
  have cA := rC1 hR
  have o0 : gF hp 0 10 0 = some (mR 1) := XO_F q0 0
  have o1 : gF hp 0 10 1 = some (mR ra) := XO_F q0 1
  have o2 : gF hp 0 10 2 = some (mL G) := XO_F q0 2
  have o3 : gF hp 0 10 3 = some (mI z) := XO_F q0 3
  have o4 : gF hp 0 10 4 = some (mR 2) := XO_F q0 4
  have o5 : gF hp 0 10 5 = some (mR 5) := XO_F q0 5
  have o6 : gF hp 0 10 6 = some (mR 10) := XO_F q0 6
  have o7 : gF hp 0 10 7 = some (mR 14) := XO_F q0 7
  have o8 : gF hp 0 10 8 = some (mR 17) := XO_F q0 8
  have o9 : gF hp 0 10 9 = some (mR 19) := XO_F q0 9
  have o10 : gF hp 0 10 10 = some (mR 27) := XO_F q0 10
  have o11 : gF hp 0 10 11 = some (mR 31) := XO_F q0 11
  have o12 : gF hp 0 10 12 = some (mR 33) := XO_F q0 12
  have o13 : gF hp 0 10 13 = some (mI (zI ik)) := XO_F q0 13
  have o14 : gF hp 0 10 14 = some (mI (kn : Int)) := XO_F q0 14
  have o15 : gF hp 0 10 15 = some (mL kG) := XO_F q0 15
  have o16 : gF hp 0 10 16 = some (mI kz) := XO_F q0 16
  have o17 : gF hp 0 10 17 = some (mR 34) := XO_F q0 17
  have cO := gC_of o0
  unfold roA
  rw [callD_k]; simp only [entL_i, entL_l, entL_q, entL_s, entL_nil, n_X10_rowOf, u_X10_rowOf, m_X10_rowOf, rep_1, List.cons_append, List.nil_append, List.append_nil, List.length_cons, List.length_nil, Nat.reduceAdd, true_and]
  simp only [AW_k, AWk_1, x_lload_1, x_aload_0, x_aloads_0, x_getf, x_push_i, x_push_l, x_lxor, x_land, x_lcmp, x_if_eq, x_ret, x_ret_i, x_ret_z, x_ret_l, x_ret_c, k_X10_rowOf_0, k_X10_rowOf_1, k_X10_rowOf_2, k_X10_rowOf_3, k_X10_rowOf_4, k_X10_rowOf_5, k_X10_rowOf_6, k_X10_rowOf_7, k_X10_rowOf_8, k_X10_rowOf_9, k_X10_rowOf_10, k_X10_rowOf_11, k_X10_rowOf_12, oE_some, Int.reduceToNat, Nat.reduceAdd, true_and, and_true, List.length_cons, List.length_nil, Option.toList_some, Option.toList_none, List.cons_append, List.nil_append, Nat.reduceLeDiff, Nat.le_refl, wdS_nil, wdS_i, wdS_l, wdS_r, wdS_n, wdS_s, o1, rw_arcs hR, rw_all hR, lCmp_eq]
  by_cases c : s &&& (aL n ^^^ 18446744073709551615#64) = 0#64
  · rw [if_pos c, if_pos c]
    simp only [AW_k, AWk_1, x_aload_0, x_aloads_0, x_getf, x_lload_1, x_callv_2, x_istore_3, unl_i, unl_l, unl_q, unl_r, unl_s, unl_n, k_X10_rowOf_13, k_X10_rowOf_14, k_X10_rowOf_15, k_X10_rowOf_16, k_X10_rowOf_17, oE_some, Int.reduceToNat, Nat.reduceAdd, true_and, and_true, List.length_cons, List.length_nil, Option.toList_some, Option.toList_none, List.cons_append, List.nil_append, Nat.reduceLeDiff, Nat.le_refl, wdS_nil, wdS_i, wdS_l, wdS_r, wdS_n, wdS_s, o1, cR, c4_withDiagram (d + 98) hR]
    cases e : fst (fun i => decide (BitVec.ofNat 64 (dgm n i) = s)) (FC n) 0 with
    | none =>
      rw [show oI (none : Option Nat) = -1 from rfl]
      simp only [AW_k, AWk_1, x_istore_3, x_iload_3, x_if_ge, x_push_i, x_push_l, x_goto, x_aload_0, x_aloads_0, x_getf, x_iald, x_ialds, x_ret, x_ret_i, x_ret_z, x_ret_l, x_ret_c, unl_i, unl_l, unl_q, unl_r, unl_s, unl_n, k_X10_rowOf_17, k_X10_rowOf_18, k_X10_rowOf_19, k_X10_rowOf_20, k_X10_rowOf_21, k_X10_rowOf_22, k_X10_rowOf_23, k_X10_rowOf_24, k_X10_rowOf_25, k_X10_rowOf_26, k_X10_rowOf_27, oE_some, Int.reduceToNat, Nat.reduceAdd, true_and, and_true, List.length_cons, List.length_nil, Option.toList_some, Option.toList_none, List.cons_append, List.nil_append, Nat.reduceLeDiff, Nat.le_refl, wdS_nil, wdS_i, wdS_l, wdS_r, wdS_n, wdS_s, wN, ↓reduceIte]
      exact Iff.rfl
    | some j =>
      have hj : j < FC n := by have := (fst_some e).2.1; omega
      have bj : j < 2147483648 := by omega
      rw [show oI (some j) = (j : Int) from rfl]
      simp only [AW_k, AWk_1, x_istore_3, x_iload_3, x_if_ge, x_push_i, x_push_l, x_goto, x_aload_0, x_aloads_0, x_getf, x_iald, x_ialds, x_ret, x_ret_i, x_ret_z, x_ret_l, x_ret_c, unl_i, unl_l, unl_q, unl_r, unl_s, unl_n, k_X10_rowOf_17, k_X10_rowOf_18, k_X10_rowOf_19, k_X10_rowOf_20, k_X10_rowOf_21, k_X10_rowOf_22, k_X10_rowOf_23, k_X10_rowOf_24, k_X10_rowOf_25, k_X10_rowOf_26, k_X10_rowOf_27, oE_some, Int.reduceToNat, Nat.reduceAdd, true_and, and_true, List.length_cons, List.length_nil, Option.toList_some, Option.toList_none, List.cons_append, List.nil_append, Nat.reduceLeDiff, Nat.le_refl, wdS_nil, wdS_i, wdS_l, wdS_r, wdS_n, wdS_s, wI bj, o1, rw_nums hR, rA_10 hR, bI rfl hj (FC_31 n), gI rfl hj (FC_31 n), ↓reduceIte]
      exact Iff.rfl
  · rw [if_neg c, if_neg c]
theorem x10_gone (d : Nat) {hp : HP} {n : Nat} {G : BitVec 64} {z : Int} {c : Nat} {ks : List Int} {es : List Int} {ik : Bool} {kn : Nat} {kG : BitVec 64} {kz : Int} {kc : Nat} {kks : List Int} {kes : List Int} {tc : Nat} {tb : List Int} {sc : Nat} {tl : List Int} {so : List Int} {le : List Int} {it : Nat → List (BitVec 64)} {he : List Int} {th : List Int} {sl : List Int} {tr : Nat} {bo : List Int} (hX : XI hp n G z c ks es ik kn kG kz kc kks kes tc tb sc tl so le it he th sl tr bo) (R : PO) : callD (d + 100) 114 [mR 0] hp R ↔ R (some (mL G)) hp := by
  obtain ⟨ra, ts, q0, q1, q2, q3, q4, q5, q6, q7, q8, q9, q10, q11, qk⟩ := hX
  have hR := q1.1
  have h1 := rw_1 hR
  have h6 := rw_6 hR
  have f1 := FC_le n
  have cR := rC0 hR
  have cA := rC1 hR
  have o0 : gF hp 0 10 0 = some (mR 1) := XO_F q0 0
  have o1 : gF hp 0 10 1 = some (mR ra) := XO_F q0 1
  have o2 : gF hp 0 10 2 = some (mL G) := XO_F q0 2
  have o3 : gF hp 0 10 3 = some (mI z) := XO_F q0 3
  have o4 : gF hp 0 10 4 = some (mR 2) := XO_F q0 4
  have o5 : gF hp 0 10 5 = some (mR 5) := XO_F q0 5
  have o6 : gF hp 0 10 6 = some (mR 10) := XO_F q0 6
  have o7 : gF hp 0 10 7 = some (mR 14) := XO_F q0 7
  have o8 : gF hp 0 10 8 = some (mR 17) := XO_F q0 8
  have o9 : gF hp 0 10 9 = some (mR 19) := XO_F q0 9
  have o10 : gF hp 0 10 10 = some (mR 27) := XO_F q0 10
  have o11 : gF hp 0 10 11 = some (mR 31) := XO_F q0 11
  have o12 : gF hp 0 10 12 = some (mR 33) := XO_F q0 12
  have o13 : gF hp 0 10 13 = some (mI (zI ik)) := XO_F q0 13
  have o14 : gF hp 0 10 14 = some (mI (kn : Int)) := XO_F q0 14
  have o15 : gF hp 0 10 15 = some (mL kG) := XO_F q0 15
  have o16 : gF hp 0 10 16 = some (mI kz) := XO_F q0 16
  have o17 : gF hp 0 10 17 = some (mR 34) := XO_F q0 17
  have cO := gC_of o0
  rw [callD_k]; simp only [entL_i, entL_l, entL_q, entL_s, entL_nil, n_X10_gone, u_X10_gone, m_X10_gone, rep_0, List.cons_append, List.nil_append, List.append_nil, List.length_cons, List.length_nil, Nat.reduceAdd, true_and]
  simp only [AW_k, AWk_1, x_aload_0, x_aloads_0, x_getf, x_ret, x_ret_i, x_ret_z, x_ret_l, x_ret_c, k_X10_gone_0, k_X10_gone_1, k_X10_gone_2, oE_some, Int.reduceToNat, Nat.reduceAdd, true_and, and_true, List.length_cons, List.length_nil, Option.toList_some, Option.toList_none, List.cons_append, List.nil_append, Nat.reduceLeDiff, Nat.le_refl, wdS_nil, wdS_i, wdS_l, wdS_r, wdS_n, wdS_s, o2]
/-- the model's cells are as they were -/
def Kx (hp h : HP) : Prop := hp.length ≤ h.length ∧ Sm 54 83 hp h
theorem Kx_refl (hp : HP) : Kx hp hp := ⟨Nat.le_refl _, fun _ _ _ => rfl⟩
theorem Kx_trans {h1 h2 h3 : HP} (a : Kx h1 h2) (b : Kx h2 h3) : Kx h1 h3 := ⟨Nat.le_trans a.1 b.1, fun k x y => (b.2 k x y).trans (a.2 k x y)⟩
theorem Kx_Fr {a b : Nat} {hp h : HP} (f : Fr a b hp h) (o : b ≤ 54 ∨ 83 ≤ a) : Kx hp h := ⟨Nat.le_of_eq f.1.symm, Sm_Fr f (by omega)⟩
theorem Kx_pF {hp : HP} {c f : Nat} {v : AV} : Kx hp (pF hp 0 c f v) := Kx_Fr (Fr_pF (a := 0) (b := 1) (Nat.le_refl _) (Nat.lt_succ_self _)) (by omega)
/-- what is gone after a call that tells an arc -/
def ctG (n : Nat) (G : BitVec 64) (x : Int) : BitVec 64 := match axo n x with
  | some a => G ||| FO n a
  | none => G
def rsG (n : Nat) (G : BitVec 64) (x : Int) : BitVec 64 := match axo n x with
  | some a => G &&& (FG n a ^^^ 18446744073709551615#64)
  | none => G
def goA (n : Nat) (x : Int) (G : BitVec 64) : Int := match axo n x with
  | some _ => popI G
  | none => -1
set_option maxHeartbeats 16000000 in
theorem x10_contract (d : Nat) {hp : HP} {n : Nat} {G : BitVec 64} {z : Int} {c : Nat} {ks : List Int} {es : List Int} {ik : Bool} {kn : Nat} {kG : BitVec 64} {kz : Int} {kc : Nat} {kks : List Int} {kes : List Int} {tc : Nat} {tb : List Int} {sc : Nat} {tl : List Int} {so : List Int} {le : List Int} {it : Nat → List (BitVec 64)} {he : List Int} {th : List Int} {sl : List Int} {tr : Nat} {bo : List Int} {x : Int} (hX : XI hp n G z c ks es ik kn kG kz kc kks kes tc tb sc tl so le it he th sl tr bo) (hx : w32 x = x) : ∃ h', XI h' n (ctG n G x) z c ks es ik kn kG kz kc kks kes tc tb sc tl so le it he th sl tr bo ∧ Kx hp h' ∧ ∀ R : PO, callD (d + 100) 115 [mR 0, mI x] hp R ↔ R (some (mI (goA n x (ctG n G x)))) h' := by
  have hX0 := hX
  obtain ⟨ra, ts, q0, q1, q2, q3, q4, q5, q6, q7, q8, q9, q10, q11, qk⟩ := hX
  have hR := q1.1
  have h1 := rw_1 hR
  have h6 := rw_6 hR
  have f1 := FC_le n
  have cR := rC0 hR
  have cA := rC1 hR
  have o0 : gF hp 0 10 0 = some (mR 1) := XO_F q0 0
  have o1 : gF hp 0 10 1 = some (mR ra) := XO_F q0 1
  have o2 : gF hp 0 10 2 = some (mL G) := XO_F q0 2
  have o3 : gF hp 0 10 3 = some (mI z) := XO_F q0 3
  have o4 : gF hp 0 10 4 = some (mR 2) := XO_F q0 4
  have o5 : gF hp 0 10 5 = some (mR 5) := XO_F q0 5
  have o6 : gF hp 0 10 6 = some (mR 10) := XO_F q0 6
  have o7 : gF hp 0 10 7 = some (mR 14) := XO_F q0 7
  have o8 : gF hp 0 10 8 = some (mR 17) := XO_F q0 8
  have o9 : gF hp 0 10 9 = some (mR 19) := XO_F q0 9
  have o10 : gF hp 0 10 10 = some (mR 27) := XO_F q0 10
  have o11 : gF hp 0 10 11 = some (mR 31) := XO_F q0 11
  have o12 : gF hp 0 10 12 = some (mR 33) := XO_F q0 12
  have o13 : gF hp 0 10 13 = some (mI (zI ik)) := XO_F q0 13
  have o14 : gF hp 0 10 14 = some (mI (kn : Int)) := XO_F q0 14
  have o15 : gF hp 0 10 15 = some (mL kG) := XO_F q0 15
  have o16 : gF hp 0 10 16 = some (mI kz) := XO_F q0 16
  have o17 : gF hp 0 10 17 = some (mR 34) := XO_F q0 17
  have cO := gC_of o0
  unfold ctG goA
  cases ex : axo n x with
  | none =>
    refine ⟨hp, hX0, Kx_refl hp, fun R => ?_⟩
    rw [callD_k]; simp only [entL_i, entL_l, entL_q, entL_s, entL_nil, n_X10_contract, u_X10_contract, m_X10_contract, rep_0, List.cons_append, List.nil_append, List.append_nil, List.length_cons, List.length_nil, Nat.reduceAdd, true_and]
    simp only [AW_k, AWk_1, x_aload_0, x_aloads_0, x_iload_1, x_callv_2, x_if_ne, x_push_i, x_push_l, x_ret, x_ret_i, x_ret_z, x_ret_l, x_ret_c, x_dup_i, x_dup_r, x_dup_q, x_getf, x_lald, x_lor, x_putf_l, x_call_1, k_X10_contract_0, k_X10_contract_1, k_X10_contract_2, k_X10_contract_3, k_X10_contract_4, k_X10_contract_5, k_X10_contract_6, k_X10_contract_7, k_X10_contract_8, k_X10_contract_9, k_X10_contract_10, k_X10_contract_11, k_X10_contract_12, k_X10_contract_13, k_X10_contract_14, k_X10_contract_15, k_X10_contract_16, k_X10_contract_17, k_X10_contract_18, k_X10_contract_19, k_X10_contract_20, oE_some, Int.reduceToNat, Nat.reduceAdd, true_and, and_true, List.length_cons, List.length_nil, Option.toList_some, Option.toList_none, List.cons_append, List.nil_append, Nat.reduceLeDiff, Nat.le_refl, wdS_nil, wdS_i, wdS_l, wdS_r, wdS_n, wdS_s, cO, isArc_n (d + 98) hX0 hx ex, w00, ↓reduceIte]
  | some a =>
    obtain ⟨ha, ea⟩ := axo_lt ex
    have en := isArc_s (d + 98) hX0 hx ex
    refine ⟨pF hp 0 10 2 (mL (G ||| FO n a)), XI_oG hX0, Kx_pF, fun R => ?_⟩
    have o2' : gF (pF hp 0 10 2 (mL (G ||| FO n a))) 0 10 2 = some (mL (G ||| FO n a)) := gF_pF_same o2
    subst ea
    rw [callD_k]; simp only [entL_i, entL_l, entL_q, entL_s, entL_nil, n_X10_contract, u_X10_contract, m_X10_contract, rep_0, List.cons_append, List.nil_append, List.append_nil, List.length_cons, List.length_nil, Nat.reduceAdd, true_and]
    simp only [AW_k, AWk_1, x_aload_0, x_aloads_0, x_iload_1, x_callv_2, x_if_ne, x_push_i, x_push_l, x_ret, x_ret_i, x_ret_z, x_ret_l, x_ret_c, x_dup_i, x_dup_r, x_dup_q, x_getf, x_lald, x_lor, x_putf_l, x_call_1, k_X10_contract_0, k_X10_contract_1, k_X10_contract_2, k_X10_contract_3, k_X10_contract_4, k_X10_contract_5, k_X10_contract_6, k_X10_contract_7, k_X10_contract_8, k_X10_contract_9, k_X10_contract_10, k_X10_contract_11, k_X10_contract_12, k_X10_contract_13, k_X10_contract_14, k_X10_contract_15, k_X10_contract_16, k_X10_contract_17, k_X10_contract_18, k_X10_contract_19, k_X10_contract_20, oE_some, Int.reduceToNat, Nat.reduceAdd, true_and, and_true, List.length_cons, List.length_nil, Option.toList_some, Option.toList_none, List.cons_append, List.nil_append, Nat.reduceLeDiff, Nat.le_refl, wdS_nil, wdS_i, wdS_l, wdS_r, wdS_n, wdS_s, cO, en, w10, o1, o2, rw_arcs hR, rw_forced hR, rA_8 hR, bJ rfl ha (NA_31 n), gJt rfl ha (NA_31 n), show BitVec.ofNat 64 (fo n a) = FO n a from rfl, o2', c_bits (d + 98), ↓reduceIte]
set_option maxHeartbeats 16000000 in
theorem x10_restore (d : Nat) {hp : HP} {n : Nat} {G : BitVec 64} {z : Int} {c : Nat} {ks : List Int} {es : List Int} {ik : Bool} {kn : Nat} {kG : BitVec 64} {kz : Int} {kc : Nat} {kks : List Int} {kes : List Int} {tc : Nat} {tb : List Int} {sc : Nat} {tl : List Int} {so : List Int} {le : List Int} {it : Nat → List (BitVec 64)} {he : List Int} {th : List Int} {sl : List Int} {tr : Nat} {bo : List Int} {x : Int} (hX : XI hp n G z c ks es ik kn kG kz kc kks kes tc tb sc tl so le it he th sl tr bo) (hx : w32 x = x) : ∃ h', XI h' n (rsG n G x) z c ks es ik kn kG kz kc kks kes tc tb sc tl so le it he th sl tr bo ∧ Kx hp h' ∧ ∀ R : PO, callD (d + 100) 116 [mR 0, mI x] hp R ↔ R (some (mI (goA n x (rsG n G x)))) h' := by
  have hX0 := hX
  obtain ⟨ra, ts, q0, q1, q2, q3, q4, q5, q6, q7, q8, q9, q10, q11, qk⟩ := hX
  have hR := q1.1
  have h1 := rw_1 hR
  have h6 := rw_6 hR
  have f1 := FC_le n
  have cR := rC0 hR
  have cA := rC1 hR
  have o0 : gF hp 0 10 0 = some (mR 1) := XO_F q0 0
  have o1 : gF hp 0 10 1 = some (mR ra) := XO_F q0 1
  have o2 : gF hp 0 10 2 = some (mL G) := XO_F q0 2
  have o3 : gF hp 0 10 3 = some (mI z) := XO_F q0 3
  have o4 : gF hp 0 10 4 = some (mR 2) := XO_F q0 4
  have o5 : gF hp 0 10 5 = some (mR 5) := XO_F q0 5
  have o6 : gF hp 0 10 6 = some (mR 10) := XO_F q0 6
  have o7 : gF hp 0 10 7 = some (mR 14) := XO_F q0 7
  have o8 : gF hp 0 10 8 = some (mR 17) := XO_F q0 8
  have o9 : gF hp 0 10 9 = some (mR 19) := XO_F q0 9
  have o10 : gF hp 0 10 10 = some (mR 27) := XO_F q0 10
  have o11 : gF hp 0 10 11 = some (mR 31) := XO_F q0 11
  have o12 : gF hp 0 10 12 = some (mR 33) := XO_F q0 12
  have o13 : gF hp 0 10 13 = some (mI (zI ik)) := XO_F q0 13
  have o14 : gF hp 0 10 14 = some (mI (kn : Int)) := XO_F q0 14
  have o15 : gF hp 0 10 15 = some (mL kG) := XO_F q0 15
  have o16 : gF hp 0 10 16 = some (mI kz) := XO_F q0 16
  have o17 : gF hp 0 10 17 = some (mR 34) := XO_F q0 17
  have cO := gC_of o0
  unfold rsG goA
  cases ex : axo n x with
  | none =>
    refine ⟨hp, hX0, Kx_refl hp, fun R => ?_⟩
    rw [callD_k]; simp only [entL_i, entL_l, entL_q, entL_s, entL_nil, n_X10_restore, u_X10_restore, m_X10_restore, rep_0, List.cons_append, List.nil_append, List.append_nil, List.length_cons, List.length_nil, Nat.reduceAdd, true_and]
    simp only [AW_k, AWk_1, x_aload_0, x_aloads_0, x_iload_1, x_callv_2, x_if_ne, x_push_i, x_push_l, x_ret, x_ret_i, x_ret_z, x_ret_l, x_ret_c, x_dup_i, x_dup_r, x_dup_q, x_getf, x_lald, x_lxor, x_land, x_putf_l, x_call_1, k_X10_restore_0, k_X10_restore_1, k_X10_restore_2, k_X10_restore_3, k_X10_restore_4, k_X10_restore_5, k_X10_restore_6, k_X10_restore_7, k_X10_restore_8, k_X10_restore_9, k_X10_restore_10, k_X10_restore_11, k_X10_restore_12, k_X10_restore_13, k_X10_restore_14, k_X10_restore_15, k_X10_restore_16, k_X10_restore_17, k_X10_restore_18, k_X10_restore_19, k_X10_restore_20, k_X10_restore_21, k_X10_restore_22, oE_some, Int.reduceToNat, Nat.reduceAdd, true_and, and_true, List.length_cons, List.length_nil, Option.toList_some, Option.toList_none, List.cons_append, List.nil_append, Nat.reduceLeDiff, Nat.le_refl, wdS_nil, wdS_i, wdS_l, wdS_r, wdS_n, wdS_s, cO, isArc_n (d + 98) hX0 hx ex, w00, ↓reduceIte]
  | some a =>
    obtain ⟨ha, ea⟩ := axo_lt ex
    have en := isArc_s (d + 98) hX0 hx ex
    refine ⟨pF hp 0 10 2 (mL (G &&& (FG n a ^^^ 18446744073709551615#64))), XI_oG hX0, Kx_pF, fun R => ?_⟩
    have o2' : gF (pF hp 0 10 2 (mL (G &&& (FG n a ^^^ 18446744073709551615#64)))) 0 10 2 = some (mL (G &&& (FG n a ^^^ 18446744073709551615#64))) := gF_pF_same o2
    subst ea
    rw [callD_k]; simp only [entL_i, entL_l, entL_q, entL_s, entL_nil, n_X10_restore, u_X10_restore, m_X10_restore, rep_0, List.cons_append, List.nil_append, List.append_nil, List.length_cons, List.length_nil, Nat.reduceAdd, true_and]
    simp only [AW_k, AWk_1, x_aload_0, x_aloads_0, x_iload_1, x_callv_2, x_if_ne, x_push_i, x_push_l, x_ret, x_ret_i, x_ret_z, x_ret_l, x_ret_c, x_dup_i, x_dup_r, x_dup_q, x_getf, x_lald, x_lxor, x_land, x_putf_l, x_call_1, k_X10_restore_0, k_X10_restore_1, k_X10_restore_2, k_X10_restore_3, k_X10_restore_4, k_X10_restore_5, k_X10_restore_6, k_X10_restore_7, k_X10_restore_8, k_X10_restore_9, k_X10_restore_10, k_X10_restore_11, k_X10_restore_12, k_X10_restore_13, k_X10_restore_14, k_X10_restore_15, k_X10_restore_16, k_X10_restore_17, k_X10_restore_18, k_X10_restore_19, k_X10_restore_20, k_X10_restore_21, k_X10_restore_22, oE_some, Int.reduceToNat, Nat.reduceAdd, true_and, and_true, List.length_cons, List.length_nil, Option.toList_some, Option.toList_none, List.cons_append, List.nil_append, Nat.reduceLeDiff, Nat.le_refl, wdS_nil, wdS_i, wdS_l, wdS_r, wdS_n, wdS_s, cO, en, w10, o1, o2, rw_arcs hR, rw_forcing hR, rA_9 hR, bJ rfl ha (NA_31 n), gJt rfl ha (NA_31 n), show BitVec.ofNat 64 (fg n a) = FG n a from rfl, o2', c_bits (d + 98), ↓reduceIte]
/-- arcs come that are taken -/
def coG (n : Nat) (G t : BitVec 64) (w : Int) : BitVec 64 := if w = 0 then cl n t else if w = 1 then G ||| cl n t else G &&& cl n t
set_option maxHeartbeats 16000000 in
theorem x10_come (d : Nat) {hp : HP} {n : Nat} {G : BitVec 64} {z : Int} {c : Nat} {ks : List Int} {es : List Int} {ik : Bool} {kn : Nat} {kG : BitVec 64} {kz : Int} {kc : Nat} {kks : List Int} {kes : List Int} {tc : Nat} {tb : List Int} {sc : Nat} {tl : List Int} {so : List Int} {le : List Int} {it : Nat → List (BitVec 64)} {he : List Int} {th : List Int} {sl : List Int} {tr : Nat} {bo : List Int} {t : BitVec 64} {w : Int} (hX : XI hp n G z c ks es ik kn kG kz kc kks kes tc tb sc tl so le it he th sl tr bo) (hw : w32 w = w) : ∃ h', XI h' n (coG n G t w) z c ks es ik kn kG kz kc kks kes tc tb sc tl so le it he th sl tr bo ∧ Kx hp h' ∧ ∀ R : PO, callD (d + 90) 122 [mR 0, mL t, mI w] hp R ↔ R (some (mI (popI (coG n G t w)))) h' := by
  have hX0 := hX
  obtain ⟨ra, ts, q0, q1, q2, q3, q4, q5, q6, q7, q8, q9, q10, q11, qk⟩ := hX
  have hR := q1.1
  have h1 := rw_1 hR
  have h6 := rw_6 hR
  have f1 := FC_le n
  have cR := rC0 hR
  have cA := rC1 hR
  have o0 : gF hp 0 10 0 = some (mR 1) := XO_F q0 0
  have o1 : gF hp 0 10 1 = some (mR ra) := XO_F q0 1
  have o2 : gF hp 0 10 2 = some (mL G) := XO_F q0 2
  have o3 : gF hp 0 10 3 = some (mI z) := XO_F q0 3
  have o4 : gF hp 0 10 4 = some (mR 2) := XO_F q0 4
  have o5 : gF hp 0 10 5 = some (mR 5) := XO_F q0 5
  have o6 : gF hp 0 10 6 = some (mR 10) := XO_F q0 6
  have o7 : gF hp 0 10 7 = some (mR 14) := XO_F q0 7
  have o8 : gF hp 0 10 8 = some (mR 17) := XO_F q0 8
  have o9 : gF hp 0 10 9 = some (mR 19) := XO_F q0 9
  have o10 : gF hp 0 10 10 = some (mR 27) := XO_F q0 10
  have o11 : gF hp 0 10 11 = some (mR 31) := XO_F q0 11
  have o12 : gF hp 0 10 12 = some (mR 33) := XO_F q0 12
  have o13 : gF hp 0 10 13 = some (mI (zI ik)) := XO_F q0 13
  have o14 : gF hp 0 10 14 = some (mI (kn : Int)) := XO_F q0 14
  have o15 : gF hp 0 10 15 = some (mL kG) := XO_F q0 15
  have o16 : gF hp 0 10 16 = some (mI kz) := XO_F q0 16
  have o17 : gF hp 0 10 17 = some (mR 34) := XO_F q0 17
  have cO := gC_of o0
  have i1 : w32 1 = 1 := rfl
  refine ⟨pF hp 0 10 2 (mL (coG n G t w)), XI_oG hX0, Kx_pF, fun R => ?_⟩
  have o2' : gF (pF hp 0 10 2 (mL (coG n G t w))) 0 10 2 = some (mL (coG n G t w)) := gF_pF_same o2
  rw [callD_k]; simp only [entL_i, entL_l, entL_q, entL_s, entL_nil, n_X10_come, u_X10_come, m_X10_come, rep_2, List.cons_append, List.nil_append, List.append_nil, List.length_cons, List.length_nil, Nat.reduceAdd, true_and]
  simp only [AW_k, AWk_1, x_aload_0, x_aloads_0, x_getf, x_lload_1, x_callv_2, x_lstore_4, x_iload_3, x_if_ne, unl_i, unl_l, unl_q, unl_r, unl_s, unl_n, k_X10_come_0, k_X10_come_1, k_X10_come_2, k_X10_come_3, k_X10_come_4, k_X10_come_5, k_X10_come_6, k_X10_come_7, oE_some, Int.reduceToNat, Nat.reduceAdd, true_and, and_true, List.length_cons, List.length_nil, Option.toList_some, Option.toList_none, List.cons_append, List.nil_append, Nat.reduceLeDiff, Nat.le_refl, wdS_nil, wdS_i, wdS_l, wdS_r, wdS_n, wdS_s, o1, rw_arcs hR, cA, c1_withForced (d + 88) hR, hw]
  by_cases c0 : w = 0
  · have e : coG n G t w = cl n t := by unfold coG; rw [if_pos c0]
    rw [e] at o2' ⊢
    rw [if_pos c0]
    simp only [AW_k, AWk_1, x_aload_0, x_aloads_0, x_lload_4, x_putf_l, x_goto, x_iload_3, x_push_i, x_push_l, x_icmp_ne, x_dup_i, x_dup_r, x_dup_q, x_getf, x_lor, x_land, x_call_1, x_ret, x_ret_i, x_ret_z, x_ret_l, x_ret_c, k_X10_come_8, k_X10_come_9, k_X10_come_10, k_X10_come_11, k_X10_come_12, k_X10_come_13, k_X10_come_14, k_X10_come_15, k_X10_come_16, k_X10_come_17, k_X10_come_18, k_X10_come_19, k_X10_come_20, k_X10_come_21, k_X10_come_22, k_X10_come_23, k_X10_come_24, k_X10_come_25, k_X10_come_26, k_X10_come_27, k_X10_come_28, k_X10_come_29, k_X10_come_30, k_X10_come_31, oE_some, Int.reduceToNat, Nat.reduceAdd, true_and, and_true, List.length_cons, List.length_nil, Option.toList_some, Option.toList_none, List.cons_append, List.nil_append, Nat.reduceLeDiff, Nat.le_refl, wdS_nil, wdS_i, wdS_l, wdS_r, wdS_n, wdS_s, o2, o2', c_bits (d + 88)]
  · rw [if_neg c0]
    simp only [AW_k, AWk_1, x_iload_3, x_push_i, x_push_l, x_icmp_ne, k_X10_come_12, k_X10_come_13, k_X10_come_14, oE_some, Int.reduceToNat, Nat.reduceAdd, true_and, and_true, List.length_cons, List.length_nil, Option.toList_some, Option.toList_none, List.cons_append, List.nil_append, Nat.reduceLeDiff, Nat.le_refl, wdS_nil, wdS_i, wdS_l, wdS_r, wdS_n, wdS_s, hw, i1]
    by_cases c1 : w = 1
    · have e : coG n G t w = G ||| cl n t := by unfold coG; rw [if_neg c0, if_pos c1]
      rw [e] at o2' ⊢
      rw [if_pos c1]
      simp only [AW_k, AWk_1, x_aload_0, x_aloads_0, x_dup_i, x_dup_r, x_dup_q, x_getf, x_lload_4, x_lor, x_putf_l, x_goto, x_land, x_call_1, x_ret, x_ret_i, x_ret_z, x_ret_l, x_ret_c, k_X10_come_15, k_X10_come_16, k_X10_come_17, k_X10_come_18, k_X10_come_19, k_X10_come_20, k_X10_come_21, k_X10_come_22, k_X10_come_23, k_X10_come_24, k_X10_come_25, k_X10_come_26, k_X10_come_27, k_X10_come_28, k_X10_come_29, k_X10_come_30, k_X10_come_31, oE_some, Int.reduceToNat, Nat.reduceAdd, true_and, and_true, List.length_cons, List.length_nil, Option.toList_some, Option.toList_none, List.cons_append, List.nil_append, Nat.reduceLeDiff, Nat.le_refl, wdS_nil, wdS_i, wdS_l, wdS_r, wdS_n, wdS_s, o2, o2', c_bits (d + 88)]
    · have e : coG n G t w = G &&& cl n t := by unfold coG; rw [if_neg c0, if_neg c1]
      rw [e] at o2' ⊢
      rw [if_neg c1]
      simp only [AW_k, AWk_1, x_aload_0, x_aloads_0, x_dup_i, x_dup_r, x_dup_q, x_getf, x_lload_4, x_land, x_putf_l, x_call_1, x_ret, x_ret_i, x_ret_z, x_ret_l, x_ret_c, k_X10_come_22, k_X10_come_23, k_X10_come_24, k_X10_come_25, k_X10_come_26, k_X10_come_27, k_X10_come_28, k_X10_come_29, k_X10_come_30, k_X10_come_31, oE_some, Int.reduceToNat, Nat.reduceAdd, true_and, and_true, List.length_cons, List.length_nil, Option.toList_some, Option.toList_none, List.cons_append, List.nil_append, Nat.reduceLeDiff, Nat.le_refl, wdS_nil, wdS_i, wdS_l, wdS_r, wdS_n, wdS_s, o2, o2', c_bits (d + 88)]
def clG (n : Nat) (G : BitVec 64) (x y : Int) : BitVec 64 := match ixo n x with
  | some i => match ixo n y with
    | some j => G ||| cl n (abt n (mt n i j) 15 (jn n i j))
    | none => G
  | none => G
set_option maxHeartbeats 16000000 in
theorem x10_collapse (d : Nat) {hp : HP} {n : Nat} {G : BitVec 64} {z : Int} {c : Nat} {ks : List Int} {es : List Int} {ik : Bool} {kn : Nat} {kG : BitVec 64} {kz : Int} {kc : Nat} {kks : List Int} {kes : List Int} {tc : Nat} {tb : List Int} {sc : Nat} {tl : List Int} {so : List Int} {le : List Int} {it : Nat → List (BitVec 64)} {he : List Int} {th : List Int} {sl : List Int} {tr : Nat} {bo : List Int} {x y : Int} (hX : XI hp n G z c ks es ik kn kG kz kc kks kes tc tb sc tl so le it he th sl tr bo) (hx : w32 x = x) (hy : w32 y = y) : ∃ h', XI h' n (clG n G x y) z c ks es ik kn kG kz kc kks kes tc tb sc tl so le it he th sl tr bo ∧ Kx hp h' ∧ ∀ R : PO, callD (d + 100) 117 [mR 0, mI x, mI y] hp R ↔ R (some (mI (an2 n x y (fun _ _ => popI (clG n G x y))))) h' := by
  have hX0 := hX
  obtain ⟨ra, ts, q0, q1, q2, q3, q4, q5, q6, q7, q8, q9, q10, q11, qk⟩ := hX
  have hR := q1.1
  have h1 := rw_1 hR
  have h6 := rw_6 hR
  have f1 := FC_le n
  have cR := rC0 hR
  have cA := rC1 hR
  have o0 : gF hp 0 10 0 = some (mR 1) := XO_F q0 0
  have o1 : gF hp 0 10 1 = some (mR ra) := XO_F q0 1
  have o2 : gF hp 0 10 2 = some (mL G) := XO_F q0 2
  have o3 : gF hp 0 10 3 = some (mI z) := XO_F q0 3
  have o4 : gF hp 0 10 4 = some (mR 2) := XO_F q0 4
  have o5 : gF hp 0 10 5 = some (mR 5) := XO_F q0 5
  have o6 : gF hp 0 10 6 = some (mR 10) := XO_F q0 6
  have o7 : gF hp 0 10 7 = some (mR 14) := XO_F q0 7
  have o8 : gF hp 0 10 8 = some (mR 17) := XO_F q0 8
  have o9 : gF hp 0 10 9 = some (mR 19) := XO_F q0 9
  have o10 : gF hp 0 10 10 = some (mR 27) := XO_F q0 10
  have o11 : gF hp 0 10 11 = some (mR 31) := XO_F q0 11
  have o12 : gF hp 0 10 12 = some (mR 33) := XO_F q0 12
  have o13 : gF hp 0 10 13 = some (mI (zI ik)) := XO_F q0 13
  have o14 : gF hp 0 10 14 = some (mI (kn : Int)) := XO_F q0 14
  have o15 : gF hp 0 10 15 = some (mL kG) := XO_F q0 15
  have o16 : gF hp 0 10 16 = some (mI kz) := XO_F q0 16
  have o17 : gF hp 0 10 17 = some (mR 34) := XO_F q0 17
  have cO := gC_of o0
  cases ex : ixo n x with
  | none =>
    have e : clG n G x y = G := by unfold clG; rw [ex]
    rw [e]
    refine ⟨hp, hX0, Kx_refl hp, fun R => ?_⟩
    rw [an2_n ex]
    rw [callD_k]; simp only [entL_i, entL_l, entL_q, entL_s, entL_nil, n_X10_collapse, u_X10_collapse, m_X10_collapse, rep_4, List.cons_append, List.nil_append, List.append_nil, List.length_cons, List.length_nil, Nat.reduceAdd, true_and]
    simp only [AW_k, AWk_1, x_aload_0, x_aloads_0, x_getf, x_iload_1, x_callv_2, x_istore_3, x_iload_2, x_istore_4, x_iload_3, x_if_lt, x_iload_4, x_if_ge, x_push_i, x_push_l, x_ret, x_ret_i, x_ret_z, x_ret_l, x_ret_c, x_callv_3, x_lstore_5, x_lload_5, unl_i, unl_l, unl_q, unl_r, unl_s, unl_n, k_X10_collapse_0, k_X10_collapse_1, k_X10_collapse_2, k_X10_collapse_3, k_X10_collapse_4, k_X10_collapse_5, k_X10_collapse_6, k_X10_collapse_7, k_X10_collapse_8, k_X10_collapse_9, k_X10_collapse_10, k_X10_collapse_11, k_X10_collapse_12, k_X10_collapse_13, k_X10_collapse_14, k_X10_collapse_15, k_X10_collapse_16, k_X10_collapse_17, k_X10_collapse_18, k_X10_collapse_19, k_X10_collapse_20, k_X10_collapse_21, k_X10_collapse_22, k_X10_collapse_23, k_X10_collapse_24, k_X10_collapse_25, k_X10_collapse_26, k_X10_collapse_27, k_X10_collapse_28, k_X10_collapse_29, k_X10_collapse_30, k_X10_collapse_31, k_X10_collapse_32, k_X10_collapse_33, k_X10_collapse_34, oE_some, Int.reduceToNat, Nat.reduceAdd, true_and, and_true, List.length_cons, List.length_nil, Option.toList_some, Option.toList_none, List.cons_append, List.nil_append, Nat.reduceLeDiff, Nat.le_refl, wdS_nil, wdS_i, wdS_l, wdS_r, wdS_n, wdS_s, o1, cR, find_n (d + 98) hR hx ex, c4_find (d + 98) hR hy, wN, ↓reduceIte]
  | some i =>
    have hi := ixo_lt ex
    have bi : i < 2147483648 := by omega
    cases ey : ixo n y with
    | none =>
      have e : clG n G x y = G := by unfold clG; rw [ex, ey]
      rw [e]
      refine ⟨hp, hX0, Kx_refl hp, fun R => ?_⟩
      rw [an2_m ex ey]
      rw [callD_k]; simp only [entL_i, entL_l, entL_q, entL_s, entL_nil, n_X10_collapse, u_X10_collapse, m_X10_collapse, rep_4, List.cons_append, List.nil_append, List.append_nil, List.length_cons, List.length_nil, Nat.reduceAdd, true_and]
      simp only [AW_k, AWk_1, x_aload_0, x_aloads_0, x_getf, x_iload_1, x_callv_2, x_istore_3, x_iload_2, x_istore_4, x_iload_3, x_if_lt, x_iload_4, x_if_ge, x_push_i, x_push_l, x_ret, x_ret_i, x_ret_z, x_ret_l, x_ret_c, x_callv_3, x_lstore_5, x_lload_5, unl_i, unl_l, unl_q, unl_r, unl_s, unl_n, k_X10_collapse_0, k_X10_collapse_1, k_X10_collapse_2, k_X10_collapse_3, k_X10_collapse_4, k_X10_collapse_5, k_X10_collapse_6, k_X10_collapse_7, k_X10_collapse_8, k_X10_collapse_9, k_X10_collapse_10, k_X10_collapse_11, k_X10_collapse_12, k_X10_collapse_13, k_X10_collapse_14, k_X10_collapse_15, k_X10_collapse_16, k_X10_collapse_17, k_X10_collapse_18, k_X10_collapse_19, k_X10_collapse_20, k_X10_collapse_21, k_X10_collapse_22, k_X10_collapse_23, k_X10_collapse_24, k_X10_collapse_25, k_X10_collapse_26, k_X10_collapse_27, k_X10_collapse_28, k_X10_collapse_29, k_X10_collapse_30, k_X10_collapse_31, k_X10_collapse_32, k_X10_collapse_33, k_X10_collapse_34, oE_some, Int.reduceToNat, Nat.reduceAdd, true_and, and_true, List.length_cons, List.length_nil, Option.toList_some, Option.toList_none, List.cons_append, List.nil_append, Nat.reduceLeDiff, Nat.le_refl, wdS_nil, wdS_i, wdS_l, wdS_r, wdS_n, wdS_s, o1, cR, find_s (d + 98) hR hx ex, find_n (d + 98) hR hy ey, wN, wI bi, ↓reduceIte]
    | some j =>
      have hj := ixo_lt ey
      have bj : j < 2147483648 := by omega
      have hm : mt n i j < FC n := mt_ok hi
      have hjn : jn n i j < FC n := jn_ok hi
      have e : clG n G x y = coG n G (abt n (mt n i j) 15 (jn n i j)) 1 := by unfold clG coG; rw [ex, ey, if_neg (by decide), if_pos rfl]
      rw [e]
      obtain ⟨h', u1, u2, u3⟩ := x10_come (d + 9) (t := abt n (mt n i j) 15 (jn n i j)) (w := 1) hX0 rfl
      refine ⟨h', u1, u2, fun R => ?_⟩
      rw [an2_s ex ey]
      rw [callD_k]; simp only [entL_i, entL_l, entL_q, entL_s, entL_nil, n_X10_collapse, u_X10_collapse, m_X10_collapse, rep_4, List.cons_append, List.nil_append, List.append_nil, List.length_cons, List.length_nil, Nat.reduceAdd, true_and]
      simp only [AW_k, AWk_1, x_aload_0, x_aloads_0, x_getf, x_iload_1, x_callv_2, x_istore_3, x_iload_2, x_istore_4, x_iload_3, x_if_lt, x_iload_4, x_if_ge, x_push_i, x_push_l, x_ret, x_ret_i, x_ret_z, x_ret_l, x_ret_c, x_callv_3, x_lstore_5, x_lload_5, unl_i, unl_l, unl_q, unl_r, unl_s, unl_n, k_X10_collapse_0, k_X10_collapse_1, k_X10_collapse_2, k_X10_collapse_3, k_X10_collapse_4, k_X10_collapse_5, k_X10_collapse_6, k_X10_collapse_7, k_X10_collapse_8, k_X10_collapse_9, k_X10_collapse_10, k_X10_collapse_11, k_X10_collapse_12, k_X10_collapse_13, k_X10_collapse_14, k_X10_collapse_15, k_X10_collapse_16, k_X10_collapse_17, k_X10_collapse_18, k_X10_collapse_19, k_X10_collapse_20, k_X10_collapse_21, k_X10_collapse_22, k_X10_collapse_23, k_X10_collapse_24, k_X10_collapse_25, k_X10_collapse_26, k_X10_collapse_27, k_X10_collapse_28, k_X10_collapse_29, k_X10_collapse_30, k_X10_collapse_31, k_X10_collapse_32, k_X10_collapse_33, k_X10_collapse_34, oE_some, Int.reduceToNat, Nat.reduceAdd, true_and, and_true, List.length_cons, List.length_nil, Option.toList_some, Option.toList_none, List.cons_append, List.nil_append, Nat.reduceLeDiff, Nat.le_refl, wdS_nil, wdS_i, wdS_l, wdS_r, wdS_n, wdS_s, cO, o1, cR, find_s (d + 98) hR hx ex, find_s (d + 98) hR hy ey, wI bi, wI bj, c4_meetOf (d + 97) hR hi hj, c4_joinOf (d + 97) hR hi hj, c4_arcsBetween (d + 97) hR hm hjn, u3, ↓reduceIte]
theorem x10_clear (d : Nat) {hp : HP} {n : Nat} {G : BitVec 64} {z : Int} {c : Nat} {ks : List Int} {es : List Int} {ik : Bool} {kn : Nat} {kG : BitVec 64} {kz : Int} {kc : Nat} {kks : List Int} {kes : List Int} {tc : Nat} {tb : List Int} {sc : Nat} {tl : List Int} {so : List Int} {le : List Int} {it : Nat → List (BitVec 64)} {he : List Int} {th : List Int} {sl : List Int} {tr : Nat} {bo : List Int} (hX : XI hp n G z c ks es ik kn kG kz kc kks kes tc tb sc tl so le it he th sl tr bo) : ∃ h', XI h' n (0#64) z c ks es ik kn kG kz kc kks kes tc tb sc tl so le it he th sl tr bo ∧ Kx hp h' ∧ ∀ R : PO, callD (d + 100) 125 [mR 0] hp R ↔ R (some (mI (popI G))) h' := by
  have hX0 := hX
  obtain ⟨ra, ts, q0, q1, q2, q3, q4, q5, q6, q7, q8, q9, q10, q11, qk⟩ := hX
  have hR := q1.1
  have h1 := rw_1 hR
  have h6 := rw_6 hR
  have f1 := FC_le n
  have cR := rC0 hR
  have cA := rC1 hR
  have o0 : gF hp 0 10 0 = some (mR 1) := XO_F q0 0
  have o1 : gF hp 0 10 1 = some (mR ra) := XO_F q0 1
  have o2 : gF hp 0 10 2 = some (mL G) := XO_F q0 2
  have o3 : gF hp 0 10 3 = some (mI z) := XO_F q0 3
  have o4 : gF hp 0 10 4 = some (mR 2) := XO_F q0 4
  have o5 : gF hp 0 10 5 = some (mR 5) := XO_F q0 5
  have o6 : gF hp 0 10 6 = some (mR 10) := XO_F q0 6
  have o7 : gF hp 0 10 7 = some (mR 14) := XO_F q0 7
  have o8 : gF hp 0 10 8 = some (mR 17) := XO_F q0 8
  have o9 : gF hp 0 10 9 = some (mR 19) := XO_F q0 9
  have o10 : gF hp 0 10 10 = some (mR 27) := XO_F q0 10
  have o11 : gF hp 0 10 11 = some (mR 31) := XO_F q0 11
  have o12 : gF hp 0 10 12 = some (mR 33) := XO_F q0 12
  have o13 : gF hp 0 10 13 = some (mI (zI ik)) := XO_F q0 13
  have o14 : gF hp 0 10 14 = some (mI (kn : Int)) := XO_F q0 14
  have o15 : gF hp 0 10 15 = some (mL kG) := XO_F q0 15
  have o16 : gF hp 0 10 16 = some (mI kz) := XO_F q0 16
  have o17 : gF hp 0 10 17 = some (mR 34) := XO_F q0 17
  have cO := gC_of o0
  refine ⟨pF hp 0 10 2 (mL 0#64), XI_oG hX0, Kx_pF, fun R => ?_⟩
  rw [callD_k]; simp only [entL_i, entL_l, entL_q, entL_s, entL_nil, n_X10_clear, u_X10_clear, m_X10_clear, rep_1, List.cons_append, List.nil_append, List.append_nil, List.length_cons, List.length_nil, Nat.reduceAdd, true_and]
  simp only [AW_k, AWk_1, x_aload_0, x_aloads_0, x_getf, x_call_1, x_istore_1, x_push_i, x_push_l, x_putf_l, x_iload_1, x_ret, x_ret_i, x_ret_z, x_ret_l, x_ret_c, unl_i, unl_l, unl_q, unl_r, unl_s, unl_n, k_X10_clear_0, k_X10_clear_1, k_X10_clear_2, k_X10_clear_3, k_X10_clear_4, k_X10_clear_5, k_X10_clear_6, k_X10_clear_7, k_X10_clear_8, oE_some, Int.reduceToNat, Nat.reduceAdd, true_and, and_true, List.length_cons, List.length_nil, Option.toList_some, Option.toList_none, List.cons_append, List.nil_append, Nat.reduceLeDiff, Nat.le_refl, wdS_nil, wdS_i, wdS_l, wdS_r, wdS_n, wdS_s, o2, c_bits (d + 98)]
