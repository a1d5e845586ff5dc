/-! ===== the class's own methods: sheets (2) ===== -/
def imA (so le : List Int) (it : Nat → List (BitVec 64)) (x o i : Int) : Int := match shO x with
  | some s => if 0 ≤ o ∧ o ≤ 3 then (if so.getD s 0 = -1 then -11 else if so.getD s 0 = o then (if 0 ≤ i ∧ i < le.getD s 0 then ((it s).getD i.toNat 0).toInt else -12) else -13) else -1
  | none => -1
set_option maxHeartbeats 16000000 in
theorem x10_item (d : Nat) {hp : HP} {n : Nat} {G : BitVec 64} {z : Int} {c : Nat} {ks : List Int} {es : List Int} {ik : Bool} {kn : Nat} {kG : BitVec 64} {kz : Int} {kc : Nat} {kks : List Int} {kes : List Int} {tc : Nat} {tb : List Int} {sc : Nat} {tl : List Int} {so : List Int} {le : List Int} {it : Nat → List (BitVec 64)} {he : List Int} {th : List Int} {sl : List Int} {tr : Nat} {bo : List Int} {x o i : Int} (hX : XI hp n G z c ks es ik kn kG kz kc kks kes tc tb sc tl so le it he th sl tr bo) (hx : w32 x = x) (ho : w32 o = o) (hi : w32 i = i) (R : PO) : callD (d + 100) 146 [mR 0, mI x, mI o, mI i] hp R ↔ R (some (mI (imA so le it x o i))) hp := by
  have hX0 := hX
  obtain ⟨ra, ts, q0, q1, q2, q3, q4, q5, q6, q7, q8, q9, q10, q11, qk⟩ := hX
  have hR := q1.1
  have h1 := rw_1 hR
  have h6 := rw_6 hR
  have f1 := FC_le n
  have cR := rC0 hR
  have cA := rC1 hR
  have o0 : gF hp 0 10 0 = some (mR 1) := XO_F q0 0
  have o1 : gF hp 0 10 1 = some (mR ra) := XO_F q0 1
  have o2 : gF hp 0 10 2 = some (mL G) := XO_F q0 2
  have o3 : gF hp 0 10 3 = some (mI z) := XO_F q0 3
  have o4 : gF hp 0 10 4 = some (mR 2) := XO_F q0 4
  have o5 : gF hp 0 10 5 = some (mR 5) := XO_F q0 5
  have o6 : gF hp 0 10 6 = some (mR 10) := XO_F q0 6
  have o7 : gF hp 0 10 7 = some (mR 14) := XO_F q0 7
  have o8 : gF hp 0 10 8 = some (mR 17) := XO_F q0 8
  have o9 : gF hp 0 10 9 = some (mR 19) := XO_F q0 9
  have o10 : gF hp 0 10 10 = some (mR 27) := XO_F q0 10
  have o11 : gF hp 0 10 11 = some (mR 31) := XO_F q0 11
  have o12 : gF hp 0 10 12 = some (mR 33) := XO_F q0 12
  have o13 : gF hp 0 10 13 = some (mI (zI ik)) := XO_F q0 13
  have o14 : gF hp 0 10 14 = some (mI (kn : Int)) := XO_F q0 14
  have o15 : gF hp 0 10 15 = some (mL kG) := XO_F q0 15
  have o16 : gF hp 0 10 16 = some (mI kz) := XO_F q0 16
  have o17 : gF hp 0 10 17 = some (mR 34) := XO_F q0 17
  have cO := gC_of o0
  have c19 := gC_of q7.1.1.1
  have g0 : gF hp 19 5 0 = some (mR 20) := q7.1.1.1
  have g1 : gF hp 19 5 1 = some (mR 21) := q7.1.1.2.1
  have g2 : gF hp 19 5 2 = some (mR 22) := q7.1.1.2.2
  have a0 : gA hp 20 = some so := q7.1.2.1
  have a1 : gA hp 21 = some le := q7.1.2.2.1
  have gq : gQ hp 22 1 = some [some 23, some 24, some 25, some 26] := q7.1.2.2.2.1
  have gj : ∀ s, s < 4 → gJ hp (23 + s) = some (it s) := q7.1.2.2.2.2
  have gl : ∀ s, s < 4 → (it s).length = 40 := q7.2.2.2.1
  have lso : so.length = 4 := q7.2.1
  have lle : le.length = 4 := q7.2.2.1
  have i1 : w32 1 = 1 := rfl
  have im1 : w32 (-1) = -1 := rfl
  have i3 : w32 3 = 3 := rfl
  have i40 : w32 40 = 40 := rfl
  unfold imA
  cases ex : shO x with
  | none =>
    rw [callD_k]; simp only [entL_i, entL_l, entL_q, entL_s, entL_nil, n_X10_item, u_X10_item, m_X10_item, rep_1, List.cons_append, List.nil_append, List.append_nil, List.length_cons, List.length_nil, Nat.reduceAdd, true_and]
    simp only [AW_k, AWk_1, x_aload_0, x_aloads_0, x_getf, x_iload_1, x_callv_2, x_if_eq, x_iload_2, x_if_lt, x_push_i, x_push_l, x_icmp_le, x_ret, x_ret_i, x_ret_z, x_ret_l, x_ret_c, x_callv_3, x_istore_4, x_iload_4, x_if_ge, x_iload_3, x_iald, x_ialds, x_icmp_lt, x_goto, x_aald, x_lald, x_l2i, unl_i, unl_l, unl_q, unl_r, unl_s, unl_n, k_X10_item_0, k_X10_item_1, k_X10_item_2, k_X10_item_3, k_X10_item_4, k_X10_item_5, k_X10_item_6, k_X10_item_7, k_X10_item_8, k_X10_item_9, k_X10_item_10, k_X10_item_11, k_X10_item_12, k_X10_item_13, k_X10_item_14, k_X10_item_15, k_X10_item_16, k_X10_item_17, k_X10_item_18, k_X10_item_19, k_X10_item_20, k_X10_item_21, k_X10_item_22, k_X10_item_23, k_X10_item_24, k_X10_item_25, k_X10_item_26, k_X10_item_27, k_X10_item_28, k_X10_item_29, k_X10_item_30, k_X10_item_31, k_X10_item_32, k_X10_item_33, k_X10_item_34, k_X10_item_35, k_X10_item_36, k_X10_item_37, k_X10_item_38, k_X10_item_39, k_X10_item_40, k_X10_item_41, oE_some, Int.reduceToNat, Nat.reduceAdd, true_and, and_true, List.length_cons, List.length_nil, Option.toList_some, Option.toList_none, List.cons_append, List.nil_append, Nat.reduceLeDiff, Nat.le_refl, wdS_nil, wdS_i, wdS_l, wdS_r, wdS_n, wdS_s, o9, c19, has5_n (d + 98) hx ex, w00, ↓reduceIte]
  | some s =>
    obtain ⟨hs, es'⟩ := shO_lt ex
    have hh := fun R => has5_s (d + 98) (hp := hp) (a := 19) hx ex R
    have bs : s < 2147483648 := by omega
    obtain ⟨L, l1, l2, l3, l4⟩ := q7.2.2.2.2 s hs
    have bL : L < 2147483648 := by omega
    have ile : inB (s : Int) le.length := by rw [lle]; exact inB_n hs (by decide)
    have i4 : inB (s : Int) 4 := inB_n hs (by decide)
    have hJ := gj s hs
    have hl := gl s hs
    have cr := fun R => c5_refusal (d + 98) (s := o) q7.1 q7.2 hs ho R
    have m11 : (w32 (-11) < 0) = True := eq_true (by decide)
    have m13 : (w32 (-13) < 0) = True := eq_true (by decide)
    have m0 : (w32 0 < 0) = False := eq_false (by decide)
    subst es'
    by_cases c1 : 0 ≤ o ∧ o ≤ 3
    · have n1 : (o < 0) = False := eq_false (by omega)
      have n2 : (3 < o) = False := eq_false (by omega)
      by_cases c2 : so.getD s 0 = -1
      · rw [if_pos c2] at cr
        simp only [if_pos c1, if_pos c2]
        rw [callD_k]; simp only [entL_i, entL_l, entL_q, entL_s, entL_nil, n_X10_item, u_X10_item, m_X10_item, rep_1, List.cons_append, List.nil_append, List.append_nil, List.length_cons, List.length_nil, Nat.reduceAdd, true_and]
        simp only [AW_k, AWk_1, x_aload_0, x_aloads_0, x_getf, x_iload_1, x_callv_2, x_if_eq, x_iload_2, x_if_lt, x_push_i, x_push_l, x_icmp_le, x_ret, x_ret_i, x_ret_z, x_ret_l, x_ret_c, x_callv_3, x_istore_4, x_iload_4, x_if_ge, x_iload_3, x_iald, x_ialds, x_icmp_lt, x_goto, x_aald, x_lald, x_l2i, unl_i, unl_l, unl_q, unl_r, unl_s, unl_n, k_X10_item_0, k_X10_item_1, k_X10_item_2, k_X10_item_3, k_X10_item_4, k_X10_item_5, k_X10_item_6, k_X10_item_7, k_X10_item_8, k_X10_item_9, k_X10_item_10, k_X10_item_11, k_X10_item_12, k_X10_item_13, k_X10_item_14, k_X10_item_15, k_X10_item_16, k_X10_item_17, k_X10_item_18, k_X10_item_19, k_X10_item_20, k_X10_item_21, k_X10_item_22, k_X10_item_23, k_X10_item_24, k_X10_item_25, k_X10_item_26, k_X10_item_27, k_X10_item_28, k_X10_item_29, k_X10_item_30, k_X10_item_31, k_X10_item_32, k_X10_item_33, k_X10_item_34, k_X10_item_35, k_X10_item_36, k_X10_item_37, k_X10_item_38, k_X10_item_39, k_X10_item_40, k_X10_item_41, oE_some, Int.reduceToNat, Nat.reduceAdd, true_and, and_true, List.length_cons, List.length_nil, Option.toList_some, Option.toList_none, List.cons_append, List.nil_append, Nat.reduceLeDiff, Nat.le_refl, wdS_nil, wdS_i, wdS_l, wdS_r, wdS_n, wdS_s, o9, c19, hh, w10, i1, Int.reduceEq, ho, i3, n1, n2, cr, m11, ↓reduceIte]
      · rw [if_neg c2] at cr
        by_cases c3 : so.getD s 0 = o
        · rw [if_pos c3] at cr
          by_cases c4 : 0 ≤ i ∧ i < le.getD s 0
          · simp only [if_pos c1, if_neg c2, if_pos c3, if_pos c4]
            obtain ⟨j, ej⟩ : ∃ j : Nat, i = (j : Int) := ⟨i.toNat, by omega⟩
            subst ej
            have hj40 : j < 40 := by omega
            have bj : j < 2147483648 := by omega
            have n3 : ((j : Int) < 0) = False := eq_false (by omega)
            have n4 : ((j : Int) < (L : Int)) = True := eq_true (by omega)
            have ij : inB (j : Int) (it s).length := by rw [hl]; exact inB_n hj40 (by decide)
            rw [callD_k]; simp only [entL_i, entL_l, entL_q, entL_s, entL_nil, n_X10_item, u_X10_item, m_X10_item, rep_1, List.cons_append, List.nil_append, List.append_nil, List.length_cons, List.length_nil, Nat.reduceAdd, true_and]
            simp only [AW_k, AWk_1, x_aload_0, x_aloads_0, x_getf, x_iload_1, x_callv_2, x_if_eq, x_iload_2, x_if_lt, x_push_i, x_push_l, x_icmp_le, x_ret, x_ret_i, x_ret_z, x_ret_l, x_ret_c, x_callv_3, x_istore_4, x_iload_4, x_if_ge, x_iload_3, x_iald, x_ialds, x_icmp_lt, x_goto, x_aald, x_lald, x_l2i, unl_i, unl_l, unl_q, unl_r, unl_s, unl_n, k_X10_item_0, k_X10_item_1, k_X10_item_2, k_X10_item_3, k_X10_item_4, k_X10_item_5, k_X10_item_6, k_X10_item_7, k_X10_item_8, k_X10_item_9, k_X10_item_10, k_X10_item_11, k_X10_item_12, k_X10_item_13, k_X10_item_14, k_X10_item_15, k_X10_item_16, k_X10_item_17, k_X10_item_18, k_X10_item_19, k_X10_item_20, k_X10_item_21, k_X10_item_22, k_X10_item_23, k_X10_item_24, k_X10_item_25, k_X10_item_26, k_X10_item_27, k_X10_item_28, k_X10_item_29, k_X10_item_30, k_X10_item_31, k_X10_item_32, k_X10_item_33, k_X10_item_34, k_X10_item_35, k_X10_item_36, k_X10_item_37, k_X10_item_38, k_X10_item_39, k_X10_item_40, k_X10_item_41, oE_some, Int.reduceToNat, Nat.reduceAdd, true_and, and_true, List.length_cons, List.length_nil, Option.toList_some, Option.toList_none, List.cons_append, List.nil_append, Nat.reduceLeDiff, Nat.le_refl, wdS_nil, wdS_i, wdS_l, wdS_r, wdS_n, wdS_s, o9, c19, hh, w10, i1, Int.reduceEq, ho, i3, n1, n2, cr, m0, hi, n3, g1, a1, ile, w32_tn bs, l1, w32_nat bL, n4, g2, gq, i4, q4_get hs, hJ, ij, w32_tn bj, Int.toNat_natCast, List.length_cons, List.length_nil, ↓reduceIte]
          · simp only [if_pos c1, if_neg c2, if_pos c3, if_neg c4]
            rw [callD_k]; simp only [entL_i, entL_l, entL_q, entL_s, entL_nil, n_X10_item, u_X10_item, m_X10_item, rep_1, List.cons_append, List.nil_append, List.append_nil, List.length_cons, List.length_nil, Nat.reduceAdd, true_and]
            by_cases c5 : i < 0
            · simp only [AW_k, AWk_1, x_aload_0, x_aloads_0, x_getf, x_iload_1, x_callv_2, x_if_eq, x_iload_2, x_if_lt, x_push_i, x_push_l, x_icmp_le, x_ret, x_ret_i, x_ret_z, x_ret_l, x_ret_c, x_callv_3, x_istore_4, x_iload_4, x_if_ge, x_iload_3, x_iald, x_ialds, x_icmp_lt, x_goto, x_aald, x_lald, x_l2i, unl_i, unl_l, unl_q, unl_r, unl_s, unl_n, k_X10_item_0, k_X10_item_1, k_X10_item_2, k_X10_item_3, k_X10_item_4, k_X10_item_5, k_X10_item_6, k_X10_item_7, k_X10_item_8, k_X10_item_9, k_X10_item_10, k_X10_item_11, k_X10_item_12, k_X10_item_13, k_X10_item_14, k_X10_item_15, k_X10_item_16, k_X10_item_17, k_X10_item_18, k_X10_item_19, k_X10_item_20, k_X10_item_21, k_X10_item_22, k_X10_item_23, k_X10_item_24, k_X10_item_25, k_X10_item_26, k_X10_item_27, k_X10_item_28, k_X10_item_29, k_X10_item_30, k_X10_item_31, k_X10_item_32, k_X10_item_33, k_X10_item_34, k_X10_item_35, k_X10_item_36, k_X10_item_37, k_X10_item_38, k_X10_item_39, k_X10_item_40, k_X10_item_41, oE_some, Int.reduceToNat, Nat.reduceAdd, true_and, and_true, List.length_cons, List.length_nil, Option.toList_some, Option.toList_none, List.cons_append, List.nil_append, Nat.reduceLeDiff, Nat.le_refl, wdS_nil, wdS_i, wdS_l, wdS_r, wdS_n, wdS_s, o9, c19, hh, w10, i1, Int.reduceEq, ho, i3, n1, n2, cr, m0, hi, c5, ↓reduceIte]
            · have n4 : (i < (L : Int)) = False := eq_false (by omega)
              simp only [AW_k, AWk_1, x_aload_0, x_aloads_0, x_getf, x_iload_1, x_callv_2, x_if_eq, x_iload_2, x_if_lt, x_push_i, x_push_l, x_icmp_le, x_ret, x_ret_i, x_ret_z, x_ret_l, x_ret_c, x_callv_3, x_istore_4, x_iload_4, x_if_ge, x_iload_3, x_iald, x_ialds, x_icmp_lt, x_goto, x_aald, x_lald, x_l2i, unl_i, unl_l, unl_q, unl_r, unl_s, unl_n, k_X10_item_0, k_X10_item_1, k_X10_item_2, k_X10_item_3, k_X10_item_4, k_X10_item_5, k_X10_item_6, k_X10_item_7, k_X10_item_8, k_X10_item_9, k_X10_item_10, k_X10_item_11, k_X10_item_12, k_X10_item_13, k_X10_item_14, k_X10_item_15, k_X10_item_16, k_X10_item_17, k_X10_item_18, k_X10_item_19, k_X10_item_20, k_X10_item_21, k_X10_item_22, k_X10_item_23, k_X10_item_24, k_X10_item_25, k_X10_item_26, k_X10_item_27, k_X10_item_28, k_X10_item_29, k_X10_item_30, k_X10_item_31, k_X10_item_32, k_X10_item_33, k_X10_item_34, k_X10_item_35, k_X10_item_36, k_X10_item_37, k_X10_item_38, k_X10_item_39, k_X10_item_40, k_X10_item_41, oE_some, Int.reduceToNat, Nat.reduceAdd, true_and, and_true, List.length_cons, List.length_nil, Option.toList_some, Option.toList_none, List.cons_append, List.nil_append, Nat.reduceLeDiff, Nat.le_refl, wdS_nil, wdS_i, wdS_l, wdS_r, wdS_n, wdS_s, o9, c19, hh, w10, i1, Int.reduceEq, ho, i3, n1, n2, cr, m0, hi, c5, g1, a1, ile, w32_tn bs, l1, w32_nat bL, n4, ↓reduceIte]
        · rw [if_neg c3] at cr
          simp only [if_pos c1, if_neg c2, if_neg c3]
          rw [callD_k]; simp only [entL_i, entL_l, entL_q, entL_s, entL_nil, n_X10_item, u_X10_item, m_X10_item, rep_1, List.cons_append, List.nil_append, List.append_nil, List.length_cons, List.length_nil, Nat.reduceAdd, true_and]
          simp only [AW_k, AWk_1, x_aload_0, x_aloads_0, x_getf, x_iload_1, x_callv_2, x_if_eq, x_iload_2, x_if_lt, x_push_i, x_push_l, x_icmp_le, x_ret, x_ret_i, x_ret_z, x_ret_l, x_ret_c, x_callv_3, x_istore_4, x_iload_4, x_if_ge, x_iload_3, x_iald, x_ialds, x_icmp_lt, x_goto, x_aald, x_lald, x_l2i, unl_i, unl_l, unl_q, unl_r, unl_s, unl_n, k_X10_item_0, k_X10_item_1, k_X10_item_2, k_X10_item_3, k_X10_item_4, k_X10_item_5, k_X10_item_6, k_X10_item_7, k_X10_item_8, k_X10_item_9, k_X10_item_10, k_X10_item_11, k_X10_item_12, k_X10_item_13, k_X10_item_14, k_X10_item_15, k_X10_item_16, k_X10_item_17, k_X10_item_18, k_X10_item_19, k_X10_item_20, k_X10_item_21, k_X10_item_22, k_X10_item_23, k_X10_item_24, k_X10_item_25, k_X10_item_26, k_X10_item_27, k_X10_item_28, k_X10_item_29, k_X10_item_30, k_X10_item_31, k_X10_item_32, k_X10_item_33, k_X10_item_34, k_X10_item_35, k_X10_item_36, k_X10_item_37, k_X10_item_38, k_X10_item_39, k_X10_item_40, k_X10_item_41, oE_some, Int.reduceToNat, Nat.reduceAdd, true_and, and_true, List.length_cons, List.length_nil, Option.toList_some, Option.toList_none, List.cons_append, List.nil_append, Nat.reduceLeDiff, Nat.le_refl, wdS_nil, wdS_i, wdS_l, wdS_r, wdS_n, wdS_s, o9, c19, hh, w10, i1, Int.reduceEq, ho, i3, n1, n2, cr, m13, ↓reduceIte]
    · simp only [if_neg c1]
      rw [callD_k]; simp only [entL_i, entL_l, entL_q, entL_s, entL_nil, n_X10_item, u_X10_item, m_X10_item, rep_1, List.cons_append, List.nil_append, List.append_nil, List.length_cons, List.length_nil, Nat.reduceAdd, true_and]
      by_cases c2 : o < 0
      · simp only [AW_k, AWk_1, x_aload_0, x_aloads_0, x_getf, x_iload_1, x_callv_2, x_if_eq, x_iload_2, x_if_lt, x_push_i, x_push_l, x_icmp_le, x_ret, x_ret_i, x_ret_z, x_ret_l, x_ret_c, x_callv_3, x_istore_4, x_iload_4, x_if_ge, x_iload_3, x_iald, x_ialds, x_icmp_lt, x_goto, x_aald, x_lald, x_l2i, unl_i, unl_l, unl_q, unl_r, unl_s, unl_n, k_X10_item_0, k_X10_item_1, k_X10_item_2, k_X10_item_3, k_X10_item_4, k_X10_item_5, k_X10_item_6, k_X10_item_7, k_X10_item_8, k_X10_item_9, k_X10_item_10, k_X10_item_11, k_X10_item_12, k_X10_item_13, k_X10_item_14, k_X10_item_15, k_X10_item_16, k_X10_item_17, k_X10_item_18, k_X10_item_19, k_X10_item_20, k_X10_item_21, k_X10_item_22, k_X10_item_23, k_X10_item_24, k_X10_item_25, k_X10_item_26, k_X10_item_27, k_X10_item_28, k_X10_item_29, k_X10_item_30, k_X10_item_31, k_X10_item_32, k_X10_item_33, k_X10_item_34, k_X10_item_35, k_X10_item_36, k_X10_item_37, k_X10_item_38, k_X10_item_39, k_X10_item_40, k_X10_item_41, oE_some, Int.reduceToNat, Nat.reduceAdd, true_and, and_true, List.length_cons, List.length_nil, Option.toList_some, Option.toList_none, List.cons_append, List.nil_append, Nat.reduceLeDiff, Nat.le_refl, wdS_nil, wdS_i, wdS_l, wdS_r, wdS_n, wdS_s, o9, c19, hh, w10, i1, Int.reduceEq, ho, i3, c2, ↓reduceIte]
      · have c3 : 3 < o := by omega
        simp only [AW_k, AWk_1, x_aload_0, x_aloads_0, x_getf, x_iload_1, x_callv_2, x_if_eq, x_iload_2, x_if_lt, x_push_i, x_push_l, x_icmp_le, x_ret, x_ret_i, x_ret_z, x_ret_l, x_ret_c, x_callv_3, x_istore_4, x_iload_4, x_if_ge, x_iload_3, x_iald, x_ialds, x_icmp_lt, x_goto, x_aald, x_lald, x_l2i, unl_i, unl_l, unl_q, unl_r, unl_s, unl_n, k_X10_item_0, k_X10_item_1, k_X10_item_2, k_X10_item_3, k_X10_item_4, k_X10_item_5, k_X10_item_6, k_X10_item_7, k_X10_item_8, k_X10_item_9, k_X10_item_10, k_X10_item_11, k_X10_item_12, k_X10_item_13, k_X10_item_14, k_X10_item_15, k_X10_item_16, k_X10_item_17, k_X10_item_18, k_X10_item_19, k_X10_item_20, k_X10_item_21, k_X10_item_22, k_X10_item_23, k_X10_item_24, k_X10_item_25, k_X10_item_26, k_X10_item_27, k_X10_item_28, k_X10_item_29, k_X10_item_30, k_X10_item_31, k_X10_item_32, k_X10_item_33, k_X10_item_34, k_X10_item_35, k_X10_item_36, k_X10_item_37, k_X10_item_38, k_X10_item_39, k_X10_item_40, k_X10_item_41, oE_some, Int.reduceToNat, Nat.reduceAdd, true_and, and_true, List.length_cons, List.length_nil, Option.toList_some, Option.toList_none, List.cons_append, List.nil_append, Nat.reduceLeDiff, Nat.le_refl, wdS_nil, wdS_i, wdS_l, wdS_r, wdS_n, wdS_s, o9, c19, hh, w10, i1, Int.reduceEq, ho, i3, c2, c3, ↓reduceIte]
/-- what a move does -/
def mvO (so le : List Int) (x i y j m : Int) : Option (Nat × Nat) := match shO x with
  | some s => match shO y with
    | some t => if so.getD s 0 = -1 ∨ so.getD t 0 = -1 then none else if so.getD s 0 = so.getD t 0 then (if (rchs (le.getD s 0) i m && rchs (le.getD t 0) j m) = true then some (s, t) else none) else none
    | none => none
  | none => none
def mvA (so le : List Int) (x i y j m : Int) : Int := match shO x with
  | some s => match shO y with
    | some t => if so.getD s 0 = -1 ∨ so.getD t 0 = -1 then -11 else if so.getD s 0 = so.getD t 0 then (if (rchs (le.getD s 0) i m && rchs (le.getD t 0) j m) = true then m else -12) else -13
    | none => -1
  | none => -1
def mvI (so le : List Int) (it : Nat → List (BitVec 64)) (x i y j m : Int) : Nat → List (BitVec 64) := match mvO so le x i y j m with
  | some p => updF it p.2 (cpyL 0#64 (it p.1) (it p.2) i.toNat j.toNat m.toNat)
  | none => it
theorem rchs_t {le i n : Int} (h : rchs le i n = true) : 0 ≤ n ∧ 0 ≤ i ∧ n ≤ le ∧ i ≤ le - n := by
  unfold rchs at h
  simp only [Bool.and_eq_true, decide_eq_true_eq] at h
  exact h
set_option maxHeartbeats 32000000 in
theorem x10_move (d : Nat) {hp : HP} {n : Nat} {G : BitVec 64} {z : Int} {c : Nat} {ks : List Int} {es : List Int} {ik : Bool} {kn : Nat} {kG : BitVec 64} {kz : Int} {kc : Nat} {kks : List Int} {kes : List Int} {tc : Nat} {tb : List Int} {sc : Nat} {tl : List Int} {so : List Int} {le : List Int} {it : Nat → List (BitVec 64)} {he : List Int} {th : List Int} {sl : List Int} {tr : Nat} {bo : List Int} {x i y j m : Int} (hX : XI hp n G z c ks es ik kn kG kz kc kks kes tc tb sc tl so le it he th sl tr bo) (hx : w32 x = x) (hi : w32 i = i) (hy : w32 y = y) (hj : w32 j = j) (hm : w32 m = m) : ∃ h', XI h' n G z c ks es ik kn kG kz kc kks kes tc tb sc tl so le (mvI so le it x i y j m) he th sl tr bo ∧ Kx hp h' ∧ ∀ R : PO, callD (d + 100) 147 [mR 0, mI x, mI i, mI y, mI j, mI m] hp R ↔ R (some (mI (mvA so le x i y j m))) h' := by
  have hX0 := hX
  obtain ⟨ra, ts, q0, q1, q2, q3, q4, q5, q6, q7, q8, q9, q10, q11, qk⟩ := hX
  have hR := q1.1
  have h1 := rw_1 hR
  have h6 := rw_6 hR
  have f1 := FC_le n
  have cR := rC0 hR
  have cA := rC1 hR
  have o0 : gF hp 0 10 0 = some (mR 1) := XO_F q0 0
  have o1 : gF hp 0 10 1 = some (mR ra) := XO_F q0 1
  have o2 : gF hp 0 10 2 = some (mL G) := XO_F q0 2
  have o3 : gF hp 0 10 3 = some (mI z) := XO_F q0 3
  have o4 : gF hp 0 10 4 = some (mR 2) := XO_F q0 4
  have o5 : gF hp 0 10 5 = some (mR 5) := XO_F q0 5
  have o6 : gF hp 0 10 6 = some (mR 10) := XO_F q0 6
  have o7 : gF hp 0 10 7 = some (mR 14) := XO_F q0 7
  have o8 : gF hp 0 10 8 = some (mR 17) := XO_F q0 8
  have o9 : gF hp 0 10 9 = some (mR 19) := XO_F q0 9
  have o10 : gF hp 0 10 10 = some (mR 27) := XO_F q0 10
  have o11 : gF hp 0 10 11 = some (mR 31) := XO_F q0 11
  have o12 : gF hp 0 10 12 = some (mR 33) := XO_F q0 12
  have o13 : gF hp 0 10 13 = some (mI (zI ik)) := XO_F q0 13
  have o14 : gF hp 0 10 14 = some (mI (kn : Int)) := XO_F q0 14
  have o15 : gF hp 0 10 15 = some (mL kG) := XO_F q0 15
  have o16 : gF hp 0 10 16 = some (mI kz) := XO_F q0 16
  have o17 : gF hp 0 10 17 = some (mR 34) := XO_F q0 17
  have cO := gC_of o0
  have c19 := gC_of q7.1.1.1
  have g0 : gF hp 19 5 0 = some (mR 20) := q7.1.1.1
  have g1 : gF hp 19 5 1 = some (mR 21) := q7.1.1.2.1
  have g2 : gF hp 19 5 2 = some (mR 22) := q7.1.1.2.2
  have a0 : gA hp 20 = some so := q7.1.2.1
  have a1 : gA hp 21 = some le := q7.1.2.2.1
  have gq : gQ hp 22 1 = some [some 23, some 24, some 25, some 26] := q7.1.2.2.2.1
  have gj : ∀ s, s < 4 → gJ hp (23 + s) = some (it s) := q7.1.2.2.2.2
  have gl : ∀ s, s < 4 → (it s).length = 40 := q7.2.2.2.1
  have lso : so.length = 4 := q7.2.1
  have lle : le.length = 4 := q7.2.2.1
  have i1 : w32 1 = 1 := rfl
  have im1 : w32 (-1) = -1 := rfl
  have i3 : w32 3 = 3 := rfl
  have i40 : w32 40 = 40 := rfl
  unfold mvI mvA
  cases ex : shO x with
  | none =>
    have e : mvO so le x i y j m = none := by unfold mvO; rw [ex]
    rw [e]
    refine ⟨hp, hX0, Kx_refl hp, fun R => ?_⟩
    rw [callD_k]; simp only [entL_i, entL_l, entL_q, entL_s, entL_nil, n_X10_move, u_X10_move, m_X10_move, rep_0, List.cons_append, List.nil_append, List.append_nil, List.length_cons, List.length_nil, Nat.reduceAdd, true_and]
    simp only [AW_k, AWk_1, x_aload_0, x_aloads_0, x_getf, x_iload_1, x_callv_2, x_if_eq, x_iload_3, x_if_ne, x_push_i, x_push_l, x_ret, x_ret_i, x_ret_z, x_ret_l, x_ret_c, x_iald, x_ialds, x_icmp_eq, x_icmp_ne, x_iload_2, x_iload_5, x_callv_4, x_iload_4, x_aald, x_copyl, k_X10_move_0, k_X10_move_1, k_X10_move_2, k_X10_move_3, k_X10_move_4, k_X10_move_5, k_X10_move_6, k_X10_move_7, k_X10_move_8, k_X10_move_9, k_X10_move_10, k_X10_move_11, k_X10_move_12, k_X10_move_13, k_X10_move_14, k_X10_move_15, k_X10_move_16, k_X10_move_17, k_X10_move_18, k_X10_move_19, k_X10_move_20, k_X10_move_21, k_X10_move_22, k_X10_move_23, k_X10_move_24, k_X10_move_25, k_X10_move_26, k_X10_move_27, k_X10_move_28, k_X10_move_29, k_X10_move_30, k_X10_move_31, k_X10_move_32, k_X10_move_33, k_X10_move_34, k_X10_move_35, k_X10_move_36, k_X10_move_37, k_X10_move_38, k_X10_move_39, k_X10_move_40, k_X10_move_41, k_X10_move_42, k_X10_move_43, k_X10_move_44, k_X10_move_45, k_X10_move_46, k_X10_move_47, k_X10_move_48, k_X10_move_49, k_X10_move_50, k_X10_move_51, k_X10_move_52, k_X10_move_53, k_X10_move_54, k_X10_move_55, k_X10_move_56, k_X10_move_57, k_X10_move_58, k_X10_move_59, k_X10_move_60, k_X10_move_61, k_X10_move_62, k_X10_move_63, k_X10_move_64, k_X10_move_65, k_X10_move_66, k_X10_move_67, k_X10_move_68, k_X10_move_69, k_X10_move_70, k_X10_move_71, k_X10_move_72, oE_some, Int.reduceToNat, Nat.reduceAdd, true_and, and_true, List.length_cons, List.length_nil, Option.toList_some, Option.toList_none, List.cons_append, List.nil_append, Nat.reduceLeDiff, Nat.le_refl, wdS_nil, wdS_i, wdS_l, wdS_r, wdS_n, wdS_s, o9, c19, has5_n (d + 98) hx ex, w00, ↓reduceIte]
  | some s =>
    obtain ⟨hs, es'⟩ := shO_lt ex
    have hh := fun R => has5_s (d + 98) (hp := hp) (a := 19) hx ex R
    cases ey : shO y with
    | none =>
      have e : mvO so le x i y j m = none := by unfold mvO; rw [ex, ey]
      rw [e]
      refine ⟨hp, hX0, Kx_refl hp, fun R => ?_⟩
      rw [callD_k]; simp only [entL_i, entL_l, entL_q, entL_s, entL_nil, n_X10_move, u_X10_move, m_X10_move, rep_0, List.cons_append, List.nil_append, List.append_nil, List.length_cons, List.length_nil, Nat.reduceAdd, true_and]
      simp only [AW_k, AWk_1, x_aload_0, x_aloads_0, x_getf, x_iload_1, x_callv_2, x_if_eq, x_iload_3, x_if_ne, x_push_i, x_push_l, x_ret, x_ret_i, x_ret_z, x_ret_l, x_ret_c, x_iald, x_ialds, x_icmp_eq, x_icmp_ne, x_iload_2, x_iload_5, x_callv_4, x_iload_4, x_aald, x_copyl, k_X10_move_0, k_X10_move_1, k_X10_move_2, k_X10_move_3, k_X10_move_4, k_X10_move_5, k_X10_move_6, k_X10_move_7, k_X10_move_8, k_X10_move_9, k_X10_move_10, k_X10_move_11, k_X10_move_12, k_X10_move_13, k_X10_move_14, k_X10_move_15, k_X10_move_16, k_X10_move_17, k_X10_move_18, k_X10_move_19, k_X10_move_20, k_X10_move_21, k_X10_move_22, k_X10_move_23, k_X10_move_24, k_X10_move_25, k_X10_move_26, k_X10_move_27, k_X10_move_28, k_X10_move_29, k_X10_move_30, k_X10_move_31, k_X10_move_32, k_X10_move_33, k_X10_move_34, k_X10_move_35, k_X10_move_36, k_X10_move_37, k_X10_move_38, k_X10_move_39, k_X10_move_40, k_X10_move_41, k_X10_move_42, k_X10_move_43, k_X10_move_44, k_X10_move_45, k_X10_move_46, k_X10_move_47, k_X10_move_48, k_X10_move_49, k_X10_move_50, k_X10_move_51, k_X10_move_52, k_X10_move_53, k_X10_move_54, k_X10_move_55, k_X10_move_56, k_X10_move_57, k_X10_move_58, k_X10_move_59, k_X10_move_60, k_X10_move_61, k_X10_move_62, k_X10_move_63, k_X10_move_64, k_X10_move_65, k_X10_move_66, k_X10_move_67, k_X10_move_68, k_X10_move_69, k_X10_move_70, k_X10_move_71, k_X10_move_72, oE_some, Int.reduceToNat, Nat.reduceAdd, true_and, and_true, List.length_cons, List.length_nil, Option.toList_some, Option.toList_none, List.cons_append, List.nil_append, Nat.reduceLeDiff, Nat.le_refl, wdS_nil, wdS_i, wdS_l, wdS_r, wdS_n, wdS_s, o9, c19, hh, has5_n (d + 98) hy ey, w10, w00, i1, Int.reduceEq, ↓reduceIte]
    | some t =>
      obtain ⟨ht, et'⟩ := shO_lt ey
      have hk := fun R => has5_s (d + 98) (hp := hp) (a := 19) hy ey R
      have e : mvO so le x i y j m = if so.getD s 0 = -1 ∨ so.getD t 0 = -1 then none else if so.getD s 0 = so.getD t 0 then (if (rchs (le.getD s 0) i m && rchs (le.getD t 0) j m) = true then some (s, t) else none) else none := by unfold mvO; rw [ex, ey]
      rw [e]
      have bs : s < 2147483648 := by omega
      have bt : t < 2147483648 := by omega
      obtain ⟨L, l1, l2, l3, l4⟩ := q7.2.2.2.2 s hs
      obtain ⟨L', l1', l2', l3', l4'⟩ := q7.2.2.2.2 t ht
      have iso : inB (s : Int) so.length := by rw [lso]; exact inB_n hs (by decide)
      have ito : inB (t : Int) so.length := by rw [lso]; exact inB_n ht (by decide)
      have i4 : inB (s : Int) 4 := inB_n hs (by decide)
      have j4 : inB (t : Int) 4 := inB_n ht (by decide)
      have hJ := gj s hs
      have hl := gl s hs
      have hJ' := gj t ht
      have hl' := gl t ht
      have wso : w32 (so.getD s 0) = so.getD s 0 := w32_id (by omega) (by omega)
      have wst : w32 (so.getD t 0) = so.getD t 0 := w32_id (by omega) (by omega)
      have r1 := fun R => c5_reaches (d + 98) (i := i) (n := m) q7.1 q7.2 hs hi hm R
      have r2 := fun R => c5_reaches (d + 98) (i := j) (n := m) q7.1 q7.2 ht hj hm R
      subst es'
      subst et'
      by_cases c0 : so.getD s 0 = -1
      · rw [if_pos (Or.inl c0)]
        refine ⟨hp, hX0, Kx_refl hp, fun R => ?_⟩
        simp only [if_pos (show so.getD s 0 = -1 ∨ so.getD t 0 = -1 from Or.inl c0)]
        rw [callD_k]; simp only [entL_i, entL_l, entL_q, entL_s, entL_nil, n_X10_move, u_X10_move, m_X10_move, rep_0, List.cons_append, List.nil_append, List.append_nil, List.length_cons, List.length_nil, Nat.reduceAdd, true_and]
        simp only [AW_k, AWk_1, x_aload_0, x_aloads_0, x_getf, x_iload_1, x_callv_2, x_if_eq, x_iload_3, x_if_ne, x_push_i, x_push_l, x_ret, x_ret_i, x_ret_z, x_ret_l, x_ret_c, x_iald, x_ialds, x_icmp_eq, x_icmp_ne, x_iload_2, x_iload_5, x_callv_4, x_iload_4, x_aald, x_copyl, k_X10_move_0, k_X10_move_1, k_X10_move_2, k_X10_move_3, k_X10_move_4, k_X10_move_5, k_X10_move_6, k_X10_move_7, k_X10_move_8, k_X10_move_9, k_X10_move_10, k_X10_move_11, k_X10_move_12, k_X10_move_13, k_X10_move_14, k_X10_move_15, k_X10_move_16, k_X10_move_17, k_X10_move_18, k_X10_move_19, k_X10_move_20, k_X10_move_21, k_X10_move_22, k_X10_move_23, k_X10_move_24, k_X10_move_25, k_X10_move_26, k_X10_move_27, k_X10_move_28, k_X10_move_29, k_X10_move_30, k_X10_move_31, k_X10_move_32, k_X10_move_33, k_X10_move_34, k_X10_move_35, k_X10_move_36, k_X10_move_37, k_X10_move_38, k_X10_move_39, k_X10_move_40, k_X10_move_41, k_X10_move_42, k_X10_move_43, k_X10_move_44, k_X10_move_45, k_X10_move_46, k_X10_move_47, k_X10_move_48, k_X10_move_49, k_X10_move_50, k_X10_move_51, k_X10_move_52, k_X10_move_53, k_X10_move_54, k_X10_move_55, k_X10_move_56, k_X10_move_57, k_X10_move_58, k_X10_move_59, k_X10_move_60, k_X10_move_61, k_X10_move_62, k_X10_move_63, k_X10_move_64, k_X10_move_65, k_X10_move_66, k_X10_move_67, k_X10_move_68, k_X10_move_69, k_X10_move_70, k_X10_move_71, k_X10_move_72, oE_some, Int.reduceToNat, Nat.reduceAdd, true_and, and_true, List.length_cons, List.length_nil, Option.toList_some, Option.toList_none, List.cons_append, List.nil_append, Nat.reduceLeDiff, Nat.le_refl, wdS_nil, wdS_i, wdS_l, wdS_r, wdS_n, wdS_s, o9, c19, hh, hk, w10, i1, Int.reduceEq, g0, a0, iso, w32_tn bs, wso, c0, im1, ↓reduceIte]
      · by_cases c1 : so.getD t 0 = -1
        · rw [if_pos (Or.inr c1)]
          refine ⟨hp, hX0, Kx_refl hp, fun R => ?_⟩
          simp only [if_pos (show so.getD s 0 = -1 ∨ so.getD t 0 = -1 from Or.inr c1)]
          rw [callD_k]; simp only [entL_i, entL_l, entL_q, entL_s, entL_nil, n_X10_move, u_X10_move, m_X10_move, rep_0, List.cons_append, List.nil_append, List.append_nil, List.length_cons, List.length_nil, Nat.reduceAdd, true_and]
          simp only [AW_k, AWk_1, x_aload_0, x_aloads_0, x_getf, x_iload_1, x_callv_2, x_if_eq, x_iload_3, x_if_ne, x_push_i, x_push_l, x_ret, x_ret_i, x_ret_z, x_ret_l, x_ret_c, x_iald, x_ialds, x_icmp_eq, x_icmp_ne, x_iload_2, x_iload_5, x_callv_4, x_iload_4, x_aald, x_copyl, k_X10_move_0, k_X10_move_1, k_X10_move_2, k_X10_move_3, k_X10_move_4, k_X10_move_5, k_X10_move_6, k_X10_move_7, k_X10_move_8, k_X10_move_9, k_X10_move_10, k_X10_move_11, k_X10_move_12, k_X10_move_13, k_X10_move_14, k_X10_move_15, k_X10_move_16, k_X10_move_17, k_X10_move_18, k_X10_move_19, k_X10_move_20, k_X10_move_21, k_X10_move_22, k_X10_move_23, k_X10_move_24, k_X10_move_25, k_X10_move_26, k_X10_move_27, k_X10_move_28, k_X10_move_29, k_X10_move_30, k_X10_move_31, k_X10_move_32, k_X10_move_33, k_X10_move_34, k_X10_move_35, k_X10_move_36, k_X10_move_37, k_X10_move_38, k_X10_move_39, k_X10_move_40, k_X10_move_41, k_X10_move_42, k_X10_move_43, k_X10_move_44, k_X10_move_45, k_X10_move_46, k_X10_move_47, k_X10_move_48, k_X10_move_49, k_X10_move_50, k_X10_move_51, k_X10_move_52, k_X10_move_53, k_X10_move_54, k_X10_move_55, k_X10_move_56, k_X10_move_57, k_X10_move_58, k_X10_move_59, k_X10_move_60, k_X10_move_61, k_X10_move_62, k_X10_move_63, k_X10_move_64, k_X10_move_65, k_X10_move_66, k_X10_move_67, k_X10_move_68, k_X10_move_69, k_X10_move_70, k_X10_move_71, k_X10_move_72, oE_some, Int.reduceToNat, Nat.reduceAdd, true_and, and_true, List.length_cons, List.length_nil, Option.toList_some, Option.toList_none, List.cons_append, List.nil_append, Nat.reduceLeDiff, Nat.le_refl, wdS_nil, wdS_i, wdS_l, wdS_r, wdS_n, wdS_s, o9, c19, hh, hk, w10, i1, Int.reduceEq, g0, a0, iso, ito, w32_tn bs, w32_tn bt, wso, wst, c0, c1, im1, ↓reduceIte]
        · have c01 : ¬ (so.getD s 0 = -1 ∨ so.getD t 0 = -1) := fun q => q.elim c0 c1
          rw [if_neg c01]
          by_cases c2 : so.getD s 0 = so.getD t 0
          · rw [if_pos c2]
            cases ra1 : rchs (le.getD s 0) i m with
            | false =>
              rw [ra1] at r1
              refine ⟨hp, hX0, Kx_refl hp, fun R => ?_⟩
              simp only [if_neg c01, if_pos c2, ra1, Bool.false_and, Bool.false_eq_true, ↓reduceIte]
              rw [callD_k]; simp only [entL_i, entL_l, entL_q, entL_s, entL_nil, n_X10_move, u_X10_move, m_X10_move, rep_0, List.cons_append, List.nil_append, List.append_nil, List.length_cons, List.length_nil, Nat.reduceAdd, true_and]
              simp only [AW_k, AWk_1, x_aload_0, x_aloads_0, x_getf, x_iload_1, x_callv_2, x_if_eq, x_iload_3, x_if_ne, x_push_i, x_push_l, x_ret, x_ret_i, x_ret_z, x_ret_l, x_ret_c, x_iald, x_ialds, x_icmp_eq, x_icmp_ne, x_iload_2, x_iload_5, x_callv_4, x_iload_4, x_aald, x_copyl, k_X10_move_0, k_X10_move_1, k_X10_move_2, k_X10_move_3, k_X10_move_4, k_X10_move_5, k_X10_move_6, k_X10_move_7, k_X10_move_8, k_X10_move_9, k_X10_move_10, k_X10_move_11, k_X10_move_12, k_X10_move_13, k_X10_move_14, k_X10_move_15, k_X10_move_16, k_X10_move_17, k_X10_move_18, k_X10_move_19, k_X10_move_20, k_X10_move_21, k_X10_move_22, k_X10_move_23, k_X10_move_24, k_X10_move_25, k_X10_move_26, k_X10_move_27, k_X10_move_28, k_X10_move_29, k_X10_move_30, k_X10_move_31, k_X10_move_32, k_X10_move_33, k_X10_move_34, k_X10_move_35, k_X10_move_36, k_X10_move_37, k_X10_move_38, k_X10_move_39, k_X10_move_40, k_X10_move_41, k_X10_move_42, k_X10_move_43, k_X10_move_44, k_X10_move_45, k_X10_move_46, k_X10_move_47, k_X10_move_48, k_X10_move_49, k_X10_move_50, k_X10_move_51, k_X10_move_52, k_X10_move_53, k_X10_move_54, k_X10_move_55, k_X10_move_56, k_X10_move_57, k_X10_move_58, k_X10_move_59, k_X10_move_60, k_X10_move_61, k_X10_move_62, k_X10_move_63, k_X10_move_64, k_X10_move_65, k_X10_move_66, k_X10_move_67, k_X10_move_68, k_X10_move_69, k_X10_move_70, k_X10_move_71, k_X10_move_72, oE_some, Int.reduceToNat, Nat.reduceAdd, true_and, and_true, List.length_cons, List.length_nil, Option.toList_some, Option.toList_none, List.cons_append, List.nil_append, Nat.reduceLeDiff, Nat.le_refl, wdS_nil, wdS_i, wdS_l, wdS_r, wdS_n, wdS_s, o9, c19, hh, hk, w10, w00, zI_f, i1, Int.reduceEq, g0, a0, iso, ito, w32_tn bs, w32_tn bt, wso, wst, c0, c1, c2, im1, r1, ↓reduceIte]
            | true =>
              rw [ra1] at r1
              cases ra2 : rchs (le.getD t 0) j m with
              | false =>
                rw [ra2] at r2
                refine ⟨hp, hX0, Kx_refl hp, fun R => ?_⟩
                simp only [if_neg c01, if_pos c2, ra2, Bool.and_false, Bool.false_eq_true, ↓reduceIte]
                rw [callD_k]; simp only [entL_i, entL_l, entL_q, entL_s, entL_nil, n_X10_move, u_X10_move, m_X10_move, rep_0, List.cons_append, List.nil_append, List.append_nil, List.length_cons, List.length_nil, Nat.reduceAdd, true_and]
                simp only [AW_k, AWk_1, x_aload_0, x_aloads_0, x_getf, x_iload_1, x_callv_2, x_if_eq, x_iload_3, x_if_ne, x_push_i, x_push_l, x_ret, x_ret_i, x_ret_z, x_ret_l, x_ret_c, x_iald, x_ialds, x_icmp_eq, x_icmp_ne, x_iload_2, x_iload_5, x_callv_4, x_iload_4, x_aald, x_copyl, k_X10_move_0, k_X10_move_1, k_X10_move_2, k_X10_move_3, k_X10_move_4, k_X10_move_5, k_X10_move_6, k_X10_move_7, k_X10_move_8, k_X10_move_9, k_X10_move_10, k_X10_move_11, k_X10_move_12, k_X10_move_13, k_X10_move_14, k_X10_move_15, k_X10_move_16, k_X10_move_17, k_X10_move_18, k_X10_move_19, k_X10_move_20, k_X10_move_21, k_X10_move_22, k_X10_move_23, k_X10_move_24, k_X10_move_25, k_X10_move_26, k_X10_move_27, k_X10_move_28, k_X10_move_29, k_X10_move_30, k_X10_move_31, k_X10_move_32, k_X10_move_33, k_X10_move_34, k_X10_move_35, k_X10_move_36, k_X10_move_37, k_X10_move_38, k_X10_move_39, k_X10_move_40, k_X10_move_41, k_X10_move_42, k_X10_move_43, k_X10_move_44, k_X10_move_45, k_X10_move_46, k_X10_move_47, k_X10_move_48, k_X10_move_49, k_X10_move_50, k_X10_move_51, k_X10_move_52, k_X10_move_53, k_X10_move_54, k_X10_move_55, k_X10_move_56, k_X10_move_57, k_X10_move_58, k_X10_move_59, k_X10_move_60, k_X10_move_61, k_X10_move_62, k_X10_move_63, k_X10_move_64, k_X10_move_65, k_X10_move_66, k_X10_move_67, k_X10_move_68, k_X10_move_69, k_X10_move_70, k_X10_move_71, k_X10_move_72, oE_some, Int.reduceToNat, Nat.reduceAdd, true_and, and_true, List.length_cons, List.length_nil, Option.toList_some, Option.toList_none, List.cons_append, List.nil_append, Nat.reduceLeDiff, Nat.le_refl, wdS_nil, wdS_i, wdS_l, wdS_r, wdS_n, wdS_s, o9, c19, hh, hk, w10, w00, zI_f, zI_t, i1, Int.reduceEq, g0, a0, iso, ito, w32_tn bs, w32_tn bt, wso, wst, c0, c1, c2, im1, r1, r2, ↓reduceIte]
              | true =>
                rw [ra2] at r2
                obtain ⟨t1, t2, t3, t4⟩ := rchs_t ra1
                obtain ⟨t1', t2', t3', t4'⟩ := rchs_t ra2
                have b1 : i + m ≤ ((40 : Nat) : Int) := by omega
                have b2 : j + m ≤ ((40 : Nat) : Int) := by omega
                obtain ⟨u1, u2⟩ := XI_it (s := t) (l := cpyL 0#64 (it s) (it t) i.toNat j.toNat m.toNat) hX0 ht (by rw [cpyL_len]; exact hl')
                refine ⟨pJ hp (23 + t) (cpyL 0#64 (it s) (it t) i.toNat j.toNat m.toNat), ?_, u2, fun R => ?_⟩
                · simp only [Bool.and_self, ↓reduceIte]
                  exact u1
                · simp only [if_neg c01, if_pos c2, ra1, ra2, Bool.and_self, ↓reduceIte]
                  rw [callD_k]; simp only [entL_i, entL_l, entL_q, entL_s, entL_nil, n_X10_move, u_X10_move, m_X10_move, rep_0, List.cons_append, List.nil_append, List.append_nil, List.length_cons, List.length_nil, Nat.reduceAdd, true_and]
                  simp only [AW_k, AWk_1, x_aload_0, x_aloads_0, x_getf, x_iload_1, x_callv_2, x_if_eq, x_iload_3, x_if_ne, x_push_i, x_push_l, x_ret, x_ret_i, x_ret_z, x_ret_l, x_ret_c, x_iald, x_ialds, x_icmp_eq, x_icmp_ne, x_iload_2, x_iload_5, x_callv_4, x_iload_4, x_aald, x_copyl, k_X10_move_0, k_X10_move_1, k_X10_move_2, k_X10_move_3, k_X10_move_4, k_X10_move_5, k_X10_move_6, k_X10_move_7, k_X10_move_8, k_X10_move_9, k_X10_move_10, k_X10_move_11, k_X10_move_12, k_X10_move_13, k_X10_move_14, k_X10_move_15, k_X10_move_16, k_X10_move_17, k_X10_move_18, k_X10_move_19, k_X10_move_20, k_X10_move_21, k_X10_move_22, k_X10_move_23, k_X10_move_24, k_X10_move_25, k_X10_move_26, k_X10_move_27, k_X10_move_28, k_X10_move_29, k_X10_move_30, k_X10_move_31, k_X10_move_32, k_X10_move_33, k_X10_move_34, k_X10_move_35, k_X10_move_36, k_X10_move_37, k_X10_move_38, k_X10_move_39, k_X10_move_40, k_X10_move_41, k_X10_move_42, k_X10_move_43, k_X10_move_44, k_X10_move_45, k_X10_move_46, k_X10_move_47, k_X10_move_48, k_X10_move_49, k_X10_move_50, k_X10_move_51, k_X10_move_52, k_X10_move_53, k_X10_move_54, k_X10_move_55, k_X10_move_56, k_X10_move_57, k_X10_move_58, k_X10_move_59, k_X10_move_60, k_X10_move_61, k_X10_move_62, k_X10_move_63, k_X10_move_64, k_X10_move_65, k_X10_move_66, k_X10_move_67, k_X10_move_68, k_X10_move_69, k_X10_move_70, k_X10_move_71, k_X10_move_72, oE_some, Int.reduceToNat, Nat.reduceAdd, true_and, and_true, List.length_cons, List.length_nil, Option.toList_some, Option.toList_none, List.cons_append, List.nil_append, Nat.reduceLeDiff, Nat.le_refl, wdS_nil, wdS_i, wdS_l, wdS_r, wdS_n, wdS_s, o9, c19, hh, hk, w10, w00, zI_f, zI_t, i1, Int.reduceEq, g0, a0, iso, ito, w32_tn bs, w32_tn bt, wso, wst, c0, c1, c2, im1, r1, r2, g2, gq, i4, j4, q4_get hs, q4_get ht, hJ, hJ', hl, hl', hi, hj, hm, t1, t2, t2', b1, b2, List.length_cons, List.length_nil, Nat.zero_le, ↓reduceIte]
          · rw [if_neg c2]
            refine ⟨hp, hX0, Kx_refl hp, fun R => ?_⟩
            simp only [if_neg c01, if_neg c2]
            rw [callD_k]; simp only [entL_i, entL_l, entL_q, entL_s, entL_nil, n_X10_move, u_X10_move, m_X10_move, rep_0, List.cons_append, List.nil_append, List.append_nil, List.length_cons, List.length_nil, Nat.reduceAdd, true_and]
            simp only [AW_k, AWk_1, x_aload_0, x_aloads_0, x_getf, x_iload_1, x_callv_2, x_if_eq, x_iload_3, x_if_ne, x_push_i, x_push_l, x_ret, x_ret_i, x_ret_z, x_ret_l, x_ret_c, x_iald, x_ialds, x_icmp_eq, x_icmp_ne, x_iload_2, x_iload_5, x_callv_4, x_iload_4, x_aald, x_copyl, k_X10_move_0, k_X10_move_1, k_X10_move_2, k_X10_move_3, k_X10_move_4, k_X10_move_5, k_X10_move_6, k_X10_move_7, k_X10_move_8, k_X10_move_9, k_X10_move_10, k_X10_move_11, k_X10_move_12, k_X10_move_13, k_X10_move_14, k_X10_move_15, k_X10_move_16, k_X10_move_17, k_X10_move_18, k_X10_move_19, k_X10_move_20, k_X10_move_21, k_X10_move_22, k_X10_move_23, k_X10_move_24, k_X10_move_25, k_X10_move_26, k_X10_move_27, k_X10_move_28, k_X10_move_29, k_X10_move_30, k_X10_move_31, k_X10_move_32, k_X10_move_33, k_X10_move_34, k_X10_move_35, k_X10_move_36, k_X10_move_37, k_X10_move_38, k_X10_move_39, k_X10_move_40, k_X10_move_41, k_X10_move_42, k_X10_move_43, k_X10_move_44, k_X10_move_45, k_X10_move_46, k_X10_move_47, k_X10_move_48, k_X10_move_49, k_X10_move_50, k_X10_move_51, k_X10_move_52, k_X10_move_53, k_X10_move_54, k_X10_move_55, k_X10_move_56, k_X10_move_57, k_X10_move_58, k_X10_move_59, k_X10_move_60, k_X10_move_61, k_X10_move_62, k_X10_move_63, k_X10_move_64, k_X10_move_65, k_X10_move_66, k_X10_move_67, k_X10_move_68, k_X10_move_69, k_X10_move_70, k_X10_move_71, k_X10_move_72, oE_some, Int.reduceToNat, Nat.reduceAdd, true_and, and_true, List.length_cons, List.length_nil, Option.toList_some, Option.toList_none, List.cons_append, List.nil_append, Nat.reduceLeDiff, Nat.le_refl, wdS_nil, wdS_i, wdS_l, wdS_r, wdS_n, wdS_s, o9, c19, hh, hk, w10, w00, i1, Int.reduceEq, g0, a0, iso, ito, w32_tn bs, w32_tn bt, wso, wst, c0, c1, c2, im1, ↓reduceIte]
