/-! ===== the reference's own methods: arcs (2) ===== -/
theorem m_arc (d : Nat) {hp : HP} {n : Nat} {x p : Int} (h : MA hp n) (hx : w32 x = x) (hp1 : w32 p = p) (R : PO) : callD (d + 100) 188 [mR 54, mI x, mI p] hp R ↔ R (some (mI (an1 n x (arA n p)))) hp := by
  have hK := h.1
  have h1 := hK.1.1
  have h6 := hK.1.2
  have g1 := hK.2.1
  cases ex : ixo n x with
  | none =>
    rw [an1_n ex]
    rw [callD_k]; simp only [entL_i, entL_l, entL_q, entL_s, entL_nil, n_X11_arc, u_X11_arc, m_X11_arc, rep_0, List.cons_append, List.nil_append, List.append_nil, List.length_cons, List.length_nil, Nat.reduceAdd, true_and]
    simp only [AW_k, AWk_1, x_aload_0, x_aloads_0, x_iload_1, x_callv_2, x_if_eq, x_iload_2, x_i2l, x_push_i, x_push_l, x_getf, x_isub, x_call_3, x_callv_3, x_goto, x_ret, x_ret_i, x_ret_z, x_ret_l, x_ret_c, k_X11_arc_0, k_X11_arc_1, k_X11_arc_2, k_X11_arc_3, k_X11_arc_4, k_X11_arc_5, k_X11_arc_6, k_X11_arc_7, k_X11_arc_8, k_X11_arc_9, k_X11_arc_10, k_X11_arc_11, k_X11_arc_12, k_X11_arc_13, k_X11_arc_14, k_X11_arc_15, k_X11_arc_16, k_X11_arc_17, k_X11_arc_18, k_X11_arc_19, k_X11_arc_20, oE_some, Int.reduceToNat, Nat.reduceAdd, true_and, and_true, List.length_cons, List.length_nil, Option.toList_some, Option.toList_none, List.cons_append, List.nil_append, Nat.reduceLeDiff, Nat.le_refl, wdS_nil, wdS_i, wdS_l, wdS_r, wdS_n, wdS_s, cM hK, m_isRow_n (d + 97) hK hx ex, w00, ↓reduceIte]
  | some i =>
    have hi := ixo_lt ex
    have exn := ixo_num ex
    rw [an1_s ex]
    unfold arA
    by_cases c : 0 ≤ p ∧ p < ((n - 1 : Nat) : Int)
    · obtain ⟨q, eq0⟩ : ∃ q : Nat, p = (q : Int) := ⟨p.toNat, by omega⟩
      subst eq0
      have hq : q < n - 1 := by omega
      have ci : inI (q : Int) 0 ((n : Int) - 2) = true := decide_eq_true (by omega)
      have ma := fun R => m_arcAt (d + 97) h hi hq R
      rw [exn] at ma
      have er : w32 ((n : Int) - 2) = (n : Int) - 2 := w32_id (by omega) (by omega)
      rw [if_pos c, Int.toNat_natCast]
      rw [callD_k]; simp only [entL_i, entL_l, entL_q, entL_s, entL_nil, n_X11_arc, u_X11_arc, m_X11_arc, rep_0, List.cons_append, List.nil_append, List.append_nil, List.length_cons, List.length_nil, Nat.reduceAdd, true_and]
      simp only [AW_k, AWk_1, x_aload_0, x_aloads_0, x_iload_1, x_callv_2, x_if_eq, x_iload_2, x_i2l, x_push_i, x_push_l, x_getf, x_isub, x_call_3, x_callv_3, x_goto, x_ret, x_ret_i, x_ret_z, x_ret_l, x_ret_c, k_X11_arc_0, k_X11_arc_1, k_X11_arc_2, k_X11_arc_3, k_X11_arc_4, k_X11_arc_5, k_X11_arc_6, k_X11_arc_7, k_X11_arc_8, k_X11_arc_9, k_X11_arc_10, k_X11_arc_11, k_X11_arc_12, k_X11_arc_13, k_X11_arc_14, k_X11_arc_15, k_X11_arc_16, k_X11_arc_17, k_X11_arc_18, k_X11_arc_19, k_X11_arc_20, oE_some, Int.reduceToNat, Nat.reduceAdd, true_and, and_true, List.length_cons, List.length_nil, Option.toList_some, Option.toList_none, List.cons_append, List.nil_append, Nat.reduceLeDiff, Nat.le_refl, wdS_nil, wdS_i, wdS_l, wdS_r, wdS_n, wdS_s, cM hK, m_isRow_s (d + 97) hK hx ex, w10, g1, m_in (d + 98), tI_id hp1, tI_id er, q0_I, ci, zI_t, ma, ↓reduceIte]
    · have ci : inI p 0 ((n : Int) - 2) = false := decide_eq_false (by omega)
      have er : w32 ((n : Int) - 2) = (n : Int) - 2 := w32_id (by omega) (by omega)
      rw [if_neg c]
      rw [callD_k]; simp only [entL_i, entL_l, entL_q, entL_s, entL_nil, n_X11_arc, u_X11_arc, m_X11_arc, rep_0, List.cons_append, List.nil_append, List.append_nil, List.length_cons, List.length_nil, Nat.reduceAdd, true_and]
      simp only [AW_k, AWk_1, x_aload_0, x_aloads_0, x_iload_1, x_callv_2, x_if_eq, x_iload_2, x_i2l, x_push_i, x_push_l, x_getf, x_isub, x_call_3, x_callv_3, x_goto, x_ret, x_ret_i, x_ret_z, x_ret_l, x_ret_c, k_X11_arc_0, k_X11_arc_1, k_X11_arc_2, k_X11_arc_3, k_X11_arc_4, k_X11_arc_5, k_X11_arc_6, k_X11_arc_7, k_X11_arc_8, k_X11_arc_9, k_X11_arc_10, k_X11_arc_11, k_X11_arc_12, k_X11_arc_13, k_X11_arc_14, k_X11_arc_15, k_X11_arc_16, k_X11_arc_17, k_X11_arc_18, k_X11_arc_19, k_X11_arc_20, oE_some, Int.reduceToNat, Nat.reduceAdd, true_and, and_true, List.length_cons, List.length_nil, Option.toList_some, Option.toList_none, List.cons_append, List.nil_append, Nat.reduceLeDiff, Nat.le_refl, wdS_nil, wdS_i, wdS_l, wdS_r, wdS_n, wdS_s, cM hK, m_isRow_s (d + 97) hK hx ex, w10, g1, m_in (d + 98), tI_id hp1, tI_id er, q0_I, ci, zI_f, w00, ↓reduceIte]
set_option maxHeartbeats 16000000 in
theorem m_arcIs (d : Nat) {hp : HP} {n : Nat} {G : BitVec 64} {x w : Int} (h : MA hp n) (hG : gF hp 54 11 3 = some (mL G)) (hx : w32 x = x) (hw : w32 w = w) (R : PO) : callD (d + 100) 193 [mR 54, mI x, mI w] hp R ↔ R (some (mI (aa1 n x (arcW n G w)))) hp := by
  have hM := h
  obtain ⟨hK, ⟨g13, g14, g15, g16, g17⟩, l1, l2, l3, l4, ⟨a1, a2, a3, a4⟩, ⟨n1, n2, n3, n4⟩, hv⟩ := h
  have fN := NA_le n
  cases ex : axo n x with
  | none =>
    rw [aa1_n ex]
    rw [callD_k]; simp only [entL_i, entL_l, entL_q, entL_s, entL_nil, n_X11_arcIs, u_X11_arcIs, m_X11_arcIs, rep_0, List.cons_append, List.nil_append, List.append_nil, List.length_cons, List.length_nil, Nat.reduceAdd, true_and]
    simp only [AW_k, AWk_1, x_aload_0, x_aloads_0, x_iload_1, x_callv_2, x_if_ne, x_push_i, x_push_l, x_ret, x_ret_i, x_ret_z, x_ret_l, x_ret_c, x_iload_2, x_switch, AW_sw, AW_sw0, x_getf, x_iald, x_ialds, x_call_2, x_if_eq, x_goto, x_lald, x_call_1, k_X11_arcIs_0, k_X11_arcIs_1, k_X11_arcIs_2, k_X11_arcIs_3, k_X11_arcIs_4, k_X11_arcIs_5, k_X11_arcIs_6, k_X11_arcIs_7, k_X11_arcIs_8, k_X11_arcIs_9, k_X11_arcIs_10, k_X11_arcIs_11, k_X11_arcIs_12, k_X11_arcIs_13, k_X11_arcIs_14, k_X11_arcIs_15, k_X11_arcIs_16, k_X11_arcIs_17, k_X11_arcIs_18, k_X11_arcIs_19, k_X11_arcIs_20, k_X11_arcIs_21, k_X11_arcIs_22, k_X11_arcIs_23, k_X11_arcIs_24, k_X11_arcIs_25, k_X11_arcIs_26, k_X11_arcIs_27, k_X11_arcIs_28, k_X11_arcIs_29, k_X11_arcIs_30, k_X11_arcIs_31, k_X11_arcIs_32, k_X11_arcIs_33, k_X11_arcIs_34, k_X11_arcIs_35, k_X11_arcIs_36, k_X11_arcIs_37, k_X11_arcIs_38, k_X11_arcIs_39, k_X11_arcIs_40, k_X11_arcIs_41, k_X11_arcIs_42, k_X11_arcIs_43, k_X11_arcIs_44, k_X11_arcIs_45, k_X11_arcIs_46, k_X11_arcIs_47, k_X11_arcIs_48, oE_some, Int.reduceToNat, Nat.reduceAdd, true_and, and_true, List.length_cons, List.length_nil, Option.toList_some, Option.toList_none, List.cons_append, List.nil_append, Nat.reduceLeDiff, Nat.le_refl, wdS_nil, wdS_i, wdS_l, wdS_r, wdS_n, wdS_s, cM hK, mArc_n (d + 97) hM hx ex, w00, ↓reduceIte]
  | some a =>
    obtain ⟨ha, ea⟩ := axo_lt ex
    obtain ⟨v1, v2, v3, v4⟩ := hv a ha
    have a57 : a < 57 := by omega
    have ba : a < 2147483648 := by omega
    have a64 : a < 64 := by omega
    have i1 : inB (a : Int) 57 := inB_n a57 (by decide)
    have en := mArc_s (d + 97) hM hx ex
    rw [aa1_s ex]
    unfold arcW
    subst ea
    rw [callD_k]; simp only [entL_i, entL_l, entL_q, entL_s, entL_nil, n_X11_arcIs, u_X11_arcIs, m_X11_arcIs, rep_0, List.cons_append, List.nil_append, List.append_nil, List.length_cons, List.length_nil, Nat.reduceAdd, true_and]
    by_cases c0 : w = 0
    · rw [if_pos c0]
      simp only [AW_k, AWk_1, x_aload_0, x_aloads_0, x_iload_1, x_callv_2, x_if_ne, x_push_i, x_push_l, x_ret, x_ret_i, x_ret_z, x_ret_l, x_ret_c, x_iload_2, x_switch, AW_sw, AW_sw0, x_getf, x_iald, x_ialds, x_call_2, x_if_eq, x_goto, x_lald, x_call_1, k_X11_arcIs_0, k_X11_arcIs_1, k_X11_arcIs_2, k_X11_arcIs_3, k_X11_arcIs_4, k_X11_arcIs_5, k_X11_arcIs_6, k_X11_arcIs_7, k_X11_arcIs_8, k_X11_arcIs_9, k_X11_arcIs_10, k_X11_arcIs_11, k_X11_arcIs_12, k_X11_arcIs_13, k_X11_arcIs_14, k_X11_arcIs_15, k_X11_arcIs_16, k_X11_arcIs_17, k_X11_arcIs_18, k_X11_arcIs_19, k_X11_arcIs_20, k_X11_arcIs_21, k_X11_arcIs_22, k_X11_arcIs_23, k_X11_arcIs_24, k_X11_arcIs_25, k_X11_arcIs_26, k_X11_arcIs_27, k_X11_arcIs_28, k_X11_arcIs_29, k_X11_arcIs_30, k_X11_arcIs_31, k_X11_arcIs_32, k_X11_arcIs_33, k_X11_arcIs_34, k_X11_arcIs_35, k_X11_arcIs_36, k_X11_arcIs_37, k_X11_arcIs_38, k_X11_arcIs_39, k_X11_arcIs_40, k_X11_arcIs_41, k_X11_arcIs_42, k_X11_arcIs_43, k_X11_arcIs_44, k_X11_arcIs_45, k_X11_arcIs_46, k_X11_arcIs_47, k_X11_arcIs_48, oE_some, Int.reduceToNat, Nat.reduceAdd, true_and, and_true, List.length_cons, List.length_nil, Option.toList_some, Option.toList_none, List.cons_append, List.nil_append, Nat.reduceLeDiff, Nat.le_refl, wdS_nil, wdS_i, wdS_l, wdS_r, wdS_n, wdS_s, cM hK, en, w10, hw, c0, wz0, swT_cons, swT_nil, Int.reduceEq, g13, a1, n1, i1, w32_tn ba, v1, ↓reduceIte]
    · rw [if_neg c0]
      by_cases c1 : w = 1
      · rw [if_pos c1]
        simp only [AW_k, AWk_1, x_aload_0, x_aloads_0, x_iload_1, x_callv_2, x_if_ne, x_push_i, x_push_l, x_ret, x_ret_i, x_ret_z, x_ret_l, x_ret_c, x_iload_2, x_switch, AW_sw, AW_sw0, x_getf, x_iald, x_ialds, x_call_2, x_if_eq, x_goto, x_lald, x_call_1, k_X11_arcIs_0, k_X11_arcIs_1, k_X11_arcIs_2, k_X11_arcIs_3, k_X11_arcIs_4, k_X11_arcIs_5, k_X11_arcIs_6, k_X11_arcIs_7, k_X11_arcIs_8, k_X11_arcIs_9, k_X11_arcIs_10, k_X11_arcIs_11, k_X11_arcIs_12, k_X11_arcIs_13, k_X11_arcIs_14, k_X11_arcIs_15, k_X11_arcIs_16, k_X11_arcIs_17, k_X11_arcIs_18, k_X11_arcIs_19, k_X11_arcIs_20, k_X11_arcIs_21, k_X11_arcIs_22, k_X11_arcIs_23, k_X11_arcIs_24, k_X11_arcIs_25, k_X11_arcIs_26, k_X11_arcIs_27, k_X11_arcIs_28, k_X11_arcIs_29, k_X11_arcIs_30, k_X11_arcIs_31, k_X11_arcIs_32, k_X11_arcIs_33, k_X11_arcIs_34, k_X11_arcIs_35, k_X11_arcIs_36, k_X11_arcIs_37, k_X11_arcIs_38, k_X11_arcIs_39, k_X11_arcIs_40, k_X11_arcIs_41, k_X11_arcIs_42, k_X11_arcIs_43, k_X11_arcIs_44, k_X11_arcIs_45, k_X11_arcIs_46, k_X11_arcIs_47, k_X11_arcIs_48, oE_some, Int.reduceToNat, Nat.reduceAdd, true_and, and_true, List.length_cons, List.length_nil, Option.toList_some, Option.toList_none, List.cons_append, List.nil_append, Nat.reduceLeDiff, Nat.le_refl, wdS_nil, wdS_i, wdS_l, wdS_r, wdS_n, wdS_s, cM hK, en, w10, hw, c1, wz1, swT_cons, swT_nil, Int.reduceEq, g14, a2, n2, i1, w32_tn ba, v2, ↓reduceIte]
      · rw [if_neg c1]
        by_cases c2 : w = 2
        · rw [if_pos c2]
          simp only [AW_k, AWk_1, x_aload_0, x_aloads_0, x_iload_1, x_callv_2, x_if_ne, x_push_i, x_push_l, x_ret, x_ret_i, x_ret_z, x_ret_l, x_ret_c, x_iload_2, x_switch, AW_sw, AW_sw0, x_getf, x_iald, x_ialds, x_call_2, x_if_eq, x_goto, x_lald, x_call_1, k_X11_arcIs_0, k_X11_arcIs_1, k_X11_arcIs_2, k_X11_arcIs_3, k_X11_arcIs_4, k_X11_arcIs_5, k_X11_arcIs_6, k_X11_arcIs_7, k_X11_arcIs_8, k_X11_arcIs_9, k_X11_arcIs_10, k_X11_arcIs_11, k_X11_arcIs_12, k_X11_arcIs_13, k_X11_arcIs_14, k_X11_arcIs_15, k_X11_arcIs_16, k_X11_arcIs_17, k_X11_arcIs_18, k_X11_arcIs_19, k_X11_arcIs_20, k_X11_arcIs_21, k_X11_arcIs_22, k_X11_arcIs_23, k_X11_arcIs_24, k_X11_arcIs_25, k_X11_arcIs_26, k_X11_arcIs_27, k_X11_arcIs_28, k_X11_arcIs_29, k_X11_arcIs_30, k_X11_arcIs_31, k_X11_arcIs_32, k_X11_arcIs_33, k_X11_arcIs_34, k_X11_arcIs_35, k_X11_arcIs_36, k_X11_arcIs_37, k_X11_arcIs_38, k_X11_arcIs_39, k_X11_arcIs_40, k_X11_arcIs_41, k_X11_arcIs_42, k_X11_arcIs_43, k_X11_arcIs_44, k_X11_arcIs_45, k_X11_arcIs_46, k_X11_arcIs_47, k_X11_arcIs_48, oE_some, Int.reduceToNat, Nat.reduceAdd, true_and, and_true, List.length_cons, List.length_nil, Option.toList_some, Option.toList_none, List.cons_append, List.nil_append, Nat.reduceLeDiff, Nat.le_refl, wdS_nil, wdS_i, wdS_l, wdS_r, wdS_n, wdS_s, cM hK, en, w10, hw, c2, wz1, wz2, swT_cons, swT_nil, Int.reduceEq, g15, a3, n3, i1, w32_tn ba, v3, ↓reduceIte]
        · rw [if_neg c2]
          by_cases c3 : w = 3
          · rw [if_pos c3]
            simp only [AW_k, AWk_1, x_aload_0, x_aloads_0, x_iload_1, x_callv_2, x_if_ne, x_push_i, x_push_l, x_ret, x_ret_i, x_ret_z, x_ret_l, x_ret_c, x_iload_2, x_switch, AW_sw, AW_sw0, x_getf, x_iald, x_ialds, x_call_2, x_if_eq, x_goto, x_lald, x_call_1, k_X11_arcIs_0, k_X11_arcIs_1, k_X11_arcIs_2, k_X11_arcIs_3, k_X11_arcIs_4, k_X11_arcIs_5, k_X11_arcIs_6, k_X11_arcIs_7, k_X11_arcIs_8, k_X11_arcIs_9, k_X11_arcIs_10, k_X11_arcIs_11, k_X11_arcIs_12, k_X11_arcIs_13, k_X11_arcIs_14, k_X11_arcIs_15, k_X11_arcIs_16, k_X11_arcIs_17, k_X11_arcIs_18, k_X11_arcIs_19, k_X11_arcIs_20, k_X11_arcIs_21, k_X11_arcIs_22, k_X11_arcIs_23, k_X11_arcIs_24, k_X11_arcIs_25, k_X11_arcIs_26, k_X11_arcIs_27, k_X11_arcIs_28, k_X11_arcIs_29, k_X11_arcIs_30, k_X11_arcIs_31, k_X11_arcIs_32, k_X11_arcIs_33, k_X11_arcIs_34, k_X11_arcIs_35, k_X11_arcIs_36, k_X11_arcIs_37, k_X11_arcIs_38, k_X11_arcIs_39, k_X11_arcIs_40, k_X11_arcIs_41, k_X11_arcIs_42, k_X11_arcIs_43, k_X11_arcIs_44, k_X11_arcIs_45, k_X11_arcIs_46, k_X11_arcIs_47, k_X11_arcIs_48, oE_some, Int.reduceToNat, Nat.reduceAdd, true_and, and_true, List.length_cons, List.length_nil, Option.toList_some, Option.toList_none, List.cons_append, List.nil_append, Nat.reduceLeDiff, Nat.le_refl, wdS_nil, wdS_i, wdS_l, wdS_r, wdS_n, wdS_s, cM hK, en, w10, hw, c3, wz1, wz3, swT_cons, swT_nil, Int.reduceEq, hG, m_hasK (d + 98) a64, wB, ↓reduceIte]
            cases G.getLsbD a <;> exact Iff.rfl
          · rw [if_neg c3]
            by_cases c4 : w = 4
            · rw [if_pos c4]
              simp only [AW_k, AWk_1, x_aload_0, x_aloads_0, x_iload_1, x_callv_2, x_if_ne, x_push_i, x_push_l, x_ret, x_ret_i, x_ret_z, x_ret_l, x_ret_c, x_iload_2, x_switch, AW_sw, AW_sw0, x_getf, x_iald, x_ialds, x_call_2, x_if_eq, x_goto, x_lald, x_call_1, k_X11_arcIs_0, k_X11_arcIs_1, k_X11_arcIs_2, k_X11_arcIs_3, k_X11_arcIs_4, k_X11_arcIs_5, k_X11_arcIs_6, k_X11_arcIs_7, k_X11_arcIs_8, k_X11_arcIs_9, k_X11_arcIs_10, k_X11_arcIs_11, k_X11_arcIs_12, k_X11_arcIs_13, k_X11_arcIs_14, k_X11_arcIs_15, k_X11_arcIs_16, k_X11_arcIs_17, k_X11_arcIs_18, k_X11_arcIs_19, k_X11_arcIs_20, k_X11_arcIs_21, k_X11_arcIs_22, k_X11_arcIs_23, k_X11_arcIs_24, k_X11_arcIs_25, k_X11_arcIs_26, k_X11_arcIs_27, k_X11_arcIs_28, k_X11_arcIs_29, k_X11_arcIs_30, k_X11_arcIs_31, k_X11_arcIs_32, k_X11_arcIs_33, k_X11_arcIs_34, k_X11_arcIs_35, k_X11_arcIs_36, k_X11_arcIs_37, k_X11_arcIs_38, k_X11_arcIs_39, k_X11_arcIs_40, k_X11_arcIs_41, k_X11_arcIs_42, k_X11_arcIs_43, k_X11_arcIs_44, k_X11_arcIs_45, k_X11_arcIs_46, k_X11_arcIs_47, k_X11_arcIs_48, oE_some, Int.reduceToNat, Nat.reduceAdd, true_and, and_true, List.length_cons, List.length_nil, Option.toList_some, Option.toList_none, List.cons_append, List.nil_append, Nat.reduceLeDiff, Nat.le_refl, wdS_nil, wdS_i, wdS_l, wdS_r, wdS_n, wdS_s, cM hK, en, w10, hw, c4, wz1, wz4, swT_cons, swT_nil, Int.reduceEq, g16, a4, n4, i1, w32_tn ba, v4, m_ones (d + 97), ↓reduceIte]
            · rw [if_neg c4]
              by_cases c5 : w = 5
              · rw [if_pos c5]
                simp only [AW_k, AWk_1, x_aload_0, x_aloads_0, x_iload_1, x_callv_2, x_if_ne, x_push_i, x_push_l, x_ret, x_ret_i, x_ret_z, x_ret_l, x_ret_c, x_iload_2, x_switch, AW_sw, AW_sw0, x_getf, x_iald, x_ialds, x_call_2, x_if_eq, x_goto, x_lald, x_call_1, k_X11_arcIs_0, k_X11_arcIs_1, k_X11_arcIs_2, k_X11_arcIs_3, k_X11_arcIs_4, k_X11_arcIs_5, k_X11_arcIs_6, k_X11_arcIs_7, k_X11_arcIs_8, k_X11_arcIs_9, k_X11_arcIs_10, k_X11_arcIs_11, k_X11_arcIs_12, k_X11_arcIs_13, k_X11_arcIs_14, k_X11_arcIs_15, k_X11_arcIs_16, k_X11_arcIs_17, k_X11_arcIs_18, k_X11_arcIs_19, k_X11_arcIs_20, k_X11_arcIs_21, k_X11_arcIs_22, k_X11_arcIs_23, k_X11_arcIs_24, k_X11_arcIs_25, k_X11_arcIs_26, k_X11_arcIs_27, k_X11_arcIs_28, k_X11_arcIs_29, k_X11_arcIs_30, k_X11_arcIs_31, k_X11_arcIs_32, k_X11_arcIs_33, k_X11_arcIs_34, k_X11_arcIs_35, k_X11_arcIs_36, k_X11_arcIs_37, k_X11_arcIs_38, k_X11_arcIs_39, k_X11_arcIs_40, k_X11_arcIs_41, k_X11_arcIs_42, k_X11_arcIs_43, k_X11_arcIs_44, k_X11_arcIs_45, k_X11_arcIs_46, k_X11_arcIs_47, k_X11_arcIs_48, oE_some, Int.reduceToNat, Nat.reduceAdd, true_and, and_true, List.length_cons, List.length_nil, Option.toList_some, Option.toList_none, List.cons_append, List.nil_append, Nat.reduceLeDiff, Nat.le_refl, wdS_nil, wdS_i, wdS_l, wdS_r, wdS_n, wdS_s, cM hK, en, w10, hw, c5, wz1, wz5, swT_cons, swT_nil, Int.reduceEq, m_forcers (d + 97) hM ha, m_ones (d + 97), ↓reduceIte]
              · rw [if_neg c5]
                by_cases c6 : w = 6
                · rw [if_pos c6]
                  simp only [AW_k, AWk_1, x_aload_0, x_aloads_0, x_iload_1, x_callv_2, x_if_ne, x_push_i, x_push_l, x_ret, x_ret_i, x_ret_z, x_ret_l, x_ret_c, x_iload_2, x_switch, AW_sw, AW_sw0, x_getf, x_iald, x_ialds, x_call_2, x_if_eq, x_goto, x_lald, x_call_1, k_X11_arcIs_0, k_X11_arcIs_1, k_X11_arcIs_2, k_X11_arcIs_3, k_X11_arcIs_4, k_X11_arcIs_5, k_X11_arcIs_6, k_X11_arcIs_7, k_X11_arcIs_8, k_X11_arcIs_9, k_X11_arcIs_10, k_X11_arcIs_11, k_X11_arcIs_12, k_X11_arcIs_13, k_X11_arcIs_14, k_X11_arcIs_15, k_X11_arcIs_16, k_X11_arcIs_17, k_X11_arcIs_18, k_X11_arcIs_19, k_X11_arcIs_20, k_X11_arcIs_21, k_X11_arcIs_22, k_X11_arcIs_23, k_X11_arcIs_24, k_X11_arcIs_25, k_X11_arcIs_26, k_X11_arcIs_27, k_X11_arcIs_28, k_X11_arcIs_29, k_X11_arcIs_30, k_X11_arcIs_31, k_X11_arcIs_32, k_X11_arcIs_33, k_X11_arcIs_34, k_X11_arcIs_35, k_X11_arcIs_36, k_X11_arcIs_37, k_X11_arcIs_38, k_X11_arcIs_39, k_X11_arcIs_40, k_X11_arcIs_41, k_X11_arcIs_42, k_X11_arcIs_43, k_X11_arcIs_44, k_X11_arcIs_45, k_X11_arcIs_46, k_X11_arcIs_47, k_X11_arcIs_48, oE_some, Int.reduceToNat, Nat.reduceAdd, true_and, and_true, List.length_cons, List.length_nil, Option.toList_some, Option.toList_none, List.cons_append, List.nil_append, Nat.reduceLeDiff, Nat.le_refl, wdS_nil, wdS_i, wdS_l, wdS_r, wdS_n, wdS_s, cM hK, en, w10, hw, c6, wz1, wz6, swT_cons, swT_nil, Int.reduceEq, m_leastWith (d + 95) hM ha, ↓reduceIte]
                · rw [if_neg c6]
                  simp only [AW_k, AWk_1, x_aload_0, x_aloads_0, x_iload_1, x_callv_2, x_if_ne, x_push_i, x_push_l, x_ret, x_ret_i, x_ret_z, x_ret_l, x_ret_c, x_iload_2, x_switch, AW_sw, AW_sw0, x_getf, x_iald, x_ialds, x_call_2, x_if_eq, x_goto, x_lald, x_call_1, k_X11_arcIs_0, k_X11_arcIs_1, k_X11_arcIs_2, k_X11_arcIs_3, k_X11_arcIs_4, k_X11_arcIs_5, k_X11_arcIs_6, k_X11_arcIs_7, k_X11_arcIs_8, k_X11_arcIs_9, k_X11_arcIs_10, k_X11_arcIs_11, k_X11_arcIs_12, k_X11_arcIs_13, k_X11_arcIs_14, k_X11_arcIs_15, k_X11_arcIs_16, k_X11_arcIs_17, k_X11_arcIs_18, k_X11_arcIs_19, k_X11_arcIs_20, k_X11_arcIs_21, k_X11_arcIs_22, k_X11_arcIs_23, k_X11_arcIs_24, k_X11_arcIs_25, k_X11_arcIs_26, k_X11_arcIs_27, k_X11_arcIs_28, k_X11_arcIs_29, k_X11_arcIs_30, k_X11_arcIs_31, k_X11_arcIs_32, k_X11_arcIs_33, k_X11_arcIs_34, k_X11_arcIs_35, k_X11_arcIs_36, k_X11_arcIs_37, k_X11_arcIs_38, k_X11_arcIs_39, k_X11_arcIs_40, k_X11_arcIs_41, k_X11_arcIs_42, k_X11_arcIs_43, k_X11_arcIs_44, k_X11_arcIs_45, k_X11_arcIs_46, k_X11_arcIs_47, k_X11_arcIs_48, oE_some, Int.reduceToNat, Nat.reduceAdd, true_and, and_true, List.length_cons, List.length_nil, Option.toList_some, Option.toList_none, List.cons_append, List.nil_append, Nat.reduceLeDiff, Nat.le_refl, wdS_nil, wdS_i, wdS_l, wdS_r, wdS_n, wdS_s, cM hK, en, w10, hw, c0, c1, c2, c3, c4, c5, c6, wz1, swT_cons, swT_nil, Int.reduceEq, ↓reduceIte]
set_option maxHeartbeats 16000000 in
theorem m_forces (d : Nat) {hp : HP} {n : Nat} {x y : Int} (h : MA hp n) (hx : w32 x = x) (hy : w32 y = y) (R : PO) : callD (d + 100) 194 [mR 54, mI x, mI y] hp R ↔ R (some (mI (aa2 n x y (fun a b => zI ((FO n a).getLsbD b))))) hp := by
  have hM := h
  obtain ⟨hK, ⟨g13, g14, g15, g16, g17⟩, l1, l2, l3, l4, ⟨a1, a2, a3, a4⟩, ⟨n1, n2, n3, n4⟩, hv⟩ := h
  have fN := NA_le n
  cases ex : axo n x with
  | none =>
    rw [aa2_n ex]
    rw [callD_k]; simp only [entL_i, entL_l, entL_q, entL_s, entL_nil, n_X11_forces, u_X11_forces, m_X11_forces, rep_0, List.cons_append, List.nil_append, List.append_nil, List.length_cons, List.length_nil, Nat.reduceAdd, true_and]
    simp only [AW_k, AWk_1, x_aload_0, x_aloads_0, x_iload_1, x_callv_2, x_if_eq, x_iload_2, x_if_ne, x_push_i, x_push_l, x_goto, x_getf, x_lald, x_call_2, x_ret, x_ret_i, x_ret_z, x_ret_l, x_ret_c, k_X11_forces_0, k_X11_forces_1, k_X11_forces_2, k_X11_forces_3, k_X11_forces_4, k_X11_forces_5, k_X11_forces_6, k_X11_forces_7, k_X11_forces_8, k_X11_forces_9, k_X11_forces_10, k_X11_forces_11, k_X11_forces_12, k_X11_forces_13, k_X11_forces_14, k_X11_forces_15, k_X11_forces_16, k_X11_forces_17, k_X11_forces_18, k_X11_forces_19, k_X11_forces_20, oE_some, Int.reduceToNat, Nat.reduceAdd, true_and, and_true, List.length_cons, List.length_nil, Option.toList_some, Option.toList_none, List.cons_append, List.nil_append, Nat.reduceLeDiff, Nat.le_refl, wdS_nil, wdS_i, wdS_l, wdS_r, wdS_n, wdS_s, cM hK, mArc_n (d + 97) hM hx ex, w00, ↓reduceIte]
  | some a =>
    obtain ⟨ha, ea⟩ := axo_lt ex
    have en := mArc_s (d + 97) hM hx ex
    cases ey : axo n y with
    | none =>
      rw [aa2_m ex ey]
      rw [callD_k]; simp only [entL_i, entL_l, entL_q, entL_s, entL_nil, n_X11_forces, u_X11_forces, m_X11_forces, rep_0, List.cons_append, List.nil_append, List.append_nil, List.length_cons, List.length_nil, Nat.reduceAdd, true_and]
      simp only [AW_k, AWk_1, x_aload_0, x_aloads_0, x_iload_1, x_callv_2, x_if_eq, x_iload_2, x_if_ne, x_push_i, x_push_l, x_goto, x_getf, x_lald, x_call_2, x_ret, x_ret_i, x_ret_z, x_ret_l, x_ret_c, k_X11_forces_0, k_X11_forces_1, k_X11_forces_2, k_X11_forces_3, k_X11_forces_4, k_X11_forces_5, k_X11_forces_6, k_X11_forces_7, k_X11_forces_8, k_X11_forces_9, k_X11_forces_10, k_X11_forces_11, k_X11_forces_12, k_X11_forces_13, k_X11_forces_14, k_X11_forces_15, k_X11_forces_16, k_X11_forces_17, k_X11_forces_18, k_X11_forces_19, k_X11_forces_20, oE_some, Int.reduceToNat, Nat.reduceAdd, true_and, and_true, List.length_cons, List.length_nil, Option.toList_some, Option.toList_none, List.cons_append, List.nil_append, Nat.reduceLeDiff, Nat.le_refl, wdS_nil, wdS_i, wdS_l, wdS_r, wdS_n, wdS_s, cM hK, en, mArc_n (d + 97) hM hy ey, w00, w10, ↓reduceIte]
    | some b =>
      obtain ⟨hb, eb⟩ := axo_lt ey
      have ef := mArc_s (d + 97) hM hy ey
      obtain ⟨v1, v2, v3, v4⟩ := hv a ha
      have a57 : a < 57 := by omega
      have ba : a < 2147483648 := by omega
      have b64 : b < 64 := by omega
      have i1 : inB (a : Int) 57 := inB_n a57 (by decide)
      rw [aa2_s ex ey]
      subst ea
      subst eb
      rw [callD_k]; simp only [entL_i, entL_l, entL_q, entL_s, entL_nil, n_X11_forces, u_X11_forces, m_X11_forces, rep_0, List.cons_append, List.nil_append, List.append_nil, List.length_cons, List.length_nil, Nat.reduceAdd, true_and]
      simp only [AW_k, AWk_1, x_aload_0, x_aloads_0, x_iload_1, x_callv_2, x_if_eq, x_iload_2, x_if_ne, x_push_i, x_push_l, x_goto, x_getf, x_lald, x_call_2, x_ret, x_ret_i, x_ret_z, x_ret_l, x_ret_c, k_X11_forces_0, k_X11_forces_1, k_X11_forces_2, k_X11_forces_3, k_X11_forces_4, k_X11_forces_5, k_X11_forces_6, k_X11_forces_7, k_X11_forces_8, k_X11_forces_9, k_X11_forces_10, k_X11_forces_11, k_X11_forces_12, k_X11_forces_13, k_X11_forces_14, k_X11_forces_15, k_X11_forces_16, k_X11_forces_17, k_X11_forces_18, k_X11_forces_19, k_X11_forces_20, oE_some, Int.reduceToNat, Nat.reduceAdd, true_and, and_true, List.length_cons, List.length_nil, Option.toList_some, Option.toList_none, List.cons_append, List.nil_append, Nat.reduceLeDiff, Nat.le_refl, wdS_nil, wdS_i, wdS_l, wdS_r, wdS_n, wdS_s, cM hK, en, ef, w10, g16, a4, n4, i1, w32_tn ba, v4, m_hasK (d + 98) b64, wB, ↓reduceIte]
      cases (FO n a).getLsbD b <;> exact Iff.rfl
theorem m_diagram (d : Nat) {hp : HP} {n : Nat} {x : Int} (h : MA hp n) (hx : w32 x = x) (R : PO) : callD (d + 100) 195 [mR 54, mI x] hp R ↔ R (some (mL (dgA n x))) hp := by
  have hK := h.1
  unfold dgA
  cases ex : ixo n x with
  | none =>
    rw [callD_k]; simp only [entL_i, entL_l, entL_q, entL_s, entL_nil, n_X11_diagram, u_X11_diagram, m_X11_diagram, rep_0, List.cons_append, List.nil_append, List.append_nil, List.length_cons, List.length_nil, Nat.reduceAdd, true_and]
    simp only [AW_k, AWk_1, x_aload_0, x_aloads_0, x_iload_1, x_callv_2, x_if_eq, x_goto, x_push_i, x_push_l, x_ret, x_ret_i, x_ret_z, x_ret_l, x_ret_c, k_X11_diagram_0, k_X11_diagram_1, k_X11_diagram_2, k_X11_diagram_3, k_X11_diagram_4, k_X11_diagram_5, k_X11_diagram_6, k_X11_diagram_7, k_X11_diagram_8, k_X11_diagram_9, oE_some, Int.reduceToNat, Nat.reduceAdd, true_and, and_true, List.length_cons, List.length_nil, Option.toList_some, Option.toList_none, List.cons_append, List.nil_append, Nat.reduceLeDiff, Nat.le_refl, wdS_nil, wdS_i, wdS_l, wdS_r, wdS_n, wdS_s, cM hK, m_isRow_n (d + 97) hK hx ex, w00, ↓reduceIte]
  | some i =>
    have hi := ixo_lt ex
    have exn := ixo_num ex
    have md := fun R => m_diagramOf (d + 96) h hi R
    rw [exn] at md
    rw [callD_k]; simp only [entL_i, entL_l, entL_q, entL_s, entL_nil, n_X11_diagram, u_X11_diagram, m_X11_diagram, rep_0, List.cons_append, List.nil_append, List.append_nil, List.length_cons, List.length_nil, Nat.reduceAdd, true_and]
    simp only [AW_k, AWk_1, x_aload_0, x_aloads_0, x_iload_1, x_callv_2, x_if_eq, x_goto, x_push_i, x_push_l, x_ret, x_ret_i, x_ret_z, x_ret_l, x_ret_c, k_X11_diagram_0, k_X11_diagram_1, k_X11_diagram_2, k_X11_diagram_3, k_X11_diagram_4, k_X11_diagram_5, k_X11_diagram_6, k_X11_diagram_7, k_X11_diagram_8, k_X11_diagram_9, oE_some, Int.reduceToNat, Nat.reduceAdd, true_and, and_true, List.length_cons, List.length_nil, Option.toList_some, Option.toList_none, List.cons_append, List.nil_append, Nat.reduceLeDiff, Nat.le_refl, wdS_nil, wdS_i, wdS_l, wdS_r, wdS_n, wdS_s, cM hK, m_isRow_s (d + 97) hK hx ex, w10, md, ↓reduceIte]
theorem okS_shr {n : Nat} {s : BitVec 64} : (s >>> NA n = 0#64) ↔ okS n s := by
  constructor
  · intro e j hj
    apply Nat.lt_of_not_le
    intro hle
    have := congrArg (fun x : BitVec 64 => x.getLsbD (j - NA n)) e
    simp only [BitVec.getLsbD_ushiftRight, BitVec.getLsbD_zero] at this
    rw [show NA n + (j - NA n) = j by omega, hj] at this
    exact Bool.noConfusion this
  · intro h
    apply BitVec.eq_of_getLsbD_eq
    intro j hj
    rw [BitVec.getLsbD_ushiftRight, BitVec.getLsbD_zero]
    cases q : s.getLsbD (NA n + j) with
    | false => rfl
    | true => have := h _ q; omega
theorem aL_bit {n j : Nat} (hj : j < 64) : (aL n).getLsbD j = decide (j < NA n) := by
  unfold aL
  rw [BitVec.getLsbD_ofNat, Nat.testBit_two_pow_sub_one, decide_eq_true hj, Bool.true_and]
theorem ones_bit {j : Nat} (hj : j < 64) : (18446744073709551615#64).getLsbD j = true := by
  have : ∀ j, j < 64 → (18446744073709551615#64).getLsbD j = true := by decide
  exact this j hj
theorem okS_and0 {n : Nat} {s : BitVec 64} : (s &&& (aL n ^^^ 18446744073709551615#64) = 0#64) ↔ okS n s := by
  constructor
  · intro e j hj
    have j64 : j < 64 := BitVec.lt_of_getLsbD hj
    have := congrArg (fun x : BitVec 64 => x.getLsbD j) e
    simp only [BitVec.getLsbD_and, BitVec.getLsbD_xor, BitVec.getLsbD_zero] at this
    rw [hj, aL_bit j64, ones_bit j64, Bool.true_and] at this
    by_cases c : j < NA n
    · exact c
    · rw [decide_eq_false c] at this; exact Bool.noConfusion this
  · intro h
    apply BitVec.eq_of_getLsbD_eq
    intro j hj
    rw [BitVec.getLsbD_and, BitVec.getLsbD_xor, BitVec.getLsbD_zero, aL_bit hj, ones_bit hj]
    cases q : s.getLsbD j with
    | false => rfl
    | true => rw [decide_eq_true (h j q)]; rfl
set_option maxHeartbeats 16000000 in
theorem m_rowOf (d : Nat) {hp : HP} {n : Nat} {s : BitVec 64} (h : MA hp n) (R : PO) : callD (d + 100) 196 [mR 54, mL s] hp R ↔ R (some (mI (roA n s))) hp := by
  have hM := h
  obtain ⟨hK, ⟨g13, g14, g15, g16, g17⟩, -⟩ := h
  have h1 := hK.1.1
  have h6 := hK.1.2
  have g1 := hK.2.1
  have g2 := hK.2.2.2.1
  have a2 := hK.2.2.2.2.2
  have f1 := FC_le n
  have fN := NA_le n
  have N64 : NA n < 64 := by omega
  have n7 : n < 7 := by omega
  have bn : n < 2147483648 := by omega
  have ib : inB (n : Int) FW.length := inB_n n7 (by decide)
  unfold roA
  by_cases c : okS n s
  · have c1 : s >>> NA n = 0#64 := okS_shr.mpr c
    rw [if_pos (okS_and0.mpr c)]
    have key : ∀ (m k : Nat), k + m = FC n → (AWh (d + 99) [] 196 R 11 [some (mR 54), some (mL s), none, some (mI (k : Int))] [] hp (0, 0) ↔ R (some (mI (nuO n (fst (fun i => decide (BitVec.ofNat 64 (dgm n i) = s)) m k)))) hp) := by
      intro m
      induction m with
      | zero =>
        intro k hk
        have e : k = FC n := by omega
        subst e
        rw [AWh_k, k_X11_rowOf_11]
        simp only [AW_k, AWk_1, x_iload_3, x_aload_0, x_aloads_0, x_getf, x_iald, x_ialds, x_icmp_ge, x_callv_2, x_lload_1, x_lcmp, x_if_ne, x_ret, x_ret_i, x_ret_z, x_ret_l, x_ret_c, x_iinc_3, x_goto, x_push_i, x_push_l, unl_i, unl_l, unl_q, unl_r, unl_s, unl_n, k_X11_rowOf_11, k_X11_rowOf_12, k_X11_rowOf_13, k_X11_rowOf_14, k_X11_rowOf_15, k_X11_rowOf_16, k_X11_rowOf_17, k_X11_rowOf_18, k_X11_rowOf_19, k_X11_rowOf_20, k_X11_rowOf_21, k_X11_rowOf_22, k_X11_rowOf_23, k_X11_rowOf_24, k_X11_rowOf_25, k_X11_rowOf_26, k_X11_rowOf_27, k_X11_rowOf_28, k_X11_rowOf_29, k_X11_rowOf_30, k_X11_rowOf_31, k_X11_rowOf_32, k_X11_rowOf_33, oE_some, Int.reduceToNat, Nat.reduceAdd, true_and, and_true, List.length_cons, List.length_nil, Option.toList_some, Option.toList_none, List.cons_append, List.nil_append, Nat.reduceLeDiff, Nat.le_refl, wdS_nil, wdS_i, wdS_l, wdS_r, wdS_n, wdS_s, g1, g2, a2, ib, w32_tn bn, FW_get n7]
        rw [if_neg (Int.lt_irrefl _)]
        all_goals exact Iff.rfl
      | succ m ih =>
        intro k hk
        have hkF : k < FC n := by omega
        have bk : k < 2147483648 := by omega
        have bF := FC_31 n
        have f1 : ((k : Int) < ((FC n : Nat) : Int)) = True := eq_true (by omega)
        have e1 : (k : Int) + 1 = ((k + 1 : Nat) : Int) := by omega
        have hnx := ih (k + 1) (by omega)
        unfold fst
        rw [AWh_k, k_X11_rowOf_11]
        by_cases c2 : BitVec.ofNat 64 (dgm n k) = s
        · rw [decide_eq_true c2, if_pos rfl]
          simp only [AW_k, AWk_1, x_iload_3, x_aload_0, x_aloads_0, x_getf, x_iald, x_ialds, x_icmp_ge, x_callv_2, x_lload_1, x_lcmp, x_if_ne, x_ret, x_ret_i, x_ret_z, x_ret_l, x_ret_c, x_iinc_3, x_goto, unl_i, unl_l, unl_q, unl_r, unl_s, unl_n, k_X11_rowOf_11, k_X11_rowOf_12, k_X11_rowOf_13, k_X11_rowOf_14, k_X11_rowOf_15, k_X11_rowOf_16, k_X11_rowOf_17, k_X11_rowOf_18, k_X11_rowOf_19, k_X11_rowOf_20, k_X11_rowOf_21, k_X11_rowOf_22, k_X11_rowOf_23, k_X11_rowOf_24, k_X11_rowOf_25, k_X11_rowOf_26, k_X11_rowOf_27, k_X11_rowOf_28, k_X11_rowOf_29, k_X11_rowOf_30, k_X11_rowOf_31, oE_some, Int.reduceToNat, Nat.reduceAdd, true_and, and_true, List.length_cons, List.length_nil, Option.toList_some, Option.toList_none, List.cons_append, List.nil_append, Nat.reduceLeDiff, Nat.le_refl, wdS_nil, wdS_i, wdS_l, wdS_r, wdS_n, wdS_s, g1, g2, a2, ib, w32_tn bn, FW_get n7, w32_nat bk, w32_nat bF, f1, cM hK, m_rowBy (d + 97) hK hkF, m_diagramOf (d + 96) hM hkF, lCmp_eq, c2, ↓reduceIte]
          all_goals exact Iff.rfl
        · rw [decide_eq_false c2, if_neg (by decide)]
          simp only [AW_k, AWk_1, x_iload_3, x_aload_0, x_aloads_0, x_getf, x_iald, x_ialds, x_icmp_ge, x_callv_2, x_lload_1, x_lcmp, x_if_ne, x_ret, x_ret_i, x_ret_z, x_ret_l, x_ret_c, x_iinc_3, x_goto, unl_i, unl_l, unl_q, unl_r, unl_s, unl_n, k_X11_rowOf_11, k_X11_rowOf_12, k_X11_rowOf_13, k_X11_rowOf_14, k_X11_rowOf_15, k_X11_rowOf_16, k_X11_rowOf_17, k_X11_rowOf_18, k_X11_rowOf_19, k_X11_rowOf_20, k_X11_rowOf_21, k_X11_rowOf_22, k_X11_rowOf_23, k_X11_rowOf_24, k_X11_rowOf_25, k_X11_rowOf_26, k_X11_rowOf_27, k_X11_rowOf_28, k_X11_rowOf_29, k_X11_rowOf_30, k_X11_rowOf_31, oE_some, Int.reduceToNat, Nat.reduceAdd, true_and, and_true, List.length_cons, List.length_nil, Option.toList_some, Option.toList_none, List.cons_append, List.nil_append, Nat.reduceLeDiff, Nat.le_refl, wdS_nil, wdS_i, wdS_l, wdS_r, wdS_n, wdS_s, g1, g2, a2, ib, w32_tn bn, FW_get n7, w32_nat bk, w32_nat bF, f1, cM hK, m_rowBy (d + 97) hK hkF, m_diagramOf (d + 96) hM hkF, lCmp_eq, c2, e1, ↓reduceIte]
          exact hnx
    rw [callD_k]; simp only [entL_i, entL_l, entL_q, entL_s, entL_nil, n_X11_rowOf, u_X11_rowOf, m_X11_rowOf, rep_1, List.cons_append, List.nil_append, List.append_nil, List.length_cons, List.length_nil, Nat.reduceAdd, true_and]
    simp only [AW_k, AWk_1, x_lload_1, x_aload_0, x_aloads_0, x_getf, x_lushr, x_push_i, x_push_l, x_lcmp, x_if_eq, x_ret, x_ret_i, x_ret_z, x_ret_l, x_ret_c, x_istore_3, x_iload_3, unl_i, unl_l, unl_q, unl_r, unl_s, unl_n, k_X11_rowOf_0, k_X11_rowOf_1, k_X11_rowOf_2, k_X11_rowOf_3, k_X11_rowOf_4, k_X11_rowOf_5, k_X11_rowOf_6, k_X11_rowOf_7, k_X11_rowOf_8, k_X11_rowOf_9, k_X11_rowOf_10, k_X11_rowOf_11, oE_some, Int.reduceToNat, Nat.reduceAdd, true_and, and_true, List.length_cons, List.length_nil, Option.toList_some, Option.toList_none, List.cons_append, List.nil_append, Nat.reduceLeDiff, Nat.le_refl, wdS_nil, wdS_i, wdS_l, wdS_r, wdS_n, wdS_s, g17, sh_k N64, c1, lCmp_eq, ↓reduceIte]
    exact key (FC n) 0 (Nat.zero_add _)
  · have c1 : ¬ s >>> NA n = 0#64 := fun q => c (okS_shr.mp q)
    rw [if_neg (fun q => c (okS_and0.mp q))]
    rw [callD_k]; simp only [entL_i, entL_l, entL_q, entL_s, entL_nil, n_X11_rowOf, u_X11_rowOf, m_X11_rowOf, rep_1, List.cons_append, List.nil_append, List.append_nil, List.length_cons, List.length_nil, Nat.reduceAdd, true_and]
    simp only [AW_k, AWk_1, x_lload_1, x_aload_0, x_aloads_0, x_getf, x_lushr, x_push_i, x_push_l, x_lcmp, x_if_eq, x_ret, x_ret_i, x_ret_z, x_ret_l, x_ret_c, k_X11_rowOf_0, k_X11_rowOf_1, k_X11_rowOf_2, k_X11_rowOf_3, k_X11_rowOf_4, k_X11_rowOf_5, k_X11_rowOf_6, k_X11_rowOf_7, k_X11_rowOf_8, oE_some, Int.reduceToNat, Nat.reduceAdd, true_and, and_true, List.length_cons, List.length_nil, Option.toList_some, Option.toList_none, List.cons_append, List.nil_append, Nat.reduceLeDiff, Nat.le_refl, wdS_nil, wdS_i, wdS_l, wdS_r, wdS_n, wdS_s, g17, sh_k N64, c1, lCmp_eq, ↓reduceIte]
