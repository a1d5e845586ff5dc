/-! ===== the class's own methods: shelves ===== -/
theorem has6_n (d : Nat) {hp : HP} {a : Nat} {x : Int} (hx : w32 x = x) (h : shO x = none) (R : PO) : callD (d + 1) 63 [mR a, mI x] hp R ↔ R (some (mI 0)) hp := by
  have e : (decide (0 ≤ x) && decide (x < 4)) = false := by
    unfold shO at h
    split at h
    · cases h
    · next q =>
      by_cases c1 : 0 ≤ x
      · rw [decide_eq_true c1, decide_eq_false (by omega)]; rfl
      · rw [decide_eq_false c1]; rfl
  rw [c6_has d hx R, e]; exact Iff.rfl
theorem has6_s (d : Nat) {hp : HP} {a i : Nat} {x : Int} (hx : w32 x = x) (h : shO x = some i) (R : PO) : callD (d + 1) 63 [mR a, mI x] hp R ↔ R (some (mI 1)) hp := by
  obtain ⟨q1, q2⟩ := shO_lt h
  have e : (decide (0 ≤ x) && decide (x < 4)) = true := by rw [decide_eq_true (by omega), decide_eq_true (by omega)]; rfl
  rw [c6_has d hx R, e]; exact Iff.rfl
/-- what a shelf is told to hold: where, what, thing, length -/
def svOp (c : Nat) (so le : List Int) (x w k : Int) : Option (Nat × Nat × Int × Int) := match shO x with
  | some s => if w = 0 then (match mkO c k with
    | some _ => some (s, 1, k, 0)
    | none => none) else if w = 1 then (match shO k with
    | some t => some (s, (if so.getD t 0 = -1 then 0 else 2), so.getD t 0, le.getD t 0)
    | none => none) else if w = 2 then some (s, 3, 0, 0) else none
  | none => none
def svHe (c : Nat) (so le he : List Int) (x w k : Int) : List Int := match svOp c so le x w k with
  | some p => he.set p.1 (if p.2.1 = 3 then 0 else (p.2.1 : Int))
  | none => he
def svTh (c : Nat) (so le th : List Int) (x w k : Int) : List Int := match svOp c so le x w k with
  | some p => if p.2.1 = 3 then th else th.set p.1 p.2.2.1
  | none => th
def svLe (c : Nat) (so le sl : List Int) (x w k : Int) : List Int := match svOp c so le x w k with
  | some p => if p.2.1 = 3 ∨ p.2.1 = 1 then sl else sl.set p.1 p.2.2.2
  | none => sl
def svAn (c : Nat) (so le : List Int) (x w k : Int) : Int := match svOp c so le x w k with
  | some _ => 1
  | none => -1
theorem slOK_h {he th sl : List Int} {s : Nat} {v : Int} (h : slOK he th sl) (hv : v = 0 ∨ v = 1 ∨ v = 2) : slOK (he.set s v) th sl := by
  obtain ⟨⟨a1, a2, a3⟩, b⟩ := h
  refine ⟨⟨by rw [List.length_set]; exact a1, a2, a3⟩, fun k hk => ?_⟩
  by_cases c : s < he.length
  · rw [getD_set c]
    by_cases e : s = k
    · rw [if_pos e]; exact ⟨hv, (b k hk).2⟩
    · rw [if_neg e]; exact b k hk
  · rw [List.set_eq_of_length_le (by omega)]; exact b k hk
theorem slOK_t {he th sl : List Int} {s : Nat} {v : Int} (h : slOK he th sl) (hv : -1 ≤ v ∧ v ≤ 40) : slOK he (th.set s v) sl := by
  obtain ⟨⟨a1, a2, a3⟩, b⟩ := h
  refine ⟨⟨a1, by rw [List.length_set]; exact a2, a3⟩, fun k hk => ?_⟩
  by_cases c : s < th.length
  · rw [getD_set c]
    by_cases e : s = k
    · rw [if_pos e]; exact ⟨(b k hk).1, hv.1, hv.2, (b k hk).2.2.2⟩
    · rw [if_neg e]; exact b k hk
  · rw [List.set_eq_of_length_le (by omega)]; exact b k hk
theorem slOK_l {he th sl : List Int} {s : Nat} {v : Int} (h : slOK he th sl) (hv : 0 ≤ v ∧ v ≤ 40) : slOK he th (sl.set s v) := by
  obtain ⟨⟨a1, a2, a3⟩, b⟩ := h
  refine ⟨⟨a1, a2, by rw [List.length_set]; exact a3⟩, fun k hk => ?_⟩
  by_cases c : s < sl.length
  · rw [getD_set c]
    by_cases e : s = k
    · rw [if_pos e]; exact ⟨(b k hk).1, (b k hk).2.1, (b k hk).2.2.1, hv⟩
    · rw [if_neg e]; exact b k hk
  · rw [List.set_eq_of_length_le (by omega)]; exact b k hk
set_option maxHeartbeats 16000000 in
theorem x10_shelf (d : Nat) {hp : HP} {n : Nat} {G : BitVec 64} {z : Int} {c : Nat} {ks : List Int} {es : List Int} {ik : Bool} {kn : Nat} {kG : BitVec 64} {kz : Int} {kc : Nat} {kks : List Int} {kes : List Int} {tc : Nat} {tb : List Int} {sc : Nat} {tl : List Int} {so : List Int} {le : List Int} {it : Nat → List (BitVec 64)} {he : List Int} {th : List Int} {sl : List Int} {tr : Nat} {bo : List Int} {x w k : Int} (hX : XI hp n G z c ks es ik kn kG kz kc kks kes tc tb sc tl so le it he th sl tr bo) (hx : w32 x = x) (hw : w32 w = w) (hk : w32 k = k) : ∃ h', XI h' n G z c ks es ik kn kG kz kc kks kes tc tb sc tl so le it (svHe c so le he x w k) (svTh c so le th x w k) (svLe c so le sl x w k) tr bo ∧ Kx hp h' ∧ ∀ R : PO, callD (d + 100) 149 [mR 0, mI x, mI w, mI k] hp R ↔ R (some (mI (svAn c so le x w k))) h' := by
  have hX0 := hX
  obtain ⟨ra, ts, q0, q1, q2, q3, q4, q5, q6, q7, q8, q9, q10, q11, qk⟩ := hX
  have hR := q1.1
  have h1 := rw_1 hR
  have h6 := rw_6 hR
  have f1 := FC_le n
  have cR := rC0 hR
  have cA := rC1 hR
  have o0 : gF hp 0 10 0 = some (mR 1) := XO_F q0 0
  have o1 : gF hp 0 10 1 = some (mR ra) := XO_F q0 1
  have o2 : gF hp 0 10 2 = some (mL G) := XO_F q0 2
  have o3 : gF hp 0 10 3 = some (mI z) := XO_F q0 3
  have o4 : gF hp 0 10 4 = some (mR 2) := XO_F q0 4
  have o5 : gF hp 0 10 5 = some (mR 5) := XO_F q0 5
  have o6 : gF hp 0 10 6 = some (mR 10) := XO_F q0 6
  have o7 : gF hp 0 10 7 = some (mR 14) := XO_F q0 7
  have o8 : gF hp 0 10 8 = some (mR 17) := XO_F q0 8
  have o9 : gF hp 0 10 9 = some (mR 19) := XO_F q0 9
  have o10 : gF hp 0 10 10 = some (mR 27) := XO_F q0 10
  have o11 : gF hp 0 10 11 = some (mR 31) := XO_F q0 11
  have o12 : gF hp 0 10 12 = some (mR 33) := XO_F q0 12
  have o13 : gF hp 0 10 13 = some (mI (zI ik)) := XO_F q0 13
  have o14 : gF hp 0 10 14 = some (mI (kn : Int)) := XO_F q0 14
  have o15 : gF hp 0 10 15 = some (mL kG) := XO_F q0 15
  have o16 : gF hp 0 10 16 = some (mI kz) := XO_F q0 16
  have o17 : gF hp 0 10 17 = some (mR 34) := XO_F q0 17
  have cO := gC_of o0
  have c19 := gC_of q7.1.1.1
  have g0 : gF hp 19 5 0 = some (mR 20) := q7.1.1.1
  have g1 : gF hp 19 5 1 = some (mR 21) := q7.1.1.2.1
  have g2 : gF hp 19 5 2 = some (mR 22) := q7.1.1.2.2
  have a0 : gA hp 20 = some so := q7.1.2.1
  have a1 : gA hp 21 = some le := q7.1.2.2.1
  have gq : gQ hp 22 1 = some [some 23, some 24, some 25, some 26] := q7.1.2.2.2.1
  have gj : ∀ s, s < 4 → gJ hp (23 + s) = some (it s) := q7.1.2.2.2.2
  have gl : ∀ s, s < 4 → (it s).length = 40 := q7.2.2.2.1
  have lso : so.length = 4 := q7.2.1
  have lle : le.length = 4 := q7.2.2.1
  have i1 : w32 1 = 1 := rfl
  have im1 : w32 (-1) = -1 := rfl
  have i3 : w32 3 = 3 := rfl
  have i40 : w32 40 = 40 := rfl
  have c27 := gC_of q8.1.1.1
  have c2 := gC_of q2.1.1.1
  have hc6 := q2.2.2.2.1
  have lh := q8.2.1.1
  have lt := q8.2.1.2.1
  have ll := q8.2.1.2.2
  have no : ∀ R : PO, svOp c so le x w k = none → ((callD (d + 100) 149 [mR 0, mI x, mI w, mI k] hp R ↔ R (some (mI (-1))) hp) → (callD (d + 100) 149 [mR 0, mI x, mI w, mI k] hp R ↔ R (some (mI (svAn c so le x w k))) hp)) := by
    intro R e q
    unfold svAn
    rw [e]
    exact q
  have noX : svOp c so le x w k = none → XI hp n G z c ks es ik kn kG kz kc kks kes tc tb sc tl so le it (svHe c so le he x w k) (svTh c so le th x w k) (svLe c so le sl x w k) tr bo := by
    intro e
    unfold svHe svTh svLe
    rw [e]
    exact hX0
  cases ex : shO x with
  | none =>
    have e : svOp c so le x w k = none := by unfold svOp; rw [ex]
    refine ⟨hp, noX e, Kx_refl hp, fun R => no R e ?_⟩
    rw [callD_k]; simp only [entL_i, entL_l, entL_q, entL_s, entL_nil, n_X10_shelf, u_X10_shelf, m_X10_shelf, rep_0, List.cons_append, List.nil_append, List.append_nil, List.length_cons, List.length_nil, Nat.reduceAdd, true_and]
    simp only [AW_k, AWk_1, x_aload_0, x_aloads_0, x_getf, x_iload_1, x_callv_2, x_if_ne, x_push_i, x_push_l, x_ret, x_ret_i, x_ret_z, x_ret_l, x_ret_c, k_X10_shelf_0, k_X10_shelf_1, k_X10_shelf_2, k_X10_shelf_3, k_X10_shelf_4, k_X10_shelf_5, k_X10_shelf_6, oE_some, Int.reduceToNat, Nat.reduceAdd, true_and, and_true, List.length_cons, List.length_nil, Option.toList_some, Option.toList_none, List.cons_append, List.nil_append, Nat.reduceLeDiff, Nat.le_refl, wdS_nil, wdS_i, wdS_l, wdS_r, wdS_n, wdS_s, o10, c27, has6_n (d + 98) hx ex, w00, ↓reduceIte]
  | some s =>
    obtain ⟨hs, es'⟩ := shO_lt ex
    have hh := fun R => has6_s (d + 98) (hp := hp) (a := 27) hx ex R
    by_cases w0 : w = 0
    · cases ek : mkO c k with
      | none =>
        have e : svOp c so le x w k = none := by unfold svOp; rw [ex]; show (if w = 0 then _ else _) = _; rw [if_pos w0, ek]
        refine ⟨hp, noX e, Kx_refl hp, fun R => no R e ?_⟩
        rw [callD_k]; simp only [entL_i, entL_l, entL_q, entL_s, entL_nil, n_X10_shelf, u_X10_shelf, m_X10_shelf, rep_0, List.cons_append, List.nil_append, List.append_nil, List.length_cons, List.length_nil, Nat.reduceAdd, true_and]
        simp only [AW_k, AWk_1, x_aload_0, x_aloads_0, x_getf, x_iload_1, x_callv_2, x_if_ne, x_push_i, x_push_l, x_ret, x_ret_i, x_ret_z, x_ret_l, x_ret_c, x_iload_2, x_switch, AW_sw, AW_sw0, x_iload_3, x_if_eq, x_callv_3, x_goto, x_iald, x_ialds, x_callv_4, k_X10_shelf_0, k_X10_shelf_1, k_X10_shelf_2, k_X10_shelf_3, k_X10_shelf_4, k_X10_shelf_5, k_X10_shelf_6, k_X10_shelf_7, k_X10_shelf_8, k_X10_shelf_9, k_X10_shelf_10, k_X10_shelf_11, k_X10_shelf_12, k_X10_shelf_13, k_X10_shelf_14, k_X10_shelf_15, k_X10_shelf_16, k_X10_shelf_17, k_X10_shelf_18, k_X10_shelf_19, k_X10_shelf_20, k_X10_shelf_21, k_X10_shelf_22, k_X10_shelf_23, k_X10_shelf_24, k_X10_shelf_25, k_X10_shelf_26, k_X10_shelf_27, k_X10_shelf_28, k_X10_shelf_29, k_X10_shelf_30, k_X10_shelf_31, k_X10_shelf_32, k_X10_shelf_33, k_X10_shelf_34, k_X10_shelf_35, k_X10_shelf_36, k_X10_shelf_37, k_X10_shelf_38, k_X10_shelf_39, k_X10_shelf_40, k_X10_shelf_41, k_X10_shelf_42, k_X10_shelf_43, k_X10_shelf_44, k_X10_shelf_45, k_X10_shelf_46, k_X10_shelf_47, k_X10_shelf_48, k_X10_shelf_49, k_X10_shelf_50, oE_some, Int.reduceToNat, Nat.reduceAdd, true_and, and_true, List.length_cons, List.length_nil, Option.toList_some, Option.toList_none, List.cons_append, List.nil_append, Nat.reduceLeDiff, Nat.le_refl, wdS_nil, wdS_i, wdS_l, wdS_r, wdS_n, wdS_s, o10, c27, hh, w10, i1, hw, w0, wz0, Int.reduceEq, swT_cons, swT_nil, o4, c2, has_n (d + 98) q2.1 hk hc6 ek, ↓reduceIte]
      | some t =>
        obtain ⟨k1, k2⟩ := mkO_lt ek
        have e : svOp c so le x w k = some (s, 1, k, 0) := by unfold svOp; rw [ex]; show (if w = 0 then _ else _) = _; rw [if_pos w0, ek]
        have kb : -1 ≤ k ∧ k ≤ 40 := by omega
        obtain ⟨h', u1, u2, u3⟩ := c6_holdMaker (d + 98) (n := k) q8.1 lh lt hs
        unfold svHe svTh svLe svAn
        rw [e]
        refine ⟨h', XI_V hX0 u2 ⟨u1, slOK_t (v := k) (slOK_h q8.2 (Or.inr (Or.inl rfl))) kb⟩, Kx_Fr u2 (by omega), fun R => ?_⟩
        subst es'
        rw [callD_k]; simp only [entL_i, entL_l, entL_q, entL_s, entL_nil, n_X10_shelf, u_X10_shelf, m_X10_shelf, rep_0, List.cons_append, List.nil_append, List.append_nil, List.length_cons, List.length_nil, Nat.reduceAdd, true_and]
        simp only [AW_k, AWk_1, x_aload_0, x_aloads_0, x_getf, x_iload_1, x_callv_2, x_if_ne, x_push_i, x_push_l, x_ret, x_ret_i, x_ret_z, x_ret_l, x_ret_c, x_iload_2, x_switch, AW_sw, AW_sw0, x_iload_3, x_if_eq, x_callv_3, x_goto, x_iald, x_ialds, x_callv_4, k_X10_shelf_0, k_X10_shelf_1, k_X10_shelf_2, k_X10_shelf_3, k_X10_shelf_4, k_X10_shelf_5, k_X10_shelf_6, k_X10_shelf_7, k_X10_shelf_8, k_X10_shelf_9, k_X10_shelf_10, k_X10_shelf_11, k_X10_shelf_12, k_X10_shelf_13, k_X10_shelf_14, k_X10_shelf_15, k_X10_shelf_16, k_X10_shelf_17, k_X10_shelf_18, k_X10_shelf_19, k_X10_shelf_20, k_X10_shelf_21, k_X10_shelf_22, k_X10_shelf_23, k_X10_shelf_24, k_X10_shelf_25, k_X10_shelf_26, k_X10_shelf_27, k_X10_shelf_28, k_X10_shelf_29, k_X10_shelf_30, k_X10_shelf_31, k_X10_shelf_32, k_X10_shelf_33, k_X10_shelf_34, k_X10_shelf_35, k_X10_shelf_36, k_X10_shelf_37, k_X10_shelf_38, k_X10_shelf_39, k_X10_shelf_40, k_X10_shelf_41, k_X10_shelf_42, k_X10_shelf_43, k_X10_shelf_44, k_X10_shelf_45, k_X10_shelf_46, k_X10_shelf_47, k_X10_shelf_48, k_X10_shelf_49, k_X10_shelf_50, oE_some, Int.reduceToNat, Nat.reduceAdd, true_and, and_true, List.length_cons, List.length_nil, Option.toList_some, Option.toList_none, List.cons_append, List.nil_append, Nat.reduceLeDiff, Nat.le_refl, wdS_nil, wdS_i, wdS_l, wdS_r, wdS_n, wdS_s, o10, c27, hh, w10, i1, hw, w0, wz0, Int.reduceEq, swT_cons, swT_nil, o4, c2, has_s (d + 98) q2.1 hk hc6 ek, u3, ↓reduceIte]
    · by_cases w1 : w = 1
      · cases ek : shO k with
        | none =>
          have e : svOp c so le x w k = none := by unfold svOp; rw [ex]; show (if w = 0 then _ else _) = _; rw [if_neg w0, if_pos w1, ek]
          refine ⟨hp, noX e, Kx_refl hp, fun R => no R e ?_⟩
          rw [callD_k]; simp only [entL_i, entL_l, entL_q, entL_s, entL_nil, n_X10_shelf, u_X10_shelf, m_X10_shelf, rep_0, List.cons_append, List.nil_append, List.append_nil, List.length_cons, List.length_nil, Nat.reduceAdd, true_and]
          simp only [AW_k, AWk_1, x_aload_0, x_aloads_0, x_getf, x_iload_1, x_callv_2, x_if_ne, x_push_i, x_push_l, x_ret, x_ret_i, x_ret_z, x_ret_l, x_ret_c, x_iload_2, x_switch, AW_sw, AW_sw0, x_iload_3, x_if_eq, x_callv_3, x_goto, x_iald, x_ialds, x_callv_4, k_X10_shelf_0, k_X10_shelf_1, k_X10_shelf_2, k_X10_shelf_3, k_X10_shelf_4, k_X10_shelf_5, k_X10_shelf_6, k_X10_shelf_7, k_X10_shelf_8, k_X10_shelf_9, k_X10_shelf_10, k_X10_shelf_11, k_X10_shelf_12, k_X10_shelf_13, k_X10_shelf_14, k_X10_shelf_15, k_X10_shelf_16, k_X10_shelf_17, k_X10_shelf_18, k_X10_shelf_19, k_X10_shelf_20, k_X10_shelf_21, k_X10_shelf_22, k_X10_shelf_23, k_X10_shelf_24, k_X10_shelf_25, k_X10_shelf_26, k_X10_shelf_27, k_X10_shelf_28, k_X10_shelf_29, k_X10_shelf_30, k_X10_shelf_31, k_X10_shelf_32, k_X10_shelf_33, k_X10_shelf_34, k_X10_shelf_35, k_X10_shelf_36, k_X10_shelf_37, k_X10_shelf_38, k_X10_shelf_39, k_X10_shelf_40, k_X10_shelf_41, k_X10_shelf_42, k_X10_shelf_43, k_X10_shelf_44, k_X10_shelf_45, k_X10_shelf_46, k_X10_shelf_47, k_X10_shelf_48, k_X10_shelf_49, k_X10_shelf_50, oE_some, Int.reduceToNat, Nat.reduceAdd, true_and, and_true, List.length_cons, List.length_nil, Option.toList_some, Option.toList_none, List.cons_append, List.nil_append, Nat.reduceLeDiff, Nat.le_refl, wdS_nil, wdS_i, wdS_l, wdS_r, wdS_n, wdS_s, o10, c27, hh, w10, i1, hw, w1, Int.reduceEq, swT_cons, swT_nil, o9, c19, has5_n (d + 98) hk ek, w00, wz0, ↓reduceIte]
        | some t =>
          obtain ⟨k1, k2⟩ := shO_lt ek
          have e : svOp c so le x w k = some (s, (if so.getD t 0 = -1 then 0 else 2), so.getD t 0, le.getD t 0) := by unfold svOp; rw [ex]; show (if w = 0 then _ else _) = _; rw [if_neg w0, if_pos w1, ek]
          obtain ⟨L, l1, l2, l3, l4⟩ := q7.2.2.2.2 t k1
          have bt : t < 2147483648 := by omega
          have iso : inB (t : Int) so.length := by rw [lso]; exact inB_n k1 (by decide)
          have ile : inB (t : Int) le.length := by rw [lle]; exact inB_n k1 (by decide)
          have vso : -1 ≤ so.getD t 0 ∧ so.getD t 0 ≤ 40 := by omega
          have vle : 0 ≤ le.getD t 0 ∧ le.getD t 0 ≤ 40 := by omega
          have wso : w32 (so.getD t 0) = so.getD t 0 := w32_id (by omega) (by omega)
          obtain ⟨h', u1, u2, u3⟩ := c6_holdRow (d + 98) (s := so.getD t 0) (n := le.getD t 0) q8.1 lh lt ll hs wso
          have es1 : svHe c so le he x w k = he.set s (if so.getD t 0 = -1 then 0 else 2) := by
            unfold svHe
            rw [e]
            show he.set s (if (if so.getD t 0 = -1 then 0 else 2) = 3 then 0 else (((if so.getD t 0 = -1 then 0 else 2) : Nat) : Int)) = _
            by_cases q : so.getD t 0 = -1
            · rw [if_pos q, if_pos q]; rfl
            · rw [if_neg q, if_neg q]; rfl
          have es2 : svTh c so le th x w k = th.set s (so.getD t 0) := by
            unfold svTh
            rw [e]
            show (if (if so.getD t 0 = -1 then 0 else 2) = 3 then th else th.set s (so.getD t 0)) = _
            rw [if_neg (by split <;> decide)]
          have es3 : svLe c so le sl x w k = sl.set s (le.getD t 0) := by
            unfold svLe
            rw [e]
            show (if (if so.getD t 0 = -1 then 0 else 2) = 3 ∨ (if so.getD t 0 = -1 then 0 else 2) = 1 then sl else sl.set s (le.getD t 0)) = _
            rw [if_neg (by split <;> decide)]
          have es4 : svAn c so le x w k = 1 := by unfold svAn; rw [e]
          rw [es1, es2, es3, es4]
          refine ⟨h', XI_V hX0 u2 ⟨u1, slOK_l (slOK_t (slOK_h q8.2 (by split; exact Or.inl rfl; exact Or.inr (Or.inr rfl))) vso) vle⟩, Kx_Fr u2 (by omega), fun R => ?_⟩
          subst es'
          have hkn := fun R => has5_s (d + 98) (hp := hp) (a := 19) hk ek R
          subst k2
          rw [callD_k]; simp only [entL_i, entL_l, entL_q, entL_s, entL_nil, n_X10_shelf, u_X10_shelf, m_X10_shelf, rep_0, List.cons_append, List.nil_append, List.append_nil, List.length_cons, List.length_nil, Nat.reduceAdd, true_and]
          simp only [AW_k, AWk_1, x_aload_0, x_aloads_0, x_getf, x_iload_1, x_callv_2, x_if_ne, x_push_i, x_push_l, x_ret, x_ret_i, x_ret_z, x_ret_l, x_ret_c, x_iload_2, x_switch, AW_sw, AW_sw0, x_iload_3, x_if_eq, x_callv_3, x_goto, x_iald, x_ialds, x_callv_4, k_X10_shelf_0, k_X10_shelf_1, k_X10_shelf_2, k_X10_shelf_3, k_X10_shelf_4, k_X10_shelf_5, k_X10_shelf_6, k_X10_shelf_7, k_X10_shelf_8, k_X10_shelf_9, k_X10_shelf_10, k_X10_shelf_11, k_X10_shelf_12, k_X10_shelf_13, k_X10_shelf_14, k_X10_shelf_15, k_X10_shelf_16, k_X10_shelf_17, k_X10_shelf_18, k_X10_shelf_19, k_X10_shelf_20, k_X10_shelf_21, k_X10_shelf_22, k_X10_shelf_23, k_X10_shelf_24, k_X10_shelf_25, k_X10_shelf_26, k_X10_shelf_27, k_X10_shelf_28, k_X10_shelf_29, k_X10_shelf_30, k_X10_shelf_31, k_X10_shelf_32, k_X10_shelf_33, k_X10_shelf_34, k_X10_shelf_35, k_X10_shelf_36, k_X10_shelf_37, k_X10_shelf_38, k_X10_shelf_39, k_X10_shelf_40, k_X10_shelf_41, k_X10_shelf_42, k_X10_shelf_43, k_X10_shelf_44, k_X10_shelf_45, k_X10_shelf_46, k_X10_shelf_47, k_X10_shelf_48, k_X10_shelf_49, k_X10_shelf_50, oE_some, Int.reduceToNat, Nat.reduceAdd, true_and, and_true, List.length_cons, List.length_nil, Option.toList_some, Option.toList_none, List.cons_append, List.nil_append, Nat.reduceLeDiff, Nat.le_refl, wdS_nil, wdS_i, wdS_l, wdS_r, wdS_n, wdS_s, o10, c27, hh, w10, i1, hw, w1, Int.reduceEq, swT_cons, swT_nil, o9, c19, hkn, g0, a0, g1, a1, iso, ile, w32_tn bt, u3, ↓reduceIte]
      · by_cases w2 : w = 2
        · have e : svOp c so le x w k = some (s, 3, 0, 0) := by unfold svOp; rw [ex]; show (if w = 0 then _ else _) = _; rw [if_neg w0, if_neg w1, if_pos w2]
          obtain ⟨h', u1, u2, u3⟩ := c6_holdNothing (d + 98) q8.1 lh hs
          unfold svHe svTh svLe svAn
          rw [e]
          refine ⟨h', XI_V hX0 u2 ⟨u1, slOK_h q8.2 (Or.inl rfl)⟩, Kx_Fr u2 (by omega), fun R => ?_⟩
          subst es'
          rw [callD_k]; simp only [entL_i, entL_l, entL_q, entL_s, entL_nil, n_X10_shelf, u_X10_shelf, m_X10_shelf, rep_0, List.cons_append, List.nil_append, List.append_nil, List.length_cons, List.length_nil, Nat.reduceAdd, true_and]
          simp only [AW_k, AWk_1, x_aload_0, x_aloads_0, x_getf, x_iload_1, x_callv_2, x_if_ne, x_push_i, x_push_l, x_ret, x_ret_i, x_ret_z, x_ret_l, x_ret_c, x_iload_2, x_switch, AW_sw, AW_sw0, x_iload_3, x_if_eq, x_callv_3, x_goto, x_iald, x_ialds, x_callv_4, k_X10_shelf_0, k_X10_shelf_1, k_X10_shelf_2, k_X10_shelf_3, k_X10_shelf_4, k_X10_shelf_5, k_X10_shelf_6, k_X10_shelf_7, k_X10_shelf_8, k_X10_shelf_9, k_X10_shelf_10, k_X10_shelf_11, k_X10_shelf_12, k_X10_shelf_13, k_X10_shelf_14, k_X10_shelf_15, k_X10_shelf_16, k_X10_shelf_17, k_X10_shelf_18, k_X10_shelf_19, k_X10_shelf_20, k_X10_shelf_21, k_X10_shelf_22, k_X10_shelf_23, k_X10_shelf_24, k_X10_shelf_25, k_X10_shelf_26, k_X10_shelf_27, k_X10_shelf_28, k_X10_shelf_29, k_X10_shelf_30, k_X10_shelf_31, k_X10_shelf_32, k_X10_shelf_33, k_X10_shelf_34, k_X10_shelf_35, k_X10_shelf_36, k_X10_shelf_37, k_X10_shelf_38, k_X10_shelf_39, k_X10_shelf_40, k_X10_shelf_41, k_X10_shelf_42, k_X10_shelf_43, k_X10_shelf_44, k_X10_shelf_45, k_X10_shelf_46, k_X10_shelf_47, k_X10_shelf_48, k_X10_shelf_49, k_X10_shelf_50, oE_some, Int.reduceToNat, Nat.reduceAdd, true_and, and_true, List.length_cons, List.length_nil, Option.toList_some, Option.toList_none, List.cons_append, List.nil_append, Nat.reduceLeDiff, Nat.le_refl, wdS_nil, wdS_i, wdS_l, wdS_r, wdS_n, wdS_s, o10, c27, hh, w10, i1, hw, w2, wz2, Int.reduceEq, swT_cons, swT_nil, u3, ↓reduceIte]
        · have e : svOp c so le x w k = none := by unfold svOp; rw [ex]; show (if w = 0 then _ else _) = _; rw [if_neg w0, if_neg w1, if_neg w2]
          refine ⟨hp, noX e, Kx_refl hp, fun R => no R e ?_⟩
          rw [callD_k]; simp only [entL_i, entL_l, entL_q, entL_s, entL_nil, n_X10_shelf, u_X10_shelf, m_X10_shelf, rep_0, List.cons_append, List.nil_append, List.append_nil, List.length_cons, List.length_nil, Nat.reduceAdd, true_and]
          simp only [AW_k, AWk_1, x_aload_0, x_aloads_0, x_getf, x_iload_1, x_callv_2, x_if_ne, x_push_i, x_push_l, x_ret, x_ret_i, x_ret_z, x_ret_l, x_ret_c, x_iload_2, x_switch, AW_sw, AW_sw0, x_iload_3, x_if_eq, x_callv_3, x_goto, x_iald, x_ialds, x_callv_4, k_X10_shelf_0, k_X10_shelf_1, k_X10_shelf_2, k_X10_shelf_3, k_X10_shelf_4, k_X10_shelf_5, k_X10_shelf_6, k_X10_shelf_7, k_X10_shelf_8, k_X10_shelf_9, k_X10_shelf_10, k_X10_shelf_11, k_X10_shelf_12, k_X10_shelf_13, k_X10_shelf_14, k_X10_shelf_15, k_X10_shelf_16, k_X10_shelf_17, k_X10_shelf_18, k_X10_shelf_19, k_X10_shelf_20, k_X10_shelf_21, k_X10_shelf_22, k_X10_shelf_23, k_X10_shelf_24, k_X10_shelf_25, k_X10_shelf_26, k_X10_shelf_27, k_X10_shelf_28, k_X10_shelf_29, k_X10_shelf_30, k_X10_shelf_31, k_X10_shelf_32, k_X10_shelf_33, k_X10_shelf_34, k_X10_shelf_35, k_X10_shelf_36, k_X10_shelf_37, k_X10_shelf_38, k_X10_shelf_39, k_X10_shelf_40, k_X10_shelf_41, k_X10_shelf_42, k_X10_shelf_43, k_X10_shelf_44, k_X10_shelf_45, k_X10_shelf_46, k_X10_shelf_47, k_X10_shelf_48, k_X10_shelf_49, k_X10_shelf_50, oE_some, Int.reduceToNat, Nat.reduceAdd, true_and, and_true, List.length_cons, List.length_nil, Option.toList_some, Option.toList_none, List.cons_append, List.nil_append, Nat.reduceLeDiff, Nat.le_refl, wdS_nil, wdS_i, wdS_l, wdS_r, wdS_n, wdS_s, o10, c27, hh, w10, i1, hw, w0, w1, w2, Int.reduceEq, swT_cons, swT_nil, ↓reduceIte]
/-- what a shelf holds now -/
def hoV (c : Nat) (he th : List Int) (s : Nat) : Int := if he.getD s 0 = 1 then (match mkO c (th.getD s 0) with
  | some _ => 1
  | none => 0) else he.getD s 0
set_option maxHeartbeats 16000000 in
theorem x10_heldOn (d : Nat) {hp : HP} {n : Nat} {G : BitVec 64} {z : Int} {c : Nat} {ks : List Int} {es : List Int} {ik : Bool} {kn : Nat} {kG : BitVec 64} {kz : Int} {kc : Nat} {kks : List Int} {kes : List Int} {tc : Nat} {tb : List Int} {sc : Nat} {tl : List Int} {so : List Int} {le : List Int} {it : Nat → List (BitVec 64)} {he : List Int} {th : List Int} {sl : List Int} {tr : Nat} {bo : List Int} {s : Nat} (hX : XI hp n G z c ks es ik kn kG kz kc kks kes tc tb sc tl so le it he th sl tr bo) (hs : s < 4) (R : PO) : callD (d + 10) 150 [mR 0, mI (s : Int)] hp R ↔ R (some (mI (hoV c he th s))) hp := by
  obtain ⟨ra, ts, q0, q1, q2, q3, q4, q5, q6, q7, q8, q9, q10, q11, qk⟩ := hX
  have hR := q1.1
  have h1 := rw_1 hR
  have h6 := rw_6 hR
  have f1 := FC_le n
  have cR := rC0 hR
  have cA := rC1 hR
  have o0 : gF hp 0 10 0 = some (mR 1) := XO_F q0 0
  have o1 : gF hp 0 10 1 = some (mR ra) := XO_F q0 1
  have o2 : gF hp 0 10 2 = some (mL G) := XO_F q0 2
  have o3 : gF hp 0 10 3 = some (mI z) := XO_F q0 3
  have o4 : gF hp 0 10 4 = some (mR 2) := XO_F q0 4
  have o5 : gF hp 0 10 5 = some (mR 5) := XO_F q0 5
  have o6 : gF hp 0 10 6 = some (mR 10) := XO_F q0 6
  have o7 : gF hp 0 10 7 = some (mR 14) := XO_F q0 7
  have o8 : gF hp 0 10 8 = some (mR 17) := XO_F q0 8
  have o9 : gF hp 0 10 9 = some (mR 19) := XO_F q0 9
  have o10 : gF hp 0 10 10 = some (mR 27) := XO_F q0 10
  have o11 : gF hp 0 10 11 = some (mR 31) := XO_F q0 11
  have o12 : gF hp 0 10 12 = some (mR 33) := XO_F q0 12
  have o13 : gF hp 0 10 13 = some (mI (zI ik)) := XO_F q0 13
  have o14 : gF hp 0 10 14 = some (mI (kn : Int)) := XO_F q0 14
  have o15 : gF hp 0 10 15 = some (mL kG) := XO_F q0 15
  have o16 : gF hp 0 10 16 = some (mI kz) := XO_F q0 16
  have o17 : gF hp 0 10 17 = some (mR 34) := XO_F q0 17
  have cO := gC_of o0
  have i1 : w32 1 = 1 := rfl
  have c2 := gC_of q2.1.1.1
  have hc6 := q2.2.2.2.1
  have g0 : gF hp 27 6 0 = some (mR 28) := q8.1.1.1
  have g1 : gF hp 27 6 1 = some (mR 29) := q8.1.1.2.1
  have a0 : gA hp 28 = some he := q8.1.2.1
  have a1 : gA hp 29 = some th := q8.1.2.2.1
  have bs : s < 2147483648 := by omega
  have ih : inB (s : Int) he.length := by rw [q8.2.1.1]; exact inB_n hs (by decide)
  have it' : inB (s : Int) th.length := by rw [q8.2.1.2.1]; exact inB_n hs (by decide)
  obtain ⟨v1, v2, v3, -⟩ := q8.2.2 s hs
  have wt : w32 (th.getD s 0) = th.getD s 0 := w32_id (by omega) (by omega)
  have wh : w32 (he.getD s 0) = he.getD s 0 := w32_id (by omega) (by omega)
  unfold hoV
  by_cases c1 : he.getD s 0 = 1
  · rw [if_pos c1]
    cases ek : mkO c (th.getD s 0) with
    | none =>
      rw [callD_k]; simp only [entL_i, entL_l, entL_q, entL_s, entL_nil, n_X10_heldOn, u_X10_heldOn, m_X10_heldOn, rep_1, List.cons_append, List.nil_append, List.append_nil, List.length_cons, List.length_nil, Nat.reduceAdd, true_and]
      simp only [AW_k, AWk_1, x_aload_0, x_aloads_0, x_getf, x_iload_1, x_iald, x_ialds, x_push_i, x_push_l, x_icmp_ne, x_callv_2, x_if_ne, x_goto, x_istore_2, x_iload_2, x_if_eq, x_ret, x_ret_i, x_ret_z, x_ret_l, x_ret_c, unl_i, unl_l, unl_q, unl_r, unl_s, unl_n, k_X10_heldOn_0, k_X10_heldOn_1, k_X10_heldOn_2, k_X10_heldOn_3, k_X10_heldOn_4, k_X10_heldOn_5, k_X10_heldOn_6, k_X10_heldOn_7, k_X10_heldOn_8, k_X10_heldOn_9, k_X10_heldOn_10, k_X10_heldOn_11, k_X10_heldOn_12, k_X10_heldOn_13, k_X10_heldOn_14, k_X10_heldOn_15, k_X10_heldOn_16, k_X10_heldOn_17, k_X10_heldOn_18, k_X10_heldOn_19, k_X10_heldOn_20, k_X10_heldOn_21, k_X10_heldOn_22, k_X10_heldOn_23, k_X10_heldOn_24, k_X10_heldOn_25, k_X10_heldOn_26, k_X10_heldOn_27, k_X10_heldOn_28, k_X10_heldOn_29, oE_some, Int.reduceToNat, Nat.reduceAdd, true_and, and_true, List.length_cons, List.length_nil, Option.toList_some, Option.toList_none, List.cons_append, List.nil_append, Nat.reduceLeDiff, Nat.le_refl, wdS_nil, wdS_i, wdS_l, wdS_r, wdS_n, wdS_s, o10, g0, a0, ih, w32_tn bs, wh, c1, i1, o4, g1, a1, it', c2, has_n (d + 8) q2.1 wt hc6 ek, w00, w10, wz0, Int.reduceEq, ↓reduceIte]
    | some t =>
      rw [callD_k]; simp only [entL_i, entL_l, entL_q, entL_s, entL_nil, n_X10_heldOn, u_X10_heldOn, m_X10_heldOn, rep_1, List.cons_append, List.nil_append, List.append_nil, List.length_cons, List.length_nil, Nat.reduceAdd, true_and]
      simp only [AW_k, AWk_1, x_aload_0, x_aloads_0, x_getf, x_iload_1, x_iald, x_ialds, x_push_i, x_push_l, x_icmp_ne, x_callv_2, x_if_ne, x_goto, x_istore_2, x_iload_2, x_if_eq, x_ret, x_ret_i, x_ret_z, x_ret_l, x_ret_c, unl_i, unl_l, unl_q, unl_r, unl_s, unl_n, k_X10_heldOn_0, k_X10_heldOn_1, k_X10_heldOn_2, k_X10_heldOn_3, k_X10_heldOn_4, k_X10_heldOn_5, k_X10_heldOn_6, k_X10_heldOn_7, k_X10_heldOn_8, k_X10_heldOn_9, k_X10_heldOn_10, k_X10_heldOn_11, k_X10_heldOn_12, k_X10_heldOn_13, k_X10_heldOn_14, k_X10_heldOn_15, k_X10_heldOn_16, k_X10_heldOn_17, k_X10_heldOn_18, k_X10_heldOn_19, k_X10_heldOn_20, k_X10_heldOn_21, k_X10_heldOn_22, k_X10_heldOn_23, k_X10_heldOn_24, k_X10_heldOn_25, k_X10_heldOn_26, k_X10_heldOn_27, k_X10_heldOn_28, k_X10_heldOn_29, oE_some, Int.reduceToNat, Nat.reduceAdd, true_and, and_true, List.length_cons, List.length_nil, Option.toList_some, Option.toList_none, List.cons_append, List.nil_append, Nat.reduceLeDiff, Nat.le_refl, wdS_nil, wdS_i, wdS_l, wdS_r, wdS_n, wdS_s, o10, g0, a0, ih, w32_tn bs, wh, c1, i1, o4, g1, a1, it', c2, has_s (d + 8) q2.1 wt hc6 ek, w00, w10, wz0, Int.reduceEq, ↓reduceIte]
  · rw [if_neg c1]
    rw [callD_k]; simp only [entL_i, entL_l, entL_q, entL_s, entL_nil, n_X10_heldOn, u_X10_heldOn, m_X10_heldOn, rep_1, List.cons_append, List.nil_append, List.append_nil, List.length_cons, List.length_nil, Nat.reduceAdd, true_and]
    simp only [AW_k, AWk_1, x_aload_0, x_aloads_0, x_getf, x_iload_1, x_iald, x_ialds, x_push_i, x_push_l, x_icmp_ne, x_callv_2, x_if_ne, x_goto, x_istore_2, x_iload_2, x_if_eq, x_ret, x_ret_i, x_ret_z, x_ret_l, x_ret_c, unl_i, unl_l, unl_q, unl_r, unl_s, unl_n, k_X10_heldOn_0, k_X10_heldOn_1, k_X10_heldOn_2, k_X10_heldOn_3, k_X10_heldOn_4, k_X10_heldOn_5, k_X10_heldOn_6, k_X10_heldOn_7, k_X10_heldOn_8, k_X10_heldOn_9, k_X10_heldOn_10, k_X10_heldOn_11, k_X10_heldOn_12, k_X10_heldOn_13, k_X10_heldOn_14, k_X10_heldOn_15, k_X10_heldOn_16, k_X10_heldOn_17, k_X10_heldOn_18, k_X10_heldOn_19, k_X10_heldOn_20, k_X10_heldOn_21, k_X10_heldOn_22, k_X10_heldOn_23, k_X10_heldOn_24, k_X10_heldOn_25, k_X10_heldOn_26, k_X10_heldOn_27, k_X10_heldOn_28, k_X10_heldOn_29, oE_some, Int.reduceToNat, Nat.reduceAdd, true_and, and_true, List.length_cons, List.length_nil, Option.toList_some, Option.toList_none, List.cons_append, List.nil_append, Nat.reduceLeDiff, Nat.le_refl, wdS_nil, wdS_i, wdS_l, wdS_r, wdS_n, wdS_s, o10, g0, a0, ih, w32_tn bs, wh, c1, i1, w00, wz0, ↓reduceIte]
