/-! ===== the class's own methods: makers, the tape ===== -/
/-- the maker that a number tells -/
def mkO (c : Nat) (x : Int) : Option Nat := if 0 ≤ x ∧ x < (c : Int) then some x.toNat else none
theorem mkO_lt {c i : Nat} {x : Int} (h : mkO c x = some i) : i < c ∧ x = (i : Int) := by
  unfold mkO at h
  split at h
  · cases h; omega
  · cases h
theorem has_n (d : Nat) {hp : HP} {a c : Nat} {ks es : List Int} {x : Int} (m : MKS hp a c ks es) (hx : w32 x = x) (hc : c ≤ 6) (h : mkO c x = none) (R : PO) : callD (d + 1) 22 [mR a, mI x] hp R ↔ R (some (mI 0)) hp := by
  have e : (decide (0 ≤ x) && decide (x < (c : Int))) = false := by
    unfold mkO at h
    split at h
    · cases h
    · next q =>
      by_cases c1 : 0 ≤ x
      · rw [decide_eq_true c1, decide_eq_false (by omega)]; rfl
      · rw [decide_eq_false c1]; rfl
  rw [c3_has d m hx hc R, e]; exact Iff.rfl
theorem has_s (d : Nat) {hp : HP} {a c i : Nat} {ks es : List Int} {x : Int} (m : MKS hp a c ks es) (hx : w32 x = x) (hc : c ≤ 6) (h : mkO c x = some i) (R : PO) : callD (d + 1) 22 [mR a, mI x] hp R ↔ R (some (mI 1)) hp := by
  obtain ⟨q1, q2⟩ := mkO_lt h
  have e : (decide (0 ≤ x) && decide (x < (c : Int))) = true := by rw [decide_eq_true (by omega), decide_eq_true (by omega)]; rfl
  rw [c3_has d m hx hc R, e]; exact Iff.rfl
/-- what a maker takes -/
def tkS (n : Nat) (ks es : List Int) (i : Nat) : BitVec 64 := stB (tk n (ks.getD i 0).toNat (es.getD i 0).toNat) (NA n)
def mkT (c : Nat) (k m : Int) : Bool := decide (0 ≤ k ∧ k < 6 ∧ 0 ≤ m ∧ m < 16) && decide (c < 6)
theorem mkOK_add {c : Nat} {ks es : List Int} {k m : Int} (h : mkOK c ks es) (hk : 0 ≤ k ∧ k < 6 ∧ 0 ≤ m ∧ m < 16) (hc : c < 6) : mkOK (c + 1) (ks.set c k) (es.set c m) := by
  obtain ⟨a1, a2, a3, a4⟩ := h
  refine ⟨by rw [List.length_set]; exact a1, by rw [List.length_set]; exact a2, by omega, fun i hi => ?_⟩
  rw [getD_set (by omega), getD_set (by omega)]
  by_cases e : c = i
  · rw [if_pos e, if_pos e]; exact ⟨k.toNat, m.toNat, by omega, by omega, by omega, by omega⟩
  · rw [if_neg e, if_neg e]; exact a4 i (by omega)
set_option maxHeartbeats 16000000 in
theorem x10_maker (d : Nat) {hp : HP} {n : Nat} {G : BitVec 64} {z : Int} {c : Nat} {ks : List Int} {es : List Int} {ik : Bool} {kn : Nat} {kG : BitVec 64} {kz : Int} {kc : Nat} {kks : List Int} {kes : List Int} {tc : Nat} {tb : List Int} {sc : Nat} {tl : List Int} {so : List Int} {le : List Int} {it : Nat → List (BitVec 64)} {he : List Int} {th : List Int} {sl : List Int} {tr : Nat} {bo : List Int} {k m : Int} (hX : XI hp n G z c ks es ik kn kG kz kc kks kes tc tb sc tl so le it he th sl tr bo) (hk : w32 k = k) (hm : w32 m = m) : ∃ h', XI h' n G z (if mkT c k m = true then c + 1 else c) (if mkT c k m = true then ks.set c k else ks) (if mkT c k m = true then es.set c m else es) ik kn kG kz kc kks kes tc tb sc tl so le it he th sl tr bo ∧ Kx hp h' ∧ ∀ R : PO, callD (d + 100) 118 [mR 0, mI k, mI m] hp R ↔ R (some (mI (if 0 ≤ k ∧ k < 6 ∧ 0 ≤ m ∧ m < 16 then (if c < 6 then (c : Int) else -2) else -1))) h' := by
  have hX0 := hX
  obtain ⟨ra, ts, q0, q1, q2, q3, q4, q5, q6, q7, q8, q9, q10, q11, qk⟩ := hX
  have hR := q1.1
  have h1 := rw_1 hR
  have h6 := rw_6 hR
  have f1 := FC_le n
  have cR := rC0 hR
  have cA := rC1 hR
  have o0 : gF hp 0 10 0 = some (mR 1) := XO_F q0 0
  have o1 : gF hp 0 10 1 = some (mR ra) := XO_F q0 1
  have o2 : gF hp 0 10 2 = some (mL G) := XO_F q0 2
  have o3 : gF hp 0 10 3 = some (mI z) := XO_F q0 3
  have o4 : gF hp 0 10 4 = some (mR 2) := XO_F q0 4
  have o5 : gF hp 0 10 5 = some (mR 5) := XO_F q0 5
  have o6 : gF hp 0 10 6 = some (mR 10) := XO_F q0 6
  have o7 : gF hp 0 10 7 = some (mR 14) := XO_F q0 7
  have o8 : gF hp 0 10 8 = some (mR 17) := XO_F q0 8
  have o9 : gF hp 0 10 9 = some (mR 19) := XO_F q0 9
  have o10 : gF hp 0 10 10 = some (mR 27) := XO_F q0 10
  have o11 : gF hp 0 10 11 = some (mR 31) := XO_F q0 11
  have o12 : gF hp 0 10 12 = some (mR 33) := XO_F q0 12
  have o13 : gF hp 0 10 13 = some (mI (zI ik)) := XO_F q0 13
  have o14 : gF hp 0 10 14 = some (mI (kn : Int)) := XO_F q0 14
  have o15 : gF hp 0 10 15 = some (mL kG) := XO_F q0 15
  have o16 : gF hp 0 10 16 = some (mI kz) := XO_F q0 16
  have o17 : gF hp 0 10 17 = some (mR 34) := XO_F q0 17
  have cO := gC_of o0
  have i6 : w32 6 = 6 := rfl
  have i16 : w32 16 = 16 := rfl
  have hc6 := q2.2.2.2.1
  have bc : c < 2147483648 := by omega
  have g20 := q2.1.1.1
  have g21 := q2.1.1.2.1
  by_cases hin : 0 ≤ k ∧ k < 6 ∧ 0 ≤ m ∧ m < 16
  · rw [if_pos hin]
    have n1 : (k < 0) = False := eq_false (by omega)
    have n2 : (k < 6) = True := eq_true (by omega)
    have n3 : (m < 0) = False := eq_false (by omega)
    have n4 : (m < 16) = True := eq_true (by omega)
    by_cases hc : c < 6
    · have et : mkT c k m = true := by unfold mkT; rw [decide_eq_true hin, decide_eq_true hc]; rfl
      rw [if_pos hc, if_pos et, if_pos et, if_pos et]
      obtain ⟨h', u1, u2, u3⟩ := c3_add (d + 98) (k := k) (m := m) q2.1 q2.2.1 q2.2.2.1 hc
      have n5 : ((c : Int) < 6) = True := eq_true (by omega)
      refine ⟨h', XI_M hX0 u2 ⟨u1, mkOK_add q2.2 hin hc⟩, Kx_Fr u2 (by omega), fun R => ?_⟩
      rw [callD_k]; simp only [entL_i, entL_l, entL_q, entL_s, entL_nil, n_X10_maker, u_X10_maker, m_X10_maker, rep_0, List.cons_append, List.nil_append, List.append_nil, List.length_cons, List.length_nil, Nat.reduceAdd, true_and]
      simp only [AW_k, AWk_1, x_iload_1, x_if_lt, x_push_i, x_push_l, x_icmp_ge, x_iload_2, x_icmp_lt, x_ret, x_ret_i, x_ret_z, x_ret_l, x_ret_c, x_aload_0, x_aloads_0, x_getf, x_goto, x_callv_3, k_X10_maker_0, k_X10_maker_1, k_X10_maker_2, k_X10_maker_3, k_X10_maker_4, k_X10_maker_5, k_X10_maker_6, k_X10_maker_7, k_X10_maker_8, k_X10_maker_9, k_X10_maker_10, k_X10_maker_11, k_X10_maker_12, k_X10_maker_13, k_X10_maker_14, k_X10_maker_15, k_X10_maker_16, k_X10_maker_17, k_X10_maker_18, k_X10_maker_19, k_X10_maker_20, k_X10_maker_21, k_X10_maker_22, k_X10_maker_23, k_X10_maker_24, oE_some, Int.reduceToNat, Nat.reduceAdd, true_and, and_true, List.length_cons, List.length_nil, Option.toList_some, Option.toList_none, List.cons_append, List.nil_append, Nat.reduceLeDiff, Nat.le_refl, wdS_nil, wdS_i, wdS_l, wdS_r, wdS_n, wdS_s, hk, hm, i6, i16, w32_nat bc, n1, n2, n3, n4, n5, o4, g20, gC_of g20, u3, ↓reduceIte]
    · have et : mkT c k m = false := by unfold mkT; rw [decide_eq_false hc, Bool.and_false]
      rw [if_neg hc, if_neg (by rw [et]; decide), if_neg (by rw [et]; decide), if_neg (by rw [et]; decide)]
      have n5 : ((c : Int) < 6) = False := eq_false (by omega)
      refine ⟨hp, hX0, Kx_refl hp, fun R => ?_⟩
      rw [callD_k]; simp only [entL_i, entL_l, entL_q, entL_s, entL_nil, n_X10_maker, u_X10_maker, m_X10_maker, rep_0, List.cons_append, List.nil_append, List.append_nil, List.length_cons, List.length_nil, Nat.reduceAdd, true_and]
      simp only [AW_k, AWk_1, x_iload_1, x_if_lt, x_push_i, x_push_l, x_icmp_ge, x_iload_2, x_icmp_lt, x_ret, x_ret_i, x_ret_z, x_ret_l, x_ret_c, x_aload_0, x_aloads_0, x_getf, x_goto, x_callv_3, k_X10_maker_0, k_X10_maker_1, k_X10_maker_2, k_X10_maker_3, k_X10_maker_4, k_X10_maker_5, k_X10_maker_6, k_X10_maker_7, k_X10_maker_8, k_X10_maker_9, k_X10_maker_10, k_X10_maker_11, k_X10_maker_12, k_X10_maker_13, k_X10_maker_14, k_X10_maker_15, k_X10_maker_16, k_X10_maker_17, k_X10_maker_18, k_X10_maker_19, k_X10_maker_20, k_X10_maker_21, k_X10_maker_22, k_X10_maker_23, k_X10_maker_24, oE_some, Int.reduceToNat, Nat.reduceAdd, true_and, and_true, List.length_cons, List.length_nil, Option.toList_some, Option.toList_none, List.cons_append, List.nil_append, Nat.reduceLeDiff, Nat.le_refl, wdS_nil, wdS_i, wdS_l, wdS_r, wdS_n, wdS_s, hk, hm, i6, i16, w32_nat bc, n1, n2, n3, n4, n5, o4, g20, gC_of g20, ↓reduceIte]
  · rw [if_neg hin]
    have et : mkT c k m = false := by unfold mkT; rw [decide_eq_false hin, Bool.false_and]
    rw [if_neg (by rw [et]; decide), if_neg (by rw [et]; decide), if_neg (by rw [et]; decide)]
    refine ⟨hp, hX0, Kx_refl hp, fun R => ?_⟩
    rw [callD_k]; simp only [entL_i, entL_l, entL_q, entL_s, entL_nil, n_X10_maker, u_X10_maker, m_X10_maker, rep_0, List.cons_append, List.nil_append, List.append_nil, List.length_cons, List.length_nil, Nat.reduceAdd, true_and]
    simp only [AW_k, AWk_1, x_iload_1, x_if_lt, x_push_i, x_push_l, x_icmp_ge, x_iload_2, x_icmp_lt, k_X10_maker_0, k_X10_maker_1, k_X10_maker_2, k_X10_maker_3, k_X10_maker_4, k_X10_maker_5, k_X10_maker_6, k_X10_maker_7, k_X10_maker_8, k_X10_maker_9, oE_some, Int.reduceToNat, Nat.reduceAdd, true_and, and_true, List.length_cons, List.length_nil, Option.toList_some, Option.toList_none, List.cons_append, List.nil_append, Nat.reduceLeDiff, Nat.le_refl, wdS_nil, wdS_i, wdS_l, wdS_r, wdS_n, wdS_s, hk, hm, i6, i16]
    by_cases a1 : k < 0
    · rw [if_pos a1]
      simp only [AW_k, AWk_1, x_push_i, x_push_l, x_ret, x_ret_i, x_ret_z, x_ret_l, x_ret_c, k_X10_maker_10, k_X10_maker_11, oE_some, Int.reduceToNat, Nat.reduceAdd, true_and, and_true, List.length_cons, List.length_nil, Option.toList_some, Option.toList_none, List.cons_append, List.nil_append, Nat.reduceLeDiff, Nat.le_refl, wdS_nil, wdS_i, wdS_l, wdS_r, wdS_n, wdS_s]
    · rw [if_neg a1]
      by_cases a2 : k < 6
      · rw [if_pos a2]
        by_cases a3 : m < 0
        · rw [if_pos a3]
          simp only [AW_k, AWk_1, x_push_i, x_push_l, x_ret, x_ret_i, x_ret_z, x_ret_l, x_ret_c, k_X10_maker_10, k_X10_maker_11, oE_some, Int.reduceToNat, Nat.reduceAdd, true_and, and_true, List.length_cons, List.length_nil, Option.toList_some, Option.toList_none, List.cons_append, List.nil_append, Nat.reduceLeDiff, Nat.le_refl, wdS_nil, wdS_i, wdS_l, wdS_r, wdS_n, wdS_s]
        · rw [if_neg a3]
          by_cases a4 : m < 16
          · exact absurd ⟨by omega, a2, by omega, a4⟩ hin
          · rw [if_neg a4]
            simp only [AW_k, AWk_1, x_push_i, x_push_l, x_ret, x_ret_i, x_ret_z, x_ret_l, x_ret_c, k_X10_maker_10, k_X10_maker_11, oE_some, Int.reduceToNat, Nat.reduceAdd, true_and, and_true, List.length_cons, List.length_nil, Option.toList_some, Option.toList_none, List.cons_append, List.nil_append, Nat.reduceLeDiff, Nat.le_refl, wdS_nil, wdS_i, wdS_l, wdS_r, wdS_n, wdS_s]
      · rw [if_neg a2]
        simp only [AW_k, AWk_1, x_push_i, x_push_l, x_ret, x_ret_i, x_ret_z, x_ret_l, x_ret_c, k_X10_maker_10, k_X10_maker_11, oE_some, Int.reduceToNat, Nat.reduceAdd, true_and, and_true, List.length_cons, List.length_nil, Option.toList_some, Option.toList_none, List.cons_append, List.nil_append, Nat.reduceLeDiff, Nat.le_refl, wdS_nil, wdS_i, wdS_l, wdS_r, wdS_n, wdS_s]
set_option maxHeartbeats 16000000 in
theorem x10_takenBy (d : Nat) {hp : HP} {n : Nat} {G : BitVec 64} {z : Int} {c : Nat} {ks : List Int} {es : List Int} {ik : Bool} {kn : Nat} {kG : BitVec 64} {kz : Int} {kc : Nat} {kks : List Int} {kes : List Int} {tc : Nat} {tb : List Int} {sc : Nat} {tl : List Int} {so : List Int} {le : List Int} {it : Nat → List (BitVec 64)} {he : List Int} {th : List Int} {sl : List Int} {tr : Nat} {bo : List Int} {i : Nat} (hX : XI hp n G z c ks es ik kn kG kz kc kks kes tc tb sc tl so le it he th sl tr bo) (hi : i < c) (R : PO) : callD (d + 10) 120 [mR 0, mI (i : Int)] hp R ↔ R (some (mL (tkS n ks es i))) hp := by
  obtain ⟨ra, ts, q0, q1, q2, q3, q4, q5, q6, q7, q8, q9, q10, q11, qk⟩ := hX
  have hR := q1.1
  have h1 := rw_1 hR
  have h6 := rw_6 hR
  have f1 := FC_le n
  have cR := rC0 hR
  have cA := rC1 hR
  have o0 : gF hp 0 10 0 = some (mR 1) := XO_F q0 0
  have o1 : gF hp 0 10 1 = some (mR ra) := XO_F q0 1
  have o2 : gF hp 0 10 2 = some (mL G) := XO_F q0 2
  have o3 : gF hp 0 10 3 = some (mI z) := XO_F q0 3
  have o4 : gF hp 0 10 4 = some (mR 2) := XO_F q0 4
  have o5 : gF hp 0 10 5 = some (mR 5) := XO_F q0 5
  have o6 : gF hp 0 10 6 = some (mR 10) := XO_F q0 6
  have o7 : gF hp 0 10 7 = some (mR 14) := XO_F q0 7
  have o8 : gF hp 0 10 8 = some (mR 17) := XO_F q0 8
  have o9 : gF hp 0 10 9 = some (mR 19) := XO_F q0 9
  have o10 : gF hp 0 10 10 = some (mR 27) := XO_F q0 10
  have o11 : gF hp 0 10 11 = some (mR 31) := XO_F q0 11
  have o12 : gF hp 0 10 12 = some (mR 33) := XO_F q0 12
  have o13 : gF hp 0 10 13 = some (mI (zI ik)) := XO_F q0 13
  have o14 : gF hp 0 10 14 = some (mI (kn : Int)) := XO_F q0 14
  have o15 : gF hp 0 10 15 = some (mL kG) := XO_F q0 15
  have o16 : gF hp 0 10 16 = some (mI kz) := XO_F q0 16
  have o17 : gF hp 0 10 17 = some (mR 34) := XO_F q0 17
  have cO := gC_of o0
  have hc6 := q2.2.2.2.1
  have bi : i < 2147483648 := by omega
  have g20 := q2.1.1.1
  have g21 := q2.1.1.2.1
  have g22 := q2.1.1.2.2
  have a3 := q2.1.2.1
  have a4 := q2.1.2.2
  obtain ⟨k, m, e1, e2, e3, e4⟩ := q2.2.2.2.2 i hi
  have ek : tkS n ks es i = stB (tk n k m) (NA n) := by unfold tkS; rw [e1, e3]; rfl
  have l1 : inB (i : Int) ks.length := by rw [q2.2.1]; exact inB_n (by omega) (by decide)
  have l2 : inB (i : Int) es.length := by rw [q2.2.2.1]; exact inB_n (by omega) (by decide)
  rw [ek]
  rw [callD_k]; simp only [entL_i, entL_l, entL_q, entL_s, entL_nil, n_X10_takenBy, u_X10_takenBy, m_X10_takenBy, rep_0, List.cons_append, List.nil_append, List.append_nil, List.length_cons, List.length_nil, Nat.reduceAdd, true_and]
  simp only [AW_k, AWk_1, x_aload_0, x_aloads_0, x_getf, x_iload_1, x_iald, x_ialds, x_call_3, x_ret, x_ret_i, x_ret_z, x_ret_l, x_ret_c, k_X10_takenBy_0, k_X10_takenBy_1, k_X10_takenBy_2, k_X10_takenBy_3, k_X10_takenBy_4, k_X10_takenBy_5, k_X10_takenBy_6, k_X10_takenBy_7, k_X10_takenBy_8, k_X10_takenBy_9, k_X10_takenBy_10, k_X10_takenBy_11, k_X10_takenBy_12, k_X10_takenBy_13, k_X10_takenBy_14, oE_some, Int.reduceToNat, Nat.reduceAdd, true_and, and_true, List.length_cons, List.length_nil, Option.toList_some, Option.toList_none, List.cons_append, List.nil_append, Nat.reduceLeDiff, Nat.le_refl, wdS_nil, wdS_i, wdS_l, wdS_r, wdS_n, wdS_s, o4, g21, g22, a3, a4, l1, l2, w32_tn bi, e1, e3, o1, rw_arcs hR, c3_takenBy (d + 6) hR e2 e4]
def mkA (n c : Nat) (ks es : List Int) (x w : Int) : Int := match mkO c x with
  | some i => if w = 0 then ks.getD i 0 else if w = 1 then es.getD i 0 else if w = 2 then popI (tkS n ks es i) else -1
  | none => -1
set_option maxHeartbeats 16000000 in
theorem x10_makerIs (d : Nat) {hp : HP} {n : Nat} {G : BitVec 64} {z : Int} {c : Nat} {ks : List Int} {es : List Int} {ik : Bool} {kn : Nat} {kG : BitVec 64} {kz : Int} {kc : Nat} {kks : List Int} {kes : List Int} {tc : Nat} {tb : List Int} {sc : Nat} {tl : List Int} {so : List Int} {le : List Int} {it : Nat → List (BitVec 64)} {he : List Int} {th : List Int} {sl : List Int} {tr : Nat} {bo : List Int} {x w : Int} (hX : XI hp n G z c ks es ik kn kG kz kc kks kes tc tb sc tl so le it he th sl tr bo) (hx : w32 x = x) (hw : w32 w = w) (R : PO) : callD (d + 100) 119 [mR 0, mI x, mI w] hp R ↔ R (some (mI (mkA n c ks es x w))) hp := by
  have hX0 := hX
  obtain ⟨ra, ts, q0, q1, q2, q3, q4, q5, q6, q7, q8, q9, q10, q11, qk⟩ := hX
  have hR := q1.1
  have h1 := rw_1 hR
  have h6 := rw_6 hR
  have f1 := FC_le n
  have cR := rC0 hR
  have cA := rC1 hR
  have o0 : gF hp 0 10 0 = some (mR 1) := XO_F q0 0
  have o1 : gF hp 0 10 1 = some (mR ra) := XO_F q0 1
  have o2 : gF hp 0 10 2 = some (mL G) := XO_F q0 2
  have o3 : gF hp 0 10 3 = some (mI z) := XO_F q0 3
  have o4 : gF hp 0 10 4 = some (mR 2) := XO_F q0 4
  have o5 : gF hp 0 10 5 = some (mR 5) := XO_F q0 5
  have o6 : gF hp 0 10 6 = some (mR 10) := XO_F q0 6
  have o7 : gF hp 0 10 7 = some (mR 14) := XO_F q0 7
  have o8 : gF hp 0 10 8 = some (mR 17) := XO_F q0 8
  have o9 : gF hp 0 10 9 = some (mR 19) := XO_F q0 9
  have o10 : gF hp 0 10 10 = some (mR 27) := XO_F q0 10
  have o11 : gF hp 0 10 11 = some (mR 31) := XO_F q0 11
  have o12 : gF hp 0 10 12 = some (mR 33) := XO_F q0 12
  have o13 : gF hp 0 10 13 = some (mI (zI ik)) := XO_F q0 13
  have o14 : gF hp 0 10 14 = some (mI (kn : Int)) := XO_F q0 14
  have o15 : gF hp 0 10 15 = some (mL kG) := XO_F q0 15
  have o16 : gF hp 0 10 16 = some (mI kz) := XO_F q0 16
  have o17 : gF hp 0 10 17 = some (mR 34) := XO_F q0 17
  have cO := gC_of o0
  have hc6 := q2.2.2.2.1
  have g20 := q2.1.1.1
  have g21 := q2.1.1.2.1
  have g22 := q2.1.1.2.2
  have a3 := q2.1.2.1
  have a4 := q2.1.2.2
  unfold mkA
  cases ex : mkO c x with
  | none =>
    rw [callD_k]; simp only [entL_i, entL_l, entL_q, entL_s, entL_nil, n_X10_makerIs, u_X10_makerIs, m_X10_makerIs, rep_0, List.cons_append, List.nil_append, List.append_nil, List.length_cons, List.length_nil, Nat.reduceAdd, true_and]
    simp only [AW_k, AWk_1, x_aload_0, x_aloads_0, x_getf, x_iload_1, x_callv_2, x_if_ne, x_push_i, x_push_l, x_ret, x_ret_i, x_ret_z, x_ret_l, x_ret_c, x_iload_2, x_switch, AW_sw, AW_sw0, x_iald, x_ialds, x_call_1, k_X10_makerIs_0, k_X10_makerIs_1, k_X10_makerIs_2, k_X10_makerIs_3, k_X10_makerIs_4, k_X10_makerIs_5, k_X10_makerIs_6, k_X10_makerIs_7, k_X10_makerIs_8, k_X10_makerIs_9, k_X10_makerIs_10, k_X10_makerIs_11, k_X10_makerIs_12, k_X10_makerIs_13, k_X10_makerIs_14, k_X10_makerIs_15, k_X10_makerIs_16, k_X10_makerIs_17, k_X10_makerIs_18, k_X10_makerIs_19, k_X10_makerIs_20, k_X10_makerIs_21, k_X10_makerIs_22, k_X10_makerIs_23, k_X10_makerIs_24, k_X10_makerIs_25, k_X10_makerIs_26, k_X10_makerIs_27, oE_some, Int.reduceToNat, Nat.reduceAdd, true_and, and_true, List.length_cons, List.length_nil, Option.toList_some, Option.toList_none, List.cons_append, List.nil_append, Nat.reduceLeDiff, Nat.le_refl, wdS_nil, wdS_i, wdS_l, wdS_r, wdS_n, wdS_s, o4, gC_of g20, has_n (d + 98) q2.1 hx hc6 ex, w00, ↓reduceIte]
  | some i =>
    obtain ⟨hi, ei⟩ := mkO_lt ex
    have hs := has_s (d + 98) q2.1 hx hc6 ex
    subst ei
    have bi : i < 2147483648 := by omega
    have l1 : inB (i : Int) ks.length := by rw [q2.2.1]; exact inB_n (by omega) (by decide)
    have l2 : inB (i : Int) es.length := by rw [q2.2.2.1]; exact inB_n (by omega) (by decide)
    rw [callD_k]; simp only [entL_i, entL_l, entL_q, entL_s, entL_nil, n_X10_makerIs, u_X10_makerIs, m_X10_makerIs, rep_0, List.cons_append, List.nil_append, List.append_nil, List.length_cons, List.length_nil, Nat.reduceAdd, true_and]
    simp only [AW_k, AWk_1, x_aload_0, x_aloads_0, x_getf, x_iload_1, x_callv_2, x_if_ne, x_push_i, x_push_l, x_ret, x_ret_i, x_ret_z, x_ret_l, x_ret_c, x_iload_2, k_X10_makerIs_0, k_X10_makerIs_1, k_X10_makerIs_2, k_X10_makerIs_3, k_X10_makerIs_4, k_X10_makerIs_5, k_X10_makerIs_6, k_X10_makerIs_7, oE_some, Int.reduceToNat, Nat.reduceAdd, true_and, and_true, List.length_cons, List.length_nil, Option.toList_some, Option.toList_none, List.cons_append, List.nil_append, Nat.reduceLeDiff, Nat.le_refl, wdS_nil, wdS_i, wdS_l, wdS_r, wdS_n, wdS_s, o4, gC_of g20, hs, w10, hw, ↓reduceIte]
    by_cases c0 : w = 0
    · rw [if_pos c0]
      simp only [c0, ↓reduceIte]
      simp only [AW_k, AWk_1, x_switch, AW_sw, AW_sw0, x_aload_0, x_aloads_0, x_getf, x_iload_1, x_iald, x_ialds, x_ret, x_ret_i, x_ret_z, x_ret_l, x_ret_c, x_callv_2, x_call_1, x_push_i, x_push_l, k_X10_makerIs_8, k_X10_makerIs_9, k_X10_makerIs_10, k_X10_makerIs_11, k_X10_makerIs_12, k_X10_makerIs_13, k_X10_makerIs_14, k_X10_makerIs_15, k_X10_makerIs_16, k_X10_makerIs_17, k_X10_makerIs_18, k_X10_makerIs_19, k_X10_makerIs_20, k_X10_makerIs_21, k_X10_makerIs_22, k_X10_makerIs_23, k_X10_makerIs_24, k_X10_makerIs_25, k_X10_makerIs_26, k_X10_makerIs_27, oE_some, Int.reduceToNat, Nat.reduceAdd, true_and, and_true, List.length_cons, List.length_nil, Option.toList_some, Option.toList_none, List.cons_append, List.nil_append, Nat.reduceLeDiff, Nat.le_refl, wdS_nil, wdS_i, wdS_l, wdS_r, wdS_n, wdS_s, swT_cons, swT_nil, hw, c0, wz0, wz1, wz2, wz3, wz4, wz5, wz6, Int.reduceEq, ↓reduceIte, o4, g21, a3, l1, w32_tn bi]
    · rw [if_neg c0]
      by_cases c1 : w = 1
      · rw [if_pos c1]
        simp only [c0, c1, ↓reduceIte]
        simp only [AW_k, AWk_1, x_switch, AW_sw, AW_sw0, x_aload_0, x_aloads_0, x_getf, x_iload_1, x_iald, x_ialds, x_ret, x_ret_i, x_ret_z, x_ret_l, x_ret_c, x_callv_2, x_call_1, x_push_i, x_push_l, k_X10_makerIs_8, k_X10_makerIs_9, k_X10_makerIs_10, k_X10_makerIs_11, k_X10_makerIs_12, k_X10_makerIs_13, k_X10_makerIs_14, k_X10_makerIs_15, k_X10_makerIs_16, k_X10_makerIs_17, k_X10_makerIs_18, k_X10_makerIs_19, k_X10_makerIs_20, k_X10_makerIs_21, k_X10_makerIs_22, k_X10_makerIs_23, k_X10_makerIs_24, k_X10_makerIs_25, k_X10_makerIs_26, k_X10_makerIs_27, oE_some, Int.reduceToNat, Nat.reduceAdd, true_and, and_true, List.length_cons, List.length_nil, Option.toList_some, Option.toList_none, List.cons_append, List.nil_append, Nat.reduceLeDiff, Nat.le_refl, wdS_nil, wdS_i, wdS_l, wdS_r, wdS_n, wdS_s, swT_cons, swT_nil, hw, c0, c1, wz0, wz1, wz2, wz3, wz4, wz5, wz6, Int.reduceEq, ↓reduceIte, o4, g22, a4, l2, w32_tn bi]
      · rw [if_neg c1]
        by_cases c2 : w = 2
        · rw [if_pos c2]
          simp only [AW_k, AWk_1, x_switch, AW_sw, AW_sw0, x_aload_0, x_aloads_0, x_getf, x_iload_1, x_iald, x_ialds, x_ret, x_ret_i, x_ret_z, x_ret_l, x_ret_c, x_callv_2, x_call_1, x_push_i, x_push_l, k_X10_makerIs_8, k_X10_makerIs_9, k_X10_makerIs_10, k_X10_makerIs_11, k_X10_makerIs_12, k_X10_makerIs_13, k_X10_makerIs_14, k_X10_makerIs_15, k_X10_makerIs_16, k_X10_makerIs_17, k_X10_makerIs_18, k_X10_makerIs_19, k_X10_makerIs_20, k_X10_makerIs_21, k_X10_makerIs_22, k_X10_makerIs_23, k_X10_makerIs_24, k_X10_makerIs_25, k_X10_makerIs_26, k_X10_makerIs_27, oE_some, Int.reduceToNat, Nat.reduceAdd, true_and, and_true, List.length_cons, List.length_nil, Option.toList_some, Option.toList_none, List.cons_append, List.nil_append, Nat.reduceLeDiff, Nat.le_refl, wdS_nil, wdS_i, wdS_l, wdS_r, wdS_n, wdS_s, swT_cons, swT_nil, hw, c0, c1, c2, wz0, wz1, wz2, wz3, wz4, wz5, wz6, Int.reduceEq, ↓reduceIte, cO, x10_takenBy (d + 89) hX0 hi, c_bits (d + 98)]
        · rw [if_neg c2]
          simp only [AW_k, AWk_1, x_switch, AW_sw, AW_sw0, x_aload_0, x_aloads_0, x_getf, x_iload_1, x_iald, x_ialds, x_ret, x_ret_i, x_ret_z, x_ret_l, x_ret_c, x_callv_2, x_call_1, x_push_i, x_push_l, k_X10_makerIs_8, k_X10_makerIs_9, k_X10_makerIs_10, k_X10_makerIs_11, k_X10_makerIs_12, k_X10_makerIs_13, k_X10_makerIs_14, k_X10_makerIs_15, k_X10_makerIs_16, k_X10_makerIs_17, k_X10_makerIs_18, k_X10_makerIs_19, k_X10_makerIs_20, k_X10_makerIs_21, k_X10_makerIs_22, k_X10_makerIs_23, k_X10_makerIs_24, k_X10_makerIs_25, k_X10_makerIs_26, k_X10_makerIs_27, oE_some, Int.reduceToNat, Nat.reduceAdd, true_and, and_true, List.length_cons, List.length_nil, Option.toList_some, Option.toList_none, List.cons_append, List.nil_append, Nat.reduceLeDiff, Nat.le_refl, wdS_nil, wdS_i, wdS_l, wdS_r, wdS_n, wdS_s, swT_cons, swT_nil, hw, c0, c1, c2, wz0, wz1, wz2, wz3, wz4, wz5, wz6, Int.reduceEq, ↓reduceIte]
def mmG (n : Nat) (G : BitVec 64) (c : Nat) (ks es : List Int) (x w : Int) : BitVec 64 := match mkO c x with
  | some i => if 0 ≤ w ∧ w ≤ 2 then coG n G (tkS n ks es i) w else G
  | none => G
def mmA (n : Nat) (G : BitVec 64) (c : Nat) (ks es : List Int) (x w : Int) : Int := match mkO c x with
  | some _ => if 0 ≤ w ∧ w ≤ 2 then popI (mmG n G c ks es x w) else -1
  | none => -1
set_option maxHeartbeats 16000000 in
theorem x10_make (d : Nat) {hp : HP} {n : Nat} {G : BitVec 64} {z : Int} {c : Nat} {ks : List Int} {es : List Int} {ik : Bool} {kn : Nat} {kG : BitVec 64} {kz : Int} {kc : Nat} {kks : List Int} {kes : List Int} {tc : Nat} {tb : List Int} {sc : Nat} {tl : List Int} {so : List Int} {le : List Int} {it : Nat → List (BitVec 64)} {he : List Int} {th : List Int} {sl : List Int} {tr : Nat} {bo : List Int} {x w : Int} (hX : XI hp n G z c ks es ik kn kG kz kc kks kes tc tb sc tl so le it he th sl tr bo) (hx : w32 x = x) (hw : w32 w = w) : ∃ h', XI h' n (mmG n G c ks es x w) z c ks es ik kn kG kz kc kks kes tc tb sc tl so le it he th sl tr bo ∧ Kx hp h' ∧ ∀ R : PO, callD (d + 100) 121 [mR 0, mI x, mI w] hp R ↔ R (some (mI (mmA n G c ks es x w))) h' := by
  have hX0 := hX
  obtain ⟨ra, ts, q0, q1, q2, q3, q4, q5, q6, q7, q8, q9, q10, q11, qk⟩ := hX
  have hR := q1.1
  have h1 := rw_1 hR
  have h6 := rw_6 hR
  have f1 := FC_le n
  have cR := rC0 hR
  have cA := rC1 hR
  have o0 : gF hp 0 10 0 = some (mR 1) := XO_F q0 0
  have o1 : gF hp 0 10 1 = some (mR ra) := XO_F q0 1
  have o2 : gF hp 0 10 2 = some (mL G) := XO_F q0 2
  have o3 : gF hp 0 10 3 = some (mI z) := XO_F q0 3
  have o4 : gF hp 0 10 4 = some (mR 2) := XO_F q0 4
  have o5 : gF hp 0 10 5 = some (mR 5) := XO_F q0 5
  have o6 : gF hp 0 10 6 = some (mR 10) := XO_F q0 6
  have o7 : gF hp 0 10 7 = some (mR 14) := XO_F q0 7
  have o8 : gF hp 0 10 8 = some (mR 17) := XO_F q0 8
  have o9 : gF hp 0 10 9 = some (mR 19) := XO_F q0 9
  have o10 : gF hp 0 10 10 = some (mR 27) := XO_F q0 10
  have o11 : gF hp 0 10 11 = some (mR 31) := XO_F q0 11
  have o12 : gF hp 0 10 12 = some (mR 33) := XO_F q0 12
  have o13 : gF hp 0 10 13 = some (mI (zI ik)) := XO_F q0 13
  have o14 : gF hp 0 10 14 = some (mI (kn : Int)) := XO_F q0 14
  have o15 : gF hp 0 10 15 = some (mL kG) := XO_F q0 15
  have o16 : gF hp 0 10 16 = some (mI kz) := XO_F q0 16
  have o17 : gF hp 0 10 17 = some (mR 34) := XO_F q0 17
  have cO := gC_of o0
  have hc6 := q2.2.2.2.1
  have g20 := q2.1.1.1
  have i2 : w32 2 = 2 := rfl
  cases ex : mkO c x with
  | none =>
    have e1 : mmG n G c ks es x w = G := by unfold mmG; rw [ex]
    have e2 : mmA n G c ks es x w = -1 := by unfold mmA; rw [ex]
    rw [e1, e2]
    refine ⟨hp, hX0, Kx_refl hp, fun R => ?_⟩
    rw [callD_k]; simp only [entL_i, entL_l, entL_q, entL_s, entL_nil, n_X10_make, u_X10_make, m_X10_make, rep_0, List.cons_append, List.nil_append, List.append_nil, List.length_cons, List.length_nil, Nat.reduceAdd, true_and]
    simp only [AW_k, AWk_1, x_aload_0, x_aloads_0, x_getf, x_iload_1, x_callv_2, x_if_eq, x_iload_2, x_if_lt, x_push_i, x_push_l, x_icmp_le, x_ret, x_ret_i, x_ret_z, x_ret_l, x_ret_c, x_callv_3, k_X10_make_0, k_X10_make_1, k_X10_make_2, k_X10_make_3, k_X10_make_4, k_X10_make_5, k_X10_make_6, k_X10_make_7, k_X10_make_8, k_X10_make_9, k_X10_make_10, k_X10_make_11, k_X10_make_12, k_X10_make_13, k_X10_make_14, k_X10_make_15, k_X10_make_16, k_X10_make_17, k_X10_make_18, oE_some, Int.reduceToNat, Nat.reduceAdd, true_and, and_true, List.length_cons, List.length_nil, Option.toList_some, Option.toList_none, List.cons_append, List.nil_append, Nat.reduceLeDiff, Nat.le_refl, wdS_nil, wdS_i, wdS_l, wdS_r, wdS_n, wdS_s, o4, gC_of g20, has_n (d + 98) q2.1 hx hc6 ex, w00, ↓reduceIte]
  | some i =>
    obtain ⟨hi, ei⟩ := mkO_lt ex
    have hs := has_s (d + 98) q2.1 hx hc6 ex
    by_cases hin : 0 ≤ w ∧ w ≤ 2
    · have e1 : mmG n G c ks es x w = coG n G (tkS n ks es i) w := by unfold mmG; rw [ex]; show (if _ then _ else _) = _; rw [if_pos hin]
      have e2 : mmA n G c ks es x w = popI (coG n G (tkS n ks es i) w) := by unfold mmA; rw [ex, ← e1]; show (if _ then _ else _) = _; rw [if_pos hin]
      rw [e1, e2]
      obtain ⟨h', u1, u2, u3⟩ := x10_come (d + 9) (t := tkS n ks es i) (w := w) hX0 hw
      refine ⟨h', u1, u2, fun R => ?_⟩
      have n1 : (w < 0) = False := eq_false (by omega)
      have n2 : (2 < w) = False := eq_false (by omega)
      subst ei
      rw [callD_k]; simp only [entL_i, entL_l, entL_q, entL_s, entL_nil, n_X10_make, u_X10_make, m_X10_make, rep_0, List.cons_append, List.nil_append, List.append_nil, List.length_cons, List.length_nil, Nat.reduceAdd, true_and]
      simp only [AW_k, AWk_1, x_aload_0, x_aloads_0, x_getf, x_iload_1, x_callv_2, x_if_eq, x_iload_2, x_if_lt, x_push_i, x_push_l, x_icmp_le, x_ret, x_ret_i, x_ret_z, x_ret_l, x_ret_c, x_callv_3, k_X10_make_0, k_X10_make_1, k_X10_make_2, k_X10_make_3, k_X10_make_4, k_X10_make_5, k_X10_make_6, k_X10_make_7, k_X10_make_8, k_X10_make_9, k_X10_make_10, k_X10_make_11, k_X10_make_12, k_X10_make_13, k_X10_make_14, k_X10_make_15, k_X10_make_16, k_X10_make_17, k_X10_make_18, oE_some, Int.reduceToNat, Nat.reduceAdd, true_and, and_true, List.length_cons, List.length_nil, Option.toList_some, Option.toList_none, List.cons_append, List.nil_append, Nat.reduceLeDiff, Nat.le_refl, wdS_nil, wdS_i, wdS_l, wdS_r, wdS_n, wdS_s, o4, gC_of g20, hs, w10, hw, i2, n1, n2, cO, x10_takenBy (d + 89) hX0 hi, u3, ↓reduceIte]
    · have e1 : mmG n G c ks es x w = G := by unfold mmG; rw [ex]; show (if _ then _ else _) = _; rw [if_neg hin]
      have e2 : mmA n G c ks es x w = -1 := by unfold mmA; rw [ex]; show (if _ then _ else _) = _; rw [if_neg hin]
      rw [e1, e2]
      refine ⟨hp, hX0, Kx_refl hp, fun R => ?_⟩
      rw [callD_k]; simp only [entL_i, entL_l, entL_q, entL_s, entL_nil, n_X10_make, u_X10_make, m_X10_make, rep_0, List.cons_append, List.nil_append, List.append_nil, List.length_cons, List.length_nil, Nat.reduceAdd, true_and]
      simp only [AW_k, AWk_1, x_aload_0, x_aloads_0, x_getf, x_iload_1, x_callv_2, x_if_eq, x_iload_2, x_if_lt, x_push_i, x_push_l, x_icmp_le, k_X10_make_0, k_X10_make_1, k_X10_make_2, k_X10_make_3, k_X10_make_4, k_X10_make_5, k_X10_make_6, k_X10_make_7, k_X10_make_8, k_X10_make_9, oE_some, Int.reduceToNat, Nat.reduceAdd, true_and, and_true, List.length_cons, List.length_nil, Option.toList_some, Option.toList_none, List.cons_append, List.nil_append, Nat.reduceLeDiff, Nat.le_refl, wdS_nil, wdS_i, wdS_l, wdS_r, wdS_n, wdS_s, o4, gC_of g20, hs, w10, hw, i2, ↓reduceIte]
      by_cases a1 : w < 0
      · rw [if_pos a1]
        simp only [AW_k, AWk_1, x_push_i, x_push_l, x_ret, x_ret_i, x_ret_z, x_ret_l, x_ret_c, k_X10_make_10, k_X10_make_11, oE_some, Int.reduceToNat, Nat.reduceAdd, true_and, and_true, List.length_cons, List.length_nil, Option.toList_some, Option.toList_none, List.cons_append, List.nil_append, Nat.reduceLeDiff, Nat.le_refl, wdS_nil, wdS_i, wdS_l, wdS_r, wdS_n, wdS_s]
      · rw [if_neg a1, if_pos (by omega)]
        simp only [AW_k, AWk_1, x_push_i, x_push_l, x_ret, x_ret_i, x_ret_z, x_ret_l, x_ret_c, k_X10_make_10, k_X10_make_11, oE_some, Int.reduceToNat, Nat.reduceAdd, true_and, and_true, List.length_cons, List.length_nil, Option.toList_some, Option.toList_none, List.cons_append, List.nil_append, Nat.reduceLeDiff, Nat.le_refl, wdS_nil, wdS_i, wdS_l, wdS_r, wdS_n, wdS_s]
/-- bytes that are fed -/
def fdT (tc : Nat) (x : Int) : Bool := decide (1 ≤ x ∧ x ≤ 8) && decide ((tc : Int) + x ≤ 200)
set_option maxHeartbeats 16000000 in
theorem x10_feed (d : Nat) {hp : HP} {n : Nat} {G : BitVec 64} {z : Int} {c : Nat} {ks : List Int} {es : List Int} {ik : Bool} {kn : Nat} {kG : BitVec 64} {kz : Int} {kc : Nat} {kks : List Int} {kes : List Int} {tc : Nat} {tb : List Int} {sc : Nat} {tl : List Int} {so : List Int} {le : List Int} {it : Nat → List (BitVec 64)} {he : List Int} {th : List Int} {sl : List Int} {tr : Nat} {bo : List Int} {g : BitVec 64} {x : Int} (hX : XI hp n G z c ks es ik kn kG kz kc kks kes tc tb sc tl so le it he th sl tr bo) (hx : w32 x = x) : ∃ h', XI h' n G z c ks es ik kn kG kz kc kks kes (if fdT tc x = true then tc + x.toNat else tc) (if fdT tc x = true then tkB g tc tb x.toNat else tb) sc tl so le it he th sl tr bo ∧ Kx hp h' ∧ ∀ R : PO, callD (d + 100) 123 [mR 0, mL g, mI x] hp R ↔ R (some (mI (if 1 ≤ x ∧ x ≤ 8 then (if (tc : Int) + x ≤ 200 then (tc : Int) + x else -2) else -1))) h' := by
  have hX0 := hX
  obtain ⟨ra, ts, q0, q1, q2, q3, q4, q5, q6, q7, q8, q9, q10, q11, qk⟩ := hX
  have hR := q1.1
  have h1 := rw_1 hR
  have h6 := rw_6 hR
  have f1 := FC_le n
  have cR := rC0 hR
  have cA := rC1 hR
  have o0 : gF hp 0 10 0 = some (mR 1) := XO_F q0 0
  have o1 : gF hp 0 10 1 = some (mR ra) := XO_F q0 1
  have o2 : gF hp 0 10 2 = some (mL G) := XO_F q0 2
  have o3 : gF hp 0 10 3 = some (mI z) := XO_F q0 3
  have o4 : gF hp 0 10 4 = some (mR 2) := XO_F q0 4
  have o5 : gF hp 0 10 5 = some (mR 5) := XO_F q0 5
  have o6 : gF hp 0 10 6 = some (mR 10) := XO_F q0 6
  have o7 : gF hp 0 10 7 = some (mR 14) := XO_F q0 7
  have o8 : gF hp 0 10 8 = some (mR 17) := XO_F q0 8
  have o9 : gF hp 0 10 9 = some (mR 19) := XO_F q0 9
  have o10 : gF hp 0 10 10 = some (mR 27) := XO_F q0 10
  have o11 : gF hp 0 10 11 = some (mR 31) := XO_F q0 11
  have o12 : gF hp 0 10 12 = some (mR 33) := XO_F q0 12
  have o13 : gF hp 0 10 13 = some (mI (zI ik)) := XO_F q0 13
  have o14 : gF hp 0 10 14 = some (mI (kn : Int)) := XO_F q0 14
  have o15 : gF hp 0 10 15 = some (mL kG) := XO_F q0 15
  have o16 : gF hp 0 10 16 = some (mI kz) := XO_F q0 16
  have o17 : gF hp 0 10 17 = some (mR 34) := XO_F q0 17
  have cO := gC_of o0
  have i1 : w32 1 = 1 := rfl
  have i8 : w32 8 = 8 := rfl
  obtain ⟨⟨ft, ws, bg, wo, at_, av, qt, ql⟩, hc, bb, hb⟩ := q3
  have g5 := qt.1.1
  by_cases hin : 1 ≤ x ∧ x ≤ 8
  · obtain ⟨k, ek⟩ : ∃ k : Nat, x = (k : Int) := ⟨x.toNat, by omega⟩
    subst ek
    have hk8 : k ≤ 8 := by omega
    have n1 : ((k : Int) < 1) = False := eq_false (by omega)
    have n2 : (8 < (k : Int)) = False := eq_false (by omega)
    rw [if_pos hin, Int.toNat_natCast]
    have hr := c8_room (d + 98) qt hk8 hc
    by_cases hf : (tc : Int) + (k : Int) ≤ 200
    · have et : fdT tc (k : Int) = true := by unfold fdT; rw [decide_eq_true hin, decide_eq_true hf]; rfl
      have hf2 : tc + k ≤ 200 := by omega
      rw [decide_eq_true hf2] at hr
      rw [if_pos hf, if_pos et, if_pos et]
      obtain ⟨h', u1, u2, u3⟩ := c8_take (d + 98) (g := g) qt hb.1 hk8 hf2
      have ea : (tc : Int) + (k : Int) = ((tc + k : Nat) : Int) := by omega
      refine ⟨h', XI_P hX0 u2 ⟨⟨ft, ws, bg, wo, at_, av, u1, ql⟩, hf2, tkB_ok hb k⟩, Kx_Fr u2 (by omega), fun R => ?_⟩
      rw [callD_k]; simp only [entL_i, entL_l, entL_q, entL_s, entL_nil, n_X10_feed, u_X10_feed, m_X10_feed, rep_0, List.cons_append, List.nil_append, List.append_nil, List.length_cons, List.length_nil, Nat.reduceAdd, true_and]
      simp only [AW_k, AWk_1, x_iload_3, x_push_i, x_push_l, x_icmp_lt, x_icmp_le, x_ret, x_ret_i, x_ret_z, x_ret_l, x_ret_c, x_aload_0, x_aloads_0, x_getf, x_callv_2, x_if_eq, x_lload_1, x_callv_3, x_goto, k_X10_feed_0, k_X10_feed_1, k_X10_feed_2, k_X10_feed_3, k_X10_feed_4, k_X10_feed_5, k_X10_feed_6, k_X10_feed_7, k_X10_feed_8, k_X10_feed_9, k_X10_feed_10, k_X10_feed_11, k_X10_feed_12, k_X10_feed_13, k_X10_feed_14, k_X10_feed_15, k_X10_feed_16, k_X10_feed_17, k_X10_feed_18, k_X10_feed_19, k_X10_feed_20, oE_some, Int.reduceToNat, Nat.reduceAdd, true_and, and_true, List.length_cons, List.length_nil, Option.toList_some, Option.toList_none, List.cons_append, List.nil_append, Nat.reduceLeDiff, Nat.le_refl, wdS_nil, wdS_i, wdS_l, wdS_r, wdS_n, wdS_s, hx, i1, i8, n1, n2, o5, gC_of g5, hr, zI_t, w10, u3, ea, Int.reduceEq, ↓reduceIte]
    · have et : fdT tc (k : Int) = false := by unfold fdT; rw [decide_eq_false hf, Bool.and_false]
      have hf2 : ¬ tc + k ≤ 200 := by omega
      rw [decide_eq_false hf2] at hr
      rw [if_neg hf, if_neg (by rw [et]; decide), if_neg (by rw [et]; decide)]
      refine ⟨hp, hX0, Kx_refl hp, fun R => ?_⟩
      rw [callD_k]; simp only [entL_i, entL_l, entL_q, entL_s, entL_nil, n_X10_feed, u_X10_feed, m_X10_feed, rep_0, List.cons_append, List.nil_append, List.append_nil, List.length_cons, List.length_nil, Nat.reduceAdd, true_and]
      simp only [AW_k, AWk_1, x_iload_3, x_push_i, x_push_l, x_icmp_lt, x_icmp_le, x_ret, x_ret_i, x_ret_z, x_ret_l, x_ret_c, x_aload_0, x_aloads_0, x_getf, x_callv_2, x_if_eq, x_lload_1, x_callv_3, x_goto, k_X10_feed_0, k_X10_feed_1, k_X10_feed_2, k_X10_feed_3, k_X10_feed_4, k_X10_feed_5, k_X10_feed_6, k_X10_feed_7, k_X10_feed_8, k_X10_feed_9, k_X10_feed_10, k_X10_feed_11, k_X10_feed_12, k_X10_feed_13, k_X10_feed_14, k_X10_feed_15, k_X10_feed_16, k_X10_feed_17, k_X10_feed_18, k_X10_feed_19, k_X10_feed_20, oE_some, Int.reduceToNat, Nat.reduceAdd, true_and, and_true, List.length_cons, List.length_nil, Option.toList_some, Option.toList_none, List.cons_append, List.nil_append, Nat.reduceLeDiff, Nat.le_refl, wdS_nil, wdS_i, wdS_l, wdS_r, wdS_n, wdS_s, hx, i1, i8, n1, n2, o5, gC_of g5, hr, zI_f, w00, ↓reduceIte]
  · have et : fdT tc x = false := by unfold fdT; rw [decide_eq_false hin, Bool.false_and]
    rw [if_neg hin, if_neg (by rw [et]; decide), if_neg (by rw [et]; decide)]
    refine ⟨hp, hX0, Kx_refl hp, fun R => ?_⟩
    rw [callD_k]; simp only [entL_i, entL_l, entL_q, entL_s, entL_nil, n_X10_feed, u_X10_feed, m_X10_feed, rep_0, List.cons_append, List.nil_append, List.append_nil, List.length_cons, List.length_nil, Nat.reduceAdd, true_and]
    simp only [AW_k, AWk_1, x_iload_3, x_push_i, x_push_l, x_icmp_lt, x_icmp_le, k_X10_feed_0, k_X10_feed_1, k_X10_feed_2, k_X10_feed_3, k_X10_feed_4, k_X10_feed_5, oE_some, Int.reduceToNat, Nat.reduceAdd, true_and, and_true, List.length_cons, List.length_nil, Option.toList_some, Option.toList_none, List.cons_append, List.nil_append, Nat.reduceLeDiff, Nat.le_refl, wdS_nil, wdS_i, wdS_l, wdS_r, wdS_n, wdS_s, hx, i1, i8]
    by_cases a1 : x < 1
    · rw [if_pos a1]
      simp only [AW_k, AWk_1, x_push_i, x_push_l, x_ret, x_ret_i, x_ret_z, x_ret_l, x_ret_c, k_X10_feed_6, k_X10_feed_7, oE_some, Int.reduceToNat, Nat.reduceAdd, true_and, and_true, List.length_cons, List.length_nil, Option.toList_some, Option.toList_none, List.cons_append, List.nil_append, Nat.reduceLeDiff, Nat.le_refl, wdS_nil, wdS_i, wdS_l, wdS_r, wdS_n, wdS_s]
    · rw [if_neg a1, if_pos (by omega)]
      simp only [AW_k, AWk_1, x_push_i, x_push_l, x_ret, x_ret_i, x_ret_z, x_ret_l, x_ret_c, k_X10_feed_6, k_X10_feed_7, oE_some, Int.reduceToNat, Nat.reduceAdd, true_and, and_true, List.length_cons, List.length_nil, Option.toList_some, Option.toList_none, List.cons_append, List.nil_append, Nat.reduceLeDiff, Nat.le_refl, wdS_nil, wdS_i, wdS_l, wdS_r, wdS_n, wdS_s]
