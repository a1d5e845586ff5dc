/-! ===== the class's own methods: jumps, arcs ===== -/
theorem jmR_ok {n : Nat} (h1 : 1 ≤ n) (h6 : n ≤ 6) : ∀ k i p j, i < FC n → jmR n k i p = some j → j < FC n := by
  intro k
  induction k with
  | zero => intro i p j hi h; cases h; exact hi
  | succ k ih =>
    intro i p j hi h
    unfold jmR at h
    split at h
    · next q e => exact ih q (p + 1) j (psR_ok h1 h6 hi e).1 h
    · cases h
theorem jmL_ok {n : Nat} (h1 : 1 ≤ n) (h6 : n ≤ 6) : ∀ k i p j, i < FC n → p < n → jmL n k i p = some j → j < FC n := by
  intro k
  induction k with
  | zero => intro i p j hi _ h; cases h; exact hi
  | succ k ih =>
    intro i p j hi hp h
    unfold jmL at h
    split at h
    · next q e => exact ih q (p - 1) j (psL_ok h1 h6 hi hp e).1 (by omega) h
    · cases h
/-- a number or none -/
def nuO (n : Nat) (o : Option Nat) : Int := match o with
  | some j => ((num n j : Nat) : Int)
  | none => -3
/-- a jump of v that far -/
def jmW (n i v : Nat) (w : Int) : Option Nat := if 0 ≤ w then jmR n w.toNat i (plc n i v) else jmL n (-w).toNat i (plc n i v)
theorem jmW_ok {n i v j : Nat} {w : Int} (h1 : 1 ≤ n) (h6 : n ≤ 6) (hi : i < FC n) (h : jmW n i v w = some j) : j < FC n := by
  unfold jmW at h
  split at h
  · exact jmR_ok h1 h6 _ _ _ _ hi h
  · exact jmL_ok h1 h6 _ _ _ _ hi (plc_lt h1) h
def jmA (n : Nat) (v w : Int) (i : Nat) : Int := if 1 ≤ v ∧ v ≤ (n : Int) then (if -(n : Int) < w ∧ w < (n : Int) then nuO n (jmW n i v.toNat w) else -3) else -1
set_option maxHeartbeats 16000000 in
theorem x10_jump (d : Nat) {hp : HP} {n : Nat} {G : BitVec 64} {z : Int} {c : Nat} {ks : List Int} {es : List Int} {ik : Bool} {kn : Nat} {kG : BitVec 64} {kz : Int} {kc : Nat} {kks : List Int} {kes : List Int} {tc : Nat} {tb : List Int} {sc : Nat} {tl : List Int} {so : List Int} {le : List Int} {it : Nat → List (BitVec 64)} {he : List Int} {th : List Int} {sl : List Int} {tr : Nat} {bo : List Int} {x v w : Int} (hX : XI hp n G z c ks es ik kn kG kz kc kks kes tc tb sc tl so le it he th sl tr bo) (hx : w32 x = x) (hv : w32 v = v) (hw : w32 w = w) (R : PO) : callD (d + 100) 107 [mR 0, mI x, mI v, mI w] hp R ↔ R (some (mI (an1 n x (jmA n v w)))) hp := by
  obtain ⟨ra, ts, q0, q1, q2, q3, q4, q5, q6, q7, q8, q9, q10, q11, qk⟩ := hX
  have hR := q1.1
  have h1 := rw_1 hR
  have h6 := rw_6 hR
  have f1 := FC_le n
  have cR := rC0 hR
  have cA := rC1 hR
  have o0 : gF hp 0 10 0 = some (mR 1) := XO_F q0 0
  have o1 : gF hp 0 10 1 = some (mR ra) := XO_F q0 1
  have o2 : gF hp 0 10 2 = some (mL G) := XO_F q0 2
  have o3 : gF hp 0 10 3 = some (mI z) := XO_F q0 3
  have o4 : gF hp 0 10 4 = some (mR 2) := XO_F q0 4
  have o5 : gF hp 0 10 5 = some (mR 5) := XO_F q0 5
  have o6 : gF hp 0 10 6 = some (mR 10) := XO_F q0 6
  have o7 : gF hp 0 10 7 = some (mR 14) := XO_F q0 7
  have o8 : gF hp 0 10 8 = some (mR 17) := XO_F q0 8
  have o9 : gF hp 0 10 9 = some (mR 19) := XO_F q0 9
  have o10 : gF hp 0 10 10 = some (mR 27) := XO_F q0 10
  have o11 : gF hp 0 10 11 = some (mR 31) := XO_F q0 11
  have o12 : gF hp 0 10 12 = some (mR 33) := XO_F q0 12
  have o13 : gF hp 0 10 13 = some (mI (zI ik)) := XO_F q0 13
  have o14 : gF hp 0 10 14 = some (mI (kn : Int)) := XO_F q0 14
  have o15 : gF hp 0 10 15 = some (mL kG) := XO_F q0 15
  have o16 : gF hp 0 10 16 = some (mI kz) := XO_F q0 16
  have o17 : gF hp 0 10 17 = some (mR 34) := XO_F q0 17
  have cO := gC_of o0
  have i1 : w32 1 = 1 := rfl
  cases ex : ixo n x with
  | none =>
    rw [an1_n ex]
    rw [callD_k]; simp only [entL_i, entL_l, entL_q, entL_s, entL_nil, n_X10_jump, u_X10_jump, m_X10_jump, rep_2, List.cons_append, List.nil_append, List.append_nil, List.length_cons, List.length_nil, Nat.reduceAdd, true_and]
    simp only [AW_k, AWk_1, x_aload_0, x_aloads_0, x_getf, x_iload_1, x_callv_2, x_istore_4, x_iload_4, x_if_lt, x_iload_2, x_push_i, x_push_l, x_icmp_lt, x_icmp_le, x_ret, x_ret_i, x_ret_z, x_ret_l, x_ret_c, x_iload_3, x_ineg, x_callv_4, x_istore_5, x_iload_5, x_if_ge, x_goto, x_iald, x_ialds, unl_i, unl_l, unl_q, unl_r, unl_s, unl_n, k_X10_jump_0, k_X10_jump_1, k_X10_jump_2, k_X10_jump_3, k_X10_jump_4, k_X10_jump_5, k_X10_jump_6, k_X10_jump_7, k_X10_jump_8, k_X10_jump_9, k_X10_jump_10, k_X10_jump_11, k_X10_jump_12, k_X10_jump_13, k_X10_jump_14, k_X10_jump_15, k_X10_jump_16, k_X10_jump_17, k_X10_jump_18, k_X10_jump_19, k_X10_jump_20, k_X10_jump_21, k_X10_jump_22, k_X10_jump_23, k_X10_jump_24, k_X10_jump_25, k_X10_jump_26, k_X10_jump_27, k_X10_jump_28, k_X10_jump_29, k_X10_jump_30, k_X10_jump_31, k_X10_jump_32, k_X10_jump_33, k_X10_jump_34, k_X10_jump_35, k_X10_jump_36, k_X10_jump_37, k_X10_jump_38, k_X10_jump_39, k_X10_jump_40, k_X10_jump_41, k_X10_jump_42, k_X10_jump_43, k_X10_jump_44, k_X10_jump_45, k_X10_jump_46, oE_some, Int.reduceToNat, Nat.reduceAdd, true_and, and_true, List.length_cons, List.length_nil, Option.toList_some, Option.toList_none, List.cons_append, List.nil_append, Nat.reduceLeDiff, Nat.le_refl, wdS_nil, wdS_i, wdS_l, wdS_r, wdS_n, wdS_s, o1, cR, find_n (d + 98) hR hx ex, wN, ↓reduceIte]
  | some i =>
    have hi := ixo_lt ex
    have bi : i < 2147483648 := by omega
    have bn : n < 2147483648 := by omega
    have en : w32 (-(n : Int)) = -(n : Int) := w32_id (by omega) (by omega)
    rw [an1_s ex]
    unfold jmA
    rw [callD_k]; simp only [entL_i, entL_l, entL_q, entL_s, entL_nil, n_X10_jump, u_X10_jump, m_X10_jump, rep_2, List.cons_append, List.nil_append, List.append_nil, List.length_cons, List.length_nil, Nat.reduceAdd, true_and]
    simp only [AW_k, AWk_1, x_aload_0, x_aloads_0, x_getf, x_iload_1, x_callv_2, x_istore_4, x_iload_4, x_if_lt, x_iload_2, x_push_i, x_push_l, x_icmp_lt, x_icmp_le, unl_i, unl_l, unl_q, unl_r, unl_s, unl_n, k_X10_jump_0, k_X10_jump_1, k_X10_jump_2, k_X10_jump_3, k_X10_jump_4, k_X10_jump_5, k_X10_jump_6, k_X10_jump_7, k_X10_jump_8, k_X10_jump_9, k_X10_jump_10, k_X10_jump_11, k_X10_jump_12, k_X10_jump_13, k_X10_jump_14, oE_some, Int.reduceToNat, Nat.reduceAdd, true_and, and_true, List.length_cons, List.length_nil, Option.toList_some, Option.toList_none, List.cons_append, List.nil_append, Nat.reduceLeDiff, Nat.le_refl, wdS_nil, wdS_i, wdS_l, wdS_r, wdS_n, wdS_s, o1, cR, rw_n hR, find_s (d + 98) hR hx ex, wI bi, hv, i1, w32_nat bn, ↓reduceIte]
    by_cases c1 : v < 1
    · rw [if_pos c1, if_neg (by omega)]
      simp only [AW_k, AWk_1, x_push_i, x_push_l, x_ret, x_ret_i, x_ret_z, x_ret_l, x_ret_c, k_X10_jump_15, k_X10_jump_16, oE_some, Int.reduceToNat, Nat.reduceAdd, true_and, and_true, List.length_cons, List.length_nil, Option.toList_some, Option.toList_none, List.cons_append, List.nil_append, Nat.reduceLeDiff, Nat.le_refl, wdS_nil, wdS_i, wdS_l, wdS_r, wdS_n, wdS_s]
    · rw [if_neg c1]
      by_cases c2 : (n : Int) < v
      · rw [if_pos c2, if_neg (by omega)]
        simp only [AW_k, AWk_1, x_push_i, x_push_l, x_ret, x_ret_i, x_ret_z, x_ret_l, x_ret_c, k_X10_jump_15, k_X10_jump_16, oE_some, Int.reduceToNat, Nat.reduceAdd, true_and, and_true, List.length_cons, List.length_nil, Option.toList_some, Option.toList_none, List.cons_append, List.nil_append, Nat.reduceLeDiff, Nat.le_refl, wdS_nil, wdS_i, wdS_l, wdS_r, wdS_n, wdS_s]
      · rw [if_neg c2, if_pos ⟨by omega, by omega⟩]
        simp only [AW_k, AWk_1, x_iload_3, x_aload_0, x_aloads_0, x_getf, x_ineg, x_icmp_le, x_icmp_lt, x_push_i, x_push_l, x_ret, x_ret_i, x_ret_z, x_ret_l, x_ret_c, k_X10_jump_17, k_X10_jump_18, k_X10_jump_19, k_X10_jump_20, k_X10_jump_21, k_X10_jump_22, k_X10_jump_23, k_X10_jump_24, k_X10_jump_25, k_X10_jump_26, k_X10_jump_27, k_X10_jump_28, k_X10_jump_29, oE_some, Int.reduceToNat, Nat.reduceAdd, true_and, and_true, List.length_cons, List.length_nil, Option.toList_some, Option.toList_none, List.cons_append, List.nil_append, Nat.reduceLeDiff, Nat.le_refl, wdS_nil, wdS_i, wdS_l, wdS_r, wdS_n, wdS_s, o1, rw_n hR, hw, en, w32_nat bn]
        by_cases c3 : -(n : Int) < w
        · rw [if_pos c3]
          by_cases c4 : w < (n : Int)
          · rw [if_pos c4, if_pos ⟨c3, c4⟩]
            obtain ⟨v2, ev⟩ : ∃ v2 : Nat, v = (v2 : Int) := ⟨v.toNat, by omega⟩
            subst ev
            have bv : v2 < 2147483648 := by omega
            rw [Int.toNat_natCast]
            have cj : ∀ R : PO, callD (d + 99) 43 [mR ra, mI (i : Int), mI (v2 : Int), mI w] hp R ↔ R (some (mI (oI (jmW n i v2 w)))) hp := by
              intro R
              unfold jmW
              by_cases c5 : 0 ≤ w
              · rw [if_pos c5]
                obtain ⟨k, ek⟩ : ∃ k : Nat, w = (k : Int) := ⟨w.toNat, by omega⟩
                subst ek
                rw [Int.toNat_natCast]
                exact c4_jumpedR (d + 96) hR hi bv (by omega) (by omega) R
              · rw [if_neg c5]
                obtain ⟨k, ek⟩ : ∃ k : Nat, w = -(k : Int) := ⟨(-w).toNat, by omega⟩
                subst ek
                rw [show (-(-(k : Int))).toNat = k by omega]
                exact c4_jumpedL (d + 96) hR hi bv (by omega) (by omega) R
            simp only [AW_k, AWk_1, x_aload_0, x_aloads_0, x_getf, x_iload_4, x_iload_2, x_iload_3, x_callv_4, x_istore_5, x_iload_5, x_if_ge, unl_i, unl_l, unl_q, unl_r, unl_s, unl_n, k_X10_jump_30, k_X10_jump_31, k_X10_jump_32, k_X10_jump_33, k_X10_jump_34, k_X10_jump_35, k_X10_jump_36, k_X10_jump_37, k_X10_jump_38, oE_some, Int.reduceToNat, Nat.reduceAdd, true_and, and_true, List.length_cons, List.length_nil, Option.toList_some, Option.toList_none, List.cons_append, List.nil_append, Nat.reduceLeDiff, Nat.le_refl, wdS_nil, wdS_i, wdS_l, wdS_r, wdS_n, wdS_s, o1, cR, cj]
            cases ej : jmW n i v2 w with
            | none =>
              rw [show oI (none : Option Nat) = -1 from rfl]
              simp only [AW_k, AWk_1, x_if_ge, x_push_i, x_push_l, x_goto, x_aload_0, x_aloads_0, x_getf, x_iload_5, x_iald, x_ialds, x_ret, x_ret_i, x_ret_z, x_ret_l, x_ret_c, k_X10_jump_38, k_X10_jump_39, k_X10_jump_40, k_X10_jump_41, k_X10_jump_42, k_X10_jump_43, k_X10_jump_44, k_X10_jump_45, k_X10_jump_46, oE_some, Int.reduceToNat, Nat.reduceAdd, true_and, and_true, List.length_cons, List.length_nil, Option.toList_some, Option.toList_none, List.cons_append, List.nil_append, Nat.reduceLeDiff, Nat.le_refl, wdS_nil, wdS_i, wdS_l, wdS_r, wdS_n, wdS_s, wN, ↓reduceIte]
              exact Iff.rfl
            | some j =>
              have hj := jmW_ok h1 h6 hi ej
              have bj : j < 2147483648 := by omega
              rw [show oI (some j) = (j : Int) from rfl]
              simp only [AW_k, AWk_1, x_if_ge, x_push_i, x_push_l, x_goto, x_aload_0, x_aloads_0, x_getf, x_iload_5, x_iald, x_ialds, x_ret, x_ret_i, x_ret_z, x_ret_l, x_ret_c, k_X10_jump_38, k_X10_jump_39, k_X10_jump_40, k_X10_jump_41, k_X10_jump_42, k_X10_jump_43, k_X10_jump_44, k_X10_jump_45, k_X10_jump_46, oE_some, Int.reduceToNat, Nat.reduceAdd, true_and, and_true, List.length_cons, List.length_nil, Option.toList_some, Option.toList_none, List.cons_append, List.nil_append, Nat.reduceLeDiff, Nat.le_refl, wdS_nil, wdS_i, wdS_l, wdS_r, wdS_n, wdS_s, wI bj, o1, rw_nums hR, rA_10 hR, bI rfl hj (FC_31 n), gI rfl hj (FC_31 n), ↓reduceIte]
              exact Iff.rfl
          · rw [if_neg c4, if_neg (fun q => c4 q.2)]
        · rw [if_neg c3, if_neg (fun q => c3 q.1)]
/-- the arc that a number tells -/
def axo (n : Nat) (x : Int) : Option Nat := if 0 ≤ x ∧ x < ((NA n : Nat) : Int) then some x.toNat else none
theorem axo_lt {n a : Nat} {x : Int} (h : axo n x = some a) : a < NA n ∧ x = (a : Int) := by
  unfold axo at h
  split at h
  · cases h; omega
  · cases h
def aa1 (n : Nat) (x : Int) (f : Nat → Int) : Int := match axo n x with
  | some a => f a
  | none => -1
theorem aa1_n {n : Nat} {x : Int} {f : Nat → Int} (h : axo n x = none) : aa1 n x f = -1 := by unfold aa1; rw [h]
theorem aa1_s {n a : Nat} {x : Int} {f : Nat → Int} (h : axo n x = some a) : aa1 n x f = f a := by unfold aa1; rw [h]
set_option maxHeartbeats 16000000 in
theorem x10_isArc (d : Nat) {hp : HP} {n : Nat} {G : BitVec 64} {z : Int} {c : Nat} {ks : List Int} {es : List Int} {ik : Bool} {kn : Nat} {kG : BitVec 64} {kz : Int} {kc : Nat} {kks : List Int} {kes : List Int} {tc : Nat} {tb : List Int} {sc : Nat} {tl : List Int} {so : List Int} {le : List Int} {it : Nat → List (BitVec 64)} {he : List Int} {th : List Int} {sl : List Int} {tr : Nat} {bo : List Int} {x : Int} (hX : XI hp n G z c ks es ik kn kG kz kc kks kes tc tb sc tl so le it he th sl tr bo) (hx : w32 x = x) (R : PO) : callD (d + 1) 108 [mR 0, mI x] hp R ↔ R (some (mI (zI (axo n x).isSome))) hp := by
  obtain ⟨ra, ts, q0, q1, q2, q3, q4, q5, q6, q7, q8, q9, q10, q11, qk⟩ := hX
  have hR := q1.1
  have h1 := rw_1 hR
  have h6 := rw_6 hR
  have f1 := FC_le n
  have cR := rC0 hR
  have cA := rC1 hR
  have o0 : gF hp 0 10 0 = some (mR 1) := XO_F q0 0
  have o1 : gF hp 0 10 1 = some (mR ra) := XO_F q0 1
  have o2 : gF hp 0 10 2 = some (mL G) := XO_F q0 2
  have o3 : gF hp 0 10 3 = some (mI z) := XO_F q0 3
  have o4 : gF hp 0 10 4 = some (mR 2) := XO_F q0 4
  have o5 : gF hp 0 10 5 = some (mR 5) := XO_F q0 5
  have o6 : gF hp 0 10 6 = some (mR 10) := XO_F q0 6
  have o7 : gF hp 0 10 7 = some (mR 14) := XO_F q0 7
  have o8 : gF hp 0 10 8 = some (mR 17) := XO_F q0 8
  have o9 : gF hp 0 10 9 = some (mR 19) := XO_F q0 9
  have o10 : gF hp 0 10 10 = some (mR 27) := XO_F q0 10
  have o11 : gF hp 0 10 11 = some (mR 31) := XO_F q0 11
  have o12 : gF hp 0 10 12 = some (mR 33) := XO_F q0 12
  have o13 : gF hp 0 10 13 = some (mI (zI ik)) := XO_F q0 13
  have o14 : gF hp 0 10 14 = some (mI (kn : Int)) := XO_F q0 14
  have o15 : gF hp 0 10 15 = some (mL kG) := XO_F q0 15
  have o16 : gF hp 0 10 16 = some (mI kz) := XO_F q0 16
  have o17 : gF hp 0 10 17 = some (mR 34) := XO_F q0 17
  have cO := gC_of o0
  have bN := NA_31 n
  rw [callD_k]; simp only [entL_i, entL_l, entL_q, entL_s, entL_nil, n_X10_isArc, u_X10_isArc, m_X10_isArc, rep_0, List.cons_append, List.nil_append, List.append_nil, List.length_cons, List.length_nil, Nat.reduceAdd, true_and]
  simp only [AW_k, AWk_1, x_iload_1, x_if_lt, x_aload_0, x_aloads_0, x_getf, x_icmp_ge, x_push_i, x_push_l, x_goto, x_ret, x_ret_i, x_ret_z, x_ret_l, x_ret_c, k_X10_isArc_0, k_X10_isArc_1, k_X10_isArc_2, k_X10_isArc_3, k_X10_isArc_4, k_X10_isArc_5, k_X10_isArc_6, k_X10_isArc_7, k_X10_isArc_8, k_X10_isArc_9, k_X10_isArc_10, k_X10_isArc_11, oE_some, Int.reduceToNat, Nat.reduceAdd, true_and, and_true, List.length_cons, List.length_nil, Option.toList_some, Option.toList_none, List.cons_append, List.nil_append, Nat.reduceLeDiff, Nat.le_refl, wdS_nil, wdS_i, wdS_l, wdS_r, wdS_n, wdS_s, o1, rw_arcs hR, rw_ac hR, hx, w32_nat bN]
  unfold axo
  by_cases c0 : x < 0
  · rw [if_pos c0, if_neg (by omega)]; exact ⟨fun q => q.2, fun q => ⟨Or.inl trivial, q⟩⟩
  · rw [if_neg c0]
    by_cases c1 : x < ((NA n : Nat) : Int)
    · rw [if_pos c1, if_pos ⟨by omega, c1⟩]; exact ⟨fun q => q.2, fun q => ⟨Or.inr trivial, q⟩⟩
    · rw [if_neg c1, if_neg (by omega)]; exact ⟨fun q => q.2, fun q => ⟨Or.inl trivial, q⟩⟩
theorem isArc_n (d : Nat) {hp : HP} {n : Nat} {G : BitVec 64} {z : Int} {c : Nat} {ks : List Int} {es : List Int} {ik : Bool} {kn : Nat} {kG : BitVec 64} {kz : Int} {kc : Nat} {kks : List Int} {kes : List Int} {tc : Nat} {tb : List Int} {sc : Nat} {tl : List Int} {so : List Int} {le : List Int} {it : Nat → List (BitVec 64)} {he : List Int} {th : List Int} {sl : List Int} {tr : Nat} {bo : List Int} {x : Int} (hX : XI hp n G z c ks es ik kn kG kz kc kks kes tc tb sc tl so le it he th sl tr bo) (hx : w32 x = x) (h : axo n x = none) (R : PO) : callD (d + 1) 108 [mR 0, mI x] hp R ↔ R (some (mI 0)) hp := by
  rw [x10_isArc d hX hx R, h]; exact Iff.rfl
theorem isArc_s (d : Nat) {hp : HP} {n : Nat} {G : BitVec 64} {z : Int} {c : Nat} {ks : List Int} {es : List Int} {ik : Bool} {kn : Nat} {kG : BitVec 64} {kz : Int} {kc : Nat} {kks : List Int} {kes : List Int} {tc : Nat} {tb : List Int} {sc : Nat} {tl : List Int} {so : List Int} {le : List Int} {it : Nat → List (BitVec 64)} {he : List Int} {th : List Int} {sl : List Int} {tr : Nat} {bo : List Int} {x : Int} {a : Nat} (hX : XI hp n G z c ks es ik kn kG kz kc kks kes tc tb sc tl so le it he th sl tr bo) (hx : w32 x = x) (h : axo n x = some a) (R : PO) : callD (d + 1) 108 [mR 0, mI x] hp R ↔ R (some (mI 1)) hp := by
  rw [x10_isArc d hX hx R, h]; exact Iff.rfl
theorem w00 : (w32 0 = 0) = True := eq_true rfl
theorem w10 : (w32 1 = 0) = False := eq_false (by decide)
theorem bit_I (G : BitVec 64) (a : Nat) : ((G >>> a) &&& 1#64).toInt = zI (G.getLsbD a) := by
  have e : (G >>> a) &&& 1#64 = if G.getLsbD a = true then 1#64 else 0#64 := by
    apply BitVec.eq_of_getLsbD_eq
    intro i hi
    rw [BitVec.getLsbD_and, BitVec.getLsbD_ushiftRight]
    by_cases c : i = 0
    · subst c
      rw [Nat.add_zero]
      cases G.getLsbD a <;> rfl
    · have e1 : (1#64).getLsbD i = false := by rw [BitVec.getLsbD_one]; simp [c]
      rw [e1, Bool.and_false]
      cases G.getLsbD a
      · simp
      · rw [if_pos rfl, e1]
  rw [e]
  cases G.getLsbD a <;> rfl
def arA (n : Nat) (p : Int) (i : Nat) : Int := if 0 ≤ p ∧ p < ((n - 1 : Nat) : Int) then ((ar n i p.toNat : Nat) : Int) else -1
set_option maxHeartbeats 16000000 in
theorem x10_arc (d : Nat) {hp : HP} {n : Nat} {G : BitVec 64} {z : Int} {c : Nat} {ks : List Int} {es : List Int} {ik : Bool} {kn : Nat} {kG : BitVec 64} {kz : Int} {kc : Nat} {kks : List Int} {kes : List Int} {tc : Nat} {tb : List Int} {sc : Nat} {tl : List Int} {so : List Int} {le : List Int} {it : Nat → List (BitVec 64)} {he : List Int} {th : List Int} {sl : List Int} {tr : Nat} {bo : List Int} {x p : Int} (hX : XI hp n G z c ks es ik kn kG kz kc kks kes tc tb sc tl so le it he th sl tr bo) (hx : w32 x = x) (hp1 : w32 p = p) (R : PO) : callD (d + 100) 109 [mR 0, mI x, mI p] hp R ↔ R (some (mI (an1 n x (arA n p)))) hp := by
  obtain ⟨ra, ts, q0, q1, q2, q3, q4, q5, q6, q7, q8, q9, q10, q11, qk⟩ := hX
  have hR := q1.1
  have h1 := rw_1 hR
  have h6 := rw_6 hR
  have f1 := FC_le n
  have cR := rC0 hR
  have cA := rC1 hR
  have o0 : gF hp 0 10 0 = some (mR 1) := XO_F q0 0
  have o1 : gF hp 0 10 1 = some (mR ra) := XO_F q0 1
  have o2 : gF hp 0 10 2 = some (mL G) := XO_F q0 2
  have o3 : gF hp 0 10 3 = some (mI z) := XO_F q0 3
  have o4 : gF hp 0 10 4 = some (mR 2) := XO_F q0 4
  have o5 : gF hp 0 10 5 = some (mR 5) := XO_F q0 5
  have o6 : gF hp 0 10 6 = some (mR 10) := XO_F q0 6
  have o7 : gF hp 0 10 7 = some (mR 14) := XO_F q0 7
  have o8 : gF hp 0 10 8 = some (mR 17) := XO_F q0 8
  have o9 : gF hp 0 10 9 = some (mR 19) := XO_F q0 9
  have o10 : gF hp 0 10 10 = some (mR 27) := XO_F q0 10
  have o11 : gF hp 0 10 11 = some (mR 31) := XO_F q0 11
  have o12 : gF hp 0 10 12 = some (mR 33) := XO_F q0 12
  have o13 : gF hp 0 10 13 = some (mI (zI ik)) := XO_F q0 13
  have o14 : gF hp 0 10 14 = some (mI (kn : Int)) := XO_F q0 14
  have o15 : gF hp 0 10 15 = some (mL kG) := XO_F q0 15
  have o16 : gF hp 0 10 16 = some (mI kz) := XO_F q0 16
  have o17 : gF hp 0 10 17 = some (mR 34) := XO_F q0 17
  have cO := gC_of o0
  cases ex : ixo n x with
  | none =>
    rw [an1_n ex]
    rw [callD_k]; simp only [entL_i, entL_l, entL_q, entL_s, entL_nil, n_X10_arc, u_X10_arc, m_X10_arc, rep_1, List.cons_append, List.nil_append, List.append_nil, List.length_cons, List.length_nil, Nat.reduceAdd, true_and]
    simp only [AW_k, AWk_1, x_aload_0, x_aloads_0, x_getf, x_iload_1, x_callv_2, x_istore_3, x_iload_3, x_if_lt, x_iload_2, x_icmp_lt, x_push_i, x_push_l, x_ret, x_ret_i, x_ret_z, x_ret_l, x_ret_c, x_imul, x_iadd, x_iald, x_ialds, unl_i, unl_l, unl_q, unl_r, unl_s, unl_n, k_X10_arc_0, k_X10_arc_1, k_X10_arc_2, k_X10_arc_3, k_X10_arc_4, k_X10_arc_5, k_X10_arc_6, k_X10_arc_7, k_X10_arc_8, k_X10_arc_9, k_X10_arc_10, k_X10_arc_11, k_X10_arc_12, k_X10_arc_13, k_X10_arc_14, k_X10_arc_15, k_X10_arc_16, k_X10_arc_17, k_X10_arc_18, k_X10_arc_19, k_X10_arc_20, k_X10_arc_21, k_X10_arc_22, k_X10_arc_23, k_X10_arc_24, k_X10_arc_25, k_X10_arc_26, k_X10_arc_27, oE_some, Int.reduceToNat, Nat.reduceAdd, true_and, and_true, List.length_cons, List.length_nil, Option.toList_some, Option.toList_none, List.cons_append, List.nil_append, Nat.reduceLeDiff, Nat.le_refl, wdS_nil, wdS_i, wdS_l, wdS_r, wdS_n, wdS_s, o1, cR, find_n (d + 98) hR hx ex, wN, ↓reduceIte]
  | some i =>
    have hi := ixo_lt ex
    have bi : i < 2147483648 := by omega
    have bn : n - 1 < 2147483648 := by omega
    rw [an1_s ex]
    unfold arA
    rw [callD_k]; simp only [entL_i, entL_l, entL_q, entL_s, entL_nil, n_X10_arc, u_X10_arc, m_X10_arc, rep_1, List.cons_append, List.nil_append, List.append_nil, List.length_cons, List.length_nil, Nat.reduceAdd, true_and]
    simp only [AW_k, AWk_1, x_aload_0, x_aloads_0, x_getf, x_iload_1, x_callv_2, x_istore_3, x_iload_3, x_if_lt, x_iload_2, x_icmp_lt, unl_i, unl_l, unl_q, unl_r, unl_s, unl_n, k_X10_arc_0, k_X10_arc_1, k_X10_arc_2, k_X10_arc_3, k_X10_arc_4, k_X10_arc_5, k_X10_arc_6, k_X10_arc_7, k_X10_arc_8, k_X10_arc_9, k_X10_arc_10, k_X10_arc_11, k_X10_arc_12, k_X10_arc_13, oE_some, Int.reduceToNat, Nat.reduceAdd, true_and, and_true, List.length_cons, List.length_nil, Option.toList_some, Option.toList_none, List.cons_append, List.nil_append, Nat.reduceLeDiff, Nat.le_refl, wdS_nil, wdS_i, wdS_l, wdS_r, wdS_n, wdS_s, o1, cR, rw_gaps hR, find_s (d + 98) hR hx ex, wI bi, hp1, w32_nat bn, ↓reduceIte]
    by_cases c1 : p < 0
    · rw [if_pos c1, if_neg (by omega)]
      simp only [AW_k, AWk_1, x_push_i, x_push_l, x_ret, x_ret_i, x_ret_z, x_ret_l, x_ret_c, k_X10_arc_14, k_X10_arc_15, oE_some, Int.reduceToNat, Nat.reduceAdd, true_and, and_true, List.length_cons, List.length_nil, Option.toList_some, Option.toList_none, List.cons_append, List.nil_append, Nat.reduceLeDiff, Nat.le_refl, wdS_nil, wdS_i, wdS_l, wdS_r, wdS_n, wdS_s]
    · rw [if_neg c1]
      by_cases c2 : p < ((n - 1 : Nat) : Int)
      · obtain ⟨p2, ep⟩ : ∃ p2 : Nat, p = (p2 : Int) := ⟨p.toNat, by omega⟩
        subst ep
        have hp2 : p2 < n - 1 := by omega
        rw [if_pos c2, if_pos ⟨by omega, c2⟩, Int.toNat_natCast]
        simp only [AW_k, AWk_1, x_aload_0, x_aloads_0, x_getf, x_iload_3, x_imul, x_iload_2, x_iadd, x_iald, x_ialds, x_ret, x_ret_i, x_ret_z, x_ret_l, x_ret_c, k_X10_arc_16, k_X10_arc_17, k_X10_arc_18, k_X10_arc_19, k_X10_arc_20, k_X10_arc_21, k_X10_arc_22, k_X10_arc_23, k_X10_arc_24, k_X10_arc_25, k_X10_arc_26, k_X10_arc_27, oE_some, Int.reduceToNat, Nat.reduceAdd, true_and, and_true, List.length_cons, List.length_nil, Option.toList_some, Option.toList_none, List.cons_append, List.nil_append, Nat.reduceLeDiff, Nat.le_refl, wdS_nil, wdS_i, wdS_l, wdS_r, wdS_n, wdS_s, o1, rw_gaps hR, rw_arcAt hR, rA_14 hR, ar_get h1 h6 hi hp2, gp_in h1 h6 hi hp2]
      · rw [if_neg c2, if_neg (by omega)]
        simp only [AW_k, AWk_1, x_push_i, x_push_l, x_ret, x_ret_i, x_ret_z, x_ret_l, x_ret_c, k_X10_arc_14, k_X10_arc_15, oE_some, Int.reduceToNat, Nat.reduceAdd, true_and, and_true, List.length_cons, List.length_nil, Option.toList_some, Option.toList_none, List.cons_append, List.nil_append, Nat.reduceLeDiff, Nat.le_refl, wdS_nil, wdS_i, wdS_l, wdS_r, wdS_n, wdS_s]
