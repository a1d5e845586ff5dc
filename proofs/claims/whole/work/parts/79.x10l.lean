/-! ===== the class's own methods: sheets ===== -/
theorem q4_get {s : Nat} (hs : s < 4) : ([some 23, some 24, some 25, some 26] : List (Option Nat)).getD s none = some (23 + s) := by
  rcases (show s = 0 ∨ s = 1 ∨ s = 2 ∨ s = 3 by omega) with e | e | e | e <;> subst e <;> rfl
def shNw (x o m : Int) : Option (Nat × Int) := match shO x with
  | some s => if o = -1 then some (s, 0) else if 0 ≤ o ∧ o ≤ 3 ∧ 0 ≤ m ∧ m ≤ 40 then some (s, m) else none
  | none => none
def shSo (so : List Int) (x o m : Int) : List Int := match shNw x o m with
  | some p => so.set p.1 o
  | none => so
def shLe (le : List Int) (x o m : Int) : List Int := match shNw x o m with
  | some p => le.set p.1 p.2
  | none => le
def shIt (it : Nat → List (BitVec 64)) (x o m : Int) : Nat → List (BitVec 64) := match shNw x o m with
  | some p => updF it p.1 (List.replicate 40 0#64)
  | none => it
def shA (x o m : Int) : Int := match shO x with
  | some _ => if -1 ≤ o ∧ o ≤ 3 then (if o = -1 then 1 else if 40 < m then -1 else if m < 0 then -14 else 1) else -1
  | none => -1
theorem shOK_set {so le : List Int} {it : Nat → List (BitVec 64)} {s : Nat} {o m : Int} (h : shOK so le it) (hs : s < 4) (ho : -1 ≤ o ∧ o ≤ 3) (hm : 0 ≤ m ∧ m ≤ 40) : shOK (so.set s o) (le.set s m) (updF it s (List.replicate 40 0#64)) := by
  obtain ⟨a1, a2, a3, a4⟩ := h
  refine ⟨by rw [List.length_set]; exact a1, by rw [List.length_set]; exact a2, fun k hk => ?_, fun k hk => ?_⟩
  · unfold updF
    split
    · exact List.length_replicate
    · exact a3 k hk
  · rw [getD_set (by omega), getD_set (by omega)]
    by_cases e : s = k
    · rw [if_pos e, if_pos e]
      exact ⟨m.toNat, by omega, by omega, ho.1, ho.2⟩
    · rw [if_neg e, if_neg e]; exact a4 k hk
theorem sh_renew (d : Nat) {hp : HP} {n : Nat} {G : BitVec 64} {z : Int} {c : Nat} {ks : List Int} {es : List Int} {ik : Bool} {kn : Nat} {kG : BitVec 64} {kz : Int} {kc : Nat} {kks : List Int} {kes : List Int} {tc : Nat} {tb : List Int} {sc : Nat} {tl : List Int} {so : List Int} {le : List Int} {it : Nat → List (BitVec 64)} {he : List Int} {th : List Int} {sl : List Int} {tr : Nat} {bo : List Int} {s : Nat} {o m : Int} (hX : XI hp n G z c ks es ik kn kG kz kc kks kes tc tb sc tl so le it he th sl tr bo) (hs : s < 4) (ho : -1 ≤ o ∧ o ≤ 3) (hm : 0 ≤ m ∧ m ≤ 40) : ∃ h', XI h' n G z c ks es ik kn kG kz kc kks kes tc tb sc tl (so.set s o) (le.set s m) (updF it s (List.replicate 40 0#64)) he th sl tr bo ∧ Kx hp h' ∧ ∀ R : PO, callD (d + 2) 58 [mR 19, mI (s : Int), mI o, mI m] hp R ↔ R (some (mI 1)) h' := by
  have hX0 := hX
  obtain ⟨ra, ts, q0, q1, q2, q3, q4, q5, q6, q7, q8, q9, q10, q11, qk⟩ := hX
  obtain ⟨h', u1, u2, u3⟩ := c5_renew d (s := o) (n := m) q7.1 q7.2.1 q7.2.2.1 q7.2.2.2.1 hs
  exact ⟨h', XI_H hX0 u2 ⟨u1, shOK_set q7.2 hs ho hm⟩, Kx_Fr u2 (by omega), u3⟩
set_option maxHeartbeats 16000000 in
theorem x10_sheet (d : Nat) {hp : HP} {n : Nat} {G : BitVec 64} {z : Int} {c : Nat} {ks : List Int} {es : List Int} {ik : Bool} {kn : Nat} {kG : BitVec 64} {kz : Int} {kc : Nat} {kks : List Int} {kes : List Int} {tc : Nat} {tb : List Int} {sc : Nat} {tl : List Int} {so : List Int} {le : List Int} {it : Nat → List (BitVec 64)} {he : List Int} {th : List Int} {sl : List Int} {tr : Nat} {bo : List Int} {x o m : Int} (hX : XI hp n G z c ks es ik kn kG kz kc kks kes tc tb sc tl so le it he th sl tr bo) (hx : w32 x = x) (ho : w32 o = o) (hm : w32 m = m) : ∃ h', XI h' n G z c ks es ik kn kG kz kc kks kes tc tb sc tl (shSo so x o m) (shLe le x o m) (shIt it x o m) he th sl tr bo ∧ Kx hp h' ∧ ∀ R : PO, callD (d + 100) 144 [mR 0, mI x, mI o, mI m] hp R ↔ R (some (mI (shA x o m))) h' := by
  have hX0 := hX
  obtain ⟨ra, ts, q0, q1, q2, q3, q4, q5, q6, q7, q8, q9, q10, q11, qk⟩ := hX
  have hR := q1.1
  have h1 := rw_1 hR
  have h6 := rw_6 hR
  have f1 := FC_le n
  have cR := rC0 hR
  have cA := rC1 hR
  have o0 : gF hp 0 10 0 = some (mR 1) := XO_F q0 0
  have o1 : gF hp 0 10 1 = some (mR ra) := XO_F q0 1
  have o2 : gF hp 0 10 2 = some (mL G) := XO_F q0 2
  have o3 : gF hp 0 10 3 = some (mI z) := XO_F q0 3
  have o4 : gF hp 0 10 4 = some (mR 2) := XO_F q0 4
  have o5 : gF hp 0 10 5 = some (mR 5) := XO_F q0 5
  have o6 : gF hp 0 10 6 = some (mR 10) := XO_F q0 6
  have o7 : gF hp 0 10 7 = some (mR 14) := XO_F q0 7
  have o8 : gF hp 0 10 8 = some (mR 17) := XO_F q0 8
  have o9 : gF hp 0 10 9 = some (mR 19) := XO_F q0 9
  have o10 : gF hp 0 10 10 = some (mR 27) := XO_F q0 10
  have o11 : gF hp 0 10 11 = some (mR 31) := XO_F q0 11
  have o12 : gF hp 0 10 12 = some (mR 33) := XO_F q0 12
  have o13 : gF hp 0 10 13 = some (mI (zI ik)) := XO_F q0 13
  have o14 : gF hp 0 10 14 = some (mI (kn : Int)) := XO_F q0 14
  have o15 : gF hp 0 10 15 = some (mL kG) := XO_F q0 15
  have o16 : gF hp 0 10 16 = some (mI kz) := XO_F q0 16
  have o17 : gF hp 0 10 17 = some (mR 34) := XO_F q0 17
  have cO := gC_of o0
  have c19 := gC_of q7.1.1.1
  have g0 : gF hp 19 5 0 = some (mR 20) := q7.1.1.1
  have g1 : gF hp 19 5 1 = some (mR 21) := q7.1.1.2.1
  have g2 : gF hp 19 5 2 = some (mR 22) := q7.1.1.2.2
  have a0 : gA hp 20 = some so := q7.1.2.1
  have a1 : gA hp 21 = some le := q7.1.2.2.1
  have gq : gQ hp 22 1 = some [some 23, some 24, some 25, some 26] := q7.1.2.2.2.1
  have gj : ∀ s, s < 4 → gJ hp (23 + s) = some (it s) := q7.1.2.2.2.2
  have gl : ∀ s, s < 4 → (it s).length = 40 := q7.2.2.2.1
  have lso : so.length = 4 := q7.2.1
  have lle : le.length = 4 := q7.2.2.1
  have i1 : w32 1 = 1 := rfl
  have im1 : w32 (-1) = -1 := rfl
  have i3 : w32 3 = 3 := rfl
  have i40 : w32 40 = 40 := rfl
  unfold shSo shLe shIt shA
  cases ex : shO x with
  | none =>
    have e : shNw x o m = none := by unfold shNw; rw [ex]
    rw [e]
    refine ⟨hp, hX0, Kx_refl hp, fun R => ?_⟩
    rw [callD_k]; simp only [entL_i, entL_l, entL_q, entL_s, entL_nil, n_X10_sheet, u_X10_sheet, m_X10_sheet, rep_0, List.cons_append, List.nil_append, List.append_nil, List.length_cons, List.length_nil, Nat.reduceAdd, true_and]
    simp only [AW_k, AWk_1, x_aload_0, x_aloads_0, x_getf, x_iload_1, x_callv_2, x_if_eq, x_iload_2, x_push_i, x_push_l, x_icmp_lt, x_icmp_le, x_ret, x_ret_i, x_ret_z, x_ret_l, x_ret_c, x_icmp_ne, x_callv_4, x_iload_3, x_if_ge, x_goto, k_X10_sheet_0, k_X10_sheet_1, k_X10_sheet_2, k_X10_sheet_3, k_X10_sheet_4, k_X10_sheet_5, k_X10_sheet_6, k_X10_sheet_7, k_X10_sheet_8, k_X10_sheet_9, k_X10_sheet_10, k_X10_sheet_11, k_X10_sheet_12, k_X10_sheet_13, k_X10_sheet_14, k_X10_sheet_15, k_X10_sheet_16, k_X10_sheet_17, k_X10_sheet_18, k_X10_sheet_19, k_X10_sheet_20, k_X10_sheet_21, k_X10_sheet_22, k_X10_sheet_23, k_X10_sheet_24, k_X10_sheet_25, k_X10_sheet_26, k_X10_sheet_27, k_X10_sheet_28, k_X10_sheet_29, k_X10_sheet_30, k_X10_sheet_31, k_X10_sheet_32, k_X10_sheet_33, k_X10_sheet_34, k_X10_sheet_35, k_X10_sheet_36, k_X10_sheet_37, k_X10_sheet_38, oE_some, Int.reduceToNat, Nat.reduceAdd, true_and, and_true, List.length_cons, List.length_nil, Option.toList_some, Option.toList_none, List.cons_append, List.nil_append, Nat.reduceLeDiff, Nat.le_refl, wdS_nil, wdS_i, wdS_l, wdS_r, wdS_n, wdS_s, o9, c19, has5_n (d + 98) hx ex, w00, ↓reduceIte]
  | some s =>
    obtain ⟨hs, es'⟩ := shO_lt ex
    have hh := fun R => has5_s (d + 98) (hp := hp) (a := 19) hx ex R
    have e : shNw x o m = if o = -1 then some (s, 0) else if 0 ≤ o ∧ o ≤ 3 ∧ 0 ≤ m ∧ m ≤ 40 then some (s, m) else none := by unfold shNw; rw [ex]
    rw [e]
    by_cases c0 : o = -1
    · subst c0
      obtain ⟨h', u1, u2, u3⟩ := sh_renew (d + 97) (s := s) (o := -1) (m := 0) hX0 hs (by omega) (by omega)
      have n1 : ((-1 : Int) < -1) = False := eq_false (by decide)
      have n2 : ((3 : Int) < -1) = False := eq_false (by decide)
      simp only [↓reduceIte]
      refine ⟨h', u1, u2, fun R => ?_⟩
      subst es'
      rw [if_pos (by decide)]
      rw [callD_k]; simp only [entL_i, entL_l, entL_q, entL_s, entL_nil, n_X10_sheet, u_X10_sheet, m_X10_sheet, rep_0, List.cons_append, List.nil_append, List.append_nil, List.length_cons, List.length_nil, Nat.reduceAdd, true_and]
      simp only [AW_k, AWk_1, x_aload_0, x_aloads_0, x_getf, x_iload_1, x_callv_2, x_if_eq, x_iload_2, x_push_i, x_push_l, x_icmp_lt, x_icmp_le, x_ret, x_ret_i, x_ret_z, x_ret_l, x_ret_c, x_icmp_ne, x_callv_4, x_iload_3, x_if_ge, x_goto, k_X10_sheet_0, k_X10_sheet_1, k_X10_sheet_2, k_X10_sheet_3, k_X10_sheet_4, k_X10_sheet_5, k_X10_sheet_6, k_X10_sheet_7, k_X10_sheet_8, k_X10_sheet_9, k_X10_sheet_10, k_X10_sheet_11, k_X10_sheet_12, k_X10_sheet_13, k_X10_sheet_14, k_X10_sheet_15, k_X10_sheet_16, k_X10_sheet_17, k_X10_sheet_18, k_X10_sheet_19, k_X10_sheet_20, k_X10_sheet_21, k_X10_sheet_22, k_X10_sheet_23, k_X10_sheet_24, k_X10_sheet_25, k_X10_sheet_26, k_X10_sheet_27, k_X10_sheet_28, k_X10_sheet_29, k_X10_sheet_30, k_X10_sheet_31, k_X10_sheet_32, k_X10_sheet_33, k_X10_sheet_34, k_X10_sheet_35, k_X10_sheet_36, k_X10_sheet_37, k_X10_sheet_38, oE_some, Int.reduceToNat, Nat.reduceAdd, true_and, and_true, List.length_cons, List.length_nil, Option.toList_some, Option.toList_none, List.cons_append, List.nil_append, Nat.reduceLeDiff, Nat.le_refl, wdS_nil, wdS_i, wdS_l, wdS_r, wdS_n, wdS_s, o9, c19, hh, w10, im1, i3, n1, n2, u3, ↓reduceIte]
    · by_cases c1 : 0 ≤ o ∧ o ≤ 3
      · have n1 : (o < -1) = False := eq_false (by omega)
        have n2 : (3 < o) = False := eq_false (by omega)
        by_cases c2 : 0 ≤ m ∧ m ≤ 40
        · obtain ⟨h', u1, u2, u3⟩ := sh_renew (d + 97) (s := s) (o := o) (m := m) hX0 hs (by omega) c2
          have n3 : (40 < m) = False := eq_false (by omega)
          have n4 : (m < 0) = False := eq_false (by omega)
          rw [if_neg c0, if_pos ⟨c1.1, c1.2, c2.1, c2.2⟩]
          refine ⟨h', u1, u2, fun R => ?_⟩
          subst es'
          simp only [if_pos (show -1 ≤ o ∧ o ≤ 3 by omega), c0, n3, n4, ↓reduceIte]
          rw [callD_k]; simp only [entL_i, entL_l, entL_q, entL_s, entL_nil, n_X10_sheet, u_X10_sheet, m_X10_sheet, rep_0, List.cons_append, List.nil_append, List.append_nil, List.length_cons, List.length_nil, Nat.reduceAdd, true_and]
          simp only [AW_k, AWk_1, x_aload_0, x_aloads_0, x_getf, x_iload_1, x_callv_2, x_if_eq, x_iload_2, x_push_i, x_push_l, x_icmp_lt, x_icmp_le, x_ret, x_ret_i, x_ret_z, x_ret_l, x_ret_c, x_icmp_ne, x_callv_4, x_iload_3, x_if_ge, x_goto, k_X10_sheet_0, k_X10_sheet_1, k_X10_sheet_2, k_X10_sheet_3, k_X10_sheet_4, k_X10_sheet_5, k_X10_sheet_6, k_X10_sheet_7, k_X10_sheet_8, k_X10_sheet_9, k_X10_sheet_10, k_X10_sheet_11, k_X10_sheet_12, k_X10_sheet_13, k_X10_sheet_14, k_X10_sheet_15, k_X10_sheet_16, k_X10_sheet_17, k_X10_sheet_18, k_X10_sheet_19, k_X10_sheet_20, k_X10_sheet_21, k_X10_sheet_22, k_X10_sheet_23, k_X10_sheet_24, k_X10_sheet_25, k_X10_sheet_26, k_X10_sheet_27, k_X10_sheet_28, k_X10_sheet_29, k_X10_sheet_30, k_X10_sheet_31, k_X10_sheet_32, k_X10_sheet_33, k_X10_sheet_34, k_X10_sheet_35, k_X10_sheet_36, k_X10_sheet_37, k_X10_sheet_38, oE_some, Int.reduceToNat, Nat.reduceAdd, true_and, and_true, List.length_cons, List.length_nil, Option.toList_some, Option.toList_none, List.cons_append, List.nil_append, Nat.reduceLeDiff, Nat.le_refl, wdS_nil, wdS_i, wdS_l, wdS_r, wdS_n, wdS_s, o9, c19, hh, w10, im1, i3, i40, ho, hm, n1, n2, c0, n3, n4, u3, ↓reduceIte]
        · rw [if_neg c0, if_neg (fun q => c2 q.2.2)]
          refine ⟨hp, hX0, Kx_refl hp, fun R => ?_⟩
          simp only [if_pos (show -1 ≤ o ∧ o ≤ 3 by omega), c0, ↓reduceIte]
          rw [callD_k]; simp only [entL_i, entL_l, entL_q, entL_s, entL_nil, n_X10_sheet, u_X10_sheet, m_X10_sheet, rep_0, List.cons_append, List.nil_append, List.append_nil, List.length_cons, List.length_nil, Nat.reduceAdd, true_and]
          by_cases c3 : 40 < m
          · simp only [c3, ↓reduceIte]
            simp only [AW_k, AWk_1, x_aload_0, x_aloads_0, x_getf, x_iload_1, x_callv_2, x_if_eq, x_iload_2, x_push_i, x_push_l, x_icmp_lt, x_icmp_le, x_ret, x_ret_i, x_ret_z, x_ret_l, x_ret_c, x_icmp_ne, x_callv_4, x_iload_3, x_if_ge, x_goto, k_X10_sheet_0, k_X10_sheet_1, k_X10_sheet_2, k_X10_sheet_3, k_X10_sheet_4, k_X10_sheet_5, k_X10_sheet_6, k_X10_sheet_7, k_X10_sheet_8, k_X10_sheet_9, k_X10_sheet_10, k_X10_sheet_11, k_X10_sheet_12, k_X10_sheet_13, k_X10_sheet_14, k_X10_sheet_15, k_X10_sheet_16, k_X10_sheet_17, k_X10_sheet_18, k_X10_sheet_19, k_X10_sheet_20, k_X10_sheet_21, k_X10_sheet_22, k_X10_sheet_23, k_X10_sheet_24, k_X10_sheet_25, k_X10_sheet_26, k_X10_sheet_27, k_X10_sheet_28, k_X10_sheet_29, k_X10_sheet_30, k_X10_sheet_31, k_X10_sheet_32, k_X10_sheet_33, k_X10_sheet_34, k_X10_sheet_35, k_X10_sheet_36, k_X10_sheet_37, k_X10_sheet_38, oE_some, Int.reduceToNat, Nat.reduceAdd, true_and, and_true, List.length_cons, List.length_nil, Option.toList_some, Option.toList_none, List.cons_append, List.nil_append, Nat.reduceLeDiff, Nat.le_refl, wdS_nil, wdS_i, wdS_l, wdS_r, wdS_n, wdS_s, o9, c19, hh, w10, im1, i3, i40, ho, hm, n1, n2, c0, c3, ↓reduceIte]
          · have c4 : m < 0 := by omega
            simp only [c3, c4, ↓reduceIte]
            simp only [AW_k, AWk_1, x_aload_0, x_aloads_0, x_getf, x_iload_1, x_callv_2, x_if_eq, x_iload_2, x_push_i, x_push_l, x_icmp_lt, x_icmp_le, x_ret, x_ret_i, x_ret_z, x_ret_l, x_ret_c, x_icmp_ne, x_callv_4, x_iload_3, x_if_ge, x_goto, k_X10_sheet_0, k_X10_sheet_1, k_X10_sheet_2, k_X10_sheet_3, k_X10_sheet_4, k_X10_sheet_5, k_X10_sheet_6, k_X10_sheet_7, k_X10_sheet_8, k_X10_sheet_9, k_X10_sheet_10, k_X10_sheet_11, k_X10_sheet_12, k_X10_sheet_13, k_X10_sheet_14, k_X10_sheet_15, k_X10_sheet_16, k_X10_sheet_17, k_X10_sheet_18, k_X10_sheet_19, k_X10_sheet_20, k_X10_sheet_21, k_X10_sheet_22, k_X10_sheet_23, k_X10_sheet_24, k_X10_sheet_25, k_X10_sheet_26, k_X10_sheet_27, k_X10_sheet_28, k_X10_sheet_29, k_X10_sheet_30, k_X10_sheet_31, k_X10_sheet_32, k_X10_sheet_33, k_X10_sheet_34, k_X10_sheet_35, k_X10_sheet_36, k_X10_sheet_37, k_X10_sheet_38, oE_some, Int.reduceToNat, Nat.reduceAdd, true_and, and_true, List.length_cons, List.length_nil, Option.toList_some, Option.toList_none, List.cons_append, List.nil_append, Nat.reduceLeDiff, Nat.le_refl, wdS_nil, wdS_i, wdS_l, wdS_r, wdS_n, wdS_s, o9, c19, hh, w10, im1, i3, i40, ho, hm, n1, n2, c0, c3, c4, ↓reduceIte]
      · rw [if_neg c0, if_neg (fun q => c1 ⟨q.1, q.2.1⟩)]
        refine ⟨hp, hX0, Kx_refl hp, fun R => ?_⟩
        simp only [if_neg (show ¬ (-1 ≤ o ∧ o ≤ 3) by omega)]
        rw [callD_k]; simp only [entL_i, entL_l, entL_q, entL_s, entL_nil, n_X10_sheet, u_X10_sheet, m_X10_sheet, rep_0, List.cons_append, List.nil_append, List.append_nil, List.length_cons, List.length_nil, Nat.reduceAdd, true_and]
        by_cases c3 : o < -1
        · simp only [AW_k, AWk_1, x_aload_0, x_aloads_0, x_getf, x_iload_1, x_callv_2, x_if_eq, x_iload_2, x_push_i, x_push_l, x_icmp_lt, x_icmp_le, x_ret, x_ret_i, x_ret_z, x_ret_l, x_ret_c, x_icmp_ne, x_callv_4, x_iload_3, x_if_ge, x_goto, k_X10_sheet_0, k_X10_sheet_1, k_X10_sheet_2, k_X10_sheet_3, k_X10_sheet_4, k_X10_sheet_5, k_X10_sheet_6, k_X10_sheet_7, k_X10_sheet_8, k_X10_sheet_9, k_X10_sheet_10, k_X10_sheet_11, k_X10_sheet_12, k_X10_sheet_13, k_X10_sheet_14, k_X10_sheet_15, k_X10_sheet_16, k_X10_sheet_17, k_X10_sheet_18, k_X10_sheet_19, k_X10_sheet_20, k_X10_sheet_21, k_X10_sheet_22, k_X10_sheet_23, k_X10_sheet_24, k_X10_sheet_25, k_X10_sheet_26, k_X10_sheet_27, k_X10_sheet_28, k_X10_sheet_29, k_X10_sheet_30, k_X10_sheet_31, k_X10_sheet_32, k_X10_sheet_33, k_X10_sheet_34, k_X10_sheet_35, k_X10_sheet_36, k_X10_sheet_37, k_X10_sheet_38, oE_some, Int.reduceToNat, Nat.reduceAdd, true_and, and_true, List.length_cons, List.length_nil, Option.toList_some, Option.toList_none, List.cons_append, List.nil_append, Nat.reduceLeDiff, Nat.le_refl, wdS_nil, wdS_i, wdS_l, wdS_r, wdS_n, wdS_s, o9, c19, hh, w10, im1, i3, i40, ho, c3, ↓reduceIte]
        · have c4 : 3 < o := by omega
          simp only [AW_k, AWk_1, x_aload_0, x_aloads_0, x_getf, x_iload_1, x_callv_2, x_if_eq, x_iload_2, x_push_i, x_push_l, x_icmp_lt, x_icmp_le, x_ret, x_ret_i, x_ret_z, x_ret_l, x_ret_c, x_icmp_ne, x_callv_4, x_iload_3, x_if_ge, x_goto, k_X10_sheet_0, k_X10_sheet_1, k_X10_sheet_2, k_X10_sheet_3, k_X10_sheet_4, k_X10_sheet_5, k_X10_sheet_6, k_X10_sheet_7, k_X10_sheet_8, k_X10_sheet_9, k_X10_sheet_10, k_X10_sheet_11, k_X10_sheet_12, k_X10_sheet_13, k_X10_sheet_14, k_X10_sheet_15, k_X10_sheet_16, k_X10_sheet_17, k_X10_sheet_18, k_X10_sheet_19, k_X10_sheet_20, k_X10_sheet_21, k_X10_sheet_22, k_X10_sheet_23, k_X10_sheet_24, k_X10_sheet_25, k_X10_sheet_26, k_X10_sheet_27, k_X10_sheet_28, k_X10_sheet_29, k_X10_sheet_30, k_X10_sheet_31, k_X10_sheet_32, k_X10_sheet_33, k_X10_sheet_34, k_X10_sheet_35, k_X10_sheet_36, k_X10_sheet_37, k_X10_sheet_38, oE_some, Int.reduceToNat, Nat.reduceAdd, true_and, and_true, List.length_cons, List.length_nil, Option.toList_some, Option.toList_none, List.cons_append, List.nil_append, Nat.reduceLeDiff, Nat.le_refl, wdS_nil, wdS_i, wdS_l, wdS_r, wdS_n, wdS_s, o9, c19, hh, w10, im1, i3, i40, ho, c3, c4, ↓reduceIte]
def ptO (so le : List Int) (x i : Int) : Option Nat := match shO x with
  | some s => if so.getD s 0 = -1 then none else if 0 ≤ i ∧ i < le.getD s 0 then some s else none
  | none => none
def ptA (so le : List Int) (x i : Int) : Int := match shO x with
  | some s => if so.getD s 0 = -1 then -11 else if 0 ≤ i ∧ i < le.getD s 0 then 1 else -12
  | none => -1
def ptI (so le : List Int) (it : Nat → List (BitVec 64)) (x i : Int) (v : BitVec 64) : Nat → List (BitVec 64) := match ptO so le x i with
  | some s => updF it s ((it s).set i.toNat (nrw v (so.getD s 0)))
  | none => it
theorem shOK_it {so le : List Int} {it : Nat → List (BitVec 64)} {s : Nat} {l : List (BitVec 64)} (h : shOK so le it) (hl : l.length = 40) : shOK so le (updF it s l) := by
  obtain ⟨a1, a2, a3, a4⟩ := h
  refine ⟨a1, a2, fun k hk => ?_, a4⟩
  unfold updF
  split
  · exact hl
  · exact a3 k hk
theorem XI_it {hp : HP} {n : Nat} {G : BitVec 64} {z : Int} {c : Nat} {ks : List Int} {es : List Int} {ik : Bool} {kn : Nat} {kG : BitVec 64} {kz : Int} {kc : Nat} {kks : List Int} {kes : List Int} {tc : Nat} {tb : List Int} {sc : Nat} {tl : List Int} {so : List Int} {le : List Int} {it : Nat → List (BitVec 64)} {he : List Int} {th : List Int} {sl : List Int} {tr : Nat} {bo : List Int} {s : Nat} {l : List (BitVec 64)} (hX : XI hp n G z c ks es ik kn kG kz kc kks kes tc tb sc tl so le it he th sl tr bo) (hs : s < 4) (hl : l.length = 40) : XI ((pJ hp (23 + s) l)) n G z c ks es ik kn kG kz kc kks kes tc tb sc tl so le (updF it s l) he th sl tr bo ∧ Kx hp (pJ hp (23 + s) l) := by
  have hX0 := hX
  obtain ⟨ra, ts, q0, q1, q2, q3, q4, q5, q6, q7, q8, q9, q10, q11, qk⟩ := hX
  have f : Fr 19 27 hp (pJ hp (23 + s) l) := Fr_pJ (by omega) (by omega)
  obtain ⟨⟨a1, a2, a3⟩, b1, b2, b3, b4⟩ := q7.1
  refine ⟨XI_H hX0 f ⟨⟨⟨by rw [gF_pJ, a1], by rw [gF_pJ, a2], by rw [gF_pJ, a3]⟩, by rw [gA_pJ, b1], by rw [gA_pJ, b2], by rw [gQ_pJ, b3], fun k hk => ?_⟩, shOK_it q7.2 hl⟩, Kx_Fr f (by omega)⟩
  unfold updF
  by_cases e : k = s
  · subst e
    rw [if_pos rfl]
    exact gJ_pJ_same (b4 k hk)
  · rw [if_neg e, gJ_pJ (by omega)]
    exact b4 k hk
set_option maxHeartbeats 16000000 in
theorem x10_put (d : Nat) {hp : HP} {n : Nat} {G : BitVec 64} {z : Int} {c : Nat} {ks : List Int} {es : List Int} {ik : Bool} {kn : Nat} {kG : BitVec 64} {kz : Int} {kc : Nat} {kks : List Int} {kes : List Int} {tc : Nat} {tb : List Int} {sc : Nat} {tl : List Int} {so : List Int} {le : List Int} {it : Nat → List (BitVec 64)} {he : List Int} {th : List Int} {sl : List Int} {tr : Nat} {bo : List Int} {x i : Int} {v : BitVec 64} (hX : XI hp n G z c ks es ik kn kG kz kc kks kes tc tb sc tl so le it he th sl tr bo) (hx : w32 x = x) (hi : w32 i = i) : ∃ h', XI h' n G z c ks es ik kn kG kz kc kks kes tc tb sc tl so le (ptI so le it x i v) he th sl tr bo ∧ Kx hp h' ∧ ∀ R : PO, callD (d + 100) 145 [mR 0, mI x, mI i, mL v] hp R ↔ R (some (mI (ptA so le x i))) h' := by
  have hX0 := hX
  obtain ⟨ra, ts, q0, q1, q2, q3, q4, q5, q6, q7, q8, q9, q10, q11, qk⟩ := hX
  have hR := q1.1
  have h1 := rw_1 hR
  have h6 := rw_6 hR
  have f1 := FC_le n
  have cR := rC0 hR
  have cA := rC1 hR
  have o0 : gF hp 0 10 0 = some (mR 1) := XO_F q0 0
  have o1 : gF hp 0 10 1 = some (mR ra) := XO_F q0 1
  have o2 : gF hp 0 10 2 = some (mL G) := XO_F q0 2
  have o3 : gF hp 0 10 3 = some (mI z) := XO_F q0 3
  have o4 : gF hp 0 10 4 = some (mR 2) := XO_F q0 4
  have o5 : gF hp 0 10 5 = some (mR 5) := XO_F q0 5
  have o6 : gF hp 0 10 6 = some (mR 10) := XO_F q0 6
  have o7 : gF hp 0 10 7 = some (mR 14) := XO_F q0 7
  have o8 : gF hp 0 10 8 = some (mR 17) := XO_F q0 8
  have o9 : gF hp 0 10 9 = some (mR 19) := XO_F q0 9
  have o10 : gF hp 0 10 10 = some (mR 27) := XO_F q0 10
  have o11 : gF hp 0 10 11 = some (mR 31) := XO_F q0 11
  have o12 : gF hp 0 10 12 = some (mR 33) := XO_F q0 12
  have o13 : gF hp 0 10 13 = some (mI (zI ik)) := XO_F q0 13
  have o14 : gF hp 0 10 14 = some (mI (kn : Int)) := XO_F q0 14
  have o15 : gF hp 0 10 15 = some (mL kG) := XO_F q0 15
  have o16 : gF hp 0 10 16 = some (mI kz) := XO_F q0 16
  have o17 : gF hp 0 10 17 = some (mR 34) := XO_F q0 17
  have cO := gC_of o0
  have c19 := gC_of q7.1.1.1
  have g0 : gF hp 19 5 0 = some (mR 20) := q7.1.1.1
  have g1 : gF hp 19 5 1 = some (mR 21) := q7.1.1.2.1
  have g2 : gF hp 19 5 2 = some (mR 22) := q7.1.1.2.2
  have a0 : gA hp 20 = some so := q7.1.2.1
  have a1 : gA hp 21 = some le := q7.1.2.2.1
  have gq : gQ hp 22 1 = some [some 23, some 24, some 25, some 26] := q7.1.2.2.2.1
  have gj : ∀ s, s < 4 → gJ hp (23 + s) = some (it s) := q7.1.2.2.2.2
  have gl : ∀ s, s < 4 → (it s).length = 40 := q7.2.2.2.1
  have lso : so.length = 4 := q7.2.1
  have lle : le.length = 4 := q7.2.2.1
  have i1 : w32 1 = 1 := rfl
  have im1 : w32 (-1) = -1 := rfl
  have i3 : w32 3 = 3 := rfl
  have i40 : w32 40 = 40 := rfl
  unfold ptI ptA
  cases ex : shO x with
  | none =>
    have e : ptO so le x i = none := by unfold ptO; rw [ex]
    rw [e]
    refine ⟨hp, hX0, Kx_refl hp, fun R => ?_⟩
    rw [callD_k]; simp only [entL_i, entL_l, entL_q, entL_s, entL_nil, n_X10_put, u_X10_put, m_X10_put, rep_0, List.cons_append, List.nil_append, List.append_nil, List.length_cons, List.length_nil, Nat.reduceAdd, true_and]
    simp only [AW_k, AWk_1, x_aload_0, x_aloads_0, x_getf, x_iload_1, x_callv_2, x_if_ne, x_push_i, x_push_l, x_ret, x_ret_i, x_ret_z, x_ret_l, x_ret_c, x_iald, x_ialds, x_icmp_ne, x_iload_2, x_if_lt, x_icmp_lt, x_aald, x_lload_3, x_call_2, x_last, k_X10_put_0, k_X10_put_1, k_X10_put_2, k_X10_put_3, k_X10_put_4, k_X10_put_5, k_X10_put_6, k_X10_put_7, k_X10_put_8, k_X10_put_9, k_X10_put_10, k_X10_put_11, k_X10_put_12, k_X10_put_13, k_X10_put_14, k_X10_put_15, k_X10_put_16, k_X10_put_17, k_X10_put_18, k_X10_put_19, k_X10_put_20, k_X10_put_21, k_X10_put_22, k_X10_put_23, k_X10_put_24, k_X10_put_25, k_X10_put_26, k_X10_put_27, k_X10_put_28, k_X10_put_29, k_X10_put_30, k_X10_put_31, k_X10_put_32, k_X10_put_33, k_X10_put_34, k_X10_put_35, k_X10_put_36, k_X10_put_37, k_X10_put_38, k_X10_put_39, k_X10_put_40, k_X10_put_41, k_X10_put_42, oE_some, Int.reduceToNat, Nat.reduceAdd, true_and, and_true, List.length_cons, List.length_nil, Option.toList_some, Option.toList_none, List.cons_append, List.nil_append, Nat.reduceLeDiff, Nat.le_refl, wdS_nil, wdS_i, wdS_l, wdS_r, wdS_n, wdS_s, o9, c19, has5_n (d + 98) hx ex, w00, ↓reduceIte]
  | some s =>
    obtain ⟨hs, es'⟩ := shO_lt ex
    have hh := fun R => has5_s (d + 98) (hp := hp) (a := 19) hx ex R
    have e : ptO so le x i = if so.getD s 0 = -1 then none else if 0 ≤ i ∧ i < le.getD s 0 then some s else none := by unfold ptO; rw [ex]
    rw [e]
    have bs : s < 2147483648 := by omega
    obtain ⟨L, l1, l2, l3, l4⟩ := q7.2.2.2.2 s hs
    have bL : L < 2147483648 := by omega
    have iso : inB (s : Int) so.length := by rw [lso]; exact inB_n hs (by decide)
    have ile : inB (s : Int) le.length := by rw [lle]; exact inB_n hs (by decide)
    have i4 : inB (s : Int) 4 := inB_n hs (by decide)
    have hJ := gj s hs
    have hl := gl s hs
    have wso : w32 (so.getD s 0) = so.getD s 0 := w32_id (by omega) (by omega)
    subst es'
    by_cases c0 : so.getD s 0 = -1
    · rw [if_pos c0]
      refine ⟨hp, hX0, Kx_refl hp, fun R => ?_⟩
      simp only [c0, ↓reduceIte]
      rw [callD_k]; simp only [entL_i, entL_l, entL_q, entL_s, entL_nil, n_X10_put, u_X10_put, m_X10_put, rep_0, List.cons_append, List.nil_append, List.append_nil, List.length_cons, List.length_nil, Nat.reduceAdd, true_and]
      simp only [AW_k, AWk_1, x_aload_0, x_aloads_0, x_getf, x_iload_1, x_callv_2, x_if_ne, x_push_i, x_push_l, x_ret, x_ret_i, x_ret_z, x_ret_l, x_ret_c, x_iald, x_ialds, x_icmp_ne, x_iload_2, x_if_lt, x_icmp_lt, x_aald, x_lload_3, x_call_2, x_last, k_X10_put_0, k_X10_put_1, k_X10_put_2, k_X10_put_3, k_X10_put_4, k_X10_put_5, k_X10_put_6, k_X10_put_7, k_X10_put_8, k_X10_put_9, k_X10_put_10, k_X10_put_11, k_X10_put_12, k_X10_put_13, k_X10_put_14, k_X10_put_15, k_X10_put_16, k_X10_put_17, k_X10_put_18, k_X10_put_19, k_X10_put_20, k_X10_put_21, k_X10_put_22, k_X10_put_23, k_X10_put_24, k_X10_put_25, k_X10_put_26, k_X10_put_27, k_X10_put_28, k_X10_put_29, k_X10_put_30, k_X10_put_31, k_X10_put_32, k_X10_put_33, k_X10_put_34, k_X10_put_35, k_X10_put_36, k_X10_put_37, k_X10_put_38, k_X10_put_39, k_X10_put_40, k_X10_put_41, k_X10_put_42, oE_some, Int.reduceToNat, Nat.reduceAdd, true_and, and_true, List.length_cons, List.length_nil, Option.toList_some, Option.toList_none, List.cons_append, List.nil_append, Nat.reduceLeDiff, Nat.le_refl, wdS_nil, wdS_i, wdS_l, wdS_r, wdS_n, wdS_s, o9, c19, hh, w10, g0, a0, iso, w32_tn bs, c0, im1, ↓reduceIte]
    · rw [if_neg c0]
      by_cases c1 : 0 ≤ i ∧ i < le.getD s 0
      · rw [if_pos c1]
        obtain ⟨j, ej⟩ : ∃ j : Nat, i = (j : Int) := ⟨i.toNat, by omega⟩
        subst ej
        have hj40 : j < 40 := by omega
        have bj : j < 2147483648 := by omega
        have n1 : ((j : Int) < 0) = False := eq_false (by omega)
        have n2 : ((j : Int) < (L : Int)) = True := eq_true (by omega)
        have ij : inB (j : Int) (it s).length := by rw [hl]; exact inB_n hj40 (by decide)
        obtain ⟨u1, u2⟩ := XI_it (s := s) (l := (it s).set j (nrw v (so.getD s 0))) hX0 hs (by rw [List.length_set]; exact hl)
        refine ⟨pJ hp (23 + s) ((it s).set j (nrw v (so.getD s 0))), u1, u2, fun R => ?_⟩
        simp only [if_neg c0, if_pos c1]
        rw [callD_k]; simp only [entL_i, entL_l, entL_q, entL_s, entL_nil, n_X10_put, u_X10_put, m_X10_put, rep_0, List.cons_append, List.nil_append, List.append_nil, List.length_cons, List.length_nil, Nat.reduceAdd, true_and]
        simp only [AW_k, AWk_1, x_aload_0, x_aloads_0, x_getf, x_iload_1, x_callv_2, x_if_ne, x_push_i, x_push_l, x_ret, x_ret_i, x_ret_z, x_ret_l, x_ret_c, x_iald, x_ialds, x_icmp_ne, x_iload_2, x_if_lt, x_icmp_lt, x_aald, x_lload_3, x_call_2, x_last, k_X10_put_0, k_X10_put_1, k_X10_put_2, k_X10_put_3, k_X10_put_4, k_X10_put_5, k_X10_put_6, k_X10_put_7, k_X10_put_8, k_X10_put_9, k_X10_put_10, k_X10_put_11, k_X10_put_12, k_X10_put_13, k_X10_put_14, k_X10_put_15, k_X10_put_16, k_X10_put_17, k_X10_put_18, k_X10_put_19, k_X10_put_20, k_X10_put_21, k_X10_put_22, k_X10_put_23, k_X10_put_24, k_X10_put_25, k_X10_put_26, k_X10_put_27, k_X10_put_28, k_X10_put_29, k_X10_put_30, k_X10_put_31, k_X10_put_32, k_X10_put_33, k_X10_put_34, k_X10_put_35, k_X10_put_36, k_X10_put_37, k_X10_put_38, k_X10_put_39, k_X10_put_40, k_X10_put_41, k_X10_put_42, oE_some, Int.reduceToNat, Nat.reduceAdd, true_and, and_true, List.length_cons, List.length_nil, Option.toList_some, Option.toList_none, List.cons_append, List.nil_append, Nat.reduceLeDiff, Nat.le_refl, wdS_nil, wdS_i, wdS_l, wdS_r, wdS_n, wdS_s, o9, c19, hh, w10, g0, a0, iso, w32_tn bs, wso, c0, im1, hi, n1, g1, a1, ile, l1, w32_nat bL, n2, g2, gq, i4, q4_get hs, hJ, ij, w32_tn bj, Int.toNat_natCast, c5_narrowed (d + 98) wso, List.length_cons, List.length_nil, ↓reduceIte]
      · rw [if_neg c1]
        refine ⟨hp, hX0, Kx_refl hp, fun R => ?_⟩
        simp only [if_neg c0, if_neg c1]
        rw [callD_k]; simp only [entL_i, entL_l, entL_q, entL_s, entL_nil, n_X10_put, u_X10_put, m_X10_put, rep_0, List.cons_append, List.nil_append, List.append_nil, List.length_cons, List.length_nil, Nat.reduceAdd, true_and]
        by_cases c2 : i < 0
        · simp only [AW_k, AWk_1, x_aload_0, x_aloads_0, x_getf, x_iload_1, x_callv_2, x_if_ne, x_push_i, x_push_l, x_ret, x_ret_i, x_ret_z, x_ret_l, x_ret_c, x_iald, x_ialds, x_icmp_ne, x_iload_2, x_if_lt, x_icmp_lt, x_aald, x_lload_3, x_call_2, x_last, k_X10_put_0, k_X10_put_1, k_X10_put_2, k_X10_put_3, k_X10_put_4, k_X10_put_5, k_X10_put_6, k_X10_put_7, k_X10_put_8, k_X10_put_9, k_X10_put_10, k_X10_put_11, k_X10_put_12, k_X10_put_13, k_X10_put_14, k_X10_put_15, k_X10_put_16, k_X10_put_17, k_X10_put_18, k_X10_put_19, k_X10_put_20, k_X10_put_21, k_X10_put_22, k_X10_put_23, k_X10_put_24, k_X10_put_25, k_X10_put_26, k_X10_put_27, k_X10_put_28, k_X10_put_29, k_X10_put_30, k_X10_put_31, k_X10_put_32, k_X10_put_33, k_X10_put_34, k_X10_put_35, k_X10_put_36, k_X10_put_37, k_X10_put_38, k_X10_put_39, k_X10_put_40, k_X10_put_41, k_X10_put_42, oE_some, Int.reduceToNat, Nat.reduceAdd, true_and, and_true, List.length_cons, List.length_nil, Option.toList_some, Option.toList_none, List.cons_append, List.nil_append, Nat.reduceLeDiff, Nat.le_refl, wdS_nil, wdS_i, wdS_l, wdS_r, wdS_n, wdS_s, o9, c19, hh, w10, g0, a0, iso, w32_tn bs, wso, c0, im1, hi, c2, ↓reduceIte]
        · have n2 : (i < (L : Int)) = False := eq_false (by omega)
          simp only [AW_k, AWk_1, x_aload_0, x_aloads_0, x_getf, x_iload_1, x_callv_2, x_if_ne, x_push_i, x_push_l, x_ret, x_ret_i, x_ret_z, x_ret_l, x_ret_c, x_iald, x_ialds, x_icmp_ne, x_iload_2, x_if_lt, x_icmp_lt, x_aald, x_lload_3, x_call_2, x_last, k_X10_put_0, k_X10_put_1, k_X10_put_2, k_X10_put_3, k_X10_put_4, k_X10_put_5, k_X10_put_6, k_X10_put_7, k_X10_put_8, k_X10_put_9, k_X10_put_10, k_X10_put_11, k_X10_put_12, k_X10_put_13, k_X10_put_14, k_X10_put_15, k_X10_put_16, k_X10_put_17, k_X10_put_18, k_X10_put_19, k_X10_put_20, k_X10_put_21, k_X10_put_22, k_X10_put_23, k_X10_put_24, k_X10_put_25, k_X10_put_26, k_X10_put_27, k_X10_put_28, k_X10_put_29, k_X10_put_30, k_X10_put_31, k_X10_put_32, k_X10_put_33, k_X10_put_34, k_X10_put_35, k_X10_put_36, k_X10_put_37, k_X10_put_38, k_X10_put_39, k_X10_put_40, k_X10_put_41, k_X10_put_42, oE_some, Int.reduceToNat, Nat.reduceAdd, true_and, and_true, List.length_cons, List.length_nil, Option.toList_some, Option.toList_none, List.cons_append, List.nil_append, Nat.reduceLeDiff, Nat.le_refl, wdS_nil, wdS_i, wdS_l, wdS_r, wdS_n, wdS_s, o9, c19, hh, w10, g0, a0, iso, w32_tn bs, wso, c0, im1, hi, c2, g1, a1, ile, l1, w32_nat bL, n2, ↓reduceIte]
