/-! ===== the class's own methods: a row from a sheet; shelves ===== -/
def rfN (n : Nat) (l : List (BitVec 64)) : Nat → Nat → Nat → Option Nat
  | 0, _, acc => some acc
  | m + 1, k, acc => if 1 ≤ (l.getD k 0).toInt ∧ (l.getD k 0).toInt ≤ (n : Int) then rfN n l m (k + 1) (acc * 10 + (l.getD k 0).toInt.toNat) else none
theorem rfN_up (n : Nat) (l : List (BitVec 64)) (m k acc : Nat) : rfN n l (m + 1) k acc = if 1 ≤ (l.getD k 0).toInt ∧ (l.getD k 0).toInt ≤ (n : Int) then rfN n l m (k + 1) (acc * 10 + (l.getD k 0).toInt.toNat) else none := rfl
def rfE (n : Nat) (o : Option Nat) : Int := match o with
  | some a => match ixo n (a : Int) with
    | some _ => (a : Int)
    | none => -3
  | none => -3
theorem rfE_n {n a : Nat} (h : ixo n (a : Int) = none) : rfE n (some a) = -3 := by
  show (match ixo n (a : Int) with | some _ => (a : Int) | none => -3) = -3
  rw [h]
theorem rfE_s {n a i : Nat} (h : ixo n (a : Int) = some i) : rfE n (some a) = (a : Int) := by
  show (match ixo n (a : Int) with | some _ => (a : Int) | none => -3) = (a : Int)
  rw [h]
theorem rfN_0 (n : Nat) (l : List (BitVec 64)) (k acc : Nat) : rfN n l 0 k acc = some acc := rfl
theorem n_long : ∀ n : Nat, n < 7 → (BitVec.ofInt 64 (w32 (n : Int))).toInt = (n : Int) := by decide
theorem one_long : (1#64).toInt = 1 := by decide
set_option maxHeartbeats 16000000 in
theorem rf_loop (d : Nat) {hp : HP} {n : Nat} {G : BitVec 64} {z : Int} {c : Nat} {ks : List Int} {es : List Int} {ik : Bool} {kn : Nat} {kG : BitVec 64} {kz : Int} {kc : Nat} {kks : List Int} {kes : List Int} {tc : Nat} {tb : List Int} {sc : Nat} {tl : List Int} {so : List Int} {le : List Int} {it : Nat → List (BitVec 64)} {he : List Int} {th : List Int} {sl : List Int} {tr : Nat} {bo : List Int} {s I : Nat} {R : PO} (hX : XI hp n G z c ks es ik kn kG kz kc kks kes tc tb sc tl so le it he th sl tr bo) (hs : s < 4) (hI : I + n ≤ 40) : ∀ (m p acc : Nat) (y6 : Option AV), p + m = n → acc < 10 ^ p → (AWh (d + 99) [] 148 R 32 [some (mR 0), some (mI (s : Int)), some (mI (I : Int)), some (mI 0), some (mI (acc : Int)), some (mI (p : Int)), y6, none] [] hp (0, 0) ↔ R (some (mI (rfE n (rfN n (it s) m (I + p) acc)))) hp) := by
  obtain ⟨ra, ts, q0, q1, q2, q3, q4, q5, q6, q7, q8, q9, q10, q11, qk⟩ := hX
  have hR := q1.1
  have h1 := rw_1 hR
  have h6 := rw_6 hR
  have f1 := FC_le n
  have cR := rC0 hR
  have cA := rC1 hR
  have o0 : gF hp 0 10 0 = some (mR 1) := XO_F q0 0
  have o1 : gF hp 0 10 1 = some (mR ra) := XO_F q0 1
  have o2 : gF hp 0 10 2 = some (mL G) := XO_F q0 2
  have o3 : gF hp 0 10 3 = some (mI z) := XO_F q0 3
  have o4 : gF hp 0 10 4 = some (mR 2) := XO_F q0 4
  have o5 : gF hp 0 10 5 = some (mR 5) := XO_F q0 5
  have o6 : gF hp 0 10 6 = some (mR 10) := XO_F q0 6
  have o7 : gF hp 0 10 7 = some (mR 14) := XO_F q0 7
  have o8 : gF hp 0 10 8 = some (mR 17) := XO_F q0 8
  have o9 : gF hp 0 10 9 = some (mR 19) := XO_F q0 9
  have o10 : gF hp 0 10 10 = some (mR 27) := XO_F q0 10
  have o11 : gF hp 0 10 11 = some (mR 31) := XO_F q0 11
  have o12 : gF hp 0 10 12 = some (mR 33) := XO_F q0 12
  have o13 : gF hp 0 10 13 = some (mI (zI ik)) := XO_F q0 13
  have o14 : gF hp 0 10 14 = some (mI (kn : Int)) := XO_F q0 14
  have o15 : gF hp 0 10 15 = some (mL kG) := XO_F q0 15
  have o16 : gF hp 0 10 16 = some (mI kz) := XO_F q0 16
  have o17 : gF hp 0 10 17 = some (mR 34) := XO_F q0 17
  have cO := gC_of o0
  have c19 := gC_of q7.1.1.1
  have g0 : gF hp 19 5 0 = some (mR 20) := q7.1.1.1
  have g1 : gF hp 19 5 1 = some (mR 21) := q7.1.1.2.1
  have g2 : gF hp 19 5 2 = some (mR 22) := q7.1.1.2.2
  have a0 : gA hp 20 = some so := q7.1.2.1
  have a1 : gA hp 21 = some le := q7.1.2.2.1
  have gq : gQ hp 22 1 = some [some 23, some 24, some 25, some 26] := q7.1.2.2.2.1
  have gj : ∀ s, s < 4 → gJ hp (23 + s) = some (it s) := q7.1.2.2.2.2
  have gl : ∀ s, s < 4 → (it s).length = 40 := q7.2.2.2.1
  have lso : so.length = 4 := q7.2.1
  have lle : le.length = 4 := q7.2.2.1
  have i1 : w32 1 = 1 := rfl
  have im1 : w32 (-1) = -1 := rfl
  have i3 : w32 3 = 3 := rfl
  have i40 : w32 40 = 40 := rfl
  have bs : s < 2147483648 := by omega
  have i4 : inB (s : Int) 4 := inB_n hs (by decide)
  have hJ := gj s hs
  have hl := gl s hs
  have bn : n < 2147483648 := by omega
  have n7 : n < 7 := by omega
  intro m
  induction m with
  | zero =>
    intro p acc y6 hp2 hacc
    have e : p = n := by omega
    subst e
    have b9 : acc < 2147483648 := Nat.lt_of_lt_of_le hacc (Nat.le_trans (p10_le h6) (by decide))
    rw [rfN_0]
    cases ex : ixo p (acc : Int) with
    | none =>
      rw [rfE_n ex]
      rw [AWh_k, k_X10_rowFrom_32]
      simp only [AW_k, AWk_1, x_iload_5, x_aload_0, x_aloads_0, x_getf, x_icmp_ge, x_iload_1, x_aald, x_iload_2, x_iadd, x_lald, x_lstore_6, x_lload_6, x_push_i, x_push_l, x_lcmp, x_if_lt, x_i2l, x_if_le, x_ret, x_ret_i, x_ret_z, x_ret_l, x_ret_c, x_iload_4, x_imul, x_l2i, x_istore_4, x_iinc_5, x_goto, x_callv_2, x_if_ge, unl_i, unl_l, unl_q, unl_r, unl_s, unl_n, k_X10_rowFrom_32, k_X10_rowFrom_33, k_X10_rowFrom_34, k_X10_rowFrom_35, k_X10_rowFrom_36, k_X10_rowFrom_37, k_X10_rowFrom_38, k_X10_rowFrom_39, k_X10_rowFrom_40, k_X10_rowFrom_41, k_X10_rowFrom_42, k_X10_rowFrom_43, k_X10_rowFrom_44, k_X10_rowFrom_45, k_X10_rowFrom_46, k_X10_rowFrom_47, k_X10_rowFrom_48, k_X10_rowFrom_49, k_X10_rowFrom_50, k_X10_rowFrom_51, k_X10_rowFrom_52, k_X10_rowFrom_53, k_X10_rowFrom_54, k_X10_rowFrom_55, k_X10_rowFrom_56, k_X10_rowFrom_57, k_X10_rowFrom_58, k_X10_rowFrom_59, k_X10_rowFrom_60, k_X10_rowFrom_61, k_X10_rowFrom_62, k_X10_rowFrom_63, k_X10_rowFrom_64, k_X10_rowFrom_65, k_X10_rowFrom_66, k_X10_rowFrom_67, k_X10_rowFrom_68, k_X10_rowFrom_69, k_X10_rowFrom_70, k_X10_rowFrom_71, k_X10_rowFrom_72, k_X10_rowFrom_73, k_X10_rowFrom_74, k_X10_rowFrom_75, k_X10_rowFrom_76, k_X10_rowFrom_77, oE_some, Int.reduceToNat, Nat.reduceAdd, true_and, and_true, List.length_cons, List.length_nil, Option.toList_some, Option.toList_none, List.cons_append, List.nil_append, Nat.reduceLeDiff, Nat.le_refl, wdS_nil, wdS_i, wdS_l, wdS_r, wdS_n, wdS_s, o1, rw_n hR, cR, find_n (d + 98) hR (w32_nat b9) ex, wN, ↓reduceIte]
      rw [if_neg (Int.lt_irrefl _)]
    | some j =>
      have hj := ixo_lt ex
      have bj : j < 2147483648 := by omega
      rw [rfE_s ex]
      rw [AWh_k, k_X10_rowFrom_32]
      simp only [AW_k, AWk_1, x_iload_5, x_aload_0, x_aloads_0, x_getf, x_icmp_ge, x_iload_1, x_aald, x_iload_2, x_iadd, x_lald, x_lstore_6, x_lload_6, x_push_i, x_push_l, x_lcmp, x_if_lt, x_i2l, x_if_le, x_ret, x_ret_i, x_ret_z, x_ret_l, x_ret_c, x_iload_4, x_imul, x_l2i, x_istore_4, x_iinc_5, x_goto, x_callv_2, x_if_ge, unl_i, unl_l, unl_q, unl_r, unl_s, unl_n, k_X10_rowFrom_32, k_X10_rowFrom_33, k_X10_rowFrom_34, k_X10_rowFrom_35, k_X10_rowFrom_36, k_X10_rowFrom_37, k_X10_rowFrom_38, k_X10_rowFrom_39, k_X10_rowFrom_40, k_X10_rowFrom_41, k_X10_rowFrom_42, k_X10_rowFrom_43, k_X10_rowFrom_44, k_X10_rowFrom_45, k_X10_rowFrom_46, k_X10_rowFrom_47, k_X10_rowFrom_48, k_X10_rowFrom_49, k_X10_rowFrom_50, k_X10_rowFrom_51, k_X10_rowFrom_52, k_X10_rowFrom_53, k_X10_rowFrom_54, k_X10_rowFrom_55, k_X10_rowFrom_56, k_X10_rowFrom_57, k_X10_rowFrom_58, k_X10_rowFrom_59, k_X10_rowFrom_60, k_X10_rowFrom_61, k_X10_rowFrom_62, k_X10_rowFrom_63, k_X10_rowFrom_64, k_X10_rowFrom_65, k_X10_rowFrom_66, k_X10_rowFrom_67, k_X10_rowFrom_68, k_X10_rowFrom_69, k_X10_rowFrom_70, k_X10_rowFrom_71, k_X10_rowFrom_72, k_X10_rowFrom_73, k_X10_rowFrom_74, k_X10_rowFrom_75, k_X10_rowFrom_76, k_X10_rowFrom_77, oE_some, Int.reduceToNat, Nat.reduceAdd, true_and, and_true, List.length_cons, List.length_nil, Option.toList_some, Option.toList_none, List.cons_append, List.nil_append, Nat.reduceLeDiff, Nat.le_refl, wdS_nil, wdS_i, wdS_l, wdS_r, wdS_n, wdS_s, o1, rw_n hR, cR, find_s (d + 98) hR (w32_nat b9) ex, wI bj, ↓reduceIte]
      rw [if_neg (Int.lt_irrefl _)]
  | succ m ih =>
    intro p acc y6 hp2 hacc
    have bp : p < 2147483648 := by omega
    have n1 : ((p : Int) < (n : Int)) = True := eq_true (by omega)
    have e1 : (I : Int) + (p : Int) = ((I + p : Nat) : Int) := by omega
    have e2 : (p : Int) + 1 = ((p + 1 : Nat) : Int) := by omega
    have hk : I + p < 40 := by omega
    have bk : I + p < 2147483648 := by omega
    have e3 : I + p + 1 = I + (p + 1) := by omega
    have hp3 : p + 1 + m = n := by omega
    have ik : inB ((I + p : Nat) : Int) (it s).length := by rw [hl]; exact inB_n hk (by decide)
    rw [rfN_up]
    obtain ⟨v, hv⟩ : ∃ v, (it s).getD (I + p) 0 = v := ⟨_, rfl⟩
    rw [hv]
    by_cases c : 1 ≤ v.toInt ∧ v.toInt ≤ (n : Int)
    · rw [if_pos c]
      obtain ⟨u, hu⟩ : ∃ u : Nat, v.toInt = (u : Int) := ⟨v.toInt.toNat, by omega⟩
      have e4 : (acc : Int) * 10 + (u : Int) = ((acc * 10 + u : Nat) : Int) := by omega
      have n2 : ((u : Int) < 1) = False := eq_false (by omega)
      have n3 : ((n : Int) < (u : Int)) = False := eq_false (by omega)
      have n5 : ¬ ((n : Int) < (u : Int)) := by omega
      have hu9 : u ≤ 9 := by omega
      have hacc2 : acc * 10 + u < 10 ^ (p + 1) := by rw [Nat.pow_succ]; omega
      have hi := ih (p + 1) (acc * 10 + u) (some (mL v)) hp3 hacc2
      rw [hu, Int.toNat_natCast, e3]
      rw [AWh_k, k_X10_rowFrom_32]
      simp only [AW_k, AWk_1, x_iload_5, x_aload_0, x_aloads_0, x_getf, x_icmp_ge, x_iload_1, x_aald, x_iload_2, x_iadd, x_lald, x_lstore_6, x_lload_6, x_push_i, x_push_l, x_lcmp, x_if_lt, x_i2l, x_if_le, x_ret, x_ret_i, x_ret_z, x_ret_l, x_ret_c, x_iload_4, x_imul, x_l2i, x_istore_4, x_iinc_5, x_goto, unl_i, unl_l, unl_q, unl_r, unl_s, unl_n, k_X10_rowFrom_32, k_X10_rowFrom_33, k_X10_rowFrom_34, k_X10_rowFrom_35, k_X10_rowFrom_36, k_X10_rowFrom_37, k_X10_rowFrom_38, k_X10_rowFrom_39, k_X10_rowFrom_40, k_X10_rowFrom_41, k_X10_rowFrom_42, k_X10_rowFrom_43, k_X10_rowFrom_44, k_X10_rowFrom_45, k_X10_rowFrom_46, k_X10_rowFrom_47, k_X10_rowFrom_48, k_X10_rowFrom_49, k_X10_rowFrom_50, k_X10_rowFrom_51, k_X10_rowFrom_52, k_X10_rowFrom_53, k_X10_rowFrom_54, k_X10_rowFrom_55, k_X10_rowFrom_56, k_X10_rowFrom_57, k_X10_rowFrom_58, k_X10_rowFrom_59, k_X10_rowFrom_60, k_X10_rowFrom_61, k_X10_rowFrom_62, k_X10_rowFrom_63, k_X10_rowFrom_64, k_X10_rowFrom_65, k_X10_rowFrom_66, k_X10_rowFrom_67, k_X10_rowFrom_68, oE_some, Int.reduceToNat, Nat.reduceAdd, true_and, and_true, List.length_cons, List.length_nil, Option.toList_some, Option.toList_none, List.cons_append, List.nil_append, Nat.reduceLeDiff, Nat.le_refl, wdS_nil, wdS_i, wdS_l, wdS_r, wdS_n, wdS_s, o1, rw_n hR, w32_nat bp, w32_nat bn, n1, o9, g2, gq, i4, w32_tn bs, q4_get hs, hJ, e1, ik, w32_tn bk, hv, lCmp_lt, lCmp_gt, one_long, hu, n2, n3, e4, e2, List.length_cons, List.length_nil, Int.toNat_natCast, ↓reduceIte]
      have nl := n_long n n7
      rw [w32_nat bn] at nl
      rw [nl, if_neg n5]
      exact hi
    · rw [if_neg c]
      have c3 : ¬ v.toInt < 1 → (n : Int) < v.toInt := by omega
      have nl := n_long n n7
      rw [w32_nat bn] at nl
      rw [AWh_k, k_X10_rowFrom_32]
      by_cases c2 : v.toInt < 1
      · simp only [AW_k, AWk_1, x_iload_5, x_aload_0, x_aloads_0, x_getf, x_icmp_ge, x_iload_1, x_aald, x_iload_2, x_iadd, x_lald, x_lstore_6, x_lload_6, x_push_i, x_push_l, x_lcmp, x_if_lt, x_i2l, x_if_le, x_ret, x_ret_i, x_ret_z, x_ret_l, x_ret_c, unl_i, unl_l, unl_q, unl_r, unl_s, unl_n, k_X10_rowFrom_32, k_X10_rowFrom_33, k_X10_rowFrom_34, k_X10_rowFrom_35, k_X10_rowFrom_36, k_X10_rowFrom_37, k_X10_rowFrom_38, k_X10_rowFrom_39, k_X10_rowFrom_40, k_X10_rowFrom_41, k_X10_rowFrom_42, k_X10_rowFrom_43, k_X10_rowFrom_44, k_X10_rowFrom_45, k_X10_rowFrom_46, k_X10_rowFrom_47, k_X10_rowFrom_48, k_X10_rowFrom_49, k_X10_rowFrom_50, k_X10_rowFrom_51, k_X10_rowFrom_52, k_X10_rowFrom_53, k_X10_rowFrom_54, k_X10_rowFrom_55, k_X10_rowFrom_56, k_X10_rowFrom_57, k_X10_rowFrom_58, k_X10_rowFrom_59, oE_some, Int.reduceToNat, Nat.reduceAdd, true_and, and_true, List.length_cons, List.length_nil, Option.toList_some, Option.toList_none, List.cons_append, List.nil_append, Nat.reduceLeDiff, Nat.le_refl, wdS_nil, wdS_i, wdS_l, wdS_r, wdS_n, wdS_s, o1, rw_n hR, w32_nat bp, w32_nat bn, n1, o9, g2, gq, i4, w32_tn bs, q4_get hs, hJ, e1, ik, w32_tn bk, hv, lCmp_lt, lCmp_gt, one_long, c2, List.length_cons, List.length_nil, Int.toNat_natCast, ↓reduceIte]
        exact Iff.rfl
      · have c3 := c3 c2
        simp only [AW_k, AWk_1, x_iload_5, x_aload_0, x_aloads_0, x_getf, x_icmp_ge, x_iload_1, x_aald, x_iload_2, x_iadd, x_lald, x_lstore_6, x_lload_6, x_push_i, x_push_l, x_lcmp, x_if_lt, x_i2l, x_if_le, x_ret, x_ret_i, x_ret_z, x_ret_l, x_ret_c, unl_i, unl_l, unl_q, unl_r, unl_s, unl_n, k_X10_rowFrom_32, k_X10_rowFrom_33, k_X10_rowFrom_34, k_X10_rowFrom_35, k_X10_rowFrom_36, k_X10_rowFrom_37, k_X10_rowFrom_38, k_X10_rowFrom_39, k_X10_rowFrom_40, k_X10_rowFrom_41, k_X10_rowFrom_42, k_X10_rowFrom_43, k_X10_rowFrom_44, k_X10_rowFrom_45, k_X10_rowFrom_46, k_X10_rowFrom_47, k_X10_rowFrom_48, k_X10_rowFrom_49, k_X10_rowFrom_50, k_X10_rowFrom_51, k_X10_rowFrom_52, k_X10_rowFrom_53, k_X10_rowFrom_54, k_X10_rowFrom_55, k_X10_rowFrom_56, k_X10_rowFrom_57, k_X10_rowFrom_58, k_X10_rowFrom_59, oE_some, Int.reduceToNat, Nat.reduceAdd, true_and, and_true, List.length_cons, List.length_nil, Option.toList_some, Option.toList_none, List.cons_append, List.nil_append, Nat.reduceLeDiff, Nat.le_refl, wdS_nil, wdS_i, wdS_l, wdS_r, wdS_n, wdS_s, o1, rw_n hR, w32_nat bp, w32_nat bn, n1, o9, g2, gq, i4, w32_tn bs, q4_get hs, hJ, e1, ik, w32_tn bk, hv, lCmp_lt, lCmp_gt, one_long, c2, nl, c3, List.length_cons, List.length_nil, Int.toNat_natCast, ↓reduceIte]
        exact Iff.rfl
def rfA (n : Nat) (so le : List Int) (it : Nat → List (BitVec 64)) (x i : Int) : Int := match shO x with
  | some s => if so.getD s 0 = -1 then -11 else if so.getD s 0 = 0 then (if rchs (le.getD s 0) i (n : Int) = true then rfE n (rfN n (it s) n i.toNat 0) else -12) else -13
  | none => -1
set_option maxHeartbeats 16000000 in
theorem x10_rowFrom (d : Nat) {hp : HP} {n : Nat} {G : BitVec 64} {z : Int} {c : Nat} {ks : List Int} {es : List Int} {ik : Bool} {kn : Nat} {kG : BitVec 64} {kz : Int} {kc : Nat} {kks : List Int} {kes : List Int} {tc : Nat} {tb : List Int} {sc : Nat} {tl : List Int} {so : List Int} {le : List Int} {it : Nat → List (BitVec 64)} {he : List Int} {th : List Int} {sl : List Int} {tr : Nat} {bo : List Int} {x i : Int} (hX : XI hp n G z c ks es ik kn kG kz kc kks kes tc tb sc tl so le it he th sl tr bo) (hx : w32 x = x) (hi : w32 i = i) (R : PO) : callD (d + 100) 148 [mR 0, mI x, mI i] hp R ↔ R (some (mI (rfA n so le it x i))) hp := by
  have hX0 := hX
  obtain ⟨ra, ts, q0, q1, q2, q3, q4, q5, q6, q7, q8, q9, q10, q11, qk⟩ := hX
  have hR := q1.1
  have h1 := rw_1 hR
  have h6 := rw_6 hR
  have f1 := FC_le n
  have cR := rC0 hR
  have cA := rC1 hR
  have o0 : gF hp 0 10 0 = some (mR 1) := XO_F q0 0
  have o1 : gF hp 0 10 1 = some (mR ra) := XO_F q0 1
  have o2 : gF hp 0 10 2 = some (mL G) := XO_F q0 2
  have o3 : gF hp 0 10 3 = some (mI z) := XO_F q0 3
  have o4 : gF hp 0 10 4 = some (mR 2) := XO_F q0 4
  have o5 : gF hp 0 10 5 = some (mR 5) := XO_F q0 5
  have o6 : gF hp 0 10 6 = some (mR 10) := XO_F q0 6
  have o7 : gF hp 0 10 7 = some (mR 14) := XO_F q0 7
  have o8 : gF hp 0 10 8 = some (mR 17) := XO_F q0 8
  have o9 : gF hp 0 10 9 = some (mR 19) := XO_F q0 9
  have o10 : gF hp 0 10 10 = some (mR 27) := XO_F q0 10
  have o11 : gF hp 0 10 11 = some (mR 31) := XO_F q0 11
  have o12 : gF hp 0 10 12 = some (mR 33) := XO_F q0 12
  have o13 : gF hp 0 10 13 = some (mI (zI ik)) := XO_F q0 13
  have o14 : gF hp 0 10 14 = some (mI (kn : Int)) := XO_F q0 14
  have o15 : gF hp 0 10 15 = some (mL kG) := XO_F q0 15
  have o16 : gF hp 0 10 16 = some (mI kz) := XO_F q0 16
  have o17 : gF hp 0 10 17 = some (mR 34) := XO_F q0 17
  have cO := gC_of o0
  have c19 := gC_of q7.1.1.1
  have g0 : gF hp 19 5 0 = some (mR 20) := q7.1.1.1
  have g1 : gF hp 19 5 1 = some (mR 21) := q7.1.1.2.1
  have g2 : gF hp 19 5 2 = some (mR 22) := q7.1.1.2.2
  have a0 : gA hp 20 = some so := q7.1.2.1
  have a1 : gA hp 21 = some le := q7.1.2.2.1
  have gq : gQ hp 22 1 = some [some 23, some 24, some 25, some 26] := q7.1.2.2.2.1
  have gj : ∀ s, s < 4 → gJ hp (23 + s) = some (it s) := q7.1.2.2.2.2
  have gl : ∀ s, s < 4 → (it s).length = 40 := q7.2.2.2.1
  have lso : so.length = 4 := q7.2.1
  have lle : le.length = 4 := q7.2.2.1
  have i1 : w32 1 = 1 := rfl
  have im1 : w32 (-1) = -1 := rfl
  have i3 : w32 3 = 3 := rfl
  have i40 : w32 40 = 40 := rfl
  unfold rfA
  cases ex : shO x with
  | none =>
    rw [callD_k]; simp only [entL_i, entL_l, entL_q, entL_s, entL_nil, n_X10_rowFrom, u_X10_rowFrom, m_X10_rowFrom, rep_5, List.cons_append, List.nil_append, List.append_nil, List.length_cons, List.length_nil, Nat.reduceAdd, true_and]
    simp only [AW_k, AWk_1, x_aload_0, x_aloads_0, x_getf, x_iload_1, x_callv_2, x_if_ne, x_push_i, x_push_l, x_ret, x_ret_i, x_ret_z, x_ret_l, x_ret_c, x_callv_3, x_istore_3, x_iload_3, x_if_ge, x_iload_2, x_callv_4, x_istore_4, x_istore_5, x_iload_5, x_icmp_ge, x_aald, x_iadd, x_lald, x_lstore_6, x_lload_6, x_lcmp, x_if_lt, x_i2l, x_if_le, x_iload_4, x_imul, x_l2i, x_iinc_5, x_goto, unl_i, unl_l, unl_q, unl_r, unl_s, unl_n, k_X10_rowFrom_0, k_X10_rowFrom_1, k_X10_rowFrom_2, k_X10_rowFrom_3, k_X10_rowFrom_4, k_X10_rowFrom_5, k_X10_rowFrom_6, k_X10_rowFrom_7, k_X10_rowFrom_8, k_X10_rowFrom_9, k_X10_rowFrom_10, k_X10_rowFrom_11, k_X10_rowFrom_12, k_X10_rowFrom_13, k_X10_rowFrom_14, k_X10_rowFrom_15, k_X10_rowFrom_16, k_X10_rowFrom_17, k_X10_rowFrom_18, k_X10_rowFrom_19, k_X10_rowFrom_20, k_X10_rowFrom_21, k_X10_rowFrom_22, k_X10_rowFrom_23, k_X10_rowFrom_24, k_X10_rowFrom_25, k_X10_rowFrom_26, k_X10_rowFrom_27, k_X10_rowFrom_28, k_X10_rowFrom_29, k_X10_rowFrom_30, k_X10_rowFrom_31, k_X10_rowFrom_32, k_X10_rowFrom_33, k_X10_rowFrom_34, k_X10_rowFrom_35, k_X10_rowFrom_36, k_X10_rowFrom_37, k_X10_rowFrom_38, k_X10_rowFrom_39, k_X10_rowFrom_40, k_X10_rowFrom_41, k_X10_rowFrom_42, k_X10_rowFrom_43, k_X10_rowFrom_44, k_X10_rowFrom_45, k_X10_rowFrom_46, k_X10_rowFrom_47, k_X10_rowFrom_48, k_X10_rowFrom_49, k_X10_rowFrom_50, k_X10_rowFrom_51, k_X10_rowFrom_52, k_X10_rowFrom_53, k_X10_rowFrom_54, k_X10_rowFrom_55, k_X10_rowFrom_56, k_X10_rowFrom_57, k_X10_rowFrom_58, k_X10_rowFrom_59, k_X10_rowFrom_60, k_X10_rowFrom_61, k_X10_rowFrom_62, k_X10_rowFrom_63, k_X10_rowFrom_64, k_X10_rowFrom_65, k_X10_rowFrom_66, k_X10_rowFrom_67, k_X10_rowFrom_68, k_X10_rowFrom_69, k_X10_rowFrom_70, k_X10_rowFrom_71, k_X10_rowFrom_72, k_X10_rowFrom_73, k_X10_rowFrom_74, k_X10_rowFrom_75, k_X10_rowFrom_76, k_X10_rowFrom_77, oE_some, Int.reduceToNat, Nat.reduceAdd, true_and, and_true, List.length_cons, List.length_nil, Option.toList_some, Option.toList_none, List.cons_append, List.nil_append, Nat.reduceLeDiff, Nat.le_refl, wdS_nil, wdS_i, wdS_l, wdS_r, wdS_n, wdS_s, o9, c19, has5_n (d + 98) hx ex, w00, ↓reduceIte]
  | some s =>
    obtain ⟨hs, es'⟩ := shO_lt ex
    have hh := fun R => has5_s (d + 98) (hp := hp) (a := 19) hx ex R
    obtain ⟨L, l1, l2, l3, l4⟩ := q7.2.2.2.2 s hs
    have bn : n < 2147483648 := by omega
    have cr := fun R => c5_refusal (d + 98) (s := 0) q7.1 q7.2 hs rfl R
    have r1 := fun R => c5_reaches (d + 98) (i := i) (n := (n : Int)) q7.1 q7.2 hs hi (w32_nat bn) R
    have m11 : (w32 (-11) < 0) = True := eq_true (by decide)
    have m13 : (w32 (-13) < 0) = True := eq_true (by decide)
    have m0 : (w32 0 < 0) = False := eq_false (by decide)
    subst es'
    by_cases c2 : so.getD s 0 = -1
    · rw [if_pos c2] at cr
      simp only [if_pos c2]
      rw [callD_k]; simp only [entL_i, entL_l, entL_q, entL_s, entL_nil, n_X10_rowFrom, u_X10_rowFrom, m_X10_rowFrom, rep_5, List.cons_append, List.nil_append, List.append_nil, List.length_cons, List.length_nil, Nat.reduceAdd, true_and]
      simp only [AW_k, AWk_1, x_aload_0, x_aloads_0, x_getf, x_iload_1, x_callv_2, x_if_ne, x_push_i, x_push_l, x_ret, x_ret_i, x_ret_z, x_ret_l, x_ret_c, x_callv_3, x_istore_3, x_iload_3, x_if_ge, x_iload_2, x_callv_4, x_istore_4, x_istore_5, x_iload_5, x_icmp_ge, x_aald, x_iadd, x_lald, x_lstore_6, x_lload_6, x_lcmp, x_if_lt, x_i2l, x_if_le, x_iload_4, x_imul, x_l2i, x_iinc_5, x_goto, unl_i, unl_l, unl_q, unl_r, unl_s, unl_n, k_X10_rowFrom_0, k_X10_rowFrom_1, k_X10_rowFrom_2, k_X10_rowFrom_3, k_X10_rowFrom_4, k_X10_rowFrom_5, k_X10_rowFrom_6, k_X10_rowFrom_7, k_X10_rowFrom_8, k_X10_rowFrom_9, k_X10_rowFrom_10, k_X10_rowFrom_11, k_X10_rowFrom_12, k_X10_rowFrom_13, k_X10_rowFrom_14, k_X10_rowFrom_15, k_X10_rowFrom_16, k_X10_rowFrom_17, k_X10_rowFrom_18, k_X10_rowFrom_19, k_X10_rowFrom_20, k_X10_rowFrom_21, k_X10_rowFrom_22, k_X10_rowFrom_23, k_X10_rowFrom_24, k_X10_rowFrom_25, k_X10_rowFrom_26, k_X10_rowFrom_27, k_X10_rowFrom_28, k_X10_rowFrom_29, k_X10_rowFrom_30, k_X10_rowFrom_31, k_X10_rowFrom_32, k_X10_rowFrom_33, k_X10_rowFrom_34, k_X10_rowFrom_35, k_X10_rowFrom_36, k_X10_rowFrom_37, k_X10_rowFrom_38, k_X10_rowFrom_39, k_X10_rowFrom_40, k_X10_rowFrom_41, k_X10_rowFrom_42, k_X10_rowFrom_43, k_X10_rowFrom_44, k_X10_rowFrom_45, k_X10_rowFrom_46, k_X10_rowFrom_47, k_X10_rowFrom_48, k_X10_rowFrom_49, k_X10_rowFrom_50, k_X10_rowFrom_51, k_X10_rowFrom_52, k_X10_rowFrom_53, k_X10_rowFrom_54, k_X10_rowFrom_55, k_X10_rowFrom_56, k_X10_rowFrom_57, k_X10_rowFrom_58, k_X10_rowFrom_59, k_X10_rowFrom_60, k_X10_rowFrom_61, k_X10_rowFrom_62, k_X10_rowFrom_63, k_X10_rowFrom_64, k_X10_rowFrom_65, k_X10_rowFrom_66, k_X10_rowFrom_67, k_X10_rowFrom_68, k_X10_rowFrom_69, k_X10_rowFrom_70, k_X10_rowFrom_71, k_X10_rowFrom_72, k_X10_rowFrom_73, k_X10_rowFrom_74, k_X10_rowFrom_75, k_X10_rowFrom_76, k_X10_rowFrom_77, oE_some, Int.reduceToNat, Nat.reduceAdd, true_and, and_true, List.length_cons, List.length_nil, Option.toList_some, Option.toList_none, List.cons_append, List.nil_append, Nat.reduceLeDiff, Nat.le_refl, wdS_nil, wdS_i, wdS_l, wdS_r, wdS_n, wdS_s, o9, c19, hh, w10, i1, Int.reduceEq, cr, m11, ↓reduceIte]
    · rw [if_neg c2] at cr
      by_cases c3 : so.getD s 0 = 0
      · rw [if_pos c3] at cr
        cases er : rchs (le.getD s 0) i (n : Int) with
        | false =>
          rw [er] at r1
          simp only [if_neg c2, if_pos c3, er, Bool.false_eq_true, ↓reduceIte]
          rw [callD_k]; simp only [entL_i, entL_l, entL_q, entL_s, entL_nil, n_X10_rowFrom, u_X10_rowFrom, m_X10_rowFrom, rep_5, List.cons_append, List.nil_append, List.append_nil, List.length_cons, List.length_nil, Nat.reduceAdd, true_and]
          simp only [AW_k, AWk_1, x_aload_0, x_aloads_0, x_getf, x_iload_1, x_callv_2, x_if_ne, x_push_i, x_push_l, x_ret, x_ret_i, x_ret_z, x_ret_l, x_ret_c, x_callv_3, x_istore_3, x_iload_3, x_if_ge, x_iload_2, x_callv_4, x_istore_4, x_istore_5, x_iload_5, x_icmp_ge, x_aald, x_iadd, x_lald, x_lstore_6, x_lload_6, x_lcmp, x_if_lt, x_i2l, x_if_le, x_iload_4, x_imul, x_l2i, x_iinc_5, x_goto, unl_i, unl_l, unl_q, unl_r, unl_s, unl_n, k_X10_rowFrom_0, k_X10_rowFrom_1, k_X10_rowFrom_2, k_X10_rowFrom_3, k_X10_rowFrom_4, k_X10_rowFrom_5, k_X10_rowFrom_6, k_X10_rowFrom_7, k_X10_rowFrom_8, k_X10_rowFrom_9, k_X10_rowFrom_10, k_X10_rowFrom_11, k_X10_rowFrom_12, k_X10_rowFrom_13, k_X10_rowFrom_14, k_X10_rowFrom_15, k_X10_rowFrom_16, k_X10_rowFrom_17, k_X10_rowFrom_18, k_X10_rowFrom_19, k_X10_rowFrom_20, k_X10_rowFrom_21, k_X10_rowFrom_22, k_X10_rowFrom_23, k_X10_rowFrom_24, k_X10_rowFrom_25, k_X10_rowFrom_26, k_X10_rowFrom_27, k_X10_rowFrom_28, k_X10_rowFrom_29, k_X10_rowFrom_30, k_X10_rowFrom_31, k_X10_rowFrom_32, k_X10_rowFrom_33, k_X10_rowFrom_34, k_X10_rowFrom_35, k_X10_rowFrom_36, k_X10_rowFrom_37, k_X10_rowFrom_38, k_X10_rowFrom_39, k_X10_rowFrom_40, k_X10_rowFrom_41, k_X10_rowFrom_42, k_X10_rowFrom_43, k_X10_rowFrom_44, k_X10_rowFrom_45, k_X10_rowFrom_46, k_X10_rowFrom_47, k_X10_rowFrom_48, k_X10_rowFrom_49, k_X10_rowFrom_50, k_X10_rowFrom_51, k_X10_rowFrom_52, k_X10_rowFrom_53, k_X10_rowFrom_54, k_X10_rowFrom_55, k_X10_rowFrom_56, k_X10_rowFrom_57, k_X10_rowFrom_58, k_X10_rowFrom_59, k_X10_rowFrom_60, k_X10_rowFrom_61, k_X10_rowFrom_62, k_X10_rowFrom_63, k_X10_rowFrom_64, k_X10_rowFrom_65, k_X10_rowFrom_66, k_X10_rowFrom_67, k_X10_rowFrom_68, k_X10_rowFrom_69, k_X10_rowFrom_70, k_X10_rowFrom_71, k_X10_rowFrom_72, k_X10_rowFrom_73, k_X10_rowFrom_74, k_X10_rowFrom_75, k_X10_rowFrom_76, k_X10_rowFrom_77, oE_some, Int.reduceToNat, Nat.reduceAdd, true_and, and_true, List.length_cons, List.length_nil, Option.toList_some, Option.toList_none, List.cons_append, List.nil_append, Nat.reduceLeDiff, Nat.le_refl, wdS_nil, wdS_i, wdS_l, wdS_r, wdS_n, wdS_s, o9, c19, hh, w10, w00, zI_f, i1, Int.reduceEq, cr, m0, o1, rw_n hR, r1, ↓reduceIte]
        | true =>
          rw [er] at r1
          obtain ⟨t1, t2, t3, t4⟩ := rchs_t er
          obtain ⟨I, eI⟩ : ∃ I : Nat, i = (I : Int) := ⟨i.toNat, by omega⟩
          subst eI
          have hI : I + n ≤ 40 := by omega
          simp only [if_neg c2, if_pos c3, er, Int.toNat_natCast, ↓reduceIte]
          rw [callD_k]; simp only [entL_i, entL_l, entL_q, entL_s, entL_nil, n_X10_rowFrom, u_X10_rowFrom, m_X10_rowFrom, rep_5, List.cons_append, List.nil_append, List.append_nil, List.length_cons, List.length_nil, Nat.reduceAdd, true_and]
          simp only [AW_k, AWk_1, x_aload_0, x_aloads_0, x_getf, x_iload_1, x_callv_2, x_if_ne, x_push_i, x_push_l, x_ret, x_ret_i, x_ret_z, x_ret_l, x_ret_c, x_callv_3, x_istore_3, x_iload_3, x_if_ge, x_iload_2, x_callv_4, x_istore_4, x_istore_5, x_iload_5, unl_i, unl_l, unl_q, unl_r, unl_s, unl_n, k_X10_rowFrom_0, k_X10_rowFrom_1, k_X10_rowFrom_2, k_X10_rowFrom_3, k_X10_rowFrom_4, k_X10_rowFrom_5, k_X10_rowFrom_6, k_X10_rowFrom_7, k_X10_rowFrom_8, k_X10_rowFrom_9, k_X10_rowFrom_10, k_X10_rowFrom_11, k_X10_rowFrom_12, k_X10_rowFrom_13, k_X10_rowFrom_14, k_X10_rowFrom_15, k_X10_rowFrom_16, k_X10_rowFrom_17, k_X10_rowFrom_18, k_X10_rowFrom_19, k_X10_rowFrom_20, k_X10_rowFrom_21, k_X10_rowFrom_22, k_X10_rowFrom_23, k_X10_rowFrom_24, k_X10_rowFrom_25, k_X10_rowFrom_26, k_X10_rowFrom_27, k_X10_rowFrom_28, k_X10_rowFrom_29, k_X10_rowFrom_30, k_X10_rowFrom_31, k_X10_rowFrom_32, oE_some, Int.reduceToNat, Nat.reduceAdd, true_and, and_true, List.length_cons, List.length_nil, Option.toList_some, Option.toList_none, List.cons_append, List.nil_append, Nat.reduceLeDiff, Nat.le_refl, wdS_nil, wdS_i, wdS_l, wdS_r, wdS_n, wdS_s, o9, c19, hh, w10, w00, zI_t, i1, Int.reduceEq, cr, m0, o1, rw_n hR, r1, ↓reduceIte]
          exact rf_loop d (R := R) hX0 hs hI n 0 0 none (Nat.zero_add n) Nat.one_pos
      · rw [if_neg c3] at cr
        simp only [if_neg c2, if_neg c3]
        rw [callD_k]; simp only [entL_i, entL_l, entL_q, entL_s, entL_nil, n_X10_rowFrom, u_X10_rowFrom, m_X10_rowFrom, rep_5, List.cons_append, List.nil_append, List.append_nil, List.length_cons, List.length_nil, Nat.reduceAdd, true_and]
        simp only [AW_k, AWk_1, x_aload_0, x_aloads_0, x_getf, x_iload_1, x_callv_2, x_if_ne, x_push_i, x_push_l, x_ret, x_ret_i, x_ret_z, x_ret_l, x_ret_c, x_callv_3, x_istore_3, x_iload_3, x_if_ge, x_iload_2, x_callv_4, x_istore_4, x_istore_5, x_iload_5, x_icmp_ge, x_aald, x_iadd, x_lald, x_lstore_6, x_lload_6, x_lcmp, x_if_lt, x_i2l, x_if_le, x_iload_4, x_imul, x_l2i, x_iinc_5, x_goto, unl_i, unl_l, unl_q, unl_r, unl_s, unl_n, k_X10_rowFrom_0, k_X10_rowFrom_1, k_X10_rowFrom_2, k_X10_rowFrom_3, k_X10_rowFrom_4, k_X10_rowFrom_5, k_X10_rowFrom_6, k_X10_rowFrom_7, k_X10_rowFrom_8, k_X10_rowFrom_9, k_X10_rowFrom_10, k_X10_rowFrom_11, k_X10_rowFrom_12, k_X10_rowFrom_13, k_X10_rowFrom_14, k_X10_rowFrom_15, k_X10_rowFrom_16, k_X10_rowFrom_17, k_X10_rowFrom_18, k_X10_rowFrom_19, k_X10_rowFrom_20, k_X10_rowFrom_21, k_X10_rowFrom_22, k_X10_rowFrom_23, k_X10_rowFrom_24, k_X10_rowFrom_25, k_X10_rowFrom_26, k_X10_rowFrom_27, k_X10_rowFrom_28, k_X10_rowFrom_29, k_X10_rowFrom_30, k_X10_rowFrom_31, k_X10_rowFrom_32, k_X10_rowFrom_33, k_X10_rowFrom_34, k_X10_rowFrom_35, k_X10_rowFrom_36, k_X10_rowFrom_37, k_X10_rowFrom_38, k_X10_rowFrom_39, k_X10_rowFrom_40, k_X10_rowFrom_41, k_X10_rowFrom_42, k_X10_rowFrom_43, k_X10_rowFrom_44, k_X10_rowFrom_45, k_X10_rowFrom_46, k_X10_rowFrom_47, k_X10_rowFrom_48, k_X10_rowFrom_49, k_X10_rowFrom_50, k_X10_rowFrom_51, k_X10_rowFrom_52, k_X10_rowFrom_53, k_X10_rowFrom_54, k_X10_rowFrom_55, k_X10_rowFrom_56, k_X10_rowFrom_57, k_X10_rowFrom_58, k_X10_rowFrom_59, k_X10_rowFrom_60, k_X10_rowFrom_61, k_X10_rowFrom_62, k_X10_rowFrom_63, k_X10_rowFrom_64, k_X10_rowFrom_65, k_X10_rowFrom_66, k_X10_rowFrom_67, k_X10_rowFrom_68, k_X10_rowFrom_69, k_X10_rowFrom_70, k_X10_rowFrom_71, k_X10_rowFrom_72, k_X10_rowFrom_73, k_X10_rowFrom_74, k_X10_rowFrom_75, k_X10_rowFrom_76, k_X10_rowFrom_77, oE_some, Int.reduceToNat, Nat.reduceAdd, true_and, and_true, List.length_cons, List.length_nil, Option.toList_some, Option.toList_none, List.cons_append, List.nil_append, Nat.reduceLeDiff, Nat.le_refl, wdS_nil, wdS_i, wdS_l, wdS_r, wdS_n, wdS_s, o9, c19, hh, w10, i1, Int.reduceEq, cr, m13, ↓reduceIte]
