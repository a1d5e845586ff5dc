/-! ===== the class's own methods: which maker it was ===== -/
/-- a three of a sheet -/
def iv (l : List (BitVec 64)) (i : Nat) : Int := w32 (l.getD i 0).toInt
def ft1 (n : Nat) (G : BitVec 64) (l : List (BitVec 64)) (i : Nat) : Bool := match ixo n (iv l i) with
  | some a => match ixo n (iv l (i + 1)) with
    | some b => decide (l.getD (i + 2) 0 = if lst n G a = lst n G b then 1#64 else 0#64)
    | none => false
  | none => false
theorem ft1_n {n i : Nat} {G : BitVec 64} {l : List (BitVec 64)} (h : ixo n (iv l i) = none) : ft1 n G l i = false := by unfold ft1; rw [h]
theorem ft1_m {n i a : Nat} {G : BitVec 64} {l : List (BitVec 64)} (h : ixo n (iv l i) = some a) (h2 : ixo n (iv l (i + 1)) = none) : ft1 n G l i = false := by unfold ft1; rw [h, h2]
theorem ft1_s {n i a b : Nat} {G : BitVec 64} {l : List (BitVec 64)} (h : ixo n (iv l i) = some a) (h2 : ixo n (iv l (i + 1)) = some b) : ft1 n G l i = decide (l.getD (i + 2) 0 = if lst n G a = lst n G b then 1#64 else 0#64) := by unfold ft1; rw [h, h2]
def ftA (n : Nat) (G : BitVec 64) (l : List (BitVec 64)) : Nat → Nat → Bool
  | 0, _ => true
  | m + 1, i => ft1 n G l i && ftA n G l m (i + 3)
theorem ftA_succ (n : Nat) (G : BitVec 64) (l : List (BitVec 64)) (m i : Nat) : ftA n G l (m + 1) i = (ft1 n G l i && ftA n G l m (i + 3)) := rfl
def ftW (n : Nat) (G : BitVec 64) (L : Nat) (l : List (BitVec 64)) : Bool := decide (L % 3 = 0) && ftA n G l (L / 3) 0
theorem ft_loop (d : Nat) {hp : HP} {n : Nat} {G : BitVec 64} {z : Int} {c : Nat} {ks : List Int} {es : List Int} {ik : Bool} {kn : Nat} {kG : BitVec 64} {kz : Int} {kc : Nat} {kks : List Int} {kes : List Int} {tc : Nat} {tb : List Int} {sc : Nat} {tl : List Int} {so : List Int} {le : List Int} {it : Nat → List (BitVec 64)} {he : List Int} {th : List Int} {sl : List Int} {tr : Nat} {bo : List Int} {s L : Nat} {H : BitVec 64} {R : PO} (hX : XI hp n G z c ks es ik kn kG kz kc kks kes tc tb sc tl so le it he th sl tr bo) (hs : s < 4) (hL : L ≤ 40) : ∀ (m i : Nat) (y6 y7 y8 : Option AV), i + 3 * m = L → (AWh (d + 9) [] 136 R 14 [some (mR 0), some (mI (s : Int)), some (mL H), none, some (mI (L : Int)), some (mI (i : Int)), y6, y7, y8] [] hp (0, 0) ↔ R (some (mI (zI (ftA n H (it s) m i)))) hp) := by
  obtain ⟨ra, ts, q0, q1, q2, q3, q4, q5, q6, q7, q8, q9, q10, q11, qk⟩ := hX
  have hR := q1.1
  have h1 := rw_1 hR
  have h6 := rw_6 hR
  have f1 := FC_le n
  have cR := rC0 hR
  have cA := rC1 hR
  have o0 : gF hp 0 10 0 = some (mR 1) := XO_F q0 0
  have o1 : gF hp 0 10 1 = some (mR ra) := XO_F q0 1
  have o2 : gF hp 0 10 2 = some (mL G) := XO_F q0 2
  have o3 : gF hp 0 10 3 = some (mI z) := XO_F q0 3
  have o4 : gF hp 0 10 4 = some (mR 2) := XO_F q0 4
  have o5 : gF hp 0 10 5 = some (mR 5) := XO_F q0 5
  have o6 : gF hp 0 10 6 = some (mR 10) := XO_F q0 6
  have o7 : gF hp 0 10 7 = some (mR 14) := XO_F q0 7
  have o8 : gF hp 0 10 8 = some (mR 17) := XO_F q0 8
  have o9 : gF hp 0 10 9 = some (mR 19) := XO_F q0 9
  have o10 : gF hp 0 10 10 = some (mR 27) := XO_F q0 10
  have o11 : gF hp 0 10 11 = some (mR 31) := XO_F q0 11
  have o12 : gF hp 0 10 12 = some (mR 33) := XO_F q0 12
  have o13 : gF hp 0 10 13 = some (mI (zI ik)) := XO_F q0 13
  have o14 : gF hp 0 10 14 = some (mI (kn : Int)) := XO_F q0 14
  have o15 : gF hp 0 10 15 = some (mL kG) := XO_F q0 15
  have o16 : gF hp 0 10 16 = some (mI kz) := XO_F q0 16
  have o17 : gF hp 0 10 17 = some (mR 34) := XO_F q0 17
  have cO := gC_of o0
  have g21 : gF hp 19 5 2 = some (mR 22) := q7.1.1.2.2
  have gq : gQ hp 22 1 = some [some 23, some 24, some 25, some 26] := q7.1.2.2.2.1
  have gj : gJ hp (23 + s) = some (it s) := q7.1.2.2.2.2 s hs
  have gl : (it s).length = 40 := q7.2.2.2.1 s hs
  have bs : s < 2147483648 := by omega
  have eq4 : ([some 23, some 24, some 25, some 26] : List (Option Nat)).getD s none = some (23 + s) := by
    rcases (show s = 0 ∨ s = 1 ∨ s = 2 ∨ s = 3 by omega) with e | e | e | e <;> subst e <;> rfl
  have is4 : inB (s : Int) 4 := inB_n hs (by decide)
  intro m
  induction m with
  | zero =>
    intro i y6 y7 y8 hi
    have e : i = L := by omega
    subst e
    have bi : i < 2147483648 := by omega
    have e2 : (i : Int) + 2 = ((i + 2 : Nat) : Int) := by omega
    have b2 : i + 2 < 2147483648 := by omega
    have n1 : (((i + 2 : Nat) : Int) < (i : Int)) = False := eq_false (by omega)
    rw [AWh_k, k_X10_fitsThrees_14]
    simp only [AW_k, AWk_1, x_iload_5, x_push_i, x_push_l, x_iadd, x_iload_4, x_icmp_ge, x_aload_0, x_aloads_0, x_getf, x_iload_1, x_aald, x_lald, x_l2i, x_callv_2, x_istore_6, x_istore_7, x_iload_6, x_if_lt, x_iload_7, x_if_ge, x_ret, x_ret_i, x_ret_z, x_ret_l, x_ret_c, x_lload_2, x_callv_3, x_icmp_ne, x_goto, x_istore_8, x_iload_8, x_if_eq, x_i2l, x_lcmp, x_iinc_5, unl_i, unl_l, unl_q, unl_r, unl_s, unl_n, k_X10_fitsThrees_14, k_X10_fitsThrees_15, k_X10_fitsThrees_16, k_X10_fitsThrees_17, k_X10_fitsThrees_18, k_X10_fitsThrees_19, k_X10_fitsThrees_20, k_X10_fitsThrees_21, k_X10_fitsThrees_22, k_X10_fitsThrees_23, k_X10_fitsThrees_24, k_X10_fitsThrees_25, k_X10_fitsThrees_26, k_X10_fitsThrees_27, k_X10_fitsThrees_28, k_X10_fitsThrees_29, k_X10_fitsThrees_30, k_X10_fitsThrees_31, k_X10_fitsThrees_32, k_X10_fitsThrees_33, k_X10_fitsThrees_34, k_X10_fitsThrees_35, k_X10_fitsThrees_36, k_X10_fitsThrees_37, k_X10_fitsThrees_38, k_X10_fitsThrees_39, k_X10_fitsThrees_40, k_X10_fitsThrees_41, k_X10_fitsThrees_42, k_X10_fitsThrees_43, k_X10_fitsThrees_44, k_X10_fitsThrees_45, k_X10_fitsThrees_46, k_X10_fitsThrees_47, k_X10_fitsThrees_48, k_X10_fitsThrees_49, k_X10_fitsThrees_50, k_X10_fitsThrees_51, k_X10_fitsThrees_52, k_X10_fitsThrees_53, k_X10_fitsThrees_54, k_X10_fitsThrees_55, k_X10_fitsThrees_56, k_X10_fitsThrees_57, k_X10_fitsThrees_58, k_X10_fitsThrees_59, k_X10_fitsThrees_60, k_X10_fitsThrees_61, k_X10_fitsThrees_62, k_X10_fitsThrees_63, k_X10_fitsThrees_64, k_X10_fitsThrees_65, k_X10_fitsThrees_66, k_X10_fitsThrees_67, k_X10_fitsThrees_68, k_X10_fitsThrees_69, k_X10_fitsThrees_70, k_X10_fitsThrees_71, k_X10_fitsThrees_72, k_X10_fitsThrees_73, k_X10_fitsThrees_74, k_X10_fitsThrees_75, k_X10_fitsThrees_76, k_X10_fitsThrees_77, k_X10_fitsThrees_78, k_X10_fitsThrees_79, k_X10_fitsThrees_80, k_X10_fitsThrees_81, k_X10_fitsThrees_82, k_X10_fitsThrees_83, k_X10_fitsThrees_84, k_X10_fitsThrees_85, k_X10_fitsThrees_86, k_X10_fitsThrees_87, k_X10_fitsThrees_88, oE_some, Int.reduceToNat, Nat.reduceAdd, true_and, and_true, List.length_cons, List.length_nil, Option.toList_some, Option.toList_none, List.cons_append, List.nil_append, Nat.reduceLeDiff, Nat.le_refl, wdS_nil, wdS_i, wdS_l, wdS_r, wdS_n, wdS_s, e2, w32_nat b2, w32_nat bi, n1, ↓reduceIte]
    exact ⟨fun q => q.2, fun q => ⟨Or.inr trivial, q⟩⟩
  | succ m ih =>
    intro i y6 y7 y8 hi
    have bL : L < 2147483648 := by omega
    have e1 : (i : Int) + 1 = ((i + 1 : Nat) : Int) := by omega
    have e2 : (i : Int) + 2 = ((i + 2 : Nat) : Int) := by omega
    have e3 : (i : Int) + 3 = ((i + 3 : Nat) : Int) := by omega
    have b0 : i < 2147483648 := by omega
    have b1 : i + 1 < 2147483648 := by omega
    have b2 : i + 2 < 2147483648 := by omega
    have n1 : (((i + 2 : Nat) : Int) < (L : Int)) = True := eq_true (by omega)
    have l0 : inB (i : Int) 40 := inB_n (by omega) (by decide)
    have l1 : inB ((i + 1 : Nat) : Int) 40 := inB_n (by omega) (by decide)
    have l2 : inB ((i + 2 : Nat) : Int) 40 := inB_n (by omega) (by decide)
    rw [ftA_succ]
    cases ex : ixo n (iv (it s) i) with
    | none =>
      rw [ft1_n ex]
      have fx := find_n (d + 8) (hp := hp) hR (y := ((it s).getD i 0).toInt) rfl ex
      rw [AWh_k, k_X10_fitsThrees_14]
      simp only [AW_k, AWk_1, x_iload_5, x_push_i, x_push_l, x_iadd, x_iload_4, x_icmp_ge, x_aload_0, x_aloads_0, x_getf, x_iload_1, x_aald, x_lald, x_l2i, x_callv_2, x_istore_6, x_istore_7, x_iload_6, x_if_lt, x_iload_7, x_if_ge, x_ret, x_ret_i, x_ret_z, x_ret_l, x_ret_c, unl_i, unl_l, unl_q, unl_r, unl_s, unl_n, k_X10_fitsThrees_14, k_X10_fitsThrees_15, k_X10_fitsThrees_16, k_X10_fitsThrees_17, k_X10_fitsThrees_18, k_X10_fitsThrees_19, k_X10_fitsThrees_20, k_X10_fitsThrees_21, k_X10_fitsThrees_22, k_X10_fitsThrees_23, k_X10_fitsThrees_24, k_X10_fitsThrees_25, k_X10_fitsThrees_26, k_X10_fitsThrees_27, k_X10_fitsThrees_28, k_X10_fitsThrees_29, k_X10_fitsThrees_30, k_X10_fitsThrees_31, k_X10_fitsThrees_32, k_X10_fitsThrees_33, k_X10_fitsThrees_34, k_X10_fitsThrees_35, k_X10_fitsThrees_36, k_X10_fitsThrees_37, k_X10_fitsThrees_38, k_X10_fitsThrees_39, k_X10_fitsThrees_40, k_X10_fitsThrees_41, k_X10_fitsThrees_42, k_X10_fitsThrees_43, k_X10_fitsThrees_44, k_X10_fitsThrees_45, k_X10_fitsThrees_46, k_X10_fitsThrees_47, k_X10_fitsThrees_48, k_X10_fitsThrees_49, k_X10_fitsThrees_50, oE_some, Int.reduceToNat, Nat.reduceAdd, true_and, and_true, List.length_cons, List.length_nil, Option.toList_some, Option.toList_none, List.cons_append, List.nil_append, Nat.reduceLeDiff, Nat.le_refl, wdS_nil, wdS_i, wdS_l, wdS_r, wdS_n, wdS_s, e1, e2, w32_nat b2, w32_nat bL, n1, o1, o9, cR, g21, gq, is4, eq4, gj, gl, l0, l1, w32_tn bs, w32_tn b0, w32_tn b1, List.length_cons, List.length_nil, fx, c4_findW (d + 8) (hp := hp) hR (y := ((it s).getD (i + 1) 0).toInt) rfl, wN, ↓reduceIte]
      exact ⟨fun q => q.2, fun q => ⟨Or.inl trivial, q⟩⟩
    | some a =>
      have ha := ixo_lt ex
      have ba : a < 2147483648 := by omega
      have fx := find_s (d + 8) (hp := hp) hR (y := ((it s).getD i 0).toInt) rfl ex
      cases ey : ixo n (iv (it s) (i + 1)) with
      | none =>
        rw [ft1_m ex ey]
        have fy := find_n (d + 8) (hp := hp) hR (y := ((it s).getD (i + 1) 0).toInt) rfl ey
        rw [AWh_k, k_X10_fitsThrees_14]
        simp only [AW_k, AWk_1, x_iload_5, x_push_i, x_push_l, x_iadd, x_iload_4, x_icmp_ge, x_aload_0, x_aloads_0, x_getf, x_iload_1, x_aald, x_lald, x_l2i, x_callv_2, x_istore_6, x_istore_7, x_iload_6, x_if_lt, x_iload_7, x_if_ge, x_ret, x_ret_i, x_ret_z, x_ret_l, x_ret_c, unl_i, unl_l, unl_q, unl_r, unl_s, unl_n, k_X10_fitsThrees_14, k_X10_fitsThrees_15, k_X10_fitsThrees_16, k_X10_fitsThrees_17, k_X10_fitsThrees_18, k_X10_fitsThrees_19, k_X10_fitsThrees_20, k_X10_fitsThrees_21, k_X10_fitsThrees_22, k_X10_fitsThrees_23, k_X10_fitsThrees_24, k_X10_fitsThrees_25, k_X10_fitsThrees_26, k_X10_fitsThrees_27, k_X10_fitsThrees_28, k_X10_fitsThrees_29, k_X10_fitsThrees_30, k_X10_fitsThrees_31, k_X10_fitsThrees_32, k_X10_fitsThrees_33, k_X10_fitsThrees_34, k_X10_fitsThrees_35, k_X10_fitsThrees_36, k_X10_fitsThrees_37, k_X10_fitsThrees_38, k_X10_fitsThrees_39, k_X10_fitsThrees_40, k_X10_fitsThrees_41, k_X10_fitsThrees_42, k_X10_fitsThrees_43, k_X10_fitsThrees_44, k_X10_fitsThrees_45, k_X10_fitsThrees_46, k_X10_fitsThrees_47, k_X10_fitsThrees_48, k_X10_fitsThrees_49, k_X10_fitsThrees_50, oE_some, Int.reduceToNat, Nat.reduceAdd, true_and, and_true, List.length_cons, List.length_nil, Option.toList_some, Option.toList_none, List.cons_append, List.nil_append, Nat.reduceLeDiff, Nat.le_refl, wdS_nil, wdS_i, wdS_l, wdS_r, wdS_n, wdS_s, e1, e2, w32_nat b2, w32_nat bL, n1, o1, o9, cR, g21, gq, is4, eq4, gj, gl, l0, l1, w32_tn bs, w32_tn b0, w32_tn b1, List.length_cons, List.length_nil, fx, fy, wI ba, wN, ↓reduceIte]
        exact ⟨fun q => q.2, fun q => ⟨Or.inl trivial, q⟩⟩
      | some b =>
        have hb := ixo_lt ey
        have bb : b < 2147483648 := by omega
        have fy := find_s (d + 8) (hp := hp) hR (y := ((it s).getD (i + 1) 0).toInt) rfl ey
        have la := lst_ok (G := H) h1 h6 ha
        have lb := lst_ok (G := H) h1 h6 hb
        have bla : lst n H a < 2147483648 := by omega
        have blb : lst n H b < 2147483648 := by omega
        have x1 : BitVec.ofInt 64 (w32 1) = 1#64 := rfl
        have x0 : BitVec.ofInt 64 (w32 0) = 0#64 := rfl
        by_cases ce : lst n H a = lst n H b
        · have ce2 : ((lst n H a : Int) = (lst n H b : Int)) = True := eq_true (by omega)
          rw [ft1_s ex ey, if_pos ce]
          rw [AWh_k, k_X10_fitsThrees_14]
          simp only [AW_k, AWk_1, x_iload_5, x_push_i, x_push_l, x_iadd, x_iload_4, x_icmp_ge, x_aload_0, x_aloads_0, x_getf, x_iload_1, x_aald, x_lald, x_l2i, x_callv_2, x_istore_6, x_istore_7, x_iload_6, x_if_lt, x_iload_7, x_if_ge, x_ret, x_ret_i, x_ret_z, x_ret_l, x_ret_c, x_lload_2, x_callv_3, x_icmp_ne, x_goto, x_istore_8, x_iload_8, x_if_eq, x_i2l, x_lcmp, x_iinc_5, unl_i, unl_l, unl_q, unl_r, unl_s, unl_n, k_X10_fitsThrees_14, k_X10_fitsThrees_15, k_X10_fitsThrees_16, k_X10_fitsThrees_17, k_X10_fitsThrees_18, k_X10_fitsThrees_19, k_X10_fitsThrees_20, k_X10_fitsThrees_21, k_X10_fitsThrees_22, k_X10_fitsThrees_23, k_X10_fitsThrees_24, k_X10_fitsThrees_25, k_X10_fitsThrees_26, k_X10_fitsThrees_27, k_X10_fitsThrees_28, k_X10_fitsThrees_29, k_X10_fitsThrees_30, k_X10_fitsThrees_31, k_X10_fitsThrees_32, k_X10_fitsThrees_33, k_X10_fitsThrees_34, k_X10_fitsThrees_35, k_X10_fitsThrees_36, k_X10_fitsThrees_37, k_X10_fitsThrees_38, k_X10_fitsThrees_39, k_X10_fitsThrees_40, k_X10_fitsThrees_41, k_X10_fitsThrees_42, k_X10_fitsThrees_43, k_X10_fitsThrees_44, k_X10_fitsThrees_45, k_X10_fitsThrees_46, k_X10_fitsThrees_47, k_X10_fitsThrees_48, k_X10_fitsThrees_49, k_X10_fitsThrees_50, k_X10_fitsThrees_51, k_X10_fitsThrees_52, k_X10_fitsThrees_53, k_X10_fitsThrees_54, k_X10_fitsThrees_55, k_X10_fitsThrees_56, k_X10_fitsThrees_57, k_X10_fitsThrees_58, k_X10_fitsThrees_59, k_X10_fitsThrees_60, k_X10_fitsThrees_61, k_X10_fitsThrees_62, k_X10_fitsThrees_63, k_X10_fitsThrees_64, k_X10_fitsThrees_65, k_X10_fitsThrees_66, k_X10_fitsThrees_67, k_X10_fitsThrees_68, k_X10_fitsThrees_69, k_X10_fitsThrees_70, k_X10_fitsThrees_71, k_X10_fitsThrees_72, k_X10_fitsThrees_73, k_X10_fitsThrees_74, k_X10_fitsThrees_75, k_X10_fitsThrees_76, k_X10_fitsThrees_77, k_X10_fitsThrees_78, k_X10_fitsThrees_79, k_X10_fitsThrees_80, k_X10_fitsThrees_81, k_X10_fitsThrees_82, k_X10_fitsThrees_83, k_X10_fitsThrees_84, k_X10_fitsThrees_85, k_X10_fitsThrees_86, oE_some, Int.reduceToNat, Nat.reduceAdd, true_and, and_true, List.length_cons, List.length_nil, Option.toList_some, Option.toList_none, List.cons_append, List.nil_append, Nat.reduceLeDiff, Nat.le_refl, wdS_nil, wdS_i, wdS_l, wdS_r, wdS_n, wdS_s, e1, e2, e3, w32_nat b2, w32_nat bL, n1, o1, o9, cR, g21, gq, is4, eq4, gj, gl, l0, l1, l2, w32_tn bs, w32_tn b0, w32_tn b1, w32_tn b2, List.length_cons, List.length_nil, fx, fy, wI ba, wI bb, c4_leastOf (d + 7) hR ha, c4_leastOf (d + 7) hR hb, w32_nat bla, w32_nat blb, ce2, w10, x1, lCmp_eq, Int.toNat_natCast, ↓reduceIte]
          by_cases cv : (it s).getD (i + 2) 0 = 1#64
          · rw [if_pos cv, decide_eq_true cv, Bool.true_and]
            exact ih (i + 3) _ _ _ (by omega)
          · rw [if_neg cv, decide_eq_false cv, Bool.false_and]
            exact ⟨fun q => q.2, fun q => ⟨Or.inl trivial, q⟩⟩
        · have ce2 : ((lst n H a : Int) = (lst n H b : Int)) = False := eq_false (by omega)
          rw [ft1_s ex ey, if_neg ce]
          rw [AWh_k, k_X10_fitsThrees_14]
          simp only [AW_k, AWk_1, x_iload_5, x_push_i, x_push_l, x_iadd, x_iload_4, x_icmp_ge, x_aload_0, x_aloads_0, x_getf, x_iload_1, x_aald, x_lald, x_l2i, x_callv_2, x_istore_6, x_istore_7, x_iload_6, x_if_lt, x_iload_7, x_if_ge, x_ret, x_ret_i, x_ret_z, x_ret_l, x_ret_c, x_lload_2, x_callv_3, x_icmp_ne, x_goto, x_istore_8, x_iload_8, x_if_eq, x_i2l, x_lcmp, x_iinc_5, unl_i, unl_l, unl_q, unl_r, unl_s, unl_n, k_X10_fitsThrees_14, k_X10_fitsThrees_15, k_X10_fitsThrees_16, k_X10_fitsThrees_17, k_X10_fitsThrees_18, k_X10_fitsThrees_19, k_X10_fitsThrees_20, k_X10_fitsThrees_21, k_X10_fitsThrees_22, k_X10_fitsThrees_23, k_X10_fitsThrees_24, k_X10_fitsThrees_25, k_X10_fitsThrees_26, k_X10_fitsThrees_27, k_X10_fitsThrees_28, k_X10_fitsThrees_29, k_X10_fitsThrees_30, k_X10_fitsThrees_31, k_X10_fitsThrees_32, k_X10_fitsThrees_33, k_X10_fitsThrees_34, k_X10_fitsThrees_35, k_X10_fitsThrees_36, k_X10_fitsThrees_37, k_X10_fitsThrees_38, k_X10_fitsThrees_39, k_X10_fitsThrees_40, k_X10_fitsThrees_41, k_X10_fitsThrees_42, k_X10_fitsThrees_43, k_X10_fitsThrees_44, k_X10_fitsThrees_45, k_X10_fitsThrees_46, k_X10_fitsThrees_47, k_X10_fitsThrees_48, k_X10_fitsThrees_49, k_X10_fitsThrees_50, k_X10_fitsThrees_51, k_X10_fitsThrees_52, k_X10_fitsThrees_53, k_X10_fitsThrees_54, k_X10_fitsThrees_55, k_X10_fitsThrees_56, k_X10_fitsThrees_57, k_X10_fitsThrees_58, k_X10_fitsThrees_59, k_X10_fitsThrees_60, k_X10_fitsThrees_61, k_X10_fitsThrees_62, k_X10_fitsThrees_63, k_X10_fitsThrees_64, k_X10_fitsThrees_65, k_X10_fitsThrees_66, k_X10_fitsThrees_67, k_X10_fitsThrees_68, k_X10_fitsThrees_69, k_X10_fitsThrees_70, k_X10_fitsThrees_71, k_X10_fitsThrees_72, k_X10_fitsThrees_73, k_X10_fitsThrees_74, k_X10_fitsThrees_75, k_X10_fitsThrees_76, k_X10_fitsThrees_77, k_X10_fitsThrees_78, k_X10_fitsThrees_79, k_X10_fitsThrees_80, k_X10_fitsThrees_81, k_X10_fitsThrees_82, k_X10_fitsThrees_83, k_X10_fitsThrees_84, k_X10_fitsThrees_85, k_X10_fitsThrees_86, oE_some, Int.reduceToNat, Nat.reduceAdd, true_and, and_true, List.length_cons, List.length_nil, Option.toList_some, Option.toList_none, List.cons_append, List.nil_append, Nat.reduceLeDiff, Nat.le_refl, wdS_nil, wdS_i, wdS_l, wdS_r, wdS_n, wdS_s, e1, e2, e3, w32_nat b2, w32_nat bL, n1, o1, o9, cR, g21, gq, is4, eq4, gj, gl, l0, l1, l2, w32_tn bs, w32_tn b0, w32_tn b1, w32_tn b2, List.length_cons, List.length_nil, fx, fy, wI ba, wI bb, c4_leastOf (d + 7) hR ha, c4_leastOf (d + 7) hR hb, w32_nat bla, w32_nat blb, ce2, w00, x0, lCmp_eq, Int.toNat_natCast, ↓reduceIte]
          by_cases cv : (it s).getD (i + 2) 0 = 0#64
          · rw [if_pos cv, decide_eq_true cv, Bool.true_and]
            exact ih (i + 3) _ _ _ (by omega)
          · rw [if_neg cv, decide_eq_false cv, Bool.false_and]
            exact ⟨fun q => q.2, fun q => ⟨Or.inl trivial, q⟩⟩
