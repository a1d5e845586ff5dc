/-! ===== the reference's whatIs ===== -/
theorem num_eqI {n i j : Nat} (h1 : 1 ≤ n) (h6 : n ≤ 6) (hi : i < FC n) (hj : j < FC n) : (((num n i : Nat) : Int) = ((num n j : Nat) : Int)) = (i = j) := by
  apply propext
  constructor
  · intro h
    have a := num_ltI h1 h6 hi hj
    have b := num_ltI h1 h6 hj hi
    rw [h] at a b
    have a' : ¬ i < j := fun q => absurd (a.mpr q) (Int.lt_irrefl _)
    have b' : ¬ j < i := fun q => absurd (b.mpr q) (Int.lt_irrefl _)
    omega
  · intro h; rw [h]
/-- items of rows of ints are such -/
def itOK (so : List Int) (it : Nat → List (BitVec 64)) : Prop := ∀ s, s < 4 → so.getD s 0 = 2 → ∀ j, w32 ((it s).getD j 0).toInt = ((it s).getD j 0).toInt
def at3 (n : Nat) (l : List (BitVec 64)) (i : Nat) : Bool := (ixo n (iv l i)).isSome && ((ixo n (iv l (i + 1))).isSome && inI (l.getD (i + 2) 0).toInt 0 1)
def at3A (n : Nat) (l : List (BitVec 64)) : Nat → Nat → Bool
  | 0, _ => true
  | m + 1, i => at3 n l i && at3A n l m (i + 3)
theorem at3A_succ (n : Nat) (l : List (BitVec 64)) (m i : Nat) : at3A n l (m + 1) i = (at3 n l i && at3A n l m (i + 3)) := rfl
theorem ftA_at {n : Nat} {H : BitVec 64} {l : List (BitVec 64)} : ∀ m i, at3A n l m i = false → ftA n H l m i = false := by
  intro m
  induction m with
  | zero => intro i h; cases h
  | succ m ih =>
    intro i h
    rw [at3A_succ] at h
    rw [ftA_succ]
    cases e : at3 n l i with
    | true => rw [e, Bool.true_and] at h; rw [ih _ h, Bool.and_false]
    | false =>
      have : ft1 n H l i = false := by
        unfold at3 at e
        cases ex : ixo n (iv l i) with
        | none => exact ft1_n ex
        | some a =>
          cases ey : ixo n (iv l (i + 1)) with
          | none => exact ft1_m ex ey
          | some b =>
            rw [ex, ey, Option.isSome_some, Option.isSome_some, Bool.true_and, Bool.true_and] at e
            rw [ft1_s ex ey]
            apply decide_eq_false
            intro q
            rw [q] at e
            split at e <;> exact absurd e (by decide)
      rw [this, Bool.false_and]
set_option maxHeartbeats 16000000 in
theorem m_at0 (d : Nat) {hp : HP} {n : Nat} {G : BitVec 64} {z : Int} {c : Nat} {ks : List Int} {es : List Int} {ik : Bool} {kn : Nat} {kG : BitVec 64} {kz : Int} {kc : Nat} {kks : List Int} {kes : List Int} {tc : Nat} {tb : List Int} {sc : Nat} {tl : List Int} {so : List Int} {le : List Int} {it : Nat → List (BitVec 64)} {he : List Int} {th : List Int} {sl : List Int} {tr : Nat} {bo : List Int} {s L : Nat} {R : PO} (hX : MI (hp) n G z c ks es ik kn kG kz kc kks kes tc tb sc tl so le it he th sl tr bo) (hO : shOK so le it) (hs : s < 4) (hl : le.getD s 0 = (L : Int)) (hL : L ≤ 40) {i : Nat} (hi : i ≤ 100) : AWh (d + 9) [] 249 R 13 [some (mR 54), some (mI (s : Int)), some (mI 0), some (mI (i : Int))] [] hp (0, 0) ↔ R (some (mI 0)) hp := by
  obtain ⟨⟨u1, u2, u3⟩, kN, kZ, kM, kGm, l5, l6, qk, q0, q1, q2, q3, q4, q5, q6, q7, q8, q9⟩ := hX
  obtain ⟨fr_, to_, co_, op_, wr_, ki_, nu_, mm_, pa_, hF⟩ := YO_F q0
  have hA : MA hp n := ⟨⟨⟨u2, u3⟩, hF 0, hF 18, hF 19, q1.1.1, q1.1.2⟩, ⟨hF 13, hF 14, hF 15, hF 16, hF 17⟩, q1.2⟩
  have hK := hA.1
  have cK := cM hK
  have hG : gF hp 54 11 3 = some (mL G) := hF 3
  have g38 : gF hp 54 11 38 = some (mR 76) := hF 38
  obtain ⟨⟨a75, a76⟩, -, -⟩ := q7
  have bs : s < 2147483648 := by omega
  have ile : inB (s : Int) le.length := by rw [hO.2.1]; exact inB_n hs (by decide)
  have bL : L < 2147483648 := by omega
  have e2 : (i : Int) + 2 = ((i + 2 : Nat) : Int) := by omega
  have b2 : i + 2 < 2147483648 := by omega
  rw [AWh_k, k_X11_areThrees_13]
  by_cases c : i + 2 < L
  · have n1 : (((i + 2 : Nat) : Int) < (L : Int)) = True := eq_true (by omega)
    simp only [AW_k, AWk_1, x_iload_3, x_push_i, x_push_l, x_iadd, x_aload_0, x_aloads_0, x_getf, x_iload_1, x_iald, x_ialds, x_icmp_ge, x_iload_2, x_if_eq, x_ret, x_ret_i, x_ret_z, x_ret_l, x_ret_c, k_X11_areThrees_13, k_X11_areThrees_14, k_X11_areThrees_15, k_X11_areThrees_16, k_X11_areThrees_17, k_X11_areThrees_18, k_X11_areThrees_19, k_X11_areThrees_20, k_X11_areThrees_21, k_X11_areThrees_22, k_X11_areThrees_69, k_X11_areThrees_70, oE_some, Int.reduceToNat, Nat.reduceAdd, true_and, and_true, List.length_cons, List.length_nil, Option.toList_some, Option.toList_none, List.cons_append, List.nil_append, Nat.reduceLeDiff, Nat.le_refl, wdS_nil, wdS_i, wdS_l, wdS_r, wdS_n, wdS_s, g38, a76, ile, w32_nat bs, Int.toNat_natCast, hl, e2, w32_nat b2, w32_nat bL, n1, w00, true_or, true_and, ↓reduceIte]
  · have n1 : (((i + 2 : Nat) : Int) < (L : Int)) = False := eq_false (by omega)
    simp only [AW_k, AWk_1, x_iload_3, x_push_i, x_push_l, x_iadd, x_aload_0, x_aloads_0, x_getf, x_iload_1, x_iald, x_ialds, x_icmp_ge, x_iload_2, x_if_eq, x_ret, x_ret_i, x_ret_z, x_ret_l, x_ret_c, k_X11_areThrees_13, k_X11_areThrees_14, k_X11_areThrees_15, k_X11_areThrees_16, k_X11_areThrees_17, k_X11_areThrees_18, k_X11_areThrees_19, k_X11_areThrees_20, k_X11_areThrees_21, k_X11_areThrees_22, k_X11_areThrees_69, k_X11_areThrees_70, oE_some, Int.reduceToNat, Nat.reduceAdd, true_and, and_true, List.length_cons, List.length_nil, Option.toList_some, Option.toList_none, List.cons_append, List.nil_append, Nat.reduceLeDiff, Nat.le_refl, wdS_nil, wdS_i, wdS_l, wdS_r, wdS_n, wdS_s, g38, a76, ile, w32_nat bs, Int.toNat_natCast, hl, e2, w32_nat b2, w32_nat bL, n1, true_or, true_and, ↓reduceIte]
set_option maxHeartbeats 16000000 in
theorem m_atLoop (d : Nat) {hp : HP} {n : Nat} {G : BitVec 64} {z : Int} {c : Nat} {ks : List Int} {es : List Int} {ik : Bool} {kn : Nat} {kG : BitVec 64} {kz : Int} {kc : Nat} {kks : List Int} {kes : List Int} {tc : Nat} {tb : List Int} {sc : Nat} {tl : List Int} {so : List Int} {le : List Int} {it : Nat → List (BitVec 64)} {he : List Int} {th : List Int} {sl : List Int} {tr : Nat} {bo : List Int} {s L : Nat} {R : PO} (hX : MI (hp) n G z c ks es ik kn kG kz kc kks kes tc tb sc tl so le it he th sl tr bo) (hO : shOK so le it) (hs : s < 4) (hl : le.getD s 0 = (L : Int)) (hL : L ≤ 40) : ∀ (m i : Nat), i + 3 * m = L → (AWh (d + 9) [] 249 R 13 [some (mR 54), some (mI (s : Int)), some (mI 1), some (mI (i : Int))] [] hp (0, 0) ↔ R (some (mI (zI (at3A n (it s) m i)))) hp) := by
  have hX0 := hX
  obtain ⟨⟨u1, u2, u3⟩, kN, kZ, kM, kGm, l5, l6, qk, q0, q1, q2, q3, q4, q5, q6, q7, q8, q9⟩ := hX
  obtain ⟨fr_, to_, co_, op_, wr_, ki_, nu_, mm_, pa_, hF⟩ := YO_F q0
  have hA : MA hp n := ⟨⟨⟨u2, u3⟩, hF 0, hF 18, hF 19, q1.1.1, q1.1.2⟩, ⟨hF 13, hF 14, hF 15, hF 16, hF 17⟩, q1.2⟩
  have hK := hA.1
  have cK := cM hK
  have hG : gF hp 54 11 3 = some (mL G) := hF 3
  have g38 : gF hp 54 11 38 = some (mR 76) := hF 38
  have g39 : gF hp 54 11 39 = some (mR 77) := hF 39
  obtain ⟨⟨a75, a76⟩, ⟨ce, j77, lce, hce⟩, as, j78, las⟩ := q7
  have bs : s < 2147483648 := by omega
  have ile : inB (s : Int) le.length := by rw [hO.2.1]; exact inB_n hs (by decide)
  have bL : L < 2147483648 := by omega
  intro m
  induction m with
  | zero =>
    intro i hi
    have e : i = L := by omega
    subst e
    have e2 : (i : Int) + 2 = ((i + 2 : Nat) : Int) := by omega
    have b2 : i + 2 < 2147483648 := by omega
    have n1 : (((i + 2 : Nat) : Int) < (i : Int)) = False := eq_false (by omega)
    rw [AWh_k, k_X11_areThrees_13]
    simp only [AW_k, AWk_1, x_iload_3, x_push_i, x_push_l, x_iadd, x_aload_0, x_aloads_0, x_getf, x_iload_1, x_iald, x_ialds, x_icmp_ge, x_iload_2, x_ret, x_ret_i, x_ret_z, x_ret_l, x_ret_c, k_X11_areThrees_13, k_X11_areThrees_14, k_X11_areThrees_15, k_X11_areThrees_16, k_X11_areThrees_17, k_X11_areThrees_18, k_X11_areThrees_19, k_X11_areThrees_20, k_X11_areThrees_69, k_X11_areThrees_70, oE_some, Int.reduceToNat, Nat.reduceAdd, true_and, and_true, List.length_cons, List.length_nil, Option.toList_some, Option.toList_none, List.cons_append, List.nil_append, Nat.reduceLeDiff, Nat.le_refl, wdS_nil, wdS_i, wdS_l, wdS_r, wdS_n, wdS_s, g38, a76, ile, w32_nat bs, Int.toNat_natCast, hl, e2, w32_nat b2, w32_nat bL, n1, ↓reduceIte]
    exact ⟨fun q => q.2, fun q => ⟨Or.inr trivial, q⟩⟩
  | succ m ih =>
    intro i hi
    have e2 : (i : Int) + 2 = ((i + 2 : Nat) : Int) := by omega
    have e3 : (i : Int) + 3 = ((i + 3 : Nat) : Int) := by omega
    have b2 : i + 2 < 2147483648 := by omega
    have n1 : (((i + 2 : Nat) : Int) < (L : Int)) = True := eq_true (by omega)
    have c0 : 40 * (s : Int) + (i : Int) = ((40 * s + i : Nat) : Int) := by omega
    have c1 : ((40 * s + i : Nat) : Int) + 1 = ((40 * s + i + 1 : Nat) : Int) := by omega
    have c2 : ((40 * s + i : Nat) : Int) + 2 = ((40 * s + i + 2 : Nat) : Int) := by omega
    have k0 : 40 * s + i < 2147483648 := by omega
    have k1 : 40 * s + i + 1 < 2147483648 := by omega
    have k2 : 40 * s + i + 2 < 2147483648 := by omega
    have i0 : inB ((40 * s + i : Nat) : Int) ce.length := by rw [lce]; exact inB_n (by omega) (by decide)
    have i1 : inB ((40 * s + i + 1 : Nat) : Int) ce.length := by rw [lce]; exact inB_n (by omega) (by decide)
    have i2 : inB ((40 * s + i + 2 : Nat) : Int) ce.length := by rw [lce]; exact inB_n (by omega) (by decide)
    have h0 : ce.getD (40 * s + i) 0 = (it s).getD i 0 := hce s hs i (by omega)
    have h1 : ce.getD (40 * s + i + 1) 0 = (it s).getD (i + 1) 0 := hce s hs (i + 1) (by omega)
    have h2 : ce.getD (40 * s + i + 2) 0 = (it s).getD (i + 2) 0 := hce s hs (i + 2) (by omega)
    have st := fun R => m_at0 d (R := R) hX0 hO hs hl hL (i := i + 3) (by omega)
    have hi3 := ih (i + 3) (by omega)
    have w1 : (w32 1 = 0) = False := w10
    rw [at3A_succ]
    unfold at3
    rw [AWh_k, k_X11_areThrees_13]
    cases ex : ixo n (iv (it s) i) with
    | none =>
      have st := st R
      simp only [AW_k, AWk_1, x_iload_3, x_push_i, x_push_l, x_iadd, x_aload_0, x_aloads_0, x_getf, x_iload_1, x_iald, x_ialds, x_icmp_ge, x_iload_2, x_if_eq, x_imul, x_lald, x_l2i, x_callv_2, x_call_3, x_goto, x_istore_2, x_iinc_3, unl_i, unl_l, unl_q, unl_r, unl_s, unl_n, k_X11_areThrees_13, k_X11_areThrees_14, k_X11_areThrees_15, k_X11_areThrees_16, k_X11_areThrees_17, k_X11_areThrees_18, k_X11_areThrees_19, k_X11_areThrees_20, k_X11_areThrees_21, k_X11_areThrees_22, k_X11_areThrees_23, k_X11_areThrees_24, k_X11_areThrees_25, k_X11_areThrees_26, k_X11_areThrees_27, k_X11_areThrees_28, k_X11_areThrees_29, k_X11_areThrees_30, k_X11_areThrees_31, k_X11_areThrees_32, k_X11_areThrees_33, k_X11_areThrees_34, k_X11_areThrees_35, k_X11_areThrees_36, k_X11_areThrees_37, k_X11_areThrees_38, k_X11_areThrees_39, k_X11_areThrees_40, k_X11_areThrees_41, k_X11_areThrees_42, k_X11_areThrees_43, k_X11_areThrees_44, k_X11_areThrees_45, k_X11_areThrees_46, k_X11_areThrees_47, k_X11_areThrees_48, k_X11_areThrees_49, k_X11_areThrees_50, k_X11_areThrees_51, k_X11_areThrees_52, k_X11_areThrees_53, k_X11_areThrees_54, k_X11_areThrees_55, k_X11_areThrees_56, k_X11_areThrees_57, k_X11_areThrees_58, k_X11_areThrees_59, k_X11_areThrees_60, k_X11_areThrees_61, k_X11_areThrees_62, k_X11_areThrees_63, k_X11_areThrees_64, k_X11_areThrees_65, k_X11_areThrees_66, k_X11_areThrees_67, k_X11_areThrees_68, oE_some, Int.reduceToNat, Nat.reduceAdd, true_and, and_true, List.length_cons, List.length_nil, Option.toList_some, Option.toList_none, List.cons_append, List.nil_append, Nat.reduceLeDiff, Nat.le_refl, wdS_nil, wdS_i, wdS_l, wdS_r, wdS_n, wdS_s, g38, a76, ile, w32_nat bs, Int.toNat_natCast, hl, e2, w32_nat b2, w32_nat bL, n1, w10, g39, j77, c0, i0, w32_nat k0, h0, cK, m_isRow_n (d + 7) hK rfl ex, w00, e3, true_or, true_and, ↓reduceIte]
      rw [Option.isSome_none, Bool.false_and, Bool.false_and]
      exact st
    | some a =>
      cases ey : ixo n (iv (it s) (i + 1)) with
      | none =>
        have st := st R
        simp only [AW_k, AWk_1, x_iload_3, x_push_i, x_push_l, x_iadd, x_aload_0, x_aloads_0, x_getf, x_iload_1, x_iald, x_ialds, x_icmp_ge, x_iload_2, x_if_eq, x_imul, x_lald, x_l2i, x_callv_2, x_call_3, x_goto, x_istore_2, x_iinc_3, unl_i, unl_l, unl_q, unl_r, unl_s, unl_n, k_X11_areThrees_13, k_X11_areThrees_14, k_X11_areThrees_15, k_X11_areThrees_16, k_X11_areThrees_17, k_X11_areThrees_18, k_X11_areThrees_19, k_X11_areThrees_20, k_X11_areThrees_21, k_X11_areThrees_22, k_X11_areThrees_23, k_X11_areThrees_24, k_X11_areThrees_25, k_X11_areThrees_26, k_X11_areThrees_27, k_X11_areThrees_28, k_X11_areThrees_29, k_X11_areThrees_30, k_X11_areThrees_31, k_X11_areThrees_32, k_X11_areThrees_33, k_X11_areThrees_34, k_X11_areThrees_35, k_X11_areThrees_36, k_X11_areThrees_37, k_X11_areThrees_38, k_X11_areThrees_39, k_X11_areThrees_40, k_X11_areThrees_41, k_X11_areThrees_42, k_X11_areThrees_43, k_X11_areThrees_44, k_X11_areThrees_45, k_X11_areThrees_46, k_X11_areThrees_47, k_X11_areThrees_48, k_X11_areThrees_49, k_X11_areThrees_50, k_X11_areThrees_51, k_X11_areThrees_52, k_X11_areThrees_53, k_X11_areThrees_54, k_X11_areThrees_55, k_X11_areThrees_56, k_X11_areThrees_57, k_X11_areThrees_58, k_X11_areThrees_59, k_X11_areThrees_60, k_X11_areThrees_61, k_X11_areThrees_62, k_X11_areThrees_63, k_X11_areThrees_64, k_X11_areThrees_65, k_X11_areThrees_66, k_X11_areThrees_67, k_X11_areThrees_68, oE_some, Int.reduceToNat, Nat.reduceAdd, true_and, and_true, List.length_cons, List.length_nil, Option.toList_some, Option.toList_none, List.cons_append, List.nil_append, Nat.reduceLeDiff, Nat.le_refl, wdS_nil, wdS_i, wdS_l, wdS_r, wdS_n, wdS_s, g38, a76, ile, w32_nat bs, Int.toNat_natCast, hl, e2, w32_nat b2, w32_nat bL, n1, w10, g39, j77, c0, c1, i0, i1, w32_nat k0, w32_nat k1, h0, h1, cK, m_isRow_s (d + 7) hK rfl ex, m_isRow_n (d + 7) hK rfl ey, w00, e3, true_or, true_and, ↓reduceIte]
        rw [Option.isSome_none, Bool.false_and, Bool.and_false, Bool.false_and]
        exact st
      | some b =>
        cases ez : inI ((it s).getD (i + 2) 0).toInt 0 1 with
        | false =>
          have st := st R
          simp only [AW_k, AWk_1, x_iload_3, x_push_i, x_push_l, x_iadd, x_aload_0, x_aloads_0, x_getf, x_iload_1, x_iald, x_ialds, x_icmp_ge, x_iload_2, x_if_eq, x_imul, x_lald, x_l2i, x_callv_2, x_call_3, x_goto, x_istore_2, x_iinc_3, unl_i, unl_l, unl_q, unl_r, unl_s, unl_n, k_X11_areThrees_13, k_X11_areThrees_14, k_X11_areThrees_15, k_X11_areThrees_16, k_X11_areThrees_17, k_X11_areThrees_18, k_X11_areThrees_19, k_X11_areThrees_20, k_X11_areThrees_21, k_X11_areThrees_22, k_X11_areThrees_23, k_X11_areThrees_24, k_X11_areThrees_25, k_X11_areThrees_26, k_X11_areThrees_27, k_X11_areThrees_28, k_X11_areThrees_29, k_X11_areThrees_30, k_X11_areThrees_31, k_X11_areThrees_32, k_X11_areThrees_33, k_X11_areThrees_34, k_X11_areThrees_35, k_X11_areThrees_36, k_X11_areThrees_37, k_X11_areThrees_38, k_X11_areThrees_39, k_X11_areThrees_40, k_X11_areThrees_41, k_X11_areThrees_42, k_X11_areThrees_43, k_X11_areThrees_44, k_X11_areThrees_45, k_X11_areThrees_46, k_X11_areThrees_47, k_X11_areThrees_48, k_X11_areThrees_49, k_X11_areThrees_50, k_X11_areThrees_51, k_X11_areThrees_52, k_X11_areThrees_53, k_X11_areThrees_54, k_X11_areThrees_55, k_X11_areThrees_56, k_X11_areThrees_57, k_X11_areThrees_58, k_X11_areThrees_59, k_X11_areThrees_60, k_X11_areThrees_61, k_X11_areThrees_62, k_X11_areThrees_63, k_X11_areThrees_64, k_X11_areThrees_65, k_X11_areThrees_66, k_X11_areThrees_67, k_X11_areThrees_68, oE_some, Int.reduceToNat, Nat.reduceAdd, true_and, and_true, List.length_cons, List.length_nil, Option.toList_some, Option.toList_none, List.cons_append, List.nil_append, Nat.reduceLeDiff, Nat.le_refl, wdS_nil, wdS_i, wdS_l, wdS_r, wdS_n, wdS_s, g38, a76, ile, w32_nat bs, Int.toNat_natCast, hl, e2, w32_nat b2, w32_nat bL, n1, w10, g39, j77, c0, c1, c2, i0, i1, i2, w32_nat k0, w32_nat k1, w32_nat k2, h0, h1, h2, cK, m_isRow_s (d + 7) hK rfl ex, m_isRow_s (d + 7) hK rfl ey, m_in (d + 8), q0_I, one_long, ez, zI_f, w00, e3, true_or, true_and, ↓reduceIte]
          rw [Bool.and_false, Bool.and_false, Bool.false_and]
          exact st
        | true =>
          simp only [AW_k, AWk_1, x_iload_3, x_push_i, x_push_l, x_iadd, x_aload_0, x_aloads_0, x_getf, x_iload_1, x_iald, x_ialds, x_icmp_ge, x_iload_2, x_if_eq, x_imul, x_lald, x_l2i, x_callv_2, x_call_3, x_goto, x_istore_2, x_iinc_3, unl_i, unl_l, unl_q, unl_r, unl_s, unl_n, k_X11_areThrees_13, k_X11_areThrees_14, k_X11_areThrees_15, k_X11_areThrees_16, k_X11_areThrees_17, k_X11_areThrees_18, k_X11_areThrees_19, k_X11_areThrees_20, k_X11_areThrees_21, k_X11_areThrees_22, k_X11_areThrees_23, k_X11_areThrees_24, k_X11_areThrees_25, k_X11_areThrees_26, k_X11_areThrees_27, k_X11_areThrees_28, k_X11_areThrees_29, k_X11_areThrees_30, k_X11_areThrees_31, k_X11_areThrees_32, k_X11_areThrees_33, k_X11_areThrees_34, k_X11_areThrees_35, k_X11_areThrees_36, k_X11_areThrees_37, k_X11_areThrees_38, k_X11_areThrees_39, k_X11_areThrees_40, k_X11_areThrees_41, k_X11_areThrees_42, k_X11_areThrees_43, k_X11_areThrees_44, k_X11_areThrees_45, k_X11_areThrees_46, k_X11_areThrees_47, k_X11_areThrees_48, k_X11_areThrees_49, k_X11_areThrees_50, k_X11_areThrees_51, k_X11_areThrees_52, k_X11_areThrees_53, k_X11_areThrees_54, k_X11_areThrees_55, k_X11_areThrees_56, k_X11_areThrees_57, k_X11_areThrees_58, k_X11_areThrees_59, k_X11_areThrees_60, k_X11_areThrees_61, k_X11_areThrees_62, k_X11_areThrees_63, k_X11_areThrees_64, k_X11_areThrees_65, k_X11_areThrees_66, k_X11_areThrees_67, k_X11_areThrees_68, oE_some, Int.reduceToNat, Nat.reduceAdd, true_and, and_true, List.length_cons, List.length_nil, Option.toList_some, Option.toList_none, List.cons_append, List.nil_append, Nat.reduceLeDiff, Nat.le_refl, wdS_nil, wdS_i, wdS_l, wdS_r, wdS_n, wdS_s, g38, a76, ile, w32_nat bs, Int.toNat_natCast, hl, e2, w32_nat b2, w32_nat bL, n1, w10, g39, j77, c0, c1, c2, i0, i1, i2, w32_nat k0, w32_nat k1, w32_nat k2, h0, h1, h2, cK, m_isRow_s (d + 7) hK rfl ex, m_isRow_s (d + 7) hK rfl ey, m_in (d + 8), q0_I, one_long, ez, zI_t, w00, e3, or_true, true_and, ↓reduceIte]
          exact hi3
set_option maxHeartbeats 16000000 in
theorem m_areThrees (d : Nat) {hp : HP} {n : Nat} {G : BitVec 64} {z : Int} {c : Nat} {ks : List Int} {es : List Int} {ik : Bool} {kn : Nat} {kG : BitVec 64} {kz : Int} {kc : Nat} {kks : List Int} {kes : List Int} {tc : Nat} {tb : List Int} {sc : Nat} {tl : List Int} {so : List Int} {le : List Int} {it : Nat → List (BitVec 64)} {he : List Int} {th : List Int} {sl : List Int} {tr : Nat} {bo : List Int} {s L : Nat} (hX : MI (hp) n G z c ks es ik kn kG kz kc kks kes tc tb sc tl so le it he th sl tr bo) (hO : shOK so le it) (hs : s < 4) (hl : le.getD s 0 = (L : Int)) (hL : L ≤ 40) (R : PO) : callD (d + 10) 249 [mR 54, mI (s : Int)] hp R ↔ R (some (mI (zI (decide (L % 3 = 0) && at3A n (it s) (L / 3) 0)))) hp := by
  have hX0 := hX
  obtain ⟨⟨u1, u2, u3⟩, kN, kZ, kM, kGm, l5, l6, qk, q0, q1, q2, q3, q4, q5, q6, q7, q8, q9⟩ := hX
  obtain ⟨fr_, to_, co_, op_, wr_, ki_, nu_, mm_, pa_, hF⟩ := YO_F q0
  have hA : MA hp n := ⟨⟨⟨u2, u3⟩, hF 0, hF 18, hF 19, q1.1.1, q1.1.2⟩, ⟨hF 13, hF 14, hF 15, hF 16, hF 17⟩, q1.2⟩
  have hK := hA.1
  have cK := cM hK
  have hG : gF hp 54 11 3 = some (mL G) := hF 3
  have g38 : gF hp 54 11 38 = some (mR 76) := hF 38
  obtain ⟨⟨a75, a76⟩, -, -⟩ := q7
  have bs : s < 2147483648 := by omega
  have ile : inB (s : Int) le.length := by rw [hO.2.1]; exact inB_n hs (by decide)
  have bL : L < 2147483648 := by omega
  have b3 : L % 3 < 2147483648 := by omega
  have em : Int.tmod (w32 (L : Int)) (w32 3) = ((L % 3 : Nat) : Int) := w_mod (b := 3) bL (by decide)
  have w3 : (w32 3 = 0) = False := eq_false (by decide)
  by_cases c : L % 3 = 0
  · have n1 : (((L % 3 : Nat) : Int) = 0) = True := eq_true (by omega)
    rw [decide_eq_true c, Bool.true_and]
    refine Iff.trans ?_ (m_atLoop d (R := R) hX0 hO hs hl hL (L / 3) 0 (by omega))
    rw [callD_k]; simp only [entL_i, entL_l, entL_q, entL_s, entL_nil, n_X11_areThrees, u_X11_areThrees, m_X11_areThrees, rep_2, List.cons_append, List.nil_append, List.append_nil, List.length_cons, List.length_nil, Nat.reduceAdd, true_and]
    simp only [AW_k, AWk_1, x_aload_0, x_aloads_0, x_getf, x_iload_1, x_iald, x_ialds, x_push_i, x_push_l, x_irem, x_if_ne, x_goto, x_istore_2, x_istore_3, x_iload_3, unl_i, unl_l, unl_q, unl_r, unl_s, unl_n, k_X11_areThrees_0, k_X11_areThrees_1, k_X11_areThrees_2, k_X11_areThrees_3, k_X11_areThrees_4, k_X11_areThrees_5, k_X11_areThrees_6, k_X11_areThrees_7, k_X11_areThrees_8, k_X11_areThrees_9, k_X11_areThrees_10, k_X11_areThrees_11, k_X11_areThrees_12, k_X11_areThrees_13, oE_some, Int.reduceToNat, Nat.reduceAdd, true_and, and_true, List.length_cons, List.length_nil, Option.toList_some, Option.toList_none, List.cons_append, List.nil_append, Nat.reduceLeDiff, Nat.le_refl, wdS_nil, wdS_i, wdS_l, wdS_r, wdS_n, wdS_s, g38, a76, ile, w32_nat bs, Int.toNat_natCast, hl, em, w3, w32_nat b3, not_false_eq_true, n1, ↓reduceIte]
    all_goals exact Iff.rfl
  · have n1 : (((L % 3 : Nat) : Int) = 0) = False := eq_false (by omega)
    rw [decide_eq_false c, Bool.false_and]
    refine Iff.trans ?_ (m_at0 d (R := R) hX0 hO hs hl hL (i := 0) (by omega))
    rw [callD_k]; simp only [entL_i, entL_l, entL_q, entL_s, entL_nil, n_X11_areThrees, u_X11_areThrees, m_X11_areThrees, rep_2, List.cons_append, List.nil_append, List.append_nil, List.length_cons, List.length_nil, Nat.reduceAdd, true_and]
    simp only [AW_k, AWk_1, x_aload_0, x_aloads_0, x_getf, x_iload_1, x_iald, x_ialds, x_push_i, x_push_l, x_irem, x_if_ne, x_goto, x_istore_2, x_istore_3, x_iload_3, unl_i, unl_l, unl_q, unl_r, unl_s, unl_n, k_X11_areThrees_0, k_X11_areThrees_1, k_X11_areThrees_2, k_X11_areThrees_3, k_X11_areThrees_4, k_X11_areThrees_5, k_X11_areThrees_6, k_X11_areThrees_7, k_X11_areThrees_8, k_X11_areThrees_9, k_X11_areThrees_10, k_X11_areThrees_11, k_X11_areThrees_12, k_X11_areThrees_13, oE_some, Int.reduceToNat, Nat.reduceAdd, true_and, and_true, List.length_cons, List.length_nil, Option.toList_some, Option.toList_none, List.cons_append, List.nil_append, Nat.reduceLeDiff, Nat.le_refl, wdS_nil, wdS_i, wdS_l, wdS_r, wdS_n, wdS_s, g38, a76, ile, w32_nat bs, Int.toNat_natCast, hl, em, w3, w32_nat b3, not_false_eq_true, n1, ↓reduceIte]
    all_goals exact Iff.rfl
set_option maxHeartbeats 16000000 in
theorem m_ftLoop (d : Nat) {hp : HP} {n : Nat} {G : BitVec 64} {z : Int} {c : Nat} {ks : List Int} {es : List Int} {ik : Bool} {kn : Nat} {kG : BitVec 64} {kz : Int} {kc : Nat} {kks : List Int} {kes : List Int} {tc : Nat} {tb : List Int} {sc : Nat} {tl : List Int} {so : List Int} {le : List Int} {it : Nat → List (BitVec 64)} {he : List Int} {th : List Int} {sl : List Int} {tr : Nat} {bo : List Int} {s L : Nat} {H : BitVec 64} {R : PO} (hX : MI (hp) n G z c ks es ik kn kG kz kc kks kes tc tb sc tl so le it he th sl tr bo) (hO : shOK so le it) (hs : s < 4) (hl : le.getD s 0 = (L : Int)) (hL : L ≤ 40) (hI : ∀ j, w32 ((it s).getD j 0).toInt = ((it s).getD j 0).toInt) : ∀ (m i : Nat) (y5 y6 : Option AV), i + 3 * m = L → at3A n (it s) m i = true → (AWh (d + 9) [] 250 R 2 [some (mR 54), some (mI (s : Int)), some (mL H), none, some (mI (i : Int)), y5, y6] [] hp (0, 0) ↔ R (some (mI (zI (ftA n H (it s) m i)))) hp) := by
  obtain ⟨⟨u1, u2, u3⟩, kN, kZ, kM, kGm, l5, l6, qk, q0, q1, q2, q3, q4, q5, q6, q7, q8, q9⟩ := hX
  obtain ⟨fr_, to_, co_, op_, wr_, ki_, nu_, mm_, pa_, hF⟩ := YO_F q0
  have hA : MA hp n := ⟨⟨⟨u2, u3⟩, hF 0, hF 18, hF 19, q1.1.1, q1.1.2⟩, ⟨hF 13, hF 14, hF 15, hF 16, hF 17⟩, q1.2⟩
  have hK := hA.1
  have cK := cM hK
  have hG : gF hp 54 11 3 = some (mL G) := hF 3
  have g38 : gF hp 54 11 38 = some (mR 76) := hF 38
  have g39 : gF hp 54 11 39 = some (mR 77) := hF 39
  obtain ⟨⟨a75, a76⟩, ⟨ce, j77, lce, hce⟩, as, j78, las⟩ := q7
  have bs : s < 2147483648 := by omega
  have ile : inB (s : Int) le.length := by rw [hO.2.1]; exact inB_n hs (by decide)
  have bL : L < 2147483648 := by omega
  intro m
  induction m with
  | zero =>
    intro i y5 y6 hi _
    have e : i = L := by omega
    subst e
    have e2 : (i : Int) + 2 = ((i + 2 : Nat) : Int) := by omega
    have b2 : i + 2 < 2147483648 := by omega
    have n1 : (((i + 2 : Nat) : Int) < (i : Int)) = False := eq_false (by omega)
    rw [AWh_k, k_X11_fits_2]
    simp only [AW_k, AWk_1, x_iload_4, x_push_i, x_push_l, x_iadd, x_aload_0, x_aloads_0, x_getf, x_iload_1, x_iald, x_ialds, x_icmp_ge, x_ret, x_ret_i, x_ret_z, x_ret_l, x_ret_c, k_X11_fits_2, k_X11_fits_3, k_X11_fits_4, k_X11_fits_5, k_X11_fits_6, k_X11_fits_7, k_X11_fits_8, k_X11_fits_9, k_X11_fits_63, k_X11_fits_64, oE_some, Int.reduceToNat, Nat.reduceAdd, true_and, and_true, List.length_cons, List.length_nil, Option.toList_some, Option.toList_none, List.cons_append, List.nil_append, Nat.reduceLeDiff, Nat.le_refl, wdS_nil, wdS_i, wdS_l, wdS_r, wdS_n, wdS_s, g38, a76, ile, w32_nat bs, Int.toNat_natCast, hl, e2, w32_nat b2, w32_nat bL, n1, ↓reduceIte]
    exact ⟨fun q => q.2, fun q => ⟨Or.inr trivial, q⟩⟩
  | succ m ih =>
    intro i y5 y6 hi hat
    rw [at3A_succ, Bool.and_eq_true] at hat
    obtain ⟨h3, hat⟩ := hat
    have e2 : (i : Int) + 2 = ((i + 2 : Nat) : Int) := by omega
    have e3 : (i : Int) + 3 = ((i + 3 : Nat) : Int) := by omega
    have b2 : i + 2 < 2147483648 := by omega
    have n1 : (((i + 2 : Nat) : Int) < (L : Int)) = True := eq_true (by omega)
    have c0 : 40 * (s : Int) + (i : Int) = ((40 * s + i : Nat) : Int) := by omega
    have c1 : ((40 * s + i : Nat) : Int) + 1 = ((40 * s + i + 1 : Nat) : Int) := by omega
    have c2 : ((40 * s + i : Nat) : Int) + 2 = ((40 * s + i + 2 : Nat) : Int) := by omega
    have k0 : 40 * s + i < 2147483648 := by omega
    have k1 : 40 * s + i + 1 < 2147483648 := by omega
    have k2 : 40 * s + i + 2 < 2147483648 := by omega
    have i0 : inB ((40 * s + i : Nat) : Int) ce.length := by rw [lce]; exact inB_n (by omega) (by decide)
    have i1 : inB ((40 * s + i + 1 : Nat) : Int) ce.length := by rw [lce]; exact inB_n (by omega) (by decide)
    have i2 : inB ((40 * s + i + 2 : Nat) : Int) ce.length := by rw [lce]; exact inB_n (by omega) (by decide)
    have h0 : ce.getD (40 * s + i) 0 = (it s).getD i 0 := hce s hs i (by omega)
    have h1 : ce.getD (40 * s + i + 1) 0 = (it s).getD (i + 1) 0 := hce s hs (i + 1) (by omega)
    have h2 : ce.getD (40 * s + i + 2) 0 = (it s).getD (i + 2) 0 := hce s hs (i + 2) (by omega)
    unfold at3 at h3
    cases ex : ixo n (iv (it s) i) with
    | none => rw [ex] at h3; exact absurd h3 (by simp)
    | some a =>
      cases ey : ixo n (iv (it s) (i + 1)) with
      | none => rw [ex, ey] at h3; exact absurd h3 (by simp)
      | some b =>
        have ha := ixo_lt ex
        have hb := ixo_lt ey
        have na : ((it s).getD i 0).toInt = ((num n a : Nat) : Int) := by rw [ixo_num ex]; exact (hI i).symm
        have nb : ((it s).getD (i + 1) 0).toInt = ((num n b : Nat) : Int) := by rw [ixo_num ey]; exact (hI (i + 1)).symm
        have ga : ∀ R : PO, callD (d + 9) 228 [mR 54, mI ((num n a : Nat) : Int), mI 1, mL H] hp R ↔ R (some (mI ((num n (lst n H a) : Nat) : Int))) hp := fun R => m_goes (d + 5) (G := H) (b := true) hA ha R
        have gb : ∀ R : PO, callD (d + 9) 228 [mR 54, mI ((num n b : Nat) : Int), mI 1, mL H] hp R ↔ R (some (mI ((num n (lst n H b) : Nat) : Int))) hp := fun R => m_goes (d + 5) (G := H) (b := true) hA hb R
        have la := lst_ok (G := H) u2 u3 ha
        have lb := lst_ok (G := H) u2 u3 hb
        have wa := num_31 u2 u3 la
        have wb := num_31 u2 u3 lb
        rw [ftA_succ, ft1_s ex ey]
        have hi3 := ih (i + 3) (some (mI ((num n (lst n H a) : Nat) : Int))) (some (mI ((num n (lst n H b) : Nat) : Int))) (by omega) hat
        have o1 : BitVec.ofInt 64 (w32 1) = 1#64 := rfl
        have o0 : BitVec.ofInt 64 (w32 0) = 0#64 := rfl
        have ne := num_eqI u2 u3 la lb
        by_cases ce1 : lst n H a = lst n H b
        · have cc : (lst n H a = lst n H b) = True := eq_true ce1
          rw [if_pos ce1]
          rw [AWh_k, k_X11_fits_2]
          by_cases cv : (1#64) = (it s).getD (i + 2) 0
          · rw [decide_eq_true cv.symm, Bool.true_and]
            simp only [AW_k, AWk_1, x_iload_4, x_push_i, x_push_l, x_iadd, x_aload_0, x_aloads_0, x_getf, x_iload_1, x_iald, x_ialds, x_icmp_ge, x_imul, x_lald, x_l2i, x_lload_2, x_callv_4, x_istore_5, x_istore_6, x_iload_5, x_iload_6, x_icmp_ne, x_goto, x_i2l, x_lcmp, x_if_eq, x_ret, x_ret_i, x_ret_z, x_ret_l, x_ret_c, x_iinc_4, unl_i, unl_l, unl_q, unl_r, unl_s, unl_n, k_X11_fits_2, k_X11_fits_3, k_X11_fits_4, k_X11_fits_5, k_X11_fits_6, k_X11_fits_7, k_X11_fits_8, k_X11_fits_9, k_X11_fits_10, k_X11_fits_11, k_X11_fits_12, k_X11_fits_13, k_X11_fits_14, k_X11_fits_15, k_X11_fits_16, k_X11_fits_17, k_X11_fits_18, k_X11_fits_19, k_X11_fits_20, k_X11_fits_21, k_X11_fits_22, k_X11_fits_23, k_X11_fits_24, k_X11_fits_25, k_X11_fits_26, k_X11_fits_27, k_X11_fits_28, k_X11_fits_29, k_X11_fits_30, k_X11_fits_31, k_X11_fits_32, k_X11_fits_33, k_X11_fits_34, k_X11_fits_35, k_X11_fits_36, k_X11_fits_37, k_X11_fits_38, k_X11_fits_39, k_X11_fits_40, k_X11_fits_41, k_X11_fits_42, k_X11_fits_43, k_X11_fits_44, k_X11_fits_45, k_X11_fits_46, k_X11_fits_47, k_X11_fits_48, k_X11_fits_49, k_X11_fits_50, k_X11_fits_51, k_X11_fits_52, k_X11_fits_53, k_X11_fits_54, k_X11_fits_55, k_X11_fits_56, k_X11_fits_57, k_X11_fits_58, k_X11_fits_59, k_X11_fits_60, k_X11_fits_61, k_X11_fits_62, oE_some, Int.reduceToNat, Nat.reduceAdd, true_and, and_true, List.length_cons, List.length_nil, Option.toList_some, Option.toList_none, List.cons_append, List.nil_append, Nat.reduceLeDiff, Nat.le_refl, wdS_nil, wdS_i, wdS_l, wdS_r, wdS_n, wdS_s, g38, a76, ile, w32_nat bs, Int.toNat_natCast, hl, e2, w32_nat b2, w32_nat bL, n1, g39, j77, c0, c1, c2, i0, i1, i2, w32_nat k0, w32_nat k1, w32_nat k2, h0, h1, h2, na, nb, cK, ga, gb, w32_nat wa, w32_nat wb, ne, cc, o1, lCmp_eq, ← cv, e3, ↓reduceIte]
            exact hi3
          · have cf : ((1#64) = (it s).getD (i + 2) 0) = False := eq_false cv
            rw [decide_eq_false (fun q => cv q.symm), Bool.false_and]
            simp only [AW_k, AWk_1, x_iload_4, x_push_i, x_push_l, x_iadd, x_aload_0, x_aloads_0, x_getf, x_iload_1, x_iald, x_ialds, x_icmp_ge, x_imul, x_lald, x_l2i, x_lload_2, x_callv_4, x_istore_5, x_istore_6, x_iload_5, x_iload_6, x_icmp_ne, x_goto, x_i2l, x_lcmp, x_if_eq, x_ret, x_ret_i, x_ret_z, x_ret_l, x_ret_c, x_iinc_4, unl_i, unl_l, unl_q, unl_r, unl_s, unl_n, k_X11_fits_2, k_X11_fits_3, k_X11_fits_4, k_X11_fits_5, k_X11_fits_6, k_X11_fits_7, k_X11_fits_8, k_X11_fits_9, k_X11_fits_10, k_X11_fits_11, k_X11_fits_12, k_X11_fits_13, k_X11_fits_14, k_X11_fits_15, k_X11_fits_16, k_X11_fits_17, k_X11_fits_18, k_X11_fits_19, k_X11_fits_20, k_X11_fits_21, k_X11_fits_22, k_X11_fits_23, k_X11_fits_24, k_X11_fits_25, k_X11_fits_26, k_X11_fits_27, k_X11_fits_28, k_X11_fits_29, k_X11_fits_30, k_X11_fits_31, k_X11_fits_32, k_X11_fits_33, k_X11_fits_34, k_X11_fits_35, k_X11_fits_36, k_X11_fits_37, k_X11_fits_38, k_X11_fits_39, k_X11_fits_40, k_X11_fits_41, k_X11_fits_42, k_X11_fits_43, k_X11_fits_44, k_X11_fits_45, k_X11_fits_46, k_X11_fits_47, k_X11_fits_48, k_X11_fits_49, k_X11_fits_50, k_X11_fits_51, k_X11_fits_52, k_X11_fits_53, k_X11_fits_54, k_X11_fits_55, k_X11_fits_56, k_X11_fits_57, k_X11_fits_58, k_X11_fits_59, k_X11_fits_60, k_X11_fits_61, k_X11_fits_62, oE_some, Int.reduceToNat, Nat.reduceAdd, true_and, and_true, List.length_cons, List.length_nil, Option.toList_some, Option.toList_none, List.cons_append, List.nil_append, Nat.reduceLeDiff, Nat.le_refl, wdS_nil, wdS_i, wdS_l, wdS_r, wdS_n, wdS_s, g38, a76, ile, w32_nat bs, Int.toNat_natCast, hl, e2, w32_nat b2, w32_nat bL, n1, g39, j77, c0, c1, c2, i0, i1, i2, w32_nat k0, w32_nat k1, w32_nat k2, h0, h1, h2, na, nb, cK, ga, gb, w32_nat wa, w32_nat wb, ne, cc, o1, lCmp_eq, cf, ↓reduceIte]
            exact ⟨fun q => q.2, fun q => ⟨Or.inl trivial, q⟩⟩
        · have cc : (lst n H a = lst n H b) = False := eq_false ce1
          rw [if_neg ce1]
          rw [AWh_k, k_X11_fits_2]
          by_cases cv : (0#64) = (it s).getD (i + 2) 0
          · rw [decide_eq_true cv.symm, Bool.true_and]
            simp only [AW_k, AWk_1, x_iload_4, x_push_i, x_push_l, x_iadd, x_aload_0, x_aloads_0, x_getf, x_iload_1, x_iald, x_ialds, x_icmp_ge, x_imul, x_lald, x_l2i, x_lload_2, x_callv_4, x_istore_5, x_istore_6, x_iload_5, x_iload_6, x_icmp_ne, x_goto, x_i2l, x_lcmp, x_if_eq, x_ret, x_ret_i, x_ret_z, x_ret_l, x_ret_c, x_iinc_4, unl_i, unl_l, unl_q, unl_r, unl_s, unl_n, k_X11_fits_2, k_X11_fits_3, k_X11_fits_4, k_X11_fits_5, k_X11_fits_6, k_X11_fits_7, k_X11_fits_8, k_X11_fits_9, k_X11_fits_10, k_X11_fits_11, k_X11_fits_12, k_X11_fits_13, k_X11_fits_14, k_X11_fits_15, k_X11_fits_16, k_X11_fits_17, k_X11_fits_18, k_X11_fits_19, k_X11_fits_20, k_X11_fits_21, k_X11_fits_22, k_X11_fits_23, k_X11_fits_24, k_X11_fits_25, k_X11_fits_26, k_X11_fits_27, k_X11_fits_28, k_X11_fits_29, k_X11_fits_30, k_X11_fits_31, k_X11_fits_32, k_X11_fits_33, k_X11_fits_34, k_X11_fits_35, k_X11_fits_36, k_X11_fits_37, k_X11_fits_38, k_X11_fits_39, k_X11_fits_40, k_X11_fits_41, k_X11_fits_42, k_X11_fits_43, k_X11_fits_44, k_X11_fits_45, k_X11_fits_46, k_X11_fits_47, k_X11_fits_48, k_X11_fits_49, k_X11_fits_50, k_X11_fits_51, k_X11_fits_52, k_X11_fits_53, k_X11_fits_54, k_X11_fits_55, k_X11_fits_56, k_X11_fits_57, k_X11_fits_58, k_X11_fits_59, k_X11_fits_60, k_X11_fits_61, k_X11_fits_62, oE_some, Int.reduceToNat, Nat.reduceAdd, true_and, and_true, List.length_cons, List.length_nil, Option.toList_some, Option.toList_none, List.cons_append, List.nil_append, Nat.reduceLeDiff, Nat.le_refl, wdS_nil, wdS_i, wdS_l, wdS_r, wdS_n, wdS_s, g38, a76, ile, w32_nat bs, Int.toNat_natCast, hl, e2, w32_nat b2, w32_nat bL, n1, g39, j77, c0, c1, c2, i0, i1, i2, w32_nat k0, w32_nat k1, w32_nat k2, h0, h1, h2, na, nb, cK, ga, gb, w32_nat wa, w32_nat wb, ne, cc, o0, lCmp_eq, ← cv, e3, ↓reduceIte]
            exact hi3
          · have cf : ((0#64) = (it s).getD (i + 2) 0) = False := eq_false cv
            rw [decide_eq_false (fun q => cv q.symm), Bool.false_and]
            simp only [AW_k, AWk_1, x_iload_4, x_push_i, x_push_l, x_iadd, x_aload_0, x_aloads_0, x_getf, x_iload_1, x_iald, x_ialds, x_icmp_ge, x_imul, x_lald, x_l2i, x_lload_2, x_callv_4, x_istore_5, x_istore_6, x_iload_5, x_iload_6, x_icmp_ne, x_goto, x_i2l, x_lcmp, x_if_eq, x_ret, x_ret_i, x_ret_z, x_ret_l, x_ret_c, x_iinc_4, unl_i, unl_l, unl_q, unl_r, unl_s, unl_n, k_X11_fits_2, k_X11_fits_3, k_X11_fits_4, k_X11_fits_5, k_X11_fits_6, k_X11_fits_7, k_X11_fits_8, k_X11_fits_9, k_X11_fits_10, k_X11_fits_11, k_X11_fits_12, k_X11_fits_13, k_X11_fits_14, k_X11_fits_15, k_X11_fits_16, k_X11_fits_17, k_X11_fits_18, k_X11_fits_19, k_X11_fits_20, k_X11_fits_21, k_X11_fits_22, k_X11_fits_23, k_X11_fits_24, k_X11_fits_25, k_X11_fits_26, k_X11_fits_27, k_X11_fits_28, k_X11_fits_29, k_X11_fits_30, k_X11_fits_31, k_X11_fits_32, k_X11_fits_33, k_X11_fits_34, k_X11_fits_35, k_X11_fits_36, k_X11_fits_37, k_X11_fits_38, k_X11_fits_39, k_X11_fits_40, k_X11_fits_41, k_X11_fits_42, k_X11_fits_43, k_X11_fits_44, k_X11_fits_45, k_X11_fits_46, k_X11_fits_47, k_X11_fits_48, k_X11_fits_49, k_X11_fits_50, k_X11_fits_51, k_X11_fits_52, k_X11_fits_53, k_X11_fits_54, k_X11_fits_55, k_X11_fits_56, k_X11_fits_57, k_X11_fits_58, k_X11_fits_59, k_X11_fits_60, k_X11_fits_61, k_X11_fits_62, oE_some, Int.reduceToNat, Nat.reduceAdd, true_and, and_true, List.length_cons, List.length_nil, Option.toList_some, Option.toList_none, List.cons_append, List.nil_append, Nat.reduceLeDiff, Nat.le_refl, wdS_nil, wdS_i, wdS_l, wdS_r, wdS_n, wdS_s, g38, a76, ile, w32_nat bs, Int.toNat_natCast, hl, e2, w32_nat b2, w32_nat bL, n1, g39, j77, c0, c1, c2, i0, i1, i2, w32_nat k0, w32_nat k1, w32_nat k2, h0, h1, h2, na, nb, cK, ga, gb, w32_nat wa, w32_nat wb, ne, cc, o0, lCmp_eq, cf, ↓reduceIte]
            exact ⟨fun q => q.2, fun q => ⟨Or.inl trivial, q⟩⟩
