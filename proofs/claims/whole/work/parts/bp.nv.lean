/-! ===== the reference's taken, rowFrom ===== -/
theorem qq5_I : (5#64).toInt = 5 := by decide
theorem qq10_I : (10#64).toInt = 10 := by decide
theorem qq13_I : (13#64).toInt = 13 := by decide
set_option maxHeartbeats 32000000 in
theorem x_taken_m (d : Nat) {hp : HP} {n : Nat} {G : BitVec 64} {z : Int} {c : Nat} {ks : List Int} {es : List Int} {ik : Bool} {kn : Nat} {kG : BitVec 64} {kz : Int} {kc : Nat} {kks : List Int} {kes : List Int} {tc : Nat} {tb : List Int} {sc : Nat} {tl : List Int} {so : List Int} {le : List Int} {it : Nat → List (BitVec 64)} {he : List Int} {th : List Int} {sl : List Int} {tr : Nat} {bo : List Int} {x a : Int} (hX : MI (hp) n G z c ks es ik kn kG kz kc kks kes tc tb sc tl so le it he th sl tr bo) (hV : slOK he th sl) (hM : mkOK c ks es) (hx : w32 x = x) (ha : w32 a = a) (R : PO) : callD (d + 100) 271 [mR 54, mI x, mI a] hp R ↔ R (some (mI (tnA c ks he th sl x a))) hp := by
  have hX0 := hX
  obtain ⟨⟨u1, u2, u3⟩, kN, kZ, kM, kGm, l5, l6, qk, q0, q1, q2, q3, q4, q5, q6, q7, q8, q9⟩ := hX
  obtain ⟨fr_, to_, co_, op_, wr_, ki_, nu_, mm_, pa_, hF⟩ := YO_F q0
  have hA : MA hp n := ⟨⟨⟨u2, u3⟩, hF 0, hF 18, hF 19, q1.1.1, q1.1.2⟩, ⟨hF 13, hF 14, hF 15, hF 16, hF 17⟩, q1.2⟩
  have hK := hA.1
  have cK := cM hK
  have hG : gF hp 54 11 3 = some (mL G) := hF 3
  have g4 : gF hp 54 11 4 = some (mR 55) := hF 4
  have g42 : gF hp 54 11 42 = some (mR 80) := hF 42
  have g43 : gF hp 54 11 43 = some (mR 81) := hF 43
  obtain ⟨⟨a55, a56⟩, lks, les⟩ := q2
  obtain ⟨v1, v2, v3, ⟨a79, a80, a81⟩, ⟨n1, n2, n3⟩, H⟩ := q8
  have i5 : w32 5 = 5 := rfl
  have i2 : w32 2 = 2 := rfl
  unfold tnA
  cases ex : shO x with
  | none =>
    rw [callD_k]; simp only [entL_i, entL_l, entL_q, entL_s, entL_nil, n_X11_taken, u_X11_taken, m_X11_taken, rep_1, List.cons_append, List.nil_append, List.append_nil, List.length_cons, List.length_nil, Nat.reduceAdd, true_and]
    simp only [AW_k, AWk_1, x_iload_1, x_call_1, x_if_eq, x_iload_2, x_i2l, x_push_i, x_push_l, x_call_3, x_if_ne, x_ret, x_ret_i, x_ret_z, x_ret_l, x_ret_c, k_X11_taken_0, k_X11_taken_1, k_X11_taken_2, k_X11_taken_3, k_X11_taken_4, k_X11_taken_5, k_X11_taken_6, k_X11_taken_7, k_X11_taken_8, k_X11_taken_9, k_X11_taken_10, k_X11_taken_11, k_X11_taken_12, k_X11_taken_13, k_X11_taken_14, k_X11_taken_15, k_X11_taken_16, oE_some, Int.reduceToNat, Nat.reduceAdd, true_and, and_true, List.length_cons, List.length_nil, Option.toList_some, Option.toList_none, List.cons_append, List.nil_append, Nat.reduceLeDiff, Nat.le_refl, wdS_nil, wdS_i, wdS_l, wdS_r, wdS_n, wdS_s, m_isShelf_n (d + 97) hx ex, w00, ↓reduceIte]
  | some s =>
    obtain ⟨hs, es'⟩ := shO_lt ex
    have ms := fun R => m_isShelf_s (d + 97) (hp := hp) hx ex R
    have mh := fun R => m_heldBy (d + 96) hX0 hV hM.2.2.1 hs R
    obtain ⟨H0, H1, H2⟩ := H s hs
    have ho := hoV_in (c := c) hV hs
    obtain ⟨-, hv⟩ := hV
    obtain ⟨t1, t2, t3, t4, t5⟩ := hv s hs
    have bs : s < 2147483648 := by omega
    have i80 : inB (s : Int) v2.length := by rw [n2]; exact inB_n hs (by decide)
    have i81 : inB (s : Int) v3.length := by rw [n3]; exact inB_n hs (by decide)
    have r1 : -2147483648 ≤ 10 + th.getD s 0 := by clear ha hx; omega
    have r2 : 10 + th.getD s 0 < 2147483648 := by clear ha hx; omega
    subst es'
    by_cases cf : (0 ≤ a ∧ a < 6) ∨ (10 ≤ a ∧ a ≤ 13)
    · simp only [if_pos cf]
      have toM : callD (d + 100) 271 [mR 54, mI (s : Int), mI a] hp R ↔ AW (d + 99) [] 271 R 17 [some (mR 54), some (mI (s : Int)), some (mI a), none] [] hp (0, 0) := by
        by_cases c1 : 0 ≤ a ∧ a < 6
        · have d1 : inI a 0 5 = true := decide_eq_true ⟨c1.1, by clear ha hx; omega⟩
          rw [callD_k]; simp only [entL_i, entL_l, entL_q, entL_s, entL_nil, n_X11_taken, u_X11_taken, m_X11_taken, rep_1, List.cons_append, List.nil_append, List.append_nil, List.length_cons, List.length_nil, Nat.reduceAdd, true_and]
          simp only [AW_k, AWk_1, x_iload_1, x_call_1, x_if_eq, x_iload_2, x_i2l, x_push_i, x_push_l, x_call_3, x_if_ne, x_ret, x_ret_i, x_ret_z, x_ret_l, x_ret_c, k_X11_taken_0, k_X11_taken_1, k_X11_taken_2, k_X11_taken_3, k_X11_taken_4, k_X11_taken_5, k_X11_taken_6, k_X11_taken_7, k_X11_taken_8, k_X11_taken_9, k_X11_taken_10, k_X11_taken_11, k_X11_taken_12, k_X11_taken_13, k_X11_taken_14, k_X11_taken_15, k_X11_taken_16, oE_some, Int.reduceToNat, Nat.reduceAdd, true_and, and_true, List.length_cons, List.length_nil, Option.toList_some, Option.toList_none, List.cons_append, List.nil_append, Nat.reduceLeDiff, Nat.le_refl, wdS_nil, wdS_i, wdS_l, wdS_r, wdS_n, wdS_s, ms, w10, m_in (d + 98), tI_id ha, q0_I, qq5_I, d1, zI_t, ↓reduceIte]
          all_goals exact Iff.rfl
        · have c2 : 10 ≤ a ∧ a ≤ 13 := cf.resolve_left c1
          have d1 : inI a 0 5 = false := decide_eq_false (fun q => c1 ⟨q.1, by clear ha hx; omega⟩)
          have d2 : inI a 10 13 = true := decide_eq_true c2
          rw [callD_k]; simp only [entL_i, entL_l, entL_q, entL_s, entL_nil, n_X11_taken, u_X11_taken, m_X11_taken, rep_1, List.cons_append, List.nil_append, List.append_nil, List.length_cons, List.length_nil, Nat.reduceAdd, true_and]
          simp only [AW_k, AWk_1, x_iload_1, x_call_1, x_if_eq, x_iload_2, x_i2l, x_push_i, x_push_l, x_call_3, x_if_ne, x_ret, x_ret_i, x_ret_z, x_ret_l, x_ret_c, k_X11_taken_0, k_X11_taken_1, k_X11_taken_2, k_X11_taken_3, k_X11_taken_4, k_X11_taken_5, k_X11_taken_6, k_X11_taken_7, k_X11_taken_8, k_X11_taken_9, k_X11_taken_10, k_X11_taken_11, k_X11_taken_12, k_X11_taken_13, k_X11_taken_14, k_X11_taken_15, k_X11_taken_16, oE_some, Int.reduceToNat, Nat.reduceAdd, true_and, and_true, List.length_cons, List.length_nil, Option.toList_some, Option.toList_none, List.cons_append, List.nil_append, Nat.reduceLeDiff, Nat.le_refl, wdS_nil, wdS_i, wdS_l, wdS_r, wdS_n, wdS_s, ms, w10, w00, m_in (d + 98), tI_id ha, q0_I, qq5_I, qq10_I, qq13_I, d1, d2, zI_t, zI_f, ↓reduceIte]
          all_goals exact Iff.rfl
      rw [toM]
      rcases ho with e | e | e
      · rw [e] at mh
        simp only [e, ↓reduceIte]
        simp only [AW_k, AWk_1, x_aload_0, x_aloads_0, x_iload_1, x_callv_2, x_istore_3, x_iload_3, x_push_i, x_push_l, x_icmp_ne, x_ret, x_ret_i, x_ret_z, x_ret_l, x_ret_c, unl_i, unl_l, unl_q, unl_r, unl_s, unl_n, k_X11_taken_17, k_X11_taken_18, k_X11_taken_19, k_X11_taken_20, k_X11_taken_21, k_X11_taken_22, k_X11_taken_23, k_X11_taken_24, k_X11_taken_25, oE_some, Int.reduceToNat, Nat.reduceAdd, true_and, and_true, List.length_cons, List.length_nil, Option.toList_some, Option.toList_none, List.cons_append, List.nil_append, Nat.reduceLeDiff, Nat.le_refl, wdS_nil, wdS_i, wdS_l, wdS_r, wdS_n, wdS_s, cK, mh, show rho 0 = 2 from rfl, i2, ↓reduceIte]
      · rw [e] at mh
        obtain ⟨i, hi⟩ := hoV_1 e
        obtain ⟨k2, k3⟩ := mkO_lt hi
        have he1 : he.getD s 0 = 1 := by
          unfold hoV at e
          split at e
          · next q => exact q
          · next q => exact absurd e q
        obtain ⟨x1, x2⟩ := H1 he1
        have c6 := hM.2.2.1
        have bi : i < 2147483648 := by clear ha hx; omega
        have ik : inB (i : Int) ks.length := by rw [lks]; exact inB_n (by clear ha hx; omega) (by decide)
        obtain ⟨kk, mm, m1, m2, m3, m4⟩ := hM.2.2.2 i k2
        by_cases c1 : 0 ≤ a ∧ a < 6
        · obtain ⟨A, hA⟩ : ∃ A : Nat, a = (A : Int) := ⟨a.toNat, by clear ha hx; omega⟩
          subst hA
          have bA : A < 2147483648 := by clear ha hx; omega
          have n5 : ((5 : Int) < (A : Int)) = False := eq_false (by clear ha hx; omega)
          have cu := fun R => m_isUnder (d + 98) (hp := hp) (k := kk) (a := A) m2 (by clear ha hx; omega) R
          cases eu : isU kk A with
          | true =>
            rw [eu] at cu
            have big : 0 ≤ (A : Int) ∧ (A : Int) < 6 ∧ isU kk A = true := ⟨c1.1, c1.2, eu⟩
            simp only [e, k3, Int.toNat_natCast, m1, if_pos big, show ((1 : Int) = 0) = False from eq_false (by decide), ↓reduceIte]
            simp only [AW_k, AWk_1, x_aload_0, x_aloads_0, x_iload_1, x_callv_2, x_istore_3, x_iload_3, x_push_i, x_push_l, x_icmp_ne, x_ret, x_ret_i, x_ret_z, x_ret_l, x_ret_c, x_if_ne, x_iload_2, x_icmp_gt, x_getf, x_iald, x_ialds, x_call_2, x_if_eq, x_goto, unl_i, unl_l, unl_q, unl_r, unl_s, unl_n, k_X11_taken_17, k_X11_taken_18, k_X11_taken_19, k_X11_taken_20, k_X11_taken_21, k_X11_taken_22, k_X11_taken_23, k_X11_taken_24, k_X11_taken_25, k_X11_taken_26, k_X11_taken_27, k_X11_taken_28, k_X11_taken_29, k_X11_taken_30, k_X11_taken_31, k_X11_taken_32, k_X11_taken_33, k_X11_taken_34, k_X11_taken_35, k_X11_taken_36, k_X11_taken_37, k_X11_taken_38, k_X11_taken_39, k_X11_taken_40, k_X11_taken_41, k_X11_taken_42, k_X11_taken_43, k_X11_taken_44, k_X11_taken_45, k_X11_taken_46, k_X11_taken_47, oE_some, Int.reduceToNat, Nat.reduceAdd, true_and, and_true, List.length_cons, List.length_nil, Option.toList_some, Option.toList_none, List.cons_append, List.nil_append, Nat.reduceLeDiff, Nat.le_refl, wdS_nil, wdS_i, wdS_l, wdS_r, wdS_n, wdS_s, cK, mh, show rho 1 = 0 from rfl, i2, w00, wz0, i5, w32_nat bA, n5, Int.reduceEq, g4, a55, g42, a80, i80, w32_nat bs, Int.toNat_natCast, x2, k3, ik, w32_tn bi, m1, cu, zI_t, w10, ↓reduceIte]
          | false =>
            rw [eu] at cu
            have big : ¬ (0 ≤ (A : Int) ∧ (A : Int) < 6 ∧ isU kk A = true) := fun q => absurd (eu.symm.trans q.2.2) (by decide)
            simp only [e, k3, Int.toNat_natCast, m1, if_neg big, show ((1 : Int) = 0) = False from eq_false (by decide), ↓reduceIte]
            simp only [AW_k, AWk_1, x_aload_0, x_aloads_0, x_iload_1, x_callv_2, x_istore_3, x_iload_3, x_push_i, x_push_l, x_icmp_ne, x_ret, x_ret_i, x_ret_z, x_ret_l, x_ret_c, x_if_ne, x_iload_2, x_icmp_gt, x_getf, x_iald, x_ialds, x_call_2, x_if_eq, x_goto, unl_i, unl_l, unl_q, unl_r, unl_s, unl_n, k_X11_taken_17, k_X11_taken_18, k_X11_taken_19, k_X11_taken_20, k_X11_taken_21, k_X11_taken_22, k_X11_taken_23, k_X11_taken_24, k_X11_taken_25, k_X11_taken_26, k_X11_taken_27, k_X11_taken_28, k_X11_taken_29, k_X11_taken_30, k_X11_taken_31, k_X11_taken_32, k_X11_taken_33, k_X11_taken_34, k_X11_taken_35, k_X11_taken_36, k_X11_taken_37, k_X11_taken_38, k_X11_taken_39, k_X11_taken_40, k_X11_taken_41, k_X11_taken_42, k_X11_taken_43, k_X11_taken_44, k_X11_taken_45, k_X11_taken_46, k_X11_taken_47, oE_some, Int.reduceToNat, Nat.reduceAdd, true_and, and_true, List.length_cons, List.length_nil, Option.toList_some, Option.toList_none, List.cons_append, List.nil_append, Nat.reduceLeDiff, Nat.le_refl, wdS_nil, wdS_i, wdS_l, wdS_r, wdS_n, wdS_s, cK, mh, show rho 1 = 0 from rfl, i2, w00, wz0, i5, w32_nat bA, n5, Int.reduceEq, g4, a55, g42, a80, i80, w32_nat bs, Int.toNat_natCast, x2, k3, ik, w32_tn bi, m1, cu, zI_f, ↓reduceIte]
        · have n5 : ((5 : Int) < a) = True := eq_true (by clear ha hx; omega)
          have nf2 : ¬ (0 ≤ a ∧ a < 6 ∧ isU (ks.getD (th.getD s 0).toNat 0).toNat a.toNat = true) := fun q => c1 ⟨q.1, q.2.1⟩
          simp only [e, if_neg nf2, show ((1 : Int) = 0) = False from eq_false (by decide), ↓reduceIte]
          simp only [AW_k, AWk_1, x_aload_0, x_aloads_0, x_iload_1, x_callv_2, x_istore_3, x_iload_3, x_push_i, x_push_l, x_icmp_ne, x_ret, x_ret_i, x_ret_z, x_ret_l, x_ret_c, x_if_ne, x_iload_2, x_icmp_gt, x_getf, x_iald, x_ialds, x_call_2, x_if_eq, x_goto, unl_i, unl_l, unl_q, unl_r, unl_s, unl_n, k_X11_taken_17, k_X11_taken_18, k_X11_taken_19, k_X11_taken_20, k_X11_taken_21, k_X11_taken_22, k_X11_taken_23, k_X11_taken_24, k_X11_taken_25, k_X11_taken_26, k_X11_taken_27, k_X11_taken_28, k_X11_taken_29, k_X11_taken_30, k_X11_taken_31, k_X11_taken_32, k_X11_taken_33, k_X11_taken_34, k_X11_taken_35, k_X11_taken_36, k_X11_taken_37, k_X11_taken_38, k_X11_taken_39, k_X11_taken_40, k_X11_taken_41, k_X11_taken_42, k_X11_taken_43, k_X11_taken_44, k_X11_taken_45, k_X11_taken_46, k_X11_taken_47, oE_some, Int.reduceToNat, Nat.reduceAdd, true_and, and_true, List.length_cons, List.length_nil, Option.toList_some, Option.toList_none, List.cons_append, List.nil_append, Nat.reduceLeDiff, Nat.le_refl, wdS_nil, wdS_i, wdS_l, wdS_r, wdS_n, wdS_s, cK, mh, show rho 1 = 0 from rfl, i2, w00, wz0, i5, ha, n5, Int.reduceEq, ↓reduceIte]
      · rw [e] at mh
        have he2 : he.getD s 0 = 2 := by
          unfold hoV at e
          split at e
          · split at e
            · exact absurd e (by decide)
            · exact absurd e (by decide)
          · exact e
        obtain ⟨x1, x2, x3⟩ := H2 he2
        have e20 : ((2 : Int) = 0) = False := eq_false (by decide)
        have e21 : ((2 : Int) = 1) = False := eq_false (by decide)
        by_cases ct : 10 ≤ a ∧ a ≤ 13 ∧ th.getD s 0 = a - 10
        · have n7 : (a = 10 + th.getD s 0) = True := eq_true (by clear ha hx; omega)
          simp only [e, e20, e21, if_pos ct, ↓reduceIte]
          simp only [AW_k, AWk_1, x_aload_0, x_aloads_0, x_iload_1, x_callv_2, x_istore_3, x_iload_3, x_push_i, x_push_l, x_icmp_ne, x_ret, x_ret_i, x_ret_z, x_ret_l, x_ret_c, x_if_ne, x_iload_2, x_icmp_gt, x_getf, x_iald, x_ialds, x_call_2, x_if_eq, x_goto, x_iadd, unl_i, unl_l, unl_q, unl_r, unl_s, unl_n, k_X11_taken_17, k_X11_taken_18, k_X11_taken_19, k_X11_taken_20, k_X11_taken_21, k_X11_taken_22, k_X11_taken_23, k_X11_taken_24, k_X11_taken_25, k_X11_taken_26, k_X11_taken_27, k_X11_taken_28, k_X11_taken_29, k_X11_taken_30, k_X11_taken_31, k_X11_taken_32, k_X11_taken_33, k_X11_taken_34, k_X11_taken_35, k_X11_taken_36, k_X11_taken_37, k_X11_taken_38, k_X11_taken_39, k_X11_taken_40, k_X11_taken_41, k_X11_taken_42, k_X11_taken_43, k_X11_taken_44, k_X11_taken_45, k_X11_taken_46, k_X11_taken_47, k_X11_taken_48, k_X11_taken_49, k_X11_taken_50, k_X11_taken_51, k_X11_taken_52, k_X11_taken_53, k_X11_taken_54, k_X11_taken_55, k_X11_taken_56, k_X11_taken_57, k_X11_taken_58, k_X11_taken_59, k_X11_taken_60, k_X11_taken_61, k_X11_taken_62, oE_some, Int.reduceToNat, Nat.reduceAdd, true_and, and_true, List.length_cons, List.length_nil, Option.toList_some, Option.toList_none, List.cons_append, List.nil_append, Nat.reduceLeDiff, Nat.le_refl, wdS_nil, wdS_i, wdS_l, wdS_r, wdS_n, wdS_s, cK, mh, show rho 2 = 1 from rfl, i2, w10, Int.reduceEq, show w32 1 = 1 from rfl, g42, a80, i80, w32_nat bs, Int.toNat_natCast, x2, ha, w32_id r1 r2, n7, g43, a81, i81, x3, ↓reduceIte]
        · have n7 : (a = 10 + th.getD s 0) = False := eq_false (fun q => ct (by clear ha hx; omega))
          simp only [e, e20, e21, if_neg ct, ↓reduceIte]
          simp only [AW_k, AWk_1, x_aload_0, x_aloads_0, x_iload_1, x_callv_2, x_istore_3, x_iload_3, x_push_i, x_push_l, x_icmp_ne, x_ret, x_ret_i, x_ret_z, x_ret_l, x_ret_c, x_if_ne, x_iload_2, x_icmp_gt, x_getf, x_iald, x_ialds, x_call_2, x_if_eq, x_goto, x_iadd, unl_i, unl_l, unl_q, unl_r, unl_s, unl_n, k_X11_taken_17, k_X11_taken_18, k_X11_taken_19, k_X11_taken_20, k_X11_taken_21, k_X11_taken_22, k_X11_taken_23, k_X11_taken_24, k_X11_taken_25, k_X11_taken_26, k_X11_taken_27, k_X11_taken_28, k_X11_taken_29, k_X11_taken_30, k_X11_taken_31, k_X11_taken_32, k_X11_taken_33, k_X11_taken_34, k_X11_taken_35, k_X11_taken_36, k_X11_taken_37, k_X11_taken_38, k_X11_taken_39, k_X11_taken_40, k_X11_taken_41, k_X11_taken_42, k_X11_taken_43, k_X11_taken_44, k_X11_taken_45, k_X11_taken_46, k_X11_taken_47, k_X11_taken_48, k_X11_taken_49, k_X11_taken_50, k_X11_taken_51, k_X11_taken_52, k_X11_taken_53, k_X11_taken_54, k_X11_taken_55, k_X11_taken_56, k_X11_taken_57, k_X11_taken_58, k_X11_taken_59, k_X11_taken_60, k_X11_taken_61, k_X11_taken_62, oE_some, Int.reduceToNat, Nat.reduceAdd, true_and, and_true, List.length_cons, List.length_nil, Option.toList_some, Option.toList_none, List.cons_append, List.nil_append, Nat.reduceLeDiff, Nat.le_refl, wdS_nil, wdS_i, wdS_l, wdS_r, wdS_n, wdS_s, cK, mh, show rho 2 = 1 from rfl, i2, w10, Int.reduceEq, show w32 1 = 1 from rfl, g42, a80, i80, w32_nat bs, Int.toNat_natCast, x2, ha, w32_id r1 r2, n7, ↓reduceIte]
    · simp only [if_neg cf]
      have d1 : inI a 0 5 = false := decide_eq_false (fun q => cf (Or.inl ⟨q.1, by clear ha hx; omega⟩))
      have d2 : inI a 10 13 = false := decide_eq_false (fun q => cf (Or.inr q))
      rw [callD_k]; simp only [entL_i, entL_l, entL_q, entL_s, entL_nil, n_X11_taken, u_X11_taken, m_X11_taken, rep_1, List.cons_append, List.nil_append, List.append_nil, List.length_cons, List.length_nil, Nat.reduceAdd, true_and]
      simp only [AW_k, AWk_1, x_iload_1, x_call_1, x_if_eq, x_iload_2, x_i2l, x_push_i, x_push_l, x_call_3, x_if_ne, x_ret, x_ret_i, x_ret_z, x_ret_l, x_ret_c, k_X11_taken_0, k_X11_taken_1, k_X11_taken_2, k_X11_taken_3, k_X11_taken_4, k_X11_taken_5, k_X11_taken_6, k_X11_taken_7, k_X11_taken_8, k_X11_taken_9, k_X11_taken_10, k_X11_taken_11, k_X11_taken_12, k_X11_taken_13, k_X11_taken_14, k_X11_taken_15, k_X11_taken_16, oE_some, Int.reduceToNat, Nat.reduceAdd, true_and, and_true, List.length_cons, List.length_nil, Option.toList_some, Option.toList_none, List.cons_append, List.nil_append, Nat.reduceLeDiff, Nat.le_refl, wdS_nil, wdS_i, wdS_l, wdS_r, wdS_n, wdS_s, ms, w10, w00, m_in (d + 98), tI_id ha, q0_I, qq5_I, qq10_I, qq13_I, d1, d2, zI_f, ↓reduceIte]
set_option maxHeartbeats 16000000 in
theorem m_rfLoop (d : Nat) {hp : HP} {n : Nat} {G : BitVec 64} {z : Int} {c : Nat} {ks : List Int} {es : List Int} {ik : Bool} {kn : Nat} {kG : BitVec 64} {kz : Int} {kc : Nat} {kks : List Int} {kes : List Int} {tc : Nat} {tb : List Int} {sc : Nat} {tl : List Int} {so : List Int} {le : List Int} {it : Nat → List (BitVec 64)} {he : List Int} {th : List Int} {sl : List Int} {tr : Nat} {bo : List Int} {s I : Nat} {R : PO} (hX : MI (hp) n G z c ks es ik kn kG kz kc kks kes tc tb sc tl so le it he th sl tr bo) (hs : s < 4) (hI : I + n ≤ 40) : ∀ (m p acc : Nat) (y5 : Option AV), p + m = n → acc < 10 ^ p → (AWh (d + 99) [] 267 R 36 [some (mR 54), some (mI (s : Int)), some (mI (I : Int)), some (mI (acc : Int)), some (mI (p : Int)), y5, none] [] hp (0, 0) ↔ R (some (mI (rfE n (rfN n (it s) m (I + p) acc)))) hp) := by
  obtain ⟨⟨u1, u2, u3⟩, kN, kZ, kM, kGm, l5, l6, qk, q0, q1, q2, q3, q4, q5, q6, q7, q8, q9⟩ := hX
  obtain ⟨fr_, to_, co_, op_, wr_, ki_, nu_, mm_, pa_, hF⟩ := YO_F q0
  have hA : MA hp n := ⟨⟨⟨u2, u3⟩, hF 0, hF 18, hF 19, q1.1.1, q1.1.2⟩, ⟨hF 13, hF 14, hF 15, hF 16, hF 17⟩, q1.2⟩
  have hK := hA.1
  have cK := cM hK
  have hG : gF hp 54 11 3 = some (mL G) := hF 3
  have g0 : gF hp 54 11 0 = some (mI (n : Int)) := hF 0
  have g39 : gF hp 54 11 39 = some (mR 77) := hF 39
  obtain ⟨⟨a75, a76⟩, ⟨ce, j77, lce, hce⟩, as, j78, las⟩ := q7
  have bn : n < 2147483648 := by omega
  have n7 : n < 7 := by omega
  intro m
  induction m with
  | zero =>
    intro p acc y5 hp2 hacc
    have e : p = n := by omega
    subst e
    have b9 : acc < 2147483648 := Nat.lt_of_lt_of_le hacc (Nat.le_trans (p10_le u3) (by decide))
    rw [rfN_0]
    cases ex : ixo p (acc : Int) with
    | none =>
      rw [rfE_n ex]
      rw [AWh_k, k_X11_rowFrom_36]
      simp only [AW_k, AWk_1, x_iload_4, x_aload_0, x_aloads_0, x_getf, x_icmp_ge, x_push_i, x_push_l, x_iload_1, x_imul, x_iload_2, x_iadd, x_lald, x_lstore_5, x_lload_5, x_i2l, x_call_3, x_if_ne, x_ret, x_ret_i, x_ret_z, x_ret_l, x_ret_c, x_iload_3, x_l2i, x_istore_3, x_iinc_4, x_goto, x_callv_2, x_if_eq, unl_i, unl_l, unl_q, unl_r, unl_s, unl_n, k_X11_rowFrom_36, k_X11_rowFrom_37, k_X11_rowFrom_38, k_X11_rowFrom_39, k_X11_rowFrom_40, k_X11_rowFrom_41, k_X11_rowFrom_42, k_X11_rowFrom_43, k_X11_rowFrom_44, k_X11_rowFrom_45, k_X11_rowFrom_46, k_X11_rowFrom_47, k_X11_rowFrom_48, k_X11_rowFrom_49, k_X11_rowFrom_50, k_X11_rowFrom_51, k_X11_rowFrom_52, k_X11_rowFrom_53, k_X11_rowFrom_54, k_X11_rowFrom_55, k_X11_rowFrom_56, k_X11_rowFrom_57, k_X11_rowFrom_58, k_X11_rowFrom_59, k_X11_rowFrom_60, k_X11_rowFrom_61, k_X11_rowFrom_62, k_X11_rowFrom_63, k_X11_rowFrom_64, k_X11_rowFrom_65, k_X11_rowFrom_66, k_X11_rowFrom_67, k_X11_rowFrom_68, k_X11_rowFrom_69, k_X11_rowFrom_70, k_X11_rowFrom_71, k_X11_rowFrom_72, k_X11_rowFrom_73, k_X11_rowFrom_74, k_X11_rowFrom_75, k_X11_rowFrom_76, oE_some, Int.reduceToNat, Nat.reduceAdd, true_and, and_true, List.length_cons, List.length_nil, Option.toList_some, Option.toList_none, List.cons_append, List.nil_append, Nat.reduceLeDiff, Nat.le_refl, wdS_nil, wdS_i, wdS_l, wdS_r, wdS_n, wdS_s, g0, cK, m_isRow_n (d + 97) hK (w32_nat b9) ex, w00, Int.lt_irrefl, ↓reduceIte]
    | some j =>
      rw [rfE_s ex]
      rw [AWh_k, k_X11_rowFrom_36]
      simp only [AW_k, AWk_1, x_iload_4, x_aload_0, x_aloads_0, x_getf, x_icmp_ge, x_push_i, x_push_l, x_iload_1, x_imul, x_iload_2, x_iadd, x_lald, x_lstore_5, x_lload_5, x_i2l, x_call_3, x_if_ne, x_ret, x_ret_i, x_ret_z, x_ret_l, x_ret_c, x_iload_3, x_l2i, x_istore_3, x_iinc_4, x_goto, x_callv_2, x_if_eq, unl_i, unl_l, unl_q, unl_r, unl_s, unl_n, k_X11_rowFrom_36, k_X11_rowFrom_37, k_X11_rowFrom_38, k_X11_rowFrom_39, k_X11_rowFrom_40, k_X11_rowFrom_41, k_X11_rowFrom_42, k_X11_rowFrom_43, k_X11_rowFrom_44, k_X11_rowFrom_45, k_X11_rowFrom_46, k_X11_rowFrom_47, k_X11_rowFrom_48, k_X11_rowFrom_49, k_X11_rowFrom_50, k_X11_rowFrom_51, k_X11_rowFrom_52, k_X11_rowFrom_53, k_X11_rowFrom_54, k_X11_rowFrom_55, k_X11_rowFrom_56, k_X11_rowFrom_57, k_X11_rowFrom_58, k_X11_rowFrom_59, k_X11_rowFrom_60, k_X11_rowFrom_61, k_X11_rowFrom_62, k_X11_rowFrom_63, k_X11_rowFrom_64, k_X11_rowFrom_65, k_X11_rowFrom_66, k_X11_rowFrom_67, k_X11_rowFrom_68, k_X11_rowFrom_69, k_X11_rowFrom_70, k_X11_rowFrom_71, k_X11_rowFrom_72, k_X11_rowFrom_73, k_X11_rowFrom_74, k_X11_rowFrom_75, k_X11_rowFrom_76, oE_some, Int.reduceToNat, Nat.reduceAdd, true_and, and_true, List.length_cons, List.length_nil, Option.toList_some, Option.toList_none, List.cons_append, List.nil_append, Nat.reduceLeDiff, Nat.le_refl, wdS_nil, wdS_i, wdS_l, wdS_r, wdS_n, wdS_s, g0, cK, m_isRow_s (d + 97) hK (w32_nat b9) ex, w10, Int.lt_irrefl, ↓reduceIte]
  | succ m ih =>
    intro p acc y5 hp2 hacc
    have bp : p < 2147483648 := by omega
    have n1 : ((p : Int) < (n : Int)) = True := eq_true (by omega)
    have e1 : 40 * (s : Int) + (I : Int) + (p : Int) = ((40 * s + (I + p) : Nat) : Int) := by omega
    have e2 : (p : Int) + 1 = ((p + 1 : Nat) : Int) := by omega
    have hk : I + p < 40 := by omega
    have bk : 40 * s + (I + p) < 2147483648 := by omega
    have e3 : I + p + 1 = I + (p + 1) := by omega
    have hp3 : p + 1 + m = n := by omega
    have ik : inB ((40 * s + (I + p) : Nat) : Int) ce.length := by rw [lce]; exact inB_n (by omega) (by decide)
    have hc := hce s hs (I + p) hk
    rw [rfN_up]
    obtain ⟨v, hv⟩ : ∃ v, (it s).getD (I + p) 0 = v := ⟨_, rfl⟩
    rw [hv] at hc ⊢
    have nl := n_long n n7
    rw [w32_nat bn] at nl
    by_cases c : 1 ≤ v.toInt ∧ v.toInt ≤ (n : Int)
    · rw [if_pos c]
      have d1 : inI v.toInt 1 (n : Int) = true := decide_eq_true c
      obtain ⟨u, hu⟩ : ∃ u : Nat, v.toInt = (u : Int) := ⟨v.toInt.toNat, by omega⟩
      have e4 : 10 * (acc : Int) + (u : Int) = ((acc * 10 + u : Nat) : Int) := by omega
      have hacc2 : acc * 10 + u < 10 ^ (p + 1) := by
        have : u ≤ 9 := by omega
        rw [Nat.pow_succ]; omega
      have hi := ih (p + 1) (acc * 10 + u) (some (mL v)) hp3 hacc2
      rw [hu] at d1
      rw [hu, Int.toNat_natCast, e3]
      rw [AWh_k, k_X11_rowFrom_36]
      simp only [AW_k, AWk_1, x_iload_4, x_aload_0, x_aloads_0, x_getf, x_icmp_ge, x_push_i, x_push_l, x_iload_1, x_imul, x_iload_2, x_iadd, x_lald, x_lstore_5, x_lload_5, x_i2l, x_call_3, x_if_ne, x_ret, x_ret_i, x_ret_z, x_ret_l, x_ret_c, x_iload_3, x_l2i, x_istore_3, x_iinc_4, x_goto, unl_i, unl_l, unl_q, unl_r, unl_s, unl_n, k_X11_rowFrom_36, k_X11_rowFrom_37, k_X11_rowFrom_38, k_X11_rowFrom_39, k_X11_rowFrom_40, k_X11_rowFrom_41, k_X11_rowFrom_42, k_X11_rowFrom_43, k_X11_rowFrom_44, k_X11_rowFrom_45, k_X11_rowFrom_46, k_X11_rowFrom_47, k_X11_rowFrom_48, k_X11_rowFrom_49, k_X11_rowFrom_50, k_X11_rowFrom_51, k_X11_rowFrom_52, k_X11_rowFrom_53, k_X11_rowFrom_54, k_X11_rowFrom_55, k_X11_rowFrom_56, k_X11_rowFrom_57, k_X11_rowFrom_58, k_X11_rowFrom_59, k_X11_rowFrom_60, k_X11_rowFrom_61, k_X11_rowFrom_62, k_X11_rowFrom_63, k_X11_rowFrom_64, k_X11_rowFrom_65, k_X11_rowFrom_66, k_X11_rowFrom_67, k_X11_rowFrom_68, oE_some, Int.reduceToNat, Nat.reduceAdd, true_and, and_true, List.length_cons, List.length_nil, Option.toList_some, Option.toList_none, List.cons_append, List.nil_append, Nat.reduceLeDiff, Nat.le_refl, wdS_nil, wdS_i, wdS_l, wdS_r, wdS_n, wdS_s, g0, w32_nat bp, w32_nat bn, n1, g39, j77, e1, ik, w32_nat bk, Int.toNat_natCast, hc, m_in (d + 98), one_long, nl, hu, d1, zI_t, w10, e4, e2, ↓reduceIte]
      exact hi
    · rw [if_neg c]
      have d1 : inI v.toInt 1 (n : Int) = false := decide_eq_false c
      rw [AWh_k, k_X11_rowFrom_36]
      simp only [AW_k, AWk_1, x_iload_4, x_aload_0, x_aloads_0, x_getf, x_icmp_ge, x_push_i, x_push_l, x_iload_1, x_imul, x_iload_2, x_iadd, x_lald, x_lstore_5, x_lload_5, x_i2l, x_call_3, x_if_ne, x_ret, x_ret_i, x_ret_z, x_ret_l, x_ret_c, unl_i, unl_l, unl_q, unl_r, unl_s, unl_n, k_X11_rowFrom_36, k_X11_rowFrom_37, k_X11_rowFrom_38, k_X11_rowFrom_39, k_X11_rowFrom_40, k_X11_rowFrom_41, k_X11_rowFrom_42, k_X11_rowFrom_43, k_X11_rowFrom_44, k_X11_rowFrom_45, k_X11_rowFrom_46, k_X11_rowFrom_47, k_X11_rowFrom_48, k_X11_rowFrom_49, k_X11_rowFrom_50, k_X11_rowFrom_51, k_X11_rowFrom_52, k_X11_rowFrom_53, k_X11_rowFrom_54, k_X11_rowFrom_55, k_X11_rowFrom_56, k_X11_rowFrom_57, k_X11_rowFrom_58, k_X11_rowFrom_59, oE_some, Int.reduceToNat, Nat.reduceAdd, true_and, and_true, List.length_cons, List.length_nil, Option.toList_some, Option.toList_none, List.cons_append, List.nil_append, Nat.reduceLeDiff, Nat.le_refl, wdS_nil, wdS_i, wdS_l, wdS_r, wdS_n, wdS_s, g0, w32_nat bp, w32_nat bn, n1, g39, j77, e1, ik, w32_nat bk, Int.toNat_natCast, hc, m_in (d + 98), one_long, nl, d1, zI_f, w00, ↓reduceIte]
      exact Iff.rfl
set_option maxHeartbeats 16000000 in
theorem x_rowFrom_m (d : Nat) {hp : HP} {n : Nat} {G : BitVec 64} {z : Int} {c : Nat} {ks : List Int} {es : List Int} {ik : Bool} {kn : Nat} {kG : BitVec 64} {kz : Int} {kc : Nat} {kks : List Int} {kes : List Int} {tc : Nat} {tb : List Int} {sc : Nat} {tl : List Int} {so : List Int} {le : List Int} {it : Nat → List (BitVec 64)} {he : List Int} {th : List Int} {sl : List Int} {tr : Nat} {bo : List Int} {x i : Int} (hX : MI (hp) n G z c ks es ik kn kG kz kc kks kes tc tb sc tl so le it he th sl tr bo) (hO : shOK so le it) (hx : w32 x = x) (hi : w32 i = i) (R : PO) : callD (d + 100) 267 [mR 54, mI x, mI i] hp R ↔ R (some (mI (rfA n so le it x i))) hp := by
  have hX0 := hX
  obtain ⟨⟨u1, u2, u3⟩, kN, kZ, kM, kGm, l5, l6, qk, q0, q1, q2, q3, q4, q5, q6, q7, q8, q9⟩ := hX
  obtain ⟨fr_, to_, co_, op_, wr_, ki_, nu_, mm_, pa_, hF⟩ := YO_F q0
  have hA : MA hp n := ⟨⟨⟨u2, u3⟩, hF 0, hF 18, hF 19, q1.1.1, q1.1.2⟩, ⟨hF 13, hF 14, hF 15, hF 16, hF 17⟩, q1.2⟩
  have hK := hA.1
  have cK := cM hK
  have hG : gF hp 54 11 3 = some (mL G) := hF 3
  have g0 : gF hp 54 11 0 = some (mI (n : Int)) := hF 0
  have g37 : gF hp 54 11 37 = some (mR 75) := hF 37
  have g38 : gF hp 54 11 38 = some (mR 76) := hF 38
  obtain ⟨⟨a75, a76⟩, -, -⟩ := q7
  obtain ⟨lso, lle, lit, hlk⟩ := hO
  unfold rfA
  cases ex : shO x with
  | none =>
    rw [callD_k]; simp only [entL_i, entL_l, entL_q, entL_s, entL_nil, n_X11_rowFrom, u_X11_rowFrom, m_X11_rowFrom, rep_4, List.cons_append, List.nil_append, List.append_nil, List.length_cons, List.length_nil, Nat.reduceAdd, true_and]
    simp only [AW_k, AWk_1, x_iload_1, x_call_1, x_if_ne, x_push_i, x_push_l, x_ret, x_ret_i, x_ret_z, x_ret_l, x_ret_c, x_aload_0, x_aloads_0, k_X11_rowFrom_0, k_X11_rowFrom_1, k_X11_rowFrom_2, k_X11_rowFrom_3, k_X11_rowFrom_4, k_X11_rowFrom_5, oE_some, Int.reduceToNat, Nat.reduceAdd, true_and, and_true, List.length_cons, List.length_nil, Option.toList_some, Option.toList_none, List.cons_append, List.nil_append, Nat.reduceLeDiff, Nat.le_refl, wdS_nil, wdS_i, wdS_l, wdS_r, wdS_n, wdS_s, m_isSheet_n (d + 97) hx ex, w00, ↓reduceIte]
  | some s =>
    obtain ⟨hs, es'⟩ := shO_lt ex
    have ms := fun R => m_isSheet_s (d + 97) (hp := hp) hx ex R
    have bs : s < 2147483648 := by omega
    obtain ⟨L, l1, l2, l3, l4⟩ := hlk s hs
    have iso : inB (s : Int) so.length := by rw [lso]; exact inB_n hs (by decide)
    have ile : inB (s : Int) le.length := by rw [lle]; exact inB_n hs (by decide)
    have r1 : -2147483648 ≤ so.getD s 0 := by omega
    have r2 : so.getD s 0 < 2147483648 := by omega
    have r3 : -2147483648 ≤ (L : Int) - (n : Int) := by omega
    have r4 : (L : Int) - (n : Int) < 2147483648 := by omega
    subst es'
    by_cases c2 : so.getD s 0 = -1
    · have n1 : (so.getD s 0 = 0) = False := eq_false (by clear hi hx; omega)
      have n2 : (so.getD s 0 < 0) = True := eq_true (by clear hi hx; omega)
      simp only [if_pos c2]
      rw [callD_k]; simp only [entL_i, entL_l, entL_q, entL_s, entL_nil, n_X11_rowFrom, u_X11_rowFrom, m_X11_rowFrom, rep_4, List.cons_append, List.nil_append, List.append_nil, List.length_cons, List.length_nil, Nat.reduceAdd, true_and]
      simp only [AW_k, AWk_1, x_iload_1, x_call_1, x_if_ne, x_push_i, x_push_l, x_ret, x_ret_i, x_ret_z, x_ret_l, x_ret_c, x_aload_0, x_aloads_0, x_getf, x_iald, x_ialds, x_if_eq, x_if_ge, x_goto, k_X11_rowFrom_0, k_X11_rowFrom_1, k_X11_rowFrom_2, k_X11_rowFrom_3, k_X11_rowFrom_4, k_X11_rowFrom_5, k_X11_rowFrom_6, k_X11_rowFrom_7, k_X11_rowFrom_8, k_X11_rowFrom_9, k_X11_rowFrom_10, k_X11_rowFrom_11, k_X11_rowFrom_12, k_X11_rowFrom_13, k_X11_rowFrom_14, k_X11_rowFrom_15, k_X11_rowFrom_16, k_X11_rowFrom_17, k_X11_rowFrom_18, oE_some, Int.reduceToNat, Nat.reduceAdd, true_and, and_true, List.length_cons, List.length_nil, Option.toList_some, Option.toList_none, List.cons_append, List.nil_append, Nat.reduceLeDiff, Nat.le_refl, wdS_nil, wdS_i, wdS_l, wdS_r, wdS_n, wdS_s, ms, w10, g37, a75, iso, w32_nat bs, Int.toNat_natCast, w32_id r1 r2, n1, n2, ↓reduceIte]
    · by_cases c3 : so.getD s 0 = 0
      · by_cases c4 : i < 0
        · have er : rchs (le.getD s 0) i (n : Int) = false := by
            unfold rchs
            rw [decide_eq_false (show ¬ (0 ≤ i) by clear hi hx; omega), Bool.false_and, Bool.and_false]
          simp only [if_neg c2, if_pos c3, er, Bool.false_eq_true, ↓reduceIte]
          rw [callD_k]; simp only [entL_i, entL_l, entL_q, entL_s, entL_nil, n_X11_rowFrom, u_X11_rowFrom, m_X11_rowFrom, rep_4, List.cons_append, List.nil_append, List.append_nil, List.length_cons, List.length_nil, Nat.reduceAdd, true_and]
          simp only [AW_k, AWk_1, x_iload_1, x_call_1, x_if_ne, x_push_i, x_push_l, x_ret, x_ret_i, x_ret_z, x_ret_l, x_ret_c, x_aload_0, x_aloads_0, x_getf, x_iald, x_ialds, x_if_eq, x_if_ge, x_goto, x_iload_2, x_if_lt, x_isub, x_icmp_le, k_X11_rowFrom_0, k_X11_rowFrom_1, k_X11_rowFrom_2, k_X11_rowFrom_3, k_X11_rowFrom_4, k_X11_rowFrom_5, k_X11_rowFrom_6, k_X11_rowFrom_7, k_X11_rowFrom_8, k_X11_rowFrom_9, k_X11_rowFrom_10, k_X11_rowFrom_11, k_X11_rowFrom_12, k_X11_rowFrom_13, k_X11_rowFrom_14, k_X11_rowFrom_15, k_X11_rowFrom_16, k_X11_rowFrom_17, k_X11_rowFrom_18, k_X11_rowFrom_19, k_X11_rowFrom_20, k_X11_rowFrom_21, k_X11_rowFrom_22, k_X11_rowFrom_23, k_X11_rowFrom_24, k_X11_rowFrom_25, k_X11_rowFrom_26, k_X11_rowFrom_27, k_X11_rowFrom_28, k_X11_rowFrom_29, k_X11_rowFrom_30, k_X11_rowFrom_31, oE_some, Int.reduceToNat, Nat.reduceAdd, true_and, and_true, List.length_cons, List.length_nil, Option.toList_some, Option.toList_none, List.cons_append, List.nil_append, Nat.reduceLeDiff, Nat.le_refl, wdS_nil, wdS_i, wdS_l, wdS_r, wdS_n, wdS_s, ms, w10, g37, a75, iso, w32_nat bs, Int.toNat_natCast, w32_id r1 r2, c3, hi, c4, show w32 0 = 0 from rfl, ↓reduceIte]
        · by_cases c5 : (L : Int) - (n : Int) < i
          · have er : rchs (le.getD s 0) i (n : Int) = false := by
              unfold rchs
              rw [l1, decide_eq_false (show ¬ (i ≤ (L : Int) - (n : Int)) by clear hi hx; omega), Bool.and_false, Bool.and_false, Bool.and_false]
            simp only [if_neg c2, if_pos c3, er, Bool.false_eq_true, ↓reduceIte]
            rw [callD_k]; simp only [entL_i, entL_l, entL_q, entL_s, entL_nil, n_X11_rowFrom, u_X11_rowFrom, m_X11_rowFrom, rep_4, List.cons_append, List.nil_append, List.append_nil, List.length_cons, List.length_nil, Nat.reduceAdd, true_and]
            simp only [AW_k, AWk_1, x_iload_1, x_call_1, x_if_ne, x_push_i, x_push_l, x_ret, x_ret_i, x_ret_z, x_ret_l, x_ret_c, x_aload_0, x_aloads_0, x_getf, x_iald, x_ialds, x_if_eq, x_if_ge, x_goto, x_iload_2, x_if_lt, x_isub, x_icmp_le, k_X11_rowFrom_0, k_X11_rowFrom_1, k_X11_rowFrom_2, k_X11_rowFrom_3, k_X11_rowFrom_4, k_X11_rowFrom_5, k_X11_rowFrom_6, k_X11_rowFrom_7, k_X11_rowFrom_8, k_X11_rowFrom_9, k_X11_rowFrom_10, k_X11_rowFrom_11, k_X11_rowFrom_12, k_X11_rowFrom_13, k_X11_rowFrom_14, k_X11_rowFrom_15, k_X11_rowFrom_16, k_X11_rowFrom_17, k_X11_rowFrom_18, k_X11_rowFrom_19, k_X11_rowFrom_20, k_X11_rowFrom_21, k_X11_rowFrom_22, k_X11_rowFrom_23, k_X11_rowFrom_24, k_X11_rowFrom_25, k_X11_rowFrom_26, k_X11_rowFrom_27, k_X11_rowFrom_28, k_X11_rowFrom_29, k_X11_rowFrom_30, k_X11_rowFrom_31, oE_some, Int.reduceToNat, Nat.reduceAdd, true_and, and_true, List.length_cons, List.length_nil, Option.toList_some, Option.toList_none, List.cons_append, List.nil_append, Nat.reduceLeDiff, Nat.le_refl, wdS_nil, wdS_i, wdS_l, wdS_r, wdS_n, wdS_s, ms, w10, g37, a75, g38, a76, ile, g0, l1, iso, w32_nat bs, Int.toNat_natCast, w32_id r1 r2, c3, hi, c4, w32_id r3 r4, c5, show w32 0 = 0 from rfl, ↓reduceIte]
          · have er : rchs (le.getD s 0) i (n : Int) = true := by
              unfold rchs
              rw [l1, decide_eq_true (show i ≤ (L : Int) - (n : Int) by clear hi hx; omega), decide_eq_true (show (n : Int) ≤ (L : Int) by clear hi hx; omega), decide_eq_true (show 0 ≤ i by clear hi hx; omega), decide_eq_true (show 0 ≤ (n : Int) by clear hi hx; omega)]
              rfl
            obtain ⟨I, eI⟩ : ∃ I : Nat, i = (I : Int) := ⟨i.toNat, by clear hi hx; omega⟩
            subst eI
            have hI : I + n ≤ 40 := by clear hi hx; omega
            simp only [if_neg c2, if_pos c3, er, Int.toNat_natCast, ↓reduceIte]
            rw [callD_k]; simp only [entL_i, entL_l, entL_q, entL_s, entL_nil, n_X11_rowFrom, u_X11_rowFrom, m_X11_rowFrom, rep_4, List.cons_append, List.nil_append, List.append_nil, List.length_cons, List.length_nil, Nat.reduceAdd, true_and]
            simp only [AW_k, AWk_1, x_iload_1, x_call_1, x_if_ne, x_push_i, x_push_l, x_ret, x_ret_i, x_ret_z, x_ret_l, x_ret_c, x_aload_0, x_aloads_0, x_getf, x_iald, x_ialds, x_if_eq, x_if_ge, x_goto, x_iload_2, x_if_lt, x_isub, x_icmp_le, x_istore_3, x_istore_4, x_iload_4, unl_i, unl_l, unl_q, unl_r, unl_s, unl_n, k_X11_rowFrom_0, k_X11_rowFrom_1, k_X11_rowFrom_2, k_X11_rowFrom_3, k_X11_rowFrom_4, k_X11_rowFrom_5, k_X11_rowFrom_6, k_X11_rowFrom_7, k_X11_rowFrom_8, k_X11_rowFrom_9, k_X11_rowFrom_10, k_X11_rowFrom_11, k_X11_rowFrom_12, k_X11_rowFrom_13, k_X11_rowFrom_14, k_X11_rowFrom_15, k_X11_rowFrom_16, k_X11_rowFrom_17, k_X11_rowFrom_18, k_X11_rowFrom_19, k_X11_rowFrom_20, k_X11_rowFrom_21, k_X11_rowFrom_22, k_X11_rowFrom_23, k_X11_rowFrom_24, k_X11_rowFrom_25, k_X11_rowFrom_26, k_X11_rowFrom_27, k_X11_rowFrom_28, k_X11_rowFrom_29, k_X11_rowFrom_30, k_X11_rowFrom_31, k_X11_rowFrom_32, k_X11_rowFrom_33, k_X11_rowFrom_34, k_X11_rowFrom_35, k_X11_rowFrom_36, oE_some, Int.reduceToNat, Nat.reduceAdd, true_and, and_true, List.length_cons, List.length_nil, Option.toList_some, Option.toList_none, List.cons_append, List.nil_append, Nat.reduceLeDiff, Nat.le_refl, wdS_nil, wdS_i, wdS_l, wdS_r, wdS_n, wdS_s, ms, w10, g37, a75, g38, a76, ile, g0, l1, iso, w32_nat bs, Int.toNat_natCast, w32_id r1 r2, c3, hi, c4, w32_id r3 r4, c5, show w32 0 = 0 from rfl, ↓reduceIte]
            exact m_rfLoop d (R := R) hX0 hs hI n 0 0 none (Nat.zero_add n) Nat.one_pos
      · have n2 : (so.getD s 0 < 0) = False := eq_false (by clear hi hx; omega)
        simp only [if_neg c2, if_neg c3]
        rw [callD_k]; simp only [entL_i, entL_l, entL_q, entL_s, entL_nil, n_X11_rowFrom, u_X11_rowFrom, m_X11_rowFrom, rep_4, List.cons_append, List.nil_append, List.append_nil, List.length_cons, List.length_nil, Nat.reduceAdd, true_and]
        simp only [AW_k, AWk_1, x_iload_1, x_call_1, x_if_ne, x_push_i, x_push_l, x_ret, x_ret_i, x_ret_z, x_ret_l, x_ret_c, x_aload_0, x_aloads_0, x_getf, x_iald, x_ialds, x_if_eq, x_if_ge, x_goto, k_X11_rowFrom_0, k_X11_rowFrom_1, k_X11_rowFrom_2, k_X11_rowFrom_3, k_X11_rowFrom_4, k_X11_rowFrom_5, k_X11_rowFrom_6, k_X11_rowFrom_7, k_X11_rowFrom_8, k_X11_rowFrom_9, k_X11_rowFrom_10, k_X11_rowFrom_11, k_X11_rowFrom_12, k_X11_rowFrom_13, k_X11_rowFrom_14, k_X11_rowFrom_15, k_X11_rowFrom_16, k_X11_rowFrom_17, k_X11_rowFrom_18, oE_some, Int.reduceToNat, Nat.reduceAdd, true_and, and_true, List.length_cons, List.length_nil, Option.toList_some, Option.toList_none, List.cons_append, List.nil_append, Nat.reduceLeDiff, Nat.le_refl, wdS_nil, wdS_i, wdS_l, wdS_r, wdS_n, wdS_s, ms, w10, g37, a75, iso, w32_nat bs, Int.toNat_natCast, w32_id r1 r2, c3, n2, ↓reduceIte]
