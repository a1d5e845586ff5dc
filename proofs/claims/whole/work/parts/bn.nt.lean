/-! ===== the reference's shelf ===== -/
theorem qt2_I : (2#64).toInt = 2 := by decide
set_option maxHeartbeats 16000000 in
theorem x_shelf_m (d : Nat) {hp : HP} {n : Nat} {G : BitVec 64} {z : Int} {c : Nat} {ks : List Int} {es : List Int} {ik : Bool} {kn : Nat} {kG : BitVec 64} {kz : Int} {kc : Nat} {kks : List Int} {kes : List Int} {tc : Nat} {tb : List Int} {sc : Nat} {tl : List Int} {so : List Int} {le : List Int} {it : Nat → List (BitVec 64)} {he : List Int} {th : List Int} {sl : List Int} {tr : Nat} {bo : List Int} {x w k : Int} (hX : MI (hp) n G z c ks es ik kn kG kz kc kks kes tc tb sc tl so le it he th sl tr bo) (hO : shOK so le it) (hV : slOK he th sl) (hM : c ≤ 6) (hx : w32 x = x) (hw : w32 w = w) (hk : w32 k = k) : ∃ h', MI (h') n G z c ks es ik kn kG kz kc kks kes tc tb sc tl so le it (svHe c so le he x w k) (svTh c so le th x w k) (svLe c so le sl x w k) tr bo ∧ Fr 54 83 hp h' ∧ ∀ R : PO, callD (d + 100) 269 [mR 54, mI x, mI w, mI k] hp R ↔ R (some (mI (svAn c so le x w k))) h' := by
  have hX0 := hX
  obtain ⟨⟨u1, u2, u3⟩, kN, kZ, kM, kGm, l5, l6, qk, q0, q1, q2, q3, q4, q5, q6, q7, q8, q9⟩ := hX
  obtain ⟨fr_, to_, co_, op_, wr_, ki_, nu_, mm_, pa_, hF⟩ := YO_F q0
  have hA : MA hp n := ⟨⟨⟨u2, u3⟩, hF 0, hF 18, hF 19, q1.1.1, q1.1.2⟩, ⟨hF 13, hF 14, hF 15, hF 16, hF 17⟩, q1.2⟩
  have hK := hA.1
  have cK := cM hK
  have hG : gF hp 54 11 3 = some (mL G) := hF 3
  have g2 : gF hp 54 11 2 = some (mI (c : Int)) := hF 2
  have g37 : gF hp 54 11 37 = some (mR 75) := hF 37
  have g38 : gF hp 54 11 38 = some (mR 76) := hF 38
  have g41 : gF hp 54 11 41 = some (mR 79) := hF 41
  have g42 : gF hp 54 11 42 = some (mR 80) := hF 42
  have g43 : gF hp 54 11 43 = some (mR 81) := hF 43
  obtain ⟨⟨a75, a76⟩, -, -⟩ := q7
  obtain ⟨v1, v2, v3, ⟨a79, a80, a81⟩, ⟨n1, n2, n3⟩, H⟩ := q8
  obtain ⟨lso, lle, lit, hlk⟩ := hO
  obtain ⟨⟨m1, m2, m3⟩, hv⟩ := hV
  unfold svHe svTh svLe svAn
  have i1 : w32 1 = 1 := rfl
  cases ex : shO x with
  | none =>
    have e : svOp c so le x w k = none := by unfold svOp; rw [ex]
    rw [e]
    refine ⟨hp, hX0, Fr_refl hp, fun R => ?_⟩
    rw [callD_k]; simp only [entL_i, entL_l, entL_q, entL_s, entL_nil, n_X11_shelf, u_X11_shelf, m_X11_shelf, rep_0, List.cons_append, List.nil_append, List.append_nil, List.length_cons, List.length_nil, Nat.reduceAdd, true_and]
    simp only [AW_k, AWk_1, x_iload_1, x_call_1, x_if_eq, x_iload_2, x_i2l, x_push_i, x_push_l, x_call_3, x_if_ne, x_aload_0, x_aloads_0, x_iload_3, x_callv_2, x_icmp_ne, x_ret, x_ret_i, x_ret_z, x_ret_l, x_ret_c, x_getf, x_iald, x_ialds, x_if_ge, x_goto, x_iast, k_X11_shelf_0, k_X11_shelf_1, k_X11_shelf_2, k_X11_shelf_3, k_X11_shelf_4, k_X11_shelf_5, k_X11_shelf_6, k_X11_shelf_7, k_X11_shelf_8, k_X11_shelf_9, k_X11_shelf_10, k_X11_shelf_11, k_X11_shelf_12, k_X11_shelf_13, k_X11_shelf_14, k_X11_shelf_15, k_X11_shelf_16, k_X11_shelf_17, k_X11_shelf_18, k_X11_shelf_19, k_X11_shelf_20, k_X11_shelf_21, k_X11_shelf_22, k_X11_shelf_23, k_X11_shelf_24, k_X11_shelf_25, k_X11_shelf_26, k_X11_shelf_27, k_X11_shelf_28, k_X11_shelf_29, k_X11_shelf_30, k_X11_shelf_31, k_X11_shelf_32, k_X11_shelf_33, k_X11_shelf_34, k_X11_shelf_35, k_X11_shelf_36, k_X11_shelf_37, k_X11_shelf_38, k_X11_shelf_39, k_X11_shelf_40, k_X11_shelf_41, k_X11_shelf_42, k_X11_shelf_43, k_X11_shelf_44, k_X11_shelf_45, k_X11_shelf_46, k_X11_shelf_47, k_X11_shelf_48, k_X11_shelf_49, k_X11_shelf_50, k_X11_shelf_51, k_X11_shelf_52, k_X11_shelf_53, k_X11_shelf_54, k_X11_shelf_55, k_X11_shelf_56, k_X11_shelf_57, k_X11_shelf_58, k_X11_shelf_59, k_X11_shelf_60, k_X11_shelf_61, k_X11_shelf_62, k_X11_shelf_63, k_X11_shelf_64, k_X11_shelf_65, oE_some, Int.reduceToNat, Nat.reduceAdd, true_and, and_true, List.length_cons, List.length_nil, Option.toList_some, Option.toList_none, List.cons_append, List.nil_append, Nat.reduceLeDiff, Nat.le_refl, wdS_nil, wdS_i, wdS_l, wdS_r, wdS_n, wdS_s, m_isShelf_n (d + 97) hx ex, w00, ↓reduceIte]
  | some s =>
    obtain ⟨hs, es'⟩ := shO_lt ex
    have ms := fun R => m_isShelf_s (d + 97) (hp := hp) hx ex R
    have e : svOp c so le x w k = if w = 0 then (match mkO c k with
      | some _ => some (s, 1, k, (0 : Int))
      | none => none) else if w = 1 then (match shO k with
      | some t => some (s, (if so.getD t 0 = -1 then 0 else 2), so.getD t 0, le.getD t 0)
      | none => none) else if w = 2 then some (s, 3, (0 : Int), (0 : Int)) else none := by unfold svOp; rw [ex]; rfl
    rw [e]
    have bs : s < 2147483648 := by omega
    have i79 : inB (s : Int) v1.length := by rw [n1]; exact inB_n hs (by decide)
    have i80 : inB (s : Int) v2.length := by rw [n2]; exact inB_n hs (by decide)
    have i81 : inB (s : Int) v3.length := by rw [n3]; exact inB_n hs (by decide)
    have f42 : ∀ v : Int, gF (pA hp 79 (v1.set s v)) 54 11 42 = some (mR 80) := fun v => by rw [gF_pA, g42]
    have b80 : ∀ v : Int, gA (pA hp 79 (v1.set s v)) 80 = some v2 := fun v => by rw [gA_pA (by decide), a80]
    have f43 : ∀ v u : Int, gF (pA (pA hp 79 (v1.set s v)) 80 (v2.set s u)) 54 11 43 = some (mR 81) := fun v u => by rw [gF_pA, gF_pA, g43]
    have b81 : ∀ v u : Int, gA (pA (pA hp 79 (v1.set s v)) 80 (v2.set s u)) 81 = some v3 := fun v u => by rw [gA_pA (by decide), gA_pA (by decide), a81]
    have f37 : ∀ v : Int, gF (pA hp 79 (v1.set s v)) 54 11 37 = some (mR 75) := fun v => by rw [gF_pA, g37]
    have b75 : ∀ v : Int, gA (pA hp 79 (v1.set s v)) 75 = some so := fun v => by rw [gA_pA (by decide), a75]
    have f38 : ∀ v u : Int, gF (pA (pA hp 79 (v1.set s v)) 80 (v2.set s u)) 54 11 38 = some (mR 76) := fun v u => by rw [gF_pA, gF_pA, g38]
    have b76 : ∀ v u : Int, gA (pA (pA hp 79 (v1.set s v)) 80 (v2.set s u)) 76 = some le := fun v u => by rw [gA_pA (by decide), gA_pA (by decide), a76]
    have fr3 : ∀ a b e : Int, Fr 54 83 hp (pA (pA (pA hp 79 (v1.set s a)) 80 (v2.set s b)) 81 (v3.set s e)) := fun a b e => Fr_trans (Fr_trans (Fr_pA (by decide) (by decide)) (Fr_pA (by decide) (by decide))) (Fr_pA (by decide) (by decide))
    have dif : ∀ (l : List Int) (v : Int) (q : Nat), l.length = 4 → q ≠ s → (l.set s v).getD q 0 = l.getD q 0 := fun l v q hl hq => by rw [getD_set (by rw [hl]; exact hs), if_neg (fun z => hq z.symm)]
    have same : ∀ (l : List Int) (v : Int), l.length = 4 → (l.set s v).getD s 0 = v := fun l v hl => by rw [getD_set (by rw [hl]; exact hs), if_pos rfl]
    subst es'
    by_cases w0 : w = 0
    · subst w0
      have d1 : inI 0 0 2 = true := by decide
      rw [if_pos rfl]
      cases em : mkO c k with
      | none =>
        refine ⟨hp, hX0, Fr_refl hp, fun R => ?_⟩
        rw [callD_k]; simp only [entL_i, entL_l, entL_q, entL_s, entL_nil, n_X11_shelf, u_X11_shelf, m_X11_shelf, rep_0, List.cons_append, List.nil_append, List.append_nil, List.length_cons, List.length_nil, Nat.reduceAdd, true_and]
        simp only [AW_k, AWk_1, x_iload_1, x_call_1, x_if_eq, x_iload_2, x_i2l, x_push_i, x_push_l, x_call_3, k_X11_shelf_0, k_X11_shelf_1, k_X11_shelf_2, k_X11_shelf_3, k_X11_shelf_4, k_X11_shelf_5, k_X11_shelf_6, k_X11_shelf_7, k_X11_shelf_8, k_X11_shelf_9, oE_some, Int.reduceToNat, Nat.reduceAdd, true_and, and_true, List.length_cons, List.length_nil, Option.toList_some, Option.toList_none, List.cons_append, List.nil_append, Nat.reduceLeDiff, Nat.le_refl, wdS_nil, wdS_i, wdS_l, wdS_r, wdS_n, wdS_s, ms, w10, m_in (d + 98), tI_id hw, q0_I, qt2_I, d1, zI_t, ↓reduceIte]
        simp only [AW_k, AWk_1, x_iload_2, x_if_ne, x_aload_0, x_aloads_0, x_iload_3, x_callv_2, x_if_eq, x_push_i, x_push_l, x_icmp_ne, x_call_1, x_ret, x_ret_i, x_ret_z, x_ret_l, x_ret_c, k_X11_shelf_9, k_X11_shelf_10, k_X11_shelf_11, k_X11_shelf_12, k_X11_shelf_13, k_X11_shelf_14, k_X11_shelf_15, k_X11_shelf_16, k_X11_shelf_17, k_X11_shelf_18, k_X11_shelf_19, k_X11_shelf_20, k_X11_shelf_21, k_X11_shelf_22, oE_some, Int.reduceToNat, Nat.reduceAdd, true_and, and_true, List.length_cons, List.length_nil, Option.toList_some, Option.toList_none, List.cons_append, List.nil_append, Nat.reduceLeDiff, Nat.le_refl, wdS_nil, wdS_i, wdS_l, wdS_r, wdS_n, wdS_s, w00, cK, mMk_n (d + 97) g2 hM hk em, ↓reduceIte]
      | some i =>
        have hN := yv_set (he' := he.set s 1) (th' := th.set s k) (sl' := sl) (a := 0) (b := k) (e := 0) hs n1 n2 n3 H (fun q hq => ⟨dif he 1 q m1 hq, dif th k q m2 hq, rfl⟩) (by rw [same he 1 m1, same th k m2]; exact ⟨fun z => absurd z (by decide), fun _ => ⟨rfl, rfl⟩, fun z => absurd z (by decide)⟩)
        refine ⟨pA (pA (pA hp 79 (v1.set s 0)) 80 (v2.set s k)) 81 (v3.set s 0), m_svMI hX0 hs a79 a80 a81 n1 n2 n3 hN, fr3 0 k 0, fun R => ?_⟩
        rw [callD_k]; simp only [entL_i, entL_l, entL_q, entL_s, entL_nil, n_X11_shelf, u_X11_shelf, m_X11_shelf, rep_0, List.cons_append, List.nil_append, List.append_nil, List.length_cons, List.length_nil, Nat.reduceAdd, true_and]
        simp only [AW_k, AWk_1, x_iload_1, x_call_1, x_if_eq, x_iload_2, x_i2l, x_push_i, x_push_l, x_call_3, k_X11_shelf_0, k_X11_shelf_1, k_X11_shelf_2, k_X11_shelf_3, k_X11_shelf_4, k_X11_shelf_5, k_X11_shelf_6, k_X11_shelf_7, k_X11_shelf_8, k_X11_shelf_9, oE_some, Int.reduceToNat, Nat.reduceAdd, true_and, and_true, List.length_cons, List.length_nil, Option.toList_some, Option.toList_none, List.cons_append, List.nil_append, Nat.reduceLeDiff, Nat.le_refl, wdS_nil, wdS_i, wdS_l, wdS_r, wdS_n, wdS_s, ms, w10, m_in (d + 98), tI_id hw, q0_I, qt2_I, d1, zI_t, ↓reduceIte]
        simp only [AW_k, AWk_1, x_iload_2, x_if_ne, x_aload_0, x_aloads_0, x_iload_3, x_callv_2, x_if_eq, x_push_i, x_push_l, x_icmp_ne, x_call_1, x_ret, x_ret_i, x_ret_z, x_ret_l, x_ret_c, x_getf, x_iload_1, x_iald, x_ialds, x_if_ge, x_goto, x_iast, k_X11_shelf_9, k_X11_shelf_10, k_X11_shelf_11, k_X11_shelf_12, k_X11_shelf_13, k_X11_shelf_14, k_X11_shelf_15, k_X11_shelf_16, k_X11_shelf_17, k_X11_shelf_18, k_X11_shelf_19, k_X11_shelf_20, k_X11_shelf_21, k_X11_shelf_22, k_X11_shelf_23, k_X11_shelf_24, k_X11_shelf_25, k_X11_shelf_26, k_X11_shelf_27, k_X11_shelf_28, k_X11_shelf_29, k_X11_shelf_30, k_X11_shelf_31, k_X11_shelf_32, k_X11_shelf_33, k_X11_shelf_34, k_X11_shelf_35, k_X11_shelf_36, k_X11_shelf_37, k_X11_shelf_38, k_X11_shelf_39, k_X11_shelf_40, k_X11_shelf_41, k_X11_shelf_42, k_X11_shelf_43, k_X11_shelf_44, k_X11_shelf_45, k_X11_shelf_46, k_X11_shelf_47, k_X11_shelf_48, k_X11_shelf_49, k_X11_shelf_50, k_X11_shelf_51, k_X11_shelf_52, k_X11_shelf_53, k_X11_shelf_54, k_X11_shelf_55, k_X11_shelf_56, k_X11_shelf_57, k_X11_shelf_58, k_X11_shelf_59, k_X11_shelf_60, k_X11_shelf_61, k_X11_shelf_62, k_X11_shelf_63, k_X11_shelf_64, k_X11_shelf_65, oE_some, Int.reduceToNat, Nat.reduceAdd, true_and, and_true, List.length_cons, List.length_nil, Option.toList_some, Option.toList_none, List.cons_append, List.nil_append, Nat.reduceLeDiff, Nat.le_refl, wdS_nil, wdS_i, wdS_l, wdS_r, wdS_n, wdS_s, w00, w10, cK, mMk_s (d + 97) g2 hM hk em, show w32 0 = 0 from rfl, i1, Int.reduceEq, g41, a79, i79, w32_nat bs, Int.toNat_natCast, f42, b80, i80, hk, f43, b81, i81, ↓reduceIte]
    · rw [if_neg w0]
      have w0f : (w = 0) = False := eq_false w0
      by_cases w1 : w = 1
      · subst w1
        have d1 : inI 1 0 2 = true := by decide
        rw [if_pos rfl]
        cases em : shO k with
        | none =>
          refine ⟨hp, hX0, Fr_refl hp, fun R => ?_⟩
          rw [callD_k]; simp only [entL_i, entL_l, entL_q, entL_s, entL_nil, n_X11_shelf, u_X11_shelf, m_X11_shelf, rep_0, List.cons_append, List.nil_append, List.append_nil, List.length_cons, List.length_nil, Nat.reduceAdd, true_and]
          simp only [AW_k, AWk_1, x_iload_1, x_call_1, x_if_eq, x_iload_2, x_i2l, x_push_i, x_push_l, x_call_3, k_X11_shelf_0, k_X11_shelf_1, k_X11_shelf_2, k_X11_shelf_3, k_X11_shelf_4, k_X11_shelf_5, k_X11_shelf_6, k_X11_shelf_7, k_X11_shelf_8, k_X11_shelf_9, oE_some, Int.reduceToNat, Nat.reduceAdd, true_and, and_true, List.length_cons, List.length_nil, Option.toList_some, Option.toList_none, List.cons_append, List.nil_append, Nat.reduceLeDiff, Nat.le_refl, wdS_nil, wdS_i, wdS_l, wdS_r, wdS_n, wdS_s, ms, w10, m_in (d + 98), tI_id hw, q0_I, qt2_I, d1, zI_t, ↓reduceIte]
          simp only [AW_k, AWk_1, x_iload_2, x_if_ne, x_aload_0, x_aloads_0, x_iload_3, x_callv_2, x_if_eq, x_push_i, x_push_l, x_icmp_ne, x_call_1, x_ret, x_ret_i, x_ret_z, x_ret_l, x_ret_c, k_X11_shelf_9, k_X11_shelf_10, k_X11_shelf_11, k_X11_shelf_12, k_X11_shelf_13, k_X11_shelf_14, k_X11_shelf_15, k_X11_shelf_16, k_X11_shelf_17, k_X11_shelf_18, k_X11_shelf_19, k_X11_shelf_20, k_X11_shelf_21, k_X11_shelf_22, oE_some, Int.reduceToNat, Nat.reduceAdd, true_and, and_true, List.length_cons, List.length_nil, Option.toList_some, Option.toList_none, List.cons_append, List.nil_append, Nat.reduceLeDiff, Nat.le_refl, wdS_nil, wdS_i, wdS_l, wdS_r, wdS_n, wdS_s, w10, w00, i1, Int.reduceEq, m_isSheet_n (d + 97) hk em, ↓reduceIte]
        | some t =>
          obtain ⟨ht, ek⟩ := shO_lt em
          have mt := fun R => m_isSheet_s (d + 97) (hp := hp) hk em R
          have bt : t < 2147483648 := by clear hx hw hk; omega
          obtain ⟨L, l1, l2, l3, l4⟩ := hlk t ht
          have iso : inB (t : Int) so.length := by rw [lso]; exact inB_n ht (by decide)
          have ile : inB (t : Int) le.length := by rw [lle]; exact inB_n ht (by decide)
          have r1 : -2147483648 ≤ so.getD t 0 := by clear hx hw hk; omega
          have r2 : so.getD t 0 < 2147483648 := by clear hx hw hk; omega
          have r3 : -2147483648 ≤ le.getD t 0 := by clear hx hw hk; omega
          have r4 : le.getD t 0 < 2147483648 := by clear hx hw hk; omega
          subst ek
          by_cases c2 : so.getD t 0 = -1
          · have n0 : (so.getD t 0 < 0) = True := eq_true (by clear hx hw hk; omega)
            have hN := yv_set (he' := he.set s 0) (th' := th.set s (so.getD t 0)) (sl' := sl.set s (le.getD t 0)) (a := 2) (b := so.getD t 0) (e := le.getD t 0) hs n1 n2 n3 H (fun q hq => ⟨dif he 0 q m1 hq, dif th _ q m2 hq, dif sl _ q m3 hq⟩) (by rw [same he 0 m1]; exact ⟨fun _ => rfl, fun z => absurd z (by decide), fun z => absurd z (by decide)⟩)
            simp only [if_pos c2]
            refine ⟨pA (pA (pA hp 79 (v1.set s 2)) 80 (v2.set s (so.getD t 0))) 81 (v3.set s (le.getD t 0)), m_svMI hX0 hs a79 a80 a81 n1 n2 n3 hN, fr3 2 _ _, fun R => ?_⟩
            rw [callD_k]; simp only [entL_i, entL_l, entL_q, entL_s, entL_nil, n_X11_shelf, u_X11_shelf, m_X11_shelf, rep_0, List.cons_append, List.nil_append, List.append_nil, List.length_cons, List.length_nil, Nat.reduceAdd, true_and]
            simp only [AW_k, AWk_1, x_iload_1, x_call_1, x_if_eq, x_iload_2, x_i2l, x_push_i, x_push_l, x_call_3, k_X11_shelf_0, k_X11_shelf_1, k_X11_shelf_2, k_X11_shelf_3, k_X11_shelf_4, k_X11_shelf_5, k_X11_shelf_6, k_X11_shelf_7, k_X11_shelf_8, k_X11_shelf_9, oE_some, Int.reduceToNat, Nat.reduceAdd, true_and, and_true, List.length_cons, List.length_nil, Option.toList_some, Option.toList_none, List.cons_append, List.nil_append, Nat.reduceLeDiff, Nat.le_refl, wdS_nil, wdS_i, wdS_l, wdS_r, wdS_n, wdS_s, ms, w10, m_in (d + 98), tI_id hw, q0_I, qt2_I, d1, zI_t, ↓reduceIte]
            simp only [AW_k, AWk_1, x_iload_2, x_if_ne, x_aload_0, x_aloads_0, x_iload_3, x_callv_2, x_if_eq, x_push_i, x_push_l, x_icmp_ne, x_call_1, x_ret, x_ret_i, x_ret_z, x_ret_l, x_ret_c, x_getf, x_iload_1, x_iald, x_ialds, x_if_ge, x_goto, x_iast, k_X11_shelf_9, k_X11_shelf_10, k_X11_shelf_11, k_X11_shelf_12, k_X11_shelf_13, k_X11_shelf_14, k_X11_shelf_15, k_X11_shelf_16, k_X11_shelf_17, k_X11_shelf_18, k_X11_shelf_19, k_X11_shelf_20, k_X11_shelf_21, k_X11_shelf_22, k_X11_shelf_23, k_X11_shelf_24, k_X11_shelf_25, k_X11_shelf_26, k_X11_shelf_27, k_X11_shelf_28, k_X11_shelf_29, k_X11_shelf_30, k_X11_shelf_31, k_X11_shelf_32, k_X11_shelf_33, k_X11_shelf_34, k_X11_shelf_35, k_X11_shelf_36, k_X11_shelf_37, k_X11_shelf_38, k_X11_shelf_39, k_X11_shelf_40, k_X11_shelf_41, k_X11_shelf_42, k_X11_shelf_43, k_X11_shelf_44, k_X11_shelf_45, k_X11_shelf_46, k_X11_shelf_47, k_X11_shelf_48, k_X11_shelf_49, k_X11_shelf_50, k_X11_shelf_51, k_X11_shelf_52, k_X11_shelf_53, k_X11_shelf_54, k_X11_shelf_55, k_X11_shelf_56, k_X11_shelf_57, k_X11_shelf_58, k_X11_shelf_59, k_X11_shelf_60, k_X11_shelf_61, k_X11_shelf_62, k_X11_shelf_63, k_X11_shelf_64, k_X11_shelf_65, oE_some, Int.reduceToNat, Nat.reduceAdd, true_and, and_true, List.length_cons, List.length_nil, Option.toList_some, Option.toList_none, List.cons_append, List.nil_append, Nat.reduceLeDiff, Nat.le_refl, wdS_nil, wdS_i, wdS_l, wdS_r, wdS_n, wdS_s, w10, i1, Int.reduceEq, mt, show w32 2 = 2 from rfl, g37, a75, iso, w32_nat bt, Int.toNat_natCast, w32_id r1 r2, n0, g41, a79, i79, w32_nat bs, f37, b75, f42, b80, i80, f38, b76, ile, w32_id r3 r4, f43, b81, i81, ↓reduceIte]
          · have n0 : (so.getD t 0 < 0) = False := eq_false (by clear hx hw hk; omega)
            have hN := yv_set (he' := he.set s 2) (th' := th.set s (so.getD t 0)) (sl' := sl.set s (le.getD t 0)) (a := 1) (b := so.getD t 0) (e := le.getD t 0) hs n1 n2 n3 H (fun q hq => ⟨dif he 2 q m1 hq, dif th _ q m2 hq, dif sl _ q m3 hq⟩) (by rw [same he 2 m1, same th _ m2, same sl _ m3]; exact ⟨fun z => absurd z (by decide), fun z => absurd z (by decide), fun _ => ⟨rfl, rfl, rfl⟩⟩)
            simp only [if_neg c2]
            refine ⟨pA (pA (pA hp 79 (v1.set s 1)) 80 (v2.set s (so.getD t 0))) 81 (v3.set s (le.getD t 0)), m_svMI hX0 hs a79 a80 a81 n1 n2 n3 hN, fr3 1 _ _, fun R => ?_⟩
            rw [callD_k]; simp only [entL_i, entL_l, entL_q, entL_s, entL_nil, n_X11_shelf, u_X11_shelf, m_X11_shelf, rep_0, List.cons_append, List.nil_append, List.append_nil, List.length_cons, List.length_nil, Nat.reduceAdd, true_and]
            simp only [AW_k, AWk_1, x_iload_1, x_call_1, x_if_eq, x_iload_2, x_i2l, x_push_i, x_push_l, x_call_3, k_X11_shelf_0, k_X11_shelf_1, k_X11_shelf_2, k_X11_shelf_3, k_X11_shelf_4, k_X11_shelf_5, k_X11_shelf_6, k_X11_shelf_7, k_X11_shelf_8, k_X11_shelf_9, oE_some, Int.reduceToNat, Nat.reduceAdd, true_and, and_true, List.length_cons, List.length_nil, Option.toList_some, Option.toList_none, List.cons_append, List.nil_append, Nat.reduceLeDiff, Nat.le_refl, wdS_nil, wdS_i, wdS_l, wdS_r, wdS_n, wdS_s, ms, w10, m_in (d + 98), tI_id hw, q0_I, qt2_I, d1, zI_t, ↓reduceIte]
            simp only [AW_k, AWk_1, x_iload_2, x_if_ne, x_aload_0, x_aloads_0, x_iload_3, x_callv_2, x_if_eq, x_push_i, x_push_l, x_icmp_ne, x_call_1, x_ret, x_ret_i, x_ret_z, x_ret_l, x_ret_c, x_getf, x_iload_1, x_iald, x_ialds, x_if_ge, x_goto, x_iast, k_X11_shelf_9, k_X11_shelf_10, k_X11_shelf_11, k_X11_shelf_12, k_X11_shelf_13, k_X11_shelf_14, k_X11_shelf_15, k_X11_shelf_16, k_X11_shelf_17, k_X11_shelf_18, k_X11_shelf_19, k_X11_shelf_20, k_X11_shelf_21, k_X11_shelf_22, k_X11_shelf_23, k_X11_shelf_24, k_X11_shelf_25, k_X11_shelf_26, k_X11_shelf_27, k_X11_shelf_28, k_X11_shelf_29, k_X11_shelf_30, k_X11_shelf_31, k_X11_shelf_32, k_X11_shelf_33, k_X11_shelf_34, k_X11_shelf_35, k_X11_shelf_36, k_X11_shelf_37, k_X11_shelf_38, k_X11_shelf_39, k_X11_shelf_40, k_X11_shelf_41, k_X11_shelf_42, k_X11_shelf_43, k_X11_shelf_44, k_X11_shelf_45, k_X11_shelf_46, k_X11_shelf_47, k_X11_shelf_48, k_X11_shelf_49, k_X11_shelf_50, k_X11_shelf_51, k_X11_shelf_52, k_X11_shelf_53, k_X11_shelf_54, k_X11_shelf_55, k_X11_shelf_56, k_X11_shelf_57, k_X11_shelf_58, k_X11_shelf_59, k_X11_shelf_60, k_X11_shelf_61, k_X11_shelf_62, k_X11_shelf_63, k_X11_shelf_64, k_X11_shelf_65, oE_some, Int.reduceToNat, Nat.reduceAdd, true_and, and_true, List.length_cons, List.length_nil, Option.toList_some, Option.toList_none, List.cons_append, List.nil_append, Nat.reduceLeDiff, Nat.le_refl, wdS_nil, wdS_i, wdS_l, wdS_r, wdS_n, wdS_s, w10, i1, Int.reduceEq, mt, show w32 2 = 2 from rfl, g37, a75, iso, w32_nat bt, Int.toNat_natCast, w32_id r1 r2, n0, g41, a79, i79, w32_nat bs, f37, b75, f42, b80, i80, f38, b76, ile, w32_id r3 r4, f43, b81, i81, ↓reduceIte]
      · rw [if_neg w1]
        by_cases w2 : w = 2
        · subst w2
          have d1 : inI 2 0 2 = true := by decide
          rw [if_pos rfl]
          have hN := yv_set (he' := he.set s 0) (th' := th) (sl' := sl) (a := 2) (b := k) (e := 0) hs n1 n2 n3 H (fun q hq => ⟨dif he 0 q m1 hq, rfl, rfl⟩) (by rw [same he 0 m1]; exact ⟨fun _ => rfl, fun z => absurd z (by decide), fun z => absurd z (by decide)⟩)
          refine ⟨pA (pA (pA hp 79 (v1.set s 2)) 80 (v2.set s k)) 81 (v3.set s 0), m_svMI hX0 hs a79 a80 a81 n1 n2 n3 hN, fr3 2 k 0, fun R => ?_⟩
          rw [callD_k]; simp only [entL_i, entL_l, entL_q, entL_s, entL_nil, n_X11_shelf, u_X11_shelf, m_X11_shelf, rep_0, List.cons_append, List.nil_append, List.append_nil, List.length_cons, List.length_nil, Nat.reduceAdd, true_and]
          simp only [AW_k, AWk_1, x_iload_1, x_call_1, x_if_eq, x_iload_2, x_i2l, x_push_i, x_push_l, x_call_3, k_X11_shelf_0, k_X11_shelf_1, k_X11_shelf_2, k_X11_shelf_3, k_X11_shelf_4, k_X11_shelf_5, k_X11_shelf_6, k_X11_shelf_7, k_X11_shelf_8, k_X11_shelf_9, oE_some, Int.reduceToNat, Nat.reduceAdd, true_and, and_true, List.length_cons, List.length_nil, Option.toList_some, Option.toList_none, List.cons_append, List.nil_append, Nat.reduceLeDiff, Nat.le_refl, wdS_nil, wdS_i, wdS_l, wdS_r, wdS_n, wdS_s, ms, w10, m_in (d + 98), tI_id hw, q0_I, qt2_I, d1, zI_t, ↓reduceIte]
          simp only [AW_k, AWk_1, x_iload_2, x_if_ne, x_aload_0, x_aloads_0, x_iload_3, x_callv_2, x_if_eq, x_push_i, x_push_l, x_icmp_ne, x_call_1, x_ret, x_ret_i, x_ret_z, x_ret_l, x_ret_c, x_getf, x_iload_1, x_iald, x_ialds, x_if_ge, x_goto, x_iast, k_X11_shelf_9, k_X11_shelf_10, k_X11_shelf_11, k_X11_shelf_12, k_X11_shelf_13, k_X11_shelf_14, k_X11_shelf_15, k_X11_shelf_16, k_X11_shelf_17, k_X11_shelf_18, k_X11_shelf_19, k_X11_shelf_20, k_X11_shelf_21, k_X11_shelf_22, k_X11_shelf_23, k_X11_shelf_24, k_X11_shelf_25, k_X11_shelf_26, k_X11_shelf_27, k_X11_shelf_28, k_X11_shelf_29, k_X11_shelf_30, k_X11_shelf_31, k_X11_shelf_32, k_X11_shelf_33, k_X11_shelf_34, k_X11_shelf_35, k_X11_shelf_36, k_X11_shelf_37, k_X11_shelf_38, k_X11_shelf_39, k_X11_shelf_40, k_X11_shelf_41, k_X11_shelf_42, k_X11_shelf_43, k_X11_shelf_44, k_X11_shelf_45, k_X11_shelf_46, k_X11_shelf_47, k_X11_shelf_48, k_X11_shelf_49, k_X11_shelf_50, k_X11_shelf_51, k_X11_shelf_52, k_X11_shelf_53, k_X11_shelf_54, k_X11_shelf_55, k_X11_shelf_56, k_X11_shelf_57, k_X11_shelf_58, k_X11_shelf_59, k_X11_shelf_60, k_X11_shelf_61, k_X11_shelf_62, k_X11_shelf_63, k_X11_shelf_64, k_X11_shelf_65, oE_some, Int.reduceToNat, Nat.reduceAdd, true_and, and_true, List.length_cons, List.length_nil, Option.toList_some, Option.toList_none, List.cons_append, List.nil_append, Nat.reduceLeDiff, Nat.le_refl, wdS_nil, wdS_i, wdS_l, wdS_r, wdS_n, wdS_s, show w32 2 = 2 from rfl, i1, show w32 0 = 0 from rfl, Int.reduceEq, g41, a79, i79, w32_nat bs, Int.toNat_natCast, f42, b80, i80, hk, f43, b81, i81, ↓reduceIte]
        · rw [if_neg w2]
          have d1 : inI w 0 2 = false := decide_eq_false (fun q => by clear hx hk hw; omega)
          refine ⟨hp, hX0, Fr_refl hp, fun R => ?_⟩
          rw [callD_k]; simp only [entL_i, entL_l, entL_q, entL_s, entL_nil, n_X11_shelf, u_X11_shelf, m_X11_shelf, rep_0, List.cons_append, List.nil_append, List.append_nil, List.length_cons, List.length_nil, Nat.reduceAdd, true_and]
          simp only [AW_k, AWk_1, x_iload_1, x_call_1, x_if_eq, x_iload_2, x_i2l, x_push_i, x_push_l, x_call_3, x_if_ne, x_aload_0, x_aloads_0, x_iload_3, x_callv_2, x_icmp_ne, x_ret, x_ret_i, x_ret_z, x_ret_l, x_ret_c, k_X11_shelf_0, k_X11_shelf_1, k_X11_shelf_2, k_X11_shelf_3, k_X11_shelf_4, k_X11_shelf_5, k_X11_shelf_6, k_X11_shelf_7, k_X11_shelf_8, k_X11_shelf_9, k_X11_shelf_10, k_X11_shelf_11, k_X11_shelf_12, k_X11_shelf_13, k_X11_shelf_14, k_X11_shelf_15, k_X11_shelf_16, k_X11_shelf_17, k_X11_shelf_18, k_X11_shelf_19, k_X11_shelf_20, k_X11_shelf_21, k_X11_shelf_22, oE_some, Int.reduceToNat, Nat.reduceAdd, true_and, and_true, List.length_cons, List.length_nil, Option.toList_some, Option.toList_none, List.cons_append, List.nil_append, Nat.reduceLeDiff, Nat.le_refl, wdS_nil, wdS_i, wdS_l, wdS_r, wdS_n, wdS_s, ms, w10, m_in (d + 98), tI_id hw, q0_I, qt2_I, d1, zI_f, w00, ↓reduceIte]
