/-! ===== the reference's sheet ===== -/
theorem qm1_I : (18446744073709551615#64).toInt = -1 := by decide
theorem zz_set {ce : List (BitVec 64)} {s k : Nat} (lce : ce.length = 160) (hs : s < 4) (hk : k < 40) (h0 : ∀ j, j < k → ce.getD (40 * s + j) 0 = 0#64) : ∀ j, j < k + 1 → (ce.set (40 * s + k) 0#64).getD (40 * s + j) 0 = 0#64 := by
  intro j hj
  rw [getD_set (by omega)]
  by_cases e : k = j
  · rw [if_pos (by omega)]
  · rw [if_neg (by omega)]; exact h0 j (by omega)
set_option maxHeartbeats 16000000 in
theorem m_shLoop (d : Nat) {s : Nat} (hs : s < 4) (y2 y3 : Int) : ∀ (m k : Nat) (ce : List (BitVec 64)) (h : HP), k + m = 40 → gF h 54 11 39 = some (mR 77) → gJ h 77 = some ce → ce.length = 160 → (∀ j, j < k → ce.getD (40 * s + j) 0 = 0#64) → ∃ ce', ce'.length = 160 ∧ (∀ j, j < 40 → ce'.getD (40 * s + j) 0 = 0#64) ∧ (∀ q, (q < 40 * s ∨ 40 * s + 40 ≤ q) → ce'.getD q 0 = ce.getD q 0) ∧ ∀ R : PO, AWh (d + 99) [] 262 R 38 [some (mR 54), some (mI (s : Int)), some (mI y2), some (mI y3), some (mI (k : Int))] [] h (0, 0) ↔ R (some (mI 1)) (pJ h 77 ce') := by
  have bs : s < 2147483648 := by omega
  intro m
  induction m with
  | zero =>
    intro k ce h hk g39 j77 lce h0
    have ek : k = 40 := by omega
    subst ek
    refine ⟨ce, lce, h0, fun _ _ => rfl, fun R => ?_⟩
    have e : pJ h 77 ce = h := by
      rw [pJ_is j77]
      have := j77
      unfold gJ at this
      split at this
      · next l2 e => cases this; exact set_self e
      · cases this
    rw [e]
    rw [AWh_k, k_X11_sheet_38]
    simp only [AW_k, AWk_1, x_iload_4, x_push_i, x_push_l, x_icmp_ge, x_ret, x_ret_i, x_ret_z, x_ret_l, x_ret_c, k_X11_sheet_38, k_X11_sheet_39, k_X11_sheet_40, k_X11_sheet_52, k_X11_sheet_53, oE_some, Int.reduceToNat, Nat.reduceAdd, true_and, and_true, List.length_cons, List.length_nil, Option.toList_some, Option.toList_none, List.cons_append, List.nil_append, Nat.reduceLeDiff, Nat.le_refl, wdS_nil, wdS_i, wdS_l, wdS_r, wdS_n, wdS_s, show w32 ((40 : Nat) : Int) = 40 from rfl, show w32 40 = 40 from rfl, Int.lt_irrefl, ↓reduceIte]
  | succ m ih =>
    intro k ce h hk g39 j77 lce h0
    have hk40 : k < 40 := by omega
    have bk : k < 2147483648 := by omega
    have ek : (k : Int) + 1 = ((k + 1 : Nat) : Int) := by omega
    have c0 : ((k : Int) < 40) = True := eq_true (by omega)
    have ec : 40 * (s : Int) + (k : Int) = ((40 * s + k : Nat) : Int) := by omega
    have bc : 40 * s + k < 2147483648 := by omega
    have ic : inB ((40 * s + k : Nat) : Int) ce.length := by rw [lce]; exact inB_n (by omega) (by decide)
    obtain ⟨ce', a1, a2, a3, a4⟩ := ih (k + 1) (ce.set (40 * s + k) 0#64) (pJ h 77 (ce.set (40 * s + k) 0#64)) (by omega) (by rw [gF_pJ, g39]) (gJ_pJ_same j77) (by rw [List.length_set]; exact lce) (zz_set lce hs hk40 h0)
    refine ⟨ce', a1, a2, fun q hq => ?_, fun R => ?_⟩
    · rw [a3 q hq, getD_set (by omega), if_neg (by omega)]
    · have a4 := a4 R
      rw [pJ_pJ] at a4
      refine Iff.trans ?_ a4
      rw [AWh_k, k_X11_sheet_38]
      simp only [AW_k, AWk_1, x_iload_4, x_push_i, x_push_l, x_icmp_ge, x_aload_0, x_aloads_0, x_getf, x_iload_1, x_imul, x_iadd, x_last, x_iinc_4, x_goto, unl_i, unl_l, unl_q, unl_r, unl_s, unl_n, k_X11_sheet_38, k_X11_sheet_39, k_X11_sheet_40, k_X11_sheet_41, k_X11_sheet_42, k_X11_sheet_43, k_X11_sheet_44, k_X11_sheet_45, k_X11_sheet_46, k_X11_sheet_47, k_X11_sheet_48, k_X11_sheet_49, k_X11_sheet_50, k_X11_sheet_51, oE_some, Int.reduceToNat, Nat.reduceAdd, true_and, and_true, List.length_cons, List.length_nil, Option.toList_some, Option.toList_none, List.cons_append, List.nil_append, Nat.reduceLeDiff, Nat.le_refl, wdS_nil, wdS_i, wdS_l, wdS_r, wdS_n, wdS_s, w32_nat bk, show w32 40 = 40 from rfl, c0, g39, j77, ec, ic, w32_nat bc, Int.toNat_natCast, ek, ↓reduceIte]
set_option maxHeartbeats 16000000 in
theorem m_shSet (d : Nat) {hp : HP} {n : Nat} {G : BitVec 64} {z : Int} {c : Nat} {ks : List Int} {es : List Int} {ik : Bool} {kn : Nat} {kG : BitVec 64} {kz : Int} {kc : Nat} {kks : List Int} {kes : List Int} {tc : Nat} {tb : List Int} {sc : Nat} {tl : List Int} {so : List Int} {le : List Int} {it : Nat → List (BitVec 64)} {he : List Int} {th : List Int} {sl : List Int} {tr : Nat} {bo : List Int} {s : Nat} {o m : Int} (hX : MI (hp) n G z c ks es ik kn kG kz kc kks kes tc tb sc tl so le it he th sl tr bo) (hO : shOK so le it) (hs : s < 4) (y2 y3 : Int) : ∃ h', MI (h') n G z c ks es ik kn kG kz kc kks kes tc tb sc tl (so.set s o) (le.set s m) (updF it s (List.replicate 40 0#64)) he th sl tr bo ∧ Fr 54 83 hp h' ∧ ∀ R : PO, AWh (d + 99) [] 262 R 38 [some (mR 54), some (mI (s : Int)), some (mI y2), some (mI y3), some (mI 0)] [] (pA (pA hp 75 (so.set s o)) 76 (le.set s m)) (0, 0) ↔ R (some (mI 1)) h' := by
  have hX0 := hX
  obtain ⟨⟨u1, u2, u3⟩, kN, kZ, kM, kGm, l5, l6, qk, q0, q1, q2, q3, q4, q5, q6, q7, q8, q9⟩ := hX
  obtain ⟨fr_, to_, co_, op_, wr_, ki_, nu_, mm_, pa_, hF⟩ := YO_F q0
  have hA : MA hp n := ⟨⟨⟨u2, u3⟩, hF 0, hF 18, hF 19, q1.1.1, q1.1.2⟩, ⟨hF 13, hF 14, hF 15, hF 16, hF 17⟩, q1.2⟩
  have hK := hA.1
  have cK := cM hK
  have hG : gF hp 54 11 3 = some (mL G) := hF 3
  have g39 : gF hp 54 11 39 = some (mR 77) := hF 39
  obtain ⟨⟨a75, a76⟩, ⟨ce, j77, lce, hce⟩, as, j78, las⟩ := q7
  obtain ⟨lso, lle, lit, hlk⟩ := hO
  have a76b : gA (pA hp 75 (so.set s o)) 76 = some le := by rw [gA_pA (by omega), a76]
  have j77b : gJ (pA (pA hp 75 (so.set s o)) 76 (le.set s m)) 77 = some ce := by rw [gJ_pA, gJ_pA, j77]
  obtain ⟨ce', b1, b2, b3, b4⟩ := m_shLoop d hs y2 y3 40 0 ce (pA (pA hp 75 (so.set s o)) 76 (le.set s m)) rfl (by rw [gF_pA, gF_pA, g39]) j77b lce (fun j hj => absurd hj (Nat.not_lt_zero j))
  have f : Fr 75 79 hp (pJ (pA (pA hp 75 (so.set s o)) 76 (le.set s m)) 77 ce') := Fr_trans (Fr_trans (Fr_pA (by omega) (by omega)) (Fr_pA (by omega) (by omega))) (Fr_pJ (by omega) (by omega))
  refine ⟨pJ (pA (pA hp 75 (so.set s o)) 76 (le.set s m)) 77 ce', MI_H hX0 f ⟨⟨?_, ?_⟩, ⟨ce', gJ_pJ_same j77b, b1, ?_⟩, as, ?_, las⟩, Fr_mono f (by omega) (by omega), b4⟩
  · rw [gA_pJ, gA_pA (by omega)]; exact gA_pA_same a75
  · rw [gA_pJ]; exact gA_pA_same a76b
  · intro k hk j hj
    unfold updF
    by_cases e : k = s
    · subst e
      rw [if_pos rfl, b2 j hj, List.getD_eq_getElem?_getD, List.getElem?_replicate, if_pos hj]
      rfl
    · rw [if_neg e, b3 _ (by omega), hce k hk j hj]
  · rw [gJ_pJ (by omega), gJ_pA, gJ_pA, j78]
set_option maxHeartbeats 16000000 in
theorem x_sheet_m (d : Nat) {hp : HP} {n : Nat} {G : BitVec 64} {z : Int} {c : Nat} {ks : List Int} {es : List Int} {ik : Bool} {kn : Nat} {kG : BitVec 64} {kz : Int} {kc : Nat} {kks : List Int} {kes : List Int} {tc : Nat} {tb : List Int} {sc : Nat} {tl : List Int} {so : List Int} {le : List Int} {it : Nat → List (BitVec 64)} {he : List Int} {th : List Int} {sl : List Int} {tr : Nat} {bo : List Int} {x o m : Int} (hX : MI (hp) n G z c ks es ik kn kG kz kc kks kes tc tb sc tl so le it he th sl tr bo) (hO : shOK so le it) (hx : w32 x = x) (ho : w32 o = o) (hm : w32 m = m) : ∃ h', MI (h') n G z c ks es ik kn kG kz kc kks kes tc tb sc tl (shSo so x o m) (shLe le x o m) (shIt it x o m) he th sl tr bo ∧ Fr 54 83 hp h' ∧ ∀ R : PO, callD (d + 100) 262 [mR 54, mI x, mI o, mI m] hp R ↔ R (some (mI (shA x o m))) h' := by
  have hX0 := hX
  obtain ⟨⟨u1, u2, u3⟩, kN, kZ, kM, kGm, l5, l6, qk, q0, q1, q2, q3, q4, q5, q6, q7, q8, q9⟩ := hX
  obtain ⟨fr_, to_, co_, op_, wr_, ki_, nu_, mm_, pa_, hF⟩ := YO_F q0
  have hA : MA hp n := ⟨⟨⟨u2, u3⟩, hF 0, hF 18, hF 19, q1.1.1, q1.1.2⟩, ⟨hF 13, hF 14, hF 15, hF 16, hF 17⟩, q1.2⟩
  have hK := hA.1
  have cK := cM hK
  have hG : gF hp 54 11 3 = some (mL G) := hF 3
  have g37 : gF hp 54 11 37 = some (mR 75) := hF 37
  have g38 : gF hp 54 11 38 = some (mR 76) := hF 38
  obtain ⟨⟨a75, a76⟩, -, -⟩ := q7
  have lso := hO.1
  have lle := hO.2.1
  unfold shSo shLe shIt shA
  cases ex : shO x with
  | none =>
    have e : shNw x o m = none := by unfold shNw; rw [ex]
    rw [e]
    refine ⟨hp, hX0, Fr_refl hp, fun R => ?_⟩
    rw [callD_k]; simp only [entL_i, entL_l, entL_q, entL_s, entL_nil, n_X11_sheet, u_X11_sheet, m_X11_sheet, rep_1, List.cons_append, List.nil_append, List.append_nil, List.length_cons, List.length_nil, Nat.reduceAdd, true_and]
    simp only [AW_k, AWk_1, x_iload_1, x_call_1, x_if_eq, x_iload_2, x_i2l, x_push_i, x_push_l, x_call_3, x_if_lt, x_iload_3, x_icmp_le, x_ret, x_ret_i, x_ret_z, x_ret_l, x_ret_c, x_if_ge, x_aload_0, x_aloads_0, x_getf, x_iast, x_goto, x_istore_4, x_iload_4, x_icmp_ge, x_imul, x_iadd, x_last, x_iinc_4, unl_i, unl_l, unl_q, unl_r, unl_s, unl_n, k_X11_sheet_0, k_X11_sheet_1, k_X11_sheet_2, k_X11_sheet_3, k_X11_sheet_4, k_X11_sheet_5, k_X11_sheet_6, k_X11_sheet_7, k_X11_sheet_8, k_X11_sheet_9, k_X11_sheet_10, k_X11_sheet_11, k_X11_sheet_12, k_X11_sheet_13, k_X11_sheet_14, k_X11_sheet_15, k_X11_sheet_16, k_X11_sheet_17, k_X11_sheet_18, k_X11_sheet_19, k_X11_sheet_20, k_X11_sheet_21, k_X11_sheet_22, k_X11_sheet_23, k_X11_sheet_24, k_X11_sheet_25, k_X11_sheet_26, k_X11_sheet_27, k_X11_sheet_28, k_X11_sheet_29, k_X11_sheet_30, k_X11_sheet_31, k_X11_sheet_32, k_X11_sheet_33, k_X11_sheet_34, k_X11_sheet_35, k_X11_sheet_36, k_X11_sheet_37, k_X11_sheet_38, k_X11_sheet_39, k_X11_sheet_40, k_X11_sheet_41, k_X11_sheet_42, k_X11_sheet_43, k_X11_sheet_44, k_X11_sheet_45, k_X11_sheet_46, k_X11_sheet_47, k_X11_sheet_48, k_X11_sheet_49, k_X11_sheet_50, k_X11_sheet_51, k_X11_sheet_52, k_X11_sheet_53, oE_some, Int.reduceToNat, Nat.reduceAdd, true_and, and_true, List.length_cons, List.length_nil, Option.toList_some, Option.toList_none, List.cons_append, List.nil_append, Nat.reduceLeDiff, Nat.le_refl, wdS_nil, wdS_i, wdS_l, wdS_r, wdS_n, wdS_s, m_isSheet_n (d + 97) hx ex, w00, ↓reduceIte]
  | some s =>
    obtain ⟨hs, es'⟩ := shO_lt ex
    have ms := fun R => m_isSheet_s (d + 97) (hp := hp) hx ex R
    have e : shNw x o m = if o = -1 then some (s, 0) else if 0 ≤ o ∧ o ≤ 3 ∧ 0 ≤ m ∧ m ≤ 40 then some (s, m) else none := by unfold shNw; rw [ex]
    rw [e]
    have bs : s < 2147483648 := by omega
    have iso : inB (s : Int) so.length := by rw [lso]; exact inB_n hs (by decide)
    have ile : inB (s : Int) le.length := by rw [lle]; exact inB_n hs (by decide)
    subst es'
    have i40 : w32 40 = 40 := rfl
    have f1 : ∀ o : Int, gF (pA hp 75 (so.set s o)) 54 11 38 = some (mR 76) := fun o => by rw [gF_pA, g38]
    have f2 : ∀ o : Int, gA (pA hp 75 (so.set s o)) 76 = some le := fun o => by rw [gA_pA (by decide), a76]
    by_cases c0 : o = -1
    · subst c0
      have d1 : inI (-1) (-1) 3 = true := by decide
      obtain ⟨h', v1, v2, v3⟩ := m_shSet d (o := -1) (m := 0) hX0 hO hs (-1) m
      simp only [↓reduceIte]
      refine ⟨h', v1, v2, fun R => ?_⟩
      rw [if_pos (by decide)]
      refine Iff.trans ?_ (v3 R)
      rw [callD_k]; simp only [entL_i, entL_l, entL_q, entL_s, entL_nil, n_X11_sheet, u_X11_sheet, m_X11_sheet, rep_1, List.cons_append, List.nil_append, List.append_nil, List.length_cons, List.length_nil, Nat.reduceAdd, true_and]
      simp only [AW_k, AWk_1, x_iload_1, x_call_1, x_if_eq, x_iload_2, x_i2l, x_push_i, x_push_l, x_call_3, k_X11_sheet_0, k_X11_sheet_1, k_X11_sheet_2, k_X11_sheet_3, k_X11_sheet_4, k_X11_sheet_5, k_X11_sheet_6, k_X11_sheet_7, k_X11_sheet_8, k_X11_sheet_9, oE_some, Int.reduceToNat, Nat.reduceAdd, true_and, and_true, List.length_cons, List.length_nil, Option.toList_some, Option.toList_none, List.cons_append, List.nil_append, Nat.reduceLeDiff, Nat.le_refl, wdS_nil, wdS_i, wdS_l, wdS_r, wdS_n, wdS_s, ms, w10, m_in (d + 98), tI_id ho, qm1_I, q3_I, d1, zI_t, wN, ↓reduceIte]
      simp only [AW_k, AWk_1, x_iload_2, x_if_lt, x_iload_3, x_push_i, x_push_l, x_icmp_le, x_ret, x_ret_i, x_ret_z, x_ret_l, x_ret_c, x_if_ge, x_aload_0, x_aloads_0, x_getf, x_iload_1, x_iast, x_goto, x_istore_4, x_iload_4, unl_i, unl_l, unl_q, unl_r, unl_s, unl_n, k_X11_sheet_9, k_X11_sheet_10, k_X11_sheet_11, k_X11_sheet_12, k_X11_sheet_13, k_X11_sheet_14, k_X11_sheet_15, k_X11_sheet_16, k_X11_sheet_17, k_X11_sheet_18, k_X11_sheet_19, k_X11_sheet_20, k_X11_sheet_21, k_X11_sheet_22, k_X11_sheet_23, k_X11_sheet_24, k_X11_sheet_25, k_X11_sheet_26, k_X11_sheet_27, k_X11_sheet_28, k_X11_sheet_29, k_X11_sheet_30, k_X11_sheet_31, k_X11_sheet_32, k_X11_sheet_33, k_X11_sheet_34, k_X11_sheet_35, k_X11_sheet_36, k_X11_sheet_37, k_X11_sheet_38, oE_some, Int.reduceToNat, Nat.reduceAdd, true_and, and_true, List.length_cons, List.length_nil, Option.toList_some, Option.toList_none, List.cons_append, List.nil_append, Nat.reduceLeDiff, Nat.le_refl, wdS_nil, wdS_i, wdS_l, wdS_r, wdS_n, wdS_s, show ((-1 : Int) < 0) = True from eq_true (by decide), wN, g37, a75, iso, w32_nat bs, Int.toNat_natCast, ho, f1, f2, ile, ↓reduceIte]
    · by_cases c1 : 0 ≤ o ∧ o ≤ 3
      · have d1 : inI o (-1) 3 = true := decide_eq_true (by clear ho hx hm; omega)
        have n1 : (o < 0) = False := eq_false (by clear ho hx hm; omega)
        have c1' : -1 ≤ o ∧ o ≤ 3 := by clear ho hx hm; omega
        by_cases c2 : 0 ≤ m ∧ m ≤ 40
        · have n3 : (40 < m) = False := eq_false (by clear ho hx hm; omega)
          have n4 : (m < 0) = False := eq_false (by clear ho hx hm; omega)
          rw [if_neg c0, if_pos ⟨c1.1, c1.2, c2.1, c2.2⟩]
          obtain ⟨h', v1, v2, v3⟩ := m_shSet d (o := o) (m := m) hX0 hO hs o m
          refine ⟨h', v1, v2, fun R => ?_⟩
          simp only [if_pos c1', c0, n3, n4, ↓reduceIte]
          refine Iff.trans ?_ (v3 R)
          rw [callD_k]; simp only [entL_i, entL_l, entL_q, entL_s, entL_nil, n_X11_sheet, u_X11_sheet, m_X11_sheet, rep_1, List.cons_append, List.nil_append, List.append_nil, List.length_cons, List.length_nil, Nat.reduceAdd, true_and]
          simp only [AW_k, AWk_1, x_iload_1, x_call_1, x_if_eq, x_iload_2, x_i2l, x_push_i, x_push_l, x_call_3, k_X11_sheet_0, k_X11_sheet_1, k_X11_sheet_2, k_X11_sheet_3, k_X11_sheet_4, k_X11_sheet_5, k_X11_sheet_6, k_X11_sheet_7, k_X11_sheet_8, k_X11_sheet_9, oE_some, Int.reduceToNat, Nat.reduceAdd, true_and, and_true, List.length_cons, List.length_nil, Option.toList_some, Option.toList_none, List.cons_append, List.nil_append, Nat.reduceLeDiff, Nat.le_refl, wdS_nil, wdS_i, wdS_l, wdS_r, wdS_n, wdS_s, ms, w10, m_in (d + 98), tI_id ho, qm1_I, q3_I, d1, zI_t, ↓reduceIte]
          simp only [AW_k, AWk_1, x_iload_2, x_if_lt, x_iload_3, x_push_i, x_push_l, x_icmp_le, x_ret, x_ret_i, x_ret_z, x_ret_l, x_ret_c, x_if_ge, x_aload_0, x_aloads_0, x_getf, x_iload_1, x_iast, x_goto, x_istore_4, x_iload_4, unl_i, unl_l, unl_q, unl_r, unl_s, unl_n, k_X11_sheet_9, k_X11_sheet_10, k_X11_sheet_11, k_X11_sheet_12, k_X11_sheet_13, k_X11_sheet_14, k_X11_sheet_15, k_X11_sheet_16, k_X11_sheet_17, k_X11_sheet_18, k_X11_sheet_19, k_X11_sheet_20, k_X11_sheet_21, k_X11_sheet_22, k_X11_sheet_23, k_X11_sheet_24, k_X11_sheet_25, k_X11_sheet_26, k_X11_sheet_27, k_X11_sheet_28, k_X11_sheet_29, k_X11_sheet_30, k_X11_sheet_31, k_X11_sheet_32, k_X11_sheet_33, k_X11_sheet_34, k_X11_sheet_35, k_X11_sheet_36, k_X11_sheet_37, k_X11_sheet_38, oE_some, Int.reduceToNat, Nat.reduceAdd, true_and, and_true, List.length_cons, List.length_nil, Option.toList_some, Option.toList_none, List.cons_append, List.nil_append, Nat.reduceLeDiff, Nat.le_refl, wdS_nil, wdS_i, wdS_l, wdS_r, wdS_n, wdS_s, ho, hm, i40, n1, n3, n4, g37, a75, iso, w32_nat bs, Int.toNat_natCast, f1, f2, ile, ↓reduceIte]
        · rw [if_neg c0, if_neg (fun q => c2 q.2.2)]
          refine ⟨hp, hX0, Fr_refl hp, fun R => ?_⟩
          simp only [if_pos c1', c0, ↓reduceIte]
          by_cases c3 : 40 < m
          · simp only [c3, ↓reduceIte]
            rw [callD_k]; simp only [entL_i, entL_l, entL_q, entL_s, entL_nil, n_X11_sheet, u_X11_sheet, m_X11_sheet, rep_1, List.cons_append, List.nil_append, List.append_nil, List.length_cons, List.length_nil, Nat.reduceAdd, true_and]
            simp only [AW_k, AWk_1, x_iload_1, x_call_1, x_if_eq, x_iload_2, x_i2l, x_push_i, x_push_l, x_call_3, k_X11_sheet_0, k_X11_sheet_1, k_X11_sheet_2, k_X11_sheet_3, k_X11_sheet_4, k_X11_sheet_5, k_X11_sheet_6, k_X11_sheet_7, k_X11_sheet_8, k_X11_sheet_9, oE_some, Int.reduceToNat, Nat.reduceAdd, true_and, and_true, List.length_cons, List.length_nil, Option.toList_some, Option.toList_none, List.cons_append, List.nil_append, Nat.reduceLeDiff, Nat.le_refl, wdS_nil, wdS_i, wdS_l, wdS_r, wdS_n, wdS_s, ms, w10, m_in (d + 98), tI_id ho, qm1_I, q3_I, d1, zI_t, ↓reduceIte]
            simp only [AW_k, AWk_1, x_iload_2, x_if_lt, x_iload_3, x_push_i, x_push_l, x_icmp_le, x_ret, x_ret_i, x_ret_z, x_ret_l, x_ret_c, x_if_ge, k_X11_sheet_9, k_X11_sheet_10, k_X11_sheet_11, k_X11_sheet_12, k_X11_sheet_13, k_X11_sheet_14, k_X11_sheet_15, k_X11_sheet_16, k_X11_sheet_17, k_X11_sheet_18, k_X11_sheet_19, k_X11_sheet_20, k_X11_sheet_21, oE_some, Int.reduceToNat, Nat.reduceAdd, true_and, and_true, List.length_cons, List.length_nil, Option.toList_some, Option.toList_none, List.cons_append, List.nil_append, Nat.reduceLeDiff, Nat.le_refl, wdS_nil, wdS_i, wdS_l, wdS_r, wdS_n, wdS_s, ho, hm, i40, n1, c3, ↓reduceIte]
          · have c4 : m < 0 := by clear ho hx hm; omega
            simp only [c3, c4, ↓reduceIte]
            rw [callD_k]; simp only [entL_i, entL_l, entL_q, entL_s, entL_nil, n_X11_sheet, u_X11_sheet, m_X11_sheet, rep_1, List.cons_append, List.nil_append, List.append_nil, List.length_cons, List.length_nil, Nat.reduceAdd, true_and]
            simp only [AW_k, AWk_1, x_iload_1, x_call_1, x_if_eq, x_iload_2, x_i2l, x_push_i, x_push_l, x_call_3, k_X11_sheet_0, k_X11_sheet_1, k_X11_sheet_2, k_X11_sheet_3, k_X11_sheet_4, k_X11_sheet_5, k_X11_sheet_6, k_X11_sheet_7, k_X11_sheet_8, k_X11_sheet_9, oE_some, Int.reduceToNat, Nat.reduceAdd, true_and, and_true, List.length_cons, List.length_nil, Option.toList_some, Option.toList_none, List.cons_append, List.nil_append, Nat.reduceLeDiff, Nat.le_refl, wdS_nil, wdS_i, wdS_l, wdS_r, wdS_n, wdS_s, ms, w10, m_in (d + 98), tI_id ho, qm1_I, q3_I, d1, zI_t, ↓reduceIte]
            simp only [AW_k, AWk_1, x_iload_2, x_if_lt, x_iload_3, x_push_i, x_push_l, x_icmp_le, x_ret, x_ret_i, x_ret_z, x_ret_l, x_ret_c, x_if_ge, k_X11_sheet_9, k_X11_sheet_10, k_X11_sheet_11, k_X11_sheet_12, k_X11_sheet_13, k_X11_sheet_14, k_X11_sheet_15, k_X11_sheet_16, k_X11_sheet_17, k_X11_sheet_18, k_X11_sheet_19, k_X11_sheet_20, k_X11_sheet_21, oE_some, Int.reduceToNat, Nat.reduceAdd, true_and, and_true, List.length_cons, List.length_nil, Option.toList_some, Option.toList_none, List.cons_append, List.nil_append, Nat.reduceLeDiff, Nat.le_refl, wdS_nil, wdS_i, wdS_l, wdS_r, wdS_n, wdS_s, ho, hm, i40, n1, c3, c4, ↓reduceIte]
      · rw [if_neg c0, if_neg (fun q => c1 ⟨q.1, q.2.1⟩)]
        have c1' : ¬ (-1 ≤ o ∧ o ≤ 3) := by clear ho hx hm; omega
        have d1 : inI o (-1) 3 = false := decide_eq_false c1'
        refine ⟨hp, hX0, Fr_refl hp, fun R => ?_⟩
        simp only [if_neg c1']
        rw [callD_k]; simp only [entL_i, entL_l, entL_q, entL_s, entL_nil, n_X11_sheet, u_X11_sheet, m_X11_sheet, rep_1, List.cons_append, List.nil_append, List.append_nil, List.length_cons, List.length_nil, Nat.reduceAdd, true_and]
        simp only [AW_k, AWk_1, x_iload_1, x_call_1, x_if_eq, x_iload_2, x_i2l, x_push_i, x_push_l, x_call_3, x_if_lt, x_iload_3, x_icmp_le, x_ret, x_ret_i, x_ret_z, x_ret_l, x_ret_c, k_X11_sheet_0, k_X11_sheet_1, k_X11_sheet_2, k_X11_sheet_3, k_X11_sheet_4, k_X11_sheet_5, k_X11_sheet_6, k_X11_sheet_7, k_X11_sheet_8, k_X11_sheet_9, k_X11_sheet_10, k_X11_sheet_11, k_X11_sheet_12, k_X11_sheet_13, k_X11_sheet_14, k_X11_sheet_15, oE_some, Int.reduceToNat, Nat.reduceAdd, true_and, and_true, List.length_cons, List.length_nil, Option.toList_some, Option.toList_none, List.cons_append, List.nil_append, Nat.reduceLeDiff, Nat.le_refl, wdS_nil, wdS_i, wdS_l, wdS_r, wdS_n, wdS_s, ms, w10, m_in (d + 98), tI_id ho, qm1_I, q3_I, d1, zI_f, w00, ↓reduceIte]
