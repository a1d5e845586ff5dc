/-! ===== the reference's own methods: makers (2), collapse ===== -/
theorem q5_I : (5#64).toInt = 5 := by decide
theorem q15_I : (15#64).toInt = 15 := by decide
theorem m_isMaker (d : Nat) {hp : HP} {c : Nat} {x : Int} (g2 : gF hp 54 11 2 = some (mI (c : Int))) (hc : c ≤ 6) (hx : w32 x = x) (R : PO) : callD (d + 2) 202 [mR 54, mI x] hp R ↔ R (some (mI (zI (mkO c x).isSome))) hp := by
  have er : w32 ((c : Int) - 1) = (c : Int) - 1 := w32_id (by omega) (by omega)
  have ei : inI x 0 ((c : Int) - 1) = (mkO c x).isSome := by
    clear er hx
    unfold mkO inI
    by_cases q : 0 ≤ x ∧ x < (c : Int)
    · rw [if_pos q, decide_eq_true (by omega)]; rfl
    · rw [if_neg q, decide_eq_false (by omega)]; rfl
  rw [callD_k]; simp only [entL_i, entL_l, entL_q, entL_s, entL_nil, n_X11_isMaker, u_X11_isMaker, m_X11_isMaker, rep_0, List.cons_append, List.nil_append, List.append_nil, List.length_cons, List.length_nil, Nat.reduceAdd, true_and]
  simp only [AW_k, AWk_1, x_iload_1, x_i2l, x_push_i, x_push_l, x_aload_0, x_aloads_0, x_getf, x_isub, x_call_3, x_ret, x_ret_i, x_ret_z, x_ret_l, x_ret_c, k_X11_isMaker_0, k_X11_isMaker_1, k_X11_isMaker_2, k_X11_isMaker_3, k_X11_isMaker_4, k_X11_isMaker_5, k_X11_isMaker_6, k_X11_isMaker_7, k_X11_isMaker_8, k_X11_isMaker_9, oE_some, Int.reduceToNat, Nat.reduceAdd, true_and, and_true, List.length_cons, List.length_nil, Option.toList_some, Option.toList_none, List.cons_append, List.nil_append, Nat.reduceLeDiff, Nat.le_refl, wdS_nil, wdS_i, wdS_l, wdS_r, wdS_n, wdS_s, g2, m_in d, tI_id hx, tI_id er, q0_I, ei]
  exact ⟨fun q => q.2, fun q => ⟨zI_or _, q⟩⟩
theorem mMk_n (d : Nat) {hp : HP} {c : Nat} {x : Int} (g2 : gF hp 54 11 2 = some (mI (c : Int))) (hc : c ≤ 6) (hx : w32 x = x) (e : mkO c x = none) (R : PO) : callD (d + 2) 202 [mR 54, mI x] hp R ↔ R (some (mI 0)) hp := by
  rw [m_isMaker d g2 hc hx R, e]; exact Iff.rfl
theorem mMk_s (d : Nat) {hp : HP} {c i : Nat} {x : Int} (g2 : gF hp 54 11 2 = some (mI (c : Int))) (hc : c ≤ 6) (hx : w32 x = x) (e : mkO c x = some i) (R : PO) : callD (d + 2) 202 [mR 54, mI x] hp R ↔ R (some (mI 1)) hp := by
  rw [m_isMaker d g2 hc hx R, e]; exact Iff.rfl
set_option maxHeartbeats 16000000 in
theorem x_maker_m (d : Nat) {hp : HP} {n : Nat} {G : BitVec 64} {z : Int} {c : Nat} {ks : List Int} {es : List Int} {ik : Bool} {kn : Nat} {kG : BitVec 64} {kz : Int} {kc : Nat} {kks : List Int} {kes : List Int} {tc : Nat} {tb : List Int} {sc : Nat} {tl : List Int} {so : List Int} {le : List Int} {it : Nat → List (BitVec 64)} {he : List Int} {th : List Int} {sl : List Int} {tr : Nat} {bo : List Int} {k m : Int} (hX : MI (hp) n G z c ks es ik kn kG kz kc kks kes tc tb sc tl so le it he th sl tr bo) (hmk : mkOK c ks es) (hk : w32 k = k) (hm : w32 m = m) : ∃ h', MI (h') n G z (if mkT c k m = true then c + 1 else c) (if mkT c k m = true then ks.set c k else ks) (if mkT c k m = true then es.set c m else es) ik kn kG kz kc kks kes tc tb sc tl so le it he th sl tr bo ∧ Fr 54 83 hp h' ∧ ∀ R : PO, callD (d + 100) 207 [mR 54, mI k, mI m] hp R ↔ R (some (mI (if 0 ≤ k ∧ k < 6 ∧ 0 ≤ m ∧ m < 16 then (if c < 6 then (c : Int) else -2) else -1))) h' := by
  have hX0 := hX
  obtain ⟨⟨u1, u2, u3⟩, kN, kZ, kM, kGm, l5, l6, qk, q0, q1, q2, q3, q4, q5, q6, q7, q8, q9⟩ := hX
  obtain ⟨fr_, to_, co_, op_, wr_, ki_, nu_, mm_, pa_, hF⟩ := YO_F q0
  have hA : MA hp n := ⟨⟨⟨u2, u3⟩, hF 0, hF 18, hF 19, q1.1.1, q1.1.2⟩, ⟨hF 13, hF 14, hF 15, hF 16, hF 17⟩, q1.2⟩
  have hK := hA.1
  have cK := cM hK
  have hG : gF hp 54 11 3 = some (mL G) := hF 3
  have hc6 := hmk.2.2.1
  have bc : c < 2147483648 := by omega
  have g2 : gF hp 54 11 2 = some (mI (c : Int)) := hF 2
  have g4 : gF hp 54 11 4 = some (mR 55) := hF 4
  have g5 : gF hp 54 11 5 = some (mR 56) := hF 5
  obtain ⟨⟨y1, y2⟩, y3, y4⟩ := q2
  by_cases hin : 0 ≤ k ∧ k < 6 ∧ 0 ≤ m ∧ m < 16
  · rw [if_pos hin]
    have c1 : inI k 0 5 = true := decide_eq_true (by omega)
    have c2 : inI m 0 15 = true := decide_eq_true (by omega)
    by_cases hc : c < 6
    · have et : mkT c k m = true := by unfold mkT; rw [decide_eq_true hin, decide_eq_true hc]; rfl
      rw [if_pos hc, if_pos et, if_pos et, if_pos et]
      have n5 : ((c : Int) = 6) = False := eq_false (by omega)
      have e1 : (c : Int) + 1 = ((c + 1 : Nat) : Int) := by omega
      have e2 : ((c + 1 : Nat) : Int) - 1 = (c : Int) := by omega
      have ic : inB (c : Int) 6 := inB_n hc (by decide)
      have f : Fr 55 57 hp (pA (pA hp 55 (ks.set c k)) 56 (es.set c m)) := Fr_trans (Fr_pA (by omega) (by omega)) (Fr_pA (by omega) (by omega))
      have Y : MI ((pA (pA hp 55 (ks.set c k)) 56 (es.set c m))) n G z c (ks.set c k) (es.set c m) ik kn kG kz kc kks kes tc tb sc tl so le it he th sl tr bo := MI_M hX0 f ⟨⟨by rw [gA_pA (by omega)]; exact gA_pA_same y1, gA_pA_same (by rw [gA_pA (by omega), y2])⟩, by rw [List.length_set]; exact y3, by rw [List.length_set]; exact y4⟩
      have z1 : ∀ a l f, gF (pA hp a l) 54 11 f = gF hp 54 11 f := fun a l f => gF_pA
      have z2 : ∀ l, gA (pA hp 55 l) 56 = some es := fun l => by rw [gA_pA (by omega), y2]
      have z3 : gF (pF (pA (pA hp 55 (ks.set c k)) 56 (es.set c m)) 54 11 2 (mI ((c + 1 : Nat) : Int))) 54 11 2 = some (mI ((c + 1 : Nat) : Int)) := gF_pF_same (w := mI (c : Int)) (by rw [gF_pA, gF_pA, g2])
      have z4 : ∀ f, gF (pA (pA hp 55 (ks.set c k)) 56 (es.set c m)) 54 11 f = gF hp 54 11 f := fun f => by rw [gF_pA, gF_pA]
      refine ⟨pF (pA (pA hp 55 (ks.set c k)) 56 (es.set c m)) 54 11 2 (mI ((c + 1 : Nat) : Int)), MI_oc Y, Fr_trans (Fr_mono f (by omega) (by omega)) Fr_o54, fun R => ?_⟩
      rw [callD_k]; simp only [entL_i, entL_l, entL_q, entL_s, entL_nil, n_X11_maker, u_X11_maker, m_X11_maker, rep_0, List.cons_append, List.nil_append, List.append_nil, List.length_cons, List.length_nil, Nat.reduceAdd, true_and]
      simp only [AW_k, AWk_1, x_iload_1, x_i2l, x_push_i, x_push_l, x_call_3, x_if_eq, x_iload_2, x_if_ne, x_ret, x_ret_i, x_ret_z, x_ret_l, x_ret_c, x_aload_0, x_aloads_0, x_getf, x_icmp_ne, x_iast, x_dup_i, x_dup_r, x_dup_q, x_iadd, x_putf_i, x_isub, k_X11_maker_0, k_X11_maker_1, k_X11_maker_2, k_X11_maker_3, k_X11_maker_4, k_X11_maker_5, k_X11_maker_6, k_X11_maker_7, k_X11_maker_8, k_X11_maker_9, k_X11_maker_10, k_X11_maker_11, k_X11_maker_12, k_X11_maker_13, k_X11_maker_14, k_X11_maker_15, k_X11_maker_16, k_X11_maker_17, k_X11_maker_18, k_X11_maker_19, k_X11_maker_20, k_X11_maker_21, k_X11_maker_22, k_X11_maker_23, k_X11_maker_24, k_X11_maker_25, k_X11_maker_26, k_X11_maker_27, k_X11_maker_28, k_X11_maker_29, k_X11_maker_30, k_X11_maker_31, k_X11_maker_32, k_X11_maker_33, k_X11_maker_34, k_X11_maker_35, k_X11_maker_36, k_X11_maker_37, k_X11_maker_38, k_X11_maker_39, k_X11_maker_40, k_X11_maker_41, k_X11_maker_42, oE_some, Int.reduceToNat, Nat.reduceAdd, true_and, and_true, List.length_cons, List.length_nil, Option.toList_some, Option.toList_none, List.cons_append, List.nil_append, Nat.reduceLeDiff, Nat.le_refl, wdS_nil, wdS_i, wdS_l, wdS_r, wdS_n, wdS_s, m_in (d + 98), tI_id hk, tI_id hm, q0_I, q5_I, q15_I, c1, c2, zI_t, w10, g2, w32_nat bc, show w32 6 = 6 from rfl, n5, g4, g5, y1, y3, y4, ic, Int.toNat_natCast, z4, z1, z2, e1, z3, e2, ↓reduceIte]
    · have et : mkT c k m = false := by unfold mkT; rw [decide_eq_false hc, Bool.and_false]
      rw [if_neg hc, if_neg (by rw [et]; decide), if_neg (by rw [et]; decide), if_neg (by rw [et]; decide)]
      have n5 : ((c : Int) = 6) = True := eq_true (by omega)
      refine ⟨hp, hX0, Fr_refl hp, fun R => ?_⟩
      rw [callD_k]; simp only [entL_i, entL_l, entL_q, entL_s, entL_nil, n_X11_maker, u_X11_maker, m_X11_maker, rep_0, List.cons_append, List.nil_append, List.append_nil, List.length_cons, List.length_nil, Nat.reduceAdd, true_and]
      simp only [AW_k, AWk_1, x_iload_1, x_i2l, x_push_i, x_push_l, x_call_3, x_if_eq, x_iload_2, x_if_ne, x_ret, x_ret_i, x_ret_z, x_ret_l, x_ret_c, x_aload_0, x_aloads_0, x_getf, x_icmp_ne, x_iast, x_dup_i, x_dup_r, x_dup_q, x_iadd, x_putf_i, x_isub, k_X11_maker_0, k_X11_maker_1, k_X11_maker_2, k_X11_maker_3, k_X11_maker_4, k_X11_maker_5, k_X11_maker_6, k_X11_maker_7, k_X11_maker_8, k_X11_maker_9, k_X11_maker_10, k_X11_maker_11, k_X11_maker_12, k_X11_maker_13, k_X11_maker_14, k_X11_maker_15, k_X11_maker_16, k_X11_maker_17, k_X11_maker_18, k_X11_maker_19, k_X11_maker_20, k_X11_maker_21, k_X11_maker_22, k_X11_maker_23, k_X11_maker_24, k_X11_maker_25, k_X11_maker_26, k_X11_maker_27, k_X11_maker_28, k_X11_maker_29, k_X11_maker_30, k_X11_maker_31, k_X11_maker_32, k_X11_maker_33, k_X11_maker_34, k_X11_maker_35, k_X11_maker_36, k_X11_maker_37, k_X11_maker_38, k_X11_maker_39, k_X11_maker_40, k_X11_maker_41, k_X11_maker_42, oE_some, Int.reduceToNat, Nat.reduceAdd, true_and, and_true, List.length_cons, List.length_nil, Option.toList_some, Option.toList_none, List.cons_append, List.nil_append, Nat.reduceLeDiff, Nat.le_refl, wdS_nil, wdS_i, wdS_l, wdS_r, wdS_n, wdS_s, m_in (d + 98), tI_id hk, tI_id hm, q0_I, q5_I, q15_I, c1, c2, zI_t, w10, g2, w32_nat bc, show w32 6 = 6 from rfl, n5, ↓reduceIte]
  · rw [if_neg hin]
    have et : mkT c k m = false := by unfold mkT; rw [decide_eq_false hin, Bool.false_and]
    rw [if_neg (by rw [et]; decide), if_neg (by rw [et]; decide), if_neg (by rw [et]; decide)]
    refine ⟨hp, hX0, Fr_refl hp, fun R => ?_⟩
    rw [callD_k]; simp only [entL_i, entL_l, entL_q, entL_s, entL_nil, n_X11_maker, u_X11_maker, m_X11_maker, rep_0, List.cons_append, List.nil_append, List.append_nil, List.length_cons, List.length_nil, Nat.reduceAdd, true_and]
    by_cases a1 : 0 ≤ k ∧ k ≤ 5
    · have c1 : inI k 0 5 = true := decide_eq_true a1
      have c2 : inI m 0 15 = false := decide_eq_false (by omega)
      simp only [AW_k, AWk_1, x_iload_1, x_i2l, x_push_i, x_push_l, x_call_3, x_if_eq, x_iload_2, x_if_ne, x_ret, x_ret_i, x_ret_z, x_ret_l, x_ret_c, x_aload_0, x_aloads_0, x_getf, x_icmp_ne, x_iast, x_dup_i, x_dup_r, x_dup_q, x_iadd, x_putf_i, x_isub, k_X11_maker_0, k_X11_maker_1, k_X11_maker_2, k_X11_maker_3, k_X11_maker_4, k_X11_maker_5, k_X11_maker_6, k_X11_maker_7, k_X11_maker_8, k_X11_maker_9, k_X11_maker_10, k_X11_maker_11, k_X11_maker_12, k_X11_maker_13, k_X11_maker_14, k_X11_maker_15, k_X11_maker_16, k_X11_maker_17, k_X11_maker_18, k_X11_maker_19, k_X11_maker_20, k_X11_maker_21, k_X11_maker_22, k_X11_maker_23, k_X11_maker_24, k_X11_maker_25, k_X11_maker_26, k_X11_maker_27, k_X11_maker_28, k_X11_maker_29, k_X11_maker_30, k_X11_maker_31, k_X11_maker_32, k_X11_maker_33, k_X11_maker_34, k_X11_maker_35, k_X11_maker_36, k_X11_maker_37, k_X11_maker_38, k_X11_maker_39, k_X11_maker_40, k_X11_maker_41, k_X11_maker_42, oE_some, Int.reduceToNat, Nat.reduceAdd, true_and, and_true, List.length_cons, List.length_nil, Option.toList_some, Option.toList_none, List.cons_append, List.nil_append, Nat.reduceLeDiff, Nat.le_refl, wdS_nil, wdS_i, wdS_l, wdS_r, wdS_n, wdS_s, m_in (d + 98), tI_id hk, tI_id hm, q0_I, q5_I, q15_I, c1, c2, zI_t, zI_f, w10, w00, ↓reduceIte]
    · have c1 : inI k 0 5 = false := decide_eq_false a1
      simp only [AW_k, AWk_1, x_iload_1, x_i2l, x_push_i, x_push_l, x_call_3, x_if_eq, x_iload_2, x_if_ne, x_ret, x_ret_i, x_ret_z, x_ret_l, x_ret_c, x_aload_0, x_aloads_0, x_getf, x_icmp_ne, x_iast, x_dup_i, x_dup_r, x_dup_q, x_iadd, x_putf_i, x_isub, k_X11_maker_0, k_X11_maker_1, k_X11_maker_2, k_X11_maker_3, k_X11_maker_4, k_X11_maker_5, k_X11_maker_6, k_X11_maker_7, k_X11_maker_8, k_X11_maker_9, k_X11_maker_10, k_X11_maker_11, k_X11_maker_12, k_X11_maker_13, k_X11_maker_14, k_X11_maker_15, k_X11_maker_16, k_X11_maker_17, k_X11_maker_18, k_X11_maker_19, k_X11_maker_20, k_X11_maker_21, k_X11_maker_22, k_X11_maker_23, k_X11_maker_24, k_X11_maker_25, k_X11_maker_26, k_X11_maker_27, k_X11_maker_28, k_X11_maker_29, k_X11_maker_30, k_X11_maker_31, k_X11_maker_32, k_X11_maker_33, k_X11_maker_34, k_X11_maker_35, k_X11_maker_36, k_X11_maker_37, k_X11_maker_38, k_X11_maker_39, k_X11_maker_40, k_X11_maker_41, k_X11_maker_42, oE_some, Int.reduceToNat, Nat.reduceAdd, true_and, and_true, List.length_cons, List.length_nil, Option.toList_some, Option.toList_none, List.cons_append, List.nil_append, Nat.reduceLeDiff, Nat.le_refl, wdS_nil, wdS_i, wdS_l, wdS_r, wdS_n, wdS_s, m_in (d + 98), tI_id hk, tI_id hm, q0_I, q5_I, q15_I, c1, zI_f, w00, ↓reduceIte]
set_option maxHeartbeats 16000000 in
theorem x_makerIs_m (d : Nat) {hp : HP} {n : Nat} {G : BitVec 64} {z : Int} {c : Nat} {ks : List Int} {es : List Int} {ik : Bool} {kn : Nat} {kG : BitVec 64} {kz : Int} {kc : Nat} {kks : List Int} {kes : List Int} {tc : Nat} {tb : List Int} {sc : Nat} {tl : List Int} {so : List Int} {le : List Int} {it : Nat → List (BitVec 64)} {he : List Int} {th : List Int} {sl : List Int} {tr : Nat} {bo : List Int} {x w : Int} (hX : MI (hp) n G z c ks es ik kn kG kz kc kks kes tc tb sc tl so le it he th sl tr bo) (hmk : mkOK c ks es) (hx : w32 x = x) (hw : w32 w = w) (R : PO) : callD (d + 100) 208 [mR 54, mI x, mI w] hp R ↔ R (some (mI (mkA n c ks es x w))) hp := by
  have nw : ¬ (0 ≤ w ∧ w ≤ 2) → ¬ w = 0 ∧ ¬ w = 1 ∧ ¬ w = 2 := by omega
  have pw : 0 ≤ w ∧ w ≤ 2 → ¬ w = 0 → ¬ w = 1 → w = 2 := by omega
  obtain ⟨⟨u1, u2, u3⟩, kN, kZ, kM, kGm, l5, l6, qk, q0, q1, q2, q3, q4, q5, q6, q7, q8, q9⟩ := hX
  obtain ⟨fr_, to_, co_, op_, wr_, ki_, nu_, mm_, pa_, hF⟩ := YO_F q0
  have hA : MA hp n := ⟨⟨⟨u2, u3⟩, hF 0, hF 18, hF 19, q1.1.1, q1.1.2⟩, ⟨hF 13, hF 14, hF 15, hF 16, hF 17⟩, q1.2⟩
  have hK := hA.1
  have cK := cM hK
  have hG : gF hp 54 11 3 = some (mL G) := hF 3
  have hc6 := hmk.2.2.1
  have g2 : gF hp 54 11 2 = some (mI (c : Int)) := hF 2
  have g4 : gF hp 54 11 4 = some (mR 55) := hF 4
  have g5 : gF hp 54 11 5 = some (mR 56) := hF 5
  obtain ⟨⟨y1, y2⟩, y3, y4⟩ := q2
  unfold mkA
  cases ex : mkO c x with
  | none =>
    rw [callD_k]; simp only [entL_i, entL_l, entL_q, entL_s, entL_nil, n_X11_makerIs, u_X11_makerIs, m_X11_makerIs, rep_0, List.cons_append, List.nil_append, List.append_nil, List.length_cons, List.length_nil, Nat.reduceAdd, true_and]
    simp only [AW_k, AWk_1, x_aload_0, x_aloads_0, x_iload_1, x_callv_2, x_if_eq, x_iload_2, x_i2l, x_push_i, x_push_l, x_call_3, x_if_ne, x_ret, x_ret_i, x_ret_z, x_ret_l, x_ret_c, k_X11_makerIs_0, k_X11_makerIs_1, k_X11_makerIs_2, k_X11_makerIs_3, k_X11_makerIs_4, k_X11_makerIs_5, k_X11_makerIs_6, k_X11_makerIs_7, k_X11_makerIs_8, k_X11_makerIs_9, k_X11_makerIs_10, k_X11_makerIs_11, oE_some, Int.reduceToNat, Nat.reduceAdd, true_and, and_true, List.length_cons, List.length_nil, Option.toList_some, Option.toList_none, List.cons_append, List.nil_append, Nat.reduceLeDiff, Nat.le_refl, wdS_nil, wdS_i, wdS_l, wdS_r, wdS_n, wdS_s, cK, mMk_n (d + 97) g2 hc6 hx ex, w00, ↓reduceIte]
  | some i =>
    obtain ⟨hi, ei⟩ := mkO_lt ex
    have i6 : i < 6 := by omega
    have bi : i < 2147483648 := by omega
    have hs := mMk_s (d + 97) g2 hc6 hx ex
    obtain ⟨kk, mm, m1, m2, m3, m4⟩ := hmk.2.2.2 i hi
    have ek : tkS n ks es i = stB (tk n kk mm) (NA n) := by unfold tkS; rw [m1, m3]; rfl
    subst ei
    have ii : inB (i : Int) 6 := inB_n i6 (by decide)
    have mt := fun R => m_takenBy (d + 94) hA m2 m4 R
    show _ ↔ R (some (mI (if w = 0 then _ else _))) hp
    by_cases cw : 0 ≤ w ∧ w ≤ 2
    · have ci : inI w 0 2 = true := decide_eq_true cw
      rw [callD_k]; simp only [entL_i, entL_l, entL_q, entL_s, entL_nil, n_X11_makerIs, u_X11_makerIs, m_X11_makerIs, rep_0, List.cons_append, List.nil_append, List.append_nil, List.length_cons, List.length_nil, Nat.reduceAdd, true_and]
      simp only [AW_k, AWk_1, x_aload_0, x_aloads_0, x_iload_1, x_callv_2, x_if_eq, x_iload_2, x_i2l, x_push_i, x_push_l, x_call_3, x_if_ne, x_ret, x_ret_i, x_ret_z, x_ret_l, x_ret_c, k_X11_makerIs_0, k_X11_makerIs_1, k_X11_makerIs_2, k_X11_makerIs_3, k_X11_makerIs_4, k_X11_makerIs_5, k_X11_makerIs_6, k_X11_makerIs_7, k_X11_makerIs_8, k_X11_makerIs_9, k_X11_makerIs_10, k_X11_makerIs_11, k_X11_makerIs_12, oE_some, Int.reduceToNat, Nat.reduceAdd, true_and, and_true, List.length_cons, List.length_nil, Option.toList_some, Option.toList_none, List.cons_append, List.nil_append, Nat.reduceLeDiff, Nat.le_refl, wdS_nil, wdS_i, wdS_l, wdS_r, wdS_n, wdS_s, cK, hs, w10, m_in (d + 98), tI_id hw, q0_I, q2_I, ci, zI_t, ↓reduceIte]
      by_cases c0 : w = 0
      · rw [if_pos c0]
        simp only [AW_k, AWk_1, x_iload_2, x_if_ne, x_aload_0, x_aloads_0, x_getf, x_iload_1, x_iald, x_ialds, x_goto, x_push_i, x_push_l, x_icmp_ne, x_callv_3, x_call_1, x_ret, x_ret_i, x_ret_z, x_ret_l, x_ret_c, k_X11_makerIs_12, k_X11_makerIs_13, k_X11_makerIs_14, k_X11_makerIs_15, k_X11_makerIs_16, k_X11_makerIs_17, k_X11_makerIs_18, k_X11_makerIs_19, k_X11_makerIs_20, k_X11_makerIs_21, k_X11_makerIs_22, k_X11_makerIs_23, k_X11_makerIs_24, k_X11_makerIs_25, k_X11_makerIs_26, k_X11_makerIs_27, k_X11_makerIs_28, k_X11_makerIs_29, k_X11_makerIs_30, k_X11_makerIs_31, k_X11_makerIs_32, k_X11_makerIs_33, k_X11_makerIs_34, k_X11_makerIs_35, k_X11_makerIs_36, k_X11_makerIs_37, k_X11_makerIs_38, oE_some, Int.reduceToNat, Nat.reduceAdd, true_and, and_true, List.length_cons, List.length_nil, Option.toList_some, Option.toList_none, List.cons_append, List.nil_append, Nat.reduceLeDiff, Nat.le_refl, wdS_nil, wdS_i, wdS_l, wdS_r, wdS_n, wdS_s, hw, c0, wz0, g4, y1, y3, ii, w32_tn bi, ↓reduceIte]
      · rw [if_neg c0]
        by_cases c1 : w = 1
        · rw [if_pos c1]
          simp only [AW_k, AWk_1, x_iload_2, x_if_ne, x_aload_0, x_aloads_0, x_getf, x_iload_1, x_iald, x_ialds, x_goto, x_push_i, x_push_l, x_icmp_ne, x_callv_3, x_call_1, x_ret, x_ret_i, x_ret_z, x_ret_l, x_ret_c, k_X11_makerIs_12, k_X11_makerIs_13, k_X11_makerIs_14, k_X11_makerIs_15, k_X11_makerIs_16, k_X11_makerIs_17, k_X11_makerIs_18, k_X11_makerIs_19, k_X11_makerIs_20, k_X11_makerIs_21, k_X11_makerIs_22, k_X11_makerIs_23, k_X11_makerIs_24, k_X11_makerIs_25, k_X11_makerIs_26, k_X11_makerIs_27, k_X11_makerIs_28, k_X11_makerIs_29, k_X11_makerIs_30, k_X11_makerIs_31, k_X11_makerIs_32, k_X11_makerIs_33, k_X11_makerIs_34, k_X11_makerIs_35, k_X11_makerIs_36, k_X11_makerIs_37, k_X11_makerIs_38, oE_some, Int.reduceToNat, Nat.reduceAdd, true_and, and_true, List.length_cons, List.length_nil, Option.toList_some, Option.toList_none, List.cons_append, List.nil_append, Nat.reduceLeDiff, Nat.le_refl, wdS_nil, wdS_i, wdS_l, wdS_r, wdS_n, wdS_s, hw, c1, wz1, Int.reduceEq, g5, y2, y4, ii, w32_tn bi, ↓reduceIte]
        · have c2 : w = 2 := pw cw c0 c1
          rw [if_neg c1, if_pos c2, ek]
          simp only [AW_k, AWk_1, x_iload_2, x_if_ne, x_aload_0, x_aloads_0, x_getf, x_iload_1, x_iald, x_ialds, x_goto, x_push_i, x_push_l, x_icmp_ne, x_callv_3, x_call_1, x_ret, x_ret_i, x_ret_z, x_ret_l, x_ret_c, k_X11_makerIs_12, k_X11_makerIs_13, k_X11_makerIs_14, k_X11_makerIs_15, k_X11_makerIs_16, k_X11_makerIs_17, k_X11_makerIs_18, k_X11_makerIs_19, k_X11_makerIs_20, k_X11_makerIs_21, k_X11_makerIs_22, k_X11_makerIs_23, k_X11_makerIs_24, k_X11_makerIs_25, k_X11_makerIs_26, k_X11_makerIs_27, k_X11_makerIs_28, k_X11_makerIs_29, k_X11_makerIs_30, k_X11_makerIs_31, k_X11_makerIs_32, k_X11_makerIs_33, k_X11_makerIs_34, k_X11_makerIs_35, k_X11_makerIs_36, k_X11_makerIs_37, k_X11_makerIs_38, oE_some, Int.reduceToNat, Nat.reduceAdd, true_and, and_true, List.length_cons, List.length_nil, Option.toList_some, Option.toList_none, List.cons_append, List.nil_append, Nat.reduceLeDiff, Nat.le_refl, wdS_nil, wdS_i, wdS_l, wdS_r, wdS_n, wdS_s, hw, c2, wz1, wz2, Int.reduceEq, g4, g5, y1, y2, y3, y4, ii, w32_tn bi, m1, m3, cK, mt, m_ones (d + 97), ↓reduceIte]
    · have ci : inI w 0 2 = false := decide_eq_false cw
      obtain ⟨w0, w1, w2⟩ := nw cw
      rw [if_neg w0, if_neg w1, if_neg w2]
      rw [callD_k]; simp only [entL_i, entL_l, entL_q, entL_s, entL_nil, n_X11_makerIs, u_X11_makerIs, m_X11_makerIs, rep_0, List.cons_append, List.nil_append, List.append_nil, List.length_cons, List.length_nil, Nat.reduceAdd, true_and]
      simp only [AW_k, AWk_1, x_aload_0, x_aloads_0, x_iload_1, x_callv_2, x_if_eq, x_iload_2, x_i2l, x_push_i, x_push_l, x_call_3, x_if_ne, x_ret, x_ret_i, x_ret_z, x_ret_l, x_ret_c, k_X11_makerIs_0, k_X11_makerIs_1, k_X11_makerIs_2, k_X11_makerIs_3, k_X11_makerIs_4, k_X11_makerIs_5, k_X11_makerIs_6, k_X11_makerIs_7, k_X11_makerIs_8, k_X11_makerIs_9, k_X11_makerIs_10, k_X11_makerIs_11, oE_some, Int.reduceToNat, Nat.reduceAdd, true_and, and_true, List.length_cons, List.length_nil, Option.toList_some, Option.toList_none, List.cons_append, List.nil_append, Nat.reduceLeDiff, Nat.le_refl, wdS_nil, wdS_i, wdS_l, wdS_r, wdS_n, wdS_s, cK, hs, w10, m_in (d + 98), tI_id hw, q0_I, q2_I, ci, zI_f, w00, ↓reduceIte]
theorem okS_stB {n : Nat} {f : Nat → Bool} : ∀ k, k ≤ NA n → okS n (stB f k) := by
  intro k
  induction k with
  | zero => intro _ j hj; exact absurd hj (by show ¬ (0#64 : BitVec 64).getLsbD j = true; rw [BitVec.getLsbD_zero]; decide)
  | succ k ih =>
    intro hk j hj
    rw [stB_succ, BitVec.getLsbD_or, Bool.or_eq_true] at hj
    rcases hj with hj | hj
    · exact ih (by omega) j hj
    · split at hj
      · rw [BitVec.getLsbD_shiftLeft, BitVec.getLsbD_one] at hj
        simp only [Bool.and_eq_true, decide_eq_true_eq, Bool.not_eq_true', decide_eq_false_iff_not] at hj
        omega
      · rw [BitVec.getLsbD_zero] at hj; exact Bool.noConfusion hj
set_option maxHeartbeats 16000000 in
theorem x_make_m (d : Nat) {hp : HP} {n : Nat} {G : BitVec 64} {z : Int} {c : Nat} {ks : List Int} {es : List Int} {ik : Bool} {kn : Nat} {kG : BitVec 64} {kz : Int} {kc : Nat} {kks : List Int} {kes : List Int} {tc : Nat} {tb : List Int} {sc : Nat} {tl : List Int} {so : List Int} {le : List Int} {it : Nat → List (BitVec 64)} {he : List Int} {th : List Int} {sl : List Int} {tr : Nat} {bo : List Int} {x w : Int} (hX : MI (hp) n G z c ks es ik kn kG kz kc kks kes tc tb sc tl so le it he th sl tr bo) (hmk : mkOK c ks es) (hx : w32 x = x) (hw : w32 w = w) : ∃ h', MI (h') n (mmG n G c ks es x w) z c ks es ik kn kG kz kc kks kes tc tb sc tl so le it he th sl tr bo ∧ Fr 54 83 hp h' ∧ ∀ R : PO, callD (d + 100) 209 [mR 54, mI x, mI w] hp R ↔ R (some (mI (mmA n G c ks es x w))) h' := by
  have hX0 := hX
  obtain ⟨⟨u1, u2, u3⟩, kN, kZ, kM, kGm, l5, l6, qk, q0, q1, q2, q3, q4, q5, q6, q7, q8, q9⟩ := hX
  obtain ⟨fr_, to_, co_, op_, wr_, ki_, nu_, mm_, pa_, hF⟩ := YO_F q0
  have hA : MA hp n := ⟨⟨⟨u2, u3⟩, hF 0, hF 18, hF 19, q1.1.1, q1.1.2⟩, ⟨hF 13, hF 14, hF 15, hF 16, hF 17⟩, q1.2⟩
  have hK := hA.1
  have cK := cM hK
  have hG : gF hp 54 11 3 = some (mL G) := hF 3
  have hc6 := hmk.2.2.1
  have g2 : gF hp 54 11 2 = some (mI (c : Int)) := hF 2
  have g4 : gF hp 54 11 4 = some (mR 55) := hF 4
  have g5 : gF hp 54 11 5 = some (mR 56) := hF 5
  obtain ⟨⟨y1, y2⟩, y3, y4⟩ := q2
  cases ex : mkO c x with
  | none =>
    have e1 : mmG n G c ks es x w = G := by unfold mmG; rw [ex]
    have e2 : mmA n G c ks es x w = -1 := by unfold mmA; rw [ex]
    rw [e1, e2]
    refine ⟨hp, hX0, Fr_refl hp, fun R => ?_⟩
    rw [callD_k]; simp only [entL_i, entL_l, entL_q, entL_s, entL_nil, n_X11_make, u_X11_make, m_X11_make, rep_0, List.cons_append, List.nil_append, List.append_nil, List.length_cons, List.length_nil, Nat.reduceAdd, true_and]
    simp only [AW_k, AWk_1, x_aload_0, x_aloads_0, x_iload_1, x_callv_2, x_if_eq, x_iload_2, x_i2l, x_push_i, x_push_l, x_call_3, x_getf, x_iald, x_ialds, x_callv_3, x_goto, x_ret, x_ret_i, x_ret_z, x_ret_l, x_ret_c, k_X11_make_0, k_X11_make_1, k_X11_make_2, k_X11_make_3, k_X11_make_4, k_X11_make_5, k_X11_make_6, k_X11_make_7, k_X11_make_8, k_X11_make_9, k_X11_make_10, k_X11_make_11, k_X11_make_12, k_X11_make_13, k_X11_make_14, k_X11_make_15, k_X11_make_16, k_X11_make_17, k_X11_make_18, k_X11_make_19, k_X11_make_20, k_X11_make_21, k_X11_make_22, k_X11_make_23, k_X11_make_24, k_X11_make_25, oE_some, Int.reduceToNat, Nat.reduceAdd, true_and, and_true, List.length_cons, List.length_nil, Option.toList_some, Option.toList_none, List.cons_append, List.nil_append, Nat.reduceLeDiff, Nat.le_refl, wdS_nil, wdS_i, wdS_l, wdS_r, wdS_n, wdS_s, cK, mMk_n (d + 97) g2 hc6 hx ex, w00, ↓reduceIte]
  | some i =>
    obtain ⟨hi, ei⟩ := mkO_lt ex
    have i6 : i < 6 := by omega
    have bi : i < 2147483648 := by omega
    have hs := mMk_s (d + 97) g2 hc6 hx ex
    obtain ⟨kk, mm, m1, m2, m3, m4⟩ := hmk.2.2.2 i hi
    have ek : tkS n ks es i = stB (tk n kk mm) (NA n) := by unfold tkS; rw [m1, m3]; rfl
    have ii : inB (i : Int) 6 := inB_n i6 (by decide)
    have mt := fun R => m_takenBy (d + 94) hA m2 m4 R
    by_cases hin : 0 ≤ w ∧ w ≤ 2
    · have e1 : mmG n G c ks es x w = coG n G (tkS n ks es i) w := by unfold mmG; rw [ex]; show (if _ then _ else _) = _; rw [if_pos hin]
      have e2 : mmA n G c ks es x w = popI (coG n G (tkS n ks es i) w) := by unfold mmA; rw [ex, ← e1]; show (if _ then _ else _) = _; rw [if_pos hin]
      rw [e1, e2, ek]
      have ci : inI w 0 2 = true := decide_eq_true hin
      obtain ⟨h', v1, v2, v3⟩ := x_comes_m (d + 9) (t := stB (tk n kk mm) (NA n)) (w := w) hX0 hw (okS_stB _ (Nat.le_refl _))
      refine ⟨h', v1, v2, fun R => ?_⟩
      subst ei
      rw [callD_k]; simp only [entL_i, entL_l, entL_q, entL_s, entL_nil, n_X11_make, u_X11_make, m_X11_make, rep_0, List.cons_append, List.nil_append, List.append_nil, List.length_cons, List.length_nil, Nat.reduceAdd, true_and]
      simp only [AW_k, AWk_1, x_aload_0, x_aloads_0, x_iload_1, x_callv_2, x_if_eq, x_iload_2, x_i2l, x_push_i, x_push_l, x_call_3, x_getf, x_iald, x_ialds, x_callv_3, x_goto, x_ret, x_ret_i, x_ret_z, x_ret_l, x_ret_c, k_X11_make_0, k_X11_make_1, k_X11_make_2, k_X11_make_3, k_X11_make_4, k_X11_make_5, k_X11_make_6, k_X11_make_7, k_X11_make_8, k_X11_make_9, k_X11_make_10, k_X11_make_11, k_X11_make_12, k_X11_make_13, k_X11_make_14, k_X11_make_15, k_X11_make_16, k_X11_make_17, k_X11_make_18, k_X11_make_19, k_X11_make_20, k_X11_make_21, k_X11_make_22, k_X11_make_23, k_X11_make_24, k_X11_make_25, oE_some, Int.reduceToNat, Nat.reduceAdd, true_and, and_true, List.length_cons, List.length_nil, Option.toList_some, Option.toList_none, List.cons_append, List.nil_append, Nat.reduceLeDiff, Nat.le_refl, wdS_nil, wdS_i, wdS_l, wdS_r, wdS_n, wdS_s, cK, hs, w10, m_in (d + 98), tI_id hw, q0_I, q2_I, ci, zI_t, g4, g5, y1, y2, y3, y4, ii, w32_tn bi, m1, m3, mt, v3, ↓reduceIte]
    · have e1 : mmG n G c ks es x w = G := by unfold mmG; rw [ex]; show (if _ then _ else _) = _; rw [if_neg hin]
      have e2 : mmA n G c ks es x w = -1 := by unfold mmA; rw [ex]; show (if _ then _ else _) = _; rw [if_neg hin]
      have ci : inI w 0 2 = false := decide_eq_false hin
      rw [e1, e2]
      refine ⟨hp, hX0, Fr_refl hp, fun R => ?_⟩
      rw [callD_k]; simp only [entL_i, entL_l, entL_q, entL_s, entL_nil, n_X11_make, u_X11_make, m_X11_make, rep_0, List.cons_append, List.nil_append, List.append_nil, List.length_cons, List.length_nil, Nat.reduceAdd, true_and]
      simp only [AW_k, AWk_1, x_aload_0, x_aloads_0, x_iload_1, x_callv_2, x_if_eq, x_iload_2, x_i2l, x_push_i, x_push_l, x_call_3, x_getf, x_iald, x_ialds, x_callv_3, x_goto, x_ret, x_ret_i, x_ret_z, x_ret_l, x_ret_c, k_X11_make_0, k_X11_make_1, k_X11_make_2, k_X11_make_3, k_X11_make_4, k_X11_make_5, k_X11_make_6, k_X11_make_7, k_X11_make_8, k_X11_make_9, k_X11_make_10, k_X11_make_11, k_X11_make_12, k_X11_make_13, k_X11_make_14, k_X11_make_15, k_X11_make_16, k_X11_make_17, k_X11_make_18, k_X11_make_19, k_X11_make_20, k_X11_make_21, k_X11_make_22, k_X11_make_23, k_X11_make_24, k_X11_make_25, oE_some, Int.reduceToNat, Nat.reduceAdd, true_and, and_true, List.length_cons, List.length_nil, Option.toList_some, Option.toList_none, List.cons_append, List.nil_append, Nat.reduceLeDiff, Nat.le_refl, wdS_nil, wdS_i, wdS_l, wdS_r, wdS_n, wdS_s, cK, hs, w10, m_in (d + 98), tI_id hw, q0_I, q2_I, ci, zI_f, w00, ↓reduceIte]
