/-! ===== the reference's closed ===== -/
theorem cf_arm (A I F U : BitVec 64) : (A &&& ~~~ (I ||| U)) &&& ~~~ F = A &&& ~~~ ((I ||| F) ||| U) ∧ (A &&& ~~~ (I ||| U)) &&& ~~~ F = A &&& ~~~ (I ||| (U ||| F)) := by
  constructor <;>
  · apply BitVec.eq_of_getLsbD_eq
    intro j hj
    simp only [BitVec.getLsbD_and, BitVec.getLsbD_or, BitVec.getLsbD_not, hj, decide_true, Bool.true_and]
    cases A.getLsbD j <;> cases I.getLsbD j <;> cases F.getLsbD j <;> cases U.getLsbD j <;> rfl
set_option maxHeartbeats 16000000 in
theorem m_closedFrom {hp : HP} {n : Nat} (h : MA hp n) : ∀ (f k d : Nat) (I U : BitVec 64), k + f = NA n → (∀ j, j < k → (I ||| U).getLsbD j = true) → ∀ R : PO, callD (d + f + 4) 247 [mR 54, mI (k : Int), mL I, mL U] hp R ↔ R (some (mI (CFo n (aL n &&& ~~~ (I ||| U))))) hp := by
  have hM := h
  obtain ⟨hK, ⟨g13, g14, g15, g16, g17⟩, l1, l2, l3, l4, ⟨a1, a2, a3, a4⟩, ⟨n1, n2, n3, n4⟩, hv⟩ := h
  have h1 := hK.1.1
  have h6 := hK.1.2
  have fN := NA_le n
  have bN := NA_31 n
  have cK := cM hK
  intro f
  induction f with
  | zero =>
    intro k d I U hk hd R
    have ek : k = NA n := by omega
    subst ek
    have e : CFo n (aL n &&& ~~~ (I ||| U)) = 1 := by
      apply CF_none
      apply fst_none_of
      intro q _ hq
      rw [not_get (by omega), hd q (by omega)]
      cases (aL n).getLsbD q <;> rfl
    rw [e]
    rw [callD_k]; simp only [entL_i, entL_l, entL_q, entL_s, entL_nil, n_X11_closedFrom, u_X11_closedFrom, m_X11_closedFrom, rep_0, List.cons_append, List.nil_append, List.append_nil, List.length_cons, List.length_nil, Nat.reduceAdd, true_and]
    simp only [AW_k, AWk_1, x_iload_1, x_aload_0, x_aloads_0, x_getf, x_icmp_ne, x_push_i, x_push_l, x_ret, x_ret_i, x_ret_z, x_ret_l, x_ret_c, k_X11_closedFrom_0, k_X11_closedFrom_1, k_X11_closedFrom_2, k_X11_closedFrom_3, k_X11_closedFrom_4, k_X11_closedFrom_5, oE_some, Int.reduceToNat, Nat.reduceAdd, true_and, and_true, List.length_cons, List.length_nil, Option.toList_some, Option.toList_none, List.cons_append, List.nil_append, Nat.reduceLeDiff, Nat.le_refl, wdS_nil, wdS_i, wdS_l, wdS_r, wdS_n, wdS_s, g17, ↓reduceIte]
  | succ f ih =>
    intro k d I U hk hd R
    have hkN : k < NA n := by omega
    have k64 : k < 64 := by omega
    have bk : k < 2147483648 := by omega
    have ne : ((k : Int) = ((NA n : Nat) : Int)) = False := eq_false (by omega)
    have ek : (k : Int) + 1 = ((k + 1 : Nat) : Int) := by omega
    have ik : inB (k : Int) l4.length := by rw [n4]; exact inB_n (by omega) (by decide)
    have v4 := (hv k hkN).2.2.2
    rw [show d + (f + 1) + 4 = (d + f + 4) + 1 by omega]
    cases c : (I ||| U).getLsbD k with
    | true =>
      have i1 := fun R => ih (k + 1) d I U (by omega) (fun j hj => by
        by_cases e : j = k
        · rw [e]; exact c
        · exact hd j (by omega)) R
      rw [callD_k]; simp only [entL_i, entL_l, entL_q, entL_s, entL_nil, n_X11_closedFrom, u_X11_closedFrom, m_X11_closedFrom, rep_0, List.cons_append, List.nil_append, List.append_nil, List.length_cons, List.length_nil, Nat.reduceAdd, true_and]
      simp only [AW_k, AWk_1, x_iload_1, x_aload_0, x_aloads_0, x_getf, x_icmp_ne, x_push_i, x_push_l, x_ret, x_ret_i, x_ret_z, x_ret_l, x_ret_c, x_lload_2, x_lload_4, x_lor, x_call_2, x_if_eq, x_iadd, x_callv_4, k_X11_closedFrom_0, k_X11_closedFrom_1, k_X11_closedFrom_2, k_X11_closedFrom_3, k_X11_closedFrom_4, k_X11_closedFrom_5, k_X11_closedFrom_6, k_X11_closedFrom_7, k_X11_closedFrom_8, k_X11_closedFrom_9, k_X11_closedFrom_10, k_X11_closedFrom_11, k_X11_closedFrom_12, k_X11_closedFrom_13, k_X11_closedFrom_14, k_X11_closedFrom_15, k_X11_closedFrom_16, k_X11_closedFrom_17, k_X11_closedFrom_18, k_X11_closedFrom_19, oE_some, Int.reduceToNat, Nat.reduceAdd, true_and, and_true, List.length_cons, List.length_nil, Option.toList_some, Option.toList_none, List.cons_append, List.nil_append, Nat.reduceLeDiff, Nat.le_refl, wdS_nil, wdS_i, wdS_l, wdS_r, wdS_n, wdS_s, g17, w32_nat bk, w32_nat bN, ne, m_hasK (d + f + 3) k64, c, zI_t, w10, cK, ek, i1, ↓reduceIte]
    | false =>
      have o1 : (aL n &&& ~~~ (I ||| U)).getLsbD k = true := by
        rw [not_get k64, c, aL_bit k64, decide_eq_true hkN]
        rfl
      have fs := fr_self h1 h6 hkN
      have i1 := fun R => ih (k + 1) d (I ||| FO n k) U (by omega) (fun j hj => by
        rw [BitVec.getLsbD_or, BitVec.getLsbD_or]
        by_cases e : j = k
        · subst e; rw [FO_get h1 h6 hkN, fs]; simp
        · have := hd j (by omega)
          rw [BitVec.getLsbD_or] at this
          cases q : I.getLsbD j
          · rw [q] at this; rw [show U.getLsbD j = true by simpa using this]; simp
          · simp) R
      have i2 := fun R => ih (k + 1) d I (U ||| FG n k) (by omega) (fun j hj => by
        rw [BitVec.getLsbD_or, BitVec.getLsbD_or]
        by_cases e : j = k
        · subst e; rw [FG_get h1 h6 hkN hkN, fs]; simp
        · have := hd j (by omega)
          rw [BitVec.getLsbD_or] at this
          cases q : I.getLsbD j
          · rw [q] at this; rw [show U.getLsbD j = true by simpa using this]; simp
          · simp) R
      have ep : CFo n (aL n &&& ~~~ (I ||| U)) = CFo n (aL n &&& ~~~ (I ||| FO n k ||| U)) + CFo n (aL n &&& ~~~ (I ||| (U ||| FG n k))) := by
        rw [CF_pivot h1 h6 (okS_and (okS_aL n)) o1, (cf_arm (aL n) I (FO n k) U).1, (cf_arm (aL n) I (FG n k) U).2]
      rw [ep]
      rw [callD_k]; simp only [entL_i, entL_l, entL_q, entL_s, entL_nil, n_X11_closedFrom, u_X11_closedFrom, m_X11_closedFrom, rep_0, List.cons_append, List.nil_append, List.append_nil, List.length_cons, List.length_nil, Nat.reduceAdd, true_and]
      simp only [AW_k, AWk_1, x_iload_1, x_aload_0, x_aloads_0, x_getf, x_icmp_ne, x_push_i, x_push_l, x_ret, x_ret_i, x_ret_z, x_ret_l, x_ret_c, x_lload_2, x_lload_4, x_lor, x_call_2, x_if_eq, x_iadd, x_callv_4, x_lald, k_X11_closedFrom_0, k_X11_closedFrom_1, k_X11_closedFrom_2, k_X11_closedFrom_3, k_X11_closedFrom_4, k_X11_closedFrom_5, k_X11_closedFrom_6, k_X11_closedFrom_7, k_X11_closedFrom_8, k_X11_closedFrom_9, k_X11_closedFrom_10, k_X11_closedFrom_11, k_X11_closedFrom_12, k_X11_closedFrom_13, k_X11_closedFrom_14, k_X11_closedFrom_15, k_X11_closedFrom_16, k_X11_closedFrom_17, k_X11_closedFrom_18, k_X11_closedFrom_19, k_X11_closedFrom_20, k_X11_closedFrom_21, k_X11_closedFrom_22, k_X11_closedFrom_23, k_X11_closedFrom_24, k_X11_closedFrom_25, k_X11_closedFrom_26, k_X11_closedFrom_27, k_X11_closedFrom_28, k_X11_closedFrom_29, k_X11_closedFrom_30, k_X11_closedFrom_31, oE_some, Int.reduceToNat, Nat.reduceAdd, true_and, and_true, List.length_cons, List.length_nil, Option.toList_some, Option.toList_none, List.cons_append, List.nil_append, Nat.reduceLeDiff, Nat.le_refl, wdS_nil, wdS_i, wdS_l, wdS_r, wdS_n, wdS_s, g17, w32_nat bk, w32_nat bN, ne, m_hasK (d + f + 3) k64, c, zI_f, w00, cK, ek, g16, a4, ik, Int.toNat_natCast, v4, i1, ↓reduceIte]
      simp only [AW_k, AWk_1, x_aload_0, x_aloads_0, x_iload_1, x_push_i, x_push_l, x_iadd, x_lload_2, x_lload_4, x_callv_2, x_lor, x_callv_4, k_X11_closedFrom_32, k_X11_closedFrom_33, k_X11_closedFrom_34, k_X11_closedFrom_35, k_X11_closedFrom_36, k_X11_closedFrom_37, k_X11_closedFrom_38, k_X11_closedFrom_39, k_X11_closedFrom_40, k_X11_closedFrom_41, k_X11_closedFrom_42, oE_some, Int.reduceToNat, Nat.reduceAdd, true_and, and_true, List.length_cons, List.length_nil, Option.toList_some, Option.toList_none, List.cons_append, List.nil_append, Nat.reduceLeDiff, Nat.le_refl, wdS_nil, wdS_i, wdS_l, wdS_r, wdS_n, wdS_s, ek, cK, m_forcers (d + f + 2) hM hkN, i2, ↓reduceIte]
      simp only [AW_k, AWk_1, x_iadd, x_ret, x_ret_i, x_ret_z, x_ret_l, x_ret_c, k_X11_closedFrom_43, k_X11_closedFrom_44, oE_some, Int.reduceToNat, Nat.reduceAdd, true_and, and_true, List.length_cons, List.length_nil, Option.toList_some, Option.toList_none, List.cons_append, List.nil_append, Nat.reduceLeDiff, Nat.le_refl, wdS_nil, wdS_i, wdS_l, wdS_r, wdS_n, wdS_s]
set_option maxHeartbeats 16000000 in
theorem x_closed_m (d : Nat) {hp : HP} {n : Nat} {G : BitVec 64} {z : Int} {c : Nat} {ks : List Int} {es : List Int} {ik : Bool} {kn : Nat} {kG : BitVec 64} {kz : Int} {kc : Nat} {kks : List Int} {kes : List Int} {tc : Nat} {tb : List Int} {sc : Nat} {tl : List Int} {so : List Int} {le : List Int} {it : Nat → List (BitVec 64)} {he : List Int} {th : List Int} {sl : List Int} {tr : Nat} {bo : List Int} {w : Int} (hX : MI (hp) n G z c ks es ik kn kG kz kc kks kes tc tb sc tl so le it he th sl tr bo) (hw : w32 w = w) (R : PO) : callD (d + 100) 248 [mR 54, mI w] hp R ↔ R (some (mI (cdA n G w))) hp := by
  obtain ⟨⟨u1, u2, u3⟩, kN, kZ, kM, kGm, l5, l6, qk, q0, q1, q2, q3, q4, q5, q6, q7, q8, q9⟩ := hX
  obtain ⟨fr_, to_, co_, op_, wr_, ki_, nu_, mm_, pa_, hF⟩ := YO_F q0
  have hA : MA hp n := ⟨⟨⟨u2, u3⟩, hF 0, hF 18, hF 19, q1.1.1, q1.1.2⟩, ⟨hF 13, hF 14, hF 15, hF 16, hF 17⟩, q1.2⟩
  have hK := hA.1
  have cK := cM hK
  have hG : gF hp 54 11 3 = some (mL G) := hF 3
  have g0 : gF hp 54 11 0 = some (mI (n : Int)) := hF 0
  have bn : n < 2147483648 := by omega
  have i6 : w32 6 = 6 := rfl
  have fN := NA_le n
  unfold cdA
  by_cases c : 0 ≤ w ∧ w ≤ 1
  · have d1 : inI w 0 1 = true := decide_eq_true c
    rw [if_pos c]
    by_cases c5 : n ≤ 5
    · rw [if_pos c5]
      have n6 : ((n : Int) = 6) = False := eq_false (by omega)
      have e0 : (aL n &&& ~~~ ((0#64) ||| (0#64))) = aL n := by
        apply BitVec.eq_of_getLsbD_eq
        intro j hj
        rw [not_get hj, BitVec.getLsbD_or]
        simp
      have e1 : (aL n &&& ~~~ (G ||| (0#64))) = aL n &&& (G ^^^ 18446744073709551615#64) := by
        rw [xor_m1]
        simp
      have k0 : ∀ R : PO, callD (d + 99) 247 [mR 54, mI 0, mL 0#64, mL 0#64] hp R ↔ R (some (mI (CFo n (aL n)))) hp := fun R => by
        have := m_closedFrom hA (NA n) 0 (d + 95 - NA n) 0#64 0#64 (Nat.zero_add _) (fun j hj => absurd hj (Nat.not_lt_zero j)) R
        rw [e0, show d + 95 - NA n + NA n + 4 = d + 99 by omega] at this
        exact this
      have k1 : ∀ R : PO, callD (d + 99) 247 [mR 54, mI 0, mL G, mL 0#64] hp R ↔ R (some (mI (CFo n (aL n &&& (G ^^^ 18446744073709551615#64))))) hp := fun R => by
        have := m_closedFrom hA (NA n) 0 (d + 95 - NA n) G 0#64 (Nat.zero_add _) (fun j hj => absurd hj (Nat.not_lt_zero j)) R
        rw [e1, show d + 95 - NA n + NA n + 4 = d + 99 by omega] at this
        exact this
      rw [callD_k]; simp only [entL_i, entL_l, entL_q, entL_s, entL_nil, n_X11_closed, u_X11_closed, m_X11_closed, rep_0, List.cons_append, List.nil_append, List.append_nil, List.length_cons, List.length_nil, Nat.reduceAdd, true_and]
      by_cases c0 : w = 0
      · subst c0
        rw [if_pos rfl]
        simp only [AW_k, AWk_1, x_iload_1, x_i2l, x_push_i, x_push_l, x_call_3, x_if_ne, x_ret, x_ret_i, x_ret_z, x_ret_l, x_ret_c, k_X11_closed_0, k_X11_closed_1, k_X11_closed_2, k_X11_closed_3, k_X11_closed_4, k_X11_closed_5, k_X11_closed_6, k_X11_closed_7, oE_some, Int.reduceToNat, Nat.reduceAdd, true_and, and_true, List.length_cons, List.length_nil, Option.toList_some, Option.toList_none, List.cons_append, List.nil_append, Nat.reduceLeDiff, Nat.le_refl, wdS_nil, wdS_i, wdS_l, wdS_r, wdS_n, wdS_s, m_in (d + 98), tI_id hw, q0_I, one_long, d1, zI_t, w10, ↓reduceIte]
        simp only [AW_k, AWk_1, x_aload_0, x_aloads_0, x_getf, x_push_i, x_push_l, x_icmp_ne, x_goto, x_iload_1, x_if_ne, x_callv_4, x_ret, x_ret_i, x_ret_z, x_ret_l, x_ret_c, k_X11_closed_8, k_X11_closed_9, k_X11_closed_10, k_X11_closed_11, k_X11_closed_12, k_X11_closed_13, k_X11_closed_14, k_X11_closed_15, k_X11_closed_16, k_X11_closed_17, k_X11_closed_18, k_X11_closed_19, k_X11_closed_20, k_X11_closed_21, k_X11_closed_22, k_X11_closed_23, k_X11_closed_24, oE_some, Int.reduceToNat, Nat.reduceAdd, true_and, and_true, List.length_cons, List.length_nil, Option.toList_some, Option.toList_none, List.cons_append, List.nil_append, Nat.reduceLeDiff, Nat.le_refl, wdS_nil, wdS_i, wdS_l, wdS_r, wdS_n, wdS_s, g0, w32_nat bn, i6, n6, cK, w00, k0, ↓reduceIte]
      · rw [if_neg c0]
        simp only [AW_k, AWk_1, x_iload_1, x_i2l, x_push_i, x_push_l, x_call_3, x_if_ne, x_ret, x_ret_i, x_ret_z, x_ret_l, x_ret_c, k_X11_closed_0, k_X11_closed_1, k_X11_closed_2, k_X11_closed_3, k_X11_closed_4, k_X11_closed_5, k_X11_closed_6, k_X11_closed_7, oE_some, Int.reduceToNat, Nat.reduceAdd, true_and, and_true, List.length_cons, List.length_nil, Option.toList_some, Option.toList_none, List.cons_append, List.nil_append, Nat.reduceLeDiff, Nat.le_refl, wdS_nil, wdS_i, wdS_l, wdS_r, wdS_n, wdS_s, m_in (d + 98), tI_id hw, q0_I, one_long, d1, zI_t, w10, ↓reduceIte]
        simp only [AW_k, AWk_1, x_aload_0, x_aloads_0, x_getf, x_push_i, x_push_l, x_icmp_ne, x_goto, x_iload_1, x_if_ne, x_callv_4, x_ret, x_ret_i, x_ret_z, x_ret_l, x_ret_c, k_X11_closed_8, k_X11_closed_9, k_X11_closed_10, k_X11_closed_11, k_X11_closed_12, k_X11_closed_13, k_X11_closed_14, k_X11_closed_15, k_X11_closed_16, k_X11_closed_17, k_X11_closed_18, k_X11_closed_19, k_X11_closed_20, k_X11_closed_21, k_X11_closed_22, k_X11_closed_23, k_X11_closed_24, oE_some, Int.reduceToNat, Nat.reduceAdd, true_and, and_true, List.length_cons, List.length_nil, Option.toList_some, Option.toList_none, List.cons_append, List.nil_append, Nat.reduceLeDiff, Nat.le_refl, wdS_nil, wdS_i, wdS_l, wdS_r, wdS_n, wdS_s, g0, w32_nat bn, i6, n6, cK, hw, c0, hG, k1, ↓reduceIte]
    · rw [if_neg c5]
      have n6 : ((n : Int) = 6) = True := eq_true (by omega)
      rw [callD_k]; simp only [entL_i, entL_l, entL_q, entL_s, entL_nil, n_X11_closed, u_X11_closed, m_X11_closed, rep_0, List.cons_append, List.nil_append, List.append_nil, List.length_cons, List.length_nil, Nat.reduceAdd, true_and]
      simp only [AW_k, AWk_1, x_iload_1, x_i2l, x_push_i, x_push_l, x_call_3, x_if_ne, x_ret, x_ret_i, x_ret_z, x_ret_l, x_ret_c, k_X11_closed_0, k_X11_closed_1, k_X11_closed_2, k_X11_closed_3, k_X11_closed_4, k_X11_closed_5, k_X11_closed_6, k_X11_closed_7, oE_some, Int.reduceToNat, Nat.reduceAdd, true_and, and_true, List.length_cons, List.length_nil, Option.toList_some, Option.toList_none, List.cons_append, List.nil_append, Nat.reduceLeDiff, Nat.le_refl, wdS_nil, wdS_i, wdS_l, wdS_r, wdS_n, wdS_s, m_in (d + 98), tI_id hw, q0_I, one_long, d1, zI_t, w10, ↓reduceIte]
      simp only [AW_k, AWk_1, x_aload_0, x_aloads_0, x_getf, x_push_i, x_push_l, x_icmp_ne, x_goto, x_iload_1, x_if_ne, x_callv_4, x_ret, x_ret_i, x_ret_z, x_ret_l, x_ret_c, k_X11_closed_8, k_X11_closed_9, k_X11_closed_10, k_X11_closed_11, k_X11_closed_12, k_X11_closed_13, k_X11_closed_14, k_X11_closed_15, k_X11_closed_16, k_X11_closed_17, k_X11_closed_18, k_X11_closed_19, k_X11_closed_20, k_X11_closed_21, k_X11_closed_22, k_X11_closed_23, k_X11_closed_24, oE_some, Int.reduceToNat, Nat.reduceAdd, true_and, and_true, List.length_cons, List.length_nil, Option.toList_some, Option.toList_none, List.cons_append, List.nil_append, Nat.reduceLeDiff, Nat.le_refl, wdS_nil, wdS_i, wdS_l, wdS_r, wdS_n, wdS_s, g0, w32_nat bn, i6, n6, ↓reduceIte]
  · have d1 : inI w 0 1 = false := decide_eq_false c
    rw [if_neg c]
    rw [callD_k]; simp only [entL_i, entL_l, entL_q, entL_s, entL_nil, n_X11_closed, u_X11_closed, m_X11_closed, rep_0, List.cons_append, List.nil_append, List.append_nil, List.length_cons, List.length_nil, Nat.reduceAdd, true_and]
    simp only [AW_k, AWk_1, x_iload_1, x_i2l, x_push_i, x_push_l, x_call_3, x_if_ne, x_ret, x_ret_i, x_ret_z, x_ret_l, x_ret_c, k_X11_closed_0, k_X11_closed_1, k_X11_closed_2, k_X11_closed_3, k_X11_closed_4, k_X11_closed_5, k_X11_closed_6, k_X11_closed_7, oE_some, Int.reduceToNat, Nat.reduceAdd, true_and, and_true, List.length_cons, List.length_nil, Option.toList_some, Option.toList_none, List.cons_append, List.nil_append, Nat.reduceLeDiff, Nat.le_refl, wdS_nil, wdS_i, wdS_l, wdS_r, wdS_n, wdS_s, m_in (d + 98), tI_id hw, q0_I, one_long, d1, zI_f, w00, ↓reduceIte]
