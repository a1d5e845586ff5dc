/-! ===== the reference's trace ===== -/
set_option maxHeartbeats 16000000 in
theorem x_trace_m (d : Nat) {hp : HP} {n : Nat} {G : BitVec 64} {z : Int} {c : Nat} {ks : List Int} {es : List Int} {ik : Bool} {kn : Nat} {kG : BitVec 64} {kz : Int} {kc : Nat} {kks : List Int} {kes : List Int} {tc : Nat} {tb : List Int} {sc : Nat} {tl : List Int} {so : List Int} {le : List Int} {it : Nat → List (BitVec 64)} {he : List Int} {th : List Int} {sl : List Int} {tr : Nat} {bo : List Int} {x : Int} (hX : MI (hp) n G z c ks es ik kn kG kz kc kks kes tc tb sc tl so le it he th sl tr bo) (hT : tr ≤ 30) (hx : w32 x = x) (R : PO) : callD (d + 100) 284 [mR 54, mI x] hp R ↔ R (some (mI (trA tr bo x))) hp := by
  obtain ⟨⟨u1, u2, u3⟩, kN, kZ, kM, kGm, l5, l6, qk, q0, q1, q2, q3, q4, q5, q6, q7, q8, q9⟩ := hX
  obtain ⟨fr_, to_, co_, op_, wr_, ki_, nu_, mm_, pa_, hF⟩ := YO_F q0
  have hA : MA hp n := ⟨⟨⟨u2, u3⟩, hF 0, hF 18, hF 19, q1.1.1, q1.1.2⟩, ⟨hF 13, hF 14, hF 15, hF 16, hF 17⟩, q1.2⟩
  have hK := hA.1
  have cK := cM hK
  have hG : gF hp 54 11 3 = some (mL G) := hF 3
  have g44 : gF hp 54 11 44 = some (mR 82) := hF 44
  have g45 : gF hp 54 11 45 = some (mI (tr : Int)) := hF 45
  obtain ⟨a82, l30⟩ := q9
  have r3 : -2147483648 ≤ (tr : Int) - 1 := by omega
  have r4 : (tr : Int) - 1 < 2147483648 := by omega
  unfold trA
  by_cases c1 : 0 ≤ x ∧ x < (tr : Int)
  · have d1 : inI x 0 ((tr : Int) - 1) = true := decide_eq_true ⟨c1.1, by clear hx; omega⟩
    obtain ⟨j, ej⟩ : ∃ j : Nat, x = (j : Int) := ⟨x.toNat, by clear hx; omega⟩
    subst ej
    have hj : j < 30 := by clear hx; omega
    have bj : j < 2147483648 := by clear hx; omega
    have ib : inB (j : Int) bo.length := by rw [l30]; exact inB_n hj (by decide)
    rw [if_pos c1]
    rw [callD_k]; simp only [entL_i, entL_l, entL_q, entL_s, entL_nil, n_X11_trace, u_X11_trace, m_X11_trace, rep_0, List.cons_append, List.nil_append, List.append_nil, List.length_cons, List.length_nil, Nat.reduceAdd, true_and]
    simp only [AW_k, AWk_1, x_iload_1, x_i2l, x_push_i, x_push_l, x_aload_0, x_aloads_0, x_getf, x_isub, x_call_3, x_if_eq, k_X11_trace_0, k_X11_trace_1, k_X11_trace_2, k_X11_trace_3, k_X11_trace_4, k_X11_trace_5, k_X11_trace_6, k_X11_trace_7, k_X11_trace_8, k_X11_trace_9, oE_some, Int.reduceToNat, Nat.reduceAdd, true_and, and_true, List.length_cons, List.length_nil, Option.toList_some, Option.toList_none, List.cons_append, List.nil_append, Nat.reduceLeDiff, Nat.le_refl, wdS_nil, wdS_i, wdS_l, wdS_r, wdS_n, wdS_s, g45, m_in (d + 98), tI_id hx, tI_id (w32_id r3 r4), q0_I, d1, zI_t, w10, ↓reduceIte]
    simp only [AW_k, AWk_1, x_aload_0, x_aloads_0, x_getf, x_iload_1, x_iald, x_ialds, x_goto, x_push_i, x_push_l, x_ret, x_ret_i, x_ret_z, x_ret_l, x_ret_c, k_X11_trace_10, k_X11_trace_11, k_X11_trace_12, k_X11_trace_13, k_X11_trace_14, k_X11_trace_15, k_X11_trace_16, oE_some, Int.reduceToNat, Nat.reduceAdd, true_and, and_true, List.length_cons, List.length_nil, Option.toList_some, Option.toList_none, List.cons_append, List.nil_append, Nat.reduceLeDiff, Nat.le_refl, wdS_nil, wdS_i, wdS_l, wdS_r, wdS_n, wdS_s, g44, a82, ib, w32_nat bj, Int.toNat_natCast]
  · have d1 : inI x 0 ((tr : Int) - 1) = false := decide_eq_false (fun q => c1 ⟨q.1, by clear hx; omega⟩)
    rw [if_neg c1]
    rw [callD_k]; simp only [entL_i, entL_l, entL_q, entL_s, entL_nil, n_X11_trace, u_X11_trace, m_X11_trace, rep_0, List.cons_append, List.nil_append, List.append_nil, List.length_cons, List.length_nil, Nat.reduceAdd, true_and]
    simp only [AW_k, AWk_1, x_iload_1, x_i2l, x_push_i, x_push_l, x_aload_0, x_aloads_0, x_getf, x_isub, x_call_3, x_if_eq, x_iald, x_ialds, x_goto, x_ret, x_ret_i, x_ret_z, x_ret_l, x_ret_c, k_X11_trace_0, k_X11_trace_1, k_X11_trace_2, k_X11_trace_3, k_X11_trace_4, k_X11_trace_5, k_X11_trace_6, k_X11_trace_7, k_X11_trace_8, k_X11_trace_9, k_X11_trace_10, k_X11_trace_11, k_X11_trace_12, k_X11_trace_13, k_X11_trace_14, k_X11_trace_15, k_X11_trace_16, oE_some, Int.reduceToNat, Nat.reduceAdd, true_and, and_true, List.length_cons, List.length_nil, Option.toList_some, Option.toList_none, List.cons_append, List.nil_append, Nat.reduceLeDiff, Nat.le_refl, wdS_nil, wdS_i, wdS_l, wdS_r, wdS_n, wdS_s, g45, m_in (d + 98), tI_id hx, tI_id (w32_id r3 r4), q0_I, d1, zI_f, w00, ↓reduceIte]
