/-! ===== the class's own methods: size, again ===== -/
theorem x10_size_in (d : Nat) {hp : HP} {n : Nat} {G : BitVec 64} {z : Int} {c : Nat} {ks : List Int} {es : List Int} {ik : Bool} {kn : Nat} {kG : BitVec 64} {kz : Int} {kc : Nat} {kks : List Int} {kes : List Int} {tc : Nat} {tb : List Int} {sc : Nat} {tl : List Int} {so : List Int} {le : List Int} {it : Nat → List (BitVec 64)} {he : List Int} {th : List Int} {sl : List Int} {tr : Nat} {bo : List Int} {v : Int} (hX : XI hp n G z c ks es ik kn kG kz kc kks kes tc tb sc tl so le it he th sl tr bo) (hv : w32 v = v) (hin : 1 ≤ v ∧ v ≤ 6) (hlen : 83 ≤ hp.length) : ∃ h', XI h' (v.toNat) (if v = (n : Int) then G else 0#64) z c ks es ik kn kG kz kc kks kes tc tb sc tl so le it he th sl tr bo ∧ Kx hp h' ∧ ∀ R : PO, callD (d + 100) 100 [mR 0, mI v] hp R ↔ R (some (mI (n : Int))) h' := by
  have hX0 := hX
  obtain ⟨ra, ts, q0, q1, q2, q3, q4, q5, q6, q7, q8, q9, q10, q11, qk⟩ := hX
  have hR := q1.1
  have h1 := rw_1 hR
  have h6 := rw_6 hR
  have f1 := FC_le n
  have cR := rC0 hR
  have cA := rC1 hR
  have o0 : gF hp 0 10 0 = some (mR 1) := XO_F q0 0
  have o1 : gF hp 0 10 1 = some (mR ra) := XO_F q0 1
  have o2 : gF hp 0 10 2 = some (mL G) := XO_F q0 2
  have o3 : gF hp 0 10 3 = some (mI z) := XO_F q0 3
  have o4 : gF hp 0 10 4 = some (mR 2) := XO_F q0 4
  have o5 : gF hp 0 10 5 = some (mR 5) := XO_F q0 5
  have o6 : gF hp 0 10 6 = some (mR 10) := XO_F q0 6
  have o7 : gF hp 0 10 7 = some (mR 14) := XO_F q0 7
  have o8 : gF hp 0 10 8 = some (mR 17) := XO_F q0 8
  have o9 : gF hp 0 10 9 = some (mR 19) := XO_F q0 9
  have o10 : gF hp 0 10 10 = some (mR 27) := XO_F q0 10
  have o11 : gF hp 0 10 11 = some (mR 31) := XO_F q0 11
  have o12 : gF hp 0 10 12 = some (mR 33) := XO_F q0 12
  have o13 : gF hp 0 10 13 = some (mI (zI ik)) := XO_F q0 13
  have o14 : gF hp 0 10 14 = some (mI (kn : Int)) := XO_F q0 14
  have o15 : gF hp 0 10 15 = some (mL kG) := XO_F q0 15
  have o16 : gF hp 0 10 16 = some (mI kz) := XO_F q0 16
  have o17 : gF hp 0 10 17 = some (mR 34) := XO_F q0 17
  have cO := gC_of o0
  have i1 : w32 1 = 1 := rfl
  have i6 : w32 6 = 6 := rfl
  have bn : n < 2147483648 := by omega
  have n1 : (v < 1) = False := eq_false (by omega)
  have n2 : (6 < v) = False := eq_false (by omega)
  by_cases e : v = (n : Int)
  · rw [if_pos e]
    subst e
    rw [Int.toNat_natCast]
    refine ⟨hp, hX0, Kx_refl hp, fun R => ?_⟩
    rw [callD_k]; simp only [entL_i, entL_l, entL_q, entL_s, entL_nil, n_X10_size, u_X10_size, m_X10_size, rep_1, List.cons_append, List.nil_append, List.append_nil, List.length_cons, List.length_nil, Nat.reduceAdd, true_and]
    simp only [AW_k, AWk_1, x_iload_1, x_push_i, x_push_l, x_icmp_lt, x_icmp_le, x_ret, x_ret_i, x_ret_z, x_ret_l, x_ret_c, x_aload_0, x_aloads_0, x_getf, x_istore_2, x_iload_2, x_icmp_eq, x_callvB_2, x_putf_l, unl_i, unl_l, unl_q, unl_r, unl_s, unl_n, k_X10_size_0, k_X10_size_1, k_X10_size_2, k_X10_size_3, k_X10_size_4, k_X10_size_5, k_X10_size_6, k_X10_size_7, k_X10_size_8, k_X10_size_9, k_X10_size_10, k_X10_size_11, k_X10_size_12, k_X10_size_13, k_X10_size_14, k_X10_size_15, k_X10_size_16, k_X10_size_17, k_X10_size_18, k_X10_size_19, k_X10_size_20, k_X10_size_21, k_X10_size_22, oE_some, Int.reduceToNat, Nat.reduceAdd, true_and, and_true, List.length_cons, List.length_nil, Option.toList_some, Option.toList_none, List.cons_append, List.nil_append, Nat.reduceLeDiff, Nat.le_refl, wdS_nil, wdS_i, wdS_l, wdS_r, wdS_n, wdS_s, hv, i1, i6, n1, n2, o1, rw_n hR, ↓reduceIte]
  · rw [if_neg e]
    obtain ⟨V, eV⟩ : ∃ V : Nat, v = (V : Int) := ⟨v.toNat, by omega⟩
    subst eV
    have v1 : 1 ≤ V := by omega
    have v6 : V ≤ 6 := by omega
    rw [Int.toNat_natCast]
    obtain ⟨h1', u1, u2, u3⟩ := x10_resize (d + 89) hX0 v1 v6 hlen
    have u1' := u1
    obtain ⟨ra', ts', w0, -⟩ := u1
    have g2 : gF h1' 0 10 2 = some (mL G) := XO_F w0 2
    refine ⟨pF h1' 0 10 2 (mL 0#64), XI_oG u1', Kx_trans u2 Kx_pF, fun R => ?_⟩
    rw [callD_k]; simp only [entL_i, entL_l, entL_q, entL_s, entL_nil, n_X10_size, u_X10_size, m_X10_size, rep_1, List.cons_append, List.nil_append, List.append_nil, List.length_cons, List.length_nil, Nat.reduceAdd, true_and]
    simp only [AW_k, AWk_1, x_iload_1, x_push_i, x_push_l, x_icmp_lt, x_icmp_le, x_ret, x_ret_i, x_ret_z, x_ret_l, x_ret_c, x_aload_0, x_aloads_0, x_getf, x_istore_2, x_iload_2, x_icmp_eq, x_callvB_2, x_putf_l, unl_i, unl_l, unl_q, unl_r, unl_s, unl_n, k_X10_size_0, k_X10_size_1, k_X10_size_2, k_X10_size_3, k_X10_size_4, k_X10_size_5, k_X10_size_6, k_X10_size_7, k_X10_size_8, k_X10_size_9, k_X10_size_10, k_X10_size_11, k_X10_size_12, k_X10_size_13, k_X10_size_14, k_X10_size_15, k_X10_size_16, k_X10_size_17, k_X10_size_18, k_X10_size_19, k_X10_size_20, k_X10_size_21, k_X10_size_22, oE_some, Int.reduceToNat, Nat.reduceAdd, true_and, and_true, List.length_cons, List.length_nil, Option.toList_some, Option.toList_none, List.cons_append, List.nil_append, Nat.reduceLeDiff, Nat.le_refl, wdS_nil, wdS_i, wdS_l, wdS_r, wdS_n, wdS_s, hv, i1, i6, n1, n2, o1, rw_n hR, w32_nat bn, e, cO, u3, g2, ↓reduceIte]
theorem x10_size_out (d : Nat) {hp : HP} {n : Nat} {G : BitVec 64} {z : Int} {c : Nat} {ks : List Int} {es : List Int} {ik : Bool} {kn : Nat} {kG : BitVec 64} {kz : Int} {kc : Nat} {kks : List Int} {kes : List Int} {tc : Nat} {tb : List Int} {sc : Nat} {tl : List Int} {so : List Int} {le : List Int} {it : Nat → List (BitVec 64)} {he : List Int} {th : List Int} {sl : List Int} {tr : Nat} {bo : List Int} {v : Int} (hX : XI hp n G z c ks es ik kn kG kz kc kks kes tc tb sc tl so le it he th sl tr bo) (hv : w32 v = v) (hin : ¬ (1 ≤ v ∧ v ≤ 6)) (R : PO) : callD (d + 100) 100 [mR 0, mI v] hp R ↔ R (some (mI (-1))) hp := by
  have i1 : w32 1 = 1 := rfl
  have i6 : w32 6 = 6 := rfl
  rw [callD_k]; simp only [entL_i, entL_l, entL_q, entL_s, entL_nil, n_X10_size, u_X10_size, m_X10_size, rep_1, List.cons_append, List.nil_append, List.append_nil, List.length_cons, List.length_nil, Nat.reduceAdd, true_and]
  by_cases c : v < 1
  · simp only [AW_k, AWk_1, x_iload_1, x_push_i, x_push_l, x_icmp_lt, x_icmp_le, x_ret, x_ret_i, x_ret_z, x_ret_l, x_ret_c, x_aload_0, x_aloads_0, x_getf, x_istore_2, x_iload_2, x_icmp_eq, x_callvB_2, x_putf_l, unl_i, unl_l, unl_q, unl_r, unl_s, unl_n, k_X10_size_0, k_X10_size_1, k_X10_size_2, k_X10_size_3, k_X10_size_4, k_X10_size_5, k_X10_size_6, k_X10_size_7, k_X10_size_8, k_X10_size_9, k_X10_size_10, k_X10_size_11, k_X10_size_12, k_X10_size_13, k_X10_size_14, k_X10_size_15, k_X10_size_16, k_X10_size_17, k_X10_size_18, k_X10_size_19, k_X10_size_20, k_X10_size_21, k_X10_size_22, oE_some, Int.reduceToNat, Nat.reduceAdd, true_and, and_true, List.length_cons, List.length_nil, Option.toList_some, Option.toList_none, List.cons_append, List.nil_append, Nat.reduceLeDiff, Nat.le_refl, wdS_nil, wdS_i, wdS_l, wdS_r, wdS_n, wdS_s, hv, i1, i6, c, ↓reduceIte]
  · have c2 : 6 < v := by omega
    simp only [AW_k, AWk_1, x_iload_1, x_push_i, x_push_l, x_icmp_lt, x_icmp_le, x_ret, x_ret_i, x_ret_z, x_ret_l, x_ret_c, x_aload_0, x_aloads_0, x_getf, x_istore_2, x_iload_2, x_icmp_eq, x_callvB_2, x_putf_l, unl_i, unl_l, unl_q, unl_r, unl_s, unl_n, k_X10_size_0, k_X10_size_1, k_X10_size_2, k_X10_size_3, k_X10_size_4, k_X10_size_5, k_X10_size_6, k_X10_size_7, k_X10_size_8, k_X10_size_9, k_X10_size_10, k_X10_size_11, k_X10_size_12, k_X10_size_13, k_X10_size_14, k_X10_size_15, k_X10_size_16, k_X10_size_17, k_X10_size_18, k_X10_size_19, k_X10_size_20, k_X10_size_21, k_X10_size_22, oE_some, Int.reduceToNat, Nat.reduceAdd, true_and, and_true, List.length_cons, List.length_nil, Option.toList_some, Option.toList_none, List.cons_append, List.nil_append, Nat.reduceLeDiff, Nat.le_refl, wdS_nil, wdS_i, wdS_l, wdS_r, wdS_n, wdS_s, hv, i1, i6, c, c2, ↓reduceIte]
theorem x10_again_n (d : Nat) {hp : HP} {n : Nat} {G : BitVec 64} {z : Int} {c : Nat} {ks : List Int} {es : List Int} {ik : Bool} {kn : Nat} {kG : BitVec 64} {kz : Int} {kc : Nat} {kks : List Int} {kes : List Int} {tc : Nat} {tb : List Int} {sc : Nat} {tl : List Int} {so : List Int} {le : List Int} {it : Nat → List (BitVec 64)} {he : List Int} {th : List Int} {sl : List Int} {tr : Nat} {bo : List Int} (hX : XI hp n G z c ks es ik kn kG kz kc kks kes tc tb sc tl so le it he th sl tr bo) (hk : ik = false) (R : PO) : callD (d + 100) 156 [mR 0] hp R ↔ R (some (mI (-3))) hp := by
  obtain ⟨ra, ts, q0, q1, q2, q3, q4, q5, q6, q7, q8, q9, q10, q11, qk⟩ := hX
  have hR := q1.1
  have h1 := rw_1 hR
  have h6 := rw_6 hR
  have f1 := FC_le n
  have cR := rC0 hR
  have cA := rC1 hR
  have o0 : gF hp 0 10 0 = some (mR 1) := XO_F q0 0
  have o1 : gF hp 0 10 1 = some (mR ra) := XO_F q0 1
  have o2 : gF hp 0 10 2 = some (mL G) := XO_F q0 2
  have o3 : gF hp 0 10 3 = some (mI z) := XO_F q0 3
  have o4 : gF hp 0 10 4 = some (mR 2) := XO_F q0 4
  have o5 : gF hp 0 10 5 = some (mR 5) := XO_F q0 5
  have o6 : gF hp 0 10 6 = some (mR 10) := XO_F q0 6
  have o7 : gF hp 0 10 7 = some (mR 14) := XO_F q0 7
  have o8 : gF hp 0 10 8 = some (mR 17) := XO_F q0 8
  have o9 : gF hp 0 10 9 = some (mR 19) := XO_F q0 9
  have o10 : gF hp 0 10 10 = some (mR 27) := XO_F q0 10
  have o11 : gF hp 0 10 11 = some (mR 31) := XO_F q0 11
  have o12 : gF hp 0 10 12 = some (mR 33) := XO_F q0 12
  have o13 : gF hp 0 10 13 = some (mI (zI ik)) := XO_F q0 13
  have o14 : gF hp 0 10 14 = some (mI (kn : Int)) := XO_F q0 14
  have o15 : gF hp 0 10 15 = some (mL kG) := XO_F q0 15
  have o16 : gF hp 0 10 16 = some (mI kz) := XO_F q0 16
  have o17 : gF hp 0 10 17 = some (mR 34) := XO_F q0 17
  have cO := gC_of o0
  subst hk
  rw [callD_k]; simp only [entL_i, entL_l, entL_q, entL_s, entL_nil, n_X10_again, u_X10_again, m_X10_again, rep_0, List.cons_append, List.nil_append, List.append_nil, List.length_cons, List.length_nil, Nat.reduceAdd, true_and]
  simp only [AW_k, AWk_1, x_aload_0, x_aloads_0, x_getf, x_if_ne, x_push_i, x_push_l, x_ret, x_ret_i, x_ret_z, x_ret_l, x_ret_c, x_callvB_2, x_putf_l, x_putf_i, x_callv_2, x_call_1, k_X10_again_0, k_X10_again_1, k_X10_again_2, k_X10_again_3, k_X10_again_4, k_X10_again_5, k_X10_again_6, k_X10_again_7, k_X10_again_8, k_X10_again_9, k_X10_again_10, k_X10_again_11, k_X10_again_12, k_X10_again_13, k_X10_again_14, k_X10_again_15, k_X10_again_16, k_X10_again_17, k_X10_again_18, k_X10_again_19, k_X10_again_20, k_X10_again_21, k_X10_again_22, k_X10_again_23, k_X10_again_24, k_X10_again_25, oE_some, Int.reduceToNat, Nat.reduceAdd, true_and, and_true, List.length_cons, List.length_nil, Option.toList_some, Option.toList_none, List.cons_append, List.nil_append, Nat.reduceLeDiff, Nat.le_refl, wdS_nil, wdS_i, wdS_l, wdS_r, wdS_n, wdS_s, o13, zI_f, w00, ↓reduceIte]
set_option maxHeartbeats 16000000 in
theorem x10_again (d : Nat) {hp : HP} {n : Nat} {G : BitVec 64} {z : Int} {c : Nat} {ks : List Int} {es : List Int} {ik : Bool} {kn : Nat} {kG : BitVec 64} {kz : Int} {kc : Nat} {kks : List Int} {kes : List Int} {tc : Nat} {tb : List Int} {sc : Nat} {tl : List Int} {so : List Int} {le : List Int} {it : Nat → List (BitVec 64)} {he : List Int} {th : List Int} {sl : List Int} {tr : Nat} {bo : List Int} (hX : XI hp n G z c ks es ik kn kG kz kc kks kes tc tb sc tl so le it he th sl tr bo) (hk : ik = true) (hlen : 83 ≤ hp.length) : ∃ h', XI h' kn kG kz kc kks kes ik kn kG kz kc kks kes tc tb sc tl so le it he th sl tr bo ∧ Kx hp h' ∧ ∀ R : PO, callD (d + 100) 156 [mR 0] hp R ↔ R (some (mI (popI kG))) h' := by
  have hX0 := hX
  obtain ⟨ra, ts, q0, q1, q2, q3, q4, q5, q6, q7, q8, q9, q10, q11, qk⟩ := hX
  have hR := q1.1
  have h1 := rw_1 hR
  have h6 := rw_6 hR
  have f1 := FC_le n
  have cR := rC0 hR
  have cA := rC1 hR
  have o0 : gF hp 0 10 0 = some (mR 1) := XO_F q0 0
  have o1 : gF hp 0 10 1 = some (mR ra) := XO_F q0 1
  have o2 : gF hp 0 10 2 = some (mL G) := XO_F q0 2
  have o3 : gF hp 0 10 3 = some (mI z) := XO_F q0 3
  have o4 : gF hp 0 10 4 = some (mR 2) := XO_F q0 4
  have o5 : gF hp 0 10 5 = some (mR 5) := XO_F q0 5
  have o6 : gF hp 0 10 6 = some (mR 10) := XO_F q0 6
  have o7 : gF hp 0 10 7 = some (mR 14) := XO_F q0 7
  have o8 : gF hp 0 10 8 = some (mR 17) := XO_F q0 8
  have o9 : gF hp 0 10 9 = some (mR 19) := XO_F q0 9
  have o10 : gF hp 0 10 10 = some (mR 27) := XO_F q0 10
  have o11 : gF hp 0 10 11 = some (mR 31) := XO_F q0 11
  have o12 : gF hp 0 10 12 = some (mR 33) := XO_F q0 12
  have o13 : gF hp 0 10 13 = some (mI (zI ik)) := XO_F q0 13
  have o14 : gF hp 0 10 14 = some (mI (kn : Int)) := XO_F q0 14
  have o15 : gF hp 0 10 15 = some (mL kG) := XO_F q0 15
  have o16 : gF hp 0 10 16 = some (mI kz) := XO_F q0 16
  have o17 : gF hp 0 10 17 = some (mR 34) := XO_F q0 17
  have cO := gC_of o0
  subst hk
  obtain ⟨h1', u1, u2, u3⟩ := x10_resize (d + 89) (v := kn) hX0 qk.1 qk.2 hlen
  have Y1 := u1
  obtain ⟨ra', ts', w0, -⟩ := u1
  have Y2 := XI_oG (G' := kG) Y1
  have Y3 := XI_oz (z' := kz) Y2
  have Y3' := Y3
  obtain ⟨ra2, ts2, x0, x1, x2, x3, x4, x5, x6, x7, x8, x9, x10', x11, xk⟩ := Y3
  obtain ⟨h', v1, v2, v3⟩ := XM_like (d + 98) x2 x11 (by omega)
  have Y4 := XI_M Y3' v2 v1
  have Y4' := Y4
  obtain ⟨ra3, ts3, y0, -⟩ := Y4
  refine ⟨h', Y4', Kx_trans u2 (Kx_trans (Kx_trans Kx_pF Kx_pF) (Kx_Fr v2 (by omega))), fun R => ?_⟩
  have a2 : gF h1' 0 10 2 = some (mL G) := XO_F w0 2
  have a15 : gF h1' 0 10 15 = some (mL kG) := XO_F w0 15
  have b16 : ∀ v, gF (pF h1' 0 10 2 v) 0 10 16 = some (mI kz) := fun v => by rw [gF_pF (by omega)]; exact XO_F w0 16
  have b3 : ∀ v, gF (pF h1' 0 10 2 v) 0 10 3 = some (mI z) := fun v => by rw [gF_pF (by omega)]; exact XO_F w0 3
  have c4 : gF (pF (pF h1' 0 10 2 (mL kG)) 0 10 3 (mI kz)) 0 10 4 = some (mR 2) := XO_F x0 4
  have c17 : gF (pF (pF h1' 0 10 2 (mL kG)) 0 10 3 (mI kz)) 0 10 17 = some (mR 34) := XO_F x0 17
  have c2 := gC_of x2.1.1.1
  have e2 : gF h' 0 10 2 = some (mL kG) := XO_F y0 2
  rw [callD_k]; simp only [entL_i, entL_l, entL_q, entL_s, entL_nil, n_X10_again, u_X10_again, m_X10_again, rep_0, List.cons_append, List.nil_append, List.append_nil, List.length_cons, List.length_nil, Nat.reduceAdd, true_and]
  simp only [AW_k, AWk_1, x_aload_0, x_aloads_0, x_getf, x_if_ne, x_push_i, x_push_l, x_ret, x_ret_i, x_ret_z, x_ret_l, x_ret_c, x_callvB_2, x_putf_l, x_putf_i, x_callv_2, x_call_1, k_X10_again_0, k_X10_again_1, k_X10_again_2, k_X10_again_3, k_X10_again_4, k_X10_again_5, k_X10_again_6, k_X10_again_7, k_X10_again_8, k_X10_again_9, k_X10_again_10, k_X10_again_11, k_X10_again_12, k_X10_again_13, k_X10_again_14, k_X10_again_15, k_X10_again_16, k_X10_again_17, k_X10_again_18, k_X10_again_19, k_X10_again_20, k_X10_again_21, k_X10_again_22, k_X10_again_23, k_X10_again_24, k_X10_again_25, oE_some, Int.reduceToNat, Nat.reduceAdd, true_and, and_true, List.length_cons, List.length_nil, Option.toList_some, Option.toList_none, List.cons_append, List.nil_append, Nat.reduceLeDiff, Nat.le_refl, wdS_nil, wdS_i, wdS_l, wdS_r, wdS_n, wdS_s, o13, zI_t, w10, cO, o14, u3, a2, a15, b16, b3, c4, c17, c2, v3, e2, c_bits (d + 98), ↓reduceIte]
