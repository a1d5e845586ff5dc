/-! ===== the class's own methods: acts, what is kept ===== -/
/-- an act: its answer, and the trace -/
def acO (c : Nat) (ks es he th : List Int) (bo : List Int) (x a v : Int) : Int × Nat × List Int := match shO x with
  | some s => if 0 ≤ a ∧ a < 4 ∧ hoV c he th s = 1 then
      (acV (ks.getD (th.getD s 0).toNat 0).toNat (es.getD (th.getD s 0).toNat 0) (th.getD s 0) a.toNat v (0, bo, false), (acR (ks.getD (th.getD s 0).toNat 0).toNat (es.getD (th.getD s 0).toNat 0) (th.getD s 0) a.toNat v (0, bo, false)).2.1, (acR (ks.getD (th.getD s 0).toNat 0).toNat (es.getD (th.getD s 0).toNat 0) (th.getD s 0) a.toNat v (0, bo, false)).2.2.1) else (0, 0, bo)
  | none => (0, 0, bo)
set_option maxHeartbeats 32000000 in
theorem x10_act (d : Nat) {hp : HP} {n : Nat} {G : BitVec 64} {z : Int} {c : Nat} {ks : List Int} {es : List Int} {ik : Bool} {kn : Nat} {kG : BitVec 64} {kz : Int} {kc : Nat} {kks : List Int} {kes : List Int} {tc : Nat} {tb : List Int} {sc : Nat} {tl : List Int} {so : List Int} {le : List Int} {it : Nat → List (BitVec 64)} {he : List Int} {th : List Int} {sl : List Int} {tr : Nat} {bo : List Int} {x a v : Int} (hX : XI hp n G z c ks es ik kn kG kz kc kks kes tc tb sc tl so le it he th sl tr bo) (hx : w32 x = x) (ha : w32 a = a) : ∃ h', XI h' n G z c ks es ik kn kG kz kc kks kes tc tb sc tl so le it he th sl ((acO c ks es he th bo x a v).2.1) ((acO c ks es he th bo x a v).2.2) ∧ Kx hp h' ∧ ∀ R : PO, callD (d + 100) 152 [mR 0, mI x, mI a, mI v] hp R ↔ R (some (mI (acO c ks es he th bo x a v).1)) h' := by
  have hX0 := hX
  obtain ⟨ra, ts, q0, q1, q2, q3, q4, q5, q6, q7, q8, q9, q10, q11, qk⟩ := hX
  have hR := q1.1
  have h1 := rw_1 hR
  have h6 := rw_6 hR
  have f1 := FC_le n
  have cR := rC0 hR
  have cA := rC1 hR
  have o0 : gF hp 0 10 0 = some (mR 1) := XO_F q0 0
  have o1 : gF hp 0 10 1 = some (mR ra) := XO_F q0 1
  have o2 : gF hp 0 10 2 = some (mL G) := XO_F q0 2
  have o3 : gF hp 0 10 3 = some (mI z) := XO_F q0 3
  have o4 : gF hp 0 10 4 = some (mR 2) := XO_F q0 4
  have o5 : gF hp 0 10 5 = some (mR 5) := XO_F q0 5
  have o6 : gF hp 0 10 6 = some (mR 10) := XO_F q0 6
  have o7 : gF hp 0 10 7 = some (mR 14) := XO_F q0 7
  have o8 : gF hp 0 10 8 = some (mR 17) := XO_F q0 8
  have o9 : gF hp 0 10 9 = some (mR 19) := XO_F q0 9
  have o10 : gF hp 0 10 10 = some (mR 27) := XO_F q0 10
  have o11 : gF hp 0 10 11 = some (mR 31) := XO_F q0 11
  have o12 : gF hp 0 10 12 = some (mR 33) := XO_F q0 12
  have o13 : gF hp 0 10 13 = some (mI (zI ik)) := XO_F q0 13
  have o14 : gF hp 0 10 14 = some (mI (kn : Int)) := XO_F q0 14
  have o15 : gF hp 0 10 15 = some (mL kG) := XO_F q0 15
  have o16 : gF hp 0 10 16 = some (mI kz) := XO_F q0 16
  have o17 : gF hp 0 10 17 = some (mR 34) := XO_F q0 17
  have cO := gC_of o0
  have i1 : w32 1 = 1 := rfl
  have i4 : w32 4 = 4 := rfl
  obtain ⟨b, k0, m0, nu0, qa⟩ := q9
  have c31 := gC_of qa.1.1
  have c27 := gC_of q8.1.1.1
  have hc6 := q2.2.2.2.1
  obtain ⟨h1', u1, u2, u3⟩ := c0_forget (d + 98) qa
  have X1 : XI h1' n G z c ks es ik kn kG kz kc kks kes tc tb sc tl so le it he th sl 0 bo := XI_A hX0 u2 ⟨b, k0, m0, nu0, u1⟩
  have p10 : gF h1' 0 10 10 = some (mR 27) := by rw [gF_Fr u2 (by omega), o10]
  have p4 : gF h1' 0 10 4 = some (mR 2) := by rw [gF_Fr u2 (by omega), o4]
  have p11 : gF h1' 0 10 11 = some (mR 31) := by rw [gF_Fr u2 (by omega), o11]
  have pC := gC_of p10
  have c27' : gC h1' 27 = some 6 := by rw [gC_Fr u2 (by omega), c27]
  unfold acO
  cases ex : shO x with
  | none =>
    refine ⟨h1', X1, Kx_Fr u2 (by omega), fun R => ?_⟩
    rw [callD_k]; simp only [entL_i, entL_l, entL_q, entL_s, entL_nil, n_X10_act, u_X10_act, m_X10_act, rep_1, List.cons_append, List.nil_append, List.append_nil, List.length_cons, List.length_nil, Nat.reduceAdd, true_and]
    simp only [AW_k, AWk_1, x_aload_0, x_aloads_0, x_getf, x_callv_1, x_iload_1, x_callv_2, x_if_eq, x_iload_2, x_if_lt, x_push_i, x_push_l, x_icmp_ge, x_icmp_eq, x_ret, x_ret_i, x_ret_z, x_ret_l, x_ret_c, x_iald, x_ialds, x_istore_4, x_iload_4, x_iload_3, x_callv_6, unl_i, unl_l, unl_q, unl_r, unl_s, unl_n, k_X10_act_0, k_X10_act_1, k_X10_act_2, k_X10_act_3, k_X10_act_4, k_X10_act_5, k_X10_act_6, k_X10_act_7, k_X10_act_8, k_X10_act_9, k_X10_act_10, k_X10_act_11, k_X10_act_12, k_X10_act_13, k_X10_act_14, k_X10_act_15, k_X10_act_16, k_X10_act_17, k_X10_act_18, k_X10_act_19, k_X10_act_20, k_X10_act_21, k_X10_act_22, k_X10_act_23, k_X10_act_24, k_X10_act_25, k_X10_act_26, k_X10_act_27, k_X10_act_28, k_X10_act_29, k_X10_act_30, k_X10_act_31, k_X10_act_32, k_X10_act_33, k_X10_act_34, k_X10_act_35, k_X10_act_36, k_X10_act_37, k_X10_act_38, k_X10_act_39, k_X10_act_40, k_X10_act_41, k_X10_act_42, oE_some, Int.reduceToNat, Nat.reduceAdd, true_and, and_true, List.length_cons, List.length_nil, Option.toList_some, Option.toList_none, List.cons_append, List.nil_append, Nat.reduceLeDiff, Nat.le_refl, wdS_nil, wdS_i, wdS_l, wdS_r, wdS_n, wdS_s, o11, c31, u3, p10, c27', has6_n (d + 98) hx ex, w00, ↓reduceIte]
  | some s =>
    obtain ⟨hs, es'⟩ := shO_lt ex
    have hh := fun R => has6_s (d + 98) (hp := h1') (a := 27) hx ex R
    have hcall := fun R => x10_heldOn (d + 89) (s := s) X1 hs R
    have ho := hoV_in (c := c) q8.2 hs
    have bs : s < 2147483648 := by omega
    by_cases cc : 0 ≤ a ∧ a < 4 ∧ hoV c he th s = 1
    · simp only [if_pos cc]
      obtain ⟨c1, c2, c3⟩ := cc
      have n1 : (a < 0) = False := eq_false (by omega)
      have n2 : (a < 4) = True := eq_true c2
      obtain ⟨A, hA⟩ : ∃ A : Nat, a = (A : Int) := ⟨a.toNat, by omega⟩
      obtain ⟨i, hi⟩ := hoV_1 c3
      obtain ⟨i2, i3⟩ := mkO_lt hi
      obtain ⟨kk, mm, m1, m2, m3, m4⟩ := q2.2.2.2.2 i i2
      have bi : i < 2147483648 := by omega
      have hA4 : A < 4 := by omega
      have g1 : gF h1' 27 6 1 = some (mR 29) := by rw [gF_Fr u2 (by omega)]; exact q8.1.1.2.1
      have a1 : gA h1' 29 = some th := by rw [gA_Fr u2 (by omega)]; exact q8.1.2.2.1
      have it1 : inB (s : Int) th.length := by rw [q8.2.1.2.1]; exact inB_n hs (by decide)
      have gk : gF h1' 2 3 1 = some (mR 3) := by rw [gF_Fr u2 (by omega)]; exact q2.1.1.2.1
      have gm : gF h1' 2 3 2 = some (mR 4) := by rw [gF_Fr u2 (by omega)]; exact q2.1.1.2.2
      have ak : gA h1' 3 = some ks := by rw [gA_Fr u2 (by omega)]; exact q2.1.2.1
      have am : gA h1' 4 = some es := by rw [gA_Fr u2 (by omega)]; exact q2.1.2.2
      have ik : inB (i : Int) ks.length := by rw [q2.2.1]; exact inB_n (by omega) (by decide)
      have im : inB (i : Int) es.length := by rw [q2.2.2.1]; exact inB_n (by omega) (by decide)
      have c31' := gC_of u1.1.1
      subst hA
      subst es'
      obtain ⟨h', v1, v2, v3⟩ := c0_perform (d + 53) (k := kk) (c := A) (m := (mm : Int)) (nu := (i : Int)) (x := v) m2 hA4 u1
      have e1 : acR (ks.getD (th.getD s 0).toNat 0).toNat (es.getD (th.getD s 0).toNat 0) (th.getD s 0) (A : Int).toNat v (0, bo, false) = acR kk (mm : Int) (i : Int) A v (0, bo, b) := by
        rw [i3, Int.toNat_natCast, m1, m3, Int.toNat_natCast, Int.toNat_natCast]; rfl
      have e2 : acV (ks.getD (th.getD s 0).toNat 0).toNat (es.getD (th.getD s 0).toNat 0) (th.getD s 0) (A : Int).toNat v (0, bo, false) = acV kk (mm : Int) (i : Int) A v (0, bo, b) := by
        rw [i3, Int.toNat_natCast, m1, m3, Int.toNat_natCast, Int.toNat_natCast]; rfl
      rw [e1, e2]
      refine ⟨h', XI_A X1 v2 ⟨(acR kk (mm : Int) (i : Int) A v (0, bo, b)).2.2.2, (kk : Int), (mm : Int), (i : Int), v1⟩, Kx_trans (Kx_Fr u2 (by omega)) (Kx_Fr v2 (by omega)), fun R => ?_⟩
      rw [callD_k]; simp only [entL_i, entL_l, entL_q, entL_s, entL_nil, n_X10_act, u_X10_act, m_X10_act, rep_1, List.cons_append, List.nil_append, List.append_nil, List.length_cons, List.length_nil, Nat.reduceAdd, true_and]
      simp only [AW_k, AWk_1, x_aload_0, x_aloads_0, x_getf, x_callv_1, x_iload_1, x_callv_2, x_if_eq, x_iload_2, x_if_lt, x_push_i, x_push_l, x_icmp_ge, x_icmp_eq, x_ret, x_ret_i, x_ret_z, x_ret_l, x_ret_c, x_iald, x_ialds, x_istore_4, x_iload_4, x_iload_3, x_callv_6, unl_i, unl_l, unl_q, unl_r, unl_s, unl_n, k_X10_act_0, k_X10_act_1, k_X10_act_2, k_X10_act_3, k_X10_act_4, k_X10_act_5, k_X10_act_6, k_X10_act_7, k_X10_act_8, k_X10_act_9, k_X10_act_10, k_X10_act_11, k_X10_act_12, k_X10_act_13, k_X10_act_14, k_X10_act_15, k_X10_act_16, k_X10_act_17, k_X10_act_18, k_X10_act_19, k_X10_act_20, k_X10_act_21, k_X10_act_22, k_X10_act_23, k_X10_act_24, k_X10_act_25, k_X10_act_26, k_X10_act_27, k_X10_act_28, k_X10_act_29, k_X10_act_30, k_X10_act_31, k_X10_act_32, k_X10_act_33, k_X10_act_34, k_X10_act_35, k_X10_act_36, k_X10_act_37, k_X10_act_38, k_X10_act_39, k_X10_act_40, k_X10_act_41, k_X10_act_42, oE_some, Int.reduceToNat, Nat.reduceAdd, true_and, and_true, List.length_cons, List.length_nil, Option.toList_some, Option.toList_none, List.cons_append, List.nil_append, Nat.reduceLeDiff, Nat.le_refl, wdS_nil, wdS_i, wdS_l, wdS_r, wdS_n, wdS_s, o11, c31, u3, p10, c27', hh, w10, ha, n1, n2, i4, i1, pC, hcall, c3, g1, a1, it1, w32_tn bs, i3, p11, p4, gk, gm, ak, am, ik, im, w32_tn bi, m1, m3, c31', v3, Int.reduceEq, ↓reduceIte]
    · simp only [if_neg cc]
      refine ⟨h1', X1, Kx_Fr u2 (by omega), fun R => ?_⟩
      subst es'
      rw [callD_k]; simp only [entL_i, entL_l, entL_q, entL_s, entL_nil, n_X10_act, u_X10_act, m_X10_act, rep_1, List.cons_append, List.nil_append, List.append_nil, List.length_cons, List.length_nil, Nat.reduceAdd, true_and]
      by_cases c1 : a < 0
      · simp only [AW_k, AWk_1, x_aload_0, x_aloads_0, x_getf, x_callv_1, x_iload_1, x_callv_2, x_if_eq, x_iload_2, x_if_lt, x_push_i, x_push_l, x_icmp_ge, x_icmp_eq, x_ret, x_ret_i, x_ret_z, x_ret_l, x_ret_c, x_iald, x_ialds, x_istore_4, x_iload_4, x_iload_3, x_callv_6, unl_i, unl_l, unl_q, unl_r, unl_s, unl_n, k_X10_act_0, k_X10_act_1, k_X10_act_2, k_X10_act_3, k_X10_act_4, k_X10_act_5, k_X10_act_6, k_X10_act_7, k_X10_act_8, k_X10_act_9, k_X10_act_10, k_X10_act_11, k_X10_act_12, k_X10_act_13, k_X10_act_14, k_X10_act_15, k_X10_act_16, k_X10_act_17, k_X10_act_18, k_X10_act_19, k_X10_act_20, k_X10_act_21, k_X10_act_22, k_X10_act_23, k_X10_act_24, k_X10_act_25, k_X10_act_26, k_X10_act_27, k_X10_act_28, k_X10_act_29, k_X10_act_30, k_X10_act_31, k_X10_act_32, k_X10_act_33, k_X10_act_34, k_X10_act_35, k_X10_act_36, k_X10_act_37, k_X10_act_38, k_X10_act_39, k_X10_act_40, k_X10_act_41, k_X10_act_42, oE_some, Int.reduceToNat, Nat.reduceAdd, true_and, and_true, List.length_cons, List.length_nil, Option.toList_some, Option.toList_none, List.cons_append, List.nil_append, Nat.reduceLeDiff, Nat.le_refl, wdS_nil, wdS_i, wdS_l, wdS_r, wdS_n, wdS_s, o11, c31, u3, p10, c27', hh, w10, ha, c1, ↓reduceIte]
      · by_cases c2 : a < 4
        · have c3 : ¬ hoV c he th s = 1 := fun q => cc ⟨by omega, c2, q⟩
          have wv : w32 (hoV c he th s) = hoV c he th s := by rcases ho with e | e | e <;> rw [e] <;> rfl
          simp only [AW_k, AWk_1, x_aload_0, x_aloads_0, x_getf, x_callv_1, x_iload_1, x_callv_2, x_if_eq, x_iload_2, x_if_lt, x_push_i, x_push_l, x_icmp_ge, x_icmp_eq, x_ret, x_ret_i, x_ret_z, x_ret_l, x_ret_c, x_iald, x_ialds, x_istore_4, x_iload_4, x_iload_3, x_callv_6, unl_i, unl_l, unl_q, unl_r, unl_s, unl_n, k_X10_act_0, k_X10_act_1, k_X10_act_2, k_X10_act_3, k_X10_act_4, k_X10_act_5, k_X10_act_6, k_X10_act_7, k_X10_act_8, k_X10_act_9, k_X10_act_10, k_X10_act_11, k_X10_act_12, k_X10_act_13, k_X10_act_14, k_X10_act_15, k_X10_act_16, k_X10_act_17, k_X10_act_18, k_X10_act_19, k_X10_act_20, k_X10_act_21, k_X10_act_22, k_X10_act_23, k_X10_act_24, k_X10_act_25, k_X10_act_26, k_X10_act_27, k_X10_act_28, k_X10_act_29, k_X10_act_30, k_X10_act_31, k_X10_act_32, k_X10_act_33, k_X10_act_34, k_X10_act_35, k_X10_act_36, k_X10_act_37, k_X10_act_38, k_X10_act_39, k_X10_act_40, k_X10_act_41, k_X10_act_42, oE_some, Int.reduceToNat, Nat.reduceAdd, true_and, and_true, List.length_cons, List.length_nil, Option.toList_some, Option.toList_none, List.cons_append, List.nil_append, Nat.reduceLeDiff, Nat.le_refl, wdS_nil, wdS_i, wdS_l, wdS_r, wdS_n, wdS_s, o11, c31, u3, p10, c27', hh, w10, ha, c1, c2, i4, i1, pC, hcall, wv, c3, Int.reduceEq, ↓reduceIte]
        · simp only [AW_k, AWk_1, x_aload_0, x_aloads_0, x_getf, x_callv_1, x_iload_1, x_callv_2, x_if_eq, x_iload_2, x_if_lt, x_push_i, x_push_l, x_icmp_ge, x_icmp_eq, x_ret, x_ret_i, x_ret_z, x_ret_l, x_ret_c, x_iald, x_ialds, x_istore_4, x_iload_4, x_iload_3, x_callv_6, unl_i, unl_l, unl_q, unl_r, unl_s, unl_n, k_X10_act_0, k_X10_act_1, k_X10_act_2, k_X10_act_3, k_X10_act_4, k_X10_act_5, k_X10_act_6, k_X10_act_7, k_X10_act_8, k_X10_act_9, k_X10_act_10, k_X10_act_11, k_X10_act_12, k_X10_act_13, k_X10_act_14, k_X10_act_15, k_X10_act_16, k_X10_act_17, k_X10_act_18, k_X10_act_19, k_X10_act_20, k_X10_act_21, k_X10_act_22, k_X10_act_23, k_X10_act_24, k_X10_act_25, k_X10_act_26, k_X10_act_27, k_X10_act_28, k_X10_act_29, k_X10_act_30, k_X10_act_31, k_X10_act_32, k_X10_act_33, k_X10_act_34, k_X10_act_35, k_X10_act_36, k_X10_act_37, k_X10_act_38, k_X10_act_39, k_X10_act_40, k_X10_act_41, k_X10_act_42, oE_some, Int.reduceToNat, Nat.reduceAdd, true_and, and_true, List.length_cons, List.length_nil, Option.toList_some, Option.toList_none, List.cons_append, List.nil_append, Nat.reduceLeDiff, Nat.le_refl, wdS_nil, wdS_i, wdS_l, wdS_r, wdS_n, wdS_s, o11, c31, u3, p10, c27', hh, w10, ha, c1, c2, i4, i1, Int.reduceEq, ↓reduceIte]
theorem XM_like (d : Nat) {hp : HP} {a b c e : Nat} {ks es ks2 es2 : List Int} (h : XM hp a c ks es) (h2 : XM hp b e ks2 es2) (ho : a + 3 ≤ b ∨ b + 3 ≤ a) : ∃ h', XM h' a e ks2 es2 ∧ Fr a (a + 3) hp h' ∧ ∀ R : PO, callD (d + 1) 24 [mR a, mR b] hp R ↔ R none h' := by
  obtain ⟨h', u1, u2, u3⟩ := c3_becomeLike d h.1 h2.1 h.2.1 h.2.2.1 h2.2.1 h2.2.2.1 ho
  exact ⟨h', ⟨u1, h2.2⟩, u2, u3⟩
set_option maxHeartbeats 16000000 in
theorem x10_keep (d : Nat) {hp : HP} {n : Nat} {G : BitVec 64} {z : Int} {c : Nat} {ks : List Int} {es : List Int} {ik : Bool} {kn : Nat} {kG : BitVec 64} {kz : Int} {kc : Nat} {kks : List Int} {kes : List Int} {tc : Nat} {tb : List Int} {sc : Nat} {tl : List Int} {so : List Int} {le : List Int} {it : Nat → List (BitVec 64)} {he : List Int} {th : List Int} {sl : List Int} {tr : Nat} {bo : List Int} (hX : XI hp n G z c ks es ik kn kG kz kc kks kes tc tb sc tl so le it he th sl tr bo) : ∃ h', XI h' n G z c ks es true n G z c ks es tc tb sc tl so le it he th sl tr bo ∧ Kx hp h' ∧ ∀ R : PO, callD (d + 100) 155 [mR 0] hp R ↔ R (some (mI 1)) h' := by
  have hX0 := hX
  obtain ⟨ra, ts, q0, q1, q2, q3, q4, q5, q6, q7, q8, q9, q10, q11, qk⟩ := hX
  have hR := q1.1
  have h1 := rw_1 hR
  have h6 := rw_6 hR
  have f1 := FC_le n
  have cR := rC0 hR
  have cA := rC1 hR
  have o0 : gF hp 0 10 0 = some (mR 1) := XO_F q0 0
  have o1 : gF hp 0 10 1 = some (mR ra) := XO_F q0 1
  have o2 : gF hp 0 10 2 = some (mL G) := XO_F q0 2
  have o3 : gF hp 0 10 3 = some (mI z) := XO_F q0 3
  have o4 : gF hp 0 10 4 = some (mR 2) := XO_F q0 4
  have o5 : gF hp 0 10 5 = some (mR 5) := XO_F q0 5
  have o6 : gF hp 0 10 6 = some (mR 10) := XO_F q0 6
  have o7 : gF hp 0 10 7 = some (mR 14) := XO_F q0 7
  have o8 : gF hp 0 10 8 = some (mR 17) := XO_F q0 8
  have o9 : gF hp 0 10 9 = some (mR 19) := XO_F q0 9
  have o10 : gF hp 0 10 10 = some (mR 27) := XO_F q0 10
  have o11 : gF hp 0 10 11 = some (mR 31) := XO_F q0 11
  have o12 : gF hp 0 10 12 = some (mR 33) := XO_F q0 12
  have o13 : gF hp 0 10 13 = some (mI (zI ik)) := XO_F q0 13
  have o14 : gF hp 0 10 14 = some (mI (kn : Int)) := XO_F q0 14
  have o15 : gF hp 0 10 15 = some (mL kG) := XO_F q0 15
  have o16 : gF hp 0 10 16 = some (mI kz) := XO_F q0 16
  have o17 : gF hp 0 10 17 = some (mR 34) := XO_F q0 17
  have cO := gC_of o0
  have Y1 := XI_oik hX0
  have Y2 := XI_okn (kn' := n) Y1 ⟨h1, h6⟩
  have Y3 := XI_okG (kG' := G) Y2
  have Y4 := XI_okz (kz' := z) Y3
  have Y4' := Y4
  obtain ⟨ra', ts', w0, w1, w2, w3, w4, w5, w6, w7, w8, w9, w10', w11, wk⟩ := Y4
  obtain ⟨h', u1, u2, u3⟩ := XM_like (d + 98) w11 w2 (by omega)
  refine ⟨h', XI_K Y4' u2 u1, Kx_trans (Kx_trans (Kx_trans (Kx_trans Kx_pF Kx_pF) Kx_pF) Kx_pF) (Kx_Fr u2 (by omega)), fun R => ?_⟩
  have c34 := gC_of w11.1.1.1
  have rn := rw_n hR
  have hz : 0 ≠ ra := by have := q1.2.1; unfold tbAt at this; omega
  have z1 : ∀ v, gF (pF hp 0 10 13 v) 0 10 1 = some (mR ra) := fun v => by rw [gF_pF (by omega), o1]
  have z2 : ∀ v, gF (pF hp 0 10 13 v) 0 10 14 = some (mI (kn : Int)) := fun v => by rw [gF_pF (by omega), o14]
  have z3 : ∀ v, gF (pF hp 0 10 13 v) ra 4 0 = some (mI (n : Int)) := fun v => by rw [gF_pF (by omega), rn]
  have z4 : ∀ v w, gF (pF (pF hp 0 10 13 v) 0 10 14 w) 0 10 2 = some (mL G) := fun v w => by rw [gF_pF (by omega), gF_pF (by omega), o2]
  have z5 : ∀ v w, gF (pF (pF hp 0 10 13 v) 0 10 14 w) 0 10 15 = some (mL kG) := fun v w => by rw [gF_pF (by omega), gF_pF (by omega), o15]
  have z6 : ∀ v w u, gF (pF (pF (pF hp 0 10 13 v) 0 10 14 w) 0 10 15 u) 0 10 3 = some (mI z) := fun v w u => by rw [gF_pF (by omega), gF_pF (by omega), gF_pF (by omega), o3]
  have z7 : ∀ v w u, gF (pF (pF (pF hp 0 10 13 v) 0 10 14 w) 0 10 15 u) 0 10 16 = some (mI kz) := fun v w u => by rw [gF_pF (by omega), gF_pF (by omega), gF_pF (by omega), o16]
  have z8 : gF (pF (pF (pF (pF hp 0 10 13 (mI 1)) 0 10 14 (mI (n : Int))) 0 10 15 (mL G)) 0 10 16 (mI z)) 0 10 17 = some (mR 34) := XO_F w0 17
  have z9 : gF (pF (pF (pF (pF hp 0 10 13 (mI 1)) 0 10 14 (mI (n : Int))) 0 10 15 (mL G)) 0 10 16 (mI z)) 0 10 4 = some (mR 2) := XO_F w0 4
  rw [callD_k]; simp only [entL_i, entL_l, entL_q, entL_s, entL_nil, n_X10_keep, u_X10_keep, m_X10_keep, rep_0, List.cons_append, List.nil_append, List.append_nil, List.length_cons, List.length_nil, Nat.reduceAdd, true_and]
  simp only [AW_k, AWk_1, x_aload_0, x_aloads_0, x_push_i, x_push_l, x_putf_z, x_getf, x_putf_i, x_putf_l, x_callv_2, x_ret, x_ret_i, x_ret_z, x_ret_l, x_ret_c, k_X10_keep_0, k_X10_keep_1, k_X10_keep_2, k_X10_keep_3, k_X10_keep_4, k_X10_keep_5, k_X10_keep_6, k_X10_keep_7, k_X10_keep_8, k_X10_keep_9, k_X10_keep_10, k_X10_keep_11, k_X10_keep_12, k_X10_keep_13, k_X10_keep_14, k_X10_keep_15, k_X10_keep_16, k_X10_keep_17, k_X10_keep_18, k_X10_keep_19, k_X10_keep_20, k_X10_keep_21, k_X10_keep_22, oE_some, Int.reduceToNat, Nat.reduceAdd, true_and, and_true, List.length_cons, List.length_nil, Option.toList_some, Option.toList_none, List.cons_append, List.nil_append, Nat.reduceLeDiff, Nat.le_refl, wdS_nil, wdS_i, wdS_l, wdS_r, wdS_n, wdS_s, o13, z1, z2, z3, z4, z5, z6, z7, z8, z9, c34, u3]
  exact ⟨fun q => q.2, fun q => ⟨Or.inr trivial, q⟩⟩
