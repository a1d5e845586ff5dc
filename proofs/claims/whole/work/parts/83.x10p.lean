/-! ===== the class's own methods: taken, acts, counts ===== -/
def tnA (c : Nat) (ks he th sl : List Int) (x a : Int) : Int := match shO x with
  | some s => if (0 ≤ a ∧ a < 6) ∨ (10 ≤ a ∧ a ≤ 13) then (if hoV c he th s = 0 then -11 else if hoV c he th s = 1 then (if 0 ≤ a ∧ a < 6 ∧ isU (ks.getD (th.getD s 0).toNat 0).toNat a.toNat = true then th.getD s 0 else -13) else if 10 ≤ a ∧ a ≤ 13 ∧ th.getD s 0 = a - 10 then sl.getD s 0 else -13) else -1
  | none => -1
theorem hoV_in {c : Nat} {he th sl : List Int} {s : Nat} (h : slOK he th sl) (hs : s < 4) : hoV c he th s = 0 ∨ hoV c he th s = 1 ∨ hoV c he th s = 2 := by
  unfold hoV
  split
  · split
    · exact Or.inr (Or.inl rfl)
    · exact Or.inl rfl
  · exact (h.2 s hs).1
theorem hoV_1 {c : Nat} {he th : List Int} {s : Nat} (h : hoV c he th s = 1) : ∃ i, mkO c (th.getD s 0) = some i := by
  unfold hoV at h
  split at h
  · split at h
    · next i e => exact ⟨i, e⟩
    · exact absurd h (by decide)
  · next q => exact absurd h q
set_option maxHeartbeats 32000000 in
theorem x10_taken (d : Nat) {hp : HP} {n : Nat} {G : BitVec 64} {z : Int} {c : Nat} {ks : List Int} {es : List Int} {ik : Bool} {kn : Nat} {kG : BitVec 64} {kz : Int} {kc : Nat} {kks : List Int} {kes : List Int} {tc : Nat} {tb : List Int} {sc : Nat} {tl : List Int} {so : List Int} {le : List Int} {it : Nat → List (BitVec 64)} {he : List Int} {th : List Int} {sl : List Int} {tr : Nat} {bo : List Int} {x a : Int} (hX : XI hp n G z c ks es ik kn kG kz kc kks kes tc tb sc tl so le it he th sl tr bo) (hx : w32 x = x) (ha : w32 a = a) (R : PO) : callD (d + 100) 151 [mR 0, mI x, mI a] hp R ↔ R (some (mI (tnA c ks he th sl x a))) hp := by
  have hX0 := hX
  obtain ⟨ra, ts, q0, q1, q2, q3, q4, q5, q6, q7, q8, q9, q10, q11, qk⟩ := hX
  have hR := q1.1
  have h1 := rw_1 hR
  have h6 := rw_6 hR
  have f1 := FC_le n
  have cR := rC0 hR
  have cA := rC1 hR
  have o0 : gF hp 0 10 0 = some (mR 1) := XO_F q0 0
  have o1 : gF hp 0 10 1 = some (mR ra) := XO_F q0 1
  have o2 : gF hp 0 10 2 = some (mL G) := XO_F q0 2
  have o3 : gF hp 0 10 3 = some (mI z) := XO_F q0 3
  have o4 : gF hp 0 10 4 = some (mR 2) := XO_F q0 4
  have o5 : gF hp 0 10 5 = some (mR 5) := XO_F q0 5
  have o6 : gF hp 0 10 6 = some (mR 10) := XO_F q0 6
  have o7 : gF hp 0 10 7 = some (mR 14) := XO_F q0 7
  have o8 : gF hp 0 10 8 = some (mR 17) := XO_F q0 8
  have o9 : gF hp 0 10 9 = some (mR 19) := XO_F q0 9
  have o10 : gF hp 0 10 10 = some (mR 27) := XO_F q0 10
  have o11 : gF hp 0 10 11 = some (mR 31) := XO_F q0 11
  have o12 : gF hp 0 10 12 = some (mR 33) := XO_F q0 12
  have o13 : gF hp 0 10 13 = some (mI (zI ik)) := XO_F q0 13
  have o14 : gF hp 0 10 14 = some (mI (kn : Int)) := XO_F q0 14
  have o15 : gF hp 0 10 15 = some (mL kG) := XO_F q0 15
  have o16 : gF hp 0 10 16 = some (mI kz) := XO_F q0 16
  have o17 : gF hp 0 10 17 = some (mR 34) := XO_F q0 17
  have cO := gC_of o0
  have i1 : w32 1 = 1 := rfl
  have i6 : w32 6 = 6 := rfl
  have i10 : w32 10 = 10 := rfl
  have i13 : w32 13 = 13 := rfl
  have c27 := gC_of q8.1.1.1
  have hc6 := q2.2.2.2.1
  have g1 : gF hp 27 6 1 = some (mR 29) := q8.1.1.2.1
  have g2 : gF hp 27 6 2 = some (mR 30) := q8.1.1.2.2
  have a1 : gA hp 29 = some th := q8.1.2.2.1
  have a2 : gA hp 30 = some sl := q8.1.2.2.2
  have g21 : gF hp 2 3 1 = some (mR 3) := q2.1.1.2.1
  have a3 : gA hp 3 = some ks := q2.1.2.1
  -- the two flags
  have flag : ∃ f1 f2 : Bool, (f1 = true ↔ 0 ≤ a ∧ a < 6) ∧ (f2 = true ↔ 10 ≤ a ∧ a ≤ 13) ∧ (callD (d + 100) 151 [mR 0, mI x, mI a] hp R ↔ AW (d + 99) [] 151 R 19 [some (mR 0), some (mI x), some (mI a), some (mI (zI f1)), some (mI (zI f2)), none, none] [] hp (0, 0)) := by
    by_cases b1 : a < 0
    · have b3 : a < 10 := by omega
      refine ⟨false, false, ⟨fun q => absurd q (by decide), fun q => by omega⟩, ⟨fun q => absurd q (by decide), fun q => by omega⟩, ?_⟩
      rw [callD_k]; simp only [entL_i, entL_l, entL_q, entL_s, entL_nil, n_X10_taken, u_X10_taken, m_X10_taken, rep_4, List.cons_append, List.nil_append, List.append_nil, List.length_cons, List.length_nil, Nat.reduceAdd, true_and]
      simp only [AW_k, AWk_1, x_iload_2, x_if_lt, x_push_i, x_push_l, x_icmp_ge, x_goto, x_istore_3, x_icmp_lt, x_icmp_gt, x_istore_4, unl_i, unl_l, unl_q, unl_r, unl_s, unl_n, k_X10_taken_0, k_X10_taken_1, k_X10_taken_2, k_X10_taken_3, k_X10_taken_4, k_X10_taken_5, k_X10_taken_6, k_X10_taken_7, k_X10_taken_8, k_X10_taken_9, k_X10_taken_10, k_X10_taken_11, k_X10_taken_12, k_X10_taken_13, k_X10_taken_14, k_X10_taken_15, k_X10_taken_16, k_X10_taken_17, k_X10_taken_18, oE_some, Int.reduceToNat, Nat.reduceAdd, true_and, and_true, List.length_cons, List.length_nil, Option.toList_some, Option.toList_none, List.cons_append, List.nil_append, Nat.reduceLeDiff, Nat.le_refl, wdS_nil, wdS_i, wdS_l, wdS_r, wdS_n, wdS_s, ha, i6, i10, i13, b1, b3, ↓reduceIte]
      exact Iff.rfl
    · by_cases b2 : a < 6
      · have b3 : a < 10 := by omega
        refine ⟨true, false, ⟨fun _ => by omega, fun _ => rfl⟩, ⟨fun q => absurd q (by decide), fun q => by omega⟩, ?_⟩
        rw [callD_k]; simp only [entL_i, entL_l, entL_q, entL_s, entL_nil, n_X10_taken, u_X10_taken, m_X10_taken, rep_4, List.cons_append, List.nil_append, List.append_nil, List.length_cons, List.length_nil, Nat.reduceAdd, true_and]
        simp only [AW_k, AWk_1, x_iload_2, x_if_lt, x_push_i, x_push_l, x_icmp_ge, x_goto, x_istore_3, x_icmp_lt, x_icmp_gt, x_istore_4, unl_i, unl_l, unl_q, unl_r, unl_s, unl_n, k_X10_taken_0, k_X10_taken_1, k_X10_taken_2, k_X10_taken_3, k_X10_taken_4, k_X10_taken_5, k_X10_taken_6, k_X10_taken_7, k_X10_taken_8, k_X10_taken_9, k_X10_taken_10, k_X10_taken_11, k_X10_taken_12, k_X10_taken_13, k_X10_taken_14, k_X10_taken_15, k_X10_taken_16, k_X10_taken_17, k_X10_taken_18, oE_some, Int.reduceToNat, Nat.reduceAdd, true_and, and_true, List.length_cons, List.length_nil, Option.toList_some, Option.toList_none, List.cons_append, List.nil_append, Nat.reduceLeDiff, Nat.le_refl, wdS_nil, wdS_i, wdS_l, wdS_r, wdS_n, wdS_s, ha, i6, i10, i13, b1, b2, b3, ↓reduceIte]
        exact Iff.rfl
      · by_cases b3 : a < 10
        · refine ⟨false, false, ⟨fun q => absurd q (by decide), fun q => by omega⟩, ⟨fun q => absurd q (by decide), fun q => by omega⟩, ?_⟩
          rw [callD_k]; simp only [entL_i, entL_l, entL_q, entL_s, entL_nil, n_X10_taken, u_X10_taken, m_X10_taken, rep_4, List.cons_append, List.nil_append, List.append_nil, List.length_cons, List.length_nil, Nat.reduceAdd, true_and]
          simp only [AW_k, AWk_1, x_iload_2, x_if_lt, x_push_i, x_push_l, x_icmp_ge, x_goto, x_istore_3, x_icmp_lt, x_icmp_gt, x_istore_4, unl_i, unl_l, unl_q, unl_r, unl_s, unl_n, k_X10_taken_0, k_X10_taken_1, k_X10_taken_2, k_X10_taken_3, k_X10_taken_4, k_X10_taken_5, k_X10_taken_6, k_X10_taken_7, k_X10_taken_8, k_X10_taken_9, k_X10_taken_10, k_X10_taken_11, k_X10_taken_12, k_X10_taken_13, k_X10_taken_14, k_X10_taken_15, k_X10_taken_16, k_X10_taken_17, k_X10_taken_18, oE_some, Int.reduceToNat, Nat.reduceAdd, true_and, and_true, List.length_cons, List.length_nil, Option.toList_some, Option.toList_none, List.cons_append, List.nil_append, Nat.reduceLeDiff, Nat.le_refl, wdS_nil, wdS_i, wdS_l, wdS_r, wdS_n, wdS_s, ha, i6, i10, i13, b1, b2, b3, ↓reduceIte]
          exact Iff.rfl
        · by_cases b4 : 13 < a
          · refine ⟨false, false, ⟨fun q => absurd q (by decide), fun q => by omega⟩, ⟨fun q => absurd q (by decide), fun q => by omega⟩, ?_⟩
            rw [callD_k]; simp only [entL_i, entL_l, entL_q, entL_s, entL_nil, n_X10_taken, u_X10_taken, m_X10_taken, rep_4, List.cons_append, List.nil_append, List.append_nil, List.length_cons, List.length_nil, Nat.reduceAdd, true_and]
            simp only [AW_k, AWk_1, x_iload_2, x_if_lt, x_push_i, x_push_l, x_icmp_ge, x_goto, x_istore_3, x_icmp_lt, x_icmp_gt, x_istore_4, unl_i, unl_l, unl_q, unl_r, unl_s, unl_n, k_X10_taken_0, k_X10_taken_1, k_X10_taken_2, k_X10_taken_3, k_X10_taken_4, k_X10_taken_5, k_X10_taken_6, k_X10_taken_7, k_X10_taken_8, k_X10_taken_9, k_X10_taken_10, k_X10_taken_11, k_X10_taken_12, k_X10_taken_13, k_X10_taken_14, k_X10_taken_15, k_X10_taken_16, k_X10_taken_17, k_X10_taken_18, oE_some, Int.reduceToNat, Nat.reduceAdd, true_and, and_true, List.length_cons, List.length_nil, Option.toList_some, Option.toList_none, List.cons_append, List.nil_append, Nat.reduceLeDiff, Nat.le_refl, wdS_nil, wdS_i, wdS_l, wdS_r, wdS_n, wdS_s, ha, i6, i10, i13, b1, b2, b3, b4, ↓reduceIte]
            exact Iff.rfl
          · refine ⟨false, true, ⟨fun q => absurd q (by decide), fun q => by omega⟩, ⟨fun _ => by omega, fun _ => rfl⟩, ?_⟩
            rw [callD_k]; simp only [entL_i, entL_l, entL_q, entL_s, entL_nil, n_X10_taken, u_X10_taken, m_X10_taken, rep_4, List.cons_append, List.nil_append, List.append_nil, List.length_cons, List.length_nil, Nat.reduceAdd, true_and]
            simp only [AW_k, AWk_1, x_iload_2, x_if_lt, x_push_i, x_push_l, x_icmp_ge, x_goto, x_istore_3, x_icmp_lt, x_icmp_gt, x_istore_4, unl_i, unl_l, unl_q, unl_r, unl_s, unl_n, k_X10_taken_0, k_X10_taken_1, k_X10_taken_2, k_X10_taken_3, k_X10_taken_4, k_X10_taken_5, k_X10_taken_6, k_X10_taken_7, k_X10_taken_8, k_X10_taken_9, k_X10_taken_10, k_X10_taken_11, k_X10_taken_12, k_X10_taken_13, k_X10_taken_14, k_X10_taken_15, k_X10_taken_16, k_X10_taken_17, k_X10_taken_18, oE_some, Int.reduceToNat, Nat.reduceAdd, true_and, and_true, List.length_cons, List.length_nil, Option.toList_some, Option.toList_none, List.cons_append, List.nil_append, Nat.reduceLeDiff, Nat.le_refl, wdS_nil, wdS_i, wdS_l, wdS_r, wdS_n, wdS_s, ha, i6, i10, i13, b1, b2, b3, b4, ↓reduceIte]
            exact Iff.rfl
  obtain ⟨f1, f2, k1, k2, k3⟩ := flag
  rw [k3]
  unfold tnA
  cases ex : shO x with
  | none =>
    simp only [AW_k, AWk_1, x_aload_0, x_aloads_0, x_getf, x_iload_1, x_callv_2, x_if_eq, x_iload_3, x_if_ne, x_iload_4, x_push_i, x_push_l, x_ret, x_ret_i, x_ret_z, x_ret_l, x_ret_c, k_X10_taken_19, k_X10_taken_20, k_X10_taken_21, k_X10_taken_22, k_X10_taken_23, k_X10_taken_24, k_X10_taken_25, k_X10_taken_26, k_X10_taken_27, k_X10_taken_28, k_X10_taken_29, oE_some, Int.reduceToNat, Nat.reduceAdd, true_and, and_true, List.length_cons, List.length_nil, Option.toList_some, Option.toList_none, List.cons_append, List.nil_append, Nat.reduceLeDiff, Nat.le_refl, wdS_nil, wdS_i, wdS_l, wdS_r, wdS_n, wdS_s, o10, c27, has6_n (d + 98) hx ex, w00, ↓reduceIte]
  | some s =>
    obtain ⟨hs, es'⟩ := shO_lt ex
    have hh := fun R => has6_s (d + 98) (hp := hp) (a := 27) hx ex R
    have ho := hoV_in (c := c) q8.2 hs
    have bs : s < 2147483648 := by omega
    have it1 : inB (s : Int) th.length := by rw [q8.2.1.2.1]; exact inB_n hs (by decide)
    have is1 : inB (s : Int) sl.length := by rw [q8.2.1.2.2]; exact inB_n hs (by decide)
    obtain ⟨v1, v2, v3, v4, v5⟩ := q8.2.2 s hs
    have wt : w32 (th.getD s 0) = th.getD s 0 := w32_id (by omega) (by omega)
    have hcall := fun R => x10_heldOn (d + 89) (s := s) hX0 hs R
    subst es'
    by_cases cf : (0 ≤ a ∧ a < 6) ∨ (10 ≤ a ∧ a ≤ 13)
    · simp only [if_pos cf]
      have toM : AW (d + 99) [] 151 R 19 [some (mR 0), some (mI (s : Int)), some (mI a), some (mI (zI f1)), some (mI (zI f2)), none, none] [] hp (0, 0) ↔ AW (d + 99) [] 151 R 40 [some (mR 0), some (mI (s : Int)), some (mI a), some (mI (zI f1)), some (mI (zI f2)), some (mI (hoV c he th s)), some (mI (th.getD s 0))] [] hp (0, 0) := by
        cases f1 with
        | true =>
          simp only [AW_k, AWk_1, x_aload_0, x_aloads_0, x_getf, x_iload_1, x_callv_2, x_if_eq, x_iload_3, x_if_ne, x_iload_4, x_push_i, x_push_l, x_ret, x_ret_i, x_ret_z, x_ret_l, x_ret_c, x_istore_5, x_iald, x_ialds, x_istore_6, unl_i, unl_l, unl_q, unl_r, unl_s, unl_n, k_X10_taken_19, k_X10_taken_20, k_X10_taken_21, k_X10_taken_22, k_X10_taken_23, k_X10_taken_24, k_X10_taken_25, k_X10_taken_26, k_X10_taken_27, k_X10_taken_28, k_X10_taken_29, k_X10_taken_30, k_X10_taken_31, k_X10_taken_32, k_X10_taken_33, k_X10_taken_34, k_X10_taken_35, k_X10_taken_36, k_X10_taken_37, k_X10_taken_38, k_X10_taken_39, oE_some, Int.reduceToNat, Nat.reduceAdd, true_and, and_true, List.length_cons, List.length_nil, Option.toList_some, Option.toList_none, List.cons_append, List.nil_append, Nat.reduceLeDiff, Nat.le_refl, wdS_nil, wdS_i, wdS_l, wdS_r, wdS_n, wdS_s, o10, c27, hh, w10, zI_t, cO, hcall, g1, a1, it1, w32_tn bs, ↓reduceIte]
        | false =>
          cases f2 with
          | true =>
            simp only [AW_k, AWk_1, x_aload_0, x_aloads_0, x_getf, x_iload_1, x_callv_2, x_if_eq, x_iload_3, x_if_ne, x_iload_4, x_push_i, x_push_l, x_ret, x_ret_i, x_ret_z, x_ret_l, x_ret_c, x_istore_5, x_iald, x_ialds, x_istore_6, unl_i, unl_l, unl_q, unl_r, unl_s, unl_n, k_X10_taken_19, k_X10_taken_20, k_X10_taken_21, k_X10_taken_22, k_X10_taken_23, k_X10_taken_24, k_X10_taken_25, k_X10_taken_26, k_X10_taken_27, k_X10_taken_28, k_X10_taken_29, k_X10_taken_30, k_X10_taken_31, k_X10_taken_32, k_X10_taken_33, k_X10_taken_34, k_X10_taken_35, k_X10_taken_36, k_X10_taken_37, k_X10_taken_38, k_X10_taken_39, oE_some, Int.reduceToNat, Nat.reduceAdd, true_and, and_true, List.length_cons, List.length_nil, Option.toList_some, Option.toList_none, List.cons_append, List.nil_append, Nat.reduceLeDiff, Nat.le_refl, wdS_nil, wdS_i, wdS_l, wdS_r, wdS_n, wdS_s, o10, c27, hh, w10, w00, zI_t, zI_f, cO, hcall, g1, a1, it1, w32_tn bs, ↓reduceIte]
          | false => exact absurd cf (fun q => q.elim (fun q => absurd (k1.mpr q) (by decide)) (fun q => absurd (k2.mpr q) (by decide)))
      rw [toM]
      rcases ho with e | e | e
      · simp only [e, ↓reduceIte]
        simp only [AW_k, AWk_1, x_iload_5, x_if_ne, x_push_i, x_push_l, x_ret, x_ret_i, x_ret_z, x_ret_l, x_ret_c, k_X10_taken_40, k_X10_taken_41, k_X10_taken_42, k_X10_taken_43, oE_some, Int.reduceToNat, Nat.reduceAdd, true_and, and_true, List.length_cons, List.length_nil, Option.toList_some, Option.toList_none, List.cons_append, List.nil_append, Nat.reduceLeDiff, Nat.le_refl, wdS_nil, wdS_i, wdS_l, wdS_r, wdS_n, wdS_s, w00, ↓reduceIte]
      · obtain ⟨i, hi⟩ := hoV_1 e
        obtain ⟨i2, i3⟩ := mkO_lt hi
        have bi : i < 2147483648 := by omega
        have ik : inB (i : Int) ks.length := by rw [q2.2.1]; exact inB_n (by omega) (by decide)
        obtain ⟨kk, mm, m1, m2, m3, m4⟩ := q2.2.2.2.2 i i2
        cases f1 with
        | true =>
          obtain ⟨a0, a6⟩ := k1.mp rfl
          obtain ⟨A, hA⟩ : ∃ A : Nat, a = (A : Int) := ⟨a.toNat, by omega⟩
          subst hA
          have cu := fun R => c3_isUnder (d + 98) (hp := hp) (k := kk) (a := A) m2 (by omega) R
          have na : 0 ≤ (A : Int) ∧ (A : Int) < 6 := ⟨a0, a6⟩
          cases eu : isU kk A with
          | true =>
            rw [eu] at cu
            simp only [e, i3, Int.toNat_natCast, m1, eu, a0, a6, and_self, show ((1 : Int) = 0) = False from eq_false (by decide), ↓reduceIte]
            simp only [AW_k, AWk_1, x_iload_5, x_if_ne, x_push_i, x_push_l, x_ret, x_ret_i, x_ret_z, x_ret_l, x_ret_c, x_icmp_ne, x_iload_3, x_if_eq, x_aload_0, x_aloads_0, x_getf, x_iload_6, x_iald, x_ialds, x_iload_2, x_call_2, x_goto, k_X10_taken_40, k_X10_taken_41, k_X10_taken_42, k_X10_taken_43, k_X10_taken_44, k_X10_taken_45, k_X10_taken_46, k_X10_taken_47, k_X10_taken_48, k_X10_taken_49, k_X10_taken_50, k_X10_taken_51, k_X10_taken_52, k_X10_taken_53, k_X10_taken_54, k_X10_taken_55, k_X10_taken_56, k_X10_taken_57, k_X10_taken_58, k_X10_taken_59, k_X10_taken_60, oE_some, Int.reduceToNat, Nat.reduceAdd, true_and, and_true, List.length_cons, List.length_nil, Option.toList_some, Option.toList_none, List.cons_append, List.nil_append, Nat.reduceLeDiff, Nat.le_refl, wdS_nil, wdS_i, wdS_l, wdS_r, wdS_n, wdS_s, w10, i1, zI_t, o4, g21, a3, i3, ik, w32_tn bi, m1, cu, Int.reduceEq, ↓reduceIte]
          | false =>
            rw [eu] at cu
            simp only [e, i3, Int.toNat_natCast, m1, eu, Bool.false_eq_true, and_false, show ((1 : Int) = 0) = False from eq_false (by decide), ↓reduceIte]
            simp only [AW_k, AWk_1, x_iload_5, x_if_ne, x_push_i, x_push_l, x_ret, x_ret_i, x_ret_z, x_ret_l, x_ret_c, x_icmp_ne, x_iload_3, x_if_eq, x_aload_0, x_aloads_0, x_getf, x_iload_6, x_iald, x_ialds, x_iload_2, x_call_2, x_goto, k_X10_taken_40, k_X10_taken_41, k_X10_taken_42, k_X10_taken_43, k_X10_taken_44, k_X10_taken_45, k_X10_taken_46, k_X10_taken_47, k_X10_taken_48, k_X10_taken_49, k_X10_taken_50, k_X10_taken_51, k_X10_taken_52, k_X10_taken_53, k_X10_taken_54, k_X10_taken_55, k_X10_taken_56, k_X10_taken_57, k_X10_taken_58, k_X10_taken_59, k_X10_taken_60, oE_some, Int.reduceToNat, Nat.reduceAdd, true_and, and_true, List.length_cons, List.length_nil, Option.toList_some, Option.toList_none, List.cons_append, List.nil_append, Nat.reduceLeDiff, Nat.le_refl, wdS_nil, wdS_i, wdS_l, wdS_r, wdS_n, wdS_s, w10, w00, i1, zI_t, zI_f, o4, g21, a3, i3, ik, w32_tn bi, m1, cu, Int.reduceEq, ↓reduceIte]
        | false =>
          have nf : ¬ (0 ≤ a ∧ a < 6) := fun q => absurd (k1.mpr q) (by decide)
          have nf2 : ¬ (0 ≤ a ∧ a < 6 ∧ isU (ks.getD (th.getD s 0).toNat 0).toNat a.toNat = true) := fun q => nf ⟨q.1, q.2.1⟩
          simp only [e, if_neg nf2, show ((1 : Int) = 0) = False from eq_false (by decide), ↓reduceIte]
          simp only [AW_k, AWk_1, x_iload_5, x_if_ne, x_push_i, x_push_l, x_ret, x_ret_i, x_ret_z, x_ret_l, x_ret_c, x_icmp_ne, x_iload_3, x_if_eq, x_aload_0, x_aloads_0, x_getf, x_iload_6, x_iald, x_ialds, x_iload_2, x_call_2, x_goto, k_X10_taken_40, k_X10_taken_41, k_X10_taken_42, k_X10_taken_43, k_X10_taken_44, k_X10_taken_45, k_X10_taken_46, k_X10_taken_47, k_X10_taken_48, k_X10_taken_49, k_X10_taken_50, k_X10_taken_51, k_X10_taken_52, k_X10_taken_53, k_X10_taken_54, k_X10_taken_55, k_X10_taken_56, k_X10_taken_57, k_X10_taken_58, k_X10_taken_59, k_X10_taken_60, oE_some, Int.reduceToNat, Nat.reduceAdd, true_and, and_true, List.length_cons, List.length_nil, Option.toList_some, Option.toList_none, List.cons_append, List.nil_append, Nat.reduceLeDiff, Nat.le_refl, wdS_nil, wdS_i, wdS_l, wdS_r, wdS_n, wdS_s, w10, w00, i1, zI_f, Int.reduceEq, ↓reduceIte]
      · have w21 : (w32 2 = 0) = False := eq_false (by decide)
        have e20 : ((2 : Int) = 0) = False := eq_false (by decide)
        have e21 : ((2 : Int) = 1) = False := eq_false (by decide)
        cases f2 with
        | true =>
          obtain ⟨a10, a13⟩ := k2.mp rfl
          have wa : w32 (a - 10) = a - 10 := w32_id (by omega) (by omega)
          by_cases ct : th.getD s 0 = a - 10
          · simp only [e, e20, e21, if_pos (show 10 ≤ a ∧ a ≤ 13 ∧ th.getD s 0 = a - 10 from ⟨a10, a13, ct⟩), ↓reduceIte]
            simp only [AW_k, AWk_1, x_iload_5, x_if_ne, x_push_i, x_push_l, x_ret, x_ret_i, x_ret_z, x_ret_l, x_ret_c, x_icmp_ne, x_iload_3, x_if_eq, x_aload_0, x_aloads_0, x_getf, x_iload_6, x_iald, x_ialds, x_iload_2, x_call_2, x_goto, x_iload_4, x_isub, x_iload_1, k_X10_taken_40, k_X10_taken_41, k_X10_taken_42, k_X10_taken_43, k_X10_taken_44, k_X10_taken_45, k_X10_taken_46, k_X10_taken_47, k_X10_taken_48, k_X10_taken_49, k_X10_taken_50, k_X10_taken_51, k_X10_taken_52, k_X10_taken_53, k_X10_taken_54, k_X10_taken_55, k_X10_taken_56, k_X10_taken_57, k_X10_taken_58, k_X10_taken_59, k_X10_taken_60, k_X10_taken_61, k_X10_taken_62, k_X10_taken_63, k_X10_taken_64, k_X10_taken_65, k_X10_taken_66, k_X10_taken_67, k_X10_taken_68, k_X10_taken_69, k_X10_taken_70, k_X10_taken_71, k_X10_taken_72, k_X10_taken_73, k_X10_taken_74, k_X10_taken_75, oE_some, Int.reduceToNat, Nat.reduceAdd, true_and, and_true, List.length_cons, List.length_nil, Option.toList_some, Option.toList_none, List.cons_append, List.nil_append, Nat.reduceLeDiff, Nat.le_refl, wdS_nil, wdS_i, wdS_l, wdS_r, wdS_n, wdS_s, w21, i1, wz2, e20, e21, zI_t, w10, wt, wa, ct, o10, g2, a2, is1, w32_tn bs, Int.reduceEq, ↓reduceIte]
          · simp only [e, e20, e21, if_neg (show ¬ (10 ≤ a ∧ a ≤ 13 ∧ th.getD s 0 = a - 10) from fun q => ct q.2.2), ↓reduceIte]
            simp only [AW_k, AWk_1, x_iload_5, x_if_ne, x_push_i, x_push_l, x_ret, x_ret_i, x_ret_z, x_ret_l, x_ret_c, x_icmp_ne, x_iload_3, x_if_eq, x_aload_0, x_aloads_0, x_getf, x_iload_6, x_iald, x_ialds, x_iload_2, x_call_2, x_goto, x_iload_4, x_isub, x_iload_1, k_X10_taken_40, k_X10_taken_41, k_X10_taken_42, k_X10_taken_43, k_X10_taken_44, k_X10_taken_45, k_X10_taken_46, k_X10_taken_47, k_X10_taken_48, k_X10_taken_49, k_X10_taken_50, k_X10_taken_51, k_X10_taken_52, k_X10_taken_53, k_X10_taken_54, k_X10_taken_55, k_X10_taken_56, k_X10_taken_57, k_X10_taken_58, k_X10_taken_59, k_X10_taken_60, k_X10_taken_61, k_X10_taken_62, k_X10_taken_63, k_X10_taken_64, k_X10_taken_65, k_X10_taken_66, k_X10_taken_67, k_X10_taken_68, k_X10_taken_69, k_X10_taken_70, k_X10_taken_71, k_X10_taken_72, k_X10_taken_73, k_X10_taken_74, k_X10_taken_75, oE_some, Int.reduceToNat, Nat.reduceAdd, true_and, and_true, List.length_cons, List.length_nil, Option.toList_some, Option.toList_none, List.cons_append, List.nil_append, Nat.reduceLeDiff, Nat.le_refl, wdS_nil, wdS_i, wdS_l, wdS_r, wdS_n, wdS_s, w21, i1, wz2, e20, e21, zI_t, w10, wt, wa, ct, Int.reduceEq, ↓reduceIte]
        | false =>
          have nf : ¬ (10 ≤ a ∧ a ≤ 13) := fun q => absurd (k2.mpr q) (by decide)
          simp only [e, e20, e21, if_neg (show ¬ (10 ≤ a ∧ a ≤ 13 ∧ th.getD s 0 = a - 10) from fun q => nf ⟨q.1, q.2.1⟩), ↓reduceIte]
          simp only [AW_k, AWk_1, x_iload_5, x_if_ne, x_push_i, x_push_l, x_ret, x_ret_i, x_ret_z, x_ret_l, x_ret_c, x_icmp_ne, x_iload_3, x_if_eq, x_aload_0, x_aloads_0, x_getf, x_iload_6, x_iald, x_ialds, x_iload_2, x_call_2, x_goto, x_iload_4, x_isub, x_iload_1, k_X10_taken_40, k_X10_taken_41, k_X10_taken_42, k_X10_taken_43, k_X10_taken_44, k_X10_taken_45, k_X10_taken_46, k_X10_taken_47, k_X10_taken_48, k_X10_taken_49, k_X10_taken_50, k_X10_taken_51, k_X10_taken_52, k_X10_taken_53, k_X10_taken_54, k_X10_taken_55, k_X10_taken_56, k_X10_taken_57, k_X10_taken_58, k_X10_taken_59, k_X10_taken_60, k_X10_taken_61, k_X10_taken_62, k_X10_taken_63, k_X10_taken_64, k_X10_taken_65, k_X10_taken_66, k_X10_taken_67, k_X10_taken_68, k_X10_taken_69, k_X10_taken_70, k_X10_taken_71, k_X10_taken_72, k_X10_taken_73, k_X10_taken_74, k_X10_taken_75, oE_some, Int.reduceToNat, Nat.reduceAdd, true_and, and_true, List.length_cons, List.length_nil, Option.toList_some, Option.toList_none, List.cons_append, List.nil_append, Nat.reduceLeDiff, Nat.le_refl, wdS_nil, wdS_i, wdS_l, wdS_r, wdS_n, wdS_s, w21, i1, wz2, e20, e21, zI_f, w00, Int.reduceEq, ↓reduceIte]
    · simp only [if_neg cf]
      have h1f : f1 = false := by
        cases f1 with
        | false => rfl
        | true => exact absurd (Or.inl (k1.mp rfl)) cf
      have h2f : f2 = false := by
        cases f2 with
        | false => rfl
        | true => exact absurd (Or.inr (k2.mp rfl)) cf
      subst h1f
      subst h2f
      simp only [AW_k, AWk_1, x_aload_0, x_aloads_0, x_getf, x_iload_1, x_callv_2, x_if_eq, x_iload_3, x_if_ne, x_iload_4, x_push_i, x_push_l, x_ret, x_ret_i, x_ret_z, x_ret_l, x_ret_c, k_X10_taken_19, k_X10_taken_20, k_X10_taken_21, k_X10_taken_22, k_X10_taken_23, k_X10_taken_24, k_X10_taken_25, k_X10_taken_26, k_X10_taken_27, k_X10_taken_28, k_X10_taken_29, oE_some, Int.reduceToNat, Nat.reduceAdd, true_and, and_true, List.length_cons, List.length_nil, Option.toList_some, Option.toList_none, List.cons_append, List.nil_append, Nat.reduceLeDiff, Nat.le_refl, wdS_nil, wdS_i, wdS_l, wdS_r, wdS_n, wdS_s, o10, c27, hh, w10, w00, zI_f, ↓reduceIte]
def trA (tr : Nat) (bo : List Int) (x : Int) : Int := if 0 ≤ x ∧ x < (tr : Int) then bo.getD x.toNat 0 else -3
set_option maxHeartbeats 16000000 in
theorem x10_trace (d : Nat) {hp : HP} {n : Nat} {G : BitVec 64} {z : Int} {c : Nat} {ks : List Int} {es : List Int} {ik : Bool} {kn : Nat} {kG : BitVec 64} {kz : Int} {kc : Nat} {kks : List Int} {kes : List Int} {tc : Nat} {tb : List Int} {sc : Nat} {tl : List Int} {so : List Int} {le : List Int} {it : Nat → List (BitVec 64)} {he : List Int} {th : List Int} {sl : List Int} {tr : Nat} {bo : List Int} {x : Int} (hX : XI hp n G z c ks es ik kn kG kz kc kks kes tc tb sc tl so le it he th sl tr bo) (hx : w32 x = x) (R : PO) : callD (d + 100) 153 [mR 0, mI x] hp R ↔ R (some (mI (trA tr bo x))) hp := by
  obtain ⟨ra, ts, q0, q1, q2, q3, q4, q5, q6, q7, q8, q9, q10, q11, qk⟩ := hX
  have hR := q1.1
  have h1 := rw_1 hR
  have h6 := rw_6 hR
  have f1 := FC_le n
  have cR := rC0 hR
  have cA := rC1 hR
  have o0 : gF hp 0 10 0 = some (mR 1) := XO_F q0 0
  have o1 : gF hp 0 10 1 = some (mR ra) := XO_F q0 1
  have o2 : gF hp 0 10 2 = some (mL G) := XO_F q0 2
  have o3 : gF hp 0 10 3 = some (mI z) := XO_F q0 3
  have o4 : gF hp 0 10 4 = some (mR 2) := XO_F q0 4
  have o5 : gF hp 0 10 5 = some (mR 5) := XO_F q0 5
  have o6 : gF hp 0 10 6 = some (mR 10) := XO_F q0 6
  have o7 : gF hp 0 10 7 = some (mR 14) := XO_F q0 7
  have o8 : gF hp 0 10 8 = some (mR 17) := XO_F q0 8
  have o9 : gF hp 0 10 9 = some (mR 19) := XO_F q0 9
  have o10 : gF hp 0 10 10 = some (mR 27) := XO_F q0 10
  have o11 : gF hp 0 10 11 = some (mR 31) := XO_F q0 11
  have o12 : gF hp 0 10 12 = some (mR 33) := XO_F q0 12
  have o13 : gF hp 0 10 13 = some (mI (zI ik)) := XO_F q0 13
  have o14 : gF hp 0 10 14 = some (mI (kn : Int)) := XO_F q0 14
  have o15 : gF hp 0 10 15 = some (mL kG) := XO_F q0 15
  have o16 : gF hp 0 10 16 = some (mI kz) := XO_F q0 16
  have o17 : gF hp 0 10 17 = some (mR 34) := XO_F q0 17
  have cO := gC_of o0
  obtain ⟨b, k, m, nu, qa⟩ := q9
  have g0 : gF hp 31 0 0 = some (mI (tr : Int)) := qa.1.1
  have g1 : gF hp 31 0 1 = some (mR 32) := qa.1.2.1
  have a1 : gA hp 32 = some bo := qa.2.1
  have l30 : bo.length = 30 := qa.2.2.1
  have t30 : tr ≤ 30 := qa.2.2.2
  have bt : tr < 2147483648 := by omega
  unfold trA
  rw [callD_k]; simp only [entL_i, entL_l, entL_q, entL_s, entL_nil, n_X10_trace, u_X10_trace, m_X10_trace, rep_0, List.cons_append, List.nil_append, List.append_nil, List.length_cons, List.length_nil, Nat.reduceAdd, true_and]
  by_cases c0 : x < 0
  · rw [if_neg (by omega)]
    simp only [AW_k, AWk_1, x_iload_1, x_if_lt, x_aload_0, x_aloads_0, x_getf, x_icmp_lt, x_push_i, x_push_l, x_goto, x_iald, x_ialds, x_ret, x_ret_i, x_ret_z, x_ret_l, x_ret_c, k_X10_trace_0, k_X10_trace_1, k_X10_trace_2, k_X10_trace_3, k_X10_trace_4, k_X10_trace_5, k_X10_trace_6, k_X10_trace_7, k_X10_trace_8, k_X10_trace_9, k_X10_trace_10, k_X10_trace_11, k_X10_trace_12, k_X10_trace_13, k_X10_trace_14, oE_some, Int.reduceToNat, Nat.reduceAdd, true_and, and_true, List.length_cons, List.length_nil, Option.toList_some, Option.toList_none, List.cons_append, List.nil_append, Nat.reduceLeDiff, Nat.le_refl, wdS_nil, wdS_i, wdS_l, wdS_r, wdS_n, wdS_s, hx, c0, ↓reduceIte]
  · by_cases c1 : x < (tr : Int)
    · rw [if_pos (by omega)]
      obtain ⟨j, ej⟩ : ∃ j : Nat, x = (j : Int) := ⟨x.toNat, by omega⟩
      subst ej
      have bj : j < 2147483648 := by omega
      have ij : inB (j : Int) bo.length := by rw [l30]; exact inB_n (by omega) (by decide)
      rw [Int.toNat_natCast]
      simp only [AW_k, AWk_1, x_iload_1, x_if_lt, x_aload_0, x_aloads_0, x_getf, x_icmp_lt, x_push_i, x_push_l, x_goto, x_iald, x_ialds, x_ret, x_ret_i, x_ret_z, x_ret_l, x_ret_c, k_X10_trace_0, k_X10_trace_1, k_X10_trace_2, k_X10_trace_3, k_X10_trace_4, k_X10_trace_5, k_X10_trace_6, k_X10_trace_7, k_X10_trace_8, k_X10_trace_9, k_X10_trace_10, k_X10_trace_11, k_X10_trace_12, k_X10_trace_13, k_X10_trace_14, oE_some, Int.reduceToNat, Nat.reduceAdd, true_and, and_true, List.length_cons, List.length_nil, Option.toList_some, Option.toList_none, List.cons_append, List.nil_append, Nat.reduceLeDiff, Nat.le_refl, wdS_nil, wdS_i, wdS_l, wdS_r, wdS_n, wdS_s, hx, c0, o11, g0, w32_nat bt, c1, g1, a1, ij, w32_tn bj, Int.toNat_natCast, ↓reduceIte]
    · rw [if_neg (by omega)]
      simp only [AW_k, AWk_1, x_iload_1, x_if_lt, x_aload_0, x_aloads_0, x_getf, x_icmp_lt, x_push_i, x_push_l, x_goto, x_iald, x_ialds, x_ret, x_ret_i, x_ret_z, x_ret_l, x_ret_c, k_X10_trace_0, k_X10_trace_1, k_X10_trace_2, k_X10_trace_3, k_X10_trace_4, k_X10_trace_5, k_X10_trace_6, k_X10_trace_7, k_X10_trace_8, k_X10_trace_9, k_X10_trace_10, k_X10_trace_11, k_X10_trace_12, k_X10_trace_13, k_X10_trace_14, oE_some, Int.reduceToNat, Nat.reduceAdd, true_and, and_true, List.length_cons, List.length_nil, Option.toList_some, Option.toList_none, List.cons_append, List.nil_append, Nat.reduceLeDiff, Nat.le_refl, wdS_nil, wdS_i, wdS_l, wdS_r, wdS_n, wdS_s, hx, c0, o11, g0, w32_nat bt, c1, ↓reduceIte]
def myA (n : Nat) (G : BitVec 64) (c sc tc tr : Nat) (w : Int) : Int := if w = 0 then (n : Int) else if w = 1 then ((NA n : Nat) : Int) else if w = 2 then popI G else if w = 3 then cnt (isL n G) (FC n) else if w = 4 then sumF (fun i => if isL n G i = true then popN (dr n i) else 0) (FC n) else if w = 5 then (c : Int) else if w = 6 then (sc : Int) else if w = 7 then (tc : Int) else if w = 8 then (tr : Int) else -1
set_option maxHeartbeats 32000000 in
theorem x10_many (d : Nat) {hp : HP} {n : Nat} {G : BitVec 64} {z : Int} {c : Nat} {ks : List Int} {es : List Int} {ik : Bool} {kn : Nat} {kG : BitVec 64} {kz : Int} {kc : Nat} {kks : List Int} {kes : List Int} {tc : Nat} {tb : List Int} {sc : Nat} {tl : List Int} {so : List Int} {le : List Int} {it : Nat → List (BitVec 64)} {he : List Int} {th : List Int} {sl : List Int} {tr : Nat} {bo : List Int} {w : Int} (hX : XI hp n G z c ks es ik kn kG kz kc kks kes tc tb sc tl so le it he th sl tr bo) (hw : w32 w = w) (R : PO) : callD (d + 100) 154 [mR 0, mI w] hp R ↔ R (some (mI (myA n G c sc tc tr w))) hp := by
  obtain ⟨ra, ts, q0, q1, q2, q3, q4, q5, q6, q7, q8, q9, q10, q11, qk⟩ := hX
  have hR := q1.1
  have h1 := rw_1 hR
  have h6 := rw_6 hR
  have f1 := FC_le n
  have cR := rC0 hR
  have cA := rC1 hR
  have o0 : gF hp 0 10 0 = some (mR 1) := XO_F q0 0
  have o1 : gF hp 0 10 1 = some (mR ra) := XO_F q0 1
  have o2 : gF hp 0 10 2 = some (mL G) := XO_F q0 2
  have o3 : gF hp 0 10 3 = some (mI z) := XO_F q0 3
  have o4 : gF hp 0 10 4 = some (mR 2) := XO_F q0 4
  have o5 : gF hp 0 10 5 = some (mR 5) := XO_F q0 5
  have o6 : gF hp 0 10 6 = some (mR 10) := XO_F q0 6
  have o7 : gF hp 0 10 7 = some (mR 14) := XO_F q0 7
  have o8 : gF hp 0 10 8 = some (mR 17) := XO_F q0 8
  have o9 : gF hp 0 10 9 = some (mR 19) := XO_F q0 9
  have o10 : gF hp 0 10 10 = some (mR 27) := XO_F q0 10
  have o11 : gF hp 0 10 11 = some (mR 31) := XO_F q0 11
  have o12 : gF hp 0 10 12 = some (mR 33) := XO_F q0 12
  have o13 : gF hp 0 10 13 = some (mI (zI ik)) := XO_F q0 13
  have o14 : gF hp 0 10 14 = some (mI (kn : Int)) := XO_F q0 14
  have o15 : gF hp 0 10 15 = some (mL kG) := XO_F q0 15
  have o16 : gF hp 0 10 16 = some (mI kz) := XO_F q0 16
  have o17 : gF hp 0 10 17 = some (mR 34) := XO_F q0 17
  have cO := gC_of o0
  obtain ⟨b, k, m, nu, qa⟩ := q9
  have ga0 : gF hp 31 0 0 = some (mI (tr : Int)) := qa.1.1
  obtain ⟨⟨ft, ws, bg, wo, at_, av, qt, ql⟩, hc, bb, hb⟩ := q3
  have gt0 := qt.1.1
  have gm0 := q2.1.1.1
  have gs0 := q6.1.1
  unfold myA
  rw [callD_k]; simp only [entL_i, entL_l, entL_q, entL_s, entL_nil, n_X10_many, u_X10_many, m_X10_many, rep_0, List.cons_append, List.nil_append, List.append_nil, List.length_cons, List.length_nil, Nat.reduceAdd, true_and]
  by_cases c0 : w = 0
  · rw [if_pos c0]
    simp only [AW_k, AWk_1, x_iload_1, x_switch, AW_sw, AW_sw0, x_aload_0, x_aloads_0, x_getf, x_ret, x_ret_i, x_ret_z, x_ret_l, x_ret_c, x_call_1, x_callv_2, x_push_i, x_push_l, k_X10_many_0, k_X10_many_1, k_X10_many_2, k_X10_many_3, k_X10_many_4, k_X10_many_5, k_X10_many_6, k_X10_many_7, k_X10_many_8, k_X10_many_9, k_X10_many_10, k_X10_many_11, k_X10_many_12, k_X10_many_13, k_X10_many_14, k_X10_many_15, k_X10_many_16, k_X10_many_17, k_X10_many_18, k_X10_many_19, k_X10_many_20, k_X10_many_21, k_X10_many_22, k_X10_many_23, k_X10_many_24, k_X10_many_25, k_X10_many_26, k_X10_many_27, k_X10_many_28, k_X10_many_29, k_X10_many_30, k_X10_many_31, k_X10_many_32, k_X10_many_33, k_X10_many_34, k_X10_many_35, k_X10_many_36, k_X10_many_37, k_X10_many_38, k_X10_many_39, k_X10_many_40, k_X10_many_41, k_X10_many_42, k_X10_many_43, k_X10_many_44, oE_some, Int.reduceToNat, Nat.reduceAdd, true_and, and_true, List.length_cons, List.length_nil, Option.toList_some, Option.toList_none, List.cons_append, List.nil_append, Nat.reduceLeDiff, Nat.le_refl, wdS_nil, wdS_i, wdS_l, wdS_r, wdS_n, wdS_s, hw, c0, wz0, swT_cons, swT_nil, Int.reduceEq, o1, rw_n hR, ↓reduceIte]
  · rw [if_neg c0]
    by_cases c1 : w = 1
    · rw [if_pos c1]
      simp only [AW_k, AWk_1, x_iload_1, x_switch, AW_sw, AW_sw0, x_aload_0, x_aloads_0, x_getf, x_ret, x_ret_i, x_ret_z, x_ret_l, x_ret_c, x_call_1, x_callv_2, x_push_i, x_push_l, k_X10_many_0, k_X10_many_1, k_X10_many_2, k_X10_many_3, k_X10_many_4, k_X10_many_5, k_X10_many_6, k_X10_many_7, k_X10_many_8, k_X10_many_9, k_X10_many_10, k_X10_many_11, k_X10_many_12, k_X10_many_13, k_X10_many_14, k_X10_many_15, k_X10_many_16, k_X10_many_17, k_X10_many_18, k_X10_many_19, k_X10_many_20, k_X10_many_21, k_X10_many_22, k_X10_many_23, k_X10_many_24, k_X10_many_25, k_X10_many_26, k_X10_many_27, k_X10_many_28, k_X10_many_29, k_X10_many_30, k_X10_many_31, k_X10_many_32, k_X10_many_33, k_X10_many_34, k_X10_many_35, k_X10_many_36, k_X10_many_37, k_X10_many_38, k_X10_many_39, k_X10_many_40, k_X10_many_41, k_X10_many_42, k_X10_many_43, k_X10_many_44, oE_some, Int.reduceToNat, Nat.reduceAdd, true_and, and_true, List.length_cons, List.length_nil, Option.toList_some, Option.toList_none, List.cons_append, List.nil_append, Nat.reduceLeDiff, Nat.le_refl, wdS_nil, wdS_i, wdS_l, wdS_r, wdS_n, wdS_s, hw, c1, wz1, swT_cons, swT_nil, Int.reduceEq, o1, rw_arcs hR, rw_ac hR, ↓reduceIte]
    · rw [if_neg c1]
      by_cases c2 : w = 2
      · rw [if_pos c2]
        simp only [AW_k, AWk_1, x_iload_1, x_switch, AW_sw, AW_sw0, x_aload_0, x_aloads_0, x_getf, x_ret, x_ret_i, x_ret_z, x_ret_l, x_ret_c, x_call_1, x_callv_2, x_push_i, x_push_l, k_X10_many_0, k_X10_many_1, k_X10_many_2, k_X10_many_3, k_X10_many_4, k_X10_many_5, k_X10_many_6, k_X10_many_7, k_X10_many_8, k_X10_many_9, k_X10_many_10, k_X10_many_11, k_X10_many_12, k_X10_many_13, k_X10_many_14, k_X10_many_15, k_X10_many_16, k_X10_many_17, k_X10_many_18, k_X10_many_19, k_X10_many_20, k_X10_many_21, k_X10_many_22, k_X10_many_23, k_X10_many_24, k_X10_many_25, k_X10_many_26, k_X10_many_27, k_X10_many_28, k_X10_many_29, k_X10_many_30, k_X10_many_31, k_X10_many_32, k_X10_many_33, k_X10_many_34, k_X10_many_35, k_X10_many_36, k_X10_many_37, k_X10_many_38, k_X10_many_39, k_X10_many_40, k_X10_many_41, k_X10_many_42, k_X10_many_43, k_X10_many_44, oE_some, Int.reduceToNat, Nat.reduceAdd, true_and, and_true, List.length_cons, List.length_nil, Option.toList_some, Option.toList_none, List.cons_append, List.nil_append, Nat.reduceLeDiff, Nat.le_refl, wdS_nil, wdS_i, wdS_l, wdS_r, wdS_n, wdS_s, hw, c2, wz2, swT_cons, swT_nil, Int.reduceEq, o2, c_bits (d + 98), ↓reduceIte]
      · rw [if_neg c2]
        by_cases c3 : w = 3
        · rw [if_pos c3]
          simp only [AW_k, AWk_1, x_iload_1, x_switch, AW_sw, AW_sw0, x_aload_0, x_aloads_0, x_getf, x_ret, x_ret_i, x_ret_z, x_ret_l, x_ret_c, x_call_1, x_callv_2, x_push_i, x_push_l, k_X10_many_0, k_X10_many_1, k_X10_many_2, k_X10_many_3, k_X10_many_4, k_X10_many_5, k_X10_many_6, k_X10_many_7, k_X10_many_8, k_X10_many_9, k_X10_many_10, k_X10_many_11, k_X10_many_12, k_X10_many_13, k_X10_many_14, k_X10_many_15, k_X10_many_16, k_X10_many_17, k_X10_many_18, k_X10_many_19, k_X10_many_20, k_X10_many_21, k_X10_many_22, k_X10_many_23, k_X10_many_24, k_X10_many_25, k_X10_many_26, k_X10_many_27, k_X10_many_28, k_X10_many_29, k_X10_many_30, k_X10_many_31, k_X10_many_32, k_X10_many_33, k_X10_many_34, k_X10_many_35, k_X10_many_36, k_X10_many_37, k_X10_many_38, k_X10_many_39, k_X10_many_40, k_X10_many_41, k_X10_many_42, k_X10_many_43, k_X10_many_44, oE_some, Int.reduceToNat, Nat.reduceAdd, true_and, and_true, List.length_cons, List.length_nil, Option.toList_some, Option.toList_none, List.cons_append, List.nil_append, Nat.reduceLeDiff, Nat.le_refl, wdS_nil, wdS_i, wdS_l, wdS_r, wdS_n, wdS_s, hw, c3, wz3, swT_cons, swT_nil, Int.reduceEq, o1, o2, cR, c4_howManyClasses (d + 97) hR, ↓reduceIte]
        · rw [if_neg c3]
          by_cases c4 : w = 4
          · rw [if_pos c4]
            simp only [AW_k, AWk_1, x_iload_1, x_switch, AW_sw, AW_sw0, x_aload_0, x_aloads_0, x_getf, x_ret, x_ret_i, x_ret_z, x_ret_l, x_ret_c, x_call_1, x_callv_2, x_push_i, x_push_l, k_X10_many_0, k_X10_many_1, k_X10_many_2, k_X10_many_3, k_X10_many_4, k_X10_many_5, k_X10_many_6, k_X10_many_7, k_X10_many_8, k_X10_many_9, k_X10_many_10, k_X10_many_11, k_X10_many_12, k_X10_many_13, k_X10_many_14, k_X10_many_15, k_X10_many_16, k_X10_many_17, k_X10_many_18, k_X10_many_19, k_X10_many_20, k_X10_many_21, k_X10_many_22, k_X10_many_23, k_X10_many_24, k_X10_many_25, k_X10_many_26, k_X10_many_27, k_X10_many_28, k_X10_many_29, k_X10_many_30, k_X10_many_31, k_X10_many_32, k_X10_many_33, k_X10_many_34, k_X10_many_35, k_X10_many_36, k_X10_many_37, k_X10_many_38, k_X10_many_39, k_X10_many_40, k_X10_many_41, k_X10_many_42, k_X10_many_43, k_X10_many_44, oE_some, Int.reduceToNat, Nat.reduceAdd, true_and, and_true, List.length_cons, List.length_nil, Option.toList_some, Option.toList_none, List.cons_append, List.nil_append, Nat.reduceLeDiff, Nat.le_refl, wdS_nil, wdS_i, wdS_l, wdS_r, wdS_n, wdS_s, hw, c4, wz4, swT_cons, swT_nil, Int.reduceEq, o1, o2, cR, c4_howManyRightUnder (d + 97) hR, ↓reduceIte]
          · rw [if_neg c4]
            by_cases c5 : w = 5
            · rw [if_pos c5]
              simp only [AW_k, AWk_1, x_iload_1, x_switch, AW_sw, AW_sw0, x_aload_0, x_aloads_0, x_getf, x_ret, x_ret_i, x_ret_z, x_ret_l, x_ret_c, x_call_1, x_callv_2, x_push_i, x_push_l, k_X10_many_0, k_X10_many_1, k_X10_many_2, k_X10_many_3, k_X10_many_4, k_X10_many_5, k_X10_many_6, k_X10_many_7, k_X10_many_8, k_X10_many_9, k_X10_many_10, k_X10_many_11, k_X10_many_12, k_X10_many_13, k_X10_many_14, k_X10_many_15, k_X10_many_16, k_X10_many_17, k_X10_many_18, k_X10_many_19, k_X10_many_20, k_X10_many_21, k_X10_many_22, k_X10_many_23, k_X10_many_24, k_X10_many_25, k_X10_many_26, k_X10_many_27, k_X10_many_28, k_X10_many_29, k_X10_many_30, k_X10_many_31, k_X10_many_32, k_X10_many_33, k_X10_many_34, k_X10_many_35, k_X10_many_36, k_X10_many_37, k_X10_many_38, k_X10_many_39, k_X10_many_40, k_X10_many_41, k_X10_many_42, k_X10_many_43, k_X10_many_44, oE_some, Int.reduceToNat, Nat.reduceAdd, true_and, and_true, List.length_cons, List.length_nil, Option.toList_some, Option.toList_none, List.cons_append, List.nil_append, Nat.reduceLeDiff, Nat.le_refl, wdS_nil, wdS_i, wdS_l, wdS_r, wdS_n, wdS_s, hw, c5, wz5, swT_cons, swT_nil, Int.reduceEq, o4, gm0, ↓reduceIte]
            · rw [if_neg c5]
              by_cases c6 : w = 6
              · rw [if_pos c6]
                simp only [AW_k, AWk_1, x_iload_1, x_switch, AW_sw, AW_sw0, x_aload_0, x_aloads_0, x_getf, x_ret, x_ret_i, x_ret_z, x_ret_l, x_ret_c, x_call_1, x_callv_2, x_push_i, x_push_l, k_X10_many_0, k_X10_many_1, k_X10_many_2, k_X10_many_3, k_X10_many_4, k_X10_many_5, k_X10_many_6, k_X10_many_7, k_X10_many_8, k_X10_many_9, k_X10_many_10, k_X10_many_11, k_X10_many_12, k_X10_many_13, k_X10_many_14, k_X10_many_15, k_X10_many_16, k_X10_many_17, k_X10_many_18, k_X10_many_19, k_X10_many_20, k_X10_many_21, k_X10_many_22, k_X10_many_23, k_X10_many_24, k_X10_many_25, k_X10_many_26, k_X10_many_27, k_X10_many_28, k_X10_many_29, k_X10_many_30, k_X10_many_31, k_X10_many_32, k_X10_many_33, k_X10_many_34, k_X10_many_35, k_X10_many_36, k_X10_many_37, k_X10_many_38, k_X10_many_39, k_X10_many_40, k_X10_many_41, k_X10_many_42, k_X10_many_43, k_X10_many_44, oE_some, Int.reduceToNat, Nat.reduceAdd, true_and, and_true, List.length_cons, List.length_nil, Option.toList_some, Option.toList_none, List.cons_append, List.nil_append, Nat.reduceLeDiff, Nat.le_refl, wdS_nil, wdS_i, wdS_l, wdS_r, wdS_n, wdS_s, hw, c6, wz6, swT_cons, swT_nil, Int.reduceEq, o8, gs0, ↓reduceIte]
              · rw [if_neg c6]
                by_cases c7 : w = 7
                · rw [if_pos c7]
                  simp only [AW_k, AWk_1, x_iload_1, x_switch, AW_sw, AW_sw0, x_aload_0, x_aloads_0, x_getf, x_ret, x_ret_i, x_ret_z, x_ret_l, x_ret_c, x_call_1, x_callv_2, x_push_i, x_push_l, k_X10_many_0, k_X10_many_1, k_X10_many_2, k_X10_many_3, k_X10_many_4, k_X10_many_5, k_X10_many_6, k_X10_many_7, k_X10_many_8, k_X10_many_9, k_X10_many_10, k_X10_many_11, k_X10_many_12, k_X10_many_13, k_X10_many_14, k_X10_many_15, k_X10_many_16, k_X10_many_17, k_X10_many_18, k_X10_many_19, k_X10_many_20, k_X10_many_21, k_X10_many_22, k_X10_many_23, k_X10_many_24, k_X10_many_25, k_X10_many_26, k_X10_many_27, k_X10_many_28, k_X10_many_29, k_X10_many_30, k_X10_many_31, k_X10_many_32, k_X10_many_33, k_X10_many_34, k_X10_many_35, k_X10_many_36, k_X10_many_37, k_X10_many_38, k_X10_many_39, k_X10_many_40, k_X10_many_41, k_X10_many_42, k_X10_many_43, k_X10_many_44, oE_some, Int.reduceToNat, Nat.reduceAdd, true_and, and_true, List.length_cons, List.length_nil, Option.toList_some, Option.toList_none, List.cons_append, List.nil_append, Nat.reduceLeDiff, Nat.le_refl, wdS_nil, wdS_i, wdS_l, wdS_r, wdS_n, wdS_s, hw, c7, show w32 7 = 7 from rfl, swT_cons, swT_nil, Int.reduceEq, o5, gt0, ↓reduceIte]
                · rw [if_neg c7]
                  by_cases c8 : w = 8
                  · rw [if_pos c8]
                    simp only [AW_k, AWk_1, x_iload_1, x_switch, AW_sw, AW_sw0, x_aload_0, x_aloads_0, x_getf, x_ret, x_ret_i, x_ret_z, x_ret_l, x_ret_c, x_call_1, x_callv_2, x_push_i, x_push_l, k_X10_many_0, k_X10_many_1, k_X10_many_2, k_X10_many_3, k_X10_many_4, k_X10_many_5, k_X10_many_6, k_X10_many_7, k_X10_many_8, k_X10_many_9, k_X10_many_10, k_X10_many_11, k_X10_many_12, k_X10_many_13, k_X10_many_14, k_X10_many_15, k_X10_many_16, k_X10_many_17, k_X10_many_18, k_X10_many_19, k_X10_many_20, k_X10_many_21, k_X10_many_22, k_X10_many_23, k_X10_many_24, k_X10_many_25, k_X10_many_26, k_X10_many_27, k_X10_many_28, k_X10_many_29, k_X10_many_30, k_X10_many_31, k_X10_many_32, k_X10_many_33, k_X10_many_34, k_X10_many_35, k_X10_many_36, k_X10_many_37, k_X10_many_38, k_X10_many_39, k_X10_many_40, k_X10_many_41, k_X10_many_42, k_X10_many_43, k_X10_many_44, oE_some, Int.reduceToNat, Nat.reduceAdd, true_and, and_true, List.length_cons, List.length_nil, Option.toList_some, Option.toList_none, List.cons_append, List.nil_append, Nat.reduceLeDiff, Nat.le_refl, wdS_nil, wdS_i, wdS_l, wdS_r, wdS_n, wdS_s, hw, c8, show w32 8 = 8 from rfl, swT_cons, swT_nil, Int.reduceEq, o11, ga0, ↓reduceIte]
                  · rw [if_neg c8]
                    simp only [AW_k, AWk_1, x_iload_1, x_switch, AW_sw, AW_sw0, x_aload_0, x_aloads_0, x_getf, x_ret, x_ret_i, x_ret_z, x_ret_l, x_ret_c, x_call_1, x_callv_2, x_push_i, x_push_l, k_X10_many_0, k_X10_many_1, k_X10_many_2, k_X10_many_3, k_X10_many_4, k_X10_many_5, k_X10_many_6, k_X10_many_7, k_X10_many_8, k_X10_many_9, k_X10_many_10, k_X10_many_11, k_X10_many_12, k_X10_many_13, k_X10_many_14, k_X10_many_15, k_X10_many_16, k_X10_many_17, k_X10_many_18, k_X10_many_19, k_X10_many_20, k_X10_many_21, k_X10_many_22, k_X10_many_23, k_X10_many_24, k_X10_many_25, k_X10_many_26, k_X10_many_27, k_X10_many_28, k_X10_many_29, k_X10_many_30, k_X10_many_31, k_X10_many_32, k_X10_many_33, k_X10_many_34, k_X10_many_35, k_X10_many_36, k_X10_many_37, k_X10_many_38, k_X10_many_39, k_X10_many_40, k_X10_many_41, k_X10_many_42, k_X10_many_43, k_X10_many_44, oE_some, Int.reduceToNat, Nat.reduceAdd, true_and, and_true, List.length_cons, List.length_nil, Option.toList_some, Option.toList_none, List.cons_append, List.nil_append, Nat.reduceLeDiff, Nat.le_refl, wdS_nil, wdS_i, wdS_l, wdS_r, wdS_n, wdS_s, hw, c0, c1, c2, c3, c4, c5, c6, c7, c8, swT_cons, swT_nil, ↓reduceIte]
