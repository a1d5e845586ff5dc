/-! ===== the reference reads a text: one, whole ===== -/
set_option maxHeartbeats 32000000 in
theorem t_one (d : Nat) {n : Nat} {G : BitVec 64} {z : Int} {c : Nat} {ks : List Int} {es : List Int} {ik : Bool} {kn : Nat} {kG : BitVec 64} {kz : Int} {kc : Nat} {kks : List Int} {kes : List Int} {tc : Nat} {tb : List Int} {sc : Nat} {tl : List Int} {so : List Int} {le : List Int} {it : Nat → List (BitVec 64)} {he : List Int} {th : List Int} {sl : List Int} {tr : Nat} {bo : List Int} {o : Nat} {V : Nat → Int} {low : PSt → BitVec 64 × PSt} (ho : o ≤ 3) (hV : ∀ k, k < (TT (bO tb) tc).length → V k = tV (bO tb) (TT (bO tb) tc) k) (hlow : o < 3 → TC n G z c ks es ik kn kG kz kc kks kes tc tb sc tl so le it he th sl tr bo (d + 8) 221 (o + 1) low) : TC n G z c ks es ik kn kG kz kc kks kes tc tb sc tl so le it he th sl tr bo (d + 9) 219 o (oneP n (tW (bO tb) (TT (bO tb) tc)) (tB tc (TT (bO tb) tc)) V low o) := by
  intro hp k cs r h hl
  have hk := h.2.2.1
  have cK := (TS_RD h).2.2.2
  have hL : (TT (bO tb) tc).length ≤ 200 := tks_len (b := bO tb) (tc := tc) 200 0
  obtain ⟨h1, k1, m, u1, u2, u3, u4, u5, nots⟩ := t_nots d (o := o) 200 k 0 hp cs h (by omega)
  have hk1 := u1.2.2.1
  have cK1 := (TS_RD u1).2.2.2
  have ga28 := u1.2.2.2.1.2.2.2.2
  rw [zI_f] at ga28
  have g27 := u1.2.2.2.1.2.2.2.1
  have bo3 : o < 2147483648 := by omega
  have c9 := fun R => t_is (d + 3) (j := 9) u1 (by decide) (by decide) R
  rw [show (100 + 9 : Nat) = 109 from rfl, show cdJ 9 = 40 from rfl] at c9
  have st : ∀ R : PO, callD (d + 9) 219 [mR 54] hp R ↔ AW (d + 8) [] 219 R 10 [some (mR 54), some (mI (m : Int)), none] [] h1 (0, 0) := by
    intro R
    rw [← nots R]
    rw [callD_k]; simp only [entL_i, entL_l, entL_q, entL_s, entL_nil, n_X11_one, u_X11_one, m_X11_one, rep_2, List.cons_append, List.nil_append, List.append_nil, List.length_cons, List.length_nil, Nat.reduceAdd, true_and]
    simp only [AW_k, AWk_1, x_push_i, x_push_l, x_istore_1, unl_i, unl_l, unl_q, unl_r, unl_s, unl_n, k_X11_one_0, k_X11_one_1, oE_some, Int.reduceToNat, Nat.reduceAdd, true_and, and_true, List.length_cons, List.length_nil, Option.toList_some, Option.toList_none, List.cons_append, List.nil_append, Nat.reduceLeDiff, Nat.le_refl, wdS_nil, wdS_i, wdS_l, wdS_r, wdS_n, wdS_s]
    exact Iff.rfl
  have e : ∀ H : BitVec 64 × PSt, (if tW (bO tb) (TT (bO tb) tc) k1 = 40 ∧ o < 3 then ((low (psP (tW (bO tb) (TT (bO tb) tc)) (tB tc (TT (bO tb) tc)) true (-1, k1))).1, psP (tW (bO tb) (TT (bO tb) tc)) (tB tc (TT (bO tb) tc)) (decide (tW (bO tb) (TT (bO tb) tc) (low (psP (tW (bO tb) (TT (bO tb) tc)) (tB tc (TT (bO tb) tc)) true (-1, k1))).2.2 = 41)) (low (psP (tW (bO tb) (TT (bO tb) tc)) (tB tc (TT (bO tb) tc)) true (-1, k1))).2) else cmpP n (tW (bO tb) (TT (bO tb) tc)) (tB tc (TT (bO tb) tc)) V (-1, k1)) = H → oneP n (tW (bO tb) (TT (bO tb) tc)) (tB tc (TT (bO tb) tc)) V low o (-1, k) = (if decide (m % 2 = 1) = true then aL n &&& ~~~ H.1 else H.1, H.2) := by
    intro H hH
    subst hH
    unfold oneP
    rw [show false = decide (0 % 2 = 1) from rfl, u5]
  by_cases c40 : tW (bO tb) (TT (bO tb) tc) k1 = 40
  · rw [decide_eq_true c40] at c9
    have w0 : tW (bO tb) (TT (bO tb) tc) k1 ≠ 0 := by rw [c40]; decide
    have kL1 : k1 < (TT (bO tb) tc).length := by
      apply Decidable.byContradiction
      intro q
      apply w0
      unfold tW
      rw [if_neg q]
    by_cases o3 : o < 3
    · rw [e _ (if_pos ⟨c40, o3⟩), psP_t w0]
      have n3 : ¬ (o : Int) = 3 := by omega
      have x1 := TS_28 false u1
      have g28 := x1.2.2.2.1.2.2.2.2
      have w27 : gF (pF h1 54 11 28 (mI (zI false))) 54 11 27 = some (mI (o : Int)) := x1.2.2.2.1.2.2.2.1
      have eo : (o : Int) + 1 = ((o + 1 : Nat) : Int) := by omega
      have x2 := TS_27 (o + 1) x1
      have cK2 := (TS_RD x2).2.2.2
      obtain ⟨h3, y1, y2, y3⟩ := t_next (d + 6) x2 kL1
      have cK3 := (TS_RD y1).2.2.2
      obtain ⟨h4, k4, cs4, o4, wr4, z1, z2, z3, z4, z5, z6, z7⟩ := hlow o3 h3 (k1 + 1) cs (r + m) y1 (by omega)
      have hk4 := z1.2.2.1
      have cK4 := (TS_RD z1).2.2.2
      have g28' := z1.2.2.2.1.2.2.2.2
      have F4 := Fr_trans (Fr_trans (Fr_trans (Fr_trans u4 Fr_o54) Fr_o54) y2) z4
      have go : ∀ R : PO, AW (d + 8) [] 219 R 10 [some (mR 54), some (mI (m : Int)), none] [] h1 (0, 0) ↔ AW (d + 8) [] 219 R 37 [some (mR 54), some (mI (m : Int)), none] [] h4 (0, 0) := by
        intro R
        rw [zI_f] at g28 w27 cK2 y3
        simp only [AW_k, AWk_1, x_aload_0, x_aloads_0, x_ldcs, x_callv_2, x_if_eq, x_getf, x_push_i, x_push_l, x_icmp_ne, x_goto, x_putf_z, x_ret, x_ret_i, x_ret_z, x_ret_l, x_ret_c, x_dup_i, x_dup_r, x_dup_q, x_iadd, x_putf_i, x_callv_1, k_X11_one_10, k_X11_one_11, k_X11_one_12, k_X11_one_13, k_X11_one_14, k_X11_one_15, k_X11_one_16, k_X11_one_17, k_X11_one_18, k_X11_one_19, k_X11_one_20, k_X11_one_21, k_X11_one_22, k_X11_one_23, k_X11_one_24, k_X11_one_25, k_X11_one_26, k_X11_one_27, k_X11_one_28, k_X11_one_29, k_X11_one_30, k_X11_one_31, k_X11_one_32, k_X11_one_33, k_X11_one_34, k_X11_one_35, k_X11_one_36, oE_some, Int.reduceToNat, Nat.reduceAdd, true_and, and_true, List.length_cons, List.length_nil, Option.toList_some, Option.toList_none, List.cons_append, List.nil_append, Nat.reduceLeDiff, Nat.le_refl, wdS_nil, wdS_i, wdS_l, wdS_r, wdS_n, wdS_s, cK1, c9, zI_t, w10, Nat.reduceLT, g27, w32_nat bo3, show w32 3 = 3 from rfl, n3, g28, w00, w27, eo, cK2, y3, cK3, z7, true_or, or_true, ga28, ↓reduceIte]
      have L4 : (low (-1, k1 + 1)).2 = (if wr4 = true then (((tB tc (TT (bO tb) tc) k4 : Nat) : Int), k4) else (-1, k4)) := by
        cases wr4 with
        | true => exact z6.1 rfl
        | false => exact (z6.2 rfl).1
      cases wr4 with
      | true =>
        rw [if_pos rfl] at L4
        have v1 := TS_28 true z1
        have g28'' := v1.2.2.2.1.2.2.2.2
        refine ⟨_, k4, cs4, o4, true, v1, (fun q => by cases q), by omega, Fr_trans F4 Fr_o54, by omega, ⟨fun _ => ?_, (fun q => by cases q)⟩, fun R => (st R).trans ((go R).trans ?_)⟩
        · show psP _ _ _ _ = _
          rw [L4, psP_sB]
        · rw [zI_t] at g28' g28''
          simp only [AW_k, AWk_1, x_aload_0, x_aloads_0, x_getf, x_if_ne, x_ldcs, x_callv_2, x_push_i, x_push_l, x_goto, x_putf_z, x_if_eq, x_ret, x_ret_i, x_ret_z, x_ret_l, x_ret_c, k_X11_one_37, k_X11_one_38, k_X11_one_39, k_X11_one_40, k_X11_one_41, k_X11_one_42, k_X11_one_43, k_X11_one_44, k_X11_one_45, k_X11_one_46, k_X11_one_47, k_X11_one_48, k_X11_one_49, k_X11_one_50, k_X11_one_51, k_X11_one_52, oE_some, Int.reduceToNat, Nat.reduceAdd, true_and, and_true, List.length_cons, List.length_nil, Option.toList_some, Option.toList_none, List.cons_append, List.nil_append, Nat.reduceLeDiff, Nat.le_refl, wdS_nil, wdS_i, wdS_l, wdS_r, wdS_n, wdS_s, g28', w10, g28'', zI_t, true_or, or_true, ga28, ↓reduceIte]
      | false =>
        rw [if_neg (by decide)] at L4
        have oo := z2 rfl
        subst oo
        have c10 := fun R => t_is (d + 3) (j := 10) z1 (by decide) (by decide) R
        rw [show (100 + 10 : Nat) = 110 from rfl, show cdJ 10 = 41 from rfl] at c10
        rw [zI_f] at g28'
        by_cases c41 : tW (bO tb) (TT (bO tb) tc) k4 = 41
        · rw [decide_eq_true c41] at c10
          have w4 : tW (bO tb) (TT (bO tb) tc) k4 ≠ 0 := by rw [c41]; decide
          have kL4 : k4 < (TT (bO tb) tc).length := by
            apply Decidable.byContradiction
            intro q
            apply w4
            unfold tW
            rw [if_neg q]
          have v1 := TS_28 false z1
          have g28'' := v1.2.2.2.1.2.2.2.2
          have w27' : gF (pF h4 54 11 28 (mI (zI false))) 54 11 27 = some (mI ((o + 1 : Nat) : Int)) := v1.2.2.2.1.2.2.2.1
          have eo' : ((o + 1 : Nat) : Int) - 1 = (o : Int) := by omega
          have v2 := TS_27 o v1
          have cK5 := (TS_RD v2).2.2.2
          obtain ⟨h5, a1, a2, a3⟩ := t_next (d + 6) v2 kL4
          have hT : TR n tb tc ((low (-1, k1 + 1)).1, psP (tW (bO tb) (TT (bO tb) tc)) (tB tc (TT (bO tb) tc)) (decide (tW (bO tb) (TT (bO tb) tc) (low (-1, k1 + 1)).2.2 = 41)) (low (-1, k1 + 1)).2) cs (k4 + 1) cs4 false := by
            refine ⟨(fun q => by cases q), fun _ => ⟨?_, (z6.2 rfl).2⟩⟩
            show psP _ _ _ _ = _
            rw [L4]
            show psP _ _ (decide (tW (bO tb) (TT (bO tb) tc) k4 = 41)) (-1, k4) = _
            rw [decide_eq_true c41, psP_t w4]
          obtain ⟨h6, cs6, b1, b2, b3, b4, b5⟩ := t_tail d (r := r) (m := m) a1 (by omega) hT
          refine ⟨h6, k4 + 1, cs6, o, false, b1, fun _ => rfl, by omega, Fr_trans (Fr_trans (Fr_trans (Fr_trans F4 Fr_o54) Fr_o54) a2) b2, b3, b4, fun R => (st R).trans ((go R).trans ?_)⟩
          rw [← b5 R]
          rw [zI_f] at g28'' w27' cK5 a3
          simp only [AW_k, AWk_1, x_aload_0, x_aloads_0, x_getf, x_if_ne, x_ldcs, x_callv_2, x_push_i, x_push_l, x_goto, x_putf_z, x_if_eq, x_ret, x_ret_i, x_ret_z, x_ret_l, x_ret_c, x_dup_i, x_dup_r, x_dup_q, x_isub, x_putf_i, x_callv_1, k_X11_one_37, k_X11_one_38, k_X11_one_39, k_X11_one_40, k_X11_one_41, k_X11_one_42, k_X11_one_43, k_X11_one_44, k_X11_one_45, k_X11_one_46, k_X11_one_47, k_X11_one_48, k_X11_one_49, k_X11_one_50, k_X11_one_51, k_X11_one_52, k_X11_one_53, k_X11_one_54, k_X11_one_55, k_X11_one_56, k_X11_one_57, k_X11_one_58, k_X11_one_59, k_X11_one_60, k_X11_one_61, oE_some, Int.reduceToNat, Nat.reduceAdd, true_and, and_true, List.length_cons, List.length_nil, Option.toList_some, Option.toList_none, List.cons_append, List.nil_append, Nat.reduceLeDiff, Nat.le_refl, wdS_nil, wdS_i, wdS_l, wdS_r, wdS_n, wdS_s, g28', w00, w10, cK4, c10, zI_t, Nat.reduceLT, g28'', w27', eo', cK5, a3, true_or, or_true, ga28, ↓reduceIte]
        · rw [decide_eq_false c41] at c10
          have v1 := TS_28 true z1
          have g28'' := v1.2.2.2.1.2.2.2.2
          refine ⟨_, k4, cs4, o + 1, true, v1, (fun q => by cases q), by omega, Fr_trans F4 Fr_o54, by omega, ⟨fun _ => ?_, (fun q => by cases q)⟩, fun R => (st R).trans ((go R).trans ?_)⟩
          · show psP _ _ _ _ = _
            rw [L4]
            show psP _ _ (decide (tW (bO tb) (TT (bO tb) tc) k4 = 41)) (-1, k4) = _
            rw [decide_eq_false c41, psP_f]
          · rw [zI_t] at g28''
            simp only [AW_k, AWk_1, x_aload_0, x_aloads_0, x_getf, x_if_ne, x_ldcs, x_callv_2, x_push_i, x_push_l, x_goto, x_putf_z, x_if_eq, x_ret, x_ret_i, x_ret_z, x_ret_l, x_ret_c, k_X11_one_37, k_X11_one_38, k_X11_one_39, k_X11_one_40, k_X11_one_41, k_X11_one_42, k_X11_one_43, k_X11_one_44, k_X11_one_45, k_X11_one_46, k_X11_one_47, k_X11_one_48, k_X11_one_49, k_X11_one_50, k_X11_one_51, k_X11_one_52, oE_some, Int.reduceToNat, Nat.reduceAdd, true_and, and_true, List.length_cons, List.length_nil, Option.toList_some, Option.toList_none, List.cons_append, List.nil_append, Nat.reduceLeDiff, Nat.le_refl, wdS_nil, wdS_i, wdS_l, wdS_r, wdS_n, wdS_s, g28', w00, w10, cK4, c10, zI_f, zI_t, Nat.reduceLT, g28'', true_or, or_true, ga28, ↓reduceIte]
    · rw [e _ (if_neg (fun q => o3 q.2))]
      have e3 : o = 3 := by omega
      subst e3
      have x1 := TS_28 true u1
      have g28 := x1.2.2.2.1.2.2.2.2
      refine ⟨_, k1, cs, 3, true, x1, (fun q => by cases q), by omega, Fr_trans u4 Fr_o54, by omega, ⟨fun _ => ?_, (fun q => by cases q)⟩, fun R => (st R).trans ?_⟩
      · show psP _ _ _ (psP _ _ _ (psP _ _ (isVl (tW (bO tb) (TT (bO tb) tc) k1)) (-1, k1))) = _
        rw [c40, show isVl 40 = false from rfl, psP_f, psP_sB, psP_sB]
      · rw [zI_t] at g28
        simp only [AW_k, AWk_1, x_aload_0, x_aloads_0, x_ldcs, x_callv_2, x_if_eq, x_getf, x_push_i, x_push_l, x_icmp_ne, x_goto, x_putf_z, x_ret, x_ret_i, x_ret_z, x_ret_l, x_ret_c, k_X11_one_10, k_X11_one_11, k_X11_one_12, k_X11_one_13, k_X11_one_14, k_X11_one_15, k_X11_one_16, k_X11_one_17, k_X11_one_18, k_X11_one_19, k_X11_one_20, k_X11_one_21, k_X11_one_22, k_X11_one_23, k_X11_one_24, k_X11_one_25, k_X11_one_26, oE_some, Int.reduceToNat, Nat.reduceAdd, true_and, and_true, List.length_cons, List.length_nil, Option.toList_some, Option.toList_none, List.cons_append, List.nil_append, Nat.reduceLeDiff, Nat.le_refl, wdS_nil, wdS_i, wdS_l, wdS_r, wdS_n, wdS_s, cK1, c9, zI_t, w10, Nat.reduceLT, g27, w32_nat bo3, show w32 3 = 3 from rfl, show ((3 : Nat) : Int) = 3 from rfl, g28, true_or, or_true, ga28, ↓reduceIte]
  · rw [decide_eq_false c40] at c9
    rw [e _ (if_neg (fun q => c40 q.1))]
    obtain ⟨h4, k4, cs4, o4, wr4, z1, z2, z3, z4, z5, z6, z7⟩ := t_compared d (o := o) (V := V) hV h1 k1 cs (r + m) u1 (by omega)
    obtain ⟨h6, cs6, b1, b2, b3, b4, b5⟩ := t_tail d (r := r) (m := m) z1 z5 z6
    refine ⟨h6, k4, cs6, o4, wr4, b1, z2, by omega, Fr_trans (Fr_trans u4 z4) b2, b3, b4, fun R => (st R).trans ?_⟩
    rw [← b5 R]
    simp only [AW_k, AWk_1, x_aload_0, x_aloads_0, x_ldcs, x_callv_2, x_if_eq, x_callv_1, k_X11_one_10, k_X11_one_11, k_X11_one_12, k_X11_one_13, k_X11_one_62, k_X11_one_63, oE_some, Int.reduceToNat, Nat.reduceAdd, true_and, and_true, List.length_cons, List.length_nil, Option.toList_some, Option.toList_none, List.cons_append, List.nil_append, Nat.reduceLeDiff, Nat.le_refl, wdS_nil, wdS_i, wdS_l, wdS_r, wdS_n, wdS_s, cK1, c9, zI_f, w00, Nat.reduceLT, z7, true_or, or_true, ga28, ↓reduceIte]
