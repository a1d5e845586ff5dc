/-! ===== the reference's collapse ===== -/
theorem mt_jn {n i j : Nat} (h1 : 1 ≤ n) (h6 : n ≤ 6) (hi : i < FC n) (hj : j < FC n) : blw n (mt n i j) (jn n i j) = true := by
  rw [mt_E h1 h6 hi hj, jn_E h1 h6 hi hj]
  obtain ⟨a1, a2, a3, a4⟩ := mtE_ok h1 h6 hi hj
  obtain ⟨b1, b2, b3, b4⟩ := jnE_ok h1 h6 hi hj
  exact blw_trans a2 b2
set_option maxHeartbeats 16000000 in
theorem m_colIn (d : Nat) {hp : HP} {n u tp p : Nat} (hA : MA hp n) (hu : u < FC n) (htp : tp < FC n) (e : upP n tp u = some p) (y1 y2 : Int) (R : PO) : ∀ m q, q + m = p → (AWh (d + 99) [] 200 R 22 [some (mR 54), some (mI y1), some (mI y2), some (mI ((num n u : Nat) : Int)), some (mI ((num n tp : Nat) : Int)), some (mI (q : Int))] [] hp (0, 0) ↔ AWh (d + 99) [] 200 R 22 [some (mR 54), some (mI y1), some (mI y2), some (mI ((num n u : Nat) : Int)), some (mI ((num n tp : Nat) : Int)), some (mI (p : Int))] [] hp (0, 0)) := by
  have hK := hA.1
  have cK := cM hK
  have h1 := hK.1.1
  have h6 := hK.1.2
  obtain ⟨a, b, c⟩ := upP_some e
  intro m
  induction m with
  | zero => intro q hq; rw [show q = p by omega]
  | succ m ih =>
    intro q hq
    have hq1 : q < n - 1 := by omega
    have hbs := bs_ok h1 h6 hu hq1
    have hl := fst_least e q (Nat.zero_le _) (by omega)
    rw [← ih (q + 1) (by omega)]
    have bq : ((q : Int) + 1) = ((q + 1 : Nat) : Int) := by omega
    cases hd : dn n u q with
    | true =>
      rw [AWh_k, k_X11_collapse_22]
      simp only [AW_k, AWk_1, x_aload_0, x_aloads_0, x_iload_3, x_iload_5, x_callv_3, x_if_ne, x_iload_4, x_iinc_5, x_goto, unl_i, unl_l, unl_q, unl_r, unl_s, unl_n, k_X11_collapse_22, k_X11_collapse_23, k_X11_collapse_24, k_X11_collapse_25, k_X11_collapse_26, k_X11_collapse_27, k_X11_collapse_28, k_X11_collapse_29, k_X11_collapse_30, k_X11_collapse_31, k_X11_collapse_32, k_X11_collapse_33, k_X11_collapse_34, k_X11_collapse_35, k_X11_collapse_36, k_X11_collapse_37, oE_some, Int.reduceToNat, Nat.reduceAdd, true_and, and_true, List.length_cons, List.length_nil, Option.toList_some, Option.toList_none, List.cons_append, List.nil_append, Nat.reduceLeDiff, Nat.le_refl, wdS_nil, wdS_i, wdS_l, wdS_r, wdS_n, wdS_s, cK, m_isDrop (d + 97) hK hu hq1, hd, zI, w10, ↓reduceIte]
      rw [bq]
    | false =>
      rw [hd] at hl
      have hb : blw n (bs n u q) tp = false := hl
      rw [AWh_k, k_X11_collapse_22]
      simp only [AW_k, AWk_1, x_aload_0, x_aloads_0, x_iload_3, x_iload_5, x_callv_3, x_if_ne, x_iload_4, x_iinc_5, x_goto, unl_i, unl_l, unl_q, unl_r, unl_s, unl_n, k_X11_collapse_22, k_X11_collapse_23, k_X11_collapse_24, k_X11_collapse_25, k_X11_collapse_26, k_X11_collapse_27, k_X11_collapse_28, k_X11_collapse_29, k_X11_collapse_30, k_X11_collapse_31, k_X11_collapse_32, k_X11_collapse_33, k_X11_collapse_34, k_X11_collapse_35, k_X11_collapse_36, k_X11_collapse_37, oE_some, Int.reduceToNat, Nat.reduceAdd, true_and, and_true, List.length_cons, List.length_nil, Option.toList_some, Option.toList_none, List.cons_append, List.nil_append, Nat.reduceLeDiff, Nat.le_refl, wdS_nil, wdS_i, wdS_l, wdS_r, wdS_n, wdS_s, cK, m_isDrop (d + 97) hK hu hq1, m_swapAt (d + 97) hK hu hq1, m_isBelow (d + 96) hK hbs htp, hd, hb, zI, w10, w00, ↓reduceIte, Bool.false_eq_true]
      rw [bq]
set_option maxHeartbeats 16000000 in
theorem m_colLoop (d : Nat) {n tp : Nat} (h1 : 1 ≤ n) (h6 : n ≤ 6) (htp : tp < FC n) (y1 y2 : Int) : ∀ (f u : Nat) (y5 : Option AV) (hp : HP) {G : BitVec 64} {z : Int} {c : Nat} {ks : List Int} {es : List Int} {ik : Bool} {kn : Nat} {kG : BitVec 64} {kz : Int} {kc : Nat} {kks : List Int} {kes : List Int} {tc : Nat} {tb : List Int} {sc : Nat} {tl : List Int} {so : List Int} {le : List Int} {it : Nat → List (BitVec 64)} {he : List Int} {th : List Int} {sl : List Int} {tr : Nat} {bo : List Int} (hX : MI (hp) n G z c ks es ik kn kG kz kc kks kes tc tb sc tl so le it he th sl tr bo), u < FC n → blw n u tp = true → 15 ≤ pc15 (sw n u) + f → ∃ h', MI (h') n (G ||| chU n tp f u) z c ks es ik kn kG kz kc kks kes tc tb sc tl so le it he th sl tr bo ∧ Fr 54 83 hp h' ∧ ∀ R : PO, AWh (d + 99) [] 200 R 17 [some (mR 54), some (mI y1), some (mI y2), some (mI ((num n u : Nat) : Int)), some (mI ((num n tp : Nat) : Int)), y5] [] hp (0, 0) ↔ R (some (mI (popI (G ||| chU n tp f u)))) h' := by
  intro f
  induction f with
  | zero =>
    intro u y5 hp G z c ks es ik kn kG kz kc kks kes tc tb sc tl so le it he th sl tr bo hX hu hb hf
    have hX0 := hX
    obtain ⟨⟨u1, u2, u3⟩, kN, kZ, kM, kGm, l5, l6, qk, q0, q1, q2, q3, q4, q5, q6, q7, q8, q9⟩ := hX
    obtain ⟨fr_, to_, co_, op_, wr_, ki_, nu_, mm_, pa_, hF⟩ := YO_F q0
    have hA : MA hp n := ⟨⟨⟨u2, u3⟩, hF 0, hF 18, hF 19, q1.1.1, q1.1.2⟩, ⟨hF 13, hF 14, hF 15, hF 16, hF 17⟩, q1.2⟩
    have hK := hA.1
    have cK := cM hK
    have hG : gF hp 54 11 3 = some (mL G) := hF 3
    have e : u = tp := by
      apply Decidable.byContradiction
      intro hne
      have := (blw_le h1 h6 hu htp hb).2 hne
      have := pc_31 h1 h6 htp
      omega
    have e0 : G ||| chU n tp 0 u = G := by rw [show chU n tp 0 u = 0#64 from rfl, BitVec.or_zero]
    rw [e0]
    refine ⟨hp, hX0, Fr_refl hp, fun R => ?_⟩
    rw [AWh_k, k_X11_collapse_17]
    simp only [AW_k, AWk_1, x_iload_3, x_iload_4, x_icmp_eq, x_push_i, x_push_l, x_istore_5, x_aload_0, x_aloads_0, x_iload_5, x_callv_3, x_if_ne, x_iinc_5, x_goto, x_dup_i, x_dup_r, x_dup_q, x_getf, x_lald, x_lor, x_putf_l, x_istore_3, x_call_1, x_ret, x_ret_i, x_ret_z, x_ret_l, x_ret_c, unl_i, unl_l, unl_q, unl_r, unl_s, unl_n, k_X11_collapse_17, k_X11_collapse_18, k_X11_collapse_19, k_X11_collapse_20, k_X11_collapse_21, k_X11_collapse_22, k_X11_collapse_23, k_X11_collapse_24, k_X11_collapse_25, k_X11_collapse_26, k_X11_collapse_27, k_X11_collapse_28, k_X11_collapse_29, k_X11_collapse_30, k_X11_collapse_31, k_X11_collapse_32, k_X11_collapse_33, k_X11_collapse_34, k_X11_collapse_35, k_X11_collapse_36, k_X11_collapse_37, k_X11_collapse_38, k_X11_collapse_39, k_X11_collapse_40, k_X11_collapse_41, k_X11_collapse_42, k_X11_collapse_43, k_X11_collapse_44, k_X11_collapse_45, k_X11_collapse_46, k_X11_collapse_47, k_X11_collapse_48, k_X11_collapse_49, k_X11_collapse_50, k_X11_collapse_51, k_X11_collapse_52, k_X11_collapse_53, k_X11_collapse_54, k_X11_collapse_55, k_X11_collapse_56, k_X11_collapse_57, k_X11_collapse_58, oE_some, Int.reduceToNat, Nat.reduceAdd, true_and, and_true, List.length_cons, List.length_nil, Option.toList_some, Option.toList_none, List.cons_append, List.nil_append, Nat.reduceLeDiff, Nat.le_refl, wdS_nil, wdS_i, wdS_l, wdS_r, wdS_n, wdS_s, e, cK, hG, m_ones (d + 97), ↓reduceIte]
  | succ f ih =>
    intro u y5 hp G z c ks es ik kn kG kz kc kks kes tc tb sc tl so le it he th sl tr bo hX hu hb hf
    have hX0 := hX
    obtain ⟨⟨u1, u2, u3⟩, kN, kZ, kM, kGm, l5, l6, qk, q0, q1, q2, q3, q4, q5, q6, q7, q8, q9⟩ := hX
    obtain ⟨fr_, to_, co_, op_, wr_, ki_, nu_, mm_, pa_, hF⟩ := YO_F q0
    have hA : MA hp n := ⟨⟨⟨u2, u3⟩, hF 0, hF 18, hF 19, q1.1.1, q1.1.2⟩, ⟨hF 13, hF 14, hF 15, hF 16, hF 17⟩, q1.2⟩
    have hK := hA.1
    have cK := cM hK
    have hG : gF hp 54 11 3 = some (mL G) := hF 3
    by_cases e : u = tp
    · have e0 : G ||| chU n tp (f + 1) u = G := by rw [chU_up, if_pos e, BitVec.or_zero]
      rw [e0]
      refine ⟨hp, hX0, Fr_refl hp, fun R => ?_⟩
      rw [AWh_k, k_X11_collapse_17]
      simp only [AW_k, AWk_1, x_iload_3, x_iload_4, x_icmp_eq, x_push_i, x_push_l, x_istore_5, x_aload_0, x_aloads_0, x_iload_5, x_callv_3, x_if_ne, x_iinc_5, x_goto, x_dup_i, x_dup_r, x_dup_q, x_getf, x_lald, x_lor, x_putf_l, x_istore_3, x_call_1, x_ret, x_ret_i, x_ret_z, x_ret_l, x_ret_c, unl_i, unl_l, unl_q, unl_r, unl_s, unl_n, k_X11_collapse_17, k_X11_collapse_18, k_X11_collapse_19, k_X11_collapse_20, k_X11_collapse_21, k_X11_collapse_22, k_X11_collapse_23, k_X11_collapse_24, k_X11_collapse_25, k_X11_collapse_26, k_X11_collapse_27, k_X11_collapse_28, k_X11_collapse_29, k_X11_collapse_30, k_X11_collapse_31, k_X11_collapse_32, k_X11_collapse_33, k_X11_collapse_34, k_X11_collapse_35, k_X11_collapse_36, k_X11_collapse_37, k_X11_collapse_38, k_X11_collapse_39, k_X11_collapse_40, k_X11_collapse_41, k_X11_collapse_42, k_X11_collapse_43, k_X11_collapse_44, k_X11_collapse_45, k_X11_collapse_46, k_X11_collapse_47, k_X11_collapse_48, k_X11_collapse_49, k_X11_collapse_50, k_X11_collapse_51, k_X11_collapse_52, k_X11_collapse_53, k_X11_collapse_54, k_X11_collapse_55, k_X11_collapse_56, k_X11_collapse_57, k_X11_collapse_58, oE_some, Int.reduceToNat, Nat.reduceAdd, true_and, and_true, List.length_cons, List.length_nil, Option.toList_some, Option.toList_none, List.cons_append, List.nil_append, Nat.reduceLeDiff, Nat.le_refl, wdS_nil, wdS_i, wdS_l, wdS_r, wdS_n, wdS_s, e, cK, hG, m_ones (d + 97), ↓reduceIte]
    · obtain ⟨p, ep⟩ := upP_ex h1 h6 hu htp hb e
      obtain ⟨a, b, c0⟩ := upP_some ep
      have hbs := bs_ok h1 h6 hu a
      have har := ar_lt h1 h6 hu a
      have fN := NA_le n
      have sp := ((st_ok h1 h6 hu).2 p a).2 b
      have bar : ar n u p < 2147483648 := by omega
      have iar : inB ((ar n u p : Nat) : Int) 57 := inB_n (show ar n u p < 57 by omega) (by decide)
      have hIn := m_colIn d hA hu htp ep y1 y2
      have ne : (((num n u : Nat) : Int) = ((num n tp : Nat) : Int)) = (u = tp) := num_eq h1 h6 hu htp
      have e1 : G ||| chU n tp (f + 1) u = (G ||| FO n (ar n u p)) ||| chU n tp f (bs n u p) := by rw [chU_s e ep, BitVec.or_assoc]
      rw [e1]
      obtain ⟨h', x1, x2, x3⟩ := ih (bs n u p) (some (mI (p : Int))) (pF hp 54 11 3 (mL (G ||| FO n (ar n u p)))) (MI_oG hX0) hbs c0 (by omega)
      refine ⟨h', x1, Fr_trans Fr_o54 x2, fun R => ?_⟩
      have hK' : MK (pF hp 54 11 3 (mL (G ||| FO n (ar n u p)))) n := (MA_of (MI_oG hX0)).1
      have hA0 := hA
      obtain ⟨-, ⟨g13, g14, g15, g16, g17⟩, l1, l2, l3, l4, ⟨a1, a2, a3, a4⟩, ⟨n1, n2, n3, n4⟩, hv⟩ := hA
      have w4 := (hv (ar n u p) har).2.2.2
      refine Iff.trans ?_ (x3 R)
      rw [AWh_k, k_X11_collapse_17]
      simp only [AW_k, AWk_1, x_iload_3, x_iload_4, x_icmp_eq, x_push_i, x_push_l, x_istore_5, x_aload_0, x_aloads_0, unl_i, unl_l, unl_q, unl_r, unl_s, unl_n, k_X11_collapse_17, k_X11_collapse_18, k_X11_collapse_19, k_X11_collapse_20, k_X11_collapse_21, k_X11_collapse_22, oE_some, Int.reduceToNat, Nat.reduceAdd, true_and, and_true, List.length_cons, List.length_nil, Option.toList_some, Option.toList_none, List.cons_append, List.nil_append, Nat.reduceLeDiff, Nat.le_refl, wdS_nil, wdS_i, wdS_l, wdS_r, wdS_n, wdS_s, w32_nat (num_31 h1 h6 hu), w32_nat (num_31 h1 h6 htp), ne, e, ↓reduceIte]
      have q00 := hIn R p 0 (by omega)
      rw [show ((0 : Nat) : Int) = 0 from rfl] at q00
      refine q00.trans ?_
      rw [AWh_k, k_X11_collapse_22]
      simp only [AW_k, AWk_1, x_iload_3, x_iload_4, x_icmp_eq, x_push_i, x_push_l, x_istore_5, x_aload_0, x_aloads_0, x_iload_5, x_callv_3, x_if_ne, x_iinc_5, x_goto, x_dup_i, x_dup_r, x_dup_q, x_getf, x_lald, x_lor, x_putf_l, x_istore_3, unl_i, unl_l, unl_q, unl_r, unl_s, unl_n, k_X11_collapse_17, k_X11_collapse_18, k_X11_collapse_19, k_X11_collapse_20, k_X11_collapse_21, k_X11_collapse_22, k_X11_collapse_23, k_X11_collapse_24, k_X11_collapse_25, k_X11_collapse_26, k_X11_collapse_27, k_X11_collapse_28, k_X11_collapse_29, k_X11_collapse_30, k_X11_collapse_31, k_X11_collapse_32, k_X11_collapse_33, k_X11_collapse_34, k_X11_collapse_35, k_X11_collapse_36, k_X11_collapse_37, k_X11_collapse_38, k_X11_collapse_39, k_X11_collapse_40, k_X11_collapse_41, k_X11_collapse_42, k_X11_collapse_43, k_X11_collapse_44, k_X11_collapse_45, k_X11_collapse_46, k_X11_collapse_47, k_X11_collapse_48, k_X11_collapse_49, k_X11_collapse_50, k_X11_collapse_51, k_X11_collapse_52, k_X11_collapse_53, k_X11_collapse_54, oE_some, Int.reduceToNat, Nat.reduceAdd, true_and, and_true, List.length_cons, List.length_nil, Option.toList_some, Option.toList_none, List.cons_append, List.nil_append, Nat.reduceLeDiff, Nat.le_refl, wdS_nil, wdS_i, wdS_l, wdS_r, wdS_n, wdS_s, cK, m_isDrop (d + 97) hK hu a, m_swapAt (d + 97) hK hu a, m_isBelow (d + 96) hK hbs htp, b, c0, zI, w10, w00, ↓reduceIte, Bool.false_eq_true, hG, g16, a4, n4, m_arcAt (d + 97) hA0 hu a, iar, w32_tn bar, w4, cM hK', m_swapAt (d + 97) hK' hu a]
theorem lo_clo {n i j : Nat} (h1 : 1 ≤ n) (h6 : n ≤ 6) (hi : i < FC n) (hj : j < FC n) : cl n (abt n (mt n i j) 15 (jn n i j)) = chU n (jn n i j) 15 (mt n i j) := col_eq h1 h6 (mt_ok hi) (jn_ok hi) (mt_jn h1 h6 hi hj)
set_option maxHeartbeats 16000000 in
theorem x_collapse_m (d : Nat) {hp : HP} {n : Nat} {G : BitVec 64} {z : Int} {c : Nat} {ks : List Int} {es : List Int} {ik : Bool} {kn : Nat} {kG : BitVec 64} {kz : Int} {kc : Nat} {kks : List Int} {kes : List Int} {tc : Nat} {tb : List Int} {sc : Nat} {tl : List Int} {so : List Int} {le : List Int} {it : Nat → List (BitVec 64)} {he : List Int} {th : List Int} {sl : List Int} {tr : Nat} {bo : List Int} {x y : Int} (hX : MI (hp) n G z c ks es ik kn kG kz kc kks kes tc tb sc tl so le it he th sl tr bo) (hx : w32 x = x) (hy : w32 y = y) : ∃ h', MI (h') n (clG n G x y) z c ks es ik kn kG kz kc kks kes tc tb sc tl so le it he th sl tr bo ∧ Fr 54 83 hp h' ∧ ∀ R : PO, callD (d + 100) 200 [mR 54, mI x, mI y] hp R ↔ R (some (mI (an2 n x y (fun _ _ => popI (clG n G x y))))) h' := by
  have hX0 := hX
  obtain ⟨⟨u1, u2, u3⟩, kN, kZ, kM, kGm, l5, l6, qk, q0, q1, q2, q3, q4, q5, q6, q7, q8, q9⟩ := hX
  obtain ⟨fr_, to_, co_, op_, wr_, ki_, nu_, mm_, pa_, hF⟩ := YO_F q0
  have hA : MA hp n := ⟨⟨⟨u2, u3⟩, hF 0, hF 18, hF 19, q1.1.1, q1.1.2⟩, ⟨hF 13, hF 14, hF 15, hF 16, hF 17⟩, q1.2⟩
  have hK := hA.1
  have cK := cM hK
  have hG : gF hp 54 11 3 = some (mL G) := hF 3
  have h1 := u2
  have h6 := u3
  cases ex : ixo n x with
  | none =>
    have e : clG n G x y = G := by unfold clG; rw [ex]
    rw [e]
    refine ⟨hp, hX0, Fr_refl hp, fun R => ?_⟩
    rw [an2_n ex]
    rw [callD_k]; simp only [entL_i, entL_l, entL_q, entL_s, entL_nil, n_X11_collapse, u_X11_collapse, m_X11_collapse, rep_3, List.cons_append, List.nil_append, List.append_nil, List.length_cons, List.length_nil, Nat.reduceAdd, true_and]
    simp only [AW_k, AWk_1, x_aload_0, x_aloads_0, x_iload_1, x_iload_2, x_callv_3, x_if_ne, x_push_i, x_push_l, x_ret, x_ret_i, x_ret_z, x_ret_l, x_ret_c, x_istore_3, x_istore_4, x_iload_3, x_iload_4, x_icmp_eq, x_istore_5, x_iload_5, x_iinc_5, x_goto, x_dup_i, x_dup_r, x_dup_q, x_getf, x_lald, x_lor, x_putf_l, x_call_1, unl_i, unl_l, unl_q, unl_r, unl_s, unl_n, k_X11_collapse_0, k_X11_collapse_1, k_X11_collapse_2, k_X11_collapse_3, k_X11_collapse_4, k_X11_collapse_5, k_X11_collapse_6, k_X11_collapse_7, k_X11_collapse_8, k_X11_collapse_9, k_X11_collapse_10, k_X11_collapse_11, k_X11_collapse_12, k_X11_collapse_13, k_X11_collapse_14, k_X11_collapse_15, k_X11_collapse_16, k_X11_collapse_17, k_X11_collapse_18, k_X11_collapse_19, k_X11_collapse_20, k_X11_collapse_21, k_X11_collapse_22, k_X11_collapse_23, k_X11_collapse_24, k_X11_collapse_25, k_X11_collapse_26, k_X11_collapse_27, k_X11_collapse_28, k_X11_collapse_29, k_X11_collapse_30, k_X11_collapse_31, k_X11_collapse_32, k_X11_collapse_33, k_X11_collapse_34, k_X11_collapse_35, k_X11_collapse_36, k_X11_collapse_37, k_X11_collapse_38, k_X11_collapse_39, k_X11_collapse_40, k_X11_collapse_41, k_X11_collapse_42, k_X11_collapse_43, k_X11_collapse_44, k_X11_collapse_45, k_X11_collapse_46, k_X11_collapse_47, k_X11_collapse_48, k_X11_collapse_49, k_X11_collapse_50, k_X11_collapse_51, k_X11_collapse_52, k_X11_collapse_53, k_X11_collapse_54, k_X11_collapse_55, k_X11_collapse_56, k_X11_collapse_57, k_X11_collapse_58, oE_some, Int.reduceToNat, Nat.reduceAdd, true_and, and_true, List.length_cons, List.length_nil, Option.toList_some, Option.toList_none, List.cons_append, List.nil_append, Nat.reduceLeDiff, Nat.le_refl, wdS_nil, wdS_i, wdS_l, wdS_r, wdS_n, wdS_s, cK, m_areRows (d + 96) hK hx hy, areN ex, zI_f, w00, ↓reduceIte]
  | some i =>
    have hi := ixo_lt ex
    cases ey : ixo n y with
    | none =>
      have e : clG n G x y = G := by unfold clG; rw [ex, ey]
      rw [e]
      refine ⟨hp, hX0, Fr_refl hp, fun R => ?_⟩
      rw [an2_m ex ey]
      rw [callD_k]; simp only [entL_i, entL_l, entL_q, entL_s, entL_nil, n_X11_collapse, u_X11_collapse, m_X11_collapse, rep_3, List.cons_append, List.nil_append, List.append_nil, List.length_cons, List.length_nil, Nat.reduceAdd, true_and]
      simp only [AW_k, AWk_1, x_aload_0, x_aloads_0, x_iload_1, x_iload_2, x_callv_3, x_if_ne, x_push_i, x_push_l, x_ret, x_ret_i, x_ret_z, x_ret_l, x_ret_c, x_istore_3, x_istore_4, x_iload_3, x_iload_4, x_icmp_eq, x_istore_5, x_iload_5, x_iinc_5, x_goto, x_dup_i, x_dup_r, x_dup_q, x_getf, x_lald, x_lor, x_putf_l, x_call_1, unl_i, unl_l, unl_q, unl_r, unl_s, unl_n, k_X11_collapse_0, k_X11_collapse_1, k_X11_collapse_2, k_X11_collapse_3, k_X11_collapse_4, k_X11_collapse_5, k_X11_collapse_6, k_X11_collapse_7, k_X11_collapse_8, k_X11_collapse_9, k_X11_collapse_10, k_X11_collapse_11, k_X11_collapse_12, k_X11_collapse_13, k_X11_collapse_14, k_X11_collapse_15, k_X11_collapse_16, k_X11_collapse_17, k_X11_collapse_18, k_X11_collapse_19, k_X11_collapse_20, k_X11_collapse_21, k_X11_collapse_22, k_X11_collapse_23, k_X11_collapse_24, k_X11_collapse_25, k_X11_collapse_26, k_X11_collapse_27, k_X11_collapse_28, k_X11_collapse_29, k_X11_collapse_30, k_X11_collapse_31, k_X11_collapse_32, k_X11_collapse_33, k_X11_collapse_34, k_X11_collapse_35, k_X11_collapse_36, k_X11_collapse_37, k_X11_collapse_38, k_X11_collapse_39, k_X11_collapse_40, k_X11_collapse_41, k_X11_collapse_42, k_X11_collapse_43, k_X11_collapse_44, k_X11_collapse_45, k_X11_collapse_46, k_X11_collapse_47, k_X11_collapse_48, k_X11_collapse_49, k_X11_collapse_50, k_X11_collapse_51, k_X11_collapse_52, k_X11_collapse_53, k_X11_collapse_54, k_X11_collapse_55, k_X11_collapse_56, k_X11_collapse_57, k_X11_collapse_58, oE_some, Int.reduceToNat, Nat.reduceAdd, true_and, and_true, List.length_cons, List.length_nil, Option.toList_some, Option.toList_none, List.cons_append, List.nil_append, Nat.reduceLeDiff, Nat.le_refl, wdS_nil, wdS_i, wdS_l, wdS_r, wdS_n, wdS_s, cK, m_areRows (d + 96) hK hx hy, areM ex ey, zI_f, w00, ↓reduceIte]
    | some j =>
      have hj := ixo_lt ey
      have hm : mt n i j < FC n := mt_ok hi
      have hjn : jn n i j < FC n := jn_ok hi
      have exn := ixo_num ex
      have eyn := ixo_num ey
      have e : clG n G x y = G ||| chU n (jn n i j) 15 (mt n i j) := by unfold clG; rw [ex, ey]; exact congrArg (G ||| ·) (lo_clo h1 h6 hi hj)
      rw [e]
      obtain ⟨h', x1, x2, x3⟩ := m_colLoop d h1 h6 hjn x y 15 (mt n i j) none hp hX0 hm (mt_jn h1 h6 hi hj) (by omega)
      refine ⟨h', x1, x2, fun R => ?_⟩
      rw [an2_s ex ey]
      have mb := fun R => m_meetOf (d + 96) hK hi hj R
      have jb := fun R => m_joinOf (d + 96) hK hi hj R
      rw [exn, eyn] at mb jb
      rw [callD_k]; simp only [entL_i, entL_l, entL_q, entL_s, entL_nil, n_X11_collapse, u_X11_collapse, m_X11_collapse, rep_3, List.cons_append, List.nil_append, List.append_nil, List.length_cons, List.length_nil, Nat.reduceAdd, true_and]
      simp only [AW_k, AWk_1, x_aload_0, x_aloads_0, x_iload_1, x_iload_2, x_callv_3, x_if_ne, x_push_i, x_push_l, x_ret, x_ret_i, x_ret_z, x_ret_l, x_ret_c, x_istore_3, x_istore_4, x_iload_3, unl_i, unl_l, unl_q, unl_r, unl_s, unl_n, k_X11_collapse_0, k_X11_collapse_1, k_X11_collapse_2, k_X11_collapse_3, k_X11_collapse_4, k_X11_collapse_5, k_X11_collapse_6, k_X11_collapse_7, k_X11_collapse_8, k_X11_collapse_9, k_X11_collapse_10, k_X11_collapse_11, k_X11_collapse_12, k_X11_collapse_13, k_X11_collapse_14, k_X11_collapse_15, k_X11_collapse_16, k_X11_collapse_17, oE_some, Int.reduceToNat, Nat.reduceAdd, true_and, and_true, List.length_cons, List.length_nil, Option.toList_some, Option.toList_none, List.cons_append, List.nil_append, Nat.reduceLeDiff, Nat.le_refl, wdS_nil, wdS_i, wdS_l, wdS_r, wdS_n, wdS_s, cK, m_areRows (d + 96) hK hx hy, areT ex ey, zI_t, w10, mb, jb, ↓reduceIte]
      exact x3 R
