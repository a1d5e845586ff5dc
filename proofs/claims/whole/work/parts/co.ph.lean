/-! ===== the reference reads a text: the call ===== -/
theorem MI_RD {hp : HP} {n : Nat} {G : BitVec 64} {z : Int} {c : Nat} {ks : List Int} {es : List Int} {ik : Bool} {kn : Nat} {kG : BitVec 64} {kz : Int} {kc : Nat} {kks : List Int} {kes : List Int} {tc : Nat} {tb : List Int} {sc : Nat} {tl : List Int} {so : List Int} {le : List Int} {it : Nat → List (BitVec 64)} {he : List Int} {th : List Int} {sl : List Int} {tr : Nat} {bo : List Int} (hX : MI (hp) n G z c ks es ik kn kG kz kc kks kes tc tb sc tl so le it he th sl tr bo) (hb : byOK tb (bO tb)) (hc : tc ≤ 200) : RD hp tb tc ∧ (∃ x, gF hp 54 11 24 = some (mI x)) ∧ (∃ x, gF hp 54 11 25 = some (mI x)) ∧ (∃ x, gF hp 54 11 26 = some (mI x)) ∧ (∃ x, gF hp 54 11 27 = some (mI x)) ∧ (∃ x, gF hp 54 11 28 = some (mI x)) ∧ ∃ co, gA hp 66 = some co ∧ co.length = 200 := by
  obtain ⟨⟨u1, u2, u3⟩, kN, kZ, kM, kGm, l5, l6, qk, q0, q1, q2, q3, q4, q5, q6, q7, q8, q9⟩ := hX
  obtain ⟨fr_, to_, co_, op_, wr_, ki_, nu_, mm_, pa_, hF⟩ := YO_F q0
  have hA : MA hp n := ⟨⟨⟨u2, u3⟩, hF 0, hF 18, hF 19, q1.1.1, q1.1.2⟩, ⟨hF 13, hF 14, hF 15, hF 16, hF 17⟩, q1.2⟩
  have hK := hA.1
  have cK := cM hK
  have hG : gF hp 54 11 3 = some (mL G) := hF 3
  obtain ⟨a1, co, sa, ⟨a66, -⟩, n1, -⟩ := q4
  exact ⟨⟨hF 20, a1.1, hF 23, hb, hc, cK⟩, ⟨_, hF 24⟩, ⟨_, hF 25⟩, ⟨_, hF 26⟩, ⟨_, hF 27⟩, ⟨_, hF 28⟩, co, a66, n1⟩
set_option maxHeartbeats 32000000 in
theorem x_text_m (d : Nat) {hp : HP} {n : Nat} {G : BitVec 64} {z : Int} {c : Nat} {ks : List Int} {es : List Int} {ik : Bool} {kn : Nat} {kG : BitVec 64} {kz : Int} {kc : Nat} {kks : List Int} {kes : List Int} {tc : Nat} {tb : List Int} {sc : Nat} {tl : List Int} {so : List Int} {le : List Int} {it : Nat → List (BitVec 64)} {he : List Int} {th : List Int} {sl : List Int} {tr : Nat} {bo : List Int} {w : Int} {V : Nat → Int} (hX : MI (hp) n G z c ks es ik kn kG kz kc kks kes tc tb sc tl so le it he th sl tr bo) (hb : byOK tb (bO tb)) (hc : tc ≤ 200) (hV : ∀ k, k < (TT (bO tb) tc).length → V k = tV (bO tb) (TT (bO tb) tc) k) (hw : w32 w = w) : ∃ h', MI (h') n (txG n G tc tb V w) z c ks es ik kn kG kz kc kks kes (if 0 ≤ w ∧ w ≤ 2 then 0 else tc) tb sc tl so le it he th sl tr bo ∧ Fr 54 83 hp h' ∧ ∀ R : PO, callD (d + 100) 225 [mR 54, mI w] hp R ↔ R (some (mI (txA n G tc tb V w))) h' := by
  have hL : (TT (bO tb) tc).length ≤ 200 := tks_len (b := bO tb) (tc := tc) 200 0
  by_cases hin : 0 ≤ w ∧ w ≤ 2
  · have ci : inI w 0 2 = true := decide_eq_true hin
    rw [if_pos hin]
    obtain ⟨rr, ⟨x24, g24⟩, ⟨x25, g25⟩, ⟨x26, g26⟩, ⟨x27, g27⟩, ⟨x28, g28⟩, -⟩ := MI_RD hX hb hc
    have X0 := MI_g28 (v' := 0) (MI_g27 (v' := 0) (MI_g26 (v' := 0) (MI_g25 (v' := 0) hX)))
    have i26 : gF (pF hp 54 11 25 (mI 0)) 54 11 26 = some (mI x26) := by rw [gF_pF (by omega), g26]
    have i27 : gF (pF (pF hp 54 11 25 (mI 0)) 54 11 26 (mI 0)) 54 11 27 = some (mI x27) := by rw [gF_pF (by omega), gF_pF (by omega), g27]
    have i28 : gF (pF (pF (pF hp 54 11 25 (mI 0)) 54 11 26 (mI 0)) 54 11 27 (mI 0)) 54 11 28 = some (mI x28) := by rw [gF_pF (by omega), gF_pF (by omega), gF_pF (by omega), g28]
    have j24 : gF (pF (pF (pF (pF hp 54 11 25 (mI 0)) 54 11 26 (mI 0)) 54 11 27 (mI 0)) 54 11 28 (mI 0)) 54 11 24 = some (mI x24) := by rw [gF_pF (by omega), gF_pF (by omega), gF_pF (by omega), gF_pF (by omega), g24]
    have j25 : gF (pF (pF (pF (pF hp 54 11 25 (mI 0)) 54 11 26 (mI 0)) 54 11 27 (mI 0)) 54 11 28 (mI 0)) 54 11 25 = some (mI 0) := by rw [gF_pF (by omega), gF_pF (by omega), gF_pF (by omega), gF_pF_same g25]
    have j26 : gF (pF (pF (pF (pF hp 54 11 25 (mI 0)) 54 11 26 (mI 0)) 54 11 27 (mI 0)) 54 11 28 (mI 0)) 54 11 26 = some (mI 0) := by rw [gF_pF (by omega), gF_pF (by omega), gF_pF_same i26]
    have j27 : gF (pF (pF (pF (pF hp 54 11 25 (mI 0)) 54 11 26 (mI 0)) 54 11 27 (mI 0)) 54 11 28 (mI 0)) 54 11 27 = some (mI 0) := by rw [gF_pF (by omega), gF_pF_same i27]
    have j28 : gF (pF (pF (pF (pF hp 54 11 25 (mI 0)) 54 11 26 (mI 0)) 54 11 27 (mI 0)) 54 11 28 (mI 0)) 54 11 28 = some (mI 0) := gF_pF_same i28
    have F0 : Fr 54 83 hp (pF (pF (pF (pF hp 54 11 25 (mI 0)) 54 11 26 (mI 0)) 54 11 27 (mI 0)) 54 11 28 (mI 0)) := Fr_trans (Fr_trans (Fr_trans Fr_o54 Fr_o54) Fr_o54) Fr_o54
    generalize eh : pF (pF (pF (pF hp 54 11 25 (mI 0)) 54 11 26 (mI 0)) 54 11 27 (mI 0)) 54 11 28 (mI 0) = h0 at X0 j24 j25 j26 j27 j28 F0
    obtain ⟨r0, -, -, -, -, -, co, a66, c2⟩ := MI_RD X0 hb hc
    obtain ⟨h1, p, w24, w25, nx⟩ := m_next (d + 97) (k := 0) (e := 0) r0 j24 j25 ⟨_, rfl⟩ (Nat.zero_le _) (Nat.zero_le _) rfl
    have T1 : TS h1 n G z c ks es ik kn kG kz kc kks kes tc tb sc tl so le it he th sl tr bo 0 ([]) 0 false := ⟨MI_PF X0 p w24 w25, ⟨hb, hc⟩, Nat.zero_le _, ⟨w24, w25, by rw [p.2 26 (by decide) (by decide)]; exact j26, by rw [p.2 27 (by decide) (by decide)]; exact j27, by rw [p.2 28 (by decide) (by decide)]; exact j28⟩, co, by rw [gA_Fr p.1 (by omega), a66], c2, fun i hi => absurd hi (Nat.not_lt_zero i)⟩
    have cK0 : gC h0 54 = some 11 := gC_of j24
    have cK1 := (TS_RD T1).2.2.2
    have hTC : TC n G z c ks es ik kn kG kz kc kks kes tc tb sc tl so le it he th sl tr bo (d + 99) 221 0 (anyL n (tW (bO tb) (TT (bO tb) tc)) (tB tc (TT (bO tb) tc)) V 3) := t_anyL hV 3 (d + 79) (Nat.le_refl _)
    obtain ⟨h2, k2, cs2, o2, wr2, z1, z2, z3, z4, z5, z6, z7⟩ := hTC h1 0 [] 0 T1 (Nat.le_refl _)
    have hk2 := z1.2.2.1
    have cK2 := (TS_RD z1).2.2.2
    have g23 := (TS_RD z1).1.2.2.1
    have y24 := z1.2.2.2.1.1
    have y28 := z1.2.2.2.1.2.2.2.2
    have tb200 : tB tc (TT (bO tb) tc) k2 ≤ 200 := tB_le hc
    have btb : tB tc (TT (bO tb) tc) k2 < 2147483648 := by omega
    have btc : tc < 2147483648 := by omega
    have F2 : Fr 54 83 hp h2 := Fr_trans (Fr_trans F0 (Fr_mono p.1 (by omega) (by omega))) z4
    have q23 : ∀ v, gF (pF h2 54 11 28 (mI v)) 54 11 23 = some (mI (tc : Int)) := fun v => by rw [gF_pF (by omega), g23]
    have q28 : ∀ v, gF (pF (pF h2 54 11 28 (mI v)) 54 11 23 (mI 0)) 54 11 28 = some (mI v) := fun v => by rw [gF_pF (by omega), gF_pF_same y28]
    have q24 : ∀ v, gF (pF (pF h2 54 11 28 (mI v)) 54 11 23 (mI 0)) 54 11 24 = some (mI ((tB tc (TT (bO tb) tc) k2 : Nat) : Int)) := fun v => by rw [gF_pF (by omega), gF_pF (by omega), y24]
    have F3 : ∀ v, Fr 54 83 hp (pF (pF h2 54 11 28 (mI v)) 54 11 23 (mI 0)) := fun v => Fr_trans (Fr_trans F2 Fr_o54) Fr_o54
    have go : ∀ R : PO, callD (d + 100) 225 [mR 54, mI w] hp R ↔ AW (d + 99) [] 225 R 24 [some (mR 54), some (mI w), none, none, none] [] h2 (0, 0) := by
      intro R
      rw [callD_k]; simp only [entL_i, entL_l, entL_q, entL_s, entL_nil, n_X11_text, u_X11_text, m_X11_text, rep_3, List.cons_append, List.nil_append, List.append_nil, List.length_cons, List.length_nil, Nat.reduceAdd, true_and]
      simp only [AW_k, AWk_1, x_iload_1, x_i2l, x_push_i, x_push_l, x_call_3, x_if_ne, x_ret, x_ret_i, x_ret_z, x_ret_l, x_ret_c, x_aload_0, x_aloads_0, x_putf_i, x_putf_z, x_callv_1, k_X11_text_0, k_X11_text_1, k_X11_text_2, k_X11_text_3, k_X11_text_4, k_X11_text_5, k_X11_text_6, k_X11_text_7, k_X11_text_8, k_X11_text_9, k_X11_text_10, k_X11_text_11, k_X11_text_12, k_X11_text_13, k_X11_text_14, k_X11_text_15, k_X11_text_16, k_X11_text_17, k_X11_text_18, k_X11_text_19, k_X11_text_20, k_X11_text_21, k_X11_text_22, k_X11_text_23, oE_some, Int.reduceToNat, Nat.reduceAdd, true_and, and_true, List.length_cons, List.length_nil, Option.toList_some, Option.toList_none, List.cons_append, List.nil_append, Nat.reduceLeDiff, Nat.le_refl, wdS_nil, wdS_i, wdS_l, wdS_r, wdS_n, wdS_s, m_in (d + 98), tI_id hw, q0_I, q2_I, ci, zI_t, w10, g25, i26, i27, i28, true_or, eh, cK0, nx, cK1, z7, ↓reduceIte]
    have bad : (rdT n tc tb V).2 = ((tB tc (TT (bO tb) tc) k2 : Nat) : Int) → txG n G tc tb V w = G ∧ txA n G tc tb V w = -100 - ((tB tc (TT (bO tb) tc) k2 : Nat) : Int) := by
      intro q
      have nn : ¬ ((tB tc (TT (bO tb) tc) k2 : Nat) : Int) < 0 := by omega
      unfold txG txA
      rw [if_pos hin, if_pos hin, q, if_neg nn, if_neg nn]
      exact ⟨rfl, rfl⟩
    cases wr2 with
    | true =>
      have L4 := z6.1 rfl
      obtain ⟨b1, b2⟩ := bad (by
        show (psP _ _ _ (anyL n (tW (bO tb) (TT (bO tb) tc)) (tB tc (TT (bO tb) tc)) V 3 (-1, 0)).2).1 = _
        rw [L4, psP_sB])
      rw [b1, b2]
      have X3 := MI_otc (tc' := 0) (MI_g28 (v' := 1) z1.1)
      refine ⟨_, X3, F3 1, fun R => (go R).trans ?_⟩
      rw [zI_t] at y28
      simp only [AW_k, AWk_1, x_aload_0, x_aloads_0, x_getf, x_if_ne, x_icmp_ge, x_push_i, x_push_l, x_goto, x_putf_z, x_putf_i, x_if_eq, x_isub, x_ret, x_ret_i, x_ret_z, x_ret_l, x_ret_c, k_X11_text_24, k_X11_text_25, k_X11_text_26, k_X11_text_27, k_X11_text_28, k_X11_text_29, k_X11_text_30, k_X11_text_31, k_X11_text_32, k_X11_text_33, k_X11_text_34, k_X11_text_35, k_X11_text_36, k_X11_text_37, k_X11_text_38, k_X11_text_39, k_X11_text_40, k_X11_text_41, k_X11_text_42, k_X11_text_43, k_X11_text_44, k_X11_text_45, k_X11_text_46, k_X11_text_47, oE_some, Int.reduceToNat, Nat.reduceAdd, true_and, and_true, List.length_cons, List.length_nil, Option.toList_some, Option.toList_none, List.cons_append, List.nil_append, Nat.reduceLeDiff, Nat.le_refl, wdS_nil, wdS_i, wdS_l, wdS_r, wdS_n, wdS_s, y28, w10, or_true, true_or, q23, q28, q24, show ((0 : Nat) : Int) = 0 from rfl, ↓reduceIte]
    | false =>
      have L4 := (z6.2 rfl).1
      rw [zI_f] at y28
      by_cases kk : k2 < (TT (bO tb) tc).length
      · have lt : ((tB tc (TT (bO tb) tc) k2 : Nat) : Int) < (tc : Int) := by have := tB_tc.mpr kk; omega
        obtain ⟨b1, b2⟩ := bad (by
          show (psP _ _ (decide (tW (bO tb) (TT (bO tb) tc) (anyL n (tW (bO tb) (TT (bO tb) tc)) (tB tc (TT (bO tb) tc)) V 3 (-1, 0)).2.2 = 0)) (anyL n (tW (bO tb) (TT (bO tb) tc)) (tB tc (TT (bO tb) tc)) V 3 (-1, 0)).2).1 = _
          rw [L4]
          show (psP _ _ (decide (tW (bO tb) (TT (bO tb) tc) k2 = 0)) (-1, k2)).1 = _
          rw [decide_eq_false (fun q => (tW_0.mp q) kk), psP_f])
        rw [b1, b2]
        have X3 := MI_otc (tc' := 0) (MI_g28 (v' := 1) z1.1)
        refine ⟨_, X3, F3 1, fun R => (go R).trans ?_⟩
        simp only [AW_k, AWk_1, x_aload_0, x_aloads_0, x_getf, x_if_ne, x_icmp_ge, x_push_i, x_push_l, x_goto, x_putf_z, x_putf_i, x_if_eq, x_isub, x_ret, x_ret_i, x_ret_z, x_ret_l, x_ret_c, k_X11_text_24, k_X11_text_25, k_X11_text_26, k_X11_text_27, k_X11_text_28, k_X11_text_29, k_X11_text_30, k_X11_text_31, k_X11_text_32, k_X11_text_33, k_X11_text_34, k_X11_text_35, k_X11_text_36, k_X11_text_37, k_X11_text_38, k_X11_text_39, k_X11_text_40, k_X11_text_41, k_X11_text_42, k_X11_text_43, k_X11_text_44, k_X11_text_45, k_X11_text_46, k_X11_text_47, oE_some, Int.reduceToNat, Nat.reduceAdd, true_and, and_true, List.length_cons, List.length_nil, Option.toList_some, Option.toList_none, List.cons_append, List.nil_append, Nat.reduceLeDiff, Nat.le_refl, wdS_nil, wdS_i, wdS_l, wdS_r, wdS_n, wdS_s, y28, w00, w10, y24, g23, w32_nat btb, w32_nat btc, lt, or_true, true_or, q23, q28, q24, show ((0 : Nat) : Int) = 0 from rfl, ↓reduceIte]
      · have lt : ¬ ((tB tc (TT (bO tb) tc) k2 : Nat) : Int) < (tc : Int) := fun q => kk (tB_tc.mp (by omega))
        have r2 : (rdT n tc tb V).2 = -1 := by
          show (psP _ _ (decide (tW (bO tb) (TT (bO tb) tc) (anyL n (tW (bO tb) (TT (bO tb) tc)) (tB tc (TT (bO tb) tc)) V 3 (-1, 0)).2.2 = 0)) (anyL n (tW (bO tb) (TT (bO tb) tc)) (tB tc (TT (bO tb) tc)) V 3 (-1, 0)).2).1 = _
          rw [L4]
          show (psP _ _ (decide (tW (bO tb) (TT (bO tb) tc) k2 = 0)) (-1, k2)).1 = _
          have w0 : tW (bO tb) (TT (bO tb) tc) k2 = 0 := tW_0.mpr kk
          rw [decide_eq_true w0]
          unfold psP
          rw [if_neg (fun q => Bool.noConfusion q.2), if_neg (fun q => q.2 w0)]
        have e1 : txG n G tc tb V w = coG n G (rdT n tc tb V).1 w := by unfold txG; rw [if_pos hin, r2, if_pos (by decide)]
        have e2 : txA n G tc tb V w = popI (coG n G (rdT n tc tb V).1 w) := by unfold txA; rw [if_pos hin, r2, if_pos (by decide), e1]
        rw [e1, e2]
        have X3 := MI_otc (tc' := 0) (MI_g28 (v' := 0) z1.1)
        have y26 := z1.2.2.2.1.2.2.1
        obtain ⟨-, C, x2, x3, x4⟩ := z6.2 rfl
        rw [List.nil_append] at x2
        subst x2
        have H0 : HS (pF (pF h2 54 11 28 (mI 0)) 54 11 23 (mI ((0 : Nat) : Int))) n G z c ks es ik kn kG kz kc kks kes 0 tb sc tl so le it he th sl tr bo cs2 := by
          obtain ⟨-, -, -, -, co2, a66', c2', c3'⟩ := z1
          exact ⟨X3, by rw [gF_pF (by omega), gF_pF (by omega), y26], co2, by rw [gA_pF, gA_pF, a66'], c2', c3'⟩
        obtain ⟨h3, u1, u2, u3⟩ := t_loop d (w := w) (Y := (rdT n tc tb V).1) (cs := cs2) (by omega) (x3 0) (fun x hx st => x4 x hx st) (NA n) 0 _ (Nat.zero_add _) H0
        have ok : okS n (rdT n tc tb V).1 := bP_okS (bP_anyL 3)
        obtain ⟨h4, v1, v2, v3⟩ := x_comes_m (d + 9) (t := (rdT n tc tb V).1) u1.1 hw ok
        have cK3 := (HS_RD u1).2.2
        have g17 := (MI_G u1.1).1.2.1.2.2.2.2
        refine ⟨h4, v1, Fr_trans (Fr_trans (F3 0) u2) v2, fun R => (go R).trans ?_⟩
        have mid : AW (d + 99) [] 225 R 24 [some (mR 54), some (mI w), none, none, none] [] h2 (0, 0) ↔ AWh (d + 99) [] 225 R 52 [some (mR 54), some (mI w), some (mL (stB (fun x => (rdT n tc tb V).1.getLsbD x) 0)), none, some (mI ((0 : Nat) : Int))] [] (pF (pF h2 54 11 28 (mI 0)) 54 11 23 (mI ((0 : Nat) : Int))) (0, 0) := by
          simp only [AW_k, AWk_1, x_aload_0, x_aloads_0, x_getf, x_if_ne, x_icmp_ge, x_push_i, x_push_l, x_goto, x_putf_z, x_putf_i, x_if_eq, x_isub, x_ret, x_ret_i, x_ret_z, x_ret_l, x_ret_c, x_lstore_2, x_istore_4, unl_i, unl_l, unl_q, unl_r, unl_s, unl_n, k_X11_text_24, k_X11_text_25, k_X11_text_26, k_X11_text_27, k_X11_text_28, k_X11_text_29, k_X11_text_30, k_X11_text_31, k_X11_text_32, k_X11_text_33, k_X11_text_34, k_X11_text_35, k_X11_text_36, k_X11_text_37, k_X11_text_38, k_X11_text_39, k_X11_text_40, k_X11_text_41, k_X11_text_42, k_X11_text_43, k_X11_text_44, k_X11_text_45, k_X11_text_46, k_X11_text_47, k_X11_text_48, k_X11_text_49, k_X11_text_50, k_X11_text_51, oE_some, Int.reduceToNat, Nat.reduceAdd, true_and, and_true, List.length_cons, List.length_nil, Option.toList_some, Option.toList_none, List.cons_append, List.nil_append, Nat.reduceLeDiff, Nat.le_refl, wdS_nil, wdS_i, wdS_l, wdS_r, wdS_n, wdS_s, y28, w00, w10, y24, g23, w32_nat btb, w32_nat btc, lt, or_true, true_or, q23, q28, q24, show ((0 : Nat) : Int) = 0 from rfl, ↓reduceIte]
          exact Iff.rfl
        refine (mid.trans (u3 R)).trans ?_
        rw [st_id ok]
        rw [AWh_k, k_X11_text_52]
        simp only [AW_k, AWk_1, x_iload_4, x_aload_0, x_aloads_0, x_getf, x_icmp_ge, x_lload_2, x_iload_1, x_callv_3, x_ret, x_ret_i, x_ret_z, x_ret_l, x_ret_c, k_X11_text_52, k_X11_text_53, k_X11_text_54, k_X11_text_55, k_X11_text_70, k_X11_text_71, k_X11_text_72, k_X11_text_73, k_X11_text_74, oE_some, Int.reduceToNat, Nat.reduceAdd, true_and, and_true, List.length_cons, List.length_nil, Option.toList_some, Option.toList_none, List.cons_append, List.nil_append, Nat.reduceLeDiff, Nat.le_refl, wdS_nil, wdS_i, wdS_l, wdS_r, wdS_n, wdS_s, g17, Int.lt_irrefl, cK3, v3, ↓reduceIte]
  · have ci : inI w 0 2 = false := decide_eq_false hin
    have e1 : txG n G tc tb V w = G := by unfold txG; rw [if_neg hin]
    have e2 : txA n G tc tb V w = -1 := by unfold txA; rw [if_neg hin]
    rw [e1, e2, if_neg hin]
    refine ⟨hp, hX, Fr_refl hp, fun R => ?_⟩
    rw [callD_k]; simp only [entL_i, entL_l, entL_q, entL_s, entL_nil, n_X11_text, u_X11_text, m_X11_text, rep_3, List.cons_append, List.nil_append, List.append_nil, List.length_cons, List.length_nil, Nat.reduceAdd, true_and]
    simp only [AW_k, AWk_1, x_iload_1, x_i2l, x_push_i, x_push_l, x_call_3, x_if_ne, x_ret, x_ret_i, x_ret_z, x_ret_l, x_ret_c, k_X11_text_0, k_X11_text_1, k_X11_text_2, k_X11_text_3, k_X11_text_4, k_X11_text_5, k_X11_text_6, k_X11_text_7, oE_some, Int.reduceToNat, Nat.reduceAdd, true_and, and_true, List.length_cons, List.length_nil, Option.toList_some, Option.toList_none, List.cons_append, List.nil_append, Nat.reduceLeDiff, Nat.le_refl, wdS_nil, wdS_i, wdS_l, wdS_r, wdS_n, wdS_s, m_in (d + 98), tI_id hw, q0_I, q2_I, ci, zI_f, w00, ↓reduceIte]
