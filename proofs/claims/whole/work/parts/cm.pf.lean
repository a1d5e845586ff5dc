/-! ===== the reference reads a text: does it hold? ===== -/
def RS (sa st : List Int) : Prop := ∀ j, j < st.length → sa.getD (st.length - 1 - j) 0 = st.getD j 0
theorem RS_tail {sa r : List Int} {a : Int} (h : RS sa (a :: r)) : RS sa r := by
  intro j hj
  have := h (j + 1) (by rw [List.length_cons]; omega)
  rw [List.length_cons, show r.length + 1 - 1 - (j + 1) = r.length - 1 - j by omega] at this
  exact this
theorem RS_top {sa r : List Int} {a : Int} (h : RS sa (a :: r)) : sa.getD r.length 0 = a := by
  have := h 0 (by rw [List.length_cons]; omega)
  rw [List.length_cons, show r.length + 1 - 1 - 0 = r.length by omega] at this
  exact this
theorem RS_push {sa r : List Int} {a : Int} (h : RS sa r) (hl : r.length < sa.length) : RS (sa.set r.length a) (a :: r) := by
  intro j hj
  rw [List.length_cons] at hj ⊢
  rw [getD_set hl]
  cases j with
  | zero =>
    rw [if_pos (by omega)]
    rfl
  | succ j =>
    rw [if_neg (by omega), show r.length + 1 - 1 - (j + 1) = r.length - 1 - j by omega, h j (by omega)]
    rfl
def HS (hp : HP) (n : Nat) (G : BitVec 64) (z : Int) (c : Nat) (ks : List Int) (es : List Int) (ik : Bool) (kn : Nat) (kG : BitVec 64) (kz : Int) (kc : Nat) (kks : List Int) (kes : List Int) (tc : Nat) (tb : List Int) (sc : Nat) (tl : List Int) (so : List Int) (le : List Int) (it : Nat → List (BitVec 64)) (he : List Int) (th : List Int) (sl : List Int) (tr : Nat) (bo : List Int) (cs : List Int) : Prop := MI (hp) n G z c ks es ik kn kG kz kc kks kes tc tb sc tl so le it he th sl tr bo ∧ gF hp 54 11 26 = some (mI (cs.length : Int)) ∧ ∃ co, gA hp 66 = some co ∧ co.length = 200 ∧ ∀ i, i < cs.length → co.getD i 0 = cs.getD i 0
theorem HS_RD {hp : HP} {n : Nat} {G : BitVec 64} {z : Int} {c : Nat} {ks : List Int} {es : List Int} {ik : Bool} {kn : Nat} {kG : BitVec 64} {kz : Int} {kc : Nat} {kks : List Int} {kes : List Int} {tc : Nat} {tb : List Int} {sc : Nat} {tl : List Int} {so : List Int} {le : List Int} {it : Nat → List (BitVec 64)} {he : List Int} {th : List Int} {sl : List Int} {tr : Nat} {bo : List Int} {cs : List Int} (h : HS hp n G z c ks es ik kn kG kz kc kks kes tc tb sc tl so le it he th sl tr bo cs) : gF hp 54 11 21 = some (mR 66) ∧ gF hp 54 11 22 = some (mR 67) ∧ gC hp 54 = some 11 := by
  obtain ⟨hX, -, -⟩ := h
  obtain ⟨⟨u1, u2, u3⟩, kN, kZ, kM, kGm, l5, l6, qk, q0, q1, q2, q3, q4, q5, q6, q7, q8, q9⟩ := hX
  obtain ⟨fr_, to_, co_, op_, wr_, ki_, nu_, mm_, pa_, hF⟩ := YO_F q0
  have hA : MA hp n := ⟨⟨⟨u2, u3⟩, hF 0, hF 18, hF 19, q1.1.1, q1.1.2⟩, ⟨hF 13, hF 14, hF 15, hF 16, hF 17⟩, q1.2⟩
  have hK := hA.1
  have cK := cM hK
  have hG : gF hp 54 11 3 = some (mL G) := hF 3
  exact ⟨hF 21, hF 22, cK⟩
theorem HS_67 {hp : HP} {n : Nat} {G : BitVec 64} {z : Int} {c : Nat} {ks : List Int} {es : List Int} {ik : Bool} {kn : Nat} {kG : BitVec 64} {kz : Int} {kc : Nat} {kks : List Int} {kes : List Int} {tc : Nat} {tb : List Int} {sc : Nat} {tl : List Int} {so : List Int} {le : List Int} {it : Nat → List (BitVec 64)} {he : List Int} {th : List Int} {sl : List Int} {tr : Nat} {bo : List Int} {cs : List Int} {l m : List Int} (h : HS hp n G z c ks es ik kn kG kz kc kks kes tc tb sc tl so le it he th sl tr bo cs) (hl : gA hp 67 = some l) (hm : m.length = 200) : HS ((pA hp 67 m)) n G z c ks es ik kn kG kz kc kks kes tc tb sc tl so le it he th sl tr bo cs := by
  obtain ⟨hX, g26, co, a66, c2, c3⟩ := h
  exact ⟨MI_67 hX hl hm, by rw [gF_pA, g26], co, by rw [gA_pA (by omega), a66], c2, c3⟩
set_option maxHeartbeats 32000000 in
theorem t_holdsL (d : Nat) {n : Nat} {G : BitVec 64} {z : Int} {c : Nat} {ks : List Int} {es : List Int} {ik : Bool} {kn : Nat} {kG : BitVec 64} {kz : Int} {kc : Nat} {kks : List Int} {kes : List Int} {tc : Nat} {tb : List Int} {sc : Nat} {tl : List Int} {so : List Int} {le : List Int} {it : Nat → List (BitVec 64)} {he : List Int} {th : List Int} {sl : List Int} {tr : Nat} {bo : List Int} {x : Nat} (hx : x < NA n) : ∀ (post pre st sa : List Int) (e : Nat) (hp : HP), HS hp n G z c ks es ik kn kG kz kc kks kes tc tb sc tl so le it he th sl tr bo ((pre ++ post)) → (pre ++ post).length ≤ 200 → gA hp 67 = some sa → sa.length = 200 → RS sa st → st.length + post.length ≤ 200 → dpS st.length post = some e → ∃ h' sa', HS h' n G z c ks es ik kn kG kz kc kks kes tc tb sc tl so le it he th sl tr bo ((pre ++ post)) ∧ gA h' 67 = some sa' ∧ sa'.length = 200 ∧ RS sa' (evS n x post st) ∧ (evS n x post st).length = e ∧ Fr 54 83 hp h' ∧ ∀ R : PO, AWh (d + 3) [] 224 R 4 [some (mR 54), some (mI (x : Int)), some (mI ((st.length : Nat) : Int)), some (mI ((pre.length : Nat) : Int))] [] hp (0, 0) ↔ AWh (d + 3) [] 224 R 4 [some (mR 54), some (mI (x : Int)), some (mI ((e : Nat) : Int)), some (mI (((pre ++ post).length : Nat) : Int))] [] h' (0, 0) := by
  intro post
  induction post with
  | nil =>
    intro pre st sa e hp h hl a67 l67 hr hb hd
    have e1 : st.length = e := by cases hd; rfl
    subst e1
    rw [List.append_nil] at h ⊢
    exact ⟨hp, sa, h, a67, l67, hr, rfl, Fr_refl hp, fun R => Iff.rfl⟩
  | cons v post ih =>
    intro pre st sa e hp h hl a67 l67 hr hb hd
    rw [dpS_cons] at hd
    rw [List.length_cons] at hb
    have hv : w32 v = v := by
      apply Decidable.byContradiction
      intro q
      rw [if_neg q] at hd
      cases hd
    rw [if_pos hv, hv] at hd
    have ea : pre ++ v :: post = (pre ++ [v]) ++ post := List.append_cons pre v post
    have el : (pre ++ v :: post).length = pre.length + (post.length + 1) := by rw [List.length_append, List.length_cons]
    have el1 : (pre ++ [v]).length = pre.length + 1 := by rw [List.length_append]; rfl
    obtain ⟨g21, g22, cK⟩ := HS_RD h
    have g26 := h.2.1
    obtain ⟨hMA, -⟩ := MI_G h.1
    have h0 := h
    obtain ⟨-, -, co, a66, c2, c3⟩ := h
    have cv : co.getD pre.length 0 = v := by
      rw [c3 pre.length (by omega), List.getD_eq_getElem?_getD, List.getElem?_append_right (Nat.le_refl _), Nat.sub_self]
      rfl
    have bi : pre.length < 2147483648 := by omega
    have bL : (pre ++ v :: post).length < 2147483648 := by omega
    have ci : ((pre.length : Nat) : Int) < (((pre ++ v :: post).length : Nat) : Int) := by omega
    have ic : inB ((pre.length : Nat) : Int) 200 := inB_n (by omega) (by decide)
    have ei : ((pre.length : Nat) : Int) + 1 = (((pre ++ [v]).length : Nat) : Int) := by rw [el1]; omega
    have w6 : w32 (-6) = -6 := rfl
    have w9 : w32 (-9) = -9 := rfl
    by_cases c : -6 < v
    · rw [if_pos c] at hd
      have bt : st.length < 2147483648 := by omega
      have it0 : inB ((st.length : Nat) : Int) 200 := inB_n (by omega) (by decide)
      have t1 := HS_67 (m := sa.set st.length (fcE n v x)) h0 a67 (by rw [List.length_set]; exact l67)
      rw [ea] at t1
      have r1 : RS (sa.set st.length (fcE n v x)) (fcE n v x :: st) := RS_push hr (by omega)
      obtain ⟨h', sa', u1, u2, u3, u4, u5, u6, u7⟩ := ih (pre ++ [v]) (fcE n v x :: st) _ e _ t1 (by rw [← ea]; exact hl) (gA_pA_same a67) (by rw [List.length_set]; exact l67) r1 (by rw [List.length_cons]; omega) hd
      have ev : evS n x (v :: post) st = evS n x post (fcE n v x :: st) := by
        show evS n x post (if -6 < w32 v then _ else _) = _
        rw [hv, if_pos c]
      rw [ev]
      have et : ((st.length : Nat) : Int) + 1 = (((fcE n v x :: st).length : Nat) : Int) := by rw [List.length_cons]; omega
      refine ⟨h', sa', by rw [ea]; exact u1, u2, u3, u4, u5, Fr_trans (Fr_pA (by omega) (by omega)) u6, fun R => ?_⟩
      rw [ea, ← u7 R]
      rw [ea] at g26 ci bL
      rw [AWh_k, k_X11_holds_4]
      simp only [AW_k, AWk_1, x_iload_3, x_aload_0, x_aloads_0, x_getf, x_icmp_ge, x_iald, x_ialds, x_push_i, x_push_l, x_icmp_le, x_iload_2, x_iload_1, x_callv_3, x_iast, x_iinc_2, x_goto, x_iinc_3, unl_i, unl_l, unl_q, unl_r, unl_s, unl_n, k_X11_holds_4, k_X11_holds_5, k_X11_holds_6, k_X11_holds_7, k_X11_holds_8, k_X11_holds_9, k_X11_holds_10, k_X11_holds_11, k_X11_holds_12, k_X11_holds_13, k_X11_holds_14, k_X11_holds_15, k_X11_holds_16, k_X11_holds_17, k_X11_holds_18, k_X11_holds_19, k_X11_holds_20, k_X11_holds_21, k_X11_holds_22, k_X11_holds_23, k_X11_holds_24, k_X11_holds_25, k_X11_holds_26, k_X11_holds_74, k_X11_holds_75, oE_some, Int.reduceToNat, Nat.reduceAdd, true_and, and_true, List.length_cons, List.length_nil, Option.toList_some, Option.toList_none, List.cons_append, List.nil_append, Nat.reduceLeDiff, Nat.le_refl, wdS_nil, wdS_i, wdS_l, wdS_r, wdS_n, wdS_s, cK, g26, w32_nat bi, w32_nat bL, ci, g21, a66, c2, ic, Int.toNat_natCast, cv, hv, w6, c, g22, m_fact d hMA hx hv, a67, l67, it0, w32_tn bt, et, ei, ↓reduceIte]
    · rw [if_neg c] at hd
      by_cases c9 : v = -9
      · rw [if_pos c9] at hd
        by_cases q1 : 1 ≤ st.length
        · rw [if_pos q1] at hd
          cases st with
          | nil => exact absurd q1 (by decide)
          | cons a r =>
            rw [List.length_cons] at hb hd
            have bt : r.length < 2147483648 := by omega
            have it0 : inB ((r.length : Nat) : Int) 200 := inB_n (by omega) (by decide)
            have t1 := HS_67 (m := sa.set r.length (1 - a)) h0 a67 (by rw [List.length_set]; exact l67)
            rw [ea] at t1
            have r1 : RS (sa.set r.length (1 - a)) ((1 - a) :: r) := RS_push (RS_tail hr) (by omega)
            have rt := RS_top hr
            obtain ⟨h', sa', u1, u2, u3, u4, u5, u6, u7⟩ := ih (pre ++ [v]) ((1 - a) :: r) _ e _ t1 (by rw [← ea]; exact hl) (gA_pA_same a67) (by rw [List.length_set]; exact l67) r1 (by rw [List.length_cons]; omega) hd
            have ev : evS n x (v :: post) (a :: r) = evS n x post ((1 - a) :: r) := by
              show evS n x post (if -6 < w32 v then _ else (if w32 v = -9 then _ else _)) = _
              rw [hv, if_neg c, if_pos c9]
            rw [ev]
            have et : (((r.length + 1 : Nat)) : Int) - 1 = ((r.length : Nat) : Int) := by omega
            refine ⟨h', sa', by rw [ea]; exact u1, u2, u3, u4, u5, Fr_trans (Fr_pA (by omega) (by omega)) u6, fun R => ?_⟩
            rw [ea, ← u7 R]
            rw [ea] at g26 ci bL
            subst c9
            rw [AWh_k, k_X11_holds_4]
            simp only [AW_k, AWk_1, x_iload_3, x_aload_0, x_aloads_0, x_getf, x_icmp_ge, x_iald, x_ialds, x_push_i, x_push_l, x_icmp_le, x_icmp_ne, x_iload_2, x_isub, x_iast, x_goto, x_iinc_3, unl_i, unl_l, unl_q, unl_r, unl_s, unl_n, k_X11_holds_4, k_X11_holds_5, k_X11_holds_6, k_X11_holds_7, k_X11_holds_8, k_X11_holds_9, k_X11_holds_10, k_X11_holds_11, k_X11_holds_12, k_X11_holds_13, k_X11_holds_27, k_X11_holds_28, k_X11_holds_29, k_X11_holds_30, k_X11_holds_31, k_X11_holds_32, k_X11_holds_33, k_X11_holds_34, k_X11_holds_35, k_X11_holds_36, k_X11_holds_37, k_X11_holds_38, k_X11_holds_39, k_X11_holds_40, k_X11_holds_41, k_X11_holds_42, k_X11_holds_43, k_X11_holds_44, k_X11_holds_45, k_X11_holds_46, k_X11_holds_47, k_X11_holds_74, k_X11_holds_75, oE_some, Int.reduceToNat, Nat.reduceAdd, true_and, and_true, List.length_cons, List.length_nil, Option.toList_some, Option.toList_none, List.cons_append, List.nil_append, Nat.reduceLeDiff, Nat.le_refl, wdS_nil, wdS_i, wdS_l, wdS_r, wdS_n, wdS_s, cK, g26, w32_nat bi, w32_nat bL, ci, g21, a66, c2, ic, Int.toNat_natCast, cv, w6, w9, c, g22, a67, l67, it0, w32_tn bt, rt, et, ei, Int.reduceNeg, Int.reduceLT, ↓reduceIte]
        · rw [if_neg q1] at hd
          cases hd
      · rw [if_neg c9] at hd
        by_cases q2 : 2 ≤ st.length
        · rw [if_pos q2] at hd
          match st, hb, hd, q2, hr with
          | [], _, _, q2, _ => exact absurd q2 (by decide)
          | [_], _, _, q2, _ => exact absurd q2 (show ¬ (2 : Nat) ≤ 1 by decide)
          | b :: a :: r, hb, hd, q2, hr =>
            rw [List.length_cons, List.length_cons] at hb hd
            have bt : r.length < 2147483648 := by omega
            have bt1 : r.length + 1 < 2147483648 := by omega
            have it0 : inB ((r.length : Nat) : Int) 200 := inB_n (by omega) (by decide)
            have it1 : inB (((r.length + 1 : Nat)) : Int) 200 := inB_n (by omega) (by decide)
            have t1 := HS_67 (m := sa.set r.length (zI (soV v a b))) h0 a67 (by rw [List.length_set]; exact l67)
            rw [ea] at t1
            have r1 : RS (sa.set r.length (zI (soV v a b))) (zI (soV v a b) :: r) := RS_push (RS_tail (RS_tail hr)) (by omega)
            have rt := RS_top (RS_tail hr)
            have rt1 := RS_top hr
            rw [List.length_cons] at rt1
            obtain ⟨h', sa', u1, u2, u3, u4, u5, u6, u7⟩ := ih (pre ++ [v]) (zI (soV v a b) :: r) _ e _ t1 (by rw [← ea]; exact hl) (gA_pA_same a67) (by rw [List.length_set]; exact l67) r1 (by rw [List.length_cons]; omega) hd
            have ev : evS n x (v :: post) (b :: a :: r) = evS n x post (zI (soV v a b) :: r) := by
              show evS n x post (if -6 < w32 v then _ else (if w32 v = -9 then _ else _)) = _
              rw [hv, if_neg c, if_neg c9]
            rw [ev]
            have et1 : (((r.length + 1 + 1 : Nat)) : Int) + -1 = ((r.length + 1 : Nat) : Int) := by omega
            have et2 : (((r.length + 1 + 1 : Nat)) : Int) - 1 = ((r.length + 1 : Nat) : Int) := by omega
            have et : (((r.length + 1 : Nat)) : Int) - 1 = ((r.length : Nat) : Int) := by omega
            refine ⟨h', sa', by rw [ea]; exact u1, u2, u3, u4, u5, Fr_trans (Fr_pA (by omega) (by omega)) u6, fun R => ?_⟩
            rw [ea, ← u7 R]
            rw [ea] at g26 ci bL
            rw [AWh_k, k_X11_holds_4]
            cases es : soV v a b with
            | true =>
              simp only [AW_k, AWk_1, x_iload_3, x_aload_0, x_aloads_0, x_getf, x_icmp_ge, x_iald, x_ialds, x_push_i, x_push_l, x_icmp_le, x_icmp_ne, x_iinc_2, x_iload_2, x_isub, x_call_3, x_if_eq, x_goto, x_iast, x_iinc_3, unl_i, unl_l, unl_q, unl_r, unl_s, unl_n, k_X11_holds_4, k_X11_holds_5, k_X11_holds_6, k_X11_holds_7, k_X11_holds_8, k_X11_holds_9, k_X11_holds_10, k_X11_holds_11, k_X11_holds_12, k_X11_holds_13, k_X11_holds_27, k_X11_holds_28, k_X11_holds_29, k_X11_holds_30, k_X11_holds_31, k_X11_holds_32, k_X11_holds_48, k_X11_holds_49, k_X11_holds_50, k_X11_holds_51, k_X11_holds_52, k_X11_holds_53, k_X11_holds_54, k_X11_holds_55, k_X11_holds_56, k_X11_holds_57, k_X11_holds_58, k_X11_holds_59, k_X11_holds_60, k_X11_holds_61, k_X11_holds_62, k_X11_holds_63, k_X11_holds_64, k_X11_holds_65, k_X11_holds_66, k_X11_holds_67, k_X11_holds_68, k_X11_holds_69, k_X11_holds_70, k_X11_holds_71, k_X11_holds_72, k_X11_holds_73, k_X11_holds_74, k_X11_holds_75, oE_some, Int.reduceToNat, Nat.reduceAdd, true_and, and_true, List.length_cons, List.length_nil, Option.toList_some, Option.toList_none, List.cons_append, List.nil_append, Nat.reduceLeDiff, Nat.le_refl, wdS_nil, wdS_i, wdS_l, wdS_r, wdS_n, wdS_s, cK, g26, w32_nat bi, w32_nat bL, ci, g21, a66, c2, ic, Int.toNat_natCast, cv, hv, w6, w9, c, c9, g22, a67, l67, it0, it1, w32_tn bt, w32_tn bt1, rt, rt1, et, et1, et2, ei, m_isSo (d + 2) hv c9, es, zI_t, w10, ↓reduceIte]
            | false =>
              simp only [AW_k, AWk_1, x_iload_3, x_aload_0, x_aloads_0, x_getf, x_icmp_ge, x_iald, x_ialds, x_push_i, x_push_l, x_icmp_le, x_icmp_ne, x_iinc_2, x_iload_2, x_isub, x_call_3, x_if_eq, x_goto, x_iast, x_iinc_3, unl_i, unl_l, unl_q, unl_r, unl_s, unl_n, k_X11_holds_4, k_X11_holds_5, k_X11_holds_6, k_X11_holds_7, k_X11_holds_8, k_X11_holds_9, k_X11_holds_10, k_X11_holds_11, k_X11_holds_12, k_X11_holds_13, k_X11_holds_27, k_X11_holds_28, k_X11_holds_29, k_X11_holds_30, k_X11_holds_31, k_X11_holds_32, k_X11_holds_48, k_X11_holds_49, k_X11_holds_50, k_X11_holds_51, k_X11_holds_52, k_X11_holds_53, k_X11_holds_54, k_X11_holds_55, k_X11_holds_56, k_X11_holds_57, k_X11_holds_58, k_X11_holds_59, k_X11_holds_60, k_X11_holds_61, k_X11_holds_62, k_X11_holds_63, k_X11_holds_64, k_X11_holds_65, k_X11_holds_66, k_X11_holds_67, k_X11_holds_68, k_X11_holds_69, k_X11_holds_70, k_X11_holds_71, k_X11_holds_72, k_X11_holds_73, k_X11_holds_74, k_X11_holds_75, oE_some, Int.reduceToNat, Nat.reduceAdd, true_and, and_true, List.length_cons, List.length_nil, Option.toList_some, Option.toList_none, List.cons_append, List.nil_append, Nat.reduceLeDiff, Nat.le_refl, wdS_nil, wdS_i, wdS_l, wdS_r, wdS_n, wdS_s, cK, g26, w32_nat bi, w32_nat bL, ci, g21, a66, c2, ic, Int.toNat_natCast, cv, hv, w6, w9, c, c9, g22, a67, l67, it0, it1, w32_tn bt, w32_tn bt1, rt, rt1, et, et1, et2, ei, m_isSo (d + 2) hv c9, es, zI_f, w00, ↓reduceIte]
        · rw [if_neg q2] at hd
          cases hd
set_option maxHeartbeats 16000000 in
theorem t_holds (d : Nat) {n : Nat} {G : BitVec 64} {z : Int} {c : Nat} {ks : List Int} {es : List Int} {ik : Bool} {kn : Nat} {kG : BitVec 64} {kz : Int} {kc : Nat} {kks : List Int} {kes : List Int} {tc : Nat} {tb : List Int} {sc : Nat} {tl : List Int} {so : List Int} {le : List Int} {it : Nat → List (BitVec 64)} {he : List Int} {th : List Int} {sl : List Int} {tr : Nat} {bo : List Int} {x : Nat} {b : Bool} {cs : List Int} {hp : HP} (h : HS hp n G z c ks es ik kn kG kz kc kks kes tc tb sc tl so le it he th sl tr bo cs) (hx : x < NA n) (hl : cs.length ≤ 200) (hd : dpS 0 cs = some 1) (hev : evS n x cs [] = [zI b]) : ∃ h', HS h' n G z c ks es ik kn kG kz kc kks kes tc tb sc tl so le it he th sl tr bo cs ∧ Fr 54 83 hp h' ∧ ∀ R : PO, callD (d + 4) 224 [mR 54, mI (x : Int)] hp R ↔ R (some (mI (zI b))) h' := by
  have h0 := h
  obtain ⟨⟨-, kN, kZ, kM, kGm, l5, l6, qk, q0, q1, q2, q3, q4, -⟩, -⟩ := h
  obtain ⟨-, co, sa, ⟨-, a67⟩, -, l67⟩ := q4
  obtain ⟨h', sa', u1, u2, u3, u4, u5, u6, u7⟩ := t_holdsL d hx cs [] [] sa 1 hp h0 hl a67 l67 (fun j hj => absurd hj (Nat.not_lt_zero j)) (by show 0 + _ ≤ _; omega) hd
  rw [List.nil_append] at u1 u7
  rw [hev] at u4
  have rt : sa'.getD 0 0 = zI b := RS_top u4
  have g26 := u1.2.1
  have g22 := (HS_RD u1).2.1
  have bL : cs.length < 2147483648 := by omega
  have i0 : inB 0 200 := inB_n (k := 0) (n := 200) (by decide) (by decide)
  refine ⟨h', u1, u6, fun R => ?_⟩
  have s0 : callD (d + 4) 224 [mR 54, mI (x : Int)] hp R ↔ AWh (d + 3) [] 224 R 4 [some (mR 54), some (mI (x : Int)), some (mI 0), some (mI 0)] [] hp (0, 0) := by
    rw [callD_k]; simp only [entL_i, entL_l, entL_q, entL_s, entL_nil, n_X11_holds, u_X11_holds, m_X11_holds, rep_2, List.cons_append, List.nil_append, List.append_nil, List.length_cons, List.length_nil, Nat.reduceAdd, true_and]
    simp only [AW_k, AWk_1, x_push_i, x_push_l, x_istore_2, x_istore_3, unl_i, unl_l, unl_q, unl_r, unl_s, unl_n, k_X11_holds_0, k_X11_holds_1, k_X11_holds_2, k_X11_holds_3, oE_some, Int.reduceToNat, Nat.reduceAdd, true_and, and_true, List.length_cons, List.length_nil, Option.toList_some, Option.toList_none, List.cons_append, List.nil_append, Nat.reduceLeDiff, Nat.le_refl, wdS_nil, wdS_i, wdS_l, wdS_r, wdS_n, wdS_s]
    exact Iff.rfl
  refine (s0.trans (u7 R)).trans ?_
  rw [AWh_k, k_X11_holds_4]
  cases b with
  | true =>
    simp only [AW_k, AWk_1, x_iload_3, x_aload_0, x_aloads_0, x_getf, x_icmp_ge, x_push_i, x_push_l, x_iald, x_ialds, x_icmp_ne, x_goto, x_ret, x_ret_i, x_ret_z, x_ret_l, x_ret_c, k_X11_holds_4, k_X11_holds_5, k_X11_holds_6, k_X11_holds_7, k_X11_holds_76, k_X11_holds_77, k_X11_holds_78, k_X11_holds_79, k_X11_holds_80, k_X11_holds_81, k_X11_holds_82, k_X11_holds_83, k_X11_holds_84, k_X11_holds_85, oE_some, Int.reduceToNat, Nat.reduceAdd, true_and, and_true, List.length_cons, List.length_nil, Option.toList_some, Option.toList_none, List.cons_append, List.nil_append, Nat.reduceLeDiff, Nat.le_refl, wdS_nil, wdS_i, wdS_l, wdS_r, wdS_n, wdS_s, g26, w32_nat bL, Int.lt_irrefl, g22, u2, u3, i0, show (w32 0).toNat = 0 from rfl, rt, zI_t, or_true, true_or, show w32 0 = 0 from rfl, show w32 1 = 1 from rfl, show ((0 : Int) = 1) = False from eq_false (by decide), ↓reduceIte]
  | false =>
    simp only [AW_k, AWk_1, x_iload_3, x_aload_0, x_aloads_0, x_getf, x_icmp_ge, x_push_i, x_push_l, x_iald, x_ialds, x_icmp_ne, x_goto, x_ret, x_ret_i, x_ret_z, x_ret_l, x_ret_c, k_X11_holds_4, k_X11_holds_5, k_X11_holds_6, k_X11_holds_7, k_X11_holds_76, k_X11_holds_77, k_X11_holds_78, k_X11_holds_79, k_X11_holds_80, k_X11_holds_81, k_X11_holds_82, k_X11_holds_83, k_X11_holds_84, k_X11_holds_85, oE_some, Int.reduceToNat, Nat.reduceAdd, true_and, and_true, List.length_cons, List.length_nil, Option.toList_some, Option.toList_none, List.cons_append, List.nil_append, Nat.reduceLeDiff, Nat.le_refl, wdS_nil, wdS_i, wdS_l, wdS_r, wdS_n, wdS_s, g26, w32_nat bL, Int.lt_irrefl, g22, u2, u3, i0, show (w32 0).toNat = 0 from rfl, rt, zI_f, or_true, true_or, show w32 0 = 0 from rfl, show w32 1 = 1 from rfl, show ((0 : Int) = 1) = False from eq_false (by decide), ↓reduceIte]
