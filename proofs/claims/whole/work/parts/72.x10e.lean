/-! ===== the class's own methods: a text; rows alike ===== -/
def bO (tb : List Int) (k : Nat) : Nat := (tb.getD k 0).toNat
theorem bO_ok {tb : List Int} {b : Nat → Nat} (h : byOK tb b) : byOK tb (bO tb) := by
  refine ⟨h.1, fun k hk => ?_⟩
  have e := (h.2 k hk).1
  have l := (h.2 k hk).2
  unfold bO
  rw [e, Int.toNat_natCast]
  exact ⟨rfl, l⟩
def rdT (n tc : Nat) (tb : List Int) (V : Nat → Int) : BitVec 64 × Int := rdP n (tW (bO tb) (TT (bO tb) tc)) (tB tc (TT (bO tb) tc)) V
def txG (n : Nat) (G : BitVec 64) (tc : Nat) (tb : List Int) (V : Nat → Int) (w : Int) : BitVec 64 := if 0 ≤ w ∧ w ≤ 2 then (if (rdT n tc tb V).2 < 0 then coG n G (rdT n tc tb V).1 w else G) else G
def txA (n : Nat) (G : BitVec 64) (tc : Nat) (tb : List Int) (V : Nat → Int) (w : Int) : Int := if 0 ≤ w ∧ w ≤ 2 then (if (rdT n tc tb V).2 < 0 then popI (txG n G tc tb V w) else -100 - (rdT n tc tb V).2) else -1
theorem tb_w {ra a b : Nat} (h : tbAt ra) (hb : b ≤ 37) : b ≤ ra ∨ ra + 16 ≤ a := by unfold tbAt at h; omega
set_option maxHeartbeats 16000000 in
theorem x10_text (d : Nat) {hp : HP} {n : Nat} {G : BitVec 64} {z : Int} {c : Nat} {ks : List Int} {es : List Int} {ik : Bool} {kn : Nat} {kG : BitVec 64} {kz : Int} {kc : Nat} {kks : List Int} {kes : List Int} {tc : Nat} {tb : List Int} {sc : Nat} {tl : List Int} {so : List Int} {le : List Int} {it : Nat → List (BitVec 64)} {he : List Int} {th : List Int} {sl : List Int} {tr : Nat} {bo : List Int} {w : Int} (hX : XI hp n G z c ks es ik kn kG kz kc kks kes tc tb sc tl so le it he th sl tr bo) (hw : w32 w = w) : ∃ V h', (∀ k, k < (TT (bO tb) tc).length → V k = tV (bO tb) (TT (bO tb) tc) k) ∧ XI h' n (txG n G tc tb V w) z c ks es ik kn kG kz kc kks kes (if 0 ≤ w ∧ w ≤ 2 then 0 else tc) tb sc tl so le it he th sl tr bo ∧ Kx hp h' ∧ ∀ R : PO, callD (d + 100) 124 [mR 0, mI w] hp R ↔ R (some (mI (txA n G tc tb V w))) h' := by
  have hX0 := hX
  obtain ⟨ra, ts, q0, q1, q2, q3, q4, q5, q6, q7, q8, q9, q10, q11, qk⟩ := hX
  have hR := q1.1
  have h1 := rw_1 hR
  have h6 := rw_6 hR
  have f1 := FC_le n
  have cR := rC0 hR
  have cA := rC1 hR
  have o0 : gF hp 0 10 0 = some (mR 1) := XO_F q0 0
  have o1 : gF hp 0 10 1 = some (mR ra) := XO_F q0 1
  have o2 : gF hp 0 10 2 = some (mL G) := XO_F q0 2
  have o3 : gF hp 0 10 3 = some (mI z) := XO_F q0 3
  have o4 : gF hp 0 10 4 = some (mR 2) := XO_F q0 4
  have o5 : gF hp 0 10 5 = some (mR 5) := XO_F q0 5
  have o6 : gF hp 0 10 6 = some (mR 10) := XO_F q0 6
  have o7 : gF hp 0 10 7 = some (mR 14) := XO_F q0 7
  have o8 : gF hp 0 10 8 = some (mR 17) := XO_F q0 8
  have o9 : gF hp 0 10 9 = some (mR 19) := XO_F q0 9
  have o10 : gF hp 0 10 10 = some (mR 27) := XO_F q0 10
  have o11 : gF hp 0 10 11 = some (mR 31) := XO_F q0 11
  have o12 : gF hp 0 10 12 = some (mR 33) := XO_F q0 12
  have o13 : gF hp 0 10 13 = some (mI (zI ik)) := XO_F q0 13
  have o14 : gF hp 0 10 14 = some (mI (kn : Int)) := XO_F q0 14
  have o15 : gF hp 0 10 15 = some (mL kG) := XO_F q0 15
  have o16 : gF hp 0 10 16 = some (mI kz) := XO_F q0 16
  have o17 : gF hp 0 10 17 = some (mR 34) := XO_F q0 17
  have cO := gC_of o0
  have i2 : w32 2 = 2 := rfl
  obtain ⟨⟨ft, ws, bg, wo, at_, av, qt, ql⟩, hc, bb, hb⟩ := q3
  have g5 := qt.1.1
  by_cases hin : 0 ≤ w ∧ w ≤ 2
  · have n1 : (w < 0) = False := eq_false (by omega)
    have n2 : (2 < w) = False := eq_false (by omega)
    obtain ⟨h1', at', ws', bg', wo', V, u1, u2, u3, u4, u5, u6, u7⟩ := c8_read (d + 84) hR qt (bO_ok hb) hc ql (tb_w q1.2.1 (by omega))
    have X1 : XI h1' n G z c ks es ik kn kG kz kc kks kes 0 tb sc tl so le it he th sl tr bo := XI_P hX0 u6 ⟨⟨_, _, _, _, _, _, u1, u2⟩, by omega, bb, hb⟩
    have g51 := u1.1.2.1
    have of5 : gF h1' 0 10 5 = some (mR 5) := by rw [gF_Fr u6 (by omega), o5]
    have cO1 : gC h1' 0 = some 10 := gC_of of5
    have rn : (rdT n tc tb V).2 = (rdP n (tW (bO tb) (TT (bO tb) tc)) (tB tc (TT (bO tb) tc)) V).2 := rfl
    have rv : (rdT n tc tb V).1 = (rdP n (tW (bO tb) (TT (bO tb) tc)) (tB tc (TT (bO tb) tc)) V).1 := rfl
    rw [← rn] at g51 u4 u5
    have wr : w32 (rdT n tc tb V).2 = (rdT n tc tb V).2 := w32_id (by omega) (by omega)
    have u7' : ∀ R : PO, callD (d + 99) 75 [mR 5, mR (ra + 1)] hp R ↔ R (some (mL (rdT n tc tb V).1)) h1' := u7
    by_cases hf : (rdT n tc tb V).2 < 0
    · obtain ⟨h', v1, v2, v3⟩ := x10_come (d + 9) (t := (rdT n tc tb V).1) (w := w) X1 hw
      have e1 : txG n G tc tb V w = coG n G (rdT n tc tb V).1 w := by unfold txG; rw [if_pos hin, if_pos hf]
      have e2 : txA n G tc tb V w = popI (coG n G (rdT n tc tb V).1 w) := by unfold txA; rw [if_pos hin, if_pos hf, e1]
      have n3 : ((rdT n tc tb V).2 < 0) = True := eq_true hf
      refine ⟨V, ?_⟩
      rw [e1, e2, if_pos hin]
      refine ⟨h', u3, v1, Kx_trans (Kx_Fr u6 (by omega)) v2, fun R => ?_⟩
      rw [callD_k]; simp only [entL_i, entL_l, entL_q, entL_s, entL_nil, n_X10_text, u_X10_text, m_X10_text, rep_2, List.cons_append, List.nil_append, List.append_nil, List.length_cons, List.length_nil, Nat.reduceAdd, true_and]
      simp only [AW_k, AWk_1, x_iload_1, x_if_lt, x_push_i, x_push_l, x_icmp_le, x_ret, x_ret_i, x_ret_z, x_ret_l, x_ret_c, x_aload_0, x_aloads_0, x_getf, x_callv_2, x_lstore_2, x_isub, x_goto, x_lload_2, x_callv_3, unl_i, unl_l, unl_q, unl_r, unl_s, unl_n, k_X10_text_0, k_X10_text_1, k_X10_text_2, k_X10_text_3, k_X10_text_4, k_X10_text_5, k_X10_text_6, k_X10_text_7, k_X10_text_8, k_X10_text_9, k_X10_text_10, k_X10_text_11, k_X10_text_12, k_X10_text_13, k_X10_text_14, k_X10_text_15, k_X10_text_16, k_X10_text_17, k_X10_text_18, k_X10_text_19, k_X10_text_20, k_X10_text_21, k_X10_text_22, k_X10_text_23, k_X10_text_24, k_X10_text_25, k_X10_text_26, k_X10_text_27, k_X10_text_28, oE_some, Int.reduceToNat, Nat.reduceAdd, true_and, and_true, List.length_cons, List.length_nil, Option.toList_some, Option.toList_none, List.cons_append, List.nil_append, Nat.reduceLeDiff, Nat.le_refl, wdS_nil, wdS_i, wdS_l, wdS_r, wdS_n, wdS_s, hw, i2, n1, n2, o5, o1, rw_arcs hR, gC_of g5, u7', of5, g51, wr, n3, cO1, v3, ↓reduceIte]
    · have e1 : txG n G tc tb V w = G := by unfold txG; rw [if_pos hin, if_neg hf]
      have e2 : txA n G tc tb V w = -100 - (rdT n tc tb V).2 := by unfold txA; rw [if_pos hin, if_neg hf]
      have n3 : ((rdT n tc tb V).2 < 0) = False := eq_false hf
      refine ⟨V, ?_⟩
      rw [e1, e2, if_pos hin]
      refine ⟨h1', u3, X1, Kx_Fr u6 (by omega), fun R => ?_⟩
      rw [callD_k]; simp only [entL_i, entL_l, entL_q, entL_s, entL_nil, n_X10_text, u_X10_text, m_X10_text, rep_2, List.cons_append, List.nil_append, List.append_nil, List.length_cons, List.length_nil, Nat.reduceAdd, true_and]
      simp only [AW_k, AWk_1, x_iload_1, x_if_lt, x_push_i, x_push_l, x_icmp_le, x_ret, x_ret_i, x_ret_z, x_ret_l, x_ret_c, x_aload_0, x_aloads_0, x_getf, x_callv_2, x_lstore_2, x_isub, x_goto, x_lload_2, x_callv_3, unl_i, unl_l, unl_q, unl_r, unl_s, unl_n, k_X10_text_0, k_X10_text_1, k_X10_text_2, k_X10_text_3, k_X10_text_4, k_X10_text_5, k_X10_text_6, k_X10_text_7, k_X10_text_8, k_X10_text_9, k_X10_text_10, k_X10_text_11, k_X10_text_12, k_X10_text_13, k_X10_text_14, k_X10_text_15, k_X10_text_16, k_X10_text_17, k_X10_text_18, k_X10_text_19, k_X10_text_20, k_X10_text_21, k_X10_text_22, k_X10_text_23, k_X10_text_24, k_X10_text_25, k_X10_text_26, k_X10_text_27, k_X10_text_28, oE_some, Int.reduceToNat, Nat.reduceAdd, true_and, and_true, List.length_cons, List.length_nil, Option.toList_some, Option.toList_none, List.cons_append, List.nil_append, Nat.reduceLeDiff, Nat.le_refl, wdS_nil, wdS_i, wdS_l, wdS_r, wdS_n, wdS_s, hw, i2, n1, n2, o5, o1, rw_arcs hR, gC_of g5, u7', of5, g51, wr, n3, ↓reduceIte]
  · have e1 : ∀ V, txG n G tc tb V w = G := by intro V; unfold txG; rw [if_neg hin]
    have e2 : ∀ V, txA n G tc tb V w = -1 := by intro V; unfold txA; rw [if_neg hin]
    refine ⟨tV (bO tb) (TT (bO tb) tc), hp, fun k _ => rfl, ?_, Kx_refl hp, fun R => ?_⟩
    · rw [e1, if_neg hin]; exact hX0
    · rw [e2]
      rw [callD_k]; simp only [entL_i, entL_l, entL_q, entL_s, entL_nil, n_X10_text, u_X10_text, m_X10_text, rep_2, List.cons_append, List.nil_append, List.append_nil, List.length_cons, List.length_nil, Nat.reduceAdd, true_and]
      simp only [AW_k, AWk_1, x_iload_1, x_if_lt, x_push_i, x_push_l, x_icmp_le, k_X10_text_0, k_X10_text_1, k_X10_text_2, k_X10_text_3, k_X10_text_4, oE_some, Int.reduceToNat, Nat.reduceAdd, true_and, and_true, List.length_cons, List.length_nil, Option.toList_some, Option.toList_none, List.cons_append, List.nil_append, Nat.reduceLeDiff, Nat.le_refl, wdS_nil, wdS_i, wdS_l, wdS_r, wdS_n, wdS_s, hw, i2]
      by_cases a1 : w < 0
      · rw [if_pos a1]
        simp only [AW_k, AWk_1, x_push_i, x_push_l, x_ret, x_ret_i, x_ret_z, x_ret_l, x_ret_c, k_X10_text_5, k_X10_text_6, oE_some, Int.reduceToNat, Nat.reduceAdd, true_and, and_true, List.length_cons, List.length_nil, Option.toList_some, Option.toList_none, List.cons_append, List.nil_append, Nat.reduceLeDiff, Nat.le_refl, wdS_nil, wdS_i, wdS_l, wdS_r, wdS_n, wdS_s]
      · rw [if_neg a1, if_pos (by omega)]
        simp only [AW_k, AWk_1, x_push_i, x_push_l, x_ret, x_ret_i, x_ret_z, x_ret_l, x_ret_c, k_X10_text_5, k_X10_text_6, oE_some, Int.reduceToNat, Nat.reduceAdd, true_and, and_true, List.length_cons, List.length_nil, Option.toList_some, Option.toList_none, List.cons_append, List.nil_append, Nat.reduceLeDiff, Nat.le_refl, wdS_nil, wdS_i, wdS_l, wdS_r, wdS_n, wdS_s]
/-- what is asked of the rows alike -/
def alW (n : Nat) (G : BitVec 64) (w : Int) (i : Nat) : Int := if w = 0 then ((num n (lst n G i) : Nat) : Int) else if w = 1 then ((num n (gst n G i) : Nat) : Int) else if w = 2 then hma n G i else -1
set_option maxHeartbeats 16000000 in
theorem x10_alike (d : Nat) {hp : HP} {n : Nat} {G : BitVec 64} {z : Int} {c : Nat} {ks : List Int} {es : List Int} {ik : Bool} {kn : Nat} {kG : BitVec 64} {kz : Int} {kc : Nat} {kks : List Int} {kes : List Int} {tc : Nat} {tb : List Int} {sc : Nat} {tl : List Int} {so : List Int} {le : List Int} {it : Nat → List (BitVec 64)} {he : List Int} {th : List Int} {sl : List Int} {tr : Nat} {bo : List Int} {x w : Int} (hX : XI hp n G z c ks es ik kn kG kz kc kks kes tc tb sc tl so le it he th sl tr bo) (hx : w32 x = x) (hw : w32 w = w) (R : PO) : callD (d + 100) 126 [mR 0, mI x, mI w] hp R ↔ R (some (mI (an1 n x (alW n G w)))) hp := by
  obtain ⟨ra, ts, q0, q1, q2, q3, q4, q5, q6, q7, q8, q9, q10, q11, qk⟩ := hX
  have hR := q1.1
  have h1 := rw_1 hR
  have h6 := rw_6 hR
  have f1 := FC_le n
  have cR := rC0 hR
  have cA := rC1 hR
  have o0 : gF hp 0 10 0 = some (mR 1) := XO_F q0 0
  have o1 : gF hp 0 10 1 = some (mR ra) := XO_F q0 1
  have o2 : gF hp 0 10 2 = some (mL G) := XO_F q0 2
  have o3 : gF hp 0 10 3 = some (mI z) := XO_F q0 3
  have o4 : gF hp 0 10 4 = some (mR 2) := XO_F q0 4
  have o5 : gF hp 0 10 5 = some (mR 5) := XO_F q0 5
  have o6 : gF hp 0 10 6 = some (mR 10) := XO_F q0 6
  have o7 : gF hp 0 10 7 = some (mR 14) := XO_F q0 7
  have o8 : gF hp 0 10 8 = some (mR 17) := XO_F q0 8
  have o9 : gF hp 0 10 9 = some (mR 19) := XO_F q0 9
  have o10 : gF hp 0 10 10 = some (mR 27) := XO_F q0 10
  have o11 : gF hp 0 10 11 = some (mR 31) := XO_F q0 11
  have o12 : gF hp 0 10 12 = some (mR 33) := XO_F q0 12
  have o13 : gF hp 0 10 13 = some (mI (zI ik)) := XO_F q0 13
  have o14 : gF hp 0 10 14 = some (mI (kn : Int)) := XO_F q0 14
  have o15 : gF hp 0 10 15 = some (mL kG) := XO_F q0 15
  have o16 : gF hp 0 10 16 = some (mI kz) := XO_F q0 16
  have o17 : gF hp 0 10 17 = some (mR 34) := XO_F q0 17
  have cO := gC_of o0
  cases ex : ixo n x with
  | none =>
    rw [an1_n ex]
    rw [callD_k]; simp only [entL_i, entL_l, entL_q, entL_s, entL_nil, n_X10_alike, u_X10_alike, m_X10_alike, rep_1, List.cons_append, List.nil_append, List.append_nil, List.length_cons, List.length_nil, Nat.reduceAdd, true_and]
    simp only [AW_k, AWk_1, x_aload_0, x_aloads_0, x_getf, x_iload_1, x_callv_2, x_istore_3, x_iload_3, x_if_ge, x_push_i, x_push_l, x_ret, x_ret_i, x_ret_z, x_ret_l, x_ret_c, x_iload_2, x_switch, AW_sw, AW_sw0, x_callv_3, x_iald, x_ialds, unl_i, unl_l, unl_q, unl_r, unl_s, unl_n, k_X10_alike_0, k_X10_alike_1, k_X10_alike_2, k_X10_alike_3, k_X10_alike_4, k_X10_alike_5, k_X10_alike_6, k_X10_alike_7, k_X10_alike_8, k_X10_alike_9, k_X10_alike_10, k_X10_alike_11, k_X10_alike_12, k_X10_alike_13, k_X10_alike_14, k_X10_alike_15, k_X10_alike_16, k_X10_alike_17, k_X10_alike_18, k_X10_alike_19, k_X10_alike_20, k_X10_alike_21, k_X10_alike_22, k_X10_alike_23, k_X10_alike_24, k_X10_alike_25, k_X10_alike_26, k_X10_alike_27, k_X10_alike_28, k_X10_alike_29, k_X10_alike_30, k_X10_alike_31, k_X10_alike_32, k_X10_alike_33, k_X10_alike_34, k_X10_alike_35, k_X10_alike_36, k_X10_alike_37, k_X10_alike_38, k_X10_alike_39, k_X10_alike_40, k_X10_alike_41, oE_some, Int.reduceToNat, Nat.reduceAdd, true_and, and_true, List.length_cons, List.length_nil, Option.toList_some, Option.toList_none, List.cons_append, List.nil_append, Nat.reduceLeDiff, Nat.le_refl, wdS_nil, wdS_i, wdS_l, wdS_r, wdS_n, wdS_s, o1, cR, find_n (d + 98) hR hx ex, wN, ↓reduceIte]
  | some i =>
    have hi := ixo_lt ex
    have bi : i < 2147483648 := by omega
    have hl : lst n G i < FC n := lst_ok h1 h6 hi
    have hg : gst n G i < FC n := gst_ok h1 h6 hi
    rw [an1_s ex]
    unfold alW
    rw [callD_k]; simp only [entL_i, entL_l, entL_q, entL_s, entL_nil, n_X10_alike, u_X10_alike, m_X10_alike, rep_1, List.cons_append, List.nil_append, List.append_nil, List.length_cons, List.length_nil, Nat.reduceAdd, true_and]
    simp only [AW_k, AWk_1, x_aload_0, x_aloads_0, x_getf, x_iload_1, x_callv_2, x_istore_3, x_iload_3, x_if_ge, x_push_i, x_push_l, x_ret, x_ret_i, x_ret_z, x_ret_l, x_ret_c, x_iload_2, unl_i, unl_l, unl_q, unl_r, unl_s, unl_n, k_X10_alike_0, k_X10_alike_1, k_X10_alike_2, k_X10_alike_3, k_X10_alike_4, k_X10_alike_5, k_X10_alike_6, k_X10_alike_7, k_X10_alike_8, k_X10_alike_9, oE_some, Int.reduceToNat, Nat.reduceAdd, true_and, and_true, List.length_cons, List.length_nil, Option.toList_some, Option.toList_none, List.cons_append, List.nil_append, Nat.reduceLeDiff, Nat.le_refl, wdS_nil, wdS_i, wdS_l, wdS_r, wdS_n, wdS_s, o1, cR, find_s (d + 98) hR hx ex, wI bi, hw, ↓reduceIte]
    by_cases c0 : w = 0
    · rw [if_pos c0]
      simp only [AW_k, AWk_1, x_switch, AW_sw, AW_sw0, x_aload_0, x_aloads_0, x_getf, x_iload_3, x_callv_3, x_iald, x_ialds, x_ret, x_ret_i, x_ret_z, x_ret_l, x_ret_c, x_push_i, x_push_l, k_X10_alike_10, k_X10_alike_11, k_X10_alike_12, k_X10_alike_13, k_X10_alike_14, k_X10_alike_15, k_X10_alike_16, k_X10_alike_17, k_X10_alike_18, k_X10_alike_19, k_X10_alike_20, k_X10_alike_21, k_X10_alike_22, k_X10_alike_23, k_X10_alike_24, k_X10_alike_25, k_X10_alike_26, k_X10_alike_27, k_X10_alike_28, k_X10_alike_29, k_X10_alike_30, k_X10_alike_31, k_X10_alike_32, k_X10_alike_33, k_X10_alike_34, k_X10_alike_35, k_X10_alike_36, k_X10_alike_37, k_X10_alike_38, k_X10_alike_39, k_X10_alike_40, k_X10_alike_41, oE_some, Int.reduceToNat, Nat.reduceAdd, true_and, and_true, List.length_cons, List.length_nil, Option.toList_some, Option.toList_none, List.cons_append, List.nil_append, Nat.reduceLeDiff, Nat.le_refl, wdS_nil, wdS_i, wdS_l, wdS_r, wdS_n, wdS_s, swT_cons, swT_nil, hw, c0, wz0, wz1, wz2, wz3, wz4, wz5, wz6, Int.reduceEq, ↓reduceIte, o1, o2, cR, rw_nums hR, rA_10 hR, c4_leastOf (d + 97) hR hi, bI rfl hl (FC_31 n), gI rfl hl (FC_31 n)]
    · rw [if_neg c0]
      by_cases c1 : w = 1
      · rw [if_pos c1]
        simp only [AW_k, AWk_1, x_switch, AW_sw, AW_sw0, x_aload_0, x_aloads_0, x_getf, x_iload_3, x_callv_3, x_iald, x_ialds, x_ret, x_ret_i, x_ret_z, x_ret_l, x_ret_c, x_push_i, x_push_l, k_X10_alike_10, k_X10_alike_11, k_X10_alike_12, k_X10_alike_13, k_X10_alike_14, k_X10_alike_15, k_X10_alike_16, k_X10_alike_17, k_X10_alike_18, k_X10_alike_19, k_X10_alike_20, k_X10_alike_21, k_X10_alike_22, k_X10_alike_23, k_X10_alike_24, k_X10_alike_25, k_X10_alike_26, k_X10_alike_27, k_X10_alike_28, k_X10_alike_29, k_X10_alike_30, k_X10_alike_31, k_X10_alike_32, k_X10_alike_33, k_X10_alike_34, k_X10_alike_35, k_X10_alike_36, k_X10_alike_37, k_X10_alike_38, k_X10_alike_39, k_X10_alike_40, k_X10_alike_41, oE_some, Int.reduceToNat, Nat.reduceAdd, true_and, and_true, List.length_cons, List.length_nil, Option.toList_some, Option.toList_none, List.cons_append, List.nil_append, Nat.reduceLeDiff, Nat.le_refl, wdS_nil, wdS_i, wdS_l, wdS_r, wdS_n, wdS_s, swT_cons, swT_nil, hw, c0, c1, wz0, wz1, wz2, wz3, wz4, wz5, wz6, Int.reduceEq, ↓reduceIte, o1, o2, cR, rw_nums hR, rA_10 hR, c4_greatestOf (d + 97) hR hi, bI rfl hg (FC_31 n), gI rfl hg (FC_31 n)]
      · rw [if_neg c1]
        by_cases c2 : w = 2
        · rw [if_pos c2]
          simp only [AW_k, AWk_1, x_switch, AW_sw, AW_sw0, x_aload_0, x_aloads_0, x_getf, x_iload_3, x_callv_3, x_iald, x_ialds, x_ret, x_ret_i, x_ret_z, x_ret_l, x_ret_c, x_push_i, x_push_l, k_X10_alike_10, k_X10_alike_11, k_X10_alike_12, k_X10_alike_13, k_X10_alike_14, k_X10_alike_15, k_X10_alike_16, k_X10_alike_17, k_X10_alike_18, k_X10_alike_19, k_X10_alike_20, k_X10_alike_21, k_X10_alike_22, k_X10_alike_23, k_X10_alike_24, k_X10_alike_25, k_X10_alike_26, k_X10_alike_27, k_X10_alike_28, k_X10_alike_29, k_X10_alike_30, k_X10_alike_31, k_X10_alike_32, k_X10_alike_33, k_X10_alike_34, k_X10_alike_35, k_X10_alike_36, k_X10_alike_37, k_X10_alike_38, k_X10_alike_39, k_X10_alike_40, k_X10_alike_41, oE_some, Int.reduceToNat, Nat.reduceAdd, true_and, and_true, List.length_cons, List.length_nil, Option.toList_some, Option.toList_none, List.cons_append, List.nil_append, Nat.reduceLeDiff, Nat.le_refl, wdS_nil, wdS_i, wdS_l, wdS_r, wdS_n, wdS_s, swT_cons, swT_nil, hw, c0, c1, c2, wz0, wz1, wz2, wz3, wz4, wz5, wz6, Int.reduceEq, ↓reduceIte, o1, o2, cR, c4_howManyAlike (d + 96) hR hi]
        · rw [if_neg c2]
          simp only [AW_k, AWk_1, x_switch, AW_sw, AW_sw0, x_aload_0, x_aloads_0, x_getf, x_iload_3, x_callv_3, x_iald, x_ialds, x_ret, x_ret_i, x_ret_z, x_ret_l, x_ret_c, x_push_i, x_push_l, k_X10_alike_10, k_X10_alike_11, k_X10_alike_12, k_X10_alike_13, k_X10_alike_14, k_X10_alike_15, k_X10_alike_16, k_X10_alike_17, k_X10_alike_18, k_X10_alike_19, k_X10_alike_20, k_X10_alike_21, k_X10_alike_22, k_X10_alike_23, k_X10_alike_24, k_X10_alike_25, k_X10_alike_26, k_X10_alike_27, k_X10_alike_28, k_X10_alike_29, k_X10_alike_30, k_X10_alike_31, k_X10_alike_32, k_X10_alike_33, k_X10_alike_34, k_X10_alike_35, k_X10_alike_36, k_X10_alike_37, k_X10_alike_38, k_X10_alike_39, k_X10_alike_40, k_X10_alike_41, oE_some, Int.reduceToNat, Nat.reduceAdd, true_and, and_true, List.length_cons, List.length_nil, Option.toList_some, Option.toList_none, List.cons_append, List.nil_append, Nat.reduceLeDiff, Nat.le_refl, wdS_nil, wdS_i, wdS_l, wdS_r, wdS_n, wdS_s, swT_cons, swT_nil, hw, c0, c1, c2, wz0, wz1, wz2, wz3, wz4, wz5, wz6, Int.reduceEq, ↓reduceIte]
/-- the least row of the class at x -/
def caO (n : Nat) (G : BitVec 64) (x : Int) : Option Nat := fst (fun i => isL n G i && decide (cnt (isL n G) i = x)) (FC n) 0
def caA (n : Nat) (G : BitVec 64) (x : Int) : Int := if 0 ≤ x then (match caO n G x with
  | some i => ((num n i : Nat) : Int)
  | none => -1) else -1
set_option maxHeartbeats 16000000 in
theorem x10_classAt (d : Nat) {hp : HP} {n : Nat} {G : BitVec 64} {z : Int} {c : Nat} {ks : List Int} {es : List Int} {ik : Bool} {kn : Nat} {kG : BitVec 64} {kz : Int} {kc : Nat} {kks : List Int} {kes : List Int} {tc : Nat} {tb : List Int} {sc : Nat} {tl : List Int} {so : List Int} {le : List Int} {it : Nat → List (BitVec 64)} {he : List Int} {th : List Int} {sl : List Int} {tr : Nat} {bo : List Int} {x : Int} (hX : XI hp n G z c ks es ik kn kG kz kc kks kes tc tb sc tl so le it he th sl tr bo) (hx : w32 x = x) (R : PO) : callD (d + 100) 127 [mR 0, mI x] hp R ↔ R (some (mI (caA n G x))) hp := by
  obtain ⟨ra, ts, q0, q1, q2, q3, q4, q5, q6, q7, q8, q9, q10, q11, qk⟩ := hX
  have hR := q1.1
  have h1 := rw_1 hR
  have h6 := rw_6 hR
  have f1 := FC_le n
  have cR := rC0 hR
  have cA := rC1 hR
  have o0 : gF hp 0 10 0 = some (mR 1) := XO_F q0 0
  have o1 : gF hp 0 10 1 = some (mR ra) := XO_F q0 1
  have o2 : gF hp 0 10 2 = some (mL G) := XO_F q0 2
  have o3 : gF hp 0 10 3 = some (mI z) := XO_F q0 3
  have o4 : gF hp 0 10 4 = some (mR 2) := XO_F q0 4
  have o5 : gF hp 0 10 5 = some (mR 5) := XO_F q0 5
  have o6 : gF hp 0 10 6 = some (mR 10) := XO_F q0 6
  have o7 : gF hp 0 10 7 = some (mR 14) := XO_F q0 7
  have o8 : gF hp 0 10 8 = some (mR 17) := XO_F q0 8
  have o9 : gF hp 0 10 9 = some (mR 19) := XO_F q0 9
  have o10 : gF hp 0 10 10 = some (mR 27) := XO_F q0 10
  have o11 : gF hp 0 10 11 = some (mR 31) := XO_F q0 11
  have o12 : gF hp 0 10 12 = some (mR 33) := XO_F q0 12
  have o13 : gF hp 0 10 13 = some (mI (zI ik)) := XO_F q0 13
  have o14 : gF hp 0 10 14 = some (mI (kn : Int)) := XO_F q0 14
  have o15 : gF hp 0 10 15 = some (mL kG) := XO_F q0 15
  have o16 : gF hp 0 10 16 = some (mI kz) := XO_F q0 16
  have o17 : gF hp 0 10 17 = some (mR 34) := XO_F q0 17
  have cO := gC_of o0
  unfold caA
  by_cases c0 : 0 ≤ x
  · rw [if_pos c0]
    have n1 : (x < 0) = False := eq_false (by omega)
    have cl : ∀ R : PO, callD (d + 99) 53 [mR ra, mI x, mL G] hp R ↔ R (some (mI (oI (caO n G x)))) hp := fun R => c4_leastRowAt (d + 97) hR hx R
    rw [callD_k]; simp only [entL_i, entL_l, entL_q, entL_s, entL_nil, n_X10_classAt, u_X10_classAt, m_X10_classAt, rep_1, List.cons_append, List.nil_append, List.append_nil, List.length_cons, List.length_nil, Nat.reduceAdd, true_and]
    simp only [AW_k, AWk_1, x_iload_1, x_if_ge, x_push_i, x_push_l, x_goto, x_aload_0, x_aloads_0, x_getf, x_callv_3, x_istore_2, x_iload_2, unl_i, unl_l, unl_q, unl_r, unl_s, unl_n, k_X10_classAt_0, k_X10_classAt_1, k_X10_classAt_2, k_X10_classAt_3, k_X10_classAt_4, k_X10_classAt_5, k_X10_classAt_6, k_X10_classAt_7, k_X10_classAt_8, k_X10_classAt_9, k_X10_classAt_10, k_X10_classAt_11, oE_some, Int.reduceToNat, Nat.reduceAdd, true_and, and_true, List.length_cons, List.length_nil, Option.toList_some, Option.toList_none, List.cons_append, List.nil_append, Nat.reduceLeDiff, Nat.le_refl, wdS_nil, wdS_i, wdS_l, wdS_r, wdS_n, wdS_s, hx, n1, o1, o2, cR, cl, ↓reduceIte]
    cases e : caO n G x with
    | none =>
      rw [show oI (none : Option Nat) = -1 from rfl]
      simp only [AW_k, AWk_1, x_if_ge, x_push_i, x_push_l, x_goto, x_aload_0, x_aloads_0, x_getf, x_iload_2, x_iald, x_ialds, x_ret, x_ret_i, x_ret_z, x_ret_l, x_ret_c, k_X10_classAt_12, k_X10_classAt_13, k_X10_classAt_14, k_X10_classAt_15, k_X10_classAt_16, k_X10_classAt_17, k_X10_classAt_18, k_X10_classAt_19, k_X10_classAt_20, oE_some, Int.reduceToNat, Nat.reduceAdd, true_and, and_true, List.length_cons, List.length_nil, Option.toList_some, Option.toList_none, List.cons_append, List.nil_append, Nat.reduceLeDiff, Nat.le_refl, wdS_nil, wdS_i, wdS_l, wdS_r, wdS_n, wdS_s, wN, ↓reduceIte]
    | some j =>
      have hj : j < FC n := by have := (fst_some e).2.1; omega
      have bj : j < 2147483648 := by omega
      rw [show oI (some j) = (j : Int) from rfl]
      simp only [AW_k, AWk_1, x_if_ge, x_push_i, x_push_l, x_goto, x_aload_0, x_aloads_0, x_getf, x_iload_2, x_iald, x_ialds, x_ret, x_ret_i, x_ret_z, x_ret_l, x_ret_c, k_X10_classAt_12, k_X10_classAt_13, k_X10_classAt_14, k_X10_classAt_15, k_X10_classAt_16, k_X10_classAt_17, k_X10_classAt_18, k_X10_classAt_19, k_X10_classAt_20, oE_some, Int.reduceToNat, Nat.reduceAdd, true_and, and_true, List.length_cons, List.length_nil, Option.toList_some, Option.toList_none, List.cons_append, List.nil_append, Nat.reduceLeDiff, Nat.le_refl, wdS_nil, wdS_i, wdS_l, wdS_r, wdS_n, wdS_s, wI bj, o1, rw_nums hR, rA_10 hR, bI rfl hj (FC_31 n), gI rfl hj (FC_31 n), ↓reduceIte]
  · rw [if_neg c0]
    have n1 : (x < 0) = True := eq_true (by omega)
    rw [callD_k]; simp only [entL_i, entL_l, entL_q, entL_s, entL_nil, n_X10_classAt, u_X10_classAt, m_X10_classAt, rep_1, List.cons_append, List.nil_append, List.append_nil, List.length_cons, List.length_nil, Nat.reduceAdd, true_and]
    simp only [AW_k, AWk_1, x_iload_1, x_if_ge, x_push_i, x_push_l, x_goto, x_aload_0, x_aloads_0, x_getf, x_callv_3, x_istore_2, x_iload_2, x_iald, x_ialds, x_ret, x_ret_i, x_ret_z, x_ret_l, x_ret_c, unl_i, unl_l, unl_q, unl_r, unl_s, unl_n, k_X10_classAt_0, k_X10_classAt_1, k_X10_classAt_2, k_X10_classAt_3, k_X10_classAt_4, k_X10_classAt_5, k_X10_classAt_6, k_X10_classAt_7, k_X10_classAt_8, k_X10_classAt_9, k_X10_classAt_10, k_X10_classAt_11, k_X10_classAt_12, k_X10_classAt_13, k_X10_classAt_14, k_X10_classAt_15, k_X10_classAt_16, k_X10_classAt_17, k_X10_classAt_18, k_X10_classAt_19, k_X10_classAt_20, oE_some, Int.reduceToNat, Nat.reduceAdd, true_and, and_true, List.length_cons, List.length_nil, Option.toList_some, Option.toList_none, List.cons_append, List.nil_append, Nat.reduceLeDiff, Nat.le_refl, wdS_nil, wdS_i, wdS_l, wdS_r, wdS_n, wdS_s, hx, n1, wN, ↓reduceIte]
def clW (n : Nat) (G : BitVec 64) (w : Int) (i j : Nat) : Int := if w = 0 then zI (blw n (lst n G i) (lst n G j)) else if w = 1 then ((num n (lst n G (mt n i j)) : Nat) : Int) else if w = 2 then ((num n (lst n G (jn n i j)) : Nat) : Int) else -1
set_option maxHeartbeats 16000000 in
theorem x10_classes (d : Nat) {hp : HP} {n : Nat} {G : BitVec 64} {z : Int} {c : Nat} {ks : List Int} {es : List Int} {ik : Bool} {kn : Nat} {kG : BitVec 64} {kz : Int} {kc : Nat} {kks : List Int} {kes : List Int} {tc : Nat} {tb : List Int} {sc : Nat} {tl : List Int} {so : List Int} {le : List Int} {it : Nat → List (BitVec 64)} {he : List Int} {th : List Int} {sl : List Int} {tr : Nat} {bo : List Int} {x y w : Int} (hX : XI hp n G z c ks es ik kn kG kz kc kks kes tc tb sc tl so le it he th sl tr bo) (hx : w32 x = x) (hy : w32 y = y) (hw : w32 w = w) (R : PO) : callD (d + 100) 128 [mR 0, mI x, mI y, mI w] hp R ↔ R (some (mI (an2 n x y (clW n G w)))) hp := by
  obtain ⟨ra, ts, q0, q1, q2, q3, q4, q5, q6, q7, q8, q9, q10, q11, qk⟩ := hX
  have hR := q1.1
  have h1 := rw_1 hR
  have h6 := rw_6 hR
  have f1 := FC_le n
  have cR := rC0 hR
  have cA := rC1 hR
  have o0 : gF hp 0 10 0 = some (mR 1) := XO_F q0 0
  have o1 : gF hp 0 10 1 = some (mR ra) := XO_F q0 1
  have o2 : gF hp 0 10 2 = some (mL G) := XO_F q0 2
  have o3 : gF hp 0 10 3 = some (mI z) := XO_F q0 3
  have o4 : gF hp 0 10 4 = some (mR 2) := XO_F q0 4
  have o5 : gF hp 0 10 5 = some (mR 5) := XO_F q0 5
  have o6 : gF hp 0 10 6 = some (mR 10) := XO_F q0 6
  have o7 : gF hp 0 10 7 = some (mR 14) := XO_F q0 7
  have o8 : gF hp 0 10 8 = some (mR 17) := XO_F q0 8
  have o9 : gF hp 0 10 9 = some (mR 19) := XO_F q0 9
  have o10 : gF hp 0 10 10 = some (mR 27) := XO_F q0 10
  have o11 : gF hp 0 10 11 = some (mR 31) := XO_F q0 11
  have o12 : gF hp 0 10 12 = some (mR 33) := XO_F q0 12
  have o13 : gF hp 0 10 13 = some (mI (zI ik)) := XO_F q0 13
  have o14 : gF hp 0 10 14 = some (mI (kn : Int)) := XO_F q0 14
  have o15 : gF hp 0 10 15 = some (mL kG) := XO_F q0 15
  have o16 : gF hp 0 10 16 = some (mI kz) := XO_F q0 16
  have o17 : gF hp 0 10 17 = some (mR 34) := XO_F q0 17
  have cO := gC_of o0
  cases ex : ixo n x with
  | none =>
    rw [an2_n ex]
    rw [callD_k]; simp only [entL_i, entL_l, entL_q, entL_s, entL_nil, n_X10_classes, u_X10_classes, m_X10_classes, rep_2, List.cons_append, List.nil_append, List.append_nil, List.length_cons, List.length_nil, Nat.reduceAdd, true_and]
    simp only [AW_k, AWk_1, x_aload_0, x_aloads_0, x_getf, x_iload_1, x_callv_2, x_istore_4, x_iload_2, x_istore_5, x_iload_4, x_if_lt, x_iload_5, x_if_ge, x_push_i, x_push_l, x_ret, x_ret_i, x_ret_z, x_ret_l, x_ret_c, unl_i, unl_l, unl_q, unl_r, unl_s, unl_n, k_X10_classes_0, k_X10_classes_1, k_X10_classes_2, k_X10_classes_3, k_X10_classes_4, k_X10_classes_5, k_X10_classes_6, k_X10_classes_7, k_X10_classes_8, k_X10_classes_9, k_X10_classes_10, k_X10_classes_11, k_X10_classes_12, k_X10_classes_13, k_X10_classes_14, k_X10_classes_15, oE_some, Int.reduceToNat, Nat.reduceAdd, true_and, and_true, List.length_cons, List.length_nil, Option.toList_some, Option.toList_none, List.cons_append, List.nil_append, Nat.reduceLeDiff, Nat.le_refl, wdS_nil, wdS_i, wdS_l, wdS_r, wdS_n, wdS_s, o1, cR, find_n (d + 98) hR hx ex, c4_find (d + 98) hR hy, wN, ↓reduceIte]
  | some i =>
    have hi := ixo_lt ex
    have bi : i < 2147483648 := by omega
    cases ey : ixo n y with
    | none =>
      rw [an2_m ex ey]
      rw [callD_k]; simp only [entL_i, entL_l, entL_q, entL_s, entL_nil, n_X10_classes, u_X10_classes, m_X10_classes, rep_2, List.cons_append, List.nil_append, List.append_nil, List.length_cons, List.length_nil, Nat.reduceAdd, true_and]
      simp only [AW_k, AWk_1, x_aload_0, x_aloads_0, x_getf, x_iload_1, x_callv_2, x_istore_4, x_iload_2, x_istore_5, x_iload_4, x_if_lt, x_iload_5, x_if_ge, x_push_i, x_push_l, x_ret, x_ret_i, x_ret_z, x_ret_l, x_ret_c, unl_i, unl_l, unl_q, unl_r, unl_s, unl_n, k_X10_classes_0, k_X10_classes_1, k_X10_classes_2, k_X10_classes_3, k_X10_classes_4, k_X10_classes_5, k_X10_classes_6, k_X10_classes_7, k_X10_classes_8, k_X10_classes_9, k_X10_classes_10, k_X10_classes_11, k_X10_classes_12, k_X10_classes_13, k_X10_classes_14, k_X10_classes_15, oE_some, Int.reduceToNat, Nat.reduceAdd, true_and, and_true, List.length_cons, List.length_nil, Option.toList_some, Option.toList_none, List.cons_append, List.nil_append, Nat.reduceLeDiff, Nat.le_refl, wdS_nil, wdS_i, wdS_l, wdS_r, wdS_n, wdS_s, o1, cR, find_s (d + 98) hR hx ex, find_n (d + 98) hR hy ey, wN, wI bi, ↓reduceIte]
    | some j =>
      have hj := ixo_lt ey
      have bj : j < 2147483648 := by omega
      have hm : mt n i j < FC n := mt_ok hi
      have hn : jn n i j < FC n := jn_ok hi
      have li : lst n G i < FC n := lst_ok h1 h6 hi
      have lj : lst n G j < FC n := lst_ok h1 h6 hj
      have lm : lst n G (mt n i j) < FC n := lst_ok h1 h6 hm
      have ln : lst n G (jn n i j) < FC n := lst_ok h1 h6 hn
      rw [an2_s ex ey]
      unfold clW
      rw [callD_k]; simp only [entL_i, entL_l, entL_q, entL_s, entL_nil, n_X10_classes, u_X10_classes, m_X10_classes, rep_2, List.cons_append, List.nil_append, List.append_nil, List.length_cons, List.length_nil, Nat.reduceAdd, true_and]
      simp only [AW_k, AWk_1, x_aload_0, x_aloads_0, x_getf, x_iload_1, x_callv_2, x_istore_4, x_iload_2, x_istore_5, x_iload_4, x_if_lt, x_iload_5, x_if_ge, x_push_i, x_push_l, x_ret, x_ret_i, x_ret_z, x_ret_l, x_ret_c, x_iload_3, unl_i, unl_l, unl_q, unl_r, unl_s, unl_n, k_X10_classes_0, k_X10_classes_1, k_X10_classes_2, k_X10_classes_3, k_X10_classes_4, k_X10_classes_5, k_X10_classes_6, k_X10_classes_7, k_X10_classes_8, k_X10_classes_9, k_X10_classes_10, k_X10_classes_11, k_X10_classes_12, k_X10_classes_13, k_X10_classes_14, k_X10_classes_15, k_X10_classes_16, oE_some, Int.reduceToNat, Nat.reduceAdd, true_and, and_true, List.length_cons, List.length_nil, Option.toList_some, Option.toList_none, List.cons_append, List.nil_append, Nat.reduceLeDiff, Nat.le_refl, wdS_nil, wdS_i, wdS_l, wdS_r, wdS_n, wdS_s, o1, cR, find_s (d + 98) hR hx ex, find_s (d + 98) hR hy ey, wI bi, wI bj, hw, ↓reduceIte]
      by_cases c0 : w = 0
      · rw [if_pos c0]
        simp only [AW_k, AWk_1, x_switch, AW_sw, AW_sw0, x_aload_0, x_aloads_0, x_getf, x_iload_4, x_callv_3, x_iload_5, x_if_eq, x_push_i, x_push_l, x_goto, x_ret, x_ret_i, x_ret_z, x_ret_l, x_ret_c, x_iald, x_ialds, k_X10_classes_17, k_X10_classes_18, k_X10_classes_19, k_X10_classes_20, k_X10_classes_21, k_X10_classes_22, k_X10_classes_23, k_X10_classes_24, k_X10_classes_25, k_X10_classes_26, k_X10_classes_27, k_X10_classes_28, k_X10_classes_29, k_X10_classes_30, k_X10_classes_31, k_X10_classes_32, k_X10_classes_33, k_X10_classes_34, k_X10_classes_35, k_X10_classes_36, k_X10_classes_37, k_X10_classes_38, k_X10_classes_39, k_X10_classes_40, k_X10_classes_41, k_X10_classes_42, k_X10_classes_43, k_X10_classes_44, k_X10_classes_45, k_X10_classes_46, k_X10_classes_47, k_X10_classes_48, k_X10_classes_49, k_X10_classes_50, k_X10_classes_51, k_X10_classes_52, k_X10_classes_53, k_X10_classes_54, k_X10_classes_55, k_X10_classes_56, k_X10_classes_57, k_X10_classes_58, k_X10_classes_59, k_X10_classes_60, k_X10_classes_61, k_X10_classes_62, k_X10_classes_63, k_X10_classes_64, k_X10_classes_65, k_X10_classes_66, k_X10_classes_67, k_X10_classes_68, k_X10_classes_69, oE_some, Int.reduceToNat, Nat.reduceAdd, true_and, and_true, List.length_cons, List.length_nil, Option.toList_some, Option.toList_none, List.cons_append, List.nil_append, Nat.reduceLeDiff, Nat.le_refl, wdS_nil, wdS_i, wdS_l, wdS_r, wdS_n, wdS_s, swT_cons, swT_nil, hw, c0, wz0, wz1, wz2, wz3, wz4, wz5, wz6, Int.reduceEq, ↓reduceIte, o1, o2, cR, c4_leastOf (d + 97) hR hi, c4_leastOf (d + 97) hR hj, c4_isBelow (d + 98) hR li lj, wB]
        cases blw n (lst n G i) (lst n G j) <;> exact Iff.rfl
      · rw [if_neg c0]
        by_cases c1 : w = 1
        · rw [if_pos c1]
          simp only [AW_k, AWk_1, x_switch, AW_sw, AW_sw0, x_aload_0, x_aloads_0, x_getf, x_iload_4, x_callv_3, x_iload_5, x_if_eq, x_push_i, x_push_l, x_goto, x_ret, x_ret_i, x_ret_z, x_ret_l, x_ret_c, x_iald, x_ialds, k_X10_classes_17, k_X10_classes_18, k_X10_classes_19, k_X10_classes_20, k_X10_classes_21, k_X10_classes_22, k_X10_classes_23, k_X10_classes_24, k_X10_classes_25, k_X10_classes_26, k_X10_classes_27, k_X10_classes_28, k_X10_classes_29, k_X10_classes_30, k_X10_classes_31, k_X10_classes_32, k_X10_classes_33, k_X10_classes_34, k_X10_classes_35, k_X10_classes_36, k_X10_classes_37, k_X10_classes_38, k_X10_classes_39, k_X10_classes_40, k_X10_classes_41, k_X10_classes_42, k_X10_classes_43, k_X10_classes_44, k_X10_classes_45, k_X10_classes_46, k_X10_classes_47, k_X10_classes_48, k_X10_classes_49, k_X10_classes_50, k_X10_classes_51, k_X10_classes_52, k_X10_classes_53, k_X10_classes_54, k_X10_classes_55, k_X10_classes_56, k_X10_classes_57, k_X10_classes_58, k_X10_classes_59, k_X10_classes_60, k_X10_classes_61, k_X10_classes_62, k_X10_classes_63, k_X10_classes_64, k_X10_classes_65, k_X10_classes_66, k_X10_classes_67, k_X10_classes_68, k_X10_classes_69, oE_some, Int.reduceToNat, Nat.reduceAdd, true_and, and_true, List.length_cons, List.length_nil, Option.toList_some, Option.toList_none, List.cons_append, List.nil_append, Nat.reduceLeDiff, Nat.le_refl, wdS_nil, wdS_i, wdS_l, wdS_r, wdS_n, wdS_s, swT_cons, swT_nil, hw, c0, c1, wz0, wz1, wz2, wz3, wz4, wz5, wz6, Int.reduceEq, ↓reduceIte, o1, o2, cR, rw_nums hR, rA_10 hR, c4_meetOf (d + 97) hR hi hj, c4_leastOf (d + 97) hR hm, bI rfl lm (FC_31 n), gI rfl lm (FC_31 n)]
        · rw [if_neg c1]
          by_cases c2 : w = 2
          · rw [if_pos c2]
            simp only [AW_k, AWk_1, x_switch, AW_sw, AW_sw0, x_aload_0, x_aloads_0, x_getf, x_iload_4, x_callv_3, x_iload_5, x_if_eq, x_push_i, x_push_l, x_goto, x_ret, x_ret_i, x_ret_z, x_ret_l, x_ret_c, x_iald, x_ialds, k_X10_classes_17, k_X10_classes_18, k_X10_classes_19, k_X10_classes_20, k_X10_classes_21, k_X10_classes_22, k_X10_classes_23, k_X10_classes_24, k_X10_classes_25, k_X10_classes_26, k_X10_classes_27, k_X10_classes_28, k_X10_classes_29, k_X10_classes_30, k_X10_classes_31, k_X10_classes_32, k_X10_classes_33, k_X10_classes_34, k_X10_classes_35, k_X10_classes_36, k_X10_classes_37, k_X10_classes_38, k_X10_classes_39, k_X10_classes_40, k_X10_classes_41, k_X10_classes_42, k_X10_classes_43, k_X10_classes_44, k_X10_classes_45, k_X10_classes_46, k_X10_classes_47, k_X10_classes_48, k_X10_classes_49, k_X10_classes_50, k_X10_classes_51, k_X10_classes_52, k_X10_classes_53, k_X10_classes_54, k_X10_classes_55, k_X10_classes_56, k_X10_classes_57, k_X10_classes_58, k_X10_classes_59, k_X10_classes_60, k_X10_classes_61, k_X10_classes_62, k_X10_classes_63, k_X10_classes_64, k_X10_classes_65, k_X10_classes_66, k_X10_classes_67, k_X10_classes_68, k_X10_classes_69, oE_some, Int.reduceToNat, Nat.reduceAdd, true_and, and_true, List.length_cons, List.length_nil, Option.toList_some, Option.toList_none, List.cons_append, List.nil_append, Nat.reduceLeDiff, Nat.le_refl, wdS_nil, wdS_i, wdS_l, wdS_r, wdS_n, wdS_s, swT_cons, swT_nil, hw, c0, c1, c2, wz0, wz1, wz2, wz3, wz4, wz5, wz6, Int.reduceEq, ↓reduceIte, o1, o2, cR, rw_nums hR, rA_10 hR, c4_joinOf (d + 97) hR hi hj, c4_leastOf (d + 97) hR hn, bI rfl ln (FC_31 n), gI rfl ln (FC_31 n)]
          · rw [if_neg c2]
            simp only [AW_k, AWk_1, x_switch, AW_sw, AW_sw0, x_aload_0, x_aloads_0, x_getf, x_iload_4, x_callv_3, x_iload_5, x_if_eq, x_push_i, x_push_l, x_goto, x_ret, x_ret_i, x_ret_z, x_ret_l, x_ret_c, x_iald, x_ialds, k_X10_classes_17, k_X10_classes_18, k_X10_classes_19, k_X10_classes_20, k_X10_classes_21, k_X10_classes_22, k_X10_classes_23, k_X10_classes_24, k_X10_classes_25, k_X10_classes_26, k_X10_classes_27, k_X10_classes_28, k_X10_classes_29, k_X10_classes_30, k_X10_classes_31, k_X10_classes_32, k_X10_classes_33, k_X10_classes_34, k_X10_classes_35, k_X10_classes_36, k_X10_classes_37, k_X10_classes_38, k_X10_classes_39, k_X10_classes_40, k_X10_classes_41, k_X10_classes_42, k_X10_classes_43, k_X10_classes_44, k_X10_classes_45, k_X10_classes_46, k_X10_classes_47, k_X10_classes_48, k_X10_classes_49, k_X10_classes_50, k_X10_classes_51, k_X10_classes_52, k_X10_classes_53, k_X10_classes_54, k_X10_classes_55, k_X10_classes_56, k_X10_classes_57, k_X10_classes_58, k_X10_classes_59, k_X10_classes_60, k_X10_classes_61, k_X10_classes_62, k_X10_classes_63, k_X10_classes_64, k_X10_classes_65, k_X10_classes_66, k_X10_classes_67, k_X10_classes_68, k_X10_classes_69, oE_some, Int.reduceToNat, Nat.reduceAdd, true_and, and_true, List.length_cons, List.length_nil, Option.toList_some, Option.toList_none, List.cons_append, List.nil_append, Nat.reduceLeDiff, Nat.le_refl, wdS_nil, wdS_i, wdS_l, wdS_r, wdS_n, wdS_s, swT_cons, swT_nil, hw, c0, c1, c2, wz0, wz1, wz2, wz3, wz4, wz5, wz6, Int.reduceEq, ↓reduceIte]
