/-! ===== the law: its state ===== -/
def WLS (hp : HP) (n : Nat) (G : BitVec 64) (z : Int) (c : Nat) (ks : List Int) (es : List Int) (ik : Bool) (kn : Nat) (kG : BitVec 64) (kz : Int) (kc : Nat) (kks : List Int) (kes : List Int) (tc : Nat) (tb : List Int) (sc : Nat) (tl : List Int) (so : List Int) (le : List Int) (it : Nat → List (BitVec 64)) (he : List Int) (th : List Int) (sl : List Int) (tr : Nat) (bo : List Int) : Prop := XI hp n G z c ks es ik kn kG kz kc kks kes tc tb sc tl so le it he th sl tr bo ∧ MI (hp) n G z c ks es ik kn kG kz kc kks kes tc tb sc tl so le it he th sl tr bo ∧ clo n G ∧ (ik = true → clo kn kG) ∧ itOK so it ∧ 83 ≤ hp.length
def WSI (hp : HP) : Prop := ∃ (n : Nat) (G : BitVec 64) (z : Int) (c : Nat) (ks : List Int) (es : List Int) (ik : Bool) (kn : Nat) (kG : BitVec 64) (kz : Int) (kc : Nat) (kks : List Int) (kes : List Int) (tc : Nat) (tb : List Int) (sc : Nat) (tl : List Int) (so : List Int) (le : List Int) (it : Nat → List (BitVec 64)) (he : List Int) (th : List Int) (sl : List Int) (tr : Nat) (bo : List Int), WLS hp n G z c ks es ik kn kG kz kc kks kes tc tb sc tl so le it he th sl tr bo
theorem WSI_of {hp : HP} {n : Nat} {G : BitVec 64} {z : Int} {c : Nat} {ks : List Int} {es : List Int} {ik : Bool} {kn : Nat} {kG : BitVec 64} {kz : Int} {kc : Nat} {kks : List Int} {kes : List Int} {tc : Nat} {tb : List Int} {sc : Nat} {tl : List Int} {so : List Int} {le : List Int} {it : Nat → List (BitVec 64)} {he : List Int} {th : List Int} {sl : List Int} {tr : Nat} {bo : List Int} (h : WLS hp n G z c ks es ik kn kG kz kc kks kes tc tb sc tl so le it he th sl tr bo) : WSI hp := ⟨n, G, z, c, ks, es, ik, kn, kG, kz, kc, kks, kes, tc, tb, sc, tl, so, le, it, he, th, sl, tr, bo, h⟩
def WNX (scr : List Int) (R : PO) (i : Nat) (B : BU) : Prop := ∀ hp, WSI hp → AWh 1000 scr 302 R 10 [some (mS 9), some (mR 0), some (mR 54), some (mI (i : Int))] [] hp B
def WSC (scr : List Int) (i : Nat) : Prop := i + 6 ≤ scr.length ∧ scr.length ≤ 3072 ∧ ∀ k, w32 (scr.getD k 0) = scr.getD k 0
theorem WLS_c {hp : HP} {n : Nat} {G : BitVec 64} {z : Int} {c : Nat} {ks : List Int} {es : List Int} {ik : Bool} {kn : Nat} {kG : BitVec 64} {kz : Int} {kc : Nat} {kks : List Int} {kes : List Int} {tc : Nat} {tb : List Int} {sc : Nat} {tl : List Int} {so : List Int} {le : List Int} {it : Nat → List (BitVec 64)} {he : List Int} {th : List Int} {sl : List Int} {tr : Nat} {bo : List Int} (h : WLS hp n G z c ks es ik kn kG kz kc kks kes tc tb sc tl so le it he th sl tr bo) : gC hp 0 = some 10 ∧ gC hp 54 = some 11 ∧ MA hp n ∧ gF hp 54 11 3 = some (mL G) := by
  obtain ⟨hX, hM, -⟩ := h
  have a := MI_ws hM
  refine ⟨?_, a.2.2.2.1, a.2.2.2.2.1, a.2.2.2.2.2⟩
  obtain ⟨ra, ts, q0, q1, q2, q3, q4, q5, q6, q7, q8, q9, q10, q11, qk⟩ := hX
  have hR := q1.1
  have h1 := rw_1 hR
  have h6 := rw_6 hR
  have f1 := FC_le n
  have cR := rC0 hR
  have cA := rC1 hR
  have o0 : gF hp 0 10 0 = some (mR 1) := XO_F q0 0
  have o1 : gF hp 0 10 1 = some (mR ra) := XO_F q0 1
  have o2 : gF hp 0 10 2 = some (mL G) := XO_F q0 2
  have o3 : gF hp 0 10 3 = some (mI z) := XO_F q0 3
  have o4 : gF hp 0 10 4 = some (mR 2) := XO_F q0 4
  have o5 : gF hp 0 10 5 = some (mR 5) := XO_F q0 5
  have o6 : gF hp 0 10 6 = some (mR 10) := XO_F q0 6
  have o7 : gF hp 0 10 7 = some (mR 14) := XO_F q0 7
  have o8 : gF hp 0 10 8 = some (mR 17) := XO_F q0 8
  have o9 : gF hp 0 10 9 = some (mR 19) := XO_F q0 9
  have o10 : gF hp 0 10 10 = some (mR 27) := XO_F q0 10
  have o11 : gF hp 0 10 11 = some (mR 31) := XO_F q0 11
  have o12 : gF hp 0 10 12 = some (mR 33) := XO_F q0 12
  have o13 : gF hp 0 10 13 = some (mI (zI ik)) := XO_F q0 13
  have o14 : gF hp 0 10 14 = some (mI (kn : Int)) := XO_F q0 14
  have o15 : gF hp 0 10 15 = some (mL kG) := XO_F q0 15
  have o16 : gF hp 0 10 16 = some (mI kz) := XO_F q0 16
  have o17 : gF hp 0 10 17 = some (mR 34) := XO_F q0 17
  have cO := gC_of o0
  exact cO
theorem WSC_c {scr : List Int} {i : Nat} (h : WSC scr i) (k : Nat) (hk : k < 6) : inB ((i + k : Nat) : Int) scr.length ∧ (w32 ((i + k : Nat) : Int)).toNat = i + k := by
  obtain ⟨h1, h2, -⟩ := h
  exact ⟨inB_n (by omega) (by omega), w32_tn (by omega)⟩
set_option maxHeartbeats 16000000 in
theorem lw_1 {scr : List Int} {R : PO} {i : Nat} {B : BU} {hp : HP} {n : Nat} {G : BitVec 64} {z : Int} {c : Nat} {ks : List Int} {es : List Int} {ik : Bool} {kn : Nat} {kG : BitVec 64} {kz : Int} {kc : Nat} {kks : List Int} {kes : List Int} {tc : Nat} {tb : List Int} {sc : Nat} {tl : List Int} {so : List Int} {le : List Int} {it : Nat → List (BitVec 64)} {he : List Int} {th : List Int} {sl : List Int} {tr : Nat} {bo : List Int} (h : WLS hp n G z c ks es ik kn kG kz kc kks kes tc tb sc tl so le it he th sl tr bo) (hs : WSC scr i) (nx : WNX scr R (i + 6) B) : AW 1000 scr 302 R 39 [some (mS 9), some (mR 0), some (mR 54), some (mI (i : Int))] [] hp B := by
  obtain ⟨c0, c1, hA, hG⟩ := WLS_c h
  have hX := h.1
  have w := fun k => hs.2.2 (i + k)
  have e1 : (i : Int) + 1 = ((i + 1 : Nat) : Int) := rfl
  have e2 : (i : Int) + 2 = ((i + 2 : Nat) : Int) := rfl
  have e6 : (i : Int) + 6 = ((i + 6 : Nat) : Int) := rfl
  have st9 : stab scr 9 = scr := rfl
  simp only [AW_k, AWk_1, x_aload_1, x_aloads_1, x_aload_0, x_aloads_0, x_iload_3, x_push_i, x_push_l, x_iadd, x_iald, x_ialds, x_callv_3, x_aload_2, x_aloads_2, x_icmp_eq, x_ret, x_ret_i, x_ret_z, x_ret_l, x_ret_c, x_iinc_3, x_goto, unl_i, unl_l, unl_q, unl_r, unl_s, unl_n, k_L_law_39, k_L_law_40, k_L_law_41, k_L_law_42, k_L_law_43, k_L_law_44, k_L_law_45, k_L_law_46, k_L_law_47, k_L_law_48, k_L_law_49, k_L_law_50, k_L_law_51, k_L_law_52, k_L_law_53, k_L_law_54, k_L_law_55, k_L_law_56, k_L_law_57, k_L_law_58, k_L_law_59, k_L_law_60, k_L_law_61, k_L_law_62, k_L_law_63, k_L_law_64, k_L_law_65, k_L_law_1316, k_L_law_1317, oE_some, Int.reduceToNat, Nat.reduceAdd, true_and, and_true, List.length_cons, List.length_nil, Option.toList_some, Option.toList_none, List.cons_append, List.nil_append, Nat.reduceLeDiff, Nat.le_refl, wdS_nil, wdS_i, wdS_l, wdS_r, wdS_n, wdS_s, c0, c1, st9, e1, (WSC_c hs 1 (by decide)).1, (WSC_c hs 1 (by decide)).2, e2, (WSC_c hs 2 (by decide)).1, (WSC_c hs 2 (by decide)).2, x10_below 900 hX (w 1) (w 2), m_below 900 hA.1 (w 1) (w 2), e6, ↓reduceIte]
  exact nx hp (WSI_of h)
set_option maxHeartbeats 16000000 in
theorem lw_8 {scr : List Int} {R : PO} {i : Nat} {B : BU} {hp : HP} {n : Nat} {G : BitVec 64} {z : Int} {c : Nat} {ks : List Int} {es : List Int} {ik : Bool} {kn : Nat} {kG : BitVec 64} {kz : Int} {kc : Nat} {kks : List Int} {kes : List Int} {tc : Nat} {tb : List Int} {sc : Nat} {tl : List Int} {so : List Int} {le : List Int} {it : Nat → List (BitVec 64)} {he : List Int} {th : List Int} {sl : List Int} {tr : Nat} {bo : List Int} (h : WLS hp n G z c ks es ik kn kG kz kc kks kes tc tb sc tl so le it he th sl tr bo) (hs : WSC scr i) (nx : WNX scr R (i + 6) B) : AW 1000 scr 302 R 228 [some (mS 9), some (mR 0), some (mR 54), some (mI (i : Int))] [] hp B := by
  obtain ⟨c0, c1, hA, hG⟩ := WLS_c h
  have hX := h.1
  have w := fun k => hs.2.2 (i + k)
  have e1 : (i : Int) + 1 = ((i + 1 : Nat) : Int) := rfl
  have e2 : (i : Int) + 2 = ((i + 2 : Nat) : Int) := rfl
  have e6 : (i : Int) + 6 = ((i + 6 : Nat) : Int) := rfl
  have st9 : stab scr 9 = scr := rfl
  simp only [AW_k, AWk_1, x_aload_1, x_aloads_1, x_aload_0, x_aloads_0, x_iload_3, x_push_i, x_push_l, x_iadd, x_iald, x_ialds, x_callv_3, x_aload_2, x_aloads_2, x_icmp_eq, x_ret, x_ret_i, x_ret_z, x_ret_l, x_ret_c, x_iinc_3, x_goto, unl_i, unl_l, unl_q, unl_r, unl_s, unl_n, k_L_law_228, k_L_law_229, k_L_law_230, k_L_law_231, k_L_law_232, k_L_law_233, k_L_law_234, k_L_law_235, k_L_law_236, k_L_law_237, k_L_law_238, k_L_law_239, k_L_law_240, k_L_law_241, k_L_law_242, k_L_law_243, k_L_law_244, k_L_law_245, k_L_law_246, k_L_law_247, k_L_law_248, k_L_law_249, k_L_law_250, k_L_law_251, k_L_law_252, k_L_law_253, k_L_law_254, k_L_law_1316, k_L_law_1317, oE_some, Int.reduceToNat, Nat.reduceAdd, true_and, and_true, List.length_cons, List.length_nil, Option.toList_some, Option.toList_none, List.cons_append, List.nil_append, Nat.reduceLeDiff, Nat.le_refl, wdS_nil, wdS_i, wdS_l, wdS_r, wdS_n, wdS_s, c0, c1, st9, e1, (WSC_c hs 1 (by decide)).1, (WSC_c hs 1 (by decide)).2, e2, (WSC_c hs 2 (by decide)).1, (WSC_c hs 2 (by decide)).2, x10_arcIs 900 hX (w 1) (w 2), m_arcIs 900 hA hG (w 1) (w 2), e6, ↓reduceIte]
  exact nx hp (WSI_of h)
