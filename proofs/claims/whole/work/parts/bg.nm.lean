/-! ===== the reference's prove and judge ===== -/
set_option maxHeartbeats 16000000 in
theorem m_pvLoop (d : Nat) {n : Nat} {G : BitVec 64} (h1 : 1 ≤ n) (h6 : n ≤ 6) (y1 : Int) : ∀ (k j now : Nat) (hp : HP) {z : Int} {c : Nat} {ks : List Int} {es : List Int} {ik : Bool} {kn : Nat} {kG : BitVec 64} {kz : Int} {kc : Nat} {kks : List Int} {kes : List Int} {tc : Nat} {tb : List Int} {tl : List Int} {so : List Int} {le : List Int} {it : Nat → List (BitVec 64)} {he : List Int} {th : List Int} {sl : List Int} {tr : Nat} {bo : List Int} (hX : MI (hp) n G z c ks es ik kn kG kz kc kks kes tc tb j tl so le it he th sl tr bo), j + k = 15 → now < FC n → gMs n true now ≤ k → ∃ h', MI (h') n G z c ks es ik kn kG kz kc kks kes tc tb ((gdF n G k j now tl).2) ((gdF n G k j now tl).1) so le it he th sl tr bo ∧ Fr 54 83 hp h' ∧ ∀ R : PO, AWh (d + 99) [] 255 R 18 [some (mR 54), some (mI y1), some (mI ((num n now : Nat) : Int)), some (mI (oI (fgD n G now true)))] [] hp (0, 0) ↔ R (some (mI ((gdF n G k j now tl).2 : Int))) h' := by
  intro k
  induction k with
  | zero =>
    intro j now hp z c ks es ik kn kG kz kc kks kes tc tb tl so le it he th sl tr bo hX hj hn hm
    have hX0 := hX
    obtain ⟨⟨u1, u2, u3⟩, kN, kZ, kM, kGm, l5, l6, qk, q0, q1, q2, q3, q4, q5, q6, q7, q8, q9⟩ := hX
    obtain ⟨fr_, to_, co_, op_, wr_, ki_, nu_, mm_, pa_, hF⟩ := YO_F q0
    have hA : MA hp n := ⟨⟨⟨u2, u3⟩, hF 0, hF 18, hF 19, q1.1.1, q1.1.2⟩, ⟨hF 13, hF 14, hF 15, hF 16, hF 17⟩, q1.2⟩
    have hK := hA.1
    have cK := cM hK
    have hG : gF hp 54 11 3 = some (mL G) := hF 3
    have g36 : gF hp 54 11 36 = some (mI (j : Int)) := hF 36
    cases q : fgD n G now true with
    | none =>
      refine ⟨hp, hX0, Fr_refl hp, fun R => ?_⟩
      rw [AWh_k, k_X11_prove_18]
      simp only [AW_k, AWk_1, x_iload_3, x_if_lt, x_aload_0, x_aloads_0, x_getf, x_ret, x_ret_i, x_ret_z, x_ret_l, x_ret_c, k_X11_prove_18, k_X11_prove_19, k_X11_prove_60, k_X11_prove_61, k_X11_prove_62, oE_some, Int.reduceToNat, Nat.reduceAdd, true_and, and_true, List.length_cons, List.length_nil, Option.toList_some, Option.toList_none, List.cons_append, List.nil_append, Nat.reduceLeDiff, Nat.le_refl, wdS_nil, wdS_i, wdS_l, wdS_r, wdS_n, wdS_s, show oI (none : Option Nat) = -1 from rfl, wN, g36, ↓reduceIte]
      all_goals exact Iff.rfl
    | some p => have := (gMs_step h1 h6 hn q).2.2; omega
  | succ k ih =>
    intro j now hp z c ks es ik kn kG kz kc kks kes tc tb tl so le it he th sl tr bo hX hj hn hm
    have hX0 := hX
    obtain ⟨⟨u1, u2, u3⟩, kN, kZ, kM, kGm, l5, l6, qk, q0, q1, q2, q3, q4, q5, q6, q7, q8, q9⟩ := hX
    obtain ⟨fr_, to_, co_, op_, wr_, ki_, nu_, mm_, pa_, hF⟩ := YO_F q0
    have hA : MA hp n := ⟨⟨⟨u2, u3⟩, hF 0, hF 18, hF 19, q1.1.1, q1.1.2⟩, ⟨hF 13, hF 14, hF 15, hF 16, hF 17⟩, q1.2⟩
    have hK := hA.1
    have cK := cM hK
    have hG : gF hp 54 11 3 = some (mL G) := hF 3
    have g36 : gF hp 54 11 36 = some (mI (j : Int)) := hF 36
    have g35 : gF hp 54 11 35 = some (mR 74) := hF 35
    obtain ⟨a74, l30⟩ := q6
    cases q : fgD n G now true with
    | none =>
      rw [gdF_none q]
      refine ⟨hp, hX0, Fr_refl hp, fun R => ?_⟩
      rw [AWh_k, k_X11_prove_18]
      simp only [AW_k, AWk_1, x_iload_3, x_if_lt, x_aload_0, x_aloads_0, x_getf, x_ret, x_ret_i, x_ret_z, x_ret_l, x_ret_c, k_X11_prove_18, k_X11_prove_19, k_X11_prove_60, k_X11_prove_61, k_X11_prove_62, oE_some, Int.reduceToNat, Nat.reduceAdd, true_and, and_true, List.length_cons, List.length_nil, Option.toList_some, Option.toList_none, List.cons_append, List.nil_append, Nat.reduceLeDiff, Nat.le_refl, wdS_nil, wdS_i, wdS_l, wdS_r, wdS_n, wdS_s, show oI (none : Option Nat) = -1 from rfl, wN, g36, ↓reduceIte]
    | some p =>
      obtain ⟨s1, s2, s3⟩ := gMs_step h1 h6 hn q
      rw [gdF_some q]
      have bp : p < 2147483648 := by omega
      have x1 := MI_S (tl' := tl.set (2 * j + 1) ((ar n now p : Nat) : Int)) hX0 (Fr_pA (a := 74) (b := 75) (x := 74) (hp := hp) (l := tl.set (2 * j + 1) ((ar n now p : Nat) : Int)) (by omega) (by omega)) ⟨gA_pA_same a74, by rw [List.length_set]; exact l30⟩
      have a74b : gA (pA hp 74 (tl.set (2 * j + 1) ((ar n now p : Nat) : Int))) 74 = some (tl.set (2 * j + 1) ((ar n now p : Nat) : Int)) := gA_pA_same a74
      have x2 := MI_S (tl' := (tl.set (2 * j + 1) ((ar n now p : Nat) : Int)).set (2 * j) ((num n (bs n now p) : Nat) : Int)) x1 (Fr_pA (a := 74) (b := 75) (x := 74) (hp := pA hp 74 (tl.set (2 * j + 1) ((ar n now p : Nat) : Int))) (l := (tl.set (2 * j + 1) ((ar n now p : Nat) : Int)).set (2 * j) ((num n (bs n now p) : Nat) : Int)) (by omega) (by omega)) ⟨gA_pA_same a74b, by rw [List.length_set, List.length_set]; exact l30⟩
      have x3 := MI_osc (sc' := j + 1) x2
      obtain ⟨h', v1, v2, v3⟩ := ih (j + 1) (bs n now p) _ x3 (by omega) s1 (by omega)
      refine ⟨h', v1, Fr_trans (Fr_trans (Fr_trans (Fr_pA (by omega) (by omega)) (Fr_pA (by omega) (by omega))) Fr_o54) v2, fun R => ?_⟩
      refine Iff.trans ?_ (v3 R)
      have hA1 := MA_of x1
      have hA3 := MA_of x3
      rw [pA_pA] at hA3 ⊢
      have e1 : ((2 * j : Nat) : Int) + 1 = ((2 * j + 1 : Nat) : Int) := by omega
      have e2 : 2 * (j : Int) = ((2 * j : Nat) : Int) := by omega
      have e3 : (j : Int) + 1 = ((j + 1 : Nat) : Int) := by omega
      have b1 : 2 * j + 1 < 2147483648 := by omega
      have b2 : 2 * j < 2147483648 := by omega
      have i1 : inB ((2 * j + 1 : Nat) : Int) tl.length := by rw [l30]; exact inB_n (by omega) (by decide)
      have i2 : inB ((2 * j : Nat) : Int) (tl.set (2 * j + 1) ((ar n now p : Nat) : Int)).length := by rw [List.length_set, l30]; exact inB_n (by omega) (by decide)
      have gb36 : gF (pA hp 74 (tl.set (2 * j + 1) ((ar n now p : Nat) : Int))) 54 11 36 = some (mI (j : Int)) := by rw [gF_pA, g36]
      have gb35 : gF (pA hp 74 (tl.set (2 * j + 1) ((ar n now p : Nat) : Int))) 54 11 35 = some (mR 74) := by rw [gF_pA, g35]
      have gc36 : gF (pA hp 74 ((tl.set (2 * j + 1) ((ar n now p : Nat) : Int)).set (2 * j) ((num n (bs n now p) : Nat) : Int))) 54 11 36 = some (mI (j : Int)) := by rw [gF_pA, g36]
      have gd3 : gF (pF (pA hp 74 ((tl.set (2 * j + 1) ((ar n now p : Nat) : Int)).set (2 * j) ((num n (bs n now p) : Nat) : Int))) 54 11 36 (mI ((j + 1 : Nat) : Int))) 54 11 3 = some (mL G) := by rw [gF_pF (by omega), gF_pA, hG]
      have mp := fun R => m_placeIn (d + 96) (b := true) (G := G) hA3 s1 R
      rw [zI_t] at mp
      rw [AWh_k, k_X11_prove_18]
      simp only [AW_k, AWk_1, x_iload_3, x_if_lt, x_aload_0, x_aloads_0, x_getf, x_push_i, x_push_l, x_imul, x_iadd, x_iload_2, x_callv_3, x_iast, x_istore_2, x_dup_i, x_dup_r, x_dup_q, x_putf_i, x_callv_4, x_istore_3, x_goto, unl_i, unl_l, unl_q, unl_r, unl_s, unl_n, k_X11_prove_18, k_X11_prove_19, k_X11_prove_20, k_X11_prove_21, k_X11_prove_22, k_X11_prove_23, k_X11_prove_24, k_X11_prove_25, k_X11_prove_26, k_X11_prove_27, k_X11_prove_28, k_X11_prove_29, k_X11_prove_30, k_X11_prove_31, k_X11_prove_32, k_X11_prove_33, k_X11_prove_34, k_X11_prove_35, k_X11_prove_36, k_X11_prove_37, k_X11_prove_38, k_X11_prove_39, k_X11_prove_40, k_X11_prove_41, k_X11_prove_42, k_X11_prove_43, k_X11_prove_44, k_X11_prove_45, k_X11_prove_46, k_X11_prove_47, k_X11_prove_48, k_X11_prove_49, k_X11_prove_50, k_X11_prove_51, k_X11_prove_52, k_X11_prove_53, k_X11_prove_54, k_X11_prove_55, k_X11_prove_56, k_X11_prove_57, k_X11_prove_58, k_X11_prove_59, oE_some, Int.reduceToNat, Nat.reduceAdd, true_and, and_true, List.length_cons, List.length_nil, Option.toList_some, Option.toList_none, List.cons_append, List.nil_append, Nat.reduceLeDiff, Nat.le_refl, wdS_nil, wdS_i, wdS_l, wdS_r, wdS_n, wdS_s, show oI (some p) = (p : Int) from rfl, wI bp, cK, g35, g36, a74, e1, e2, i1, i2, m_arcAt (d + 97) hA hn s2, w32_nat b1, w32_nat b2, Int.toNat_natCast, cM hA1.1, m_swapAt (d + 97) hA1.1 hn s2, gb35, gb36, a74b, pA_pA, gc36, e3, cM hA3.1, gd3, mp, ↓reduceIte]
set_option maxHeartbeats 16000000 in
theorem x_prove_m (d : Nat) {hp : HP} {n : Nat} {G : BitVec 64} {z : Int} {c : Nat} {ks : List Int} {es : List Int} {ik : Bool} {kn : Nat} {kG : BitVec 64} {kz : Int} {kc : Nat} {kks : List Int} {kes : List Int} {tc : Nat} {tb : List Int} {sc : Nat} {tl : List Int} {so : List Int} {le : List Int} {it : Nat → List (BitVec 64)} {he : List Int} {th : List Int} {sl : List Int} {tr : Nat} {bo : List Int} {x : Int} (hX : MI (hp) n G z c ks es ik kn kG kz kc kks kes tc tb sc tl so le it he th sl tr bo) (hx : w32 x = x) : ∃ h', MI (h') n G z c ks es ik kn kG kz kc kks kes tc tb (pvC n G tl sc x) (pvT n G tl x) so le it he th sl tr bo ∧ Fr 54 83 hp h' ∧ ∀ R : PO, callD (d + 100) 255 [mR 54, mI x] hp R ↔ R (some (mI (an1 n x (fun _ => ((pvC n G tl sc x : Nat) : Int))))) h' := by
  have hX0 := hX
  obtain ⟨⟨u1, u2, u3⟩, kN, kZ, kM, kGm, l5, l6, qk, q0, q1, q2, q3, q4, q5, q6, q7, q8, q9⟩ := hX
  obtain ⟨fr_, to_, co_, op_, wr_, ki_, nu_, mm_, pa_, hF⟩ := YO_F q0
  have hA : MA hp n := ⟨⟨⟨u2, u3⟩, hF 0, hF 18, hF 19, q1.1.1, q1.1.2⟩, ⟨hF 13, hF 14, hF 15, hF 16, hF 17⟩, q1.2⟩
  have hK := hA.1
  have cK := cM hK
  have hG : gF hp 54 11 3 = some (mL G) := hF 3
  have h1 := u2
  have h6 := u3
  unfold pvC pvT
  cases ex : ixo n x with
  | none =>
    refine ⟨hp, hX0, Fr_refl hp, fun R => ?_⟩
    rw [an1_n ex]
    rw [callD_k]; simp only [entL_i, entL_l, entL_q, entL_s, entL_nil, n_X11_prove, u_X11_prove, m_X11_prove, rep_2, List.cons_append, List.nil_append, List.append_nil, List.length_cons, List.length_nil, Nat.reduceAdd, true_and]
    simp only [AW_k, AWk_1, x_aload_0, x_aloads_0, x_iload_1, x_callv_2, x_if_ne, x_push_i, x_push_l, x_ret, x_ret_i, x_ret_z, x_ret_l, x_ret_c, x_istore_2, x_putf_i, x_iload_2, x_getf, x_callv_4, x_istore_3, x_iload_3, x_if_lt, x_imul, x_iadd, x_callv_3, x_iast, x_dup_i, x_dup_r, x_dup_q, x_goto, unl_i, unl_l, unl_q, unl_r, unl_s, unl_n, k_X11_prove_0, k_X11_prove_1, k_X11_prove_2, k_X11_prove_3, k_X11_prove_4, k_X11_prove_5, k_X11_prove_6, k_X11_prove_7, k_X11_prove_8, k_X11_prove_9, k_X11_prove_10, k_X11_prove_11, k_X11_prove_12, k_X11_prove_13, k_X11_prove_14, k_X11_prove_15, k_X11_prove_16, k_X11_prove_17, k_X11_prove_18, k_X11_prove_19, k_X11_prove_20, k_X11_prove_21, k_X11_prove_22, k_X11_prove_23, k_X11_prove_24, k_X11_prove_25, k_X11_prove_26, k_X11_prove_27, k_X11_prove_28, k_X11_prove_29, k_X11_prove_30, k_X11_prove_31, k_X11_prove_32, k_X11_prove_33, k_X11_prove_34, k_X11_prove_35, k_X11_prove_36, k_X11_prove_37, k_X11_prove_38, k_X11_prove_39, k_X11_prove_40, k_X11_prove_41, k_X11_prove_42, k_X11_prove_43, k_X11_prove_44, k_X11_prove_45, k_X11_prove_46, k_X11_prove_47, k_X11_prove_48, k_X11_prove_49, k_X11_prove_50, k_X11_prove_51, k_X11_prove_52, k_X11_prove_53, k_X11_prove_54, k_X11_prove_55, k_X11_prove_56, k_X11_prove_57, k_X11_prove_58, k_X11_prove_59, k_X11_prove_60, k_X11_prove_61, k_X11_prove_62, oE_some, Int.reduceToNat, Nat.reduceAdd, true_and, and_true, List.length_cons, List.length_nil, Option.toList_some, Option.toList_none, List.cons_append, List.nil_append, Nat.reduceLeDiff, Nat.le_refl, wdS_nil, wdS_i, wdS_l, wdS_r, wdS_n, wdS_s, cK, m_isRow_n (d + 97) hK hx ex, w00, ↓reduceIte]
  | some i =>
    have hi := ixo_lt ex
    have exn := ixo_num ex
    rw [an1_s ex]
    have x1 := MI_osc (sc' := 0) hX0
    obtain ⟨h', v1, v2, v3⟩ := m_pvLoop d (G := G) h1 h6 x 15 0 i _ x1 rfl hi (gMs_15 h1 h6 hi)
    refine ⟨h', v1, Fr_trans Fr_o54 v2, fun R => ?_⟩
    refine Iff.trans ?_ (v3 R)
    have hA1 := MA_of x1
    have gd3 : gF (pF hp 54 11 36 (mI ((0 : Nat) : Int))) 54 11 3 = some (mL G) := by rw [gF_pF (by omega), hG]
    have g36 : gF hp 54 11 36 = some (mI (sc : Int)) := hF 36
    have mp := fun R => m_placeIn (d + 96) (b := true) (G := G) hA1 hi R
    rw [exn, zI_t, show ((0 : Nat) : Int) = 0 from rfl] at mp
    rw [show ((0 : Nat) : Int) = 0 from rfl] at gd3 hA1 ⊢
    rw [exn]
    rw [callD_k]; simp only [entL_i, entL_l, entL_q, entL_s, entL_nil, n_X11_prove, u_X11_prove, m_X11_prove, rep_2, List.cons_append, List.nil_append, List.append_nil, List.length_cons, List.length_nil, Nat.reduceAdd, true_and]
    simp only [AW_k, AWk_1, x_aload_0, x_aloads_0, x_iload_1, x_callv_2, x_if_ne, x_push_i, x_push_l, x_ret, x_ret_i, x_ret_z, x_ret_l, x_ret_c, x_istore_2, x_putf_i, x_iload_2, x_getf, x_callv_4, x_istore_3, x_iload_3, unl_i, unl_l, unl_q, unl_r, unl_s, unl_n, k_X11_prove_0, k_X11_prove_1, k_X11_prove_2, k_X11_prove_3, k_X11_prove_4, k_X11_prove_5, k_X11_prove_6, k_X11_prove_7, k_X11_prove_8, k_X11_prove_9, k_X11_prove_10, k_X11_prove_11, k_X11_prove_12, k_X11_prove_13, k_X11_prove_14, k_X11_prove_15, k_X11_prove_16, k_X11_prove_17, k_X11_prove_18, oE_some, Int.reduceToNat, Nat.reduceAdd, true_and, and_true, List.length_cons, List.length_nil, Option.toList_some, Option.toList_none, List.cons_append, List.nil_append, Nat.reduceLeDiff, Nat.le_refl, wdS_nil, wdS_i, wdS_l, wdS_r, wdS_n, wdS_s, cK, m_isRow_s (d + 97) hK hx ex, w10, g36, gd3, cM hA1.1, mp, ↓reduceIte]
    all_goals exact Iff.rfl
