/-! ===== the reference's rotations and rotate ===== -/
theorem ML_of {hp : HP} {n : Nat} {G : BitVec 64} {z : Int} {c : Nat} {ks : List Int} {es : List Int} {ik : Bool} {kn : Nat} {kG : BitVec 64} {kz : Int} {kc : Nat} {kks : List Int} {kes : List Int} {tc : Nat} {tb : List Int} {sc : Nat} {tl : List Int} {so : List Int} {le : List Int} {it : Nat → List (BitVec 64)} {he : List Int} {th : List Int} {sl : List Int} {tr : Nat} {bo : List Int} (hX : MI (hp) n G z c ks es ik kn kG kz kc kks kes tc tb sc tl so le it he th sl tr bo) : ∃ li, ML hp G li := by
  obtain ⟨⟨u1, u2, u3⟩, kN, kZ, kM, kGm, l5, l6, qk, q0, q1, q2, q3, q4, q5, q6, q7, q8, q9⟩ := hX
  obtain ⟨fr_, to_, co_, op_, wr_, ki_, nu_, mm_, pa_, hF⟩ := YO_F q0
  have hA : MA hp n := ⟨⟨⟨u2, u3⟩, hF 0, hF 18, hF 19, q1.1.1, q1.1.2⟩, ⟨hF 13, hF 14, hF 15, hF 16, hF 17⟩, q1.2⟩
  have hK := hA.1
  have cK := cM hK
  have hG : gF hp 54 11 3 = some (mL G) := hF 3
  obtain ⟨li, fa, fe, qu, ls, il, ⟨c1, c2, c3, c4, c5, c6⟩, n1, r⟩ := q5
  exact ⟨li, hF 3, hF 29, c1, n1⟩
theorem MI_li {hp : HP} {n : Nat} {G : BitVec 64} {z : Int} {c : Nat} {ks : List Int} {es : List Int} {ik : Bool} {kn : Nat} {kG : BitVec 64} {kz : Int} {kc : Nat} {kks : List Int} {kes : List Int} {tc : Nat} {tb : List Int} {sc : Nat} {tl : List Int} {so : List Int} {le : List Int} {it : Nat → List (BitVec 64)} {he : List Int} {th : List Int} {sl : List Int} {tr : Nat} {bo : List Int} {l : List Int} (hX : MI (hp) n G z c ks es ik kn kG kz kc kks kes tc tb sc tl so le it he th sl tr bo) (hl : l.length = 6) : MI (pA hp 68 l) n G z c ks es ik kn kG kz kc kks kes tc tb sc tl so le it he th sl tr bo ∧ gA (pA hp 68 l) 68 = some l := by
  have hX0 := hX
  obtain ⟨⟨u1, u2, u3⟩, kN, kZ, kM, kGm, l5, l6, qk, q0, q1, q2, q3, q4, q5, q6, q7, q8, q9⟩ := hX
  obtain ⟨fr_, to_, co_, op_, wr_, ki_, nu_, mm_, pa_, hF⟩ := YO_F q0
  have hA : MA hp n := ⟨⟨⟨u2, u3⟩, hF 0, hF 18, hF 19, q1.1.1, q1.1.2⟩, ⟨hF 13, hF 14, hF 15, hF 16, hF 17⟩, q1.2⟩
  have hK := hA.1
  have cK := cM hK
  have hG : gF hp 54 11 3 = some (mL G) := hF 3
  obtain ⟨li, fa, fe, qu, ls, il, ⟨c1, c2, c3, c4, c5, c6⟩, n1, r⟩ := q5
  refine ⟨MI_W hX0 (Fr_pA (by omega) (by omega)) ⟨l, fa, fe, qu, ls, il, ⟨gA_pA_same c1, ?_, ?_, ?_, ?_, ?_⟩, hl, r⟩, gA_pA_same c1⟩
  · rw [gA_pA (by omega), c2]
  · rw [gA_pA (by omega), c3]
  · rw [gA_pA (by omega), c4]
  · rw [gA_pA (by omega), c5]
  · rw [gB_pA, c6]
theorem m_turnMI (d : Nat) {hp : HP} {n : Nat} {G : BitVec 64} {z : Int} {c : Nat} {ks : List Int} {es : List Int} {ik : Bool} {kn : Nat} {kG : BitVec 64} {kz : Int} {kc : Nat} {kks : List Int} {kes : List Int} {tc : Nat} {tb : List Int} {sc : Nat} {tl : List Int} {so : List Int} {le : List Int} {it : Nat → List (BitVec 64)} {he : List Int} {th : List Int} {sl : List Int} {tr : Nat} {bo : List Int} {i : Nat} {w : Int} (hX : MI (hp) n G z c ks es ik kn kG kz kc kks kes tc tb sc tl so le it he th sl tr bo) (hi : i < FC n) (hw : 0 ≤ w ∧ w ≤ 1) : ∃ h' l', MI (h') n G z c ks es ik kn kG kz kc kks kes tc tb sc tl so le it he th sl tr bo ∧ Fr 68 69 hp h' ∧ gA h' 68 = some l' ∧ l'.length = 6 ∧ preN n l' (nrW n G w i) ∧ ∀ R : PO, callD (d + 6) 236 [mR 54, mI ((num n i : Nat) : Int), mI w] hp R ↔ R (some (mI ((nrW n G w i).length : Int))) h' := by
  obtain ⟨li, hL⟩ := ML_of hX
  obtain ⟨b, eb, en⟩ : ∃ b : Bool, w = wyB b ∧ nrW n G w i = nrB n G b i := by
    by_cases c : w = 0
    · exact ⟨true, c, by unfold nrW; rw [if_pos c]; rfl⟩
    · exact ⟨false, show w = 1 by omega, by unfold nrW; rw [if_neg c]; rfl⟩
  obtain ⟨l', p1, p2, p3⟩ := m_turnsTo d (b := b) (MA_of hX) hL hi
  obtain ⟨x1, x2⟩ := MI_li hX p2
  rw [en, eb]
  exact ⟨pA hp 68 l', l', x1, Fr_pA (by omega) (by omega), x2, p2, p1, p3⟩
set_option maxHeartbeats 16000000 in
theorem x_rotations_m (d : Nat) {hp : HP} {n : Nat} {G : BitVec 64} {z : Int} {c : Nat} {ks : List Int} {es : List Int} {ik : Bool} {kn : Nat} {kG : BitVec 64} {kz : Int} {kc : Nat} {kks : List Int} {kes : List Int} {tc : Nat} {tb : List Int} {sc : Nat} {tl : List Int} {so : List Int} {le : List Int} {it : Nat → List (BitVec 64)} {he : List Int} {th : List Int} {sl : List Int} {tr : Nat} {bo : List Int} {x w : Int} (hX : MI (hp) n G z c ks es ik kn kG kz kc kks kes tc tb sc tl so le it he th sl tr bo) (hx : w32 x = x) (hw : w32 w = w) : ∃ h', MI (h') n G z c ks es ik kn kG kz kc kks kes tc tb sc tl so le it he th sl tr bo ∧ Fr 54 83 hp h' ∧ ∀ R : PO, callD (d + 100) 237 [mR 54, mI x, mI w] hp R ↔ R (some (mI (an1 n x (rtA n G w)))) h' := by
  have hX0 := hX
  obtain ⟨⟨u1, u2, u3⟩, kN, kZ, kM, kGm, l5, l6, qk, q0, q1, q2, q3, q4, q5, q6, q7, q8, q9⟩ := hX
  obtain ⟨fr_, to_, co_, op_, wr_, ki_, nu_, mm_, pa_, hF⟩ := YO_F q0
  have hA : MA hp n := ⟨⟨⟨u2, u3⟩, hF 0, hF 18, hF 19, q1.1.1, q1.1.2⟩, ⟨hF 13, hF 14, hF 15, hF 16, hF 17⟩, q1.2⟩
  have hK := hA.1
  have cK := cM hK
  have hG : gF hp 54 11 3 = some (mL G) := hF 3
  cases ex : ixo n x with
  | none =>
    refine ⟨hp, hX0, Fr_refl hp, fun R => ?_⟩
    rw [an1_n ex]
    rw [callD_k]; simp only [entL_i, entL_l, entL_q, entL_s, entL_nil, n_X11_rotations, u_X11_rotations, m_X11_rotations, rep_0, List.cons_append, List.nil_append, List.append_nil, List.length_cons, List.length_nil, Nat.reduceAdd, true_and]
    simp only [AW_k, AWk_1, x_aload_0, x_aloads_0, x_iload_1, x_callv_2, x_if_eq, x_iload_2, x_i2l, x_push_i, x_push_l, x_call_3, x_callv_3, x_goto, x_ret, x_ret_i, x_ret_z, x_ret_l, x_ret_c, k_X11_rotations_0, k_X11_rotations_1, k_X11_rotations_2, k_X11_rotations_3, k_X11_rotations_4, k_X11_rotations_5, k_X11_rotations_6, k_X11_rotations_7, k_X11_rotations_8, k_X11_rotations_9, k_X11_rotations_10, k_X11_rotations_11, k_X11_rotations_12, k_X11_rotations_13, k_X11_rotations_14, k_X11_rotations_15, k_X11_rotations_16, oE_some, Int.reduceToNat, Nat.reduceAdd, true_and, and_true, List.length_cons, List.length_nil, Option.toList_some, Option.toList_none, List.cons_append, List.nil_append, Nat.reduceLeDiff, Nat.le_refl, wdS_nil, wdS_i, wdS_l, wdS_r, wdS_n, wdS_s, cK, m_isRow_n (d + 97) hK hx ex, w00, ↓reduceIte]
  | some i =>
    have hi := ixo_lt ex
    have exn := ixo_num ex
    rw [an1_s ex]
    unfold rtA
    by_cases hin : 0 ≤ w ∧ w ≤ 1
    · rw [if_pos hin]
      obtain ⟨h', l', u1, u2, u3, u4, u5, u6⟩ := m_turnMI (d + 93) (w := w) hX0 hi hin
      refine ⟨h', u1, Fr_mono u2 (by omega) (by omega), fun R => ?_⟩
      rw [exn] at u6
      have ci : inI w 0 1 = true := decide_eq_true hin
      rw [callD_k]; simp only [entL_i, entL_l, entL_q, entL_s, entL_nil, n_X11_rotations, u_X11_rotations, m_X11_rotations, rep_0, List.cons_append, List.nil_append, List.append_nil, List.length_cons, List.length_nil, Nat.reduceAdd, true_and]
      simp only [AW_k, AWk_1, x_aload_0, x_aloads_0, x_iload_1, x_callv_2, x_if_eq, x_iload_2, x_i2l, x_push_i, x_push_l, x_call_3, k_X11_rotations_0, k_X11_rotations_1, k_X11_rotations_2, k_X11_rotations_3, k_X11_rotations_4, k_X11_rotations_5, k_X11_rotations_6, k_X11_rotations_7, k_X11_rotations_8, k_X11_rotations_9, oE_some, Int.reduceToNat, Nat.reduceAdd, true_and, and_true, List.length_cons, List.length_nil, Option.toList_some, Option.toList_none, List.cons_append, List.nil_append, Nat.reduceLeDiff, Nat.le_refl, wdS_nil, wdS_i, wdS_l, wdS_r, wdS_n, wdS_s, cK, m_isRow_s (d + 97) hK hx ex, w10, m_in (d + 98), tI_id hw, q0_I, q1_I, ci, zI_t, ↓reduceIte]
      simp only [AW_k, AWk_1, x_aload_0, x_aloads_0, x_iload_1, x_iload_2, x_callv_3, x_goto, x_push_i, x_push_l, x_ret, x_ret_i, x_ret_z, x_ret_l, x_ret_c, k_X11_rotations_10, k_X11_rotations_11, k_X11_rotations_12, k_X11_rotations_13, k_X11_rotations_14, k_X11_rotations_15, k_X11_rotations_16, oE_some, Int.reduceToNat, Nat.reduceAdd, true_and, and_true, List.length_cons, List.length_nil, Option.toList_some, Option.toList_none, List.cons_append, List.nil_append, Nat.reduceLeDiff, Nat.le_refl, wdS_nil, wdS_i, wdS_l, wdS_r, wdS_n, wdS_s, cK, u6]
    · rw [if_neg hin]
      refine ⟨hp, hX0, Fr_refl hp, fun R => ?_⟩
      have ci : inI w 0 1 = false := decide_eq_false hin
      rw [callD_k]; simp only [entL_i, entL_l, entL_q, entL_s, entL_nil, n_X11_rotations, u_X11_rotations, m_X11_rotations, rep_0, List.cons_append, List.nil_append, List.append_nil, List.length_cons, List.length_nil, Nat.reduceAdd, true_and]
      simp only [AW_k, AWk_1, x_aload_0, x_aloads_0, x_iload_1, x_callv_2, x_if_eq, x_iload_2, x_i2l, x_push_i, x_push_l, x_call_3, x_callv_3, x_goto, x_ret, x_ret_i, x_ret_z, x_ret_l, x_ret_c, k_X11_rotations_0, k_X11_rotations_1, k_X11_rotations_2, k_X11_rotations_3, k_X11_rotations_4, k_X11_rotations_5, k_X11_rotations_6, k_X11_rotations_7, k_X11_rotations_8, k_X11_rotations_9, k_X11_rotations_10, k_X11_rotations_11, k_X11_rotations_12, k_X11_rotations_13, k_X11_rotations_14, k_X11_rotations_15, k_X11_rotations_16, oE_some, Int.reduceToNat, Nat.reduceAdd, true_and, and_true, List.length_cons, List.length_nil, Option.toList_some, Option.toList_none, List.cons_append, List.nil_append, Nat.reduceLeDiff, Nat.le_refl, wdS_nil, wdS_i, wdS_l, wdS_r, wdS_n, wdS_s, cK, m_isRow_s (d + 97) hK hx ex, w10, w00, m_in (d + 98), tI_id hw, q0_I, q1_I, ci, zI_f, ↓reduceIte]
set_option maxHeartbeats 16000000 in
theorem x_rotate_m (d : Nat) {hp : HP} {n : Nat} {G : BitVec 64} {z : Int} {c : Nat} {ks : List Int} {es : List Int} {ik : Bool} {kn : Nat} {kG : BitVec 64} {kz : Int} {kc : Nat} {kks : List Int} {kes : List Int} {tc : Nat} {tb : List Int} {sc : Nat} {tl : List Int} {so : List Int} {le : List Int} {it : Nat → List (BitVec 64)} {he : List Int} {th : List Int} {sl : List Int} {tr : Nat} {bo : List Int} {x k w : Int} (hX : MI (hp) n G z c ks es ik kn kG kz kc kks kes tc tb sc tl so le it he th sl tr bo) (hx : w32 x = x) (hk : w32 k = k) (hw : w32 w = w) : ∃ h', MI (h') n G z c ks es ik kn kG kz kc kks kes tc tb sc tl so le it he th sl tr bo ∧ Fr 54 83 hp h' ∧ ∀ R : PO, callD (d + 100) 238 [mR 54, mI x, mI k, mI w] hp R ↔ R (some (mI (an1 n x (roW n G k w)))) h' := by
  have hX0 := hX
  obtain ⟨⟨u1, u2, u3⟩, kN, kZ, kM, kGm, l5, l6, qk, q0, q1, q2, q3, q4, q5, q6, q7, q8, q9⟩ := hX
  obtain ⟨fr_, to_, co_, op_, wr_, ki_, nu_, mm_, pa_, hF⟩ := YO_F q0
  have hA : MA hp n := ⟨⟨⟨u2, u3⟩, hF 0, hF 18, hF 19, q1.1.1, q1.1.2⟩, ⟨hF 13, hF 14, hF 15, hF 16, hF 17⟩, q1.2⟩
  have hK := hA.1
  have cK := cM hK
  have hG : gF hp 54 11 3 = some (mL G) := hF 3
  have h1 := u2
  have h6 := u3
  cases ex : ixo n x with
  | none =>
    refine ⟨hp, hX0, Fr_refl hp, fun R => ?_⟩
    rw [an1_n ex]
    rw [callD_k]; simp only [entL_i, entL_l, entL_q, entL_s, entL_nil, n_X11_rotate, u_X11_rotate, m_X11_rotate, rep_0, List.cons_append, List.nil_append, List.append_nil, List.length_cons, List.length_nil, Nat.reduceAdd, true_and]
    simp only [AW_k, AWk_1, x_aload_0, x_aloads_0, x_iload_1, x_callv_2, x_if_eq, x_iload_2, x_if_lt, x_iload_3, x_i2l, x_push_i, x_push_l, x_call_3, x_if_ne, x_ret, x_ret_i, x_ret_z, x_ret_l, x_ret_c, x_callv_3, x_icmp_ge, x_getf, x_iald, x_ialds, x_goto, k_X11_rotate_0, k_X11_rotate_1, k_X11_rotate_2, k_X11_rotate_3, k_X11_rotate_4, k_X11_rotate_5, k_X11_rotate_6, k_X11_rotate_7, k_X11_rotate_8, k_X11_rotate_9, k_X11_rotate_10, k_X11_rotate_11, k_X11_rotate_12, k_X11_rotate_13, k_X11_rotate_14, k_X11_rotate_15, k_X11_rotate_16, k_X11_rotate_17, k_X11_rotate_18, k_X11_rotate_19, k_X11_rotate_20, k_X11_rotate_21, k_X11_rotate_22, k_X11_rotate_23, k_X11_rotate_24, k_X11_rotate_25, k_X11_rotate_26, oE_some, Int.reduceToNat, Nat.reduceAdd, true_and, and_true, List.length_cons, List.length_nil, Option.toList_some, Option.toList_none, List.cons_append, List.nil_append, Nat.reduceLeDiff, Nat.le_refl, wdS_nil, wdS_i, wdS_l, wdS_r, wdS_n, wdS_s, cK, m_isRow_n (d + 97) hK hx ex, w00, ↓reduceIte]
  | some i =>
    have hi := ixo_lt ex
    have exn := ixo_num ex
    rw [an1_s ex]
    unfold roW
    by_cases hin : 0 ≤ k ∧ 0 ≤ w ∧ w ≤ 1
    · rw [if_pos hin]
      obtain ⟨h', l', u1, u2, u3, u4, u5, u6⟩ := m_turnMI (d + 93) (w := w) hX0 hi hin.2
      have hb : (nrW n G w i).length ≤ 6 ∧ ∀ y ∈ nrW n G w i, y < FC n := nrW_ok h1 h6 hi
      have bl : (nrW n G w i).length < 2147483648 := by omega
      have n0 : (k < 0) = False := eq_false (by omega)
      refine ⟨h', u1, Fr_mono u2 (by omega) (by omega), fun R => ?_⟩
      rw [exn] at u6
      have ci : inI w 0 1 = true := decide_eq_true hin.2
      have g29 : gF h' 54 11 29 = some (mR 68) := by
        obtain ⟨li, hL⟩ := ML_of u1
        exact hL.2.1
      rw [callD_k]; simp only [entL_i, entL_l, entL_q, entL_s, entL_nil, n_X11_rotate, u_X11_rotate, m_X11_rotate, rep_0, List.cons_append, List.nil_append, List.append_nil, List.length_cons, List.length_nil, Nat.reduceAdd, true_and]
      simp only [AW_k, AWk_1, x_aload_0, x_aloads_0, x_iload_1, x_callv_2, x_if_eq, x_iload_2, x_if_lt, x_iload_3, x_i2l, x_push_i, x_push_l, x_call_3, x_if_ne, x_ret, x_ret_i, x_ret_z, x_ret_l, x_ret_c, k_X11_rotate_0, k_X11_rotate_1, k_X11_rotate_2, k_X11_rotate_3, k_X11_rotate_4, k_X11_rotate_5, k_X11_rotate_6, k_X11_rotate_7, k_X11_rotate_8, k_X11_rotate_9, k_X11_rotate_10, k_X11_rotate_11, k_X11_rotate_12, k_X11_rotate_13, oE_some, Int.reduceToNat, Nat.reduceAdd, true_and, and_true, List.length_cons, List.length_nil, Option.toList_some, Option.toList_none, List.cons_append, List.nil_append, Nat.reduceLeDiff, Nat.le_refl, wdS_nil, wdS_i, wdS_l, wdS_r, wdS_n, wdS_s, cK, m_isRow_s (d + 97) hK hx ex, w10, m_in (d + 98), tI_id hw, q0_I, q1_I, ci, zI_t, hk, n0, ↓reduceIte]
      by_cases c : k < ((nrW n G w i).length : Int)
      · obtain ⟨k2, ek⟩ : ∃ k2 : Nat, k = (k2 : Int) := ⟨k.toNat, by omega⟩
        subst ek
        have hk2 : k2 < (nrW n G w i).length := by omega
        have eg := u5 k2 hk2
        have b2 : k2 < 2147483648 := by omega
        have iB : inB (k2 : Int) l'.length := by rw [u4]; exact inB_n (by omega) (by decide)
        rw [if_pos c, Int.toNat_natCast]
        simp only [AW_k, AWk_1, x_iload_2, x_aload_0, x_aloads_0, x_iload_1, x_iload_3, x_callv_3, x_icmp_ge, x_getf, x_iald, x_ialds, x_goto, x_push_i, x_push_l, x_ret, x_ret_i, x_ret_z, x_ret_l, x_ret_c, k_X11_rotate_14, k_X11_rotate_15, k_X11_rotate_16, k_X11_rotate_17, k_X11_rotate_18, k_X11_rotate_19, k_X11_rotate_20, k_X11_rotate_21, k_X11_rotate_22, k_X11_rotate_23, k_X11_rotate_24, k_X11_rotate_25, k_X11_rotate_26, oE_some, Int.reduceToNat, Nat.reduceAdd, true_and, and_true, List.length_cons, List.length_nil, Option.toList_some, Option.toList_none, List.cons_append, List.nil_append, Nat.reduceLeDiff, Nat.le_refl, wdS_nil, wdS_i, wdS_l, wdS_r, wdS_n, wdS_s, cK, u6, hk, w32_nat bl, c, g29, u3, iB, w32_tn b2, Int.toNat_natCast, eg, ↓reduceIte]
      · rw [if_neg c]
        simp only [AW_k, AWk_1, x_iload_2, x_aload_0, x_aloads_0, x_iload_1, x_iload_3, x_callv_3, x_icmp_ge, x_getf, x_iald, x_ialds, x_goto, x_push_i, x_push_l, x_ret, x_ret_i, x_ret_z, x_ret_l, x_ret_c, k_X11_rotate_14, k_X11_rotate_15, k_X11_rotate_16, k_X11_rotate_17, k_X11_rotate_18, k_X11_rotate_19, k_X11_rotate_20, k_X11_rotate_21, k_X11_rotate_22, k_X11_rotate_23, k_X11_rotate_24, k_X11_rotate_25, k_X11_rotate_26, oE_some, Int.reduceToNat, Nat.reduceAdd, true_and, and_true, List.length_cons, List.length_nil, Option.toList_some, Option.toList_none, List.cons_append, List.nil_append, Nat.reduceLeDiff, Nat.le_refl, wdS_nil, wdS_i, wdS_l, wdS_r, wdS_n, wdS_s, cK, u6, hk, w32_nat bl, c, ↓reduceIte]
    · rw [if_neg hin]
      refine ⟨hp, hX0, Fr_refl hp, fun R => ?_⟩
      by_cases a0 : k < 0
      · rw [callD_k]; simp only [entL_i, entL_l, entL_q, entL_s, entL_nil, n_X11_rotate, u_X11_rotate, m_X11_rotate, rep_0, List.cons_append, List.nil_append, List.append_nil, List.length_cons, List.length_nil, Nat.reduceAdd, true_and]
        simp only [AW_k, AWk_1, x_aload_0, x_aloads_0, x_iload_1, x_callv_2, x_if_eq, x_iload_2, x_if_lt, x_iload_3, x_i2l, x_push_i, x_push_l, x_call_3, x_if_ne, x_ret, x_ret_i, x_ret_z, x_ret_l, x_ret_c, x_callv_3, x_icmp_ge, x_getf, x_iald, x_ialds, x_goto, k_X11_rotate_0, k_X11_rotate_1, k_X11_rotate_2, k_X11_rotate_3, k_X11_rotate_4, k_X11_rotate_5, k_X11_rotate_6, k_X11_rotate_7, k_X11_rotate_8, k_X11_rotate_9, k_X11_rotate_10, k_X11_rotate_11, k_X11_rotate_12, k_X11_rotate_13, k_X11_rotate_14, k_X11_rotate_15, k_X11_rotate_16, k_X11_rotate_17, k_X11_rotate_18, k_X11_rotate_19, k_X11_rotate_20, k_X11_rotate_21, k_X11_rotate_22, k_X11_rotate_23, k_X11_rotate_24, k_X11_rotate_25, k_X11_rotate_26, oE_some, Int.reduceToNat, Nat.reduceAdd, true_and, and_true, List.length_cons, List.length_nil, Option.toList_some, Option.toList_none, List.cons_append, List.nil_append, Nat.reduceLeDiff, Nat.le_refl, wdS_nil, wdS_i, wdS_l, wdS_r, wdS_n, wdS_s, cK, m_isRow_s (d + 97) hK hx ex, w10, hk, a0, ↓reduceIte]
      · have ci : inI w 0 1 = false := decide_eq_false (fun q => hin ⟨by omega, q⟩)
        rw [callD_k]; simp only [entL_i, entL_l, entL_q, entL_s, entL_nil, n_X11_rotate, u_X11_rotate, m_X11_rotate, rep_0, List.cons_append, List.nil_append, List.append_nil, List.length_cons, List.length_nil, Nat.reduceAdd, true_and]
        simp only [AW_k, AWk_1, x_aload_0, x_aloads_0, x_iload_1, x_callv_2, x_if_eq, x_iload_2, x_if_lt, x_iload_3, x_i2l, x_push_i, x_push_l, x_call_3, x_if_ne, x_ret, x_ret_i, x_ret_z, x_ret_l, x_ret_c, k_X11_rotate_0, k_X11_rotate_1, k_X11_rotate_2, k_X11_rotate_3, k_X11_rotate_4, k_X11_rotate_5, k_X11_rotate_6, k_X11_rotate_7, k_X11_rotate_8, k_X11_rotate_9, k_X11_rotate_10, k_X11_rotate_11, k_X11_rotate_12, k_X11_rotate_13, oE_some, Int.reduceToNat, Nat.reduceAdd, true_and, and_true, List.length_cons, List.length_nil, Option.toList_some, Option.toList_none, List.cons_append, List.nil_append, Nat.reduceLeDiff, Nat.le_refl, wdS_nil, wdS_i, wdS_l, wdS_r, wdS_n, wdS_s, cK, m_isRow_s (d + 97) hK hx ex, w10, w00, m_in (d + 98), tI_id hw, q0_I, q1_I, ci, zI_f, hk, a0, ↓reduceIte]
