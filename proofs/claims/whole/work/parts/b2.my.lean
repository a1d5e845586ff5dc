/-! ===== the reference's own methods: what is gone ===== -/
theorem x_gone_m (d : Nat) {hp : HP} {n : Nat} {G : BitVec 64} {z : Int} {c : Nat} {ks : List Int} {es : List Int} {ik : Bool} {kn : Nat} {kG : BitVec 64} {kz : Int} {kc : Nat} {kks : List Int} {kes : List Int} {tc : Nat} {tb : List Int} {sc : Nat} {tl : List Int} {so : List Int} {le : List Int} {it : Nat → List (BitVec 64)} {he : List Int} {th : List Int} {sl : List Int} {tr : Nat} {bo : List Int} (hX : MI (hp) n G z c ks es ik kn kG kz kc kks kes tc tb sc tl so le it he th sl tr bo) (R : PO) : callD (d + 100) 197 [mR 54] hp R ↔ R (some (mL G)) hp := by
  obtain ⟨⟨u1, u2, u3⟩, kN, kZ, kM, kGm, l5, l6, qk, q0, q1, q2, q3, q4, q5, q6, q7, q8, q9⟩ := hX
  obtain ⟨fr_, to_, co_, op_, wr_, ki_, nu_, mm_, pa_, hF⟩ := YO_F q0
  have hA : MA hp n := ⟨⟨⟨u2, u3⟩, hF 0, hF 18, hF 19, q1.1.1, q1.1.2⟩, ⟨hF 13, hF 14, hF 15, hF 16, hF 17⟩, q1.2⟩
  have hK := hA.1
  have cK := cM hK
  have hG : gF hp 54 11 3 = some (mL G) := hF 3
  rw [callD_k]; simp only [entL_i, entL_l, entL_q, entL_s, entL_nil, n_X11_gone, u_X11_gone, m_X11_gone, rep_0, List.cons_append, List.nil_append, List.append_nil, List.length_cons, List.length_nil, Nat.reduceAdd, true_and]
  simp only [AW_k, AWk_1, x_aload_0, x_aloads_0, x_getf, x_ret, x_ret_i, x_ret_z, x_ret_l, x_ret_c, k_X11_gone_0, k_X11_gone_1, k_X11_gone_2, oE_some, Int.reduceToNat, Nat.reduceAdd, true_and, and_true, List.length_cons, List.length_nil, Option.toList_some, Option.toList_none, List.cons_append, List.nil_append, Nat.reduceLeDiff, Nat.le_refl, wdS_nil, wdS_i, wdS_l, wdS_r, wdS_n, wdS_s, hG]
theorem Fr_o54 {hp : HP} {f : Nat} {v : AV} : Fr 54 83 hp (pF hp 54 11 f v) := Fr_mono (Fr_pF (a := 54) (b := 55) (Nat.le_refl _) (Nat.lt_succ_self _)) (Nat.le_refl _) (by omega)
set_option maxHeartbeats 16000000 in
theorem x_contract_m (d : Nat) {hp : HP} {n : Nat} {G : BitVec 64} {z : Int} {c : Nat} {ks : List Int} {es : List Int} {ik : Bool} {kn : Nat} {kG : BitVec 64} {kz : Int} {kc : Nat} {kks : List Int} {kes : List Int} {tc : Nat} {tb : List Int} {sc : Nat} {tl : List Int} {so : List Int} {le : List Int} {it : Nat → List (BitVec 64)} {he : List Int} {th : List Int} {sl : List Int} {tr : Nat} {bo : List Int} {x : Int} (hX : MI (hp) n G z c ks es ik kn kG kz kc kks kes tc tb sc tl so le it he th sl tr bo) (hx : w32 x = x) : ∃ h', MI (h') n (ctG n G x) z c ks es ik kn kG kz kc kks kes tc tb sc tl so le it he th sl tr bo ∧ Fr 54 83 hp h' ∧ ∀ R : PO, callD (d + 100) 198 [mR 54, mI x] hp R ↔ R (some (mI (goA n x (ctG n G x)))) h' := by
  have hX0 := hX
  obtain ⟨⟨u1, u2, u3⟩, kN, kZ, kM, kGm, l5, l6, qk, q0, q1, q2, q3, q4, q5, q6, q7, q8, q9⟩ := hX
  obtain ⟨fr_, to_, co_, op_, wr_, ki_, nu_, mm_, pa_, hF⟩ := YO_F q0
  have hA : MA hp n := ⟨⟨⟨u2, u3⟩, hF 0, hF 18, hF 19, q1.1.1, q1.1.2⟩, ⟨hF 13, hF 14, hF 15, hF 16, hF 17⟩, q1.2⟩
  have hK := hA.1
  have cK := cM hK
  have hG : gF hp 54 11 3 = some (mL G) := hF 3
  obtain ⟨-, ⟨g13, g14, g15, g16, g17⟩, l1, l2, l3, l4, ⟨a1, a2, a3, a4⟩, ⟨n1, n2, n3, n4⟩, hv⟩ := hA
  have hA : MA hp n := MA_of hX0
  have fN := NA_le n
  unfold ctG goA
  cases ex : axo n x with
  | none =>
    refine ⟨hp, hX0, Fr_refl hp, fun R => ?_⟩
    rw [callD_k]; simp only [entL_i, entL_l, entL_q, entL_s, entL_nil, n_X11_contract, u_X11_contract, m_X11_contract, rep_0, List.cons_append, List.nil_append, List.append_nil, List.length_cons, List.length_nil, Nat.reduceAdd, true_and]
    simp only [AW_k, AWk_1, x_aload_0, x_aloads_0, x_iload_1, x_callv_2, x_if_ne, x_push_i, x_push_l, x_ret, x_ret_i, x_ret_z, x_ret_l, x_ret_c, x_dup_i, x_dup_r, x_dup_q, x_getf, x_lald, x_lor, x_putf_l, x_call_1, k_X11_contract_0, k_X11_contract_1, k_X11_contract_2, k_X11_contract_3, k_X11_contract_4, k_X11_contract_5, k_X11_contract_6, k_X11_contract_7, k_X11_contract_8, k_X11_contract_9, k_X11_contract_10, k_X11_contract_11, k_X11_contract_12, k_X11_contract_13, k_X11_contract_14, k_X11_contract_15, k_X11_contract_16, k_X11_contract_17, k_X11_contract_18, oE_some, Int.reduceToNat, Nat.reduceAdd, true_and, and_true, List.length_cons, List.length_nil, Option.toList_some, Option.toList_none, List.cons_append, List.nil_append, Nat.reduceLeDiff, Nat.le_refl, wdS_nil, wdS_i, wdS_l, wdS_r, wdS_n, wdS_s, cK, mArc_n (d + 97) hA hx ex, w00, ↓reduceIte]
  | some a =>
    obtain ⟨ha, ea⟩ := axo_lt ex
    have en := mArc_s (d + 97) hA hx ex
    have a57 : a < 57 := by omega
    have ba : a < 2147483648 := by omega
    have ia : inB (a : Int) 57 := inB_n a57 (by decide)
    have w4 := (hv a ha).2.2.2
    refine ⟨pF hp 54 11 3 (mL (G ||| FO n a)), MI_oG hX0, Fr_o54, fun R => ?_⟩
    have hG' : gF (pF hp 54 11 3 (mL (G ||| FO n a))) 54 11 3 = some (mL (G ||| FO n a)) := gF_pF_same hG
    subst ea
    rw [callD_k]; simp only [entL_i, entL_l, entL_q, entL_s, entL_nil, n_X11_contract, u_X11_contract, m_X11_contract, rep_0, List.cons_append, List.nil_append, List.append_nil, List.length_cons, List.length_nil, Nat.reduceAdd, true_and]
    simp only [AW_k, AWk_1, x_aload_0, x_aloads_0, x_iload_1, x_callv_2, x_if_ne, x_push_i, x_push_l, x_ret, x_ret_i, x_ret_z, x_ret_l, x_ret_c, x_dup_i, x_dup_r, x_dup_q, x_getf, x_lald, x_lor, x_putf_l, x_call_1, k_X11_contract_0, k_X11_contract_1, k_X11_contract_2, k_X11_contract_3, k_X11_contract_4, k_X11_contract_5, k_X11_contract_6, k_X11_contract_7, k_X11_contract_8, k_X11_contract_9, k_X11_contract_10, k_X11_contract_11, k_X11_contract_12, k_X11_contract_13, k_X11_contract_14, k_X11_contract_15, k_X11_contract_16, k_X11_contract_17, k_X11_contract_18, oE_some, Int.reduceToNat, Nat.reduceAdd, true_and, and_true, List.length_cons, List.length_nil, Option.toList_some, Option.toList_none, List.cons_append, List.nil_append, Nat.reduceLeDiff, Nat.le_refl, wdS_nil, wdS_i, wdS_l, wdS_r, wdS_n, wdS_s, cK, en, w10, hG, g16, a4, n4, ia, w32_tn ba, w4, hG', m_ones (d + 97), ↓reduceIte]
set_option maxHeartbeats 16000000 in
theorem x_restore_m (d : Nat) {hp : HP} {n : Nat} {G : BitVec 64} {z : Int} {c : Nat} {ks : List Int} {es : List Int} {ik : Bool} {kn : Nat} {kG : BitVec 64} {kz : Int} {kc : Nat} {kks : List Int} {kes : List Int} {tc : Nat} {tb : List Int} {sc : Nat} {tl : List Int} {so : List Int} {le : List Int} {it : Nat → List (BitVec 64)} {he : List Int} {th : List Int} {sl : List Int} {tr : Nat} {bo : List Int} {x : Int} (hX : MI (hp) n G z c ks es ik kn kG kz kc kks kes tc tb sc tl so le it he th sl tr bo) (hx : w32 x = x) : ∃ h', MI (h') n (rsG n G x) z c ks es ik kn kG kz kc kks kes tc tb sc tl so le it he th sl tr bo ∧ Fr 54 83 hp h' ∧ ∀ R : PO, callD (d + 100) 199 [mR 54, mI x] hp R ↔ R (some (mI (goA n x (rsG n G x)))) h' := by
  have hX0 := hX
  obtain ⟨⟨u1, u2, u3⟩, kN, kZ, kM, kGm, l5, l6, qk, q0, q1, q2, q3, q4, q5, q6, q7, q8, q9⟩ := hX
  obtain ⟨fr_, to_, co_, op_, wr_, ki_, nu_, mm_, pa_, hF⟩ := YO_F q0
  have hA : MA hp n := ⟨⟨⟨u2, u3⟩, hF 0, hF 18, hF 19, q1.1.1, q1.1.2⟩, ⟨hF 13, hF 14, hF 15, hF 16, hF 17⟩, q1.2⟩
  have hK := hA.1
  have cK := cM hK
  have hG : gF hp 54 11 3 = some (mL G) := hF 3
  unfold rsG goA
  cases ex : axo n x with
  | none =>
    refine ⟨hp, hX0, Fr_refl hp, fun R => ?_⟩
    rw [callD_k]; simp only [entL_i, entL_l, entL_q, entL_s, entL_nil, n_X11_restore, u_X11_restore, m_X11_restore, rep_0, List.cons_append, List.nil_append, List.append_nil, List.length_cons, List.length_nil, Nat.reduceAdd, true_and]
    simp only [AW_k, AWk_1, x_aload_0, x_aloads_0, x_iload_1, x_callv_2, x_if_ne, x_push_i, x_push_l, x_ret, x_ret_i, x_ret_z, x_ret_l, x_ret_c, x_dup_i, x_dup_r, x_dup_q, x_getf, x_lxor, x_land, x_putf_l, x_call_1, k_X11_restore_0, k_X11_restore_1, k_X11_restore_2, k_X11_restore_3, k_X11_restore_4, k_X11_restore_5, k_X11_restore_6, k_X11_restore_7, k_X11_restore_8, k_X11_restore_9, k_X11_restore_10, k_X11_restore_11, k_X11_restore_12, k_X11_restore_13, k_X11_restore_14, k_X11_restore_15, k_X11_restore_16, k_X11_restore_17, k_X11_restore_18, k_X11_restore_19, oE_some, Int.reduceToNat, Nat.reduceAdd, true_and, and_true, List.length_cons, List.length_nil, Option.toList_some, Option.toList_none, List.cons_append, List.nil_append, Nat.reduceLeDiff, Nat.le_refl, wdS_nil, wdS_i, wdS_l, wdS_r, wdS_n, wdS_s, cK, mArc_n (d + 97) hA hx ex, w00, ↓reduceIte]
  | some a =>
    obtain ⟨ha, ea⟩ := axo_lt ex
    have en := mArc_s (d + 97) hA hx ex
    refine ⟨pF hp 54 11 3 (mL (G &&& (FG n a ^^^ 18446744073709551615#64))), MI_oG hX0, Fr_o54, fun R => ?_⟩
    have hG' : gF (pF hp 54 11 3 (mL (G &&& (FG n a ^^^ 18446744073709551615#64)))) 54 11 3 = some (mL (G &&& (FG n a ^^^ 18446744073709551615#64))) := gF_pF_same hG
    subst ea
    rw [callD_k]; simp only [entL_i, entL_l, entL_q, entL_s, entL_nil, n_X11_restore, u_X11_restore, m_X11_restore, rep_0, List.cons_append, List.nil_append, List.append_nil, List.length_cons, List.length_nil, Nat.reduceAdd, true_and]
    simp only [AW_k, AWk_1, x_aload_0, x_aloads_0, x_iload_1, x_callv_2, x_if_ne, x_push_i, x_push_l, x_ret, x_ret_i, x_ret_z, x_ret_l, x_ret_c, x_dup_i, x_dup_r, x_dup_q, x_getf, x_lxor, x_land, x_putf_l, x_call_1, k_X11_restore_0, k_X11_restore_1, k_X11_restore_2, k_X11_restore_3, k_X11_restore_4, k_X11_restore_5, k_X11_restore_6, k_X11_restore_7, k_X11_restore_8, k_X11_restore_9, k_X11_restore_10, k_X11_restore_11, k_X11_restore_12, k_X11_restore_13, k_X11_restore_14, k_X11_restore_15, k_X11_restore_16, k_X11_restore_17, k_X11_restore_18, k_X11_restore_19, oE_some, Int.reduceToNat, Nat.reduceAdd, true_and, and_true, List.length_cons, List.length_nil, Option.toList_some, Option.toList_none, List.cons_append, List.nil_append, Nat.reduceLeDiff, Nat.le_refl, wdS_nil, wdS_i, wdS_l, wdS_r, wdS_n, wdS_s, cK, en, w10, hG, m_forcers (d + 97) hA ha, hG', m_ones (d + 97), ↓reduceIte]
theorem x_clear_m (d : Nat) {hp : HP} {n : Nat} {G : BitVec 64} {z : Int} {c : Nat} {ks : List Int} {es : List Int} {ik : Bool} {kn : Nat} {kG : BitVec 64} {kz : Int} {kc : Nat} {kks : List Int} {kes : List Int} {tc : Nat} {tb : List Int} {sc : Nat} {tl : List Int} {so : List Int} {le : List Int} {it : Nat → List (BitVec 64)} {he : List Int} {th : List Int} {sl : List Int} {tr : Nat} {bo : List Int} (hX : MI (hp) n G z c ks es ik kn kG kz kc kks kes tc tb sc tl so le it he th sl tr bo) : ∃ h', MI (h') n (0#64) z c ks es ik kn kG kz kc kks kes tc tb sc tl so le it he th sl tr bo ∧ Fr 54 83 hp h' ∧ ∀ R : PO, callD (d + 100) 226 [mR 54] hp R ↔ R (some (mI (popI G))) h' := by
  have hX0 := hX
  obtain ⟨⟨u1, u2, u3⟩, kN, kZ, kM, kGm, l5, l6, qk, q0, q1, q2, q3, q4, q5, q6, q7, q8, q9⟩ := hX
  obtain ⟨fr_, to_, co_, op_, wr_, ki_, nu_, mm_, pa_, hF⟩ := YO_F q0
  have hA : MA hp n := ⟨⟨⟨u2, u3⟩, hF 0, hF 18, hF 19, q1.1.1, q1.1.2⟩, ⟨hF 13, hF 14, hF 15, hF 16, hF 17⟩, q1.2⟩
  have hK := hA.1
  have cK := cM hK
  have hG : gF hp 54 11 3 = some (mL G) := hF 3
  refine ⟨pF hp 54 11 3 (mL 0#64), MI_oG hX0, Fr_o54, fun R => ?_⟩
  rw [callD_k]; simp only [entL_i, entL_l, entL_q, entL_s, entL_nil, n_X11_clear, u_X11_clear, m_X11_clear, rep_1, List.cons_append, List.nil_append, List.append_nil, List.length_cons, List.length_nil, Nat.reduceAdd, true_and]
  simp only [AW_k, AWk_1, x_aload_0, x_aloads_0, x_getf, x_call_1, x_istore_1, x_push_i, x_push_l, x_putf_l, x_iload_1, x_ret, x_ret_i, x_ret_z, x_ret_l, x_ret_c, unl_i, unl_l, unl_q, unl_r, unl_s, unl_n, k_X11_clear_0, k_X11_clear_1, k_X11_clear_2, k_X11_clear_3, k_X11_clear_4, k_X11_clear_5, k_X11_clear_6, k_X11_clear_7, k_X11_clear_8, oE_some, Int.reduceToNat, Nat.reduceAdd, true_and, and_true, List.length_cons, List.length_nil, Option.toList_some, Option.toList_none, List.cons_append, List.nil_append, Nat.reduceLeDiff, Nat.le_refl, wdS_nil, wdS_i, wdS_l, wdS_r, wdS_n, wdS_s, hG, m_ones (d + 97)]
theorem x_seed_m (d : Nat) {hp : HP} {n : Nat} {G : BitVec 64} {z : Int} {c : Nat} {ks : List Int} {es : List Int} {ik : Bool} {kn : Nat} {kG : BitVec 64} {kz : Int} {kc : Nat} {kks : List Int} {kes : List Int} {tc : Nat} {tb : List Int} {sc : Nat} {tl : List Int} {so : List Int} {le : List Int} {it : Nat → List (BitVec 64)} {he : List Int} {th : List Int} {sl : List Int} {tr : Nat} {bo : List Int} {x : Int} (hX : MI (hp) n G z c ks es ik kn kG kz kc kks kes tc tb sc tl so le it he th sl tr bo) : ∃ h', MI (h') n G x c ks es ik kn kG kz kc kks kes tc tb sc tl so le it he th sl tr bo ∧ Fr 54 83 hp h' ∧ ∀ R : PO, callD (d + 100) 252 [mR 54, mI x] hp R ↔ R (some (mI z)) h' := by
  have hX0 := hX
  obtain ⟨⟨u1, u2, u3⟩, kN, kZ, kM, kGm, l5, l6, qk, q0, q1, q2, q3, q4, q5, q6, q7, q8, q9⟩ := hX
  obtain ⟨fr_, to_, co_, op_, wr_, ki_, nu_, mm_, pa_, hF⟩ := YO_F q0
  have hA : MA hp n := ⟨⟨⟨u2, u3⟩, hF 0, hF 18, hF 19, q1.1.1, q1.1.2⟩, ⟨hF 13, hF 14, hF 15, hF 16, hF 17⟩, q1.2⟩
  have hK := hA.1
  have cK := cM hK
  have hG : gF hp 54 11 3 = some (mL G) := hF 3
  have hz : gF hp 54 11 1 = some (mI z) := hF 1
  refine ⟨pF hp 54 11 1 (mI x), MI_oz hX0, Fr_o54, fun R => ?_⟩
  rw [callD_k]; simp only [entL_i, entL_l, entL_q, entL_s, entL_nil, n_X11_seed, u_X11_seed, m_X11_seed, rep_1, List.cons_append, List.nil_append, List.append_nil, List.length_cons, List.length_nil, Nat.reduceAdd, true_and]
  simp only [AW_k, AWk_1, x_aload_0, x_aloads_0, x_getf, x_istore_2, x_iload_1, x_putf_i, x_iload_2, x_ret, x_ret_i, x_ret_z, x_ret_l, x_ret_c, unl_i, unl_l, unl_q, unl_r, unl_s, unl_n, k_X11_seed_0, k_X11_seed_1, k_X11_seed_2, k_X11_seed_3, k_X11_seed_4, k_X11_seed_5, k_X11_seed_6, k_X11_seed_7, oE_some, Int.reduceToNat, Nat.reduceAdd, true_and, and_true, List.length_cons, List.length_nil, Option.toList_some, Option.toList_none, List.cons_append, List.nil_append, Nat.reduceLeDiff, Nat.le_refl, wdS_nil, wdS_i, wdS_l, wdS_r, wdS_n, wdS_s, hz]
set_option maxHeartbeats 16000000 in
theorem x_comes_m (d : Nat) {hp : HP} {n : Nat} {G : BitVec 64} {z : Int} {c : Nat} {ks : List Int} {es : List Int} {ik : Bool} {kn : Nat} {kG : BitVec 64} {kz : Int} {kc : Nat} {kks : List Int} {kes : List Int} {tc : Nat} {tb : List Int} {sc : Nat} {tl : List Int} {so : List Int} {le : List Int} {it : Nat → List (BitVec 64)} {he : List Int} {th : List Int} {sl : List Int} {tr : Nat} {bo : List Int} {t : BitVec 64} {w : Int} (hX : MI (hp) n G z c ks es ik kn kG kz kc kks kes tc tb sc tl so le it he th sl tr bo) (hw : w32 w = w) (ht : okS n t) : ∃ h', MI (h') n (coG n G t w) z c ks es ik kn kG kz kc kks kes tc tb sc tl so le it he th sl tr bo ∧ Fr 54 83 hp h' ∧ ∀ R : PO, callD (d + 90) 206 [mR 54, mL t, mI w] hp R ↔ R (some (mI (popI (coG n G t w)))) h' := by
  have hX0 := hX
  obtain ⟨⟨u1, u2, u3⟩, kN, kZ, kM, kGm, l5, l6, qk, q0, q1, q2, q3, q4, q5, q6, q7, q8, q9⟩ := hX
  obtain ⟨fr_, to_, co_, op_, wr_, ki_, nu_, mm_, pa_, hF⟩ := YO_F q0
  have hA : MA hp n := ⟨⟨⟨u2, u3⟩, hF 0, hF 18, hF 19, q1.1.1, q1.1.2⟩, ⟨hF 13, hF 14, hF 15, hF 16, hF 17⟩, q1.2⟩
  have hK := hA.1
  have cK := cM hK
  have hG : gF hp 54 11 3 = some (mL G) := hF 3
  refine ⟨pF hp 54 11 3 (mL (coG n G t w)), MI_oG hX0, Fr_o54, fun R => ?_⟩
  have hG' : gF (pF hp 54 11 3 (mL (coG n G t w))) 54 11 3 = some (mL (coG n G t w)) := gF_pF_same hG
  rw [callD_k]; simp only [entL_i, entL_l, entL_q, entL_s, entL_nil, n_X11_comes, u_X11_comes, m_X11_comes, rep_2, List.cons_append, List.nil_append, List.append_nil, List.length_cons, List.length_nil, Nat.reduceAdd, true_and]
  by_cases c0 : w = 0
  · have e : coG n G t w = cl n t := by unfold coG; rw [if_pos c0]
    rw [e] at hG' ⊢
    simp only [AW_k, AWk_1, x_aload_0, x_aloads_0, x_lload_1, x_callv_2, x_lstore_4, x_iload_3, x_if_ne, x_lload_4, x_goto, x_push_i, x_push_l, x_icmp_ne, x_getf, x_lor, x_land, x_putf_l, x_call_1, x_ret, x_ret_i, x_ret_z, x_ret_l, x_ret_c, unl_i, unl_l, unl_q, unl_r, unl_s, unl_n, k_X11_comes_0, k_X11_comes_1, k_X11_comes_2, k_X11_comes_3, k_X11_comes_4, k_X11_comes_5, k_X11_comes_6, k_X11_comes_7, k_X11_comes_8, k_X11_comes_9, k_X11_comes_10, k_X11_comes_11, k_X11_comes_12, k_X11_comes_13, k_X11_comes_14, k_X11_comes_15, k_X11_comes_16, k_X11_comes_17, k_X11_comes_18, k_X11_comes_19, k_X11_comes_20, k_X11_comes_21, k_X11_comes_22, k_X11_comes_23, k_X11_comes_24, k_X11_comes_25, oE_some, Int.reduceToNat, Nat.reduceAdd, true_and, and_true, List.length_cons, List.length_nil, Option.toList_some, Option.toList_none, List.cons_append, List.nil_append, Nat.reduceLeDiff, Nat.le_refl, wdS_nil, wdS_i, wdS_l, wdS_r, wdS_n, wdS_s, cK, m_closedBy (d + 87) hA ht, hw, c0, wz0, hG, hG', m_ones (d + 87), ↓reduceIte]
  · by_cases c1 : w = 1
    · have e : coG n G t w = G ||| cl n t := by unfold coG; rw [if_neg c0, if_pos c1]
      rw [e] at hG' ⊢
      simp only [AW_k, AWk_1, x_aload_0, x_aloads_0, x_lload_1, x_callv_2, x_lstore_4, x_iload_3, x_if_ne, x_lload_4, x_goto, x_push_i, x_push_l, x_icmp_ne, x_getf, x_lor, x_land, x_putf_l, x_call_1, x_ret, x_ret_i, x_ret_z, x_ret_l, x_ret_c, unl_i, unl_l, unl_q, unl_r, unl_s, unl_n, k_X11_comes_0, k_X11_comes_1, k_X11_comes_2, k_X11_comes_3, k_X11_comes_4, k_X11_comes_5, k_X11_comes_6, k_X11_comes_7, k_X11_comes_8, k_X11_comes_9, k_X11_comes_10, k_X11_comes_11, k_X11_comes_12, k_X11_comes_13, k_X11_comes_14, k_X11_comes_15, k_X11_comes_16, k_X11_comes_17, k_X11_comes_18, k_X11_comes_19, k_X11_comes_20, k_X11_comes_21, k_X11_comes_22, k_X11_comes_23, k_X11_comes_24, k_X11_comes_25, oE_some, Int.reduceToNat, Nat.reduceAdd, true_and, and_true, List.length_cons, List.length_nil, Option.toList_some, Option.toList_none, List.cons_append, List.nil_append, Nat.reduceLeDiff, Nat.le_refl, wdS_nil, wdS_i, wdS_l, wdS_r, wdS_n, wdS_s, cK, m_closedBy (d + 87) hA ht, hw, c1, wz1, Int.reduceEq, hG, hG', m_ones (d + 87), ↓reduceIte]
    · have e : coG n G t w = G &&& cl n t := by unfold coG; rw [if_neg c0, if_neg c1]
      rw [e] at hG' ⊢
      simp only [AW_k, AWk_1, x_aload_0, x_aloads_0, x_lload_1, x_callv_2, x_lstore_4, x_iload_3, x_if_ne, x_lload_4, x_goto, x_push_i, x_push_l, x_icmp_ne, x_getf, x_lor, x_land, x_putf_l, x_call_1, x_ret, x_ret_i, x_ret_z, x_ret_l, x_ret_c, unl_i, unl_l, unl_q, unl_r, unl_s, unl_n, k_X11_comes_0, k_X11_comes_1, k_X11_comes_2, k_X11_comes_3, k_X11_comes_4, k_X11_comes_5, k_X11_comes_6, k_X11_comes_7, k_X11_comes_8, k_X11_comes_9, k_X11_comes_10, k_X11_comes_11, k_X11_comes_12, k_X11_comes_13, k_X11_comes_14, k_X11_comes_15, k_X11_comes_16, k_X11_comes_17, k_X11_comes_18, k_X11_comes_19, k_X11_comes_20, k_X11_comes_21, k_X11_comes_22, k_X11_comes_23, k_X11_comes_24, k_X11_comes_25, oE_some, Int.reduceToNat, Nat.reduceAdd, true_and, and_true, List.length_cons, List.length_nil, Option.toList_some, Option.toList_none, List.cons_append, List.nil_append, Nat.reduceLeDiff, Nat.le_refl, wdS_nil, wdS_i, wdS_l, wdS_r, wdS_n, wdS_s, cK, m_closedBy (d + 87) hA ht, hw, c0, c1, wz1, hG, hG', m_ones (d + 87), ↓reduceIte]
/-- signs that differ -/
def sgF (n m a : Nat) : Nat → Nat → Bool
  | 0, _ => false
  | k + 1, c => sgF n m a k (c + 1) || !(tst (lf n a) (c - lo n a - 1) == tst m (c - 2))
def tkk_b (n : Nat) : Bool := allB (fun a => decide (((lc n a : Nat) : Int) = popN (lf n a)) && (rc n a == hi n a - lo n a - 1 - lc n a && allB (fun m => sgF n m a (hi n a - lo n a - 1) (lo n a + 1) == tk n 4 m a) 16)) (NA n)
theorem tkk_c : all6 tkk_b = true := by decide +kernel
