/-! ===== the reference is fed ===== -/
theorem q8_I : (8#64).toInt = 8 := by decide
theorem MI_65 {hp : HP} {n : Nat} {G : BitVec 64} {z : Int} {c : Nat} {ks : List Int} {es : List Int} {ik : Bool} {kn : Nat} {kG : BitVec 64} {kz : Int} {kc : Nat} {kks : List Int} {kes : List Int} {tc : Nat} {tb : List Int} {sc : Nat} {tl : List Int} {so : List Int} {le : List Int} {it : Nat → List (BitVec 64)} {he : List Int} {th : List Int} {sl : List Int} {tr : Nat} {bo : List Int} {m : List Int} (hX : MI (hp) n G z c ks es ik kn kG kz kc kks kes tc tb sc tl so le it he th sl tr bo) (hm : m.length = 200) : MI ((pA hp 65 m)) n G z c ks es ik kn kG kz kc kks kes tc m sc tl so le it he th sl tr bo := by
  have hX0 := hX
  obtain ⟨⟨u1, u2, u3⟩, kN, kZ, kM, kGm, l5, l6, qk, q0, q1, q2, q3, q4, q5, q6, q7, q8, q9⟩ := hX
  obtain ⟨⟨a, a'⟩, co, st, ⟨c1, c2⟩, n1, n2⟩ := q4
  exact MI_P hX0 (Fr_pA (by omega) (by omega)) ⟨⟨gA_pA_same a, hm⟩, co, st, ⟨by rw [gA_pA (by omega), c1], by rw [gA_pA (by omega), c2]⟩, n1, n2⟩
theorem MI_tp {hp : HP} {n : Nat} {G : BitVec 64} {z : Int} {c : Nat} {ks : List Int} {es : List Int} {ik : Bool} {kn : Nat} {kG : BitVec 64} {kz : Int} {kc : Nat} {kks : List Int} {kes : List Int} {tc : Nat} {tb : List Int} {sc : Nat} {tl : List Int} {so : List Int} {le : List Int} {it : Nat → List (BitVec 64)} {he : List Int} {th : List Int} {sl : List Int} {tr : Nat} {bo : List Int} (hX : MI (hp) n G z c ks es ik kn kG kz kc kks kes tc tb sc tl so le it he th sl tr bo) : gF hp 54 11 20 = some (mR 65) ∧ gF hp 54 11 23 = some (mI (tc : Int)) ∧ gA hp 65 = some tb ∧ tb.length = 200 ∧ gC hp 54 = some 11 := by
  obtain ⟨⟨u1, u2, u3⟩, kN, kZ, kM, kGm, l5, l6, qk, q0, q1, q2, q3, q4, q5, q6, q7, q8, q9⟩ := hX
  obtain ⟨fr_, to_, co_, op_, wr_, ki_, nu_, mm_, pa_, hF⟩ := YO_F q0
  have hA : MA hp n := ⟨⟨⟨u2, u3⟩, hF 0, hF 18, hF 19, q1.1.1, q1.1.2⟩, ⟨hF 13, hF 14, hF 15, hF 16, hF 17⟩, q1.2⟩
  have hK := hA.1
  have cK := cM hK
  have hG : gF hp 54 11 3 = some (mL G) := hF 3
  obtain ⟨a1, -⟩ := q4
  exact ⟨hF 20, hF 23, a1.1, a1.2, cK⟩
set_option maxHeartbeats 16000000 in
theorem m_takeL (d : Nat) {n : Nat} {G : BitVec 64} {z : Int} {c : Nat} {ks : List Int} {es : List Int} {ik : Bool} {kn : Nat} {kG : BitVec 64} {kz : Int} {kc : Nat} {kks : List Int} {kes : List Int} {tc : Nat} {tb : List Int} {sc : Nat} {tl : List Int} {so : List Int} {le : List Int} {it : Nat → List (BitVec 64)} {he : List Int} {th : List Int} {sl : List Int} {bo : List Int} {tr k0 : Nat} {g : BitVec 64} (hn : k0 ≤ 8) (hc : tc + k0 ≤ 200) (ht : tb.length = 200) : ∀ (m k : Nat) (h : HP), k + m = k0 → MI (h) n G z c ks es ik kn kG kz kc kks kes ((tc + k)) ((tkB g tc tb k)) sc tl so le it he th sl tr bo → ∃ h', MI (h') n G z c ks es ik kn kG kz kc kks kes ((tc + k0)) ((tkB g tc tb k0)) sc tl so le it he th sl tr bo ∧ Fr 54 83 h h' ∧ ∀ R : PO, AWh (d + 99) [] 210 R 18 [some (mR 54), some (mL g), none, some (mI (k0 : Int)), some (mI (k : Int))] [] h (0, 0) ↔ R (some (mI ((tc + k0 : Nat) : Int))) h' := by
  intro m
  induction m with
  | zero =>
    intro k h hk hX
    have e : k = k0 := by omega
    subst e
    obtain ⟨g20, g23, -, -, cK⟩ := MI_tp hX
    refine ⟨h, hX, Fr_refl h, fun R => ?_⟩
    rw [AWh_k, k_X11_feed_18]
    simp only [AW_k, AWk_1, x_iload_4, x_iload_3, x_icmp_ge, x_aload_0, x_aloads_0, x_getf, x_ret, x_ret_i, x_ret_z, x_ret_l, x_ret_c, k_X11_feed_18, k_X11_feed_19, k_X11_feed_20, k_X11_feed_42, k_X11_feed_43, k_X11_feed_44, oE_some, Int.reduceToNat, Nat.reduceAdd, true_and, and_true, List.length_cons, List.length_nil, Option.toList_some, Option.toList_none, List.cons_append, List.nil_append, Nat.reduceLeDiff, Nat.le_refl, wdS_nil, wdS_i, wdS_l, wdS_r, wdS_n, wdS_s, g23, Int.lt_irrefl, ↓reduceIte]
  | succ m ih =>
    intro k h hk hX
    obtain ⟨g20, g23, a65, l65, cK⟩ := MI_tp hX
    have bk : k < 2147483648 := by omega
    have bn : k0 < 2147483648 := by omega
    have ck : (k : Int) < (k0 : Int) := by omega
    have e8 : (8 : Int) * (k : Int) = ((8 * k : Nat) : Int) := by omega
    have b8 : 8 * k < 64 := by omega
    have j1 : tc + k < (tkB g tc tb k).length := by rw [tkB_len]; omega
    have L1 : (tkB g tc tb k).length < 2147483648 := by rw [tkB_len]; omega
    have bt : tc + k < 2147483648 := by omega
    have et : ((tc + k : Nat) : Int) + 1 = ((tc + (k + 1) : Nat) : Int) := by omega
    have ei : (k : Int) + 1 = ((k + 1 : Nat) : Int) := by omega
    have es : tkB g tc tb (k + 1) = (tkB g tc tb k).set (tc + k) (g >>> (8 * k) &&& 255#64).toInt := rfl
    have X1 := MI_otc (tc' := tc + (k + 1)) (MI_65 (m := tkB g tc tb (k + 1)) hX (by rw [tkB_len]; exact ht))
    obtain ⟨h', u1, u2, u3⟩ := ih (k + 1) _ (by omega) X1
    refine ⟨h', u1, Fr_trans (Fr_trans (Fr_pA (by omega) (by omega)) Fr_o54) u2, fun R => ?_⟩
    rw [← u3 R]
    have w23 : ∀ l, gF (pA h 65 l) 54 11 23 = some (mI ((tc + k : Nat) : Int)) := fun l => by rw [gF_pA, g23]
    rw [es]
    rw [AWh_k, k_X11_feed_18]
    simp only [AW_k, AWk_1, x_iload_4, x_iload_3, x_icmp_ge, x_aload_0, x_aloads_0, x_getf, x_lload_1, x_push_i, x_push_l, x_imul, x_lushr, x_land, x_l2i, x_iast, x_dup_i, x_dup_r, x_dup_q, x_iadd, x_putf_i, x_iinc_4, x_goto, unl_i, unl_l, unl_q, unl_r, unl_s, unl_n, k_X11_feed_18, k_X11_feed_19, k_X11_feed_20, k_X11_feed_21, k_X11_feed_22, k_X11_feed_23, k_X11_feed_24, k_X11_feed_25, k_X11_feed_26, k_X11_feed_27, k_X11_feed_28, k_X11_feed_29, k_X11_feed_30, k_X11_feed_31, k_X11_feed_32, k_X11_feed_33, k_X11_feed_34, k_X11_feed_35, k_X11_feed_36, k_X11_feed_37, k_X11_feed_38, k_X11_feed_39, k_X11_feed_40, k_X11_feed_41, oE_some, Int.reduceToNat, Nat.reduceAdd, true_and, and_true, List.length_cons, List.length_nil, Option.toList_some, Option.toList_none, List.cons_append, List.nil_append, Nat.reduceLeDiff, Nat.le_refl, wdS_nil, wdS_i, wdS_l, wdS_r, wdS_n, wdS_s, g20, g23, a65, w23, e8, sh_k b8, inB_n j1 L1, w32_tn bt, w32_nat bk, w32_nat bn, ck, et, ei, ↓reduceIte]
set_option maxHeartbeats 16000000 in
theorem x_feed_m (d : Nat) {hp : HP} {n : Nat} {G : BitVec 64} {z : Int} {c : Nat} {ks : List Int} {es : List Int} {ik : Bool} {kn : Nat} {kG : BitVec 64} {kz : Int} {kc : Nat} {kks : List Int} {kes : List Int} {tc : Nat} {tb : List Int} {sc : Nat} {tl : List Int} {so : List Int} {le : List Int} {it : Nat → List (BitVec 64)} {he : List Int} {th : List Int} {sl : List Int} {tr : Nat} {bo : List Int} {g : BitVec 64} {x : Int} (hX : MI (hp) n G z c ks es ik kn kG kz kc kks kes tc tb sc tl so le it he th sl tr bo) (hc : tc ≤ 200) (hx : w32 x = x) : ∃ h', MI (h') n G z c ks es ik kn kG kz kc kks kes (if fdT tc x = true then tc + x.toNat else tc) (if fdT tc x = true then tkB g tc tb x.toNat else tb) sc tl so le it he th sl tr bo ∧ Fr 54 83 hp h' ∧ ∀ R : PO, callD (d + 100) 210 [mR 54, mL g, mI x] hp R ↔ R (some (mI (if 1 ≤ x ∧ x ≤ 8 then (if (tc : Int) + x ≤ 200 then (tc : Int) + x else -2) else -1))) h' := by
  obtain ⟨g20, g23, a65, l65, cK⟩ := MI_tp hX
  by_cases hin : 1 ≤ x ∧ x ≤ 8
  · obtain ⟨k, ek⟩ : ∃ k : Nat, x = (k : Int) := ⟨x.toNat, by omega⟩
    subst ek
    have ci : inI (k : Int) 1 8 = true := decide_eq_true hin
    have hk8 : k ≤ 8 := by omega
    have es : (tc : Int) + (k : Int) = ((tc + k : Nat) : Int) := by omega
    have bs : tc + k < 2147483648 := by omega
    rw [if_pos hin, Int.toNat_natCast]
    by_cases hf : (tc : Int) + (k : Int) ≤ 200
    · have et : fdT tc (k : Int) = true := by unfold fdT; rw [decide_eq_true hin, decide_eq_true hf]; rfl
      have hf2 : tc + k ≤ 200 := by omega
      have n2 : ((200 : Int) < ((tc + k : Nat) : Int)) = False := eq_false (by omega)
      rw [if_pos hf, if_pos et, if_pos et]
      obtain ⟨h', u1, u2, u3⟩ := m_takeL d (g := g) hk8 hf2 l65 k 0 hp (Nat.zero_add _) hX
      refine ⟨h', u1, u2, fun R => ?_⟩
      rw [es, ← u3 R]
      rw [callD_k]; simp only [entL_i, entL_l, entL_q, entL_s, entL_nil, n_X11_feed, u_X11_feed, m_X11_feed, rep_1, List.cons_append, List.nil_append, List.append_nil, List.length_cons, List.length_nil, Nat.reduceAdd, true_and]
      simp only [AW_k, AWk_1, x_iload_3, x_i2l, x_push_i, x_push_l, x_call_3, x_if_ne, x_ret, x_ret_i, x_ret_z, x_ret_l, x_ret_c, x_aload_0, x_aloads_0, x_getf, x_iadd, x_icmp_le, x_istore_4, unl_i, unl_l, unl_q, unl_r, unl_s, unl_n, k_X11_feed_0, k_X11_feed_1, k_X11_feed_2, k_X11_feed_3, k_X11_feed_4, k_X11_feed_5, k_X11_feed_6, k_X11_feed_7, k_X11_feed_8, k_X11_feed_9, k_X11_feed_10, k_X11_feed_11, k_X11_feed_12, k_X11_feed_13, k_X11_feed_14, k_X11_feed_15, k_X11_feed_16, k_X11_feed_17, oE_some, Int.reduceToNat, Nat.reduceAdd, true_and, and_true, List.length_cons, List.length_nil, Option.toList_some, Option.toList_none, List.cons_append, List.nil_append, Nat.reduceLeDiff, Nat.le_refl, wdS_nil, wdS_i, wdS_l, wdS_r, wdS_n, wdS_s, m_in (d + 98), tI_id hx, q1_I, q8_I, ci, zI_t, w10, g23, es, w32_nat bs, show w32 200 = 200 from rfl, n2, ↓reduceIte]
      exact Iff.rfl
    · have et : fdT tc (k : Int) = false := by unfold fdT; rw [decide_eq_false hf, Bool.and_false]
      have n2 : ((200 : Int) < ((tc + k : Nat) : Int)) = True := eq_true (by omega)
      rw [if_neg hf, if_neg (by rw [et]; decide), if_neg (by rw [et]; decide)]
      refine ⟨hp, hX, Fr_refl hp, fun R => ?_⟩
      rw [callD_k]; simp only [entL_i, entL_l, entL_q, entL_s, entL_nil, n_X11_feed, u_X11_feed, m_X11_feed, rep_1, List.cons_append, List.nil_append, List.append_nil, List.length_cons, List.length_nil, Nat.reduceAdd, true_and]
      simp only [AW_k, AWk_1, x_iload_3, x_i2l, x_push_i, x_push_l, x_call_3, x_if_ne, x_ret, x_ret_i, x_ret_z, x_ret_l, x_ret_c, x_aload_0, x_aloads_0, x_getf, x_iadd, x_icmp_le, k_X11_feed_0, k_X11_feed_1, k_X11_feed_2, k_X11_feed_3, k_X11_feed_4, k_X11_feed_5, k_X11_feed_6, k_X11_feed_7, k_X11_feed_8, k_X11_feed_9, k_X11_feed_10, k_X11_feed_11, k_X11_feed_12, k_X11_feed_13, k_X11_feed_14, k_X11_feed_15, oE_some, Int.reduceToNat, Nat.reduceAdd, true_and, and_true, List.length_cons, List.length_nil, Option.toList_some, Option.toList_none, List.cons_append, List.nil_append, Nat.reduceLeDiff, Nat.le_refl, wdS_nil, wdS_i, wdS_l, wdS_r, wdS_n, wdS_s, m_in (d + 98), tI_id hx, q1_I, q8_I, ci, zI_t, w10, g23, es, w32_nat bs, show w32 200 = 200 from rfl, n2, ↓reduceIte]
  · have ci : inI x 1 8 = false := decide_eq_false hin
    have et : fdT tc x = false := by unfold fdT; rw [decide_eq_false hin, Bool.false_and]
    rw [if_neg hin, if_neg (by rw [et]; decide), if_neg (by rw [et]; decide)]
    refine ⟨hp, hX, Fr_refl hp, fun R => ?_⟩
    rw [callD_k]; simp only [entL_i, entL_l, entL_q, entL_s, entL_nil, n_X11_feed, u_X11_feed, m_X11_feed, rep_1, List.cons_append, List.nil_append, List.append_nil, List.length_cons, List.length_nil, Nat.reduceAdd, true_and]
    simp only [AW_k, AWk_1, x_iload_3, x_i2l, x_push_i, x_push_l, x_call_3, x_if_ne, x_ret, x_ret_i, x_ret_z, x_ret_l, x_ret_c, k_X11_feed_0, k_X11_feed_1, k_X11_feed_2, k_X11_feed_3, k_X11_feed_4, k_X11_feed_5, k_X11_feed_6, k_X11_feed_7, oE_some, Int.reduceToNat, Nat.reduceAdd, true_and, and_true, List.length_cons, List.length_nil, Option.toList_some, Option.toList_none, List.cons_append, List.nil_append, Nat.reduceLeDiff, Nat.le_refl, wdS_nil, wdS_i, wdS_l, wdS_r, wdS_n, wdS_s, m_in (d + 98), tI_id hx, q1_I, q8_I, ci, zI_f, w00, ↓reduceIte]
