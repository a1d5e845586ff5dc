/-! ===== the reference's apart ===== -/
theorem BW_of {hp : HP} {n : Nat} {G : BitVec 64} {z : Int} {c : Nat} {ks : List Int} {es : List Int} {ik : Bool} {kn : Nat} {kG : BitVec 64} {kz : Int} {kc : Nat} {kks : List Int} {kes : List Int} {tc : Nat} {tb : List Int} {sc : Nat} {tl : List Int} {so : List Int} {le : List Int} {it : Nat → List (BitVec 64)} {he : List Int} {th : List Int} {sl : List Int} {tr : Nat} {bo : List Int} (hX : MI (hp) n G z c ks es ik kn kG kz kc kks kes tc tb sc tl so le it he th sl tr bo) : ∃ li st fe qu, BW hp n G li st fe qu := by
  have hA0 := MA_of hX
  obtain ⟨⟨u1, u2, u3⟩, kN, kZ, kM, kGm, l5, l6, qk, q0, q1, q2, q3, q4, q5, q6, q7, q8, q9⟩ := hX
  obtain ⟨fr_, to_, co_, op_, wr_, ki_, nu_, mm_, pa_, hF⟩ := YO_F q0
  have hA : MA hp n := ⟨⟨⟨u2, u3⟩, hF 0, hF 18, hF 19, q1.1.1, q1.1.2⟩, ⟨hF 13, hF 14, hF 15, hF 16, hF 17⟩, q1.2⟩
  have hK := hA.1
  have cK := cM hK
  have hG : gF hp 54 11 3 = some (mL G) := hF 3
  obtain ⟨li, fa, fe, qu, ls, il, ⟨c1, c2, c3, c4, c5, c6⟩, n1, n2, n3, n4, n5, n6⟩ := q5
  exact ⟨li, fa, fe, qu, hA0, ⟨hF 3, hF 29, c1, n1⟩, ⟨hF 30, hF 31, hF 32⟩, ⟨c2, c3, c4⟩, n2, n3, n4⟩
theorem MI_BW {hp h : HP} {n : Nat} {G : BitVec 64} {z : Int} {c : Nat} {ks : List Int} {es : List Int} {ik : Bool} {kn : Nat} {kG : BitVec 64} {kz : Int} {kc : Nat} {kks : List Int} {kes : List Int} {tc : Nat} {tb : List Int} {sc : Nat} {tl : List Int} {so : List Int} {le : List Int} {it : Nat → List (BitVec 64)} {he : List Int} {th : List Int} {sl : List Int} {tr : Nat} {bo : List Int} {li st fe qu : List Int} (hX : MI (hp) n G z c ks es ik kn kG kz kc kks kes tc tb sc tl so le it he th sl tr bo) (f : Fr 68 72 hp h) (w : BW h n G li st fe qu) : MI (h) n G z c ks es ik kn kG kz kc kks kes tc tb sc tl so le it he th sl tr bo := by
  have hX0 := hX
  obtain ⟨⟨u1, u2, u3⟩, kN, kZ, kM, kGm, l5, l6, qk, q0, q1, q2, q3, q4, q5, q6, q7, q8, q9⟩ := hX
  obtain ⟨fr_, to_, co_, op_, wr_, ki_, nu_, mm_, pa_, hF⟩ := YO_F q0
  have hA : MA hp n := ⟨⟨⟨u2, u3⟩, hF 0, hF 18, hF 19, q1.1.1, q1.1.2⟩, ⟨hF 13, hF 14, hF 15, hF 16, hF 17⟩, q1.2⟩
  have hK := hA.1
  have cK := cM hK
  have hG : gF hp 54 11 3 = some (mL G) := hF 3
  obtain ⟨li', fa', fe', qu', ls, il, ⟨c1, c2, c3, c4, c5, c6⟩, n1, n2, n3, n4, n5, n6⟩ := q5
  obtain ⟨a, ⟨b1, b2, b3, b4⟩, ⟨x1, x2, x3⟩, ⟨d1, d2, d3⟩, r1, r2, r3⟩ := w
  exact MI_W hX0 (Fr_mono f (by omega) (by omega)) ⟨li, st, fe, qu, ls, il, ⟨b3, d1, d2, d3, by rw [gA_Fr f (by omega), c5], by rw [gB_Fr f (by omega), c6]⟩, b4, r1, r2, r3, n5, n6⟩
set_option maxHeartbeats 16000000 in
theorem m_apartOf (d : Nat) {hp : HP} {n i j : Nat} {G : BitVec 64} {li st fe qu : List Int} (w : BW hp n G li st fe qu) (h5 : n ≤ 5) (hG : clo n G) (hi : i < FC n) (hj : j < FC n) : ∃ h' li' st' fe' qu', BW h' n G li' st' fe' qu' ∧ Fr 68 72 hp h' ∧ ∀ R : PO, callD (d + 7) 240 [mR 54, mI ((num n (lst n G i) : Nat) : Int), mI ((num n (lst n G j) : Nat) : Int)] hp R ↔ R (some (mI (apt n G i j))) h' := by
  have h1 := w.1.1.1.1
  have h6 := w.1.1.1.2
  have b1 := FC_5 h5
  have hl := lst_ok (G := G) h1 h6 hi
  have ht := lst_ok (G := G) h1 h6 hj
  have sl : lst n G i < 120 := by omega
  obtain ⟨h1', wa, fa, ba⟩ := m_begins (d + 5) w
  have w1 := BW_69 (l := (List.replicate 120 (-1 : Int)).set (lst n G i) 0) wa (by rw [List.length_set, List.length_replicate])
  have n3 := w1.2.2.2.2.2.2
  have w2 := BW_71 (l := qu.set 0 ((num n (lst n G i) : Nat) : Int)) w1 (by rw [List.length_set]; exact n3)
  have hC : bClo n G 0 ((List.replicate 120 (-1 : Int)).set (lst n G i) 0) [lst n G i] := by
    refine ⟨?_, ?_, fun j hj => absurd hj (Nat.not_lt_zero j), Nat.zero_lt_one⟩
    · intro y hy h0
      rw [getD_set (by rw [List.length_replicate]; exact sl)] at h0
      by_cases e : lst n G i = y
      · rw [e]; exact List.mem_cons_self ..
      · rw [if_neg e, List.getD_eq_getElem?_getD, List.getElem?_replicate, if_pos hy] at h0
        exact absurd h0 (by decide)
    · intro y hy
      rw [List.mem_singleton] at hy
      rw [hy]
      exact ⟨hl, lst_isL h1 h6 hi⟩
  obtain ⟨h', li', st', qu', u1, u2, u3⟩ := m_apLoop d h1 h5 hG ht (lst_isL h1 h6 hj) ((num n (lst n G i) : Nat) : Int) 121 0 li _ _ [lst n G i] _ none none none (by omega) w2 (by
    intro k hk
    have : k = 0 := by simpa using hk
    subst this
    rw [getD_set (by omega), if_pos rfl]; rfl) (bInv_0 sl) hC (Nat.zero_le _)
  refine ⟨h', li', st', _, qu', u1, Fr_trans (Fr_trans (Fr_trans fa (Fr_pA (by omega) (by omega))) (Fr_pA (by omega) (by omega))) u2, fun R => ?_⟩
  refine Iff.trans ?_ (u3 R)
  have i1 : inB ((lst n G i : Nat) : Int) (List.replicate 120 (-1 : Int)).length := by rw [List.length_replicate]; exact inB_n sl (by decide)
  have i2 : inB 0 qu.length := by rw [n3]; exact inB_n (k := 0) (by decide) (by decide)
  have rk : ∀ R : PO, callD (d + 6) 169 [mR 54, mI ((num n (lst n G i) : Nat) : Int)] h1' R ↔ R (some (mI ((lst n G i : Nat) : Int))) h1' := fun R => m_rank (d + 4) wa.1.1 hl R
  have bl : lst n G i < 2147483648 := by omega
  rw [callD_k]; simp only [entL_i, entL_l, entL_q, entL_s, entL_nil, n_X11_apartOf, u_X11_apartOf, m_X11_apartOf, rep_5, List.cons_append, List.nil_append, List.append_nil, List.length_cons, List.length_nil, Nat.reduceAdd, true_and]
  simp only [AW_k, AWk_1, x_aload_0, x_aloads_0, x_callv_1, x_getf, x_iload_1, x_callv_2, x_push_i, x_push_l, x_iast, x_istore_3, x_istore_4, unl_i, unl_l, unl_q, unl_r, unl_s, unl_n, k_X11_apartOf_0, k_X11_apartOf_1, k_X11_apartOf_2, k_X11_apartOf_3, k_X11_apartOf_4, k_X11_apartOf_5, k_X11_apartOf_6, k_X11_apartOf_7, k_X11_apartOf_8, k_X11_apartOf_9, k_X11_apartOf_10, k_X11_apartOf_11, k_X11_apartOf_12, k_X11_apartOf_13, k_X11_apartOf_14, k_X11_apartOf_15, k_X11_apartOf_16, k_X11_apartOf_17, k_X11_apartOf_18, oE_some, Int.reduceToNat, Nat.reduceAdd, true_and, and_true, List.length_cons, List.length_nil, Option.toList_some, Option.toList_none, List.cons_append, List.nil_append, Nat.reduceLeDiff, Nat.le_refl, wdS_nil, wdS_i, wdS_l, wdS_r, wdS_n, wdS_s, cM w.1.1, ba, cM wa.1.1, wa.2.2.1.1, wa.2.2.2.1.1, rk, i1, w1.2.2.1.2.2, w1.2.2.2.1.2.2, i2, w32_nat bl, Int.toNat_natCast, show w32 0 = 0 from rfl, Int.toNat_zero]
  all_goals exact Iff.rfl
set_option maxHeartbeats 16000000 in
theorem x_apart_m (d : Nat) {hp : HP} {n : Nat} {G : BitVec 64} {z : Int} {c : Nat} {ks : List Int} {es : List Int} {ik : Bool} {kn : Nat} {kG : BitVec 64} {kz : Int} {kc : Nat} {kks : List Int} {kes : List Int} {tc : Nat} {tb : List Int} {sc : Nat} {tl : List Int} {so : List Int} {le : List Int} {it : Nat → List (BitVec 64)} {he : List Int} {th : List Int} {sl : List Int} {tr : Nat} {bo : List Int} {x y : Int} (hX : MI (hp) n G z c ks es ik kn kG kz kc kks kes tc tb sc tl so le it he th sl tr bo) (hx : w32 x = x) (hy : w32 y = y) (hC : clo n G) : ∃ h', MI (h') n G z c ks es ik kn kG kz kc kks kes tc tb sc tl so le it he th sl tr bo ∧ Fr 54 83 hp h' ∧ ∀ R : PO, callD (d + 100) 241 [mR 54, mI x, mI y] hp R ↔ R (some (mI (an2 n x y (fun i j => if n ≤ 5 then apt n G i j else -4)))) h' := by
  have hX0 := hX
  obtain ⟨⟨u1, u2, u3⟩, kN, kZ, kM, kGm, l5, l6, qk, q0, q1, q2, q3, q4, q5, q6, q7, q8, q9⟩ := hX
  obtain ⟨fr_, to_, co_, op_, wr_, ki_, nu_, mm_, pa_, hF⟩ := YO_F q0
  have hA : MA hp n := ⟨⟨⟨u2, u3⟩, hF 0, hF 18, hF 19, q1.1.1, q1.1.2⟩, ⟨hF 13, hF 14, hF 15, hF 16, hF 17⟩, q1.2⟩
  have hK := hA.1
  have cK := cM hK
  have hG : gF hp 54 11 3 = some (mL G) := hF 3
  have h1 := u2
  have h6 := u3
  cases ex : ixo n x with
  | none =>
    refine ⟨hp, hX0, Fr_refl hp, fun R => ?_⟩
    rw [an2_n ex]
    rw [callD_k]; simp only [entL_i, entL_l, entL_q, entL_s, entL_nil, n_X11_apart, u_X11_apart, m_X11_apart, rep_0, List.cons_append, List.nil_append, List.append_nil, List.length_cons, List.length_nil, Nat.reduceAdd, true_and]
    simp only [AW_k, AWk_1, x_aload_0, x_aloads_0, x_iload_1, x_iload_2, x_callv_3, x_if_ne, x_push_i, x_push_l, x_goto, x_getf, x_icmp_ne, x_callv_2, x_ret, x_ret_i, x_ret_z, x_ret_l, x_ret_c, k_X11_apart_0, k_X11_apart_1, k_X11_apart_2, k_X11_apart_3, k_X11_apart_4, k_X11_apart_5, k_X11_apart_6, k_X11_apart_7, k_X11_apart_8, k_X11_apart_9, k_X11_apart_10, k_X11_apart_11, k_X11_apart_12, k_X11_apart_13, k_X11_apart_14, k_X11_apart_15, k_X11_apart_16, k_X11_apart_17, k_X11_apart_18, k_X11_apart_19, k_X11_apart_20, k_X11_apart_21, oE_some, Int.reduceToNat, Nat.reduceAdd, true_and, and_true, List.length_cons, List.length_nil, Option.toList_some, Option.toList_none, List.cons_append, List.nil_append, Nat.reduceLeDiff, Nat.le_refl, wdS_nil, wdS_i, wdS_l, wdS_r, wdS_n, wdS_s, cK, m_areRows (d + 96) hK hx hy, areN ex, zI_f, w00, ↓reduceIte]
  | some i =>
    have hi := ixo_lt ex
    have exn := ixo_num ex
    cases ey : ixo n y with
    | none =>
      refine ⟨hp, hX0, Fr_refl hp, fun R => ?_⟩
      rw [an2_m ex ey]
      rw [callD_k]; simp only [entL_i, entL_l, entL_q, entL_s, entL_nil, n_X11_apart, u_X11_apart, m_X11_apart, rep_0, List.cons_append, List.nil_append, List.append_nil, List.length_cons, List.length_nil, Nat.reduceAdd, true_and]
      simp only [AW_k, AWk_1, x_aload_0, x_aloads_0, x_iload_1, x_iload_2, x_callv_3, x_if_ne, x_push_i, x_push_l, x_goto, x_getf, x_icmp_ne, x_callv_2, x_ret, x_ret_i, x_ret_z, x_ret_l, x_ret_c, k_X11_apart_0, k_X11_apart_1, k_X11_apart_2, k_X11_apart_3, k_X11_apart_4, k_X11_apart_5, k_X11_apart_6, k_X11_apart_7, k_X11_apart_8, k_X11_apart_9, k_X11_apart_10, k_X11_apart_11, k_X11_apart_12, k_X11_apart_13, k_X11_apart_14, k_X11_apart_15, k_X11_apart_16, k_X11_apart_17, k_X11_apart_18, k_X11_apart_19, k_X11_apart_20, k_X11_apart_21, oE_some, Int.reduceToNat, Nat.reduceAdd, true_and, and_true, List.length_cons, List.length_nil, Option.toList_some, Option.toList_none, List.cons_append, List.nil_append, Nat.reduceLeDiff, Nat.le_refl, wdS_nil, wdS_i, wdS_l, wdS_r, wdS_n, wdS_s, cK, m_areRows (d + 96) hK hx hy, areM ex ey, zI_f, w00, ↓reduceIte]
    | some j =>
      have hj := ixo_lt ey
      have eyn := ixo_num ey
      have g1 := hK.2.1
      have bn : n < 2147483648 := by omega
      rw [an2_s ex ey]
      by_cases h5 : n ≤ 5
      · rw [if_pos h5]
        have c6 : ((n : Int) = 6) = False := eq_false (by omega)
        obtain ⟨li, st, fe, qu, w⟩ := BW_of hX0
        obtain ⟨h', li', st', fe', qu', v1, v2, v3⟩ := m_apartOf (d + 92) w h5 hC hi hj
        refine ⟨h', MI_BW hX0 v2 v1, Fr_mono v2 (by omega) (by omega), fun R => ?_⟩
        have ml := fun R => m_leastOf (d + 94) hA hG hi R
        have mk := fun R => m_leastOf (d + 94) hA hG hj R
        rw [exn] at ml
        rw [eyn] at mk
        rw [callD_k]; simp only [entL_i, entL_l, entL_q, entL_s, entL_nil, n_X11_apart, u_X11_apart, m_X11_apart, rep_0, List.cons_append, List.nil_append, List.append_nil, List.length_cons, List.length_nil, Nat.reduceAdd, true_and]
        simp only [AW_k, AWk_1, x_aload_0, x_aloads_0, x_iload_1, x_iload_2, x_callv_3, x_if_ne, x_push_i, x_push_l, x_goto, x_getf, x_icmp_ne, x_callv_2, x_ret, x_ret_i, x_ret_z, x_ret_l, x_ret_c, k_X11_apart_0, k_X11_apart_1, k_X11_apart_2, k_X11_apart_3, k_X11_apart_4, k_X11_apart_5, k_X11_apart_6, k_X11_apart_7, k_X11_apart_8, k_X11_apart_9, k_X11_apart_10, k_X11_apart_11, k_X11_apart_12, k_X11_apart_13, k_X11_apart_14, k_X11_apart_15, k_X11_apart_16, k_X11_apart_17, k_X11_apart_18, k_X11_apart_19, k_X11_apart_20, k_X11_apart_21, oE_some, Int.reduceToNat, Nat.reduceAdd, true_and, and_true, List.length_cons, List.length_nil, Option.toList_some, Option.toList_none, List.cons_append, List.nil_append, Nat.reduceLeDiff, Nat.le_refl, wdS_nil, wdS_i, wdS_l, wdS_r, wdS_n, wdS_s, cK, m_areRows (d + 96) hK hx hy, areT ex ey, zI_t, w10, g1, w32_nat bn, show w32 6 = 6 from rfl, c6, ml, mk, v3, ↓reduceIte]
      · rw [if_neg h5]
        have c6 : ((n : Int) = 6) = True := eq_true (by omega)
        refine ⟨hp, hX0, Fr_refl hp, fun R => ?_⟩
        rw [callD_k]; simp only [entL_i, entL_l, entL_q, entL_s, entL_nil, n_X11_apart, u_X11_apart, m_X11_apart, rep_0, List.cons_append, List.nil_append, List.append_nil, List.length_cons, List.length_nil, Nat.reduceAdd, true_and]
        simp only [AW_k, AWk_1, x_aload_0, x_aloads_0, x_iload_1, x_iload_2, x_callv_3, x_if_ne, x_push_i, x_push_l, x_goto, x_getf, x_icmp_ne, x_callv_2, x_ret, x_ret_i, x_ret_z, x_ret_l, x_ret_c, k_X11_apart_0, k_X11_apart_1, k_X11_apart_2, k_X11_apart_3, k_X11_apart_4, k_X11_apart_5, k_X11_apart_6, k_X11_apart_7, k_X11_apart_8, k_X11_apart_9, k_X11_apart_10, k_X11_apart_11, k_X11_apart_12, k_X11_apart_13, k_X11_apart_14, k_X11_apart_15, k_X11_apart_16, k_X11_apart_17, k_X11_apart_18, k_X11_apart_19, k_X11_apart_20, k_X11_apart_21, oE_some, Int.reduceToNat, Nat.reduceAdd, true_and, and_true, List.length_cons, List.length_nil, Option.toList_some, Option.toList_none, List.cons_append, List.nil_append, Nat.reduceLeDiff, Nat.le_refl, wdS_nil, wdS_i, wdS_l, wdS_r, wdS_n, wdS_s, cK, m_areRows (d + 96) hK hx hy, areT ex ey, zI_t, w10, g1, w32_nat bn, show w32 6 = 6 from rfl, c6, ↓reduceIte]
