/-! ===== the reference's taken ===== -/
theorem m_isUnder (d : Nat) {hp : HP} {k a : Nat} (hk : k < 6) (ha : a < 6) (R : PO) : callD (d + 1) 201 [mI (k : Int), mI (a : Int)] hp R ↔ R (some (mI (zI (isU k a)))) hp := by
  have e0 : (((a : Nat) : Int) = 0) = (a = 0) := propext (by omega)
  have ek : (((k : Nat) : Int) = ((a : Nat) : Int)) = (k = a) := propext (by omega)
  have e1 : (((a : Nat) : Int) = 1) = (a = 1) := propext (by omega)
  have e3 : (((k : Nat) : Int) = 3) = (k = 3) := propext (by omega)
  have e4 : (((k : Nat) : Int) = 4) = (k = 4) := propext (by omega)
  have e2 : (((a : Nat) : Int) = 2) = (a = 2) := propext (by omega)
  have e5 : (((k : Nat) : Int) = 5) = (k = 5) := propext (by omega)
  have bk : k < 2147483648 := by omega
  have ba : a < 2147483648 := by omega
  have key : isU k a = if a = 0 then true else if k = a then true else if a = 1 then (if k = 3 then true else if k = 4 then true else (if a = 2 then decide (k = 5) else false)) else if a = 2 then decide (k = 5) else false := by
    have : ∀ k, k < 6 → ∀ a, a < 6 → isU k a = if a = 0 then true else if k = a then true else if a = 1 then (if k = 3 then true else if k = 4 then true else (if a = 2 then decide (k = 5) else false)) else if a = 2 then decide (k = 5) else false := by decide +kernel
    exact this k hk a ha
  rw [key]
  rw [callD_k]; simp only [entL_i, entL_l, entL_q, entL_s, entL_nil, n_X11_isUnder, u_X11_isUnder, m_X11_isUnder, rep_0, List.cons_append, List.nil_append, List.append_nil, List.length_cons, List.length_nil, Nat.reduceAdd, true_and]
  simp only [AW_k, AWk_1, x_iload_1, x_if_eq, x_iload_0, x_icmp_eq, x_push_i, x_push_l, x_icmp_ne, x_goto, x_ret, x_ret_i, x_ret_z, x_ret_l, x_ret_c, k_X11_isUnder_0, k_X11_isUnder_1, k_X11_isUnder_2, k_X11_isUnder_3, k_X11_isUnder_4, k_X11_isUnder_5, k_X11_isUnder_6, k_X11_isUnder_7, k_X11_isUnder_8, k_X11_isUnder_9, k_X11_isUnder_10, k_X11_isUnder_11, k_X11_isUnder_12, k_X11_isUnder_13, k_X11_isUnder_14, k_X11_isUnder_15, k_X11_isUnder_16, k_X11_isUnder_17, k_X11_isUnder_18, k_X11_isUnder_19, k_X11_isUnder_20, k_X11_isUnder_21, k_X11_isUnder_22, k_X11_isUnder_23, oE_some, Int.reduceToNat, Nat.reduceAdd, true_and, and_true, List.length_cons, List.length_nil, Option.toList_some, Option.toList_none, List.cons_append, List.nil_append, Nat.reduceLeDiff, Nat.le_refl, wdS_nil, wdS_i, wdS_l, wdS_r, wdS_n, wdS_s, w32_nat bk, w32_nat ba, show w32 1 = 1 from rfl, show w32 2 = 2 from rfl, show w32 3 = 3 from rfl, show w32 4 = 4 from rfl, show w32 5 = 5 from rfl, e0, ek, e1, e2, e3, e4, e5]
  by_cases c0 : a = 0
  · simp only [if_pos c0, zI_t, or_true, true_and]
  · by_cases c1 : k = a
    · simp only [if_neg c0, if_pos c1, zI_t, or_true, true_and]
    · by_cases c2 : a = 1
      · have c5 : ¬ a = 2 := by omega
        by_cases c3 : k = 3
        · simp only [if_neg c0, if_neg c1, if_pos c2, if_pos c3, zI_t, or_true, true_and]
        · by_cases c4 : k = 4
          · simp only [if_neg c0, if_neg c1, if_pos c2, if_neg c3, if_pos c4, zI_t, or_true, true_and]
          · simp only [if_neg c0, if_neg c1, if_pos c2, if_neg c3, if_neg c4, if_neg c5, zI_f, true_or, true_and]
      · by_cases c5 : a = 2
        · by_cases c6 : k = 5
          · simp only [if_neg c0, if_neg c1, if_neg c2, if_pos c5, if_pos c6, decide_eq_true c6, zI_t, or_true, true_and]
          · simp only [if_neg c0, if_neg c1, if_neg c2, if_pos c5, if_neg c6, decide_eq_false c6, zI_f, true_or, true_and]
        · simp only [if_neg c0, if_neg c1, if_neg c2, if_neg c5, zI_f, true_or, true_and]
def rho (v : Int) : Int := if v = 0 then 2 else if v = 1 then 0 else 1
set_option maxHeartbeats 16000000 in
theorem m_heldBy (d : Nat) {hp : HP} {n : Nat} {G : BitVec 64} {z : Int} {c : Nat} {ks : List Int} {es : List Int} {ik : Bool} {kn : Nat} {kG : BitVec 64} {kz : Int} {kc : Nat} {kks : List Int} {kes : List Int} {tc : Nat} {tb : List Int} {sc : Nat} {tl : List Int} {so : List Int} {le : List Int} {it : Nat → List (BitVec 64)} {he : List Int} {th : List Int} {sl : List Int} {tr : Nat} {bo : List Int} {s : Nat} (hX : MI (hp) n G z c ks es ik kn kG kz kc kks kes tc tb sc tl so le it he th sl tr bo) (hV : slOK he th sl) (hM : c ≤ 6) (hs : s < 4) (R : PO) : callD (d + 3) 270 [mR 54, mI (s : Int)] hp R ↔ R (some (mI (rho (hoV c he th s)))) hp := by
  obtain ⟨⟨u1, u2, u3⟩, kN, kZ, kM, kGm, l5, l6, qk, q0, q1, q2, q3, q4, q5, q6, q7, q8, q9⟩ := hX
  obtain ⟨fr_, to_, co_, op_, wr_, ki_, nu_, mm_, pa_, hF⟩ := YO_F q0
  have hA : MA hp n := ⟨⟨⟨u2, u3⟩, hF 0, hF 18, hF 19, q1.1.1, q1.1.2⟩, ⟨hF 13, hF 14, hF 15, hF 16, hF 17⟩, q1.2⟩
  have hK := hA.1
  have cK := cM hK
  have hG : gF hp 54 11 3 = some (mL G) := hF 3
  have g2 : gF hp 54 11 2 = some (mI (c : Int)) := hF 2
  have g41 : gF hp 54 11 41 = some (mR 79) := hF 41
  have g42 : gF hp 54 11 42 = some (mR 80) := hF 42
  obtain ⟨v1, v2, v3, ⟨a79, a80, a81⟩, ⟨n1, n2, n3⟩, H⟩ := q8
  obtain ⟨H0, H1, H2⟩ := H s hs
  obtain ⟨m, hv⟩ := hV
  obtain ⟨t1, t2, t3, t4, t5⟩ := hv s hs
  have bs : s < 2147483648 := by omega
  have i79 : inB (s : Int) v1.length := by rw [n1]; exact inB_n hs (by decide)
  have i80 : inB (s : Int) v2.length := by rw [n2]; exact inB_n hs (by decide)
  have r1 : -2147483648 ≤ th.getD s 0 := by omega
  have r2 : th.getD s 0 < 2147483648 := by omega
  unfold hoV
  rcases t1 with t1 | t1 | t1
  · have x1 := H0 t1
    rw [t1]
    rw [callD_k]; simp only [entL_i, entL_l, entL_q, entL_s, entL_nil, n_X11_heldBy, u_X11_heldBy, m_X11_heldBy, rep_0, List.cons_append, List.nil_append, List.append_nil, List.length_cons, List.length_nil, Nat.reduceAdd, true_and]
    simp only [AW_k, AWk_1, x_aload_0, x_aloads_0, x_getf, x_iload_1, x_iald, x_ialds, x_if_ne, x_callv_2, x_push_i, x_push_l, x_goto, x_ret, x_ret_i, x_ret_z, x_ret_l, x_ret_c, k_X11_heldBy_0, k_X11_heldBy_1, k_X11_heldBy_2, k_X11_heldBy_3, k_X11_heldBy_4, k_X11_heldBy_5, k_X11_heldBy_6, k_X11_heldBy_7, k_X11_heldBy_8, k_X11_heldBy_9, k_X11_heldBy_10, k_X11_heldBy_11, k_X11_heldBy_12, k_X11_heldBy_13, k_X11_heldBy_14, k_X11_heldBy_15, k_X11_heldBy_16, k_X11_heldBy_17, k_X11_heldBy_18, oE_some, Int.reduceToNat, Nat.reduceAdd, true_and, and_true, List.length_cons, List.length_nil, Option.toList_some, Option.toList_none, List.cons_append, List.nil_append, Nat.reduceLeDiff, Nat.le_refl, wdS_nil, wdS_i, wdS_l, wdS_r, wdS_n, wdS_s, g41, a79, i79, w32_nat bs, Int.toNat_natCast, x1, show w32 2 = 2 from rfl, Int.reduceEq, ↓reduceIte]
    all_goals exact Iff.rfl
  · obtain ⟨x1, x2⟩ := H1 t1
    rw [t1, if_pos rfl]
    cases em : mkO c (th.getD s 0) with
    | none =>
      rw [callD_k]; simp only [entL_i, entL_l, entL_q, entL_s, entL_nil, n_X11_heldBy, u_X11_heldBy, m_X11_heldBy, rep_0, List.cons_append, List.nil_append, List.append_nil, List.length_cons, List.length_nil, Nat.reduceAdd, true_and]
      simp only [AW_k, AWk_1, x_aload_0, x_aloads_0, x_getf, x_iload_1, x_iald, x_ialds, x_if_ne, x_callv_2, x_push_i, x_push_l, x_goto, x_ret, x_ret_i, x_ret_z, x_ret_l, x_ret_c, k_X11_heldBy_0, k_X11_heldBy_1, k_X11_heldBy_2, k_X11_heldBy_3, k_X11_heldBy_4, k_X11_heldBy_5, k_X11_heldBy_6, k_X11_heldBy_7, k_X11_heldBy_8, k_X11_heldBy_9, k_X11_heldBy_10, k_X11_heldBy_11, k_X11_heldBy_12, k_X11_heldBy_13, k_X11_heldBy_14, k_X11_heldBy_15, k_X11_heldBy_16, k_X11_heldBy_17, k_X11_heldBy_18, oE_some, Int.reduceToNat, Nat.reduceAdd, true_and, and_true, List.length_cons, List.length_nil, Option.toList_some, Option.toList_none, List.cons_append, List.nil_append, Nat.reduceLeDiff, Nat.le_refl, wdS_nil, wdS_i, wdS_l, wdS_r, wdS_n, wdS_s, g41, a79, i79, w32_nat bs, Int.toNat_natCast, x1, w00, cK, g42, a80, i80, x2, mMk_n d g2 hM (w32_id r1 r2) em, ↓reduceIte]
      all_goals exact Iff.rfl
    | some i =>
      rw [callD_k]; simp only [entL_i, entL_l, entL_q, entL_s, entL_nil, n_X11_heldBy, u_X11_heldBy, m_X11_heldBy, rep_0, List.cons_append, List.nil_append, List.append_nil, List.length_cons, List.length_nil, Nat.reduceAdd, true_and]
      simp only [AW_k, AWk_1, x_aload_0, x_aloads_0, x_getf, x_iload_1, x_iald, x_ialds, x_if_ne, x_callv_2, x_push_i, x_push_l, x_goto, x_ret, x_ret_i, x_ret_z, x_ret_l, x_ret_c, k_X11_heldBy_0, k_X11_heldBy_1, k_X11_heldBy_2, k_X11_heldBy_3, k_X11_heldBy_4, k_X11_heldBy_5, k_X11_heldBy_6, k_X11_heldBy_7, k_X11_heldBy_8, k_X11_heldBy_9, k_X11_heldBy_10, k_X11_heldBy_11, k_X11_heldBy_12, k_X11_heldBy_13, k_X11_heldBy_14, k_X11_heldBy_15, k_X11_heldBy_16, k_X11_heldBy_17, k_X11_heldBy_18, oE_some, Int.reduceToNat, Nat.reduceAdd, true_and, and_true, List.length_cons, List.length_nil, Option.toList_some, Option.toList_none, List.cons_append, List.nil_append, Nat.reduceLeDiff, Nat.le_refl, wdS_nil, wdS_i, wdS_l, wdS_r, wdS_n, wdS_s, g41, a79, i79, w32_nat bs, Int.toNat_natCast, x1, w00, w10, cK, g42, a80, i80, x2, mMk_s d g2 hM (w32_id r1 r2) em, ↓reduceIte]
      all_goals exact Iff.rfl
  · obtain ⟨x1, x2, x3⟩ := H2 t1
    rw [t1]
    rw [callD_k]; simp only [entL_i, entL_l, entL_q, entL_s, entL_nil, n_X11_heldBy, u_X11_heldBy, m_X11_heldBy, rep_0, List.cons_append, List.nil_append, List.append_nil, List.length_cons, List.length_nil, Nat.reduceAdd, true_and]
    simp only [AW_k, AWk_1, x_aload_0, x_aloads_0, x_getf, x_iload_1, x_iald, x_ialds, x_if_ne, x_callv_2, x_push_i, x_push_l, x_goto, x_ret, x_ret_i, x_ret_z, x_ret_l, x_ret_c, k_X11_heldBy_0, k_X11_heldBy_1, k_X11_heldBy_2, k_X11_heldBy_3, k_X11_heldBy_4, k_X11_heldBy_5, k_X11_heldBy_6, k_X11_heldBy_7, k_X11_heldBy_8, k_X11_heldBy_9, k_X11_heldBy_10, k_X11_heldBy_11, k_X11_heldBy_12, k_X11_heldBy_13, k_X11_heldBy_14, k_X11_heldBy_15, k_X11_heldBy_16, k_X11_heldBy_17, k_X11_heldBy_18, oE_some, Int.reduceToNat, Nat.reduceAdd, true_and, and_true, List.length_cons, List.length_nil, Option.toList_some, Option.toList_none, List.cons_append, List.nil_append, Nat.reduceLeDiff, Nat.le_refl, wdS_nil, wdS_i, wdS_l, wdS_r, wdS_n, wdS_s, g41, a79, i79, w32_nat bs, Int.toNat_natCast, x1, w10, ↓reduceIte]
    all_goals exact Iff.rfl
