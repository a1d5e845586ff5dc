/-! ===== the reference's acts ===== -/
def ZF (hp : HP) (k nu m : Int) (b : Bool) : Prop := gF hp 54 11 46 = some (mI k) ∧ gF hp 54 11 47 = some (mI nu) ∧ gF hp 54 11 48 = some (mI m) ∧ gF hp 54 11 49 = some (mI (zI b))
def ZS (hp : HP) (k nu m : Int) (n : Nat) (G : BitVec 64) (z : Int) (c : Nat) (ks : List Int) (es : List Int) (ik : Bool) (kn : Nat) (kG : BitVec 64) (kz : Int) (kc : Nat) (kks : List Int) (kes : List Int) (tc : Nat) (tb : List Int) (sc : Nat) (tl : List Int) (so : List Int) (le : List Int) (it : Nat → List (BitVec 64)) (he : List Int) (th : List Int) (sl : List Int) (s : ASt) : Prop := MI (hp) n G z c ks es ik kn kG kz kc kks kes tc tb sc tl so le it he th sl (s.1) (s.2.1) ∧ ZF hp k nu m s.2.2 ∧ s.1 ≤ 30
theorem ZS_C {hp : HP} {n : Nat} {G : BitVec 64} {z : Int} {c : Nat} {ks : List Int} {es : List Int} {ik : Bool} {kn : Nat} {kG : BitVec 64} {kz : Int} {kc : Nat} {kks : List Int} {kes : List Int} {tc : Nat} {tb : List Int} {sc : Nat} {tl : List Int} {so : List Int} {le : List Int} {it : Nat → List (BitVec 64)} {he : List Int} {th : List Int} {sl : List Int} {k nu m : Int} {s : ASt} (h : ZS hp k nu m n G z c ks es ik kn kG kz kc kks kes tc tb sc tl so le it he th sl (s)) : gC hp 54 = some 11 := gC_of h.2.1.1
set_option maxHeartbeats 8000000 in
theorem m_ran (d : Nat) {hp : HP} {n : Nat} {G : BitVec 64} {z : Int} {c : Nat} {ks : List Int} {es : List Int} {ik : Bool} {kn : Nat} {kG : BitVec 64} {kz : Int} {kc : Nat} {kks : List Int} {kes : List Int} {tc : Nat} {tb : List Int} {sc : Nat} {tl : List Int} {so : List Int} {le : List Int} {it : Nat → List (BitVec 64)} {he : List Int} {th : List Int} {sl : List Int} {k nu m : Int} (b : Nat) {s : ASt} (hS : ZS hp k nu m n G z c ks es ik kn kG kz kc kks kes tc tb sc tl so le it he th sl (s)) : ∃ h', ZS h' k nu m n G z c ks es ik kn kG kz kc kks kes tc tb sc tl so le it he th sl (beg b s) ∧ Fr 54 83 hp h' ∧ ∀ R : PO, callD (d + 1) 272 [mR 54, mI (b : Int)] hp R ↔ R none h' := by
  obtain ⟨tr, bo, pt⟩ := s
  obtain ⟨hX, ⟨z46, z47, z48, z49⟩, ht⟩ := hS
  have hX : MI (hp) n G z c ks es ik kn kG kz kc kks kes tc tb sc tl so le it he th sl tr bo := hX
  have ht : tr ≤ 30 := ht
  have hX0 := hX
  obtain ⟨⟨u1, u2, u3⟩, kN, kZ, kM, kGm, l5, l6, qk, q0, q1, q2, q3, q4, q5, q6, q7, q8, q9⟩ := hX
  obtain ⟨fr_, to_, co_, op_, wr_, ki_, nu_, mm_, pa_, hF⟩ := YO_F q0
  have hA : MA hp n := ⟨⟨⟨u2, u3⟩, hF 0, hF 18, hF 19, q1.1.1, q1.1.2⟩, ⟨hF 13, hF 14, hF 15, hF 16, hF 17⟩, q1.2⟩
  have hK := hA.1
  have cK := cM hK
  have hG : gF hp 54 11 3 = some (mL G) := hF 3
  have g44 : gF hp 54 11 44 = some (mR 82) := hF 44
  have g45 : gF hp 54 11 45 = some (mI (tr : Int)) := hF 45
  obtain ⟨a82, l30⟩ := q9
  have bt : tr < 2147483648 := by omega
  by_cases ct : tr < 30
  · have eb : beg b (tr, bo, pt) = (tr + 1, bo.set tr (b : Int), pt) := if_pos ct
    rw [eb]
    have c0 : ((tr : Int) < 30) = True := eq_true (by omega)
    have ib : inB (tr : Int) bo.length := by rw [l30]; exact inB_n ct (by decide)
    have ek : (tr : Int) + 1 = ((tr + 1 : Nat) : Int) := by omega
    have Y1 : MI ((pA hp 82 (bo.set tr (b : Int)))) n G z c ks es ik kn kG kz kc kks kes tc tb sc tl so le it he th sl tr (bo.set tr (b : Int)) := MI_A hX0 (Fr_pA (by decide) (by decide)) ⟨gA_pA_same a82, by rw [List.length_set]; exact l30⟩
    have Y2 := MI_otr (tr' := tr + 1) Y1
    have f45 : ∀ l, gF (pA hp 82 l) 54 11 45 = some (mI (tr : Int)) := fun l => by rw [gF_pA, g45]
    refine ⟨_, ⟨Y2, ⟨?_, ?_, ?_, ?_⟩, ct⟩, Fr_trans (Fr_pA (by decide) (by decide)) Fr_o54, fun R => ?_⟩
    · rw [gF_pF (by omega), gF_pA, z46]
    · rw [gF_pF (by omega), gF_pA, z47]
    · rw [gF_pF (by omega), gF_pA, z48]
    · rw [gF_pF (by omega), gF_pA, z49]
    · rw [callD_k]; simp only [entL_i, entL_l, entL_q, entL_s, entL_nil, n_X11_ran, u_X11_ran, m_X11_ran, rep_0, List.cons_append, List.nil_append, List.append_nil, List.length_cons, List.length_nil, Nat.reduceAdd, true_and]
      simp only [AW_k, AWk_1, x_aload_0, x_aloads_0, x_getf, x_push_i, x_push_l, x_icmp_ge, x_iload_1, x_iast, x_dup_i, x_dup_r, x_dup_q, x_iadd, x_putf_i, x_ret, x_ret_i, x_ret_z, x_ret_l, x_ret_c, k_X11_ran_0, k_X11_ran_1, k_X11_ran_2, k_X11_ran_3, k_X11_ran_4, k_X11_ran_5, k_X11_ran_6, k_X11_ran_7, k_X11_ran_8, k_X11_ran_9, k_X11_ran_10, k_X11_ran_11, k_X11_ran_12, k_X11_ran_13, k_X11_ran_14, k_X11_ran_15, k_X11_ran_16, oE_some, Int.reduceToNat, Nat.reduceAdd, true_and, and_true, List.length_cons, List.length_nil, Option.toList_some, Option.toList_none, List.cons_append, List.nil_append, Nat.reduceLeDiff, Nat.le_refl, wdS_nil, wdS_i, wdS_l, wdS_r, wdS_n, wdS_s, g45, g44, a82, w32_nat bt, c0, ib, show w32 30 = 30 from rfl, f45, ek, Int.toNat_natCast, ↓reduceIte]
  · have eb : beg b (tr, bo, pt) = (tr, bo, pt) := if_neg ct
    rw [eb]
    have c0 : ((tr : Int) < 30) = False := eq_false (by omega)
    refine ⟨hp, ⟨hX0, ⟨z46, z47, z48, z49⟩, ht⟩, Fr_refl hp, fun R => ?_⟩
    rw [callD_k]; simp only [entL_i, entL_l, entL_q, entL_s, entL_nil, n_X11_ran, u_X11_ran, m_X11_ran, rep_0, List.cons_append, List.nil_append, List.append_nil, List.length_cons, List.length_nil, Nat.reduceAdd, true_and]
    simp only [AW_k, AWk_1, x_aload_0, x_aloads_0, x_getf, x_push_i, x_push_l, x_icmp_ge, x_iload_1, x_iast, x_dup_i, x_dup_r, x_dup_q, x_iadd, x_putf_i, x_ret, x_ret_i, x_ret_z, x_ret_l, x_ret_c, k_X11_ran_0, k_X11_ran_1, k_X11_ran_2, k_X11_ran_3, k_X11_ran_4, k_X11_ran_5, k_X11_ran_6, k_X11_ran_7, k_X11_ran_8, k_X11_ran_9, k_X11_ran_10, k_X11_ran_11, k_X11_ran_12, k_X11_ran_13, k_X11_ran_14, k_X11_ran_15, k_X11_ran_16, oE_some, Int.reduceToNat, Nat.reduceAdd, true_and, and_true, List.length_cons, List.length_nil, Option.toList_some, Option.toList_none, List.cons_append, List.nil_append, Nat.reduceLeDiff, Nat.le_refl, wdS_nil, wdS_i, wdS_l, wdS_r, wdS_n, wdS_s, g45, w32_nat bt, c0, show w32 30 = 30 from rfl, ↓reduceIte]
theorem m_plainTurns (d : Nat) {hp : HP} {n : Nat} {G : BitVec 64} {z : Int} {c : Nat} {ks : List Int} {es : List Int} {ik : Bool} {kn : Nat} {kG : BitVec 64} {kz : Int} {kc : Nat} {kks : List Int} {kes : List Int} {tc : Nat} {tb : List Int} {sc : Nat} {tl : List Int} {so : List Int} {le : List Int} {it : Nat → List (BitVec 64)} {he : List Int} {th : List Int} {sl : List Int} {k nu m : Int} (x : Int) {s : ASt} (hS : ZS hp k nu m n G z c ks es ik kn kG kz kc kks kes tc tb sc tl so le it he th sl (s)) : ∃ h', ZS h' k nu m n G z c ks es ik kn kG kz kc kks kes tc tb sc tl so le it he th sl (begs [10] s) ∧ Fr 54 83 hp h' ∧ ∀ R : PO, callD (d + 2) 273 [mR 54, mI x] hp R ↔ R (some (mI (x * 5 + nu))) h' := by
  obtain ⟨h1, u1, u2, u3⟩ := m_ran d 10 hS
  have u3 : ∀ R : PO, callD (d + 1) 272 [mR 54, mI 10] hp R ↔ R none h1 := u3
  have n1 := u1.2.1.2.1
  refine ⟨h1, u1, u2, fun R => ?_⟩
  rw [callD_k]; simp only [entL_i, entL_l, entL_q, entL_s, entL_nil, n_X11_plainTurns, u_X11_plainTurns, m_X11_plainTurns, rep_0, List.cons_append, List.nil_append, List.append_nil, List.length_cons, List.length_nil, Nat.reduceAdd, true_and]
  simp only [AW_k, AWk_1, x_aload_0, x_aloads_0, x_push_i, x_push_l, x_callv_2, x_iload_1, x_imul, x_getf, x_iadd, x_ret, x_ret_i, x_ret_z, x_ret_l, x_ret_c, k_X11_plainTurns_0, k_X11_plainTurns_1, k_X11_plainTurns_2, k_X11_plainTurns_3, k_X11_plainTurns_4, k_X11_plainTurns_5, k_X11_plainTurns_6, k_X11_plainTurns_7, k_X11_plainTurns_8, k_X11_plainTurns_9, oE_some, Int.reduceToNat, Nat.reduceAdd, true_and, and_true, List.length_cons, List.length_nil, Option.toList_some, Option.toList_none, List.cons_append, List.nil_append, Nat.reduceLeDiff, Nat.le_refl, wdS_nil, wdS_i, wdS_l, wdS_r, wdS_n, wdS_s, ZS_C hS, u3, n1]
theorem m_leftyTurns (d : Nat) {hp : HP} {n : Nat} {G : BitVec 64} {z : Int} {c : Nat} {ks : List Int} {es : List Int} {ik : Bool} {kn : Nat} {kG : BitVec 64} {kz : Int} {kc : Nat} {kks : List Int} {kes : List Int} {tc : Nat} {tb : List Int} {sc : Nat} {tl : List Int} {so : List Int} {le : List Int} {it : Nat → List (BitVec 64)} {he : List Int} {th : List Int} {sl : List Int} {k nu m : Int} (x : Int) {s : ASt} (hS : ZS hp k nu m n G z c ks es ik kn kG kz kc kks kes tc tb sc tl so le it he th sl (s)) : ∃ h', ZS h' k nu m n G z c ks es ik kn kG kz kc kks kes tc tb sc tl so le it he th sl (begs [20, 10] s) ∧ Fr 54 83 hp h' ∧ ∀ R : PO, callD (d + 3) 274 [mR 54, mI x] hp R ↔ R (some (mI (iXor (x * 5 + nu) 9))) h' := by
  obtain ⟨h1, u1, u2, u3⟩ := m_ran (d + 1) 20 hS
  have u3 : ∀ R : PO, callD (d + 2) 272 [mR 54, mI 20] hp R ↔ R none h1 := u3
  obtain ⟨h2, v1, v2, v3⟩ := m_plainTurns d x u1
  refine ⟨h2, v1, Fr_trans u2 v2, fun R => ?_⟩
  rw [callD_k]; simp only [entL_i, entL_l, entL_q, entL_s, entL_nil, n_X11_leftyTurns, u_X11_leftyTurns, m_X11_leftyTurns, rep_0, List.cons_append, List.nil_append, List.append_nil, List.length_cons, List.length_nil, Nat.reduceAdd, true_and]
  simp only [AW_k, AWk_1, x_aload_0, x_aloads_0, x_push_i, x_push_l, x_callv_2, x_iload_1, x_ixor, x_ret, x_ret_i, x_ret_z, x_ret_l, x_ret_c, k_X11_leftyTurns_0, k_X11_leftyTurns_1, k_X11_leftyTurns_2, k_X11_leftyTurns_3, k_X11_leftyTurns_4, k_X11_leftyTurns_5, k_X11_leftyTurns_6, k_X11_leftyTurns_7, k_X11_leftyTurns_8, oE_some, Int.reduceToNat, Nat.reduceAdd, true_and, and_true, List.length_cons, List.length_nil, Option.toList_some, Option.toList_none, List.cons_append, List.nil_append, Nat.reduceLeDiff, Nat.le_refl, wdS_nil, wdS_i, wdS_l, wdS_r, wdS_n, wdS_s, ZS_C hS, ZS_C u1, u3, v3]
set_option maxHeartbeats 16000000 in
theorem m_turns (d : Nat) {hp : HP} {n : Nat} {G : BitVec 64} {z : Int} {c : Nat} {ks : List Int} {es : List Int} {ik : Bool} {kn : Nat} {kG : BitVec 64} {kz : Int} {kc : Nat} {kks : List Int} {kes : List Int} {tc : Nat} {tb : List Int} {sc : Nat} {tl : List Int} {so : List Int} {le : List Int} {it : Nat → List (BitVec 64)} {he : List Int} {th : List Int} {sl : List Int} {kk : Nat} {nu m : Int} (x : Int) {s : ASt} (hk : kk < 6) (hS : ZS hp (kk : Int) nu m n G z c ks es ik kn kG kz kc kks kes tc tb sc tl so le it he th sl (s)) : ∃ h', ZS h' (kk : Int) nu m n G z c ks es ik kn kG kz kc kks kes tc tb sc tl so le it he th sl (begs (qTB kk) s) ∧ Fr 54 83 hp h' ∧ ∀ R : PO, callD (d + 4) 275 [mR 54, mI x] hp R ↔ R (some (mI (qTV kk nu x))) h' := by
  have k0 := hS.2.1.1
  have cS := ZS_C hS
  have w3 : w32 3 = 3 := rfl
  have w1 : w32 1 = 1 := rfl
  have w4 : w32 4 = 4 := rfl
  by_cases c3 : kk = 3
  · subst c3
    obtain ⟨h1, u1, u2, u3⟩ := m_ran (d + 2) 40 hS
    have u3 : ∀ R : PO, callD (d + 3) 272 [mR 54, mI 40] hp R ↔ R none h1 := u3
    obtain ⟨h2, v1, v2, v3⟩ := m_leftyTurns d (x + 2) u1
    refine ⟨h2, v1, Fr_trans u2 v2, fun R => ?_⟩
    rw [callD_k]; simp only [entL_i, entL_l, entL_q, entL_s, entL_nil, n_X11_turns, u_X11_turns, m_X11_turns, rep_0, List.cons_append, List.nil_append, List.append_nil, List.length_cons, List.length_nil, Nat.reduceAdd, true_and]
    simp only [AW_k, AWk_1, x_aload_0, x_aloads_0, x_getf, x_push_i, x_push_l, x_icmp_ne, x_callv_2, x_iload_1, x_iadd, x_isub, x_ret, x_ret_i, x_ret_z, x_ret_l, x_ret_c, x_icmp_eq, x_goto, k_X11_turns_0, k_X11_turns_1, k_X11_turns_2, k_X11_turns_3, k_X11_turns_4, k_X11_turns_5, k_X11_turns_6, k_X11_turns_7, k_X11_turns_8, k_X11_turns_9, k_X11_turns_10, k_X11_turns_11, k_X11_turns_12, k_X11_turns_13, k_X11_turns_14, k_X11_turns_15, k_X11_turns_16, k_X11_turns_17, k_X11_turns_18, k_X11_turns_19, k_X11_turns_20, k_X11_turns_21, k_X11_turns_22, k_X11_turns_23, k_X11_turns_24, k_X11_turns_25, k_X11_turns_26, k_X11_turns_27, k_X11_turns_28, k_X11_turns_29, k_X11_turns_30, oE_some, Int.reduceToNat, Nat.reduceAdd, true_and, and_true, List.length_cons, List.length_nil, Option.toList_some, Option.toList_none, List.cons_append, List.nil_append, Nat.reduceLeDiff, Nat.le_refl, wdS_nil, wdS_i, wdS_l, wdS_r, wdS_n, wdS_s, k0, z3, w3, cS, ZS_C u1, u3, v3, ↓reduceIte]
    exact Iff.rfl
  · have bk : kk < 2147483648 := by omega
    have n3 : ((kk : Int) = 3) = False := eq_false (by omega)
    by_cases c1 : kk = 1 ∨ kk = 4
    · have eB : qTB kk = [20, 10] := by unfold qTB; rw [if_neg c3, if_pos c1]
      have eV : qTV kk nu x = iXor (x * 5 + nu) 9 := by unfold qTV; rw [if_neg c3, if_pos c1]
      rw [eB, eV]
      obtain ⟨h2, v1, v2, v3⟩ := m_leftyTurns d x hS
      refine ⟨h2, v1, v2, fun R => ?_⟩
      rcases c1 with c | c
      · subst c
        rw [callD_k]; simp only [entL_i, entL_l, entL_q, entL_s, entL_nil, n_X11_turns, u_X11_turns, m_X11_turns, rep_0, List.cons_append, List.nil_append, List.append_nil, List.length_cons, List.length_nil, Nat.reduceAdd, true_and]
        simp only [AW_k, AWk_1, x_aload_0, x_aloads_0, x_getf, x_push_i, x_push_l, x_icmp_ne, x_callv_2, x_iload_1, x_iadd, x_isub, x_ret, x_ret_i, x_ret_z, x_ret_l, x_ret_c, x_icmp_eq, x_goto, k_X11_turns_0, k_X11_turns_1, k_X11_turns_2, k_X11_turns_3, k_X11_turns_4, k_X11_turns_5, k_X11_turns_6, k_X11_turns_7, k_X11_turns_8, k_X11_turns_9, k_X11_turns_10, k_X11_turns_11, k_X11_turns_12, k_X11_turns_13, k_X11_turns_14, k_X11_turns_15, k_X11_turns_16, k_X11_turns_17, k_X11_turns_18, k_X11_turns_19, k_X11_turns_20, k_X11_turns_21, k_X11_turns_22, k_X11_turns_23, k_X11_turns_24, k_X11_turns_25, k_X11_turns_26, k_X11_turns_27, k_X11_turns_28, k_X11_turns_29, k_X11_turns_30, oE_some, Int.reduceToNat, Nat.reduceAdd, true_and, and_true, List.length_cons, List.length_nil, Option.toList_some, Option.toList_none, List.cons_append, List.nil_append, Nat.reduceLeDiff, Nat.le_refl, wdS_nil, wdS_i, wdS_l, wdS_r, wdS_n, wdS_s, k0, z1, w3, w1, cS, v3, Int.reduceEq, ↓reduceIte]
      · subst c
        rw [callD_k]; simp only [entL_i, entL_l, entL_q, entL_s, entL_nil, n_X11_turns, u_X11_turns, m_X11_turns, rep_0, List.cons_append, List.nil_append, List.append_nil, List.length_cons, List.length_nil, Nat.reduceAdd, true_and]
        simp only [AW_k, AWk_1, x_aload_0, x_aloads_0, x_getf, x_push_i, x_push_l, x_icmp_ne, x_callv_2, x_iload_1, x_iadd, x_isub, x_ret, x_ret_i, x_ret_z, x_ret_l, x_ret_c, x_icmp_eq, x_goto, k_X11_turns_0, k_X11_turns_1, k_X11_turns_2, k_X11_turns_3, k_X11_turns_4, k_X11_turns_5, k_X11_turns_6, k_X11_turns_7, k_X11_turns_8, k_X11_turns_9, k_X11_turns_10, k_X11_turns_11, k_X11_turns_12, k_X11_turns_13, k_X11_turns_14, k_X11_turns_15, k_X11_turns_16, k_X11_turns_17, k_X11_turns_18, k_X11_turns_19, k_X11_turns_20, k_X11_turns_21, k_X11_turns_22, k_X11_turns_23, k_X11_turns_24, k_X11_turns_25, k_X11_turns_26, k_X11_turns_27, k_X11_turns_28, k_X11_turns_29, k_X11_turns_30, oE_some, Int.reduceToNat, Nat.reduceAdd, true_and, and_true, List.length_cons, List.length_nil, Option.toList_some, Option.toList_none, List.cons_append, List.nil_append, Nat.reduceLeDiff, Nat.le_refl, wdS_nil, wdS_i, wdS_l, wdS_r, wdS_n, wdS_s, k0, z4, w3, w1, w4, cS, v3, Int.reduceEq, ↓reduceIte]
    · have eB : qTB kk = [10] := by unfold qTB; rw [if_neg c3, if_neg c1]
      have eV : qTV kk nu x = x * 5 + nu := by unfold qTV; rw [if_neg c3, if_neg c1]
      have n1 : ((kk : Int) = 1) = False := eq_false (by omega)
      have n4 : ((kk : Int) = 4) = False := eq_false (by omega)
      rw [eB, eV]
      obtain ⟨h2, v1, v2, v3⟩ := m_plainTurns (d + 1) x hS
      refine ⟨h2, v1, v2, fun R => ?_⟩
      rw [callD_k]; simp only [entL_i, entL_l, entL_q, entL_s, entL_nil, n_X11_turns, u_X11_turns, m_X11_turns, rep_0, List.cons_append, List.nil_append, List.append_nil, List.length_cons, List.length_nil, Nat.reduceAdd, true_and]
      simp only [AW_k, AWk_1, x_aload_0, x_aloads_0, x_getf, x_push_i, x_push_l, x_icmp_ne, x_callv_2, x_iload_1, x_iadd, x_isub, x_ret, x_ret_i, x_ret_z, x_ret_l, x_ret_c, x_icmp_eq, x_goto, k_X11_turns_0, k_X11_turns_1, k_X11_turns_2, k_X11_turns_3, k_X11_turns_4, k_X11_turns_5, k_X11_turns_6, k_X11_turns_7, k_X11_turns_8, k_X11_turns_9, k_X11_turns_10, k_X11_turns_11, k_X11_turns_12, k_X11_turns_13, k_X11_turns_14, k_X11_turns_15, k_X11_turns_16, k_X11_turns_17, k_X11_turns_18, k_X11_turns_19, k_X11_turns_20, k_X11_turns_21, k_X11_turns_22, k_X11_turns_23, k_X11_turns_24, k_X11_turns_25, k_X11_turns_26, k_X11_turns_27, k_X11_turns_28, k_X11_turns_29, k_X11_turns_30, oE_some, Int.reduceToNat, Nat.reduceAdd, true_and, and_true, List.length_cons, List.length_nil, Option.toList_some, Option.toList_none, List.cons_append, List.nil_append, Nat.reduceLeDiff, Nat.le_refl, wdS_nil, wdS_i, wdS_l, wdS_r, wdS_n, wdS_s, k0, w32_nat bk, w3, w1, w4, n3, n1, n4, cS, v3, ↓reduceIte]
theorem m_plainBends (d : Nat) {hp : HP} {n : Nat} {G : BitVec 64} {z : Int} {c : Nat} {ks : List Int} {es : List Int} {ik : Bool} {kn : Nat} {kG : BitVec 64} {kz : Int} {kc : Nat} {kks : List Int} {kes : List Int} {tc : Nat} {tb : List Int} {sc : Nat} {tl : List Int} {so : List Int} {le : List Int} {it : Nat → List (BitVec 64)} {he : List Int} {th : List Int} {sl : List Int} {kk : Nat} {nu m : Int} (x : Int) {s : ASt} (hk : kk < 6) (hS : ZS hp (kk : Int) nu m n G z c ks es ik kn kG kz kc kks kes tc tb sc tl so le it he th sl (s)) : ∃ h', ZS h' (kk : Int) nu m n G z c ks es ik kn kG kz kc kks kes tc tb sc tl so le it he th sl (begs (11 :: qTB kk) s) ∧ Fr 54 83 hp h' ∧ ∀ R : PO, callD (d + 5) 276 [mR 54, mI x] hp R ↔ R (some (mI (qTV kk nu x - m))) h' := by
  obtain ⟨h1, u1, u2, u3⟩ := m_ran (d + 3) 11 hS
  have u3 : ∀ R : PO, callD (d + 4) 272 [mR 54, mI 11] hp R ↔ R none h1 := u3
  obtain ⟨h2, v1, v2, v3⟩ := m_turns d x hk u1
  have n1 := v1.2.1.2.2.1
  refine ⟨h2, v1, Fr_trans u2 v2, fun R => ?_⟩
  rw [callD_k]; simp only [entL_i, entL_l, entL_q, entL_s, entL_nil, n_X11_plainBends, u_X11_plainBends, m_X11_plainBends, rep_0, List.cons_append, List.nil_append, List.append_nil, List.length_cons, List.length_nil, Nat.reduceAdd, true_and]
  simp only [AW_k, AWk_1, x_aload_0, x_aloads_0, x_push_i, x_push_l, x_callv_2, x_iload_1, x_getf, x_isub, x_ret, x_ret_i, x_ret_z, x_ret_l, x_ret_c, k_X11_plainBends_0, k_X11_plainBends_1, k_X11_plainBends_2, k_X11_plainBends_3, k_X11_plainBends_4, k_X11_plainBends_5, k_X11_plainBends_6, k_X11_plainBends_7, k_X11_plainBends_8, k_X11_plainBends_9, oE_some, Int.reduceToNat, Nat.reduceAdd, true_and, and_true, List.length_cons, List.length_nil, Option.toList_some, Option.toList_none, List.cons_append, List.nil_append, Nat.reduceLeDiff, Nat.le_refl, wdS_nil, wdS_i, wdS_l, wdS_r, wdS_n, wdS_s, ZS_C hS, ZS_C u1, u3, v3, n1]
set_option maxHeartbeats 16000000 in
theorem m_bends (d : Nat) {hp : HP} {n : Nat} {G : BitVec 64} {z : Int} {c : Nat} {ks : List Int} {es : List Int} {ik : Bool} {kn : Nat} {kG : BitVec 64} {kz : Int} {kc : Nat} {kks : List Int} {kes : List Int} {tc : Nat} {tb : List Int} {sc : Nat} {tl : List Int} {so : List Int} {le : List Int} {it : Nat → List (BitVec 64)} {he : List Int} {th : List Int} {sl : List Int} {kk : Nat} {nu m : Int} (x : Int) {s : ASt} (hk : kk < 6) (hS : ZS hp (kk : Int) nu m n G z c ks es ik kn kG kz kc kks kes tc tb sc tl so le it he th sl (s)) : ∃ h', ZS h' (kk : Int) nu m n G z c ks es ik kn kG kz kc kks kes tc tb sc tl so le it he th sl (begs (qBB kk) s) ∧ Fr 54 83 hp h' ∧ ∀ R : PO, callD (d + 6) 277 [mR 54, mI x] hp R ↔ R (some (mI (qBV kk m nu x))) h' := by
  have k0 := hS.2.1.1
  have cS := ZS_C hS
  have w2 : w32 2 = 2 := rfl
  have w5 : w32 5 = 5 := rfl
  have bk : kk < 2147483648 := by omega
  by_cases c : kk = 2 ∨ kk = 5
  · have eB : qBB kk = 30 :: 11 :: qTB kk := by unfold qBB; rw [if_pos c]
    have eV : qBV kk m nu x = (qTV kk nu x - m) * 3 := by unfold qBV; rw [if_pos c]
    rw [eB, eV]
    obtain ⟨h1, u1, u2, u3⟩ := m_ran (d + 4) 30 hS
    have u3 : ∀ R : PO, callD (d + 5) 272 [mR 54, mI 30] hp R ↔ R none h1 := u3
    obtain ⟨h2, v1, v2, v3⟩ := m_plainBends d x hk u1
    refine ⟨h2, v1, Fr_trans u2 v2, fun R => ?_⟩
    by_cases c2 : kk = 2
    · have n2 : ((kk : Int) = 2) = True := eq_true (by omega)
      rw [callD_k]; simp only [entL_i, entL_l, entL_q, entL_s, entL_nil, n_X11_bends, u_X11_bends, m_X11_bends, rep_0, List.cons_append, List.nil_append, List.append_nil, List.length_cons, List.length_nil, Nat.reduceAdd, true_and]
      simp only [AW_k, AWk_1, x_aload_0, x_aloads_0, x_getf, x_push_i, x_push_l, x_icmp_eq, x_icmp_ne, x_callv_2, x_iload_1, x_imul, x_ret, x_ret_i, x_ret_z, x_ret_l, x_ret_c, k_X11_bends_0, k_X11_bends_1, k_X11_bends_2, k_X11_bends_3, k_X11_bends_4, k_X11_bends_5, k_X11_bends_6, k_X11_bends_7, k_X11_bends_8, k_X11_bends_9, k_X11_bends_10, k_X11_bends_11, k_X11_bends_12, k_X11_bends_13, k_X11_bends_14, k_X11_bends_15, k_X11_bends_16, k_X11_bends_17, k_X11_bends_18, k_X11_bends_19, k_X11_bends_20, oE_some, Int.reduceToNat, Nat.reduceAdd, true_and, and_true, List.length_cons, List.length_nil, Option.toList_some, Option.toList_none, List.cons_append, List.nil_append, Nat.reduceLeDiff, Nat.le_refl, wdS_nil, wdS_i, wdS_l, wdS_r, wdS_n, wdS_s, k0, w32_nat bk, w2, n2, cS, ZS_C u1, u3, v3, ↓reduceIte]
    · have n2 : ((kk : Int) = 2) = False := eq_false (by omega)
      have n5 : ((kk : Int) = 5) = True := eq_true (by omega)
      rw [callD_k]; simp only [entL_i, entL_l, entL_q, entL_s, entL_nil, n_X11_bends, u_X11_bends, m_X11_bends, rep_0, List.cons_append, List.nil_append, List.append_nil, List.length_cons, List.length_nil, Nat.reduceAdd, true_and]
      simp only [AW_k, AWk_1, x_aload_0, x_aloads_0, x_getf, x_push_i, x_push_l, x_icmp_eq, x_icmp_ne, x_callv_2, x_iload_1, x_imul, x_ret, x_ret_i, x_ret_z, x_ret_l, x_ret_c, k_X11_bends_0, k_X11_bends_1, k_X11_bends_2, k_X11_bends_3, k_X11_bends_4, k_X11_bends_5, k_X11_bends_6, k_X11_bends_7, k_X11_bends_8, k_X11_bends_9, k_X11_bends_10, k_X11_bends_11, k_X11_bends_12, k_X11_bends_13, k_X11_bends_14, k_X11_bends_15, k_X11_bends_16, k_X11_bends_17, k_X11_bends_18, k_X11_bends_19, k_X11_bends_20, oE_some, Int.reduceToNat, Nat.reduceAdd, true_and, and_true, List.length_cons, List.length_nil, Option.toList_some, Option.toList_none, List.cons_append, List.nil_append, Nat.reduceLeDiff, Nat.le_refl, wdS_nil, wdS_i, wdS_l, wdS_r, wdS_n, wdS_s, k0, w32_nat bk, w2, w5, n2, n5, cS, ZS_C u1, u3, v3, ↓reduceIte]
  · have eB : qBB kk = 11 :: qTB kk := by unfold qBB; rw [if_neg c]
    have eV : qBV kk m nu x = qTV kk nu x - m := by unfold qBV; rw [if_neg c]
    rw [eB, eV]
    have n2 : ((kk : Int) = 2) = False := eq_false (by omega)
    have n5 : ((kk : Int) = 5) = False := eq_false (by omega)
    obtain ⟨h2, v1, v2, v3⟩ := m_plainBends d x hk hS
    refine ⟨h2, v1, v2, fun R => ?_⟩
    rw [callD_k]; simp only [entL_i, entL_l, entL_q, entL_s, entL_nil, n_X11_bends, u_X11_bends, m_X11_bends, rep_0, List.cons_append, List.nil_append, List.append_nil, List.length_cons, List.length_nil, Nat.reduceAdd, true_and]
    simp only [AW_k, AWk_1, x_aload_0, x_aloads_0, x_getf, x_push_i, x_push_l, x_icmp_eq, x_icmp_ne, x_callv_2, x_iload_1, x_imul, x_ret, x_ret_i, x_ret_z, x_ret_l, x_ret_c, k_X11_bends_0, k_X11_bends_1, k_X11_bends_2, k_X11_bends_3, k_X11_bends_4, k_X11_bends_5, k_X11_bends_6, k_X11_bends_7, k_X11_bends_8, k_X11_bends_9, k_X11_bends_10, k_X11_bends_11, k_X11_bends_12, k_X11_bends_13, k_X11_bends_14, k_X11_bends_15, k_X11_bends_16, k_X11_bends_17, k_X11_bends_18, k_X11_bends_19, k_X11_bends_20, oE_some, Int.reduceToNat, Nat.reduceAdd, true_and, and_true, List.length_cons, List.length_nil, Option.toList_some, Option.toList_none, List.cons_append, List.nil_append, Nat.reduceLeDiff, Nat.le_refl, wdS_nil, wdS_i, wdS_l, wdS_r, wdS_n, wdS_s, k0, w32_nat bk, w2, w5, n2, n5, cS, v3, ↓reduceIte]
theorem ZS_stp {hp : HP} {n : Nat} {G : BitVec 64} {z : Int} {c : Nat} {ks : List Int} {es : List Int} {ik : Bool} {kn : Nat} {kG : BitVec 64} {kz : Int} {kc : Nat} {kks : List Int} {kes : List Int} {tc : Nat} {tb : List Int} {sc : Nat} {tl : List Int} {so : List Int} {le : List Int} {it : Nat → List (BitVec 64)} {he : List Int} {th : List Int} {sl : List Int} {k nu m : Int} {s : ASt} {p : Bool} (hS : ZS hp k nu m n G z c ks es ik kn kG kz kc kks kes tc tb sc tl so le it he th sl (s)) : ZS (pF hp 54 11 49 (mI (zI p))) k nu m n G z c ks es ik kn kG kz kc kks kes tc tb sc tl so le it he th sl (stp p s) := by
  obtain ⟨hX, ⟨z46, z47, z48, z49⟩, ht⟩ := hS
  exact ⟨MI_g49 hX, ⟨by rw [gF_pF (by omega), z46], by rw [gF_pF (by omega), z47], by rw [gF_pF (by omega), z48], gF_pF_same z49⟩, ht⟩
set_option maxHeartbeats 16000000 in
theorem m_plainParts (d : Nat) {hp : HP} {n : Nat} {G : BitVec 64} {z : Int} {c : Nat} {ks : List Int} {es : List Int} {ik : Bool} {kn : Nat} {kG : BitVec 64} {kz : Int} {kc : Nat} {kks : List Int} {kes : List Int} {tc : Nat} {tb : List Int} {sc : Nat} {tl : List Int} {so : List Int} {le : List Int} {it : Nat → List (BitVec 64)} {he : List Int} {th : List Int} {sl : List Int} {k : Int} {mm i : Nat} (x : Int) {s : ASt} (p : Bool) (hm : mm < 16) (hi : i < 6) (hs : s.2.2 = false) (hp' : p = decide (w32 ((mm : Int) - (i : Int)) = 0)) (hS : ZS hp k (i : Int) (mm : Int) n G z c ks es ik kn kG kz kc kks kes tc tb sc tl so le it he th sl (s)) : ∃ h' v, ZS h' k (i : Int) (mm : Int) n G z c ks es ik kn kG kz kc kks kes tc tb sc tl so le it he th sl (stp p (beg 12 s)) ∧ Fr 54 83 hp h' ∧ (p = false → v = dlM (mm : Int) (i : Int) x) ∧ ∀ R : PO, callD (d + 2) 278 [mR 54, mI x] hp R ↔ R (some (mI v)) h' := by
  obtain ⟨h1, u1, u2, u3⟩ := m_ran d 12 hS
  have u3 : ∀ R : PO, callD (d + 1) 272 [mR 54, mI 12] hp R ↔ R none h1 := u3
  have v1 := ZS_stp (p := p) u1
  have cS := ZS_C hS
  have z47 := u1.2.1.2.1
  have z48 := u1.2.1.2.2.1
  have z49 := u1.2.1.2.2.2
  rw [beg_f, hs] at z49
  have bm : mm < 2147483648 := by omega
  have bi : i < 2147483648 := by omega
  have wd : w32 ((mm : Int) - (i : Int)) = (mm : Int) - (i : Int) := w32_id (by omega) (by omega)
  have fr : Fr 54 83 hp (pF h1 54 11 49 (mI (zI p))) := Fr_trans u2 Fr_o54
  rw [wd] at hp'
  cases p with
  | true =>
    have n7 : ((mm : Int) = (i : Int)) = True := eq_true (by have := of_decide_eq_true hp'.symm; omega)
    have y49 : gF (pF h1 54 11 49 (mI 1)) 54 11 49 = some (mI 1) := v1.2.1.2.2.2
    refine ⟨_, 0, v1, fr, fun q => absurd q (by decide), fun R => ?_⟩
    rw [callD_k]; simp only [entL_i, entL_l, entL_q, entL_s, entL_nil, n_X11_plainParts, u_X11_plainParts, m_X11_plainParts, rep_0, List.cons_append, List.nil_append, List.append_nil, List.length_cons, List.length_nil, Nat.reduceAdd, true_and]
    simp only [AW_k, AWk_1, x_aload_0, x_aloads_0, x_push_i, x_push_l, x_callv_2, x_getf, x_if_ne, x_icmp_ne, x_goto, x_putf_z, x_if_eq, x_ret, x_ret_i, x_ret_z, x_ret_l, x_ret_c, k_X11_plainParts_0, k_X11_plainParts_1, k_X11_plainParts_2, k_X11_plainParts_3, k_X11_plainParts_4, k_X11_plainParts_5, k_X11_plainParts_6, k_X11_plainParts_7, k_X11_plainParts_8, k_X11_plainParts_9, k_X11_plainParts_10, k_X11_plainParts_11, k_X11_plainParts_12, k_X11_plainParts_13, k_X11_plainParts_14, k_X11_plainParts_15, k_X11_plainParts_16, k_X11_plainParts_17, k_X11_plainParts_18, k_X11_plainParts_19, k_X11_plainParts_20, k_X11_plainParts_39, oE_some, Int.reduceToNat, Nat.reduceAdd, true_and, and_true, List.length_cons, List.length_nil, Option.toList_some, Option.toList_none, List.cons_append, List.nil_append, Nat.reduceLeDiff, Nat.le_refl, wdS_nil, wdS_i, wdS_l, wdS_r, wdS_n, wdS_s, cS, u3, z49, zI_f, zI_t, w00, z48, z47, w32_nat bm, w32_nat bi, n7, y49, w10, true_or, or_true, ↓reduceIte]
  | false =>
    have hne : ¬ (mm : Int) - (i : Int) = 0 := of_decide_eq_false hp'.symm
    have n7 : ((mm : Int) = (i : Int)) = False := eq_false (by omega)
    have y49 : gF (pF h1 54 11 49 (mI 0)) 54 11 49 = some (mI 0) := v1.2.1.2.2.2
    have y48 : gF (pF h1 54 11 49 (mI 0)) 54 11 48 = some (mI (mm : Int)) := v1.2.1.2.2.1
    have y47 : gF (pF h1 54 11 49 (mI 0)) 54 11 47 = some (mI (i : Int)) := v1.2.1.2.1
    by_cases q : (mm : Int) - (i : Int) = -1
    · have eV : dlM (mm : Int) (i : Int) x = 0 - x := by unfold dlM; rw [wd, if_pos q]
      refine ⟨_, 0 - x, v1, fr, fun _ => eV.symm, fun R => ?_⟩
      rw [callD_k]; simp only [entL_i, entL_l, entL_q, entL_s, entL_nil, n_X11_plainParts, u_X11_plainParts, m_X11_plainParts, rep_0, List.cons_append, List.nil_append, List.append_nil, List.length_cons, List.length_nil, Nat.reduceAdd, true_and]
      simp only [AW_k, AWk_1, x_aload_0, x_aloads_0, x_push_i, x_push_l, x_callv_2, x_getf, x_if_ne, x_icmp_ne, x_goto, x_putf_z, x_if_eq, x_isub, x_iload_1, x_ret, x_ret_i, x_ret_z, x_ret_l, x_ret_c, k_X11_plainParts_0, k_X11_plainParts_1, k_X11_plainParts_2, k_X11_plainParts_3, k_X11_plainParts_4, k_X11_plainParts_5, k_X11_plainParts_6, k_X11_plainParts_7, k_X11_plainParts_8, k_X11_plainParts_9, k_X11_plainParts_10, k_X11_plainParts_11, k_X11_plainParts_12, k_X11_plainParts_13, k_X11_plainParts_14, k_X11_plainParts_15, k_X11_plainParts_16, k_X11_plainParts_17, k_X11_plainParts_18, k_X11_plainParts_19, k_X11_plainParts_20, k_X11_plainParts_21, k_X11_plainParts_22, k_X11_plainParts_23, k_X11_plainParts_24, k_X11_plainParts_25, k_X11_plainParts_26, k_X11_plainParts_27, k_X11_plainParts_28, k_X11_plainParts_29, k_X11_plainParts_30, k_X11_plainParts_31, k_X11_plainParts_39, oE_some, Int.reduceToNat, Nat.reduceAdd, true_and, and_true, List.length_cons, List.length_nil, Option.toList_some, Option.toList_none, List.cons_append, List.nil_append, Nat.reduceLeDiff, Nat.le_refl, wdS_nil, wdS_i, wdS_l, wdS_r, wdS_n, wdS_s, cS, u3, z49, zI_f, w00, z48, z47, w32_nat bm, w32_nat bi, n7, y49, y48, y47, wd, q, show w32 (-1) = -1 from rfl, true_or, or_true, ↓reduceIte]
    · have eV : dlM (mm : Int) (i : Int) x = Int.tdiv (w32 x) ((mm : Int) - (i : Int)) := by unfold dlM; rw [wd, if_neg q]
      refine ⟨_, Int.tdiv (w32 x) ((mm : Int) - (i : Int)), v1, fr, fun _ => eV.symm, fun R => ?_⟩
      rw [callD_k]; simp only [entL_i, entL_l, entL_q, entL_s, entL_nil, n_X11_plainParts, u_X11_plainParts, m_X11_plainParts, rep_0, List.cons_append, List.nil_append, List.append_nil, List.length_cons, List.length_nil, Nat.reduceAdd, true_and]
      simp only [AW_k, AWk_1, x_aload_0, x_aloads_0, x_push_i, x_push_l, x_callv_2, x_getf, x_if_ne, x_icmp_ne, x_goto, x_putf_z, x_if_eq, x_isub, x_iload_1, x_idiv, x_ret, x_ret_i, x_ret_z, x_ret_l, x_ret_c, k_X11_plainParts_0, k_X11_plainParts_1, k_X11_plainParts_2, k_X11_plainParts_3, k_X11_plainParts_4, k_X11_plainParts_5, k_X11_plainParts_6, k_X11_plainParts_7, k_X11_plainParts_8, k_X11_plainParts_9, k_X11_plainParts_10, k_X11_plainParts_11, k_X11_plainParts_12, k_X11_plainParts_13, k_X11_plainParts_14, k_X11_plainParts_15, k_X11_plainParts_16, k_X11_plainParts_17, k_X11_plainParts_18, k_X11_plainParts_19, k_X11_plainParts_20, k_X11_plainParts_21, k_X11_plainParts_22, k_X11_plainParts_23, k_X11_plainParts_24, k_X11_plainParts_25, k_X11_plainParts_26, k_X11_plainParts_27, k_X11_plainParts_28, k_X11_plainParts_29, k_X11_plainParts_30, k_X11_plainParts_31, k_X11_plainParts_32, k_X11_plainParts_33, k_X11_plainParts_34, k_X11_plainParts_35, k_X11_plainParts_36, k_X11_plainParts_37, k_X11_plainParts_38, k_X11_plainParts_39, oE_some, Int.reduceToNat, Nat.reduceAdd, true_and, and_true, List.length_cons, List.length_nil, Option.toList_some, Option.toList_none, List.cons_append, List.nil_append, Nat.reduceLeDiff, Nat.le_refl, wdS_nil, wdS_i, wdS_l, wdS_r, wdS_n, wdS_s, cS, u3, z49, zI_f, w00, z48, z47, w32_nat bm, w32_nat bi, n7, y49, y48, y47, wd, q, hne, show w32 (-1) = -1 from rfl, true_or, or_true, not_false_eq_true, ↓reduceIte]
set_option maxHeartbeats 16000000 in
theorem m_longerParts (d : Nat) {hp : HP} {n : Nat} {G : BitVec 64} {z : Int} {c : Nat} {ks : List Int} {es : List Int} {ik : Bool} {kn : Nat} {kG : BitVec 64} {kz : Int} {kc : Nat} {kks : List Int} {kes : List Int} {tc : Nat} {tb : List Int} {sc : Nat} {tl : List Int} {so : List Int} {le : List Int} {it : Nat → List (BitVec 64)} {he : List Int} {th : List Int} {sl : List Int} {kk mm i : Nat} (x : Int) {s : ASt} (p : Bool) (hk : kk < 6) (hm : mm < 16) (hi : i < 6) (hs : s.2.2 = false) (hp' : p = decide (w32 ((mm : Int) - (i : Int)) = 0)) (hS : ZS hp (kk : Int) (i : Int) (mm : Int) n G z c ks es ik kn kG kz kc kks kes tc tb sc tl so le it he th sl (s)) : ∃ h' v, ZS h' (kk : Int) (i : Int) (mm : Int) n G z c ks es ik kn kG kz kc kks kes tc tb sc tl so le it he th sl (stp p (begs (31 :: 12 :: (if p = true then [] else qTB kk)) s)) ∧ Fr 54 83 hp h' ∧ (p = false → v = dlM (mm : Int) (i : Int) x + qTV kk (i : Int) (i : Int)) ∧ ∀ R : PO, callD (d + 5) 279 [mR 54, mI x] hp R ↔ R (some (mI v)) h' := by
  obtain ⟨h1, u1, u2, u3⟩ := m_ran (d + 3) 31 hS
  have u3 : ∀ R : PO, callD (d + 4) 272 [mR 54, mI 31] hp R ↔ R none h1 := u3
  obtain ⟨h2, v, v1, v2, vv, v3⟩ := m_plainParts (d + 2) x p hm hi ((beg_f 31 s).trans hs) hp' u1
  have cS := ZS_C hS
  have cU := ZS_C u1
  have cV := ZS_C v1
  have z49 := v1.2.1.2.2.2
  rw [stp_f] at z49
  cases p with
  | true =>
    refine ⟨h2, 0, v1, Fr_trans u2 v2, fun q => absurd q (by decide), fun R => ?_⟩
    rw [callD_k]; simp only [entL_i, entL_l, entL_q, entL_s, entL_nil, n_X11_longerParts, u_X11_longerParts, m_X11_longerParts, rep_1, List.cons_append, List.nil_append, List.append_nil, List.length_cons, List.length_nil, Nat.reduceAdd, true_and]
    simp only [AW_k, AWk_1, x_aload_0, x_aloads_0, x_push_i, x_push_l, x_callv_2, x_iload_1, x_istore_2, x_getf, x_if_eq, x_goto, x_ret, x_ret_i, x_ret_z, x_ret_l, x_ret_c, unl_i, unl_l, unl_q, unl_r, unl_s, unl_n, k_X11_longerParts_0, k_X11_longerParts_1, k_X11_longerParts_2, k_X11_longerParts_3, k_X11_longerParts_4, k_X11_longerParts_5, k_X11_longerParts_6, k_X11_longerParts_7, k_X11_longerParts_8, k_X11_longerParts_9, k_X11_longerParts_10, k_X11_longerParts_11, k_X11_longerParts_18, oE_some, Int.reduceToNat, Nat.reduceAdd, true_and, and_true, List.length_cons, List.length_nil, Option.toList_some, Option.toList_none, List.cons_append, List.nil_append, Nat.reduceLeDiff, Nat.le_refl, wdS_nil, wdS_i, wdS_l, wdS_r, wdS_n, wdS_s, cS, u3, cU, v3, z49, zI_t, w10, ↓reduceIte]
  | false =>
    have h0 : (beg 12 (beg 31 s)).2.2 = false := (beg_f _ _).trans ((beg_f _ _).trans hs)
    rw [stp_same h0] at v1
    have z47 := v1.2.1.2.1
    obtain ⟨h3, w1, w2, w3⟩ := m_turns d (i : Int) hk v1
    have e : stp false (begs (31 :: 12 :: (if false = true then [] else qTB kk)) s) = begs (qTB kk) (beg 12 (beg 31 s)) := by
      rw [if_neg (by decide), begs_cons, begs_cons]
      exact stp_same ((begs_f _ _).trans h0)
    refine ⟨h3, v + qTV kk (i : Int) (i : Int), by rw [e]; exact w1, Fr_trans (Fr_trans u2 v2) w2, fun q => by rw [vv q], fun R => ?_⟩
    rw [callD_k]; simp only [entL_i, entL_l, entL_q, entL_s, entL_nil, n_X11_longerParts, u_X11_longerParts, m_X11_longerParts, rep_1, List.cons_append, List.nil_append, List.append_nil, List.length_cons, List.length_nil, Nat.reduceAdd, true_and]
    simp only [AW_k, AWk_1, x_aload_0, x_aloads_0, x_push_i, x_push_l, x_callv_2, x_iload_1, x_istore_2, x_getf, x_if_eq, x_goto, x_iload_2, x_iadd, x_ret, x_ret_i, x_ret_z, x_ret_l, x_ret_c, unl_i, unl_l, unl_q, unl_r, unl_s, unl_n, k_X11_longerParts_0, k_X11_longerParts_1, k_X11_longerParts_2, k_X11_longerParts_3, k_X11_longerParts_4, k_X11_longerParts_5, k_X11_longerParts_6, k_X11_longerParts_7, k_X11_longerParts_8, k_X11_longerParts_9, k_X11_longerParts_10, k_X11_longerParts_11, k_X11_longerParts_12, k_X11_longerParts_13, k_X11_longerParts_14, k_X11_longerParts_15, k_X11_longerParts_16, k_X11_longerParts_17, k_X11_longerParts_18, oE_some, Int.reduceToNat, Nat.reduceAdd, true_and, and_true, List.length_cons, List.length_nil, Option.toList_some, Option.toList_none, List.cons_append, List.nil_append, Nat.reduceLeDiff, Nat.le_refl, wdS_nil, wdS_i, wdS_l, wdS_r, wdS_n, wdS_s, cS, u3, cU, v3, z49, zI_f, w00, z47, cV, w3, ↓reduceIte]
set_option maxHeartbeats 16000000 in
theorem m_parts (d : Nat) {hp : HP} {n : Nat} {G : BitVec 64} {z : Int} {c : Nat} {ks : List Int} {es : List Int} {ik : Bool} {kn : Nat} {kG : BitVec 64} {kz : Int} {kc : Nat} {kks : List Int} {kes : List Int} {tc : Nat} {tb : List Int} {sc : Nat} {tl : List Int} {so : List Int} {le : List Int} {it : Nat → List (BitVec 64)} {he : List Int} {th : List Int} {sl : List Int} {kk mm i : Nat} (x : Int) {s : ASt} (p : Bool) (hk : kk < 6) (hm : mm < 16) (hi : i < 6) (hs : s.2.2 = false) (hp' : p = decide (w32 ((mm : Int) - (i : Int)) = 0)) (hS : ZS hp (kk : Int) (i : Int) (mm : Int) n G z c ks es ik kn kG kz kc kks kes tc tb sc tl so le it he th sl (s)) : ∃ h' v, ZS h' (kk : Int) (i : Int) (mm : Int) n G z c ks es ik kn kG kz kc kks kes tc tb sc tl so le it he th sl (stp p (begs (qPB kk p) s)) ∧ Fr 54 83 hp h' ∧ (p = false → v = qPV (dlM (mm : Int) (i : Int)) kk (mm : Int) (i : Int) x) ∧ ∀ R : PO, callD (d + 6) 280 [mR 54, mI x] hp R ↔ R (some (mI v)) h' := by
  have k0 := hS.2.1.1
  have cS := ZS_C hS
  have w2' : w32 2 = 2 := rfl
  have w5 : w32 5 = 5 := rfl
  have bk : kk < 2147483648 := by omega
  by_cases c5 : kk = 5
  · have n5 : ((kk : Int) = 5) = True := eq_true (by omega)
    obtain ⟨h1, u1, u2, u3⟩ := m_ran (d + 4) 60 hS
    have u3 : ∀ R : PO, callD (d + 5) 272 [mR 54, mI 60] hp R ↔ R none h1 := u3
    obtain ⟨h2, v, v1, v2, vv, v3⟩ := m_longerParts d (x - (mm : Int)) p hk hm hi ((beg_f 60 s).trans hs) hp' u1
    have z48 := u1.2.1.2.2.1
    have eB : qPB kk p = 60 :: 31 :: 12 :: (if p = true then [] else qTB kk) := by unfold qPB; rw [if_pos c5]
    have eV : qPV (dlM (mm : Int) (i : Int)) kk (mm : Int) (i : Int) x = iXor (dlM (mm : Int) (i : Int) (x - (mm : Int)) + qTV kk (i : Int) (i : Int)) 5 := by unfold qPV; rw [if_pos c5]
    rw [eB, eV]
    refine ⟨h2, iXor v 5, v1, Fr_trans u2 v2, fun q => by rw [vv q], fun R => ?_⟩
    rw [callD_k]; simp only [entL_i, entL_l, entL_q, entL_s, entL_nil, n_X11_parts, u_X11_parts, m_X11_parts, rep_0, List.cons_append, List.nil_append, List.append_nil, List.length_cons, List.length_nil, Nat.reduceAdd, true_and]
    simp only [AW_k, AWk_1, x_aload_0, x_aloads_0, x_getf, x_push_i, x_push_l, x_icmp_ne, x_callv_2, x_iload_1, x_isub, x_ixor, x_ret, x_ret_i, x_ret_z, x_ret_l, x_ret_c, k_X11_parts_0, k_X11_parts_1, k_X11_parts_2, k_X11_parts_3, k_X11_parts_4, k_X11_parts_5, k_X11_parts_6, k_X11_parts_7, k_X11_parts_8, k_X11_parts_9, k_X11_parts_10, k_X11_parts_11, k_X11_parts_12, k_X11_parts_13, k_X11_parts_14, k_X11_parts_15, oE_some, Int.reduceToNat, Nat.reduceAdd, true_and, and_true, List.length_cons, List.length_nil, Option.toList_some, Option.toList_none, List.cons_append, List.nil_append, Nat.reduceLeDiff, Nat.le_refl, wdS_nil, wdS_i, wdS_l, wdS_r, wdS_n, wdS_s, k0, w32_nat bk, w5, n5, cS, u3, z48, ZS_C u1, v3, ↓reduceIte]
  · have n5 : ((kk : Int) = 5) = False := eq_false (by omega)
    by_cases c2 : kk = 2
    · have n2 : ((kk : Int) = 2) = True := eq_true (by omega)
      obtain ⟨h2, v, v1, v2, vv, v3⟩ := m_longerParts d x p hk hm hi hs hp' hS
      have eB : qPB kk p = 31 :: 12 :: (if p = true then [] else qTB kk) := by unfold qPB; rw [if_neg c5, if_pos c2]
      have eV : qPV (dlM (mm : Int) (i : Int)) kk (mm : Int) (i : Int) x = dlM (mm : Int) (i : Int) x + qTV kk (i : Int) (i : Int) := by unfold qPV; rw [if_neg c5, if_pos c2]
      rw [eB, eV]
      refine ⟨h2, v, v1, v2, vv, fun R => ?_⟩
      rw [callD_k]; simp only [entL_i, entL_l, entL_q, entL_s, entL_nil, n_X11_parts, u_X11_parts, m_X11_parts, rep_0, List.cons_append, List.nil_append, List.append_nil, List.length_cons, List.length_nil, Nat.reduceAdd, true_and]
      simp only [AW_k, AWk_1, x_aload_0, x_aloads_0, x_getf, x_push_i, x_push_l, x_icmp_ne, x_callv_2, x_iload_1, x_isub, x_ixor, x_ret, x_ret_i, x_ret_z, x_ret_l, x_ret_c, x_goto, k_X11_parts_0, k_X11_parts_1, k_X11_parts_2, k_X11_parts_3, k_X11_parts_4, k_X11_parts_5, k_X11_parts_6, k_X11_parts_7, k_X11_parts_8, k_X11_parts_9, k_X11_parts_10, k_X11_parts_11, k_X11_parts_12, k_X11_parts_13, k_X11_parts_14, k_X11_parts_15, k_X11_parts_16, k_X11_parts_17, k_X11_parts_18, k_X11_parts_19, k_X11_parts_20, k_X11_parts_21, k_X11_parts_22, k_X11_parts_23, k_X11_parts_24, k_X11_parts_25, k_X11_parts_26, k_X11_parts_27, oE_some, Int.reduceToNat, Nat.reduceAdd, true_and, and_true, List.length_cons, List.length_nil, Option.toList_some, Option.toList_none, List.cons_append, List.nil_append, Nat.reduceLeDiff, Nat.le_refl, wdS_nil, wdS_i, wdS_l, wdS_r, wdS_n, wdS_s, k0, w32_nat bk, w5, w2', n5, n2, cS, v3, ↓reduceIte]
    · have n2 : ((kk : Int) = 2) = False := eq_false (by omega)
      obtain ⟨h2, v, v1, v2, vv, v3⟩ := m_plainParts (d + 3) x p hm hi hs hp' hS
      have eB : qPB kk p = [12] := by unfold qPB; rw [if_neg c5, if_neg c2]
      have eV : qPV (dlM (mm : Int) (i : Int)) kk (mm : Int) (i : Int) x = dlM (mm : Int) (i : Int) x := by unfold qPV; rw [if_neg c5, if_neg c2]
      rw [eB, eV]
      refine ⟨h2, v, v1, v2, vv, fun R => ?_⟩
      rw [callD_k]; simp only [entL_i, entL_l, entL_q, entL_s, entL_nil, n_X11_parts, u_X11_parts, m_X11_parts, rep_0, List.cons_append, List.nil_append, List.append_nil, List.length_cons, List.length_nil, Nat.reduceAdd, true_and]
      simp only [AW_k, AWk_1, x_aload_0, x_aloads_0, x_getf, x_push_i, x_push_l, x_icmp_ne, x_callv_2, x_iload_1, x_isub, x_ixor, x_ret, x_ret_i, x_ret_z, x_ret_l, x_ret_c, x_goto, k_X11_parts_0, k_X11_parts_1, k_X11_parts_2, k_X11_parts_3, k_X11_parts_4, k_X11_parts_5, k_X11_parts_6, k_X11_parts_7, k_X11_parts_8, k_X11_parts_9, k_X11_parts_10, k_X11_parts_11, k_X11_parts_12, k_X11_parts_13, k_X11_parts_14, k_X11_parts_15, k_X11_parts_16, k_X11_parts_17, k_X11_parts_18, k_X11_parts_19, k_X11_parts_20, k_X11_parts_21, k_X11_parts_22, k_X11_parts_23, k_X11_parts_24, k_X11_parts_25, k_X11_parts_26, k_X11_parts_27, oE_some, Int.reduceToNat, Nat.reduceAdd, true_and, and_true, List.length_cons, List.length_nil, Option.toList_some, Option.toList_none, List.cons_append, List.nil_append, Nat.reduceLeDiff, Nat.le_refl, wdS_nil, wdS_i, wdS_l, wdS_r, wdS_n, wdS_s, k0, w32_nat bk, w5, w2', n5, n2, cS, v3, ↓reduceIte]
set_option maxHeartbeats 16000000 in
theorem m_plainJoins (d : Nat) {hp : HP} {n : Nat} {G : BitVec 64} {z : Int} {c : Nat} {ks : List Int} {es : List Int} {ik : Bool} {kn : Nat} {kG : BitVec 64} {kz : Int} {kc : Nat} {kks : List Int} {kes : List Int} {tc : Nat} {tb : List Int} {sc : Nat} {tl : List Int} {so : List Int} {le : List Int} {it : Nat → List (BitVec 64)} {he : List Int} {th : List Int} {sl : List Int} {kk mm i : Nat} (x : Int) {s : ASt} (p : Bool) (hk : kk < 6) (hm : mm < 16) (hi : i < 6) (hs : s.2.2 = false) (hp' : p = decide (w32 ((mm : Int) - (i : Int)) = 0)) (hS : ZS hp (kk : Int) (i : Int) (mm : Int) n G z c ks es ik kn kG kz kc kks kes tc tb sc tl so le it he th sl (s)) : ∃ h' v, ZS h' (kk : Int) (i : Int) (mm : Int) n G z c ks es ik kn kG kz kc kks kes tc tb sc tl so le it he th sl (stp p (begs (qJB kk p) s)) ∧ Fr 54 83 hp h' ∧ (p = false → v = qJV (dlM (mm : Int) (i : Int)) kk (mm : Int) (i : Int) x) ∧ ∀ R : PO, callD (d + 7) 281 [mR 54, mI x] hp R ↔ R (some (mI v)) h' := by
  obtain ⟨h1, u1, u2, u3⟩ := m_ran (d + 5) 13 hS
  have u3 : ∀ R : PO, callD (d + 6) 272 [mR 54, mI 13] hp R ↔ R none h1 := u3
  obtain ⟨h2, v1, v2, v3⟩ := m_bends d x hk u1
  obtain ⟨h3, v, w1, w2, ww, w3⟩ := m_parts d (x + 1) p hk hm hi ((begs_f _ _).trans ((beg_f 13 s).trans hs)) hp' v1
  have e : stp p (begs (qJB kk p) s) = stp p (begs (qPB kk p) (begs (qBB kk) (beg 13 s))) := by
    unfold qJB
    rw [begs_cons, begs_app]
  refine ⟨h3, iXor (qBV kk (mm : Int) (i : Int) x) v, by rw [e]; exact w1, Fr_trans (Fr_trans u2 v2) w2, fun q => by rw [ww q]; rfl, fun R => ?_⟩
  rw [callD_k]; simp only [entL_i, entL_l, entL_q, entL_s, entL_nil, n_X11_plainJoins, u_X11_plainJoins, m_X11_plainJoins, rep_1, List.cons_append, List.nil_append, List.append_nil, List.length_cons, List.length_nil, Nat.reduceAdd, true_and]
  simp only [AW_k, AWk_1, x_aload_0, x_aloads_0, x_push_i, x_push_l, x_callv_2, x_iload_1, x_istore_2, x_iload_2, x_iadd, x_ixor, x_ret, x_ret_i, x_ret_z, x_ret_l, x_ret_c, unl_i, unl_l, unl_q, unl_r, unl_s, unl_n, k_X11_plainJoins_0, k_X11_plainJoins_1, k_X11_plainJoins_2, k_X11_plainJoins_3, k_X11_plainJoins_4, k_X11_plainJoins_5, k_X11_plainJoins_6, k_X11_plainJoins_7, k_X11_plainJoins_8, k_X11_plainJoins_9, k_X11_plainJoins_10, k_X11_plainJoins_11, k_X11_plainJoins_12, k_X11_plainJoins_13, k_X11_plainJoins_14, oE_some, Int.reduceToNat, Nat.reduceAdd, true_and, and_true, List.length_cons, List.length_nil, Option.toList_some, Option.toList_none, List.cons_append, List.nil_append, Nat.reduceLeDiff, Nat.le_refl, wdS_nil, wdS_i, wdS_l, wdS_r, wdS_n, wdS_s, ZS_C hS, ZS_C u1, ZS_C v1, u3, v3, w3]
set_option maxHeartbeats 16000000 in
theorem m_joins (d : Nat) {hp : HP} {n : Nat} {G : BitVec 64} {z : Int} {c : Nat} {ks : List Int} {es : List Int} {ik : Bool} {kn : Nat} {kG : BitVec 64} {kz : Int} {kc : Nat} {kks : List Int} {kes : List Int} {tc : Nat} {tb : List Int} {sc : Nat} {tl : List Int} {so : List Int} {le : List Int} {it : Nat → List (BitVec 64)} {he : List Int} {th : List Int} {sl : List Int} {kk mm i : Nat} (x : Int) {s : ASt} (p : Bool) (hk : kk < 6) (hm : mm < 16) (hi : i < 6) (hs : s.2.2 = false) (hp' : p = decide (w32 ((mm : Int) - (i : Int)) = 0)) (hS : ZS hp (kk : Int) (i : Int) (mm : Int) n G z c ks es ik kn kG kz kc kks kes tc tb sc tl so le it he th sl (s)) : ∃ h' v, ZS h' (kk : Int) (i : Int) (mm : Int) n G z c ks es ik kn kG kz kc kks kes tc tb sc tl so le it he th sl (stp p (begs (jjB kk p) s)) ∧ Fr 54 83 hp h' ∧ (p = false → v = jjV (dlM (mm : Int) (i : Int)) kk (mm : Int) (i : Int) x) ∧ ∀ R : PO, callD (d + 8) 282 [mR 54, mI x] hp R ↔ R (some (mI v)) h' := by
  have k0 := hS.2.1.1
  have cS := ZS_C hS
  have w4 : w32 4 = 4 := rfl
  have w5 : w32 5 = 5 := rfl
  have bk : kk < 2147483648 := by omega
  by_cases c4 : kk = 4
  · have n4 : ((kk : Int) = 4) = True := eq_true (by omega)
    obtain ⟨h1, u1, u2, u3⟩ := m_ran (d + 6) 50 hS
    have u3 : ∀ R : PO, callD (d + 7) 272 [mR 54, mI 50] hp R ↔ R none h1 := u3
    obtain ⟨h2, v, v1, v2, vv, v3⟩ := m_plainJoins d x p hk hm hi ((beg_f 50 s).trans hs) hp' u1
    have z49 := v1.2.1.2.2.2
    rw [stp_f] at z49
    have eB : jjB kk p = 50 :: (qJB kk p ++ (if p = true then [] else qBB kk)) := by unfold jjB; rw [if_pos c4]
    have eV : jjV (dlM (mm : Int) (i : Int)) kk (mm : Int) (i : Int) x = qJV (dlM (mm : Int) (i : Int)) kk (mm : Int) (i : Int) x - qBV kk (mm : Int) (i : Int) (mm : Int) := by unfold jjV; rw [if_pos c4]
    rw [eB, eV]
    cases p with
    | true =>
      rw [if_pos rfl, List.append_nil]
      refine ⟨h2, 0, v1, Fr_trans u2 v2, fun q => absurd q (by decide), fun R => ?_⟩
      rw [callD_k]; simp only [entL_i, entL_l, entL_q, entL_s, entL_nil, n_X11_joins, u_X11_joins, m_X11_joins, rep_1, List.cons_append, List.nil_append, List.append_nil, List.length_cons, List.length_nil, Nat.reduceAdd, true_and]
      simp only [AW_k, AWk_1, x_aload_0, x_aloads_0, x_getf, x_push_i, x_push_l, x_icmp_eq, x_icmp_ne, x_goto, x_callv_2, x_iload_1, x_istore_2, x_if_eq, x_ret, x_ret_i, x_ret_z, x_ret_l, x_ret_c, unl_i, unl_l, unl_q, unl_r, unl_s, unl_n, k_X11_joins_0, k_X11_joins_1, k_X11_joins_2, k_X11_joins_3, k_X11_joins_4, k_X11_joins_5, k_X11_joins_6, k_X11_joins_7, k_X11_joins_12, k_X11_joins_13, k_X11_joins_14, k_X11_joins_15, k_X11_joins_16, k_X11_joins_17, k_X11_joins_18, k_X11_joins_19, k_X11_joins_20, k_X11_joins_21, k_X11_joins_22, k_X11_joins_23, k_X11_joins_24, k_X11_joins_25, k_X11_joins_26, k_X11_joins_27, k_X11_joins_28, k_X11_joins_29, oE_some, Int.reduceToNat, Nat.reduceAdd, true_and, and_true, List.length_cons, List.length_nil, Option.toList_some, Option.toList_none, List.cons_append, List.nil_append, Nat.reduceLeDiff, Nat.le_refl, wdS_nil, wdS_i, wdS_l, wdS_r, wdS_n, wdS_s, k0, w32_nat bk, w4, w5, n4, cS, u3, ZS_C u1, v3, z49, zI_t, w10, ↓reduceIte]
    | false =>
      have h0 : (begs (qJB kk false) (beg 50 s)).2.2 = false := (begs_f _ _).trans ((beg_f 50 s).trans hs)
      rw [stp_same h0] at v1
      have y46 := v1.2.1.1
      have y48 := v1.2.1.2.2.1
      obtain ⟨h3, w1, w2, w3⟩ := m_bends (d + 1) (mm : Int) hk v1
      have e : stp false (begs (50 :: (qJB kk false ++ (if false = true then [] else qBB kk))) s) = begs (qBB kk) (begs (qJB kk false) (beg 50 s)) := by
        rw [if_neg (by decide), begs_cons, begs_app]
        exact stp_same ((begs_f _ _).trans h0)
      refine ⟨h3, v - qBV kk (mm : Int) (i : Int) (mm : Int), by rw [e]; exact w1, Fr_trans (Fr_trans u2 v2) w2, fun q => by rw [vv q], fun R => ?_⟩
      rw [callD_k]; simp only [entL_i, entL_l, entL_q, entL_s, entL_nil, n_X11_joins, u_X11_joins, m_X11_joins, rep_1, List.cons_append, List.nil_append, List.append_nil, List.length_cons, List.length_nil, Nat.reduceAdd, true_and]
      simp only [AW_k, AWk_1, x_aload_0, x_aloads_0, x_getf, x_push_i, x_push_l, x_icmp_eq, x_iload_1, x_callv_2, x_ret, x_ret_i, x_ret_z, x_ret_l, x_ret_c, x_icmp_ne, x_goto, x_istore_2, x_if_eq, x_iload_2, x_isub, x_iadd, unl_i, unl_l, unl_q, unl_r, unl_s, unl_n, k_X11_joins_0, k_X11_joins_1, k_X11_joins_2, k_X11_joins_3, k_X11_joins_4, k_X11_joins_5, k_X11_joins_6, k_X11_joins_7, k_X11_joins_8, k_X11_joins_9, k_X11_joins_10, k_X11_joins_11, k_X11_joins_12, k_X11_joins_13, k_X11_joins_14, k_X11_joins_15, k_X11_joins_16, k_X11_joins_17, k_X11_joins_18, k_X11_joins_19, k_X11_joins_20, k_X11_joins_21, k_X11_joins_22, k_X11_joins_23, k_X11_joins_24, k_X11_joins_25, k_X11_joins_26, k_X11_joins_27, k_X11_joins_28, k_X11_joins_29, k_X11_joins_30, k_X11_joins_31, k_X11_joins_32, k_X11_joins_33, k_X11_joins_34, k_X11_joins_35, k_X11_joins_36, k_X11_joins_37, k_X11_joins_38, k_X11_joins_39, k_X11_joins_40, k_X11_joins_41, k_X11_joins_42, k_X11_joins_43, k_X11_joins_44, k_X11_joins_45, k_X11_joins_46, oE_some, Int.reduceToNat, Nat.reduceAdd, true_and, and_true, List.length_cons, List.length_nil, Option.toList_some, Option.toList_none, List.cons_append, List.nil_append, Nat.reduceLeDiff, Nat.le_refl, wdS_nil, wdS_i, wdS_l, wdS_r, wdS_n, wdS_s, k0, w32_nat bk, w4, w5, n4, cS, u3, ZS_C u1, v3, z49, zI_f, w00, y46, y48, ZS_C v1, w3, ↓reduceIte]
  · have n4 : ((kk : Int) = 4) = False := eq_false (by omega)
    by_cases c5 : kk = 5
    · have n5 : ((kk : Int) = 5) = True := eq_true (by omega)
      obtain ⟨h1, u1, u2, u3⟩ := m_ran (d + 6) 61 hS
      have u3 : ∀ R : PO, callD (d + 7) 272 [mR 54, mI 61] hp R ↔ R none h1 := u3
      obtain ⟨h2, v, v1, v2, vv, v3⟩ := m_plainJoins d x p hk hm hi ((beg_f 61 s).trans hs) hp' u1
      have z49 := v1.2.1.2.2.2
      rw [stp_f] at z49
      have eB : jjB kk p = 61 :: (qJB kk p ++ (if p = true then [] else qBB kk)) := by unfold jjB; rw [if_neg c4, if_pos c5]
      have eV : jjV (dlM (mm : Int) (i : Int)) kk (mm : Int) (i : Int) x = qJV (dlM (mm : Int) (i : Int)) kk (mm : Int) (i : Int) x + qBV kk (mm : Int) (i : Int) 1 := by unfold jjV; rw [if_neg c4, if_pos c5]
      rw [eB, eV]
      cases p with
      | true =>
        rw [if_pos rfl, List.append_nil]
        refine ⟨h2, 0, v1, Fr_trans u2 v2, fun q => absurd q (by decide), fun R => ?_⟩
        rw [callD_k]; simp only [entL_i, entL_l, entL_q, entL_s, entL_nil, n_X11_joins, u_X11_joins, m_X11_joins, rep_1, List.cons_append, List.nil_append, List.append_nil, List.length_cons, List.length_nil, Nat.reduceAdd, true_and]
        simp only [AW_k, AWk_1, x_aload_0, x_aloads_0, x_getf, x_push_i, x_push_l, x_icmp_eq, x_icmp_ne, x_goto, x_callv_2, x_iload_1, x_istore_2, x_if_eq, x_ret, x_ret_i, x_ret_z, x_ret_l, x_ret_c, unl_i, unl_l, unl_q, unl_r, unl_s, unl_n, k_X11_joins_0, k_X11_joins_1, k_X11_joins_2, k_X11_joins_3, k_X11_joins_4, k_X11_joins_5, k_X11_joins_6, k_X11_joins_7, k_X11_joins_12, k_X11_joins_13, k_X11_joins_14, k_X11_joins_15, k_X11_joins_16, k_X11_joins_17, k_X11_joins_18, k_X11_joins_19, k_X11_joins_20, k_X11_joins_21, k_X11_joins_22, k_X11_joins_23, k_X11_joins_24, k_X11_joins_25, k_X11_joins_26, k_X11_joins_27, k_X11_joins_28, k_X11_joins_29, oE_some, Int.reduceToNat, Nat.reduceAdd, true_and, and_true, List.length_cons, List.length_nil, Option.toList_some, Option.toList_none, List.cons_append, List.nil_append, Nat.reduceLeDiff, Nat.le_refl, wdS_nil, wdS_i, wdS_l, wdS_r, wdS_n, wdS_s, k0, w32_nat bk, w4, w5, n4, n5, cS, u3, ZS_C u1, v3, z49, zI_t, w10, ↓reduceIte]
      | false =>
        have h0 : (begs (qJB kk false) (beg 61 s)).2.2 = false := (begs_f _ _).trans ((beg_f 61 s).trans hs)
        rw [stp_same h0] at v1
        have y46 := v1.2.1.1
        obtain ⟨h3, w1, w2, w3⟩ := m_bends (d + 1) 1 hk v1
        have e : stp false (begs (61 :: (qJB kk false ++ (if false = true then [] else qBB kk))) s) = begs (qBB kk) (begs (qJB kk false) (beg 61 s)) := by
          rw [if_neg (by decide), begs_cons, begs_app]
          exact stp_same ((begs_f _ _).trans h0)
        refine ⟨h3, v + qBV kk (mm : Int) (i : Int) 1, by rw [e]; exact w1, Fr_trans (Fr_trans u2 v2) w2, fun q => by rw [vv q], fun R => ?_⟩
        rw [callD_k]; simp only [entL_i, entL_l, entL_q, entL_s, entL_nil, n_X11_joins, u_X11_joins, m_X11_joins, rep_1, List.cons_append, List.nil_append, List.append_nil, List.length_cons, List.length_nil, Nat.reduceAdd, true_and]
        simp only [AW_k, AWk_1, x_aload_0, x_aloads_0, x_getf, x_push_i, x_push_l, x_icmp_eq, x_iload_1, x_callv_2, x_ret, x_ret_i, x_ret_z, x_ret_l, x_ret_c, x_icmp_ne, x_goto, x_istore_2, x_if_eq, x_iload_2, x_isub, x_iadd, unl_i, unl_l, unl_q, unl_r, unl_s, unl_n, k_X11_joins_0, k_X11_joins_1, k_X11_joins_2, k_X11_joins_3, k_X11_joins_4, k_X11_joins_5, k_X11_joins_6, k_X11_joins_7, k_X11_joins_8, k_X11_joins_9, k_X11_joins_10, k_X11_joins_11, k_X11_joins_12, k_X11_joins_13, k_X11_joins_14, k_X11_joins_15, k_X11_joins_16, k_X11_joins_17, k_X11_joins_18, k_X11_joins_19, k_X11_joins_20, k_X11_joins_21, k_X11_joins_22, k_X11_joins_23, k_X11_joins_24, k_X11_joins_25, k_X11_joins_26, k_X11_joins_27, k_X11_joins_28, k_X11_joins_29, k_X11_joins_30, k_X11_joins_31, k_X11_joins_32, k_X11_joins_33, k_X11_joins_34, k_X11_joins_35, k_X11_joins_36, k_X11_joins_37, k_X11_joins_38, k_X11_joins_39, k_X11_joins_40, k_X11_joins_41, k_X11_joins_42, k_X11_joins_43, k_X11_joins_44, k_X11_joins_45, k_X11_joins_46, oE_some, Int.reduceToNat, Nat.reduceAdd, true_and, and_true, List.length_cons, List.length_nil, Option.toList_some, Option.toList_none, List.cons_append, List.nil_append, Nat.reduceLeDiff, Nat.le_refl, wdS_nil, wdS_i, wdS_l, wdS_r, wdS_n, wdS_s, k0, w32_nat bk, w4, w5, n4, n5, cS, u3, ZS_C u1, v3, z49, zI_f, w00, y46, ZS_C v1, w3, ↓reduceIte]
    · have n5 : ((kk : Int) = 5) = False := eq_false (by omega)
      obtain ⟨h2, v, v1, v2, vv, v3⟩ := m_plainJoins d x p hk hm hi hs hp' hS
      have eB : jjB kk p = qJB kk p := by unfold jjB; rw [if_neg c4, if_neg c5]
      have eV : jjV (dlM (mm : Int) (i : Int)) kk (mm : Int) (i : Int) x = qJV (dlM (mm : Int) (i : Int)) kk (mm : Int) (i : Int) x := by unfold jjV; rw [if_neg c4, if_neg c5]
      rw [eB, eV]
      refine ⟨h2, v, v1, v2, vv, fun R => ?_⟩
      rw [callD_k]; simp only [entL_i, entL_l, entL_q, entL_s, entL_nil, n_X11_joins, u_X11_joins, m_X11_joins, rep_1, List.cons_append, List.nil_append, List.append_nil, List.length_cons, List.length_nil, Nat.reduceAdd, true_and]
      simp only [AW_k, AWk_1, x_aload_0, x_aloads_0, x_getf, x_push_i, x_push_l, x_icmp_eq, x_iload_1, x_callv_2, x_ret, x_ret_i, x_ret_z, x_ret_l, x_ret_c, k_X11_joins_0, k_X11_joins_1, k_X11_joins_2, k_X11_joins_3, k_X11_joins_4, k_X11_joins_5, k_X11_joins_6, k_X11_joins_7, k_X11_joins_8, k_X11_joins_9, k_X11_joins_10, k_X11_joins_11, oE_some, Int.reduceToNat, Nat.reduceAdd, true_and, and_true, List.length_cons, List.length_nil, Option.toList_some, Option.toList_none, List.cons_append, List.nil_append, Nat.reduceLeDiff, Nat.le_refl, wdS_nil, wdS_i, wdS_l, wdS_r, wdS_n, wdS_s, k0, w32_nat bk, w4, w5, n4, n5, cS, v3, ↓reduceIte]
