/-! ===== the reference's act ===== -/
theorem stp_f' {s : ASt} (h : s.2.2 = false) : stp false s = s := stp_same h
set_option maxHeartbeats 16000000 in
theorem m_acts (d : Nat) {hp : HP} {n : Nat} {G : BitVec 64} {z : Int} {c : Nat} {ks : List Int} {es : List Int} {ik : Bool} {kn : Nat} {kG : BitVec 64} {kz : Int} {kc : Nat} {kks : List Int} {kes : List Int} {tc : Nat} {tb : List Int} {sc : Nat} {tl : List Int} {so : List Int} {le : List Int} {it : Nat → List (BitVec 64)} {he : List Int} {th : List Int} {sl : List Int} {kk mm i A : Nat} (x : Int) {s : ASt} (p : Bool) (y1 : Int) (hA : A < 4) (hk : kk < 6) (hm : mm < 16) (hi : i < 6) (hs : s.2.2 = false) (hp' : p = decide (w32 ((mm : Int) - (i : Int)) = 0)) (hS : ZS hp (kk : Int) (i : Int) (mm : Int) n G z c ks es ik kn kG kz kc kks kes tc tb sc tl so le it he th sl (s)) : ∃ h' v, ZS h' (kk : Int) (i : Int) (mm : Int) n G z c ks es ik kn kG kz kc kks kes tc tb sc tl so le it he th sl (stp (aF A p) (begs (aB kk A p) s)) ∧ Fr 54 83 hp h' ∧ (aF A p = false → v = aV (dlM (mm : Int) (i : Int)) kk A (mm : Int) (i : Int) x) ∧ ∀ R : PO, AW (d + 99) [] 283 R 41 [some (mR 54), some (mI y1), some (mI (A : Int)), some (mI x), none] [] hp (0, 0) ↔ AW (d + 99) [] 283 R 64 [some (mR 54), some (mI y1), some (mI (A : Int)), some (mI x), none] [mI v] h' (0, 0) := by
  have cS := ZS_C hS
  have w1 : w32 1 = 1 := rfl
  have w2 : w32 2 = 2 := rfl
  rcases (show A = 0 ∨ A = 1 ∨ A = 2 ∨ A = 3 by omega) with h | h | h | h <;> subst h
  · obtain ⟨h', v1, v2, v3⟩ := m_turns (d + 95) x hk hS
    refine ⟨h', qTV kk (i : Int) x, by rw [show stp (aF 0 p) (begs (aB kk 0 p) s) = begs (qTB kk) s from stp_same ((begs_f _ _).trans hs)]; exact v1, v2, fun _ => rfl, fun R => ?_⟩
    simp only [AW_k, AWk_1, x_iload_2, x_if_ne, x_aload_0, x_aloads_0, x_iload_3, x_callv_2, x_goto, x_push_i, x_push_l, x_icmp_ne, k_X11_act_41, k_X11_act_42, k_X11_act_43, k_X11_act_44, k_X11_act_45, k_X11_act_46, k_X11_act_47, k_X11_act_48, k_X11_act_49, k_X11_act_50, k_X11_act_51, k_X11_act_52, k_X11_act_53, k_X11_act_54, k_X11_act_55, k_X11_act_56, k_X11_act_57, k_X11_act_58, k_X11_act_59, k_X11_act_60, k_X11_act_61, k_X11_act_62, k_X11_act_63, oE_some, Int.reduceToNat, Nat.reduceAdd, true_and, and_true, List.length_cons, List.length_nil, Option.toList_some, Option.toList_none, List.cons_append, List.nil_append, Nat.reduceLeDiff, Nat.le_refl, wdS_nil, wdS_i, wdS_l, wdS_r, wdS_n, wdS_s, z0, cS, v3, ↓reduceIte]
    all_goals exact Iff.rfl
  · obtain ⟨h', v1, v2, v3⟩ := m_bends (d + 93) x hk hS
    refine ⟨h', qBV kk (mm : Int) (i : Int) x, by rw [show stp (aF 1 p) (begs (aB kk 1 p) s) = begs (qBB kk) s from stp_same ((begs_f _ _).trans hs)]; exact v1, v2, fun _ => rfl, fun R => ?_⟩
    simp only [AW_k, AWk_1, x_iload_2, x_if_ne, x_aload_0, x_aloads_0, x_iload_3, x_callv_2, x_goto, x_push_i, x_push_l, x_icmp_ne, k_X11_act_41, k_X11_act_42, k_X11_act_43, k_X11_act_44, k_X11_act_45, k_X11_act_46, k_X11_act_47, k_X11_act_48, k_X11_act_49, k_X11_act_50, k_X11_act_51, k_X11_act_52, k_X11_act_53, k_X11_act_54, k_X11_act_55, k_X11_act_56, k_X11_act_57, k_X11_act_58, k_X11_act_59, k_X11_act_60, k_X11_act_61, k_X11_act_62, k_X11_act_63, oE_some, Int.reduceToNat, Nat.reduceAdd, true_and, and_true, List.length_cons, List.length_nil, Option.toList_some, Option.toList_none, List.cons_append, List.nil_append, Nat.reduceLeDiff, Nat.le_refl, wdS_nil, wdS_i, wdS_l, wdS_r, wdS_n, wdS_s, z1, w1, Int.reduceEq, cS, v3, ↓reduceIte]
    all_goals exact Iff.rfl
  · obtain ⟨h', v, v1, v2, vv, v3⟩ := m_parts (d + 93) x p hk hm hi hs hp' hS
    refine ⟨h', v, v1, v2, vv, fun R => ?_⟩
    simp only [AW_k, AWk_1, x_iload_2, x_if_ne, x_aload_0, x_aloads_0, x_iload_3, x_callv_2, x_goto, x_push_i, x_push_l, x_icmp_ne, k_X11_act_41, k_X11_act_42, k_X11_act_43, k_X11_act_44, k_X11_act_45, k_X11_act_46, k_X11_act_47, k_X11_act_48, k_X11_act_49, k_X11_act_50, k_X11_act_51, k_X11_act_52, k_X11_act_53, k_X11_act_54, k_X11_act_55, k_X11_act_56, k_X11_act_57, k_X11_act_58, k_X11_act_59, k_X11_act_60, k_X11_act_61, k_X11_act_62, k_X11_act_63, oE_some, Int.reduceToNat, Nat.reduceAdd, true_and, and_true, List.length_cons, List.length_nil, Option.toList_some, Option.toList_none, List.cons_append, List.nil_append, Nat.reduceLeDiff, Nat.le_refl, wdS_nil, wdS_i, wdS_l, wdS_r, wdS_n, wdS_s, z2, w1, w2, Int.reduceEq, cS, v3, ↓reduceIte]
    all_goals exact Iff.rfl
  · obtain ⟨h', v, v1, v2, vv, v3⟩ := m_joins (d + 91) x p hk hm hi hs hp' hS
    refine ⟨h', v, v1, v2, vv, fun R => ?_⟩
    simp only [AW_k, AWk_1, x_iload_2, x_if_ne, x_aload_0, x_aloads_0, x_iload_3, x_callv_2, x_goto, x_push_i, x_push_l, x_icmp_ne, k_X11_act_41, k_X11_act_42, k_X11_act_43, k_X11_act_44, k_X11_act_45, k_X11_act_46, k_X11_act_47, k_X11_act_48, k_X11_act_49, k_X11_act_50, k_X11_act_51, k_X11_act_52, k_X11_act_53, k_X11_act_54, k_X11_act_55, k_X11_act_56, k_X11_act_57, k_X11_act_58, k_X11_act_59, k_X11_act_60, k_X11_act_61, k_X11_act_62, k_X11_act_63, oE_some, Int.reduceToNat, Nat.reduceAdd, true_and, and_true, List.length_cons, List.length_nil, Option.toList_some, Option.toList_none, List.cons_append, List.nil_append, Nat.reduceLeDiff, Nat.le_refl, wdS_nil, wdS_i, wdS_l, wdS_r, wdS_n, wdS_s, z3, w1, w2, Int.reduceEq, cS, v3, ↓reduceIte]
    all_goals exact Iff.rfl
set_option maxHeartbeats 32000000 in
theorem x_act_m (d : Nat) {hp : HP} {n : Nat} {G : BitVec 64} {z : Int} {c : Nat} {ks : List Int} {es : List Int} {ik : Bool} {kn : Nat} {kG : BitVec 64} {kz : Int} {kc : Nat} {kks : List Int} {kes : List Int} {tc : Nat} {tb : List Int} {sc : Nat} {tl : List Int} {so : List Int} {le : List Int} {it : Nat → List (BitVec 64)} {he : List Int} {th : List Int} {sl : List Int} {tr : Nat} {bo : List Int} {x a v : Int} (hX : MI (hp) n G z c ks es ik kn kG kz kc kks kes tc tb sc tl so le it he th sl tr bo) (hV : slOK he th sl) (hM : mkOK c ks es) (hx : w32 x = x) (ha : w32 a = a) : ∃ h' v', MI (h') n G z c ks es ik kn kG kz kc kks kes tc tb sc tl so le it he th sl ((acO c ks es he th bo x a v).2.1) ((acO c ks es he th bo x a v).2.2) ∧ Fr 54 83 hp h' ∧ w32 v' = w32 (acO c ks es he th bo x a v).1 ∧ ∀ R : PO, callD (d + 100) 283 [mR 54, mI x, mI a, mI v] hp R ↔ R (some (mI v')) h' := by
  have hX0 := hX
  obtain ⟨⟨u1, u2, u3⟩, kN, kZ, kM, kGm, l5, l6, qk, q0, q1, q2, q3, q4, q5, q6, q7, q8, q9⟩ := hX
  obtain ⟨fr_, to_, co_, op_, wr_, ki_, nu_, mm_, pa_, hF⟩ := YO_F q0
  have hA : MA hp n := ⟨⟨⟨u2, u3⟩, hF 0, hF 18, hF 19, q1.1.1, q1.1.2⟩, ⟨hF 13, hF 14, hF 15, hF 16, hF 17⟩, q1.2⟩
  have hK := hA.1
  have cK := cM hK
  have hG : gF hp 54 11 3 = some (mL G) := hF 3
  have g45 : gF hp 54 11 45 = some (mI (tr : Int)) := hF 45
  have X1 : MI ((pF hp 54 11 45 (mI 0))) n G z c ks es ik kn kG kz kc kks kes tc tb sc tl so le it he th sl 0 bo := MI_otr (tr' := 0) hX0
  have f1 : Fr 54 83 hp (pF hp 54 11 45 (mI 0)) := Fr_o54
  have w0 : ∀ k, k ≠ 45 → gF (pF hp 54 11 45 (mI 0)) 54 11 k = gF hp 54 11 k := fun k hk => by rw [gF_pF (by omega)]
  obtain ⟨v1, v2, v3, ⟨a79, a80, a81⟩, ⟨n1, n2, n3⟩, H⟩ := q8
  obtain ⟨⟨a55, a56⟩, lks, les⟩ := q2
  have cP : gC (pF hp 54 11 45 (mI 0)) 54 = some 11 := gC_of ((w0 0 (by decide)).trans (hF 0))
  unfold acO
  cases ex : shO x with
  | none =>
    refine ⟨_, 0, X1, f1, rfl, fun R => ?_⟩
    rw [callD_k]; simp only [entL_i, entL_l, entL_q, entL_s, entL_nil, n_X11_act, u_X11_act, m_X11_act, rep_1, List.cons_append, List.nil_append, List.append_nil, List.length_cons, List.length_nil, Nat.reduceAdd, true_and]
    simp only [AW_k, AWk_1, x_aload_0, x_aloads_0, x_push_i, x_push_l, x_putf_i, x_iload_1, x_call_1, x_if_eq, x_iload_2, x_i2l, x_call_3, x_callv_2, x_ret, x_ret_i, x_ret_z, x_ret_l, x_ret_c, k_X11_act_0, k_X11_act_1, k_X11_act_2, k_X11_act_3, k_X11_act_4, k_X11_act_5, k_X11_act_6, k_X11_act_7, k_X11_act_8, k_X11_act_9, k_X11_act_10, k_X11_act_11, k_X11_act_12, k_X11_act_13, k_X11_act_14, k_X11_act_15, k_X11_act_16, k_X11_act_17, oE_some, Int.reduceToNat, Nat.reduceAdd, true_and, and_true, List.length_cons, List.length_nil, Option.toList_some, Option.toList_none, List.cons_append, List.nil_append, Nat.reduceLeDiff, Nat.le_refl, wdS_nil, wdS_i, wdS_l, wdS_r, wdS_n, wdS_s, g45, m_isShelf_n (d + 97) hx ex, w00, ↓reduceIte]
  | some s =>
    obtain ⟨hs, es'⟩ := shO_lt ex
    have ms := fun R => m_isShelf_s (d + 97) (hp := pF hp 54 11 45 (mI 0)) hx ex R
    have mh := fun R => m_heldBy (d + 96) X1 hV hM.2.2.1 hs R
    obtain ⟨H0, H1, H2⟩ := H s hs
    have ho := hoV_in (c := c) hV hs
    obtain ⟨-, hv⟩ := hV
    have bs : s < 2147483648 := by omega
    have i80 : inB (s : Int) v2.length := by rw [n2]; exact inB_n hs (by decide)
    subst es'
    by_cases cc : 0 ≤ a ∧ a < 4 ∧ hoV c he th s = 1
    · simp only [if_pos cc]
      obtain ⟨c1, c2, c3⟩ := cc
      obtain ⟨A, hA⟩ : ∃ A : Nat, a = (A : Int) := ⟨a.toNat, by clear ha hx; omega⟩
      obtain ⟨i, hi⟩ := hoV_1 c3
      obtain ⟨i2, i3⟩ := mkO_lt hi
      obtain ⟨kk, mm, m1, m2, m3, m4⟩ := hM.2.2.2 i i2
      have c6 := hM.2.2.1
      have bi : i < 2147483648 := by clear ha hx; omega
      have i6 : i < 6 := by clear ha hx; omega
      have hA4 : A < 4 := by clear ha hx; omega
      have he1 : he.getD s 0 = 1 := by
        have e := c3
        unfold hoV at e
        split at e
        · next q => exact q
        · next q => exact absurd e q
      obtain ⟨x1, x2⟩ := H1 he1
      have ikk : inB (i : Int) ks.length := by rw [lks]; exact inB_n i6 (by decide)
      have im : inB (i : Int) es.length := by rw [les]; exact inB_n i6 (by decide)
      subst hA
      have d1 : inI (A : Int) 0 3 = true := decide_eq_true ⟨c1, by clear ha hx; omega⟩
      rw [c3] at mh
      have e1 : acR (ks.getD (th.getD s 0).toNat 0).toNat (es.getD (th.getD s 0).toNat 0) (th.getD s 0) (A : Int).toNat v (0, bo, false) = acR kk (mm : Int) (i : Int) A v (0, bo, false) := by
        rw [i3, Int.toNat_natCast, m1, m3, Int.toNat_natCast, Int.toNat_natCast]
      have e2 : acV (ks.getD (th.getD s 0).toNat 0).toNat (es.getD (th.getD s 0).toNat 0) (th.getD s 0) (A : Int).toNat v (0, bo, false) = acV kk (mm : Int) (i : Int) A v (0, bo, false) := by
        rw [i3, Int.toNat_natCast, m1, m3, Int.toNat_natCast, Int.toNat_natCast]
      rw [e1, e2]
      obtain ⟨p, hp'⟩ : ∃ p, p = decide (w32 ((mm : Int) - (i : Int)) = 0) := ⟨_, rfl⟩
      obtain ⟨u1, -⟩ := acR_is (x := v) (s := (0, bo, false)) m2 hA4 hp'
      have uV := acV_is (x := v) (s := (0, bo, false)) m2 hA4 hp'
      have Y2 := MI_g47 (v' := (i : Int)) X1
      have Y3 := MI_g46 (v' := (kk : Int)) Y2
      have Y4 := MI_g48 (v' := (mm : Int)) Y3
      have Y5 := MI_g49 (v' := 0) Y4
      have k47 : gF (pF hp 54 11 45 (mI 0)) 54 11 47 = some (mI nu_) := (w0 47 (by decide)).trans (hF 47)
      have k42 : gF (pF hp 54 11 45 (mI 0)) 54 11 42 = some (mR 80) := (w0 42 (by decide)).trans (hF 42)
      have b80 : gA (pF hp 54 11 45 (mI 0)) 80 = some v2 := by rw [gA_pF, a80]
      have w2 : ∀ k, k ≠ 45 → k ≠ 47 → gF (pF (pF hp 54 11 45 (mI 0)) 54 11 47 (mI (i : Int))) 54 11 k = gF hp 54 11 k := fun k h1 h2 => by rw [gF_pF (by omega), w0 k h1]
      have l4 : gF (pF (pF hp 54 11 45 (mI 0)) 54 11 47 (mI (i : Int))) 54 11 4 = some (mR 55) := (w2 4 (by decide) (by decide)).trans (hF 4)
      have l46 : gF (pF (pF hp 54 11 45 (mI 0)) 54 11 47 (mI (i : Int))) 54 11 46 = some (mI ki_) := (w2 46 (by decide) (by decide)).trans (hF 46)
      have l47 : gF (pF (pF hp 54 11 45 (mI 0)) 54 11 47 (mI (i : Int))) 54 11 47 = some (mI (i : Int)) := gF_pF_same k47
      have b55 : gA (pF (pF hp 54 11 45 (mI 0)) 54 11 47 (mI (i : Int))) 55 = some ks := by rw [gA_pF, gA_pF, a55]
      have w3 : ∀ k, k ≠ 45 → k ≠ 47 → k ≠ 46 → gF (pF (pF (pF hp 54 11 45 (mI 0)) 54 11 47 (mI (i : Int))) 54 11 46 (mI (kk : Int))) 54 11 k = gF hp 54 11 k := fun k h1 h2 h3 => by rw [gF_pF (by omega), w2 k h1 h2]
      have o5 : gF (pF (pF (pF hp 54 11 45 (mI 0)) 54 11 47 (mI (i : Int))) 54 11 46 (mI (kk : Int))) 54 11 5 = some (mR 56) := (w3 5 (by decide) (by decide) (by decide)).trans (hF 5)
      have o48 : gF (pF (pF (pF hp 54 11 45 (mI 0)) 54 11 47 (mI (i : Int))) 54 11 46 (mI (kk : Int))) 54 11 48 = some (mI mm_) := (w3 48 (by decide) (by decide) (by decide)).trans (hF 48)
      have o47 : gF (pF (pF (pF hp 54 11 45 (mI 0)) 54 11 47 (mI (i : Int))) 54 11 46 (mI (kk : Int))) 54 11 47 = some (mI (i : Int)) := by rw [gF_pF (by omega), l47]
      have o46 : gF (pF (pF (pF hp 54 11 45 (mI 0)) 54 11 47 (mI (i : Int))) 54 11 46 (mI (kk : Int))) 54 11 46 = some (mI (kk : Int)) := gF_pF_same l46
      have b56 : gA (pF (pF (pF hp 54 11 45 (mI 0)) 54 11 47 (mI (i : Int))) 54 11 46 (mI (kk : Int))) 56 = some es := by rw [gA_pF, gA_pF, gA_pF, a56]
      have r49 : gF (pF (pF (pF (pF hp 54 11 45 (mI 0)) 54 11 47 (mI (i : Int))) 54 11 46 (mI (kk : Int))) 54 11 48 (mI (mm : Int))) 54 11 49 = some (mI pa_) := by rw [gF_pF (by omega), w3 49 (by decide) (by decide) (by decide)]; exact hF 49
      have r48 : gF (pF (pF (pF (pF hp 54 11 45 (mI 0)) 54 11 47 (mI (i : Int))) 54 11 46 (mI (kk : Int))) 54 11 48 (mI (mm : Int))) 54 11 48 = some (mI (mm : Int)) := gF_pF_same o48
      have S5 : ZS (pF (pF (pF (pF (pF hp 54 11 45 (mI 0)) 54 11 47 (mI (i : Int))) 54 11 46 (mI (kk : Int))) 54 11 48 (mI (mm : Int))) 54 11 49 (mI 0)) (kk : Int) (i : Int) (mm : Int) n G z c ks es ik kn kG kz kc kks kes tc tb sc tl so le it he th sl (0, bo, false) := ⟨Y5, ⟨by rw [gF_pF (by omega), gF_pF (by omega), o46], by rw [gF_pF (by omega), gF_pF (by omega), o47], by rw [gF_pF (by omega), r48], gF_pF_same r49⟩, Nat.zero_le _⟩
      have f5 : Fr 54 83 hp (pF (pF (pF (pF (pF hp 54 11 45 (mI 0)) 54 11 47 (mI (i : Int))) 54 11 46 (mI (kk : Int))) 54 11 48 (mI (mm : Int))) 54 11 49 (mI 0)) := Fr_trans (Fr_trans (Fr_trans (Fr_trans f1 Fr_o54) Fr_o54) Fr_o54) Fr_o54
      obtain ⟨h6, v6, t1, t2, t3, t4⟩ := m_acts d v p (s : Int) hA4 m2 m4 i6 rfl hp' S5
      have z49 := t1.2.1.2.2.2
      rw [stp_f] at z49
      rw [u1]
      refine ⟨h6, if aF A p = true then -15 else v6, t1.1, Fr_trans f5 t2, ?_, fun R => ?_⟩
      · rw [uV]
        cases e : aF A p with
        | true => rfl
        | false => rw [t3 e]
      · have t4 := t4 R
        rw [callD_k]; simp only [entL_i, entL_l, entL_q, entL_s, entL_nil, n_X11_act, u_X11_act, m_X11_act, rep_1, List.cons_append, List.nil_append, List.append_nil, List.length_cons, List.length_nil, Nat.reduceAdd, true_and]
        simp only [AW_k, AWk_1, x_aload_0, x_aloads_0, x_push_i, x_push_l, x_putf_i, x_iload_1, x_call_1, x_if_eq, x_iload_2, x_i2l, x_call_3, x_callv_2, x_ret, x_ret_i, x_ret_z, x_ret_l, x_ret_c, k_X11_act_0, k_X11_act_1, k_X11_act_2, k_X11_act_3, k_X11_act_4, k_X11_act_5, k_X11_act_6, k_X11_act_7, k_X11_act_8, k_X11_act_9, k_X11_act_10, k_X11_act_11, k_X11_act_12, k_X11_act_13, k_X11_act_14, k_X11_act_15, k_X11_act_16, k_X11_act_17, oE_some, Int.reduceToNat, Nat.reduceAdd, true_and, and_true, List.length_cons, List.length_nil, Option.toList_some, Option.toList_none, List.cons_append, List.nil_append, Nat.reduceLeDiff, Nat.le_refl, wdS_nil, wdS_i, wdS_l, wdS_r, wdS_n, wdS_s, g45, ms, w10, w00, m_in (d + 98), tI_id ha, q0_I, q3_I, d1, zI_t, cP, mh, show rho 1 = 0 from rfl, ↓reduceIte]
        simp only [AW_k, AWk_1, x_aload_0, x_aloads_0, x_getf, x_iload_1, x_iald, x_ialds, x_putf_i, x_push_i, x_push_l, x_putf_z, k_X11_act_18, k_X11_act_19, k_X11_act_20, k_X11_act_21, k_X11_act_22, k_X11_act_23, k_X11_act_24, k_X11_act_25, k_X11_act_26, k_X11_act_27, k_X11_act_28, k_X11_act_29, k_X11_act_30, k_X11_act_31, k_X11_act_32, k_X11_act_33, k_X11_act_34, k_X11_act_35, k_X11_act_36, k_X11_act_37, k_X11_act_38, k_X11_act_39, k_X11_act_40, oE_some, Int.reduceToNat, Nat.reduceAdd, true_and, and_true, List.length_cons, List.length_nil, Option.toList_some, Option.toList_none, List.cons_append, List.nil_append, Nat.reduceLeDiff, Nat.le_refl, wdS_nil, wdS_i, wdS_l, wdS_r, wdS_n, wdS_s, k42, b80, i80, w32_nat bs, Int.toNat_natCast, x2, i3, k47, l4, l46, l47, b55, ikk, w32_nat bi, m1, o5, o48, o47, b56, im, m3, r49, true_or, true_and]
        refine Iff.trans (AW_k.symm.trans t4) ?_
        cases e : aF A p with
        | true =>
          rw [e] at z49
          simp only [AW_k, AWk_1, x_istore_4, x_aload_0, x_aloads_0, x_getf, x_if_eq, x_push_i, x_push_l, x_goto, x_iload_4, x_ret, x_ret_i, x_ret_z, x_ret_l, x_ret_c, unl_i, unl_l, unl_q, unl_r, unl_s, unl_n, k_X11_act_64, k_X11_act_65, k_X11_act_66, k_X11_act_67, k_X11_act_68, k_X11_act_69, k_X11_act_70, k_X11_act_71, oE_some, Int.reduceToNat, Nat.reduceAdd, true_and, and_true, List.length_cons, List.length_nil, Option.toList_some, Option.toList_none, List.cons_append, List.nil_append, Nat.reduceLeDiff, Nat.le_refl, wdS_nil, wdS_i, wdS_l, wdS_r, wdS_n, wdS_s, z49, zI_t, w10, ↓reduceIte]
        | false =>
          rw [e] at z49
          simp only [AW_k, AWk_1, x_istore_4, x_aload_0, x_aloads_0, x_getf, x_if_eq, x_push_i, x_push_l, x_goto, x_iload_4, x_ret, x_ret_i, x_ret_z, x_ret_l, x_ret_c, unl_i, unl_l, unl_q, unl_r, unl_s, unl_n, k_X11_act_64, k_X11_act_65, k_X11_act_66, k_X11_act_67, k_X11_act_68, k_X11_act_69, k_X11_act_70, k_X11_act_71, oE_some, Int.reduceToNat, Nat.reduceAdd, true_and, and_true, List.length_cons, List.length_nil, Option.toList_some, Option.toList_none, List.cons_append, List.nil_append, Nat.reduceLeDiff, Nat.le_refl, wdS_nil, wdS_i, wdS_l, wdS_r, wdS_n, wdS_s, z49, zI_f, w00, Bool.false_eq_true, ↓reduceIte]
    · simp only [if_neg cc]
      refine ⟨_, 0, X1, f1, rfl, fun R => ?_⟩
      by_cases c1 : 0 ≤ a ∧ a < 4
      · have d1 : inI a 0 3 = true := decide_eq_true ⟨c1.1, by clear ha hx; omega⟩
        have hne : ¬ hoV c he th s = 1 := fun q => cc ⟨c1.1, c1.2, q⟩
        have hr : (w32 (rho (hoV c he th s)) = 0) = False := by
          rcases ho with e | e | e
          · rw [e]; exact eq_false (by decide)
          · exact absurd e hne
          · rw [e]; exact eq_false (by decide)
        rw [callD_k]; simp only [entL_i, entL_l, entL_q, entL_s, entL_nil, n_X11_act, u_X11_act, m_X11_act, rep_1, List.cons_append, List.nil_append, List.append_nil, List.length_cons, List.length_nil, Nat.reduceAdd, true_and]
        simp only [AW_k, AWk_1, x_aload_0, x_aloads_0, x_push_i, x_push_l, x_putf_i, x_iload_1, x_call_1, x_if_eq, x_iload_2, x_i2l, x_call_3, x_callv_2, x_ret, x_ret_i, x_ret_z, x_ret_l, x_ret_c, k_X11_act_0, k_X11_act_1, k_X11_act_2, k_X11_act_3, k_X11_act_4, k_X11_act_5, k_X11_act_6, k_X11_act_7, k_X11_act_8, k_X11_act_9, k_X11_act_10, k_X11_act_11, k_X11_act_12, k_X11_act_13, k_X11_act_14, k_X11_act_15, k_X11_act_16, k_X11_act_17, oE_some, Int.reduceToNat, Nat.reduceAdd, true_and, and_true, List.length_cons, List.length_nil, Option.toList_some, Option.toList_none, List.cons_append, List.nil_append, Nat.reduceLeDiff, Nat.le_refl, wdS_nil, wdS_i, wdS_l, wdS_r, wdS_n, wdS_s, g45, ms, w10, m_in (d + 98), tI_id ha, q0_I, q3_I, d1, zI_t, cP, mh, hr, ↓reduceIte]
      · have d1 : inI a 0 3 = false := decide_eq_false (fun q => c1 ⟨q.1, by clear ha hx; omega⟩)
        rw [callD_k]; simp only [entL_i, entL_l, entL_q, entL_s, entL_nil, n_X11_act, u_X11_act, m_X11_act, rep_1, List.cons_append, List.nil_append, List.append_nil, List.length_cons, List.length_nil, Nat.reduceAdd, true_and]
        simp only [AW_k, AWk_1, x_aload_0, x_aloads_0, x_push_i, x_push_l, x_putf_i, x_iload_1, x_call_1, x_if_eq, x_iload_2, x_i2l, x_call_3, x_callv_2, x_ret, x_ret_i, x_ret_z, x_ret_l, x_ret_c, k_X11_act_0, k_X11_act_1, k_X11_act_2, k_X11_act_3, k_X11_act_4, k_X11_act_5, k_X11_act_6, k_X11_act_7, k_X11_act_8, k_X11_act_9, k_X11_act_10, k_X11_act_11, k_X11_act_12, k_X11_act_13, k_X11_act_14, k_X11_act_15, k_X11_act_16, k_X11_act_17, oE_some, Int.reduceToNat, Nat.reduceAdd, true_and, and_true, List.length_cons, List.length_nil, Option.toList_some, Option.toList_none, List.cons_append, List.nil_append, Nat.reduceLeDiff, Nat.le_refl, wdS_nil, wdS_i, wdS_l, wdS_r, wdS_n, wdS_s, g45, ms, w10, w00, m_in (d + 98), tI_id ha, q0_I, q3_I, d1, zI_f, ↓reduceIte]
