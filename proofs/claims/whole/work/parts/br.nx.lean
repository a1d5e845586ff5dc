/-! ===== the reference's keep, again, size, many ===== -/
theorem qq6_I : (6#64).toInt = 6 := by decide
theorem MI_G {hp : HP} {n : Nat} {G : BitVec 64} {z : Int} {c : Nat} {ks : List Int} {es : List Int} {ik : Bool} {kn : Nat} {kG : BitVec 64} {kz : Int} {kc : Nat} {kks : List Int} {kes : List Int} {tc : Nat} {tb : List Int} {sc : Nat} {tl : List Int} {so : List Int} {le : List Int} {it : Nat → List (BitVec 64)} {he : List Int} {th : List Int} {sl : List Int} {tr : Nat} {bo : List Int} (hX : MI (hp) n G z c ks es ik kn kG kz kc kks kes tc tb sc tl so le it he th sl tr bo) : MA hp n ∧ gF hp 54 11 3 = some (mL G) := by
  obtain ⟨⟨u1, u2, u3⟩, kN, kZ, kM, kGm, l5, l6, qk, q0, q1, q2, q3, q4, q5, q6, q7, q8, q9⟩ := hX
  obtain ⟨fr_, to_, co_, op_, wr_, ki_, nu_, mm_, pa_, hF⟩ := YO_F q0
  have hA : MA hp n := ⟨⟨⟨u2, u3⟩, hF 0, hF 18, hF 19, q1.1.1, q1.1.2⟩, ⟨hF 13, hF 14, hF 15, hF 16, hF 17⟩, q1.2⟩
  have hK := hA.1
  have cK := cM hK
  have hG : gF hp 54 11 3 = some (mL G) := hF 3
  exact ⟨hA, hG⟩
theorem ext_D {α : Type} {z : α} {l m : List α} (h1 : l.length = m.length) (h : ∀ q, q < m.length → l.getD q z = m.getD q z) : l = m := by
  apply List.ext_getElem h1
  intro i a b
  have := h i b
  rw [List.getD_eq_getElem?_getD, List.getD_eq_getElem?_getD, List.getElem?_eq_getElem a, List.getElem?_eq_getElem b] at this
  exact this
theorem gF_c {hp : HP} {L : List AV} (e : hp[54]? = some (.inl (11, L))) (k : Nat) : gF hp 54 11 k = L[k]? := by
  unfold gF
  rw [e]
  rfl
theorem MI_mk {hp h : HP} {n : Nat} {G : BitVec 64} {z : Int} {c : Nat} {ks : List Int} {es : List Int} {ik : Bool} {kn : Nat} {kG : BitVec 64} {kz : Int} {kc : Nat} {kks : List Int} {kes : List Int} {tc : Nat} {tb : List Int} {sc : Nat} {tl : List Int} {so : List Int} {le : List Int} {it : Nat → List (BitVec 64)} {he : List Int} {th : List Int} {sl : List Int} {tr : Nat} {bo : List Int} {n' : Nat} {G' : BitVec 64} {z' : Int} {c' : Nat} {ks' es' : List Int} {ik' : Bool} {kn' : Nat} {kG' : BitVec 64} {kz' : Int} {kc' : Nat} {kks' kes' : List Int} {kN kZ kM : Int} {kGm : BitVec 64} {l5 l6 : List Int} {fr_ to_ co_ op_ wr_ ki_ nu_ mm_ pa_ : Int} (hX : MI (hp) n G z c ks es ik kn kG kz kc kks kes tc tb sc tl so le it he th sl tr bo) (hl : h.length = hp.length) (hn : 1 ≤ n' ∧ n' ≤ 6) (qk : ik' = true → kN = (kn' : Int) ∧ kZ = kz' ∧ kM = (kc' : Int) ∧ kGm = kG' ∧ l5 = kks' ∧ l6 = kes') (eO : h[54]? = some (.inl (11, mFs n' z' c' G' ik' tc sc tr kN kZ kM kGm fr_ to_ co_ op_ wr_ ki_ nu_ mm_ pa_))) (eT : YT h n') (eM : YM h ks' es') (eK : YK h l5 l6) (s : Sm 65 83 hp h) : MI (h) n' G' z' c' ks' es' ik' kn' kG' kz' kc' kks' kes' tc tb sc tl so le it he th sl tr bo := by
  obtain ⟨⟨u1, u2, u3⟩, kN0, kZ0, kM0, kGm0, l50, l60, qk0, q0, q1, q2, q3, q4, q5, q6, q7, q8, q9⟩ := hX
  exact ⟨⟨by rw [hl]; exact u1, hn.1, hn.2⟩, kN, kZ, kM, kGm, l5, l6, qk, ⟨fr_, to_, co_, op_, wr_, ki_, nu_, mm_, pa_, eO⟩, eT, eM, eK, YP_S q4 (fun k a b => s k (by omega) (by omega)), YW_S q5 (fun k a b => s k (by omega) (by omega)), YS_S q6 (fun k a b => s k (by omega) (by omega)), YH_S q7 (fun k a b => s k (by omega) (by omega)), YV_S q8 (fun k a b => s k (by omega) (by omega)), YA_S q9 (fun k a b => s k (by omega) (by omega))⟩
set_option maxHeartbeats 16000000 in
theorem m_keepLoop (d : Nat) {ks es : List Int} (lks : ks.length = 6) (les : es.length = 6) : ∀ (f k : Nat) (l5 l6 : List Int) (h : HP), k + f = 6 → (gF h 54 11 4 = some (mR 55) ∧ gF h 54 11 5 = some (mR 56) ∧ gF h 54 11 10 = some (mR 57) ∧ gF h 54 11 11 = some (mR 58)) → (gA h 55 = some ks ∧ gA h 56 = some es ∧ gA h 57 = some l5 ∧ gA h 58 = some l6) → l5.length = 6 → l6.length = 6 → (∀ q, q < k → l5.getD q 0 = ks.getD q 0 ∧ l6.getD q 0 = es.getD q 0) → ∃ h', Fr 57 59 h h' ∧ gA h' 57 = some ks ∧ gA h' 58 = some es ∧ ∀ R : PO, AWh (d + 99) [] 287 R 18 [some (mR 54), some (mI (k : Int))] [] h (0, 0) ↔ AWk (d + 99) [] 287 R 39 (cd 287 39) [some (mR 54), some (mI 6)] [] h' (0, 0) := by
  intro f
  induction f with
  | zero =>
    intro k l5 l6 h hk hF hA n5 n6 hq
    have ek : k = 6 := by omega
    subst ek
    have x5 : l5 = ks := ext_D (z := 0) (n5.trans lks.symm) (fun q h => (hq q (by omega)).1)
    have x6 : l6 = es := ext_D (z := 0) (n6.trans les.symm) (fun q h => (hq q (by omega)).2)
    subst x5
    subst x6
    refine ⟨h, Fr_refl h, hA.2.2.1, hA.2.2.2, fun R => ?_⟩
    rw [AWh_k, k_X11_keep_18]
    simp only [AW_k, AWk_1, x_iload_1, x_push_i, x_push_l, x_icmp_ge, k_X11_keep_18, k_X11_keep_19, k_X11_keep_20, oE_some, Int.reduceToNat, Nat.reduceAdd, true_and, and_true, List.length_cons, List.length_nil, Option.toList_some, Option.toList_none, List.cons_append, List.nil_append, Nat.reduceLeDiff, Nat.le_refl, wdS_nil, wdS_i, wdS_l, wdS_r, wdS_n, wdS_s, show w32 ((6 : Nat) : Int) = 6 from rfl, show w32 6 = 6 from rfl, Int.lt_irrefl, ↓reduceIte]
    exact Iff.rfl
  | succ f ih =>
    intro k l5 l6 h hk hF hA n5 n6 hq
    have bk : k < 2147483648 := by omega
    have ek : (k : Int) + 1 = ((k + 1 : Nat) : Int) := by omega
    have c0 : ((k : Int) < 6) = True := eq_true (by omega)
    have i1 : inB (k : Int) ks.length := by rw [lks]; exact inB_n (by omega) (by decide)
    have i2 : inB (k : Int) es.length := by rw [les]; exact inB_n (by omega) (by decide)
    have i3 : inB (k : Int) l5.length := by rw [n5]; exact inB_n (by omega) (by decide)
    have i4 : inB (k : Int) l6.length := by rw [n6]; exact inB_n (by omega) (by decide)
    obtain ⟨f1, f2, f3, f4⟩ := hF
    obtain ⟨a1, a2, a3, a4⟩ := hA
    have j2 : ∀ v, gF (pA h 57 v) 54 11 5 = some (mR 56) := fun v => by rw [gF_pA, f2]
    have j4 : ∀ v, gF (pA h 57 v) 54 11 11 = some (mR 58) := fun v => by rw [gF_pA, f4]
    have k2 : ∀ v, gA (pA h 57 v) 56 = some es := fun v => by rw [gA_pA (by decide), a2]
    have k4 : ∀ v, gA (pA h 57 v) 58 = some l6 := fun v => by rw [gA_pA (by decide), a4]
    obtain ⟨h', b1, b2, b3, b4⟩ := ih (k + 1) (l5.set k (ks.getD k 0)) (l6.set k (es.getD k 0)) (pA (pA h 57 (l5.set k (ks.getD k 0))) 58 (l6.set k (es.getD k 0))) (by omega) ⟨by rw [gF_pA, gF_pA, f1], by rw [gF_pA, gF_pA, f2], by rw [gF_pA, gF_pA, f3], by rw [gF_pA, gF_pA, f4]⟩ ⟨by rw [gA_pA (by decide), gA_pA (by decide), a1], by rw [gA_pA (by decide), gA_pA (by decide), a2], by rw [gA_pA (by decide)]; exact gA_pA_same a3, gA_pA_same (k4 _)⟩ (by rw [List.length_set]; exact n5) (by rw [List.length_set]; exact n6) (fun q hq2 => by
      rw [getD_set (by omega), getD_set (by omega)]
      by_cases e : k = q
      · subst e; rw [if_pos rfl, if_pos rfl]; exact ⟨rfl, rfl⟩
      · rw [if_neg e, if_neg e]; exact hq q (by omega))
    refine ⟨h', Fr_trans (Fr_trans (Fr_pA (by decide) (by decide)) (Fr_pA (by decide) (by decide))) b1, b2, b3, fun R => ?_⟩
    refine Iff.trans ?_ (b4 R)
    rw [AWh_k, k_X11_keep_18]
    simp only [AW_k, AWk_1, x_iload_1, x_push_i, x_push_l, x_icmp_ge, x_aload_0, x_aloads_0, x_getf, x_iald, x_ialds, x_iast, x_iinc_1, x_goto, unl_i, unl_l, unl_q, unl_r, unl_s, unl_n, k_X11_keep_18, k_X11_keep_19, k_X11_keep_20, k_X11_keep_21, k_X11_keep_22, k_X11_keep_23, k_X11_keep_24, k_X11_keep_25, k_X11_keep_26, k_X11_keep_27, k_X11_keep_28, k_X11_keep_29, k_X11_keep_30, k_X11_keep_31, k_X11_keep_32, k_X11_keep_33, k_X11_keep_34, k_X11_keep_35, k_X11_keep_36, k_X11_keep_37, k_X11_keep_38, oE_some, Int.reduceToNat, Nat.reduceAdd, true_and, and_true, List.length_cons, List.length_nil, Option.toList_some, Option.toList_none, List.cons_append, List.nil_append, Nat.reduceLeDiff, Nat.le_refl, wdS_nil, wdS_i, wdS_l, wdS_r, wdS_n, wdS_s, w32_nat bk, show w32 6 = 6 from rfl, c0, f1, f2, f3, f4, a1, a2, a3, a4, i1, i2, i3, i4, j2, j4, k2, k4, Int.toNat_natCast, ek, ↓reduceIte]
set_option maxHeartbeats 16000000 in
theorem x_keep_m (d : Nat) {hp : HP} {n : Nat} {G : BitVec 64} {z : Int} {c : Nat} {ks : List Int} {es : List Int} {ik : Bool} {kn : Nat} {kG : BitVec 64} {kz : Int} {kc : Nat} {kks : List Int} {kes : List Int} {tc : Nat} {tb : List Int} {sc : Nat} {tl : List Int} {so : List Int} {le : List Int} {it : Nat → List (BitVec 64)} {he : List Int} {th : List Int} {sl : List Int} {tr : Nat} {bo : List Int} (hX : MI (hp) n G z c ks es ik kn kG kz kc kks kes tc tb sc tl so le it he th sl tr bo) : ∃ h', MI (h') n G z c ks es true n G z c ks es tc tb sc tl so le it he th sl tr bo ∧ Fr 54 83 hp h' ∧ ∀ R : PO, callD (d + 100) 287 [mR 54] hp R ↔ R (some (mI 1)) h' := by
  have hX0 := hX
  obtain ⟨⟨u1, u2, u3⟩, kN, kZ, kM, kGm, l5, l6, qk, q0, q1, q2, q3, q4, q5, q6, q7, q8, q9⟩ := hX
  obtain ⟨fr_, to_, co_, op_, wr_, ki_, nu_, mm_, pa_, e0⟩ := q0
  have e1 := pF_cell (f := 6) (v := mI (n : Int)) e0
  have e2 := pF_cell (f := 7) (v := mI z) e1
  have e3 := pF_cell (f := 9) (v := mL G) e2
  have e4 := pF_cell (f := 8) (v := mI (c : Int)) e3
  have fA : ∀ (f : Nat) (v : AV) (h : HP) (a : Nat), gA (pF h 54 11 f v) a = gA h a := fun f v h a => by rw [gA_pF]
  have n5 : l5.length = 6 := q3.2.1
  have n6 : l6.length = 6 := q3.2.2
  obtain ⟨h', b1, b2, b3, b4⟩ := m_keepLoop d q2.2.1 q2.2.2 6 0 l5 l6 (pF (pF (pF (pF hp 54 11 6 (mI (n : Int))) 54 11 7 (mI z)) 54 11 9 (mL G)) 54 11 8 (mI (c : Int))) rfl ⟨gF_c e4 4, gF_c e4 5, gF_c e4 10, gF_c e4 11⟩ ⟨by rw [fA, fA, fA, fA, q2.1.1], by rw [fA, fA, fA, fA, q2.1.2], by rw [fA, fA, fA, fA, q3.1.1], by rw [fA, fA, fA, fA, q3.1.2]⟩ n5 n6 (fun q h => absurd h (Nat.not_lt_zero q))
  have f1 : Fr 54 55 hp (pF (pF (pF (pF hp 54 11 6 (mI (n : Int))) 54 11 7 (mI z)) 54 11 9 (mL G)) 54 11 8 (mI (c : Int))) := Fr_trans (Fr_trans (Fr_trans (Fr_pF (by decide) (by decide)) (Fr_pF (by decide) (by decide))) (Fr_pF (by decide) (by decide))) (Fr_pF (by decide) (by decide))
  have e5 := (b1.2 54 (by omega)).trans e4
  have e6 := pF_cell (f := 12) (v := mI 1) e5
  have f2 : Fr 54 55 h' (pF h' 54 11 12 (mI 1)) := Fr_pF (by decide) (by decide)
  have fT : Fr 54 59 hp (pF h' 54 11 12 (mI 1)) := Fr_trans (Fr_trans (Fr_mono f1 (by omega) (by omega)) (Fr_mono b1 (by omega) (by omega))) (Fr_mono f2 (by omega) (by omega))
  have sM : Sm 55 57 hp (pF h' 54 11 12 (mI 1)) := fun k a b => ((f2.2 k (by omega)).trans (b1.2 k (by omega))).trans (f1.2 k (by omega))
  have hM : MI ((pF h' 54 11 12 (mI 1))) n G z c ks es true n G z c ks es tc tb sc tl so le it he th sl tr bo := MI_mk (kN := (n : Int)) (kZ := z) (kM := (c : Int)) (kGm := G) (l5 := ks) (l6 := es) hX0 fT.1 ⟨u2, u3⟩ (fun _ => ⟨rfl, rfl, rfl, rfl, rfl, rfl⟩) e6 (YT_S q1 (Sm_Fr fT (by omega))) (YM_S q2 sM) ⟨⟨by rw [fA, b2], by rw [fA, b3]⟩, q2.2.1, q2.2.2⟩ (Sm_Fr fT (by omega))
  refine ⟨pF h' 54 11 12 (mI 1), hM, Fr_mono fT (by omega) (by omega), fun R => ?_⟩
  have a0 : gF hp 54 11 0 = some (mI (n : Int)) := gF_c e0 0
  have a6 : gF hp 54 11 6 = some (mI kN) := gF_c e0 6
  have a1 : gF (pF hp 54 11 6 (mI (n : Int))) 54 11 1 = some (mI z) := gF_c e1 1
  have a7 : gF (pF hp 54 11 6 (mI (n : Int))) 54 11 7 = some (mI kZ) := gF_c e1 7
  have a3 : gF (pF (pF hp 54 11 6 (mI (n : Int))) 54 11 7 (mI z)) 54 11 3 = some (mL G) := gF_c e2 3
  have a9 : gF (pF (pF hp 54 11 6 (mI (n : Int))) 54 11 7 (mI z)) 54 11 9 = some (mL kGm) := gF_c e2 9
  have a2 : gF (pF (pF (pF hp 54 11 6 (mI (n : Int))) 54 11 7 (mI z)) 54 11 9 (mL G)) 54 11 2 = some (mI (c : Int)) := gF_c e3 2
  have a8 : gF (pF (pF (pF hp 54 11 6 (mI (n : Int))) 54 11 7 (mI z)) 54 11 9 (mL G)) 54 11 8 = some (mI kM) := gF_c e3 8
  have a12 : gF h' 54 11 12 = some (mI (zI ik)) := gF_c e5 12
  have b4 := b4 R
  rw [callD_k]; simp only [entL_i, entL_l, entL_q, entL_s, entL_nil, n_X11_keep, u_X11_keep, m_X11_keep, rep_1, List.cons_append, List.nil_append, List.append_nil, List.length_cons, List.length_nil, Nat.reduceAdd, true_and]
  simp only [AW_k, AWk_1, x_aload_0, x_aloads_0, x_getf, x_putf_i, x_putf_l, x_push_i, x_push_l, x_istore_1, x_iload_1, unl_i, unl_l, unl_q, unl_r, unl_s, unl_n, k_X11_keep_0, k_X11_keep_1, k_X11_keep_2, k_X11_keep_3, k_X11_keep_4, k_X11_keep_5, k_X11_keep_6, k_X11_keep_7, k_X11_keep_8, k_X11_keep_9, k_X11_keep_10, k_X11_keep_11, k_X11_keep_12, k_X11_keep_13, k_X11_keep_14, k_X11_keep_15, k_X11_keep_16, k_X11_keep_17, k_X11_keep_18, oE_some, Int.reduceToNat, Nat.reduceAdd, true_and, and_true, List.length_cons, List.length_nil, Option.toList_some, Option.toList_none, List.cons_append, List.nil_append, Nat.reduceLeDiff, Nat.le_refl, wdS_nil, wdS_i, wdS_l, wdS_r, wdS_n, wdS_s, a0, a1, a2, a3, a6, a7, a8, a9]
  refine Iff.trans b4 ?_
  simp only [AW_k, AWk_1, x_aload_0, x_aloads_0, x_push_i, x_push_l, x_putf_z, x_ret, x_ret_i, x_ret_z, x_ret_l, x_ret_c, k_X11_keep_39, k_X11_keep_40, k_X11_keep_41, k_X11_keep_42, k_X11_keep_43, oE_some, Int.reduceToNat, Nat.reduceAdd, true_and, and_true, List.length_cons, List.length_nil, Option.toList_some, Option.toList_none, List.cons_append, List.nil_append, Nat.reduceLeDiff, Nat.le_refl, wdS_nil, wdS_i, wdS_l, wdS_r, wdS_n, wdS_s, a12]
  exact ⟨fun q => q.2, fun q => ⟨Or.inr trivial, q⟩⟩
set_option maxHeartbeats 16000000 in
theorem m_againLoop (d : Nat) {ks es : List Int} (lks : ks.length = 6) (les : es.length = 6) : ∀ (f k : Nat) (l5 l6 : List Int) (h : HP), k + f = 6 → (gF h 54 11 10 = some (mR 57) ∧ gF h 54 11 11 = some (mR 58) ∧ gF h 54 11 4 = some (mR 55) ∧ gF h 54 11 5 = some (mR 56)) → (gA h 57 = some ks ∧ gA h 58 = some es ∧ gA h 55 = some l5 ∧ gA h 56 = some l6) → l5.length = 6 → l6.length = 6 → (∀ q, q < k → l5.getD q 0 = ks.getD q 0 ∧ l6.getD q 0 = es.getD q 0) → ∃ h', Fr 55 57 h h' ∧ gA h' 55 = some ks ∧ gA h' 56 = some es ∧ ∀ R : PO, AWh (d + 99) [] 288 R 23 [some (mR 54), some (mI (k : Int))] [] h (0, 0) ↔ AWk (d + 99) [] 288 R 44 (cd 288 44) [some (mR 54), some (mI 6)] [] h' (0, 0) := by
  intro f
  induction f with
  | zero =>
    intro k l5 l6 h hk hF hA n5 n6 hq
    have ek : k = 6 := by omega
    subst ek
    have x5 : l5 = ks := ext_D (z := 0) (n5.trans lks.symm) (fun q h => (hq q (by omega)).1)
    have x6 : l6 = es := ext_D (z := 0) (n6.trans les.symm) (fun q h => (hq q (by omega)).2)
    subst x5
    subst x6
    refine ⟨h, Fr_refl h, hA.2.2.1, hA.2.2.2, fun R => ?_⟩
    rw [AWh_k, k_X11_again_23]
    simp only [AW_k, AWk_1, x_iload_1, x_push_i, x_push_l, x_icmp_ge, k_X11_again_23, k_X11_again_24, k_X11_again_25, oE_some, Int.reduceToNat, Nat.reduceAdd, true_and, and_true, List.length_cons, List.length_nil, Option.toList_some, Option.toList_none, List.cons_append, List.nil_append, Nat.reduceLeDiff, Nat.le_refl, wdS_nil, wdS_i, wdS_l, wdS_r, wdS_n, wdS_s, show w32 ((6 : Nat) : Int) = 6 from rfl, show w32 6 = 6 from rfl, Int.lt_irrefl, ↓reduceIte]
    exact Iff.rfl
  | succ f ih =>
    intro k l5 l6 h hk hF hA n5 n6 hq
    have bk : k < 2147483648 := by omega
    have ek : (k : Int) + 1 = ((k + 1 : Nat) : Int) := by omega
    have c0 : ((k : Int) < 6) = True := eq_true (by omega)
    have i1 : inB (k : Int) ks.length := by rw [lks]; exact inB_n (by omega) (by decide)
    have i2 : inB (k : Int) es.length := by rw [les]; exact inB_n (by omega) (by decide)
    have i3 : inB (k : Int) l5.length := by rw [n5]; exact inB_n (by omega) (by decide)
    have i4 : inB (k : Int) l6.length := by rw [n6]; exact inB_n (by omega) (by decide)
    obtain ⟨f1, f2, f3, f4⟩ := hF
    obtain ⟨a1, a2, a3, a4⟩ := hA
    have j2 : ∀ v, gF (pA h 55 v) 54 11 11 = some (mR 58) := fun v => by rw [gF_pA, f2]
    have j4 : ∀ v, gF (pA h 55 v) 54 11 5 = some (mR 56) := fun v => by rw [gF_pA, f4]
    have k2 : ∀ v, gA (pA h 55 v) 58 = some es := fun v => by rw [gA_pA (by decide), a2]
    have k4 : ∀ v, gA (pA h 55 v) 56 = some l6 := fun v => by rw [gA_pA (by decide), a4]
    obtain ⟨h', b1, b2, b3, b4⟩ := ih (k + 1) (l5.set k (ks.getD k 0)) (l6.set k (es.getD k 0)) (pA (pA h 55 (l5.set k (ks.getD k 0))) 56 (l6.set k (es.getD k 0))) (by omega) ⟨by rw [gF_pA, gF_pA, f1], by rw [gF_pA, gF_pA, f2], by rw [gF_pA, gF_pA, f3], by rw [gF_pA, gF_pA, f4]⟩ ⟨by rw [gA_pA (by decide), gA_pA (by decide), a1], by rw [gA_pA (by decide), gA_pA (by decide), a2], by rw [gA_pA (by decide)]; exact gA_pA_same a3, gA_pA_same (k4 _)⟩ (by rw [List.length_set]; exact n5) (by rw [List.length_set]; exact n6) (fun q hq2 => by
      rw [getD_set (by omega), getD_set (by omega)]
      by_cases e : k = q
      · subst e; rw [if_pos rfl, if_pos rfl]; exact ⟨rfl, rfl⟩
      · rw [if_neg e, if_neg e]; exact hq q (by omega))
    refine ⟨h', Fr_trans (Fr_trans (Fr_pA (by decide) (by decide)) (Fr_pA (by decide) (by decide))) b1, b2, b3, fun R => ?_⟩
    refine Iff.trans ?_ (b4 R)
    rw [AWh_k, k_X11_again_23]
    simp only [AW_k, AWk_1, x_iload_1, x_push_i, x_push_l, x_icmp_ge, x_aload_0, x_aloads_0, x_getf, x_iald, x_ialds, x_iast, x_iinc_1, x_goto, unl_i, unl_l, unl_q, unl_r, unl_s, unl_n, k_X11_again_23, k_X11_again_24, k_X11_again_25, k_X11_again_26, k_X11_again_27, k_X11_again_28, k_X11_again_29, k_X11_again_30, k_X11_again_31, k_X11_again_32, k_X11_again_33, k_X11_again_34, k_X11_again_35, k_X11_again_36, k_X11_again_37, k_X11_again_38, k_X11_again_39, k_X11_again_40, k_X11_again_41, k_X11_again_42, k_X11_again_43, oE_some, Int.reduceToNat, Nat.reduceAdd, true_and, and_true, List.length_cons, List.length_nil, Option.toList_some, Option.toList_none, List.cons_append, List.nil_append, Nat.reduceLeDiff, Nat.le_refl, wdS_nil, wdS_i, wdS_l, wdS_r, wdS_n, wdS_s, w32_nat bk, show w32 6 = 6 from rfl, c0, f1, f2, f3, f4, a1, a2, a3, a4, i1, i2, i3, i4, j2, j4, k2, k4, Int.toNat_natCast, ek, ↓reduceIte]
/-- the arcs told anew -/
theorem m_anew (d : Nat) {hp g : HP} {n : Nat} {G : BitVec 64} {z : Int} {c : Nat} {ks : List Int} {es : List Int} {ik : Bool} {kn : Nat} {kG : BitVec 64} {kz : Int} {kc : Nat} {kks : List Int} {kes : List Int} {tc : Nat} {tb : List Int} {sc : Nat} {tl : List Int} {so : List Int} {le : List Int} {it : Nat → List (BitVec 64)} {he : List Int} {th : List Int} {sl : List Int} {tr : Nat} {bo : List Int} {n' : Nat} {G' : BitVec 64} {z' : Int} {c' : Nat} {ks' es' : List Int} {kN kZ kM : Int} {kGm : BitVec 64} {l5 l6 : List Int} {fr_ to_ co_ op_ wr_ ki_ nu_ mm_ pa_ v17 : Int} (hX : MI (hp) n G z c ks es ik kn kG kz kc kks kes tc tb sc tl so le it he th sl tr bo) (hl : g.length = hp.length) (hn : 1 ≤ n' ∧ n' ≤ 6) (qk : ik = true → kN = (kn : Int) ∧ kZ = kz ∧ kM = (kc : Int) ∧ kGm = kG ∧ l5 = kks ∧ l6 = kes) (eO : g[54]? = some (.inl (11, (mFs n' z' c' G' ik tc sc tr kN kZ kM kGm fr_ to_ co_ op_ wr_ ki_ nu_ mm_ pa_).set 17 (mI v17)))) (eM : YM g ks' es') (eK : YK g l5 l6) (s : Sm 59 83 hp g) (s2 : ∀ k, k < 54 ∨ 83 ≤ k → g[k]? = hp[k]?) : ∃ h', MI (h') n' G' z' c' ks' es' ik kn kG kz kc kks kes tc tb sc tl so le it he th sl tr bo ∧ Fr 54 83 hp h' ∧ ∀ R : PO, callD (d + 5) 183 [mR 54] g R ↔ R none h' := by
  have hX0 := hX
  obtain ⟨⟨u1, u2, u3⟩, kN0, kZ0, kM0, kGm0, l50, l60, qk0, q0, q1, q2, q3, q4, q5, q6, q7, q8, q9⟩ := hX
  obtain ⟨⟨p1, p2⟩, l1, l2, l3, l4, ⟨x1, x2, x3, x4⟩, x5, -⟩ := YT_S q1 (fun k a b => s k (by omega) (by omega))
  have hK : MK g n' := ⟨hn, gF_c eO 0, gF_c eO 18, gF_c eO 19, p1, p2⟩
  obtain ⟨h', hA, ⟨t1, t2, t3⟩, t4⟩ := m_tells d hK ⟨gF_c eO 13, gF_c eO 14, gF_c eO 15, gF_c eO 16, gF_c eO 17⟩ ⟨x1, x2, x3, x4⟩ x5
  obtain ⟨w, hw⟩ := t3 _ eO
  have hw2 : gF h' 54 11 17 = some w := gF_c hw 17
  have hw3 := hA.2.1.2.2.2.2
  rw [hw2] at hw3
  have ew := Option.some.inj hw3
  subst ew
  have sA : Sm 65 83 hp h' := fun k a b => (t2 k (by omega) (by omega)).trans (s k (by omega) (by omega))
  refine ⟨h', MI_mk (kN := kN) (kZ := kZ) (kM := kM) (kGm := kGm) (l5 := l5) (l6 := l6) hX0 (t1.trans hl) hn qk hw ⟨⟨hA.1.2.2.2.2.1, hA.1.2.2.2.2.2⟩, hA.2.2⟩ (YM_S eM (fun k a b => t2 k (by omega) (by omega))) (YK_S eK (fun k a b => t2 k (by omega) (by omega))) sA, ⟨t1.trans hl, fun k hk => (t2 k (by omega) (by omega)).trans (s2 k hk)⟩, t4⟩
set_option maxHeartbeats 16000000 in
theorem x_again_m (d : Nat) {hp : HP} {n : Nat} {G : BitVec 64} {z : Int} {c : Nat} {ks : List Int} {es : List Int} {ik : Bool} {kn : Nat} {kG : BitVec 64} {kz : Int} {kc : Nat} {kks : List Int} {kes : List Int} {tc : Nat} {tb : List Int} {sc : Nat} {tl : List Int} {so : List Int} {le : List Int} {it : Nat → List (BitVec 64)} {he : List Int} {th : List Int} {sl : List Int} {tr : Nat} {bo : List Int} (hX : MI (hp) n G z c ks es ik kn kG kz kc kks kes tc tb sc tl so le it he th sl tr bo) (hk : ik = true) (hkn : 1 ≤ kn ∧ kn ≤ 6) : ∃ h', MI (h') kn kG kz kc kks kes ik kn kG kz kc kks kes tc tb sc tl so le it he th sl tr bo ∧ Fr 54 83 hp h' ∧ ∀ R : PO, callD (d + 100) 288 [mR 54] hp R ↔ R (some (mI (popI kG))) h' := by
  have hX0 := hX
  obtain ⟨⟨u1, u2, u3⟩, kN, kZ, kM, kGm, l5, l6, qk, q0, q1, q2, q3, q4, q5, q6, q7, q8, q9⟩ := hX
  obtain ⟨fr_, to_, co_, op_, wr_, ki_, nu_, mm_, pa_, e0⟩ := q0
  obtain ⟨y1, y2, y3, y4, y5, y6⟩ := qk hk
  subst y1 y2 y3 y4 y5 y6
  have e1 := pF_cell (f := 0) (v := mI (kn : Int)) e0
  have e2 := pF_cell (f := 1) (v := mI kZ) e1
  have e3 := pF_cell (f := 3) (v := mL kGm) e2
  have e4 := pF_cell (f := 2) (v := mI (kc : Int)) e3
  have fA : ∀ (f : Nat) (v : AV) (h : HP) (a : Nat), gA (pF h 54 11 f v) a = gA h a := fun f v h a => by rw [gA_pF]
  obtain ⟨h', b1, b2, b3, b4⟩ := m_againLoop d q3.2.1 q3.2.2 6 0 ks es (pF (pF (pF (pF hp 54 11 0 (mI (kn : Int))) 54 11 1 (mI kZ)) 54 11 3 (mL kGm)) 54 11 2 (mI (kc : Int))) rfl ⟨gF_c e4 10, gF_c e4 11, gF_c e4 4, gF_c e4 5⟩ ⟨by rw [fA, fA, fA, fA, q3.1.1], by rw [fA, fA, fA, fA, q3.1.2], by rw [fA, fA, fA, fA, q2.1.1], by rw [fA, fA, fA, fA, q2.1.2]⟩ q2.2.1 q2.2.2 (fun q h => absurd h (Nat.not_lt_zero q))
  have f1 : Fr 54 55 hp (pF (pF (pF (pF hp 54 11 0 (mI (kn : Int))) 54 11 1 (mI kZ)) 54 11 3 (mL kGm)) 54 11 2 (mI (kc : Int))) := Fr_trans (Fr_trans (Fr_trans (Fr_pF (by decide) (by decide)) (Fr_pF (by decide) (by decide))) (Fr_pF (by decide) (by decide))) (Fr_pF (by decide) (by decide))
  have e5 := (b1.2 54 (by omega)).trans e4
  have fT : Fr 54 57 hp h' := Fr_trans (Fr_mono f1 (by omega) (by omega)) (Fr_mono b1 (by omega) (by omega))
  obtain ⟨h2, c1, c2, c3⟩ := m_anew (d + 94) (v17 := ((NA n : Nat) : Int)) (n' := kn) (G' := kGm) (z' := kZ) (c' := kc) (ks' := l5) (es' := l6) (kN := (kn : Int)) (kZ := kZ) (kM := (kc : Int)) (kGm := kGm) (l5 := l5) (l6 := l6) hX0 fT.1 hkn (fun _ => ⟨rfl, rfl, rfl, rfl, rfl, rfl⟩) e5 ⟨⟨b2, b3⟩, q3.2.1, q3.2.2⟩ (YK_S q3 (Sm_Fr fT (by omega))) (Sm_Fr fT (by omega)) (fun k hk => fT.2 k (by omega))
  refine ⟨h2, c1, c2, fun R => ?_⟩
  have a12 : gF hp 54 11 12 = some (mI (zI ik)) := gF_c e0 12
  have a0 : gF hp 54 11 0 = some (mI (n : Int)) := gF_c e0 0
  have a6 : gF hp 54 11 6 = some (mI (kn : Int)) := gF_c e0 6
  have a1 : gF (pF hp 54 11 0 (mI (kn : Int))) 54 11 1 = some (mI z) := gF_c e1 1
  have a7 : gF (pF hp 54 11 0 (mI (kn : Int))) 54 11 7 = some (mI kZ) := gF_c e1 7
  have a3 : gF (pF (pF hp 54 11 0 (mI (kn : Int))) 54 11 1 (mI kZ)) 54 11 3 = some (mL G) := gF_c e2 3
  have a9 : gF (pF (pF hp 54 11 0 (mI (kn : Int))) 54 11 1 (mI kZ)) 54 11 9 = some (mL kGm) := gF_c e2 9
  have a2 : gF (pF (pF (pF hp 54 11 0 (mI (kn : Int))) 54 11 1 (mI kZ)) 54 11 3 (mL kGm)) 54 11 2 = some (mI (c : Int)) := gF_c e3 2
  have a8 : gF (pF (pF (pF hp 54 11 0 (mI (kn : Int))) 54 11 1 (mI kZ)) 54 11 3 (mL kGm)) 54 11 8 = some (mI (kc : Int)) := gF_c e3 8
  have cK := gC_of (gF_c e5 0 : gF h' 54 11 0 = some (mI (kn : Int)))
  obtain ⟨ga2, hF2⟩ := MI_G c1
  have b4 := b4 R
  rw [hk] at a12
  rw [callD_k]; simp only [entL_i, entL_l, entL_q, entL_s, entL_nil, n_X11_again, u_X11_again, m_X11_again, rep_1, List.cons_append, List.nil_append, List.append_nil, List.length_cons, List.length_nil, Nat.reduceAdd, true_and]
  simp only [AW_k, AWk_1, x_aload_0, x_aloads_0, x_getf, x_if_ne, x_push_i, x_push_l, x_ret, x_ret_i, x_ret_z, x_ret_l, x_ret_c, x_putf_i, x_putf_l, x_istore_1, x_iload_1, unl_i, unl_l, unl_q, unl_r, unl_s, unl_n, k_X11_again_0, k_X11_again_1, k_X11_again_2, k_X11_again_3, k_X11_again_4, k_X11_again_5, k_X11_again_6, k_X11_again_7, k_X11_again_8, k_X11_again_9, k_X11_again_10, k_X11_again_11, k_X11_again_12, k_X11_again_13, k_X11_again_14, k_X11_again_15, k_X11_again_16, k_X11_again_17, k_X11_again_18, k_X11_again_19, k_X11_again_20, k_X11_again_21, k_X11_again_22, k_X11_again_23, oE_some, Int.reduceToNat, Nat.reduceAdd, true_and, and_true, List.length_cons, List.length_nil, Option.toList_some, Option.toList_none, List.cons_append, List.nil_append, Nat.reduceLeDiff, Nat.le_refl, wdS_nil, wdS_i, wdS_l, wdS_r, wdS_n, wdS_s, a12, zI_t, w10, a0, a1, a2, a3, a6, a7, a8, a9, ↓reduceIte]
  refine Iff.trans b4 ?_
  simp only [AW_k, AWk_1, x_aload_0, x_aloads_0, x_callv_1, x_getf, x_call_1, x_ret, x_ret_i, x_ret_z, x_ret_l, x_ret_c, k_X11_again_44, k_X11_again_45, k_X11_again_46, k_X11_again_47, k_X11_again_48, k_X11_again_49, oE_some, Int.reduceToNat, Nat.reduceAdd, true_and, and_true, List.length_cons, List.length_nil, Option.toList_some, Option.toList_none, List.cons_append, List.nil_append, Nat.reduceLeDiff, Nat.le_refl, wdS_nil, wdS_i, wdS_l, wdS_r, wdS_n, wdS_s, cK, c3, hF2, m_ones (d + 97)]
theorem x_again_m_n (d : Nat) {hp : HP} {n : Nat} {G : BitVec 64} {z : Int} {c : Nat} {ks : List Int} {es : List Int} {ik : Bool} {kn : Nat} {kG : BitVec 64} {kz : Int} {kc : Nat} {kks : List Int} {kes : List Int} {tc : Nat} {tb : List Int} {sc : Nat} {tl : List Int} {so : List Int} {le : List Int} {it : Nat → List (BitVec 64)} {he : List Int} {th : List Int} {sl : List Int} {tr : Nat} {bo : List Int} (hX : MI (hp) n G z c ks es ik kn kG kz kc kks kes tc tb sc tl so le it he th sl tr bo) (hk : ik = false) (R : PO) : callD (d + 100) 288 [mR 54] hp R ↔ R (some (mI (-3))) hp := by
  obtain ⟨⟨u1, u2, u3⟩, kN, kZ, kM, kGm, l5, l6, qk, q0, q1, q2, q3, q4, q5, q6, q7, q8, q9⟩ := hX
  obtain ⟨fr_, to_, co_, op_, wr_, ki_, nu_, mm_, pa_, hF⟩ := YO_F q0
  have hA : MA hp n := ⟨⟨⟨u2, u3⟩, hF 0, hF 18, hF 19, q1.1.1, q1.1.2⟩, ⟨hF 13, hF 14, hF 15, hF 16, hF 17⟩, q1.2⟩
  have hK := hA.1
  have cK := cM hK
  have hG : gF hp 54 11 3 = some (mL G) := hF 3
  have a12 : gF hp 54 11 12 = some (mI (zI ik)) := hF 12
  rw [hk] at a12
  rw [callD_k]; simp only [entL_i, entL_l, entL_q, entL_s, entL_nil, n_X11_again, u_X11_again, m_X11_again, rep_1, List.cons_append, List.nil_append, List.append_nil, List.length_cons, List.length_nil, Nat.reduceAdd, true_and]
  simp only [AW_k, AWk_1, x_aload_0, x_aloads_0, x_getf, x_if_ne, x_push_i, x_push_l, x_ret, x_ret_i, x_ret_z, x_ret_l, x_ret_c, k_X11_again_0, k_X11_again_1, k_X11_again_2, k_X11_again_3, k_X11_again_4, oE_some, Int.reduceToNat, Nat.reduceAdd, true_and, and_true, List.length_cons, List.length_nil, Option.toList_some, Option.toList_none, List.cons_append, List.nil_append, Nat.reduceLeDiff, Nat.le_refl, wdS_nil, wdS_i, wdS_l, wdS_r, wdS_n, wdS_s, a12, zI_f, w00, ↓reduceIte]
set_option maxHeartbeats 16000000 in
theorem x_size_m (d : Nat) {hp : HP} {n : Nat} {G : BitVec 64} {z : Int} {c : Nat} {ks : List Int} {es : List Int} {ik : Bool} {kn : Nat} {kG : BitVec 64} {kz : Int} {kc : Nat} {kks : List Int} {kes : List Int} {tc : Nat} {tb : List Int} {sc : Nat} {tl : List Int} {so : List Int} {le : List Int} {it : Nat → List (BitVec 64)} {he : List Int} {th : List Int} {sl : List Int} {tr : Nat} {bo : List Int} {v : Int} (hX : MI (hp) n G z c ks es ik kn kG kz kc kks kes tc tb sc tl so le it he th sl tr bo) (hv : w32 v = v) (hin : 1 ≤ v ∧ v ≤ 6) : ∃ h', MI (h') (v.toNat) (if v = (n : Int) then G else 0#64) z c ks es ik kn kG kz kc kks kes tc tb sc tl so le it he th sl tr bo ∧ Fr 54 83 hp h' ∧ ∀ R : PO, callD (d + 100) 172 [mR 54, mI v] hp R ↔ R (some (mI (n : Int))) h' := by
  have hX0 := hX
  obtain ⟨⟨u1, u2, u3⟩, kN, kZ, kM, kGm, l5, l6, qk, q0, q1, q2, q3, q4, q5, q6, q7, q8, q9⟩ := hX
  obtain ⟨fr_, to_, co_, op_, wr_, ki_, nu_, mm_, pa_, e0⟩ := q0
  have d1 : inI v 1 6 = true := decide_eq_true hin
  have bn : n < 2147483648 := by omega
  have a0 : gF hp 54 11 0 = some (mI (n : Int)) := gF_c e0 0
  by_cases e : v = (n : Int)
  · rw [if_pos e]
    subst e
    rw [Int.toNat_natCast]
    refine ⟨hp, hX0, Fr_refl hp, fun R => ?_⟩
    rw [callD_k]; simp only [entL_i, entL_l, entL_q, entL_s, entL_nil, n_X11_size, u_X11_size, m_X11_size, rep_1, List.cons_append, List.nil_append, List.append_nil, List.length_cons, List.length_nil, Nat.reduceAdd, true_and]
    simp only [AW_k, AWk_1, x_iload_1, x_i2l, x_push_i, x_push_l, x_call_3, x_if_ne, x_ret, x_ret_i, x_ret_z, x_ret_l, x_ret_c, k_X11_size_0, k_X11_size_1, k_X11_size_2, k_X11_size_3, k_X11_size_4, k_X11_size_5, k_X11_size_6, k_X11_size_7, oE_some, Int.reduceToNat, Nat.reduceAdd, true_and, and_true, List.length_cons, List.length_nil, Option.toList_some, Option.toList_none, List.cons_append, List.nil_append, Nat.reduceLeDiff, Nat.le_refl, wdS_nil, wdS_i, wdS_l, wdS_r, wdS_n, wdS_s, m_in (d + 98), tI_id hv, one_long, qq6_I, d1, zI_t, w10, ↓reduceIte]
    simp only [AW_k, AWk_1, x_aload_0, x_aloads_0, x_getf, x_istore_2, x_iload_1, x_icmp_eq, x_putf_i, x_push_i, x_push_l, x_putf_l, x_callv_1, x_iload_2, x_ret, x_ret_i, x_ret_z, x_ret_l, x_ret_c, unl_i, unl_l, unl_q, unl_r, unl_s, unl_n, k_X11_size_8, k_X11_size_9, k_X11_size_10, k_X11_size_11, k_X11_size_12, k_X11_size_13, k_X11_size_14, k_X11_size_15, k_X11_size_16, k_X11_size_17, k_X11_size_18, k_X11_size_19, k_X11_size_20, k_X11_size_21, k_X11_size_22, k_X11_size_23, k_X11_size_24, oE_some, Int.reduceToNat, Nat.reduceAdd, true_and, and_true, List.length_cons, List.length_nil, Option.toList_some, Option.toList_none, List.cons_append, List.nil_append, Nat.reduceLeDiff, Nat.le_refl, wdS_nil, wdS_i, wdS_l, wdS_r, wdS_n, wdS_s, a0, ↓reduceIte]
  · rw [if_neg e]
    obtain ⟨V, eV⟩ : ∃ V : Nat, v = (V : Int) := ⟨v.toNat, by clear hv; omega⟩
    subst eV
    rw [Int.toNat_natCast]
    have e1 := pF_cell (f := 0) (v := mI (V : Int)) e0
    have e2 := pF_cell (f := 3) (v := mL 0#64) e1
    have f1 : Fr 54 55 hp (pF (pF hp 54 11 0 (mI (V : Int))) 54 11 3 (mL 0#64)) := Fr_trans (Fr_pF (by decide) (by decide)) (Fr_pF (by decide) (by decide))
    obtain ⟨h2, c1, c2, c3⟩ := m_anew (d + 94) (v17 := ((NA n : Nat) : Int)) (n' := V) (G' := 0#64) (z' := z) (c' := c) (ks' := ks) (es' := es) (kN := kN) (kZ := kZ) (kM := kM) (kGm := kGm) (l5 := l5) (l6 := l6) hX0 f1.1 ⟨by clear hv; omega, by clear hv; omega⟩ qk e2 (YM_S q2 (Sm_Fr f1 (by omega))) (YK_S q3 (Sm_Fr f1 (by omega))) (Sm_Fr f1 (by omega)) (fun k hk => f1.2 k (by omega))
    refine ⟨h2, c1, c2, fun R => ?_⟩
    have a3 : gF (pF hp 54 11 0 (mI (V : Int))) 54 11 3 = some (mL G) := gF_c e1 3
    have cK := gC_of (gF_c e2 0 : gF (pF (pF hp 54 11 0 (mI (V : Int))) 54 11 3 (mL 0#64)) 54 11 0 = some (mI (V : Int)))
    rw [callD_k]; simp only [entL_i, entL_l, entL_q, entL_s, entL_nil, n_X11_size, u_X11_size, m_X11_size, rep_1, List.cons_append, List.nil_append, List.append_nil, List.length_cons, List.length_nil, Nat.reduceAdd, true_and]
    simp only [AW_k, AWk_1, x_iload_1, x_i2l, x_push_i, x_push_l, x_call_3, x_if_ne, x_ret, x_ret_i, x_ret_z, x_ret_l, x_ret_c, k_X11_size_0, k_X11_size_1, k_X11_size_2, k_X11_size_3, k_X11_size_4, k_X11_size_5, k_X11_size_6, k_X11_size_7, oE_some, Int.reduceToNat, Nat.reduceAdd, true_and, and_true, List.length_cons, List.length_nil, Option.toList_some, Option.toList_none, List.cons_append, List.nil_append, Nat.reduceLeDiff, Nat.le_refl, wdS_nil, wdS_i, wdS_l, wdS_r, wdS_n, wdS_s, m_in (d + 98), tI_id hv, one_long, qq6_I, d1, zI_t, w10, ↓reduceIte]
    simp only [AW_k, AWk_1, x_aload_0, x_aloads_0, x_getf, x_istore_2, x_iload_1, x_icmp_eq, x_putf_i, x_push_i, x_push_l, x_putf_l, x_callv_1, x_iload_2, x_ret, x_ret_i, x_ret_z, x_ret_l, x_ret_c, unl_i, unl_l, unl_q, unl_r, unl_s, unl_n, k_X11_size_8, k_X11_size_9, k_X11_size_10, k_X11_size_11, k_X11_size_12, k_X11_size_13, k_X11_size_14, k_X11_size_15, k_X11_size_16, k_X11_size_17, k_X11_size_18, k_X11_size_19, k_X11_size_20, k_X11_size_21, k_X11_size_22, k_X11_size_23, k_X11_size_24, oE_some, Int.reduceToNat, Nat.reduceAdd, true_and, and_true, List.length_cons, List.length_nil, Option.toList_some, Option.toList_none, List.cons_append, List.nil_append, Nat.reduceLeDiff, Nat.le_refl, wdS_nil, wdS_i, wdS_l, wdS_r, wdS_n, wdS_s, a0, hv, w32_nat bn, e, a3, cK, c3, ↓reduceIte]
theorem x_size_m_out (d : Nat) {hp : HP} {v : Int} (hv : w32 v = v) (hin : ¬ (1 ≤ v ∧ v ≤ 6)) (R : PO) : callD (d + 100) 172 [mR 54, mI v] hp R ↔ R (some (mI (-1))) hp := by
  have d1 : inI v 1 6 = false := decide_eq_false hin
  rw [callD_k]; simp only [entL_i, entL_l, entL_q, entL_s, entL_nil, n_X11_size, u_X11_size, m_X11_size, rep_1, List.cons_append, List.nil_append, List.append_nil, List.length_cons, List.length_nil, Nat.reduceAdd, true_and]
  simp only [AW_k, AWk_1, x_iload_1, x_i2l, x_push_i, x_push_l, x_call_3, x_if_ne, x_ret, x_ret_i, x_ret_z, x_ret_l, x_ret_c, k_X11_size_0, k_X11_size_1, k_X11_size_2, k_X11_size_3, k_X11_size_4, k_X11_size_5, k_X11_size_6, k_X11_size_7, oE_some, Int.reduceToNat, Nat.reduceAdd, true_and, and_true, List.length_cons, List.length_nil, Option.toList_some, Option.toList_none, List.cons_append, List.nil_append, Nat.reduceLeDiff, Nat.le_refl, wdS_nil, wdS_i, wdS_l, wdS_r, wdS_n, wdS_s, m_in (d + 98), tI_id hv, one_long, qq6_I, d1, zI_f, w00, ↓reduceIte]
set_option maxHeartbeats 16000000 in
theorem m_manyClasses (d : Nat) {hp : HP} {n : Nat} {G : BitVec 64} {b : Bool} (h : MA hp n) (hG : gF hp 54 11 3 = some (mL G)) (R : PO) : callD (d + 5) 285 [mR 54, mI (zI b)] hp R ↔ R (some (mI (sumF (fun i => if isL n G i = true then (if b = true then popN (dr n i) else 1) else 0) (FC n)))) hp := by
  have hM := h
  obtain ⟨hK, -, -⟩ := h
  have hK' := hK
  obtain ⟨⟨k1, k6⟩, h1, h2, h3, h4, h5⟩ := hK
  have f1 := FC_le n
  have wn : (w32 (n : Int)).toNat = n := w32_tn (by omega)
  have iw : inB (n : Int) FW.length := inB_n (show n < FW.length by rw [FW_7]; omega) (by decide)
  have fw := FW_get (show n < 7 by omega)
  have bF : FC n < 2147483648 := by omega
  have key : ∀ (m i : Nat) (y4 : Option AV), i + m = FC n → (AWh (d + 4) [] 285 R 4 [some (mR 54), some (mI (zI b)), some (mI (sumF (fun i => if isL n G i = true then (if b = true then popN (dr n i) else 1) else 0) i)), some (mI (i : Int)), y4] [] hp (0, 0) ↔ R (some (mI (sumF (fun i => if isL n G i = true then (if b = true then popN (dr n i) else 1) else 0) (FC n)))) hp) := by
    intro m
    induction m with
    | zero =>
      intro i y4 hi
      have e : i = FC n := by omega
      subst e
      rw [AWh_k, k_X11_manyClasses_4]
      simp only [AW_k, AWk_1, x_iload_3, x_aload_0, x_aloads_0, x_getf, x_iald, x_ialds, x_icmp_ge, x_iload_2, x_ret, x_ret_i, x_ret_z, x_ret_l, x_ret_c, k_X11_manyClasses_4, k_X11_manyClasses_5, k_X11_manyClasses_6, k_X11_manyClasses_7, k_X11_manyClasses_8, k_X11_manyClasses_9, k_X11_manyClasses_10, k_X11_manyClasses_33, k_X11_manyClasses_34, oE_some, Int.reduceToNat, Nat.reduceAdd, true_and, and_true, List.length_cons, List.length_nil, Option.toList_some, Option.toList_none, List.cons_append, List.nil_append, Nat.reduceLeDiff, Nat.le_refl, wdS_nil, wdS_i, wdS_l, wdS_r, wdS_n, wdS_s, h3, h5, h1, wn, iw, fw, Int.lt_irrefl, ↓reduceIte]
    | succ m ih =>
      intro i y4 hi
      have hiF : i < FC n := by omega
      have bi : i < 2147483648 := by omega
      have c0 : ((i : Int) < ((FC n : Nat) : Int)) = True := eq_true (by omega)
      have ei : (i : Int) + 1 = ((i + 1 : Nat) : Int) := by omega
      have hd : dr n i < 2147483648 := Nat.lt_trans (dr_31 n i) (by decide)
      have hi2 := ih (i + 1) (some (mI ((num n i : Nat) : Int))) (by omega)
      rw [sumF_succ] at hi2
      rw [AWh_k, k_X11_manyClasses_4]
      cases e : isL n G i with
      | false =>
        rw [e, if_neg (by decide), Int.add_zero] at hi2
        simp only [AW_k, AWk_1, x_iload_3, x_aload_0, x_aloads_0, x_getf, x_iald, x_ialds, x_icmp_ge, x_callv_2, x_istore_4, x_iload_4, x_if_eq, x_iload_2, x_iload_1, x_i2l, x_call_1, x_goto, x_push_i, x_push_l, x_iadd, x_istore_2, x_iinc_3, unl_i, unl_l, unl_q, unl_r, unl_s, unl_n, k_X11_manyClasses_4, k_X11_manyClasses_5, k_X11_manyClasses_6, k_X11_manyClasses_7, k_X11_manyClasses_8, k_X11_manyClasses_9, k_X11_manyClasses_10, k_X11_manyClasses_11, k_X11_manyClasses_12, k_X11_manyClasses_13, k_X11_manyClasses_14, k_X11_manyClasses_15, k_X11_manyClasses_16, k_X11_manyClasses_17, k_X11_manyClasses_18, k_X11_manyClasses_19, k_X11_manyClasses_20, k_X11_manyClasses_21, k_X11_manyClasses_22, k_X11_manyClasses_23, k_X11_manyClasses_24, k_X11_manyClasses_25, k_X11_manyClasses_26, k_X11_manyClasses_27, k_X11_manyClasses_28, k_X11_manyClasses_29, k_X11_manyClasses_30, k_X11_manyClasses_31, k_X11_manyClasses_32, oE_some, Int.reduceToNat, Nat.reduceAdd, true_and, and_true, List.length_cons, List.length_nil, Option.toList_some, Option.toList_none, List.cons_append, List.nil_append, Nat.reduceLeDiff, Nat.le_refl, wdS_nil, wdS_i, wdS_l, wdS_r, wdS_n, wdS_s, h3, h5, h1, wn, iw, fw, w32_nat bi, w32_nat bF, c0, cM hK', m_rowBy (d + 2) hK' hiF, m_isLeast d hM hG hiF, e, zI_f, w00, ei, ↓reduceIte]
        exact hi2
      | true =>
        cases b with
        | false =>
          rw [e, if_pos rfl, if_neg (by decide)] at hi2
          simp only [AW_k, AWk_1, x_iload_3, x_aload_0, x_aloads_0, x_getf, x_iald, x_ialds, x_icmp_ge, x_callv_2, x_istore_4, x_iload_4, x_if_eq, x_iload_2, x_iload_1, x_i2l, x_call_1, x_goto, x_push_i, x_push_l, x_iadd, x_istore_2, x_iinc_3, unl_i, unl_l, unl_q, unl_r, unl_s, unl_n, k_X11_manyClasses_4, k_X11_manyClasses_5, k_X11_manyClasses_6, k_X11_manyClasses_7, k_X11_manyClasses_8, k_X11_manyClasses_9, k_X11_manyClasses_10, k_X11_manyClasses_11, k_X11_manyClasses_12, k_X11_manyClasses_13, k_X11_manyClasses_14, k_X11_manyClasses_15, k_X11_manyClasses_16, k_X11_manyClasses_17, k_X11_manyClasses_18, k_X11_manyClasses_19, k_X11_manyClasses_20, k_X11_manyClasses_21, k_X11_manyClasses_22, k_X11_manyClasses_23, k_X11_manyClasses_24, k_X11_manyClasses_25, k_X11_manyClasses_26, k_X11_manyClasses_27, k_X11_manyClasses_28, k_X11_manyClasses_29, k_X11_manyClasses_30, k_X11_manyClasses_31, k_X11_manyClasses_32, oE_some, Int.reduceToNat, Nat.reduceAdd, true_and, and_true, List.length_cons, List.length_nil, Option.toList_some, Option.toList_none, List.cons_append, List.nil_append, Nat.reduceLeDiff, Nat.le_refl, wdS_nil, wdS_i, wdS_l, wdS_r, wdS_n, wdS_s, h3, h5, h1, wn, iw, fw, w32_nat bi, w32_nat bF, c0, cM hK', m_rowBy (d + 2) hK' hiF, m_isLeast d hM hG hiF, e, zI_t, zI_f, w10, w00, ei, ↓reduceIte]
          exact hi2
        | true =>
          rw [e, if_pos rfl, if_pos rfl] at hi2
          simp only [AW_k, AWk_1, x_iload_3, x_aload_0, x_aloads_0, x_getf, x_iald, x_ialds, x_icmp_ge, x_callv_2, x_istore_4, x_iload_4, x_if_eq, x_iload_2, x_iload_1, x_i2l, x_call_1, x_goto, x_push_i, x_push_l, x_iadd, x_istore_2, x_iinc_3, unl_i, unl_l, unl_q, unl_r, unl_s, unl_n, k_X11_manyClasses_4, k_X11_manyClasses_5, k_X11_manyClasses_6, k_X11_manyClasses_7, k_X11_manyClasses_8, k_X11_manyClasses_9, k_X11_manyClasses_10, k_X11_manyClasses_11, k_X11_manyClasses_12, k_X11_manyClasses_13, k_X11_manyClasses_14, k_X11_manyClasses_15, k_X11_manyClasses_16, k_X11_manyClasses_17, k_X11_manyClasses_18, k_X11_manyClasses_19, k_X11_manyClasses_20, k_X11_manyClasses_21, k_X11_manyClasses_22, k_X11_manyClasses_23, k_X11_manyClasses_24, k_X11_manyClasses_25, k_X11_manyClasses_26, k_X11_manyClasses_27, k_X11_manyClasses_28, k_X11_manyClasses_29, k_X11_manyClasses_30, k_X11_manyClasses_31, k_X11_manyClasses_32, oE_some, Int.reduceToNat, Nat.reduceAdd, true_and, and_true, List.length_cons, List.length_nil, Option.toList_some, Option.toList_none, List.cons_append, List.nil_append, Nat.reduceLeDiff, Nat.le_refl, wdS_nil, wdS_i, wdS_l, wdS_r, wdS_n, wdS_s, h3, h5, h1, wn, iw, fw, w32_nat bi, w32_nat bF, c0, cM hK', m_rowBy (d + 2) hK' hiF, m_isLeast d hM hG hiF, e, zI_t, w10, m_drops (d + 1) hK' hiF, m_ones (d + 2), pop_NI hd, ei, ↓reduceIte]
          exact hi2
  rw [callD_k]; simp only [entL_i, entL_l, entL_q, entL_s, entL_nil, n_X11_manyClasses, u_X11_manyClasses, m_X11_manyClasses, rep_3, List.cons_append, List.nil_append, List.append_nil, List.length_cons, List.length_nil, Nat.reduceAdd, true_and]
  simp only [AW_k, AWk_1, x_push_i, x_push_l, x_istore_2, x_istore_3, x_iload_3, unl_i, unl_l, unl_q, unl_r, unl_s, unl_n, k_X11_manyClasses_0, k_X11_manyClasses_1, k_X11_manyClasses_2, k_X11_manyClasses_3, k_X11_manyClasses_4, oE_some, Int.reduceToNat, Nat.reduceAdd, true_and, and_true, List.length_cons, List.length_nil, Option.toList_some, Option.toList_none, List.cons_append, List.nil_append, Nat.reduceLeDiff, Nat.le_refl, wdS_nil, wdS_i, wdS_l, wdS_r, wdS_n, wdS_s]
  exact key (FC n) 0 none (Nat.zero_add _)
theorem sumF_cnt (f : Nat → Bool) : ∀ m, sumF (fun i => if f i = true then (if false = true then (0 : Int) else 1) else 0) m = cnt f m := by
  intro m
  induction m with
  | zero => rfl
  | succ m ih =>
    rw [sumF_succ, cnt_succ, ih]
    cases f m <;> rfl
theorem sumF_cg {f g : Nat → Int} : ∀ {n : Nat}, (∀ k, k < n → f k = g k) → sumF f n = sumF g n := by
  intro n
  induction n with
  | zero => intro _; rfl
  | succ n ih => intro h; rw [sumF_succ, sumF_succ, ih (fun k hk => h k (by omega)), h n (by omega)]
set_option maxHeartbeats 32000000 in
theorem x_many_m (d : Nat) {hp : HP} {n : Nat} {G : BitVec 64} {z : Int} {c : Nat} {ks : List Int} {es : List Int} {ik : Bool} {kn : Nat} {kG : BitVec 64} {kz : Int} {kc : Nat} {kks : List Int} {kes : List Int} {tc : Nat} {tb : List Int} {sc : Nat} {tl : List Int} {so : List Int} {le : List Int} {it : Nat → List (BitVec 64)} {he : List Int} {th : List Int} {sl : List Int} {tr : Nat} {bo : List Int} {w : Int} (hX : MI (hp) n G z c ks es ik kn kG kz kc kks kes tc tb sc tl so le it he th sl tr bo) (hw : w32 w = w) (R : PO) : callD (d + 100) 286 [mR 54, mI w] hp R ↔ R (some (mI (myA n G c sc tc tr w))) hp := by
  obtain ⟨⟨u1, u2, u3⟩, kN, kZ, kM, kGm, l5, l6, qk, q0, q1, q2, q3, q4, q5, q6, q7, q8, q9⟩ := hX
  obtain ⟨fr_, to_, co_, op_, wr_, ki_, nu_, mm_, pa_, hF⟩ := YO_F q0
  have hA : MA hp n := ⟨⟨⟨u2, u3⟩, hF 0, hF 18, hF 19, q1.1.1, q1.1.2⟩, ⟨hF 13, hF 14, hF 15, hF 16, hF 17⟩, q1.2⟩
  have hK := hA.1
  have cK := cM hK
  have hG : gF hp 54 11 3 = some (mL G) := hF 3
  have g0 : gF hp 54 11 0 = some (mI (n : Int)) := hF 0
  have g2 : gF hp 54 11 2 = some (mI (c : Int)) := hF 2
  have g17 : gF hp 54 11 17 = some (mI ((NA n : Nat) : Int)) := hF 17
  have g23 : gF hp 54 11 23 = some (mI (tc : Int)) := hF 23
  have g36 : gF hp 54 11 36 = some (mI (sc : Int)) := hF 36
  have g45 : gF hp 54 11 45 = some (mI (tr : Int)) := hF 45
  have m0 := fun R => m_manyClasses (d + 94) (b := false) hA hG R
  have m1 := fun R => m_manyClasses (d + 94) (b := true) hA hG R
  have s0 : sumF (fun i => if isL n G i = true then (if false = true then popN (dr n i) else 1) else 0) (FC n) = cnt (isL n G) (FC n) := by
    rw [← sumF_cnt]
    exact sumF_cg (fun k _ => rfl)
  have s1 : sumF (fun i => if isL n G i = true then (if true = true then popN (dr n i) else 1) else 0) (FC n) = sumF (fun i => if isL n G i = true then popN (dr n i) else 0) (FC n) := sumF_cg (fun k _ => rfl)
  rw [s0] at m0
  rw [s1] at m1
  rw [zI_f] at m0
  rw [zI_t] at m1
  unfold myA
  rw [callD_k]; simp only [entL_i, entL_l, entL_q, entL_s, entL_nil, n_X11_many, u_X11_many, m_X11_many, rep_0, List.cons_append, List.nil_append, List.append_nil, List.length_cons, List.length_nil, Nat.reduceAdd, true_and]
  by_cases c0 : w = 0
  · rw [if_pos c0]
    simp only [AW_k, AWk_1, x_iload_1, x_switch, AW_sw, AW_sw0, x_aload_0, x_aloads_0, x_getf, x_ret, x_ret_i, x_ret_z, x_ret_l, x_ret_c, x_call_1, x_push_i, x_push_l, x_callv_2, k_X11_many_0, k_X11_many_1, k_X11_many_2, k_X11_many_3, k_X11_many_4, k_X11_many_5, k_X11_many_6, k_X11_many_7, k_X11_many_8, k_X11_many_9, k_X11_many_10, k_X11_many_11, k_X11_many_12, k_X11_many_13, k_X11_many_14, k_X11_many_15, k_X11_many_16, k_X11_many_17, k_X11_many_18, k_X11_many_19, k_X11_many_20, k_X11_many_21, k_X11_many_22, k_X11_many_23, k_X11_many_24, k_X11_many_25, k_X11_many_26, k_X11_many_27, k_X11_many_28, k_X11_many_29, k_X11_many_30, k_X11_many_31, k_X11_many_32, k_X11_many_33, oE_some, Int.reduceToNat, Nat.reduceAdd, true_and, and_true, List.length_cons, List.length_nil, Option.toList_some, Option.toList_none, List.cons_append, List.nil_append, Nat.reduceLeDiff, Nat.le_refl, wdS_nil, wdS_i, wdS_l, wdS_r, wdS_n, wdS_s, hw, c0, wz0, swT_cons, swT_nil, Int.reduceEq, g0, ↓reduceIte]
  · rw [if_neg c0]
    by_cases c1 : w = 1
    · rw [if_pos c1]
      simp only [AW_k, AWk_1, x_iload_1, x_switch, AW_sw, AW_sw0, x_aload_0, x_aloads_0, x_getf, x_ret, x_ret_i, x_ret_z, x_ret_l, x_ret_c, x_call_1, x_push_i, x_push_l, x_callv_2, k_X11_many_0, k_X11_many_1, k_X11_many_2, k_X11_many_3, k_X11_many_4, k_X11_many_5, k_X11_many_6, k_X11_many_7, k_X11_many_8, k_X11_many_9, k_X11_many_10, k_X11_many_11, k_X11_many_12, k_X11_many_13, k_X11_many_14, k_X11_many_15, k_X11_many_16, k_X11_many_17, k_X11_many_18, k_X11_many_19, k_X11_many_20, k_X11_many_21, k_X11_many_22, k_X11_many_23, k_X11_many_24, k_X11_many_25, k_X11_many_26, k_X11_many_27, k_X11_many_28, k_X11_many_29, k_X11_many_30, k_X11_many_31, k_X11_many_32, k_X11_many_33, oE_some, Int.reduceToNat, Nat.reduceAdd, true_and, and_true, List.length_cons, List.length_nil, Option.toList_some, Option.toList_none, List.cons_append, List.nil_append, Nat.reduceLeDiff, Nat.le_refl, wdS_nil, wdS_i, wdS_l, wdS_r, wdS_n, wdS_s, hw, c1, wz1, swT_cons, swT_nil, Int.reduceEq, g17, ↓reduceIte]
    · rw [if_neg c1]
      by_cases c2 : w = 2
      · rw [if_pos c2]
        simp only [AW_k, AWk_1, x_iload_1, x_switch, AW_sw, AW_sw0, x_aload_0, x_aloads_0, x_getf, x_ret, x_ret_i, x_ret_z, x_ret_l, x_ret_c, x_call_1, x_push_i, x_push_l, x_callv_2, k_X11_many_0, k_X11_many_1, k_X11_many_2, k_X11_many_3, k_X11_many_4, k_X11_many_5, k_X11_many_6, k_X11_many_7, k_X11_many_8, k_X11_many_9, k_X11_many_10, k_X11_many_11, k_X11_many_12, k_X11_many_13, k_X11_many_14, k_X11_many_15, k_X11_many_16, k_X11_many_17, k_X11_many_18, k_X11_many_19, k_X11_many_20, k_X11_many_21, k_X11_many_22, k_X11_many_23, k_X11_many_24, k_X11_many_25, k_X11_many_26, k_X11_many_27, k_X11_many_28, k_X11_many_29, k_X11_many_30, k_X11_many_31, k_X11_many_32, k_X11_many_33, oE_some, Int.reduceToNat, Nat.reduceAdd, true_and, and_true, List.length_cons, List.length_nil, Option.toList_some, Option.toList_none, List.cons_append, List.nil_append, Nat.reduceLeDiff, Nat.le_refl, wdS_nil, wdS_i, wdS_l, wdS_r, wdS_n, wdS_s, hw, c2, wz2, swT_cons, swT_nil, Int.reduceEq, hG, m_ones (d + 97), ↓reduceIte]
      · rw [if_neg c2]
        by_cases c3 : w = 3
        · rw [if_pos c3]
          simp only [AW_k, AWk_1, x_iload_1, x_switch, AW_sw, AW_sw0, x_aload_0, x_aloads_0, x_getf, x_ret, x_ret_i, x_ret_z, x_ret_l, x_ret_c, x_call_1, x_push_i, x_push_l, x_callv_2, k_X11_many_0, k_X11_many_1, k_X11_many_2, k_X11_many_3, k_X11_many_4, k_X11_many_5, k_X11_many_6, k_X11_many_7, k_X11_many_8, k_X11_many_9, k_X11_many_10, k_X11_many_11, k_X11_many_12, k_X11_many_13, k_X11_many_14, k_X11_many_15, k_X11_many_16, k_X11_many_17, k_X11_many_18, k_X11_many_19, k_X11_many_20, k_X11_many_21, k_X11_many_22, k_X11_many_23, k_X11_many_24, k_X11_many_25, k_X11_many_26, k_X11_many_27, k_X11_many_28, k_X11_many_29, k_X11_many_30, k_X11_many_31, k_X11_many_32, k_X11_many_33, oE_some, Int.reduceToNat, Nat.reduceAdd, true_and, and_true, List.length_cons, List.length_nil, Option.toList_some, Option.toList_none, List.cons_append, List.nil_append, Nat.reduceLeDiff, Nat.le_refl, wdS_nil, wdS_i, wdS_l, wdS_r, wdS_n, wdS_s, hw, c3, wz3, swT_cons, swT_nil, Int.reduceEq, cK, m0, ↓reduceIte]
        · rw [if_neg c3]
          by_cases c4 : w = 4
          · rw [if_pos c4]
            simp only [AW_k, AWk_1, x_iload_1, x_switch, AW_sw, AW_sw0, x_aload_0, x_aloads_0, x_getf, x_ret, x_ret_i, x_ret_z, x_ret_l, x_ret_c, x_call_1, x_push_i, x_push_l, x_callv_2, k_X11_many_0, k_X11_many_1, k_X11_many_2, k_X11_many_3, k_X11_many_4, k_X11_many_5, k_X11_many_6, k_X11_many_7, k_X11_many_8, k_X11_many_9, k_X11_many_10, k_X11_many_11, k_X11_many_12, k_X11_many_13, k_X11_many_14, k_X11_many_15, k_X11_many_16, k_X11_many_17, k_X11_many_18, k_X11_many_19, k_X11_many_20, k_X11_many_21, k_X11_many_22, k_X11_many_23, k_X11_many_24, k_X11_many_25, k_X11_many_26, k_X11_many_27, k_X11_many_28, k_X11_many_29, k_X11_many_30, k_X11_many_31, k_X11_many_32, k_X11_many_33, oE_some, Int.reduceToNat, Nat.reduceAdd, true_and, and_true, List.length_cons, List.length_nil, Option.toList_some, Option.toList_none, List.cons_append, List.nil_append, Nat.reduceLeDiff, Nat.le_refl, wdS_nil, wdS_i, wdS_l, wdS_r, wdS_n, wdS_s, hw, c4, wz4, swT_cons, swT_nil, Int.reduceEq, cK, m1, ↓reduceIte]
          · rw [if_neg c4]
            by_cases c5 : w = 5
            · rw [if_pos c5]
              simp only [AW_k, AWk_1, x_iload_1, x_switch, AW_sw, AW_sw0, x_aload_0, x_aloads_0, x_getf, x_ret, x_ret_i, x_ret_z, x_ret_l, x_ret_c, x_call_1, x_push_i, x_push_l, x_callv_2, k_X11_many_0, k_X11_many_1, k_X11_many_2, k_X11_many_3, k_X11_many_4, k_X11_many_5, k_X11_many_6, k_X11_many_7, k_X11_many_8, k_X11_many_9, k_X11_many_10, k_X11_many_11, k_X11_many_12, k_X11_many_13, k_X11_many_14, k_X11_many_15, k_X11_many_16, k_X11_many_17, k_X11_many_18, k_X11_many_19, k_X11_many_20, k_X11_many_21, k_X11_many_22, k_X11_many_23, k_X11_many_24, k_X11_many_25, k_X11_many_26, k_X11_many_27, k_X11_many_28, k_X11_many_29, k_X11_many_30, k_X11_many_31, k_X11_many_32, k_X11_many_33, oE_some, Int.reduceToNat, Nat.reduceAdd, true_and, and_true, List.length_cons, List.length_nil, Option.toList_some, Option.toList_none, List.cons_append, List.nil_append, Nat.reduceLeDiff, Nat.le_refl, wdS_nil, wdS_i, wdS_l, wdS_r, wdS_n, wdS_s, hw, c5, wz5, swT_cons, swT_nil, Int.reduceEq, g2, ↓reduceIte]
            · rw [if_neg c5]
              by_cases c6 : w = 6
              · rw [if_pos c6]
                simp only [AW_k, AWk_1, x_iload_1, x_switch, AW_sw, AW_sw0, x_aload_0, x_aloads_0, x_getf, x_ret, x_ret_i, x_ret_z, x_ret_l, x_ret_c, x_call_1, x_push_i, x_push_l, x_callv_2, k_X11_many_0, k_X11_many_1, k_X11_many_2, k_X11_many_3, k_X11_many_4, k_X11_many_5, k_X11_many_6, k_X11_many_7, k_X11_many_8, k_X11_many_9, k_X11_many_10, k_X11_many_11, k_X11_many_12, k_X11_many_13, k_X11_many_14, k_X11_many_15, k_X11_many_16, k_X11_many_17, k_X11_many_18, k_X11_many_19, k_X11_many_20, k_X11_many_21, k_X11_many_22, k_X11_many_23, k_X11_many_24, k_X11_many_25, k_X11_many_26, k_X11_many_27, k_X11_many_28, k_X11_many_29, k_X11_many_30, k_X11_many_31, k_X11_many_32, k_X11_many_33, oE_some, Int.reduceToNat, Nat.reduceAdd, true_and, and_true, List.length_cons, List.length_nil, Option.toList_some, Option.toList_none, List.cons_append, List.nil_append, Nat.reduceLeDiff, Nat.le_refl, wdS_nil, wdS_i, wdS_l, wdS_r, wdS_n, wdS_s, hw, c6, wz6, swT_cons, swT_nil, Int.reduceEq, g36, ↓reduceIte]
              · rw [if_neg c6]
                by_cases c7 : w = 7
                · rw [if_pos c7]
                  simp only [AW_k, AWk_1, x_iload_1, x_switch, AW_sw, AW_sw0, x_aload_0, x_aloads_0, x_getf, x_ret, x_ret_i, x_ret_z, x_ret_l, x_ret_c, x_call_1, x_push_i, x_push_l, x_callv_2, k_X11_many_0, k_X11_many_1, k_X11_many_2, k_X11_many_3, k_X11_many_4, k_X11_many_5, k_X11_many_6, k_X11_many_7, k_X11_many_8, k_X11_many_9, k_X11_many_10, k_X11_many_11, k_X11_many_12, k_X11_many_13, k_X11_many_14, k_X11_many_15, k_X11_many_16, k_X11_many_17, k_X11_many_18, k_X11_many_19, k_X11_many_20, k_X11_many_21, k_X11_many_22, k_X11_many_23, k_X11_many_24, k_X11_many_25, k_X11_many_26, k_X11_many_27, k_X11_many_28, k_X11_many_29, k_X11_many_30, k_X11_many_31, k_X11_many_32, k_X11_many_33, oE_some, Int.reduceToNat, Nat.reduceAdd, true_and, and_true, List.length_cons, List.length_nil, Option.toList_some, Option.toList_none, List.cons_append, List.nil_append, Nat.reduceLeDiff, Nat.le_refl, wdS_nil, wdS_i, wdS_l, wdS_r, wdS_n, wdS_s, hw, c7, show w32 7 = 7 from rfl, swT_cons, swT_nil, Int.reduceEq, g23, ↓reduceIte]
                · rw [if_neg c7]
                  by_cases c8 : w = 8
                  · rw [if_pos c8]
                    simp only [AW_k, AWk_1, x_iload_1, x_switch, AW_sw, AW_sw0, x_aload_0, x_aloads_0, x_getf, x_ret, x_ret_i, x_ret_z, x_ret_l, x_ret_c, x_call_1, x_push_i, x_push_l, x_callv_2, k_X11_many_0, k_X11_many_1, k_X11_many_2, k_X11_many_3, k_X11_many_4, k_X11_many_5, k_X11_many_6, k_X11_many_7, k_X11_many_8, k_X11_many_9, k_X11_many_10, k_X11_many_11, k_X11_many_12, k_X11_many_13, k_X11_many_14, k_X11_many_15, k_X11_many_16, k_X11_many_17, k_X11_many_18, k_X11_many_19, k_X11_many_20, k_X11_many_21, k_X11_many_22, k_X11_many_23, k_X11_many_24, k_X11_many_25, k_X11_many_26, k_X11_many_27, k_X11_many_28, k_X11_many_29, k_X11_many_30, k_X11_many_31, k_X11_many_32, k_X11_many_33, oE_some, Int.reduceToNat, Nat.reduceAdd, true_and, and_true, List.length_cons, List.length_nil, Option.toList_some, Option.toList_none, List.cons_append, List.nil_append, Nat.reduceLeDiff, Nat.le_refl, wdS_nil, wdS_i, wdS_l, wdS_r, wdS_n, wdS_s, hw, c8, show w32 8 = 8 from rfl, swT_cons, swT_nil, Int.reduceEq, g45, ↓reduceIte]
                  · rw [if_neg c8]
                    simp only [AW_k, AWk_1, x_iload_1, x_switch, AW_sw, AW_sw0, x_aload_0, x_aloads_0, x_getf, x_ret, x_ret_i, x_ret_z, x_ret_l, x_ret_c, x_call_1, x_push_i, x_push_l, x_callv_2, k_X11_many_0, k_X11_many_1, k_X11_many_2, k_X11_many_3, k_X11_many_4, k_X11_many_5, k_X11_many_6, k_X11_many_7, k_X11_many_8, k_X11_many_9, k_X11_many_10, k_X11_many_11, k_X11_many_12, k_X11_many_13, k_X11_many_14, k_X11_many_15, k_X11_many_16, k_X11_many_17, k_X11_many_18, k_X11_many_19, k_X11_many_20, k_X11_many_21, k_X11_many_22, k_X11_many_23, k_X11_many_24, k_X11_many_25, k_X11_many_26, k_X11_many_27, k_X11_many_28, k_X11_many_29, k_X11_many_30, k_X11_many_31, k_X11_many_32, k_X11_many_33, oE_some, Int.reduceToNat, Nat.reduceAdd, true_and, and_true, List.length_cons, List.length_nil, Option.toList_some, Option.toList_none, List.cons_append, List.nil_append, Nat.reduceLeDiff, Nat.le_refl, wdS_nil, wdS_i, wdS_l, wdS_r, wdS_n, wdS_s, hw, c0, c1, c2, c3, c4, c5, c6, c7, c8, swT_cons, swT_nil, ↓reduceIte]
