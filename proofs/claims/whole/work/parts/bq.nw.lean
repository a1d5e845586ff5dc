/-! ===== the reference's move ===== -/
set_option maxHeartbeats 16000000 in
theorem m_mvA (d : Nat) {s I t J m : Nat} {ce : List (BitVec 64)} (hs : s < 4) (hI : I + m ≤ 40) (lce : ce.length = 160) : ∀ (f k : Nat) (as : List (BitVec 64)) (h : HP), k + f = m → gF h 54 11 39 = some (mR 77) → gF h 54 11 40 = some (mR 78) → gJ h 77 = some ce → gJ h 78 = some as → as.length = 40 → ∃ as', as'.length = 40 ∧ (∀ q, as'.getD q 0 = if k ≤ q ∧ q < m then ce.getD (40 * s + I + q) 0 else as.getD q 0) ∧ ∀ R : PO, AWh (d + 99) [] 266 R 57 [some (mR 54), some (mI (s : Int)), some (mI (I : Int)), some (mI (t : Int)), some (mI (J : Int)), some (mI (m : Int)), some (mI (k : Int))] [] h (0, 0) ↔ AWh (d + 99) [] 266 R 78 [some (mR 54), some (mI (s : Int)), some (mI (I : Int)), some (mI (t : Int)), some (mI (J : Int)), some (mI (m : Int)), some (mI 0)] [] (pJ h 78 as') (0, 0) := by
  have bm : m < 2147483648 := by omega
  intro f
  induction f with
  | zero =>
    intro k as h hk g39 g40 j77 j78 las
    have ek : k = m := by omega
    subst ek
    refine ⟨as, las, fun q => by rw [if_neg (by omega)], fun R => ?_⟩
    rw [pJ_self j78]
    refine Iff.trans (b := AWk (d + 99) [] 266 R 57 (0, (cd 266 57).2) [some (mR 54), some (mI (s : Int)), some (mI (I : Int)), some (mI (t : Int)), some (mI (J : Int)), some (mI (k : Int)), some (mI (k : Int))] [] h (0, 0)) AWh_k ?_
    rw [k_X11_move_57]
    simp only [AW_k, AWk_1, x_iload_6, x_iload_5, x_icmp_ge, x_push_i, x_push_l, x_istore_6, unl_i, unl_l, unl_q, unl_r, unl_s, unl_n, k_X11_move_57, k_X11_move_58, k_X11_move_59, k_X11_move_76, k_X11_move_77, k_X11_move_78, oE_some, Int.reduceToNat, Nat.reduceAdd, true_and, and_true, List.length_cons, List.length_nil, Option.toList_some, Option.toList_none, List.cons_append, List.nil_append, Nat.reduceLeDiff, Nat.le_refl, wdS_nil, wdS_i, wdS_l, wdS_r, wdS_n, wdS_s, w32_nat bm, Int.lt_irrefl, ↓reduceIte]
  | succ f ih =>
    intro k as h hk g39 g40 j77 j78 las
    have hkm : k < m := by omega
    have bk : k < 2147483648 := by omega
    have ek : (k : Int) + 1 = ((k + 1 : Nat) : Int) := by omega
    have c0 : ((k : Int) < (m : Int)) = True := eq_true (by omega)
    have ec : 40 * (s : Int) + (I : Int) + (k : Int) = ((40 * s + I + k : Nat) : Int) := by omega
    have bc : 40 * s + I + k < 2147483648 := by omega
    have ic : inB ((40 * s + I + k : Nat) : Int) ce.length := by rw [lce]; exact inB_n (by omega) (by decide)
    have ia : inB (k : Int) as.length := by rw [las]; exact inB_n (by omega) (by decide)
    obtain ⟨as', a1, a2, a3⟩ := ih (k + 1) (as.set k (ce.getD (40 * s + I + k) 0)) (pJ h 78 (as.set k (ce.getD (40 * s + I + k) 0))) (by omega) (by rw [gF_pJ, g39]) (by rw [gF_pJ, g40]) (by rw [gJ_pJ (by decide), j77]) (gJ_pJ_same j78) (by rw [List.length_set]; exact las)
    refine ⟨as', a1, fun q => ?_, fun R => ?_⟩
    · rw [a2 q, getD_set (by omega)]
      by_cases e : k = q
      · subst e
        rw [if_neg (by omega), if_pos rfl, if_pos (by omega)]
      · rw [if_neg e]
        by_cases e2 : k + 1 ≤ q ∧ q < m
        · rw [if_pos e2, if_pos (by omega)]
        · rw [if_neg e2, if_neg (by omega)]
    · have a3 := a3 R
      rw [pJ_pJ] at a3
      refine Iff.trans ?_ a3
      refine Iff.trans (b := AWk (d + 99) [] 266 R 57 (0, (cd 266 57).2) [some (mR 54), some (mI (s : Int)), some (mI (I : Int)), some (mI (t : Int)), some (mI (J : Int)), some (mI (m : Int)), some (mI (k : Int))] [] h (0, 0)) AWh_k ?_
      rw [k_X11_move_57]
      simp only [AW_k, AWk_1, x_iload_6, x_iload_5, x_icmp_ge, x_aload_0, x_aloads_0, x_getf, x_push_i, x_push_l, x_iload_1, x_imul, x_iload_2, x_iadd, x_lald, x_last, x_iinc_6, x_goto, unl_i, unl_l, unl_q, unl_r, unl_s, unl_n, k_X11_move_57, k_X11_move_58, k_X11_move_59, k_X11_move_60, k_X11_move_61, k_X11_move_62, k_X11_move_63, k_X11_move_64, k_X11_move_65, k_X11_move_66, k_X11_move_67, k_X11_move_68, k_X11_move_69, k_X11_move_70, k_X11_move_71, k_X11_move_72, k_X11_move_73, k_X11_move_74, k_X11_move_75, oE_some, Int.reduceToNat, Nat.reduceAdd, true_and, and_true, List.length_cons, List.length_nil, Option.toList_some, Option.toList_none, List.cons_append, List.nil_append, Nat.reduceLeDiff, Nat.le_refl, wdS_nil, wdS_i, wdS_l, wdS_r, wdS_n, wdS_s, w32_nat bm, w32_nat bk, c0, g39, g40, j77, j78, ec, ic, ia, w32_nat bc, Int.toNat_natCast, ek, ↓reduceIte]
set_option maxHeartbeats 16000000 in
theorem m_mvB (d : Nat) {s I t J m : Nat} {as : List (BitVec 64)} (ht : t < 4) (hJ : J + m ≤ 40) (las : as.length = 40) : ∀ (f k : Nat) (ce : List (BitVec 64)) (h : HP), k + f = m → gF h 54 11 39 = some (mR 77) → gF h 54 11 40 = some (mR 78) → gJ h 77 = some ce → gJ h 78 = some as → ce.length = 160 → ∃ ce', ce'.length = 160 ∧ (∀ q, ce'.getD q 0 = if 40 * t + J + k ≤ q ∧ q < 40 * t + J + m then as.getD (q - (40 * t + J)) 0 else ce.getD q 0) ∧ ∀ R : PO, AWh (d + 99) [] 266 R 78 [some (mR 54), some (mI (s : Int)), some (mI (I : Int)), some (mI (t : Int)), some (mI (J : Int)), some (mI (m : Int)), some (mI (k : Int))] [] h (0, 0) ↔ R (some (mI (m : Int))) (pJ h 77 ce') := by
  have bm : m < 2147483648 := by omega
  intro f
  induction f with
  | zero =>
    intro k ce h hk g39 g40 j77 j78 lce
    have ek : k = m := by omega
    subst ek
    refine ⟨ce, lce, fun q => by rw [if_neg (by omega)], fun R => ?_⟩
    rw [pJ_self j77]
    rw [AWh_k, k_X11_move_78]
    simp only [AW_k, AWk_1, x_iload_6, x_iload_5, x_icmp_ge, x_ret, x_ret_i, x_ret_z, x_ret_l, x_ret_c, k_X11_move_78, k_X11_move_79, k_X11_move_80, k_X11_move_97, k_X11_move_98, oE_some, Int.reduceToNat, Nat.reduceAdd, true_and, and_true, List.length_cons, List.length_nil, Option.toList_some, Option.toList_none, List.cons_append, List.nil_append, Nat.reduceLeDiff, Nat.le_refl, wdS_nil, wdS_i, wdS_l, wdS_r, wdS_n, wdS_s, w32_nat bm, Int.lt_irrefl, ↓reduceIte]
  | succ f ih =>
    intro k ce h hk g39 g40 j77 j78 lce
    have hkm : k < m := by omega
    have bk : k < 2147483648 := by omega
    have ek : (k : Int) + 1 = ((k + 1 : Nat) : Int) := by omega
    have c0 : ((k : Int) < (m : Int)) = True := eq_true (by omega)
    have ec : 40 * (t : Int) + (J : Int) + (k : Int) = ((40 * t + J + k : Nat) : Int) := by omega
    have bc : 40 * t + J + k < 2147483648 := by omega
    have ic : inB ((40 * t + J + k : Nat) : Int) ce.length := by rw [lce]; exact inB_n (by omega) (by decide)
    have ia : inB (k : Int) as.length := by rw [las]; exact inB_n (by omega) (by decide)
    obtain ⟨ce', a1, a2, a3⟩ := ih (k + 1) (ce.set (40 * t + J + k) (as.getD k 0)) (pJ h 77 (ce.set (40 * t + J + k) (as.getD k 0))) (by omega) (by rw [gF_pJ, g39]) (by rw [gF_pJ, g40]) (gJ_pJ_same j77) (by rw [gJ_pJ (by decide), j78]) (by rw [List.length_set]; exact lce)
    refine ⟨ce', a1, fun q => ?_, fun R => ?_⟩
    · rw [a2 q, getD_set (by omega)]
      by_cases e : 40 * t + J + k = q
      · subst e
        rw [if_neg (by omega), if_pos rfl, if_pos (by omega)]
        congr 1
        omega
      · rw [if_neg e]
        by_cases e2 : 40 * t + J + (k + 1) ≤ q ∧ q < 40 * t + J + m
        · rw [if_pos e2, if_pos (by omega)]
        · rw [if_neg e2, if_neg (by omega)]
    · have a3 := a3 R
      rw [pJ_pJ] at a3
      refine Iff.trans ?_ a3
      rw [AWh_k, k_X11_move_78]
      simp only [AW_k, AWk_1, x_iload_6, x_iload_5, x_icmp_ge, x_aload_0, x_aloads_0, x_getf, x_push_i, x_push_l, x_iload_3, x_imul, x_iload_4, x_iadd, x_lald, x_last, x_iinc_6, x_goto, unl_i, unl_l, unl_q, unl_r, unl_s, unl_n, k_X11_move_78, k_X11_move_79, k_X11_move_80, k_X11_move_81, k_X11_move_82, k_X11_move_83, k_X11_move_84, k_X11_move_85, k_X11_move_86, k_X11_move_87, k_X11_move_88, k_X11_move_89, k_X11_move_90, k_X11_move_91, k_X11_move_92, k_X11_move_93, k_X11_move_94, k_X11_move_95, k_X11_move_96, oE_some, Int.reduceToNat, Nat.reduceAdd, true_and, and_true, List.length_cons, List.length_nil, Option.toList_some, Option.toList_none, List.cons_append, List.nil_append, Nat.reduceLeDiff, Nat.le_refl, wdS_nil, wdS_i, wdS_l, wdS_r, wdS_n, wdS_s, w32_nat bm, w32_nat bk, c0, g39, g40, j77, j78, ec, ic, ia, w32_nat bc, Int.toNat_natCast, ek, ↓reduceIte]
theorem mv_ce {ce ce' as as' : List (BitVec 64)} {it : Nat → List (BitVec 64)} {s t I J m0 : Nat} (hs : s < 4) (ht : t < 4) (hI : I + m0 ≤ 40) (hJ : J + m0 ≤ 40) (lit : ∀ k, k < 4 → (it k).length = 40) (hce : ∀ k, k < 4 → ∀ j, j < 40 → ce.getD (40 * k + j) 0 = (it k).getD j 0) (a2 : ∀ q, as'.getD q 0 = if 0 ≤ q ∧ q < m0 then ce.getD (40 * s + I + q) 0 else as.getD q 0) (b2 : ∀ q, ce'.getD q 0 = if 40 * t + J + 0 ≤ q ∧ q < 40 * t + J + m0 then as'.getD (q - (40 * t + J)) 0 else ce.getD q 0) : ∀ k, k < 4 → ∀ q, q < 40 → ce'.getD (40 * k + q) 0 = (updF it t (cpyL 0#64 (it s) (it t) I J m0) k).getD q 0 := by
  intro k hk q hq
  have lt := lit t ht
  rw [b2]
  unfold updF
  by_cases ek : k = t
  · subst ek
    rw [if_pos rfl]
    have g : (cpyL 0#64 (it s) (it k) I J m0).getD q 0 = if J ≤ q ∧ q < J + m0 then (it s).getD (I + (q - J)) 0 else (it k).getD q 0 := cpyL_get 0#64 (it s) (it k) I J m0 q (by rw [lt]; exact hq)
    rw [g]
    by_cases cq : J ≤ q ∧ q < J + m0
    · have e1 : 40 * k + q - (40 * k + J) = q - J := by omega
      rw [if_pos (by omega), if_pos cq, e1, a2, if_pos (by omega), ← hce s hs (I + (q - J)) (by omega), Nat.add_assoc]
    · rw [if_neg (by omega), if_neg cq]
      exact hce k hk q hq
  · rw [if_neg ek, if_neg (by omega)]
    exact hce k hk q hq
set_option maxHeartbeats 16000000 in
theorem x_move_m (d : Nat) {hp : HP} {n : Nat} {G : BitVec 64} {z : Int} {c : Nat} {ks : List Int} {es : List Int} {ik : Bool} {kn : Nat} {kG : BitVec 64} {kz : Int} {kc : Nat} {kks : List Int} {kes : List Int} {tc : Nat} {tb : List Int} {sc : Nat} {tl : List Int} {so : List Int} {le : List Int} {it : Nat → List (BitVec 64)} {he : List Int} {th : List Int} {sl : List Int} {tr : Nat} {bo : List Int} {x i y j m : Int} (hX : MI (hp) n G z c ks es ik kn kG kz kc kks kes tc tb sc tl so le it he th sl tr bo) (hO : shOK so le it) (hx : w32 x = x) (hi : w32 i = i) (hy : w32 y = y) (hj : w32 j = j) (hm : w32 m = m) : ∃ h', MI (h') n G z c ks es ik kn kG kz kc kks kes tc tb sc tl so le (mvI so le it x i y j m) he th sl tr bo ∧ Fr 54 83 hp h' ∧ ∀ R : PO, callD (d + 100) 266 [mR 54, mI x, mI i, mI y, mI j, mI m] hp R ↔ R (some (mI (mvA so le x i y j m))) h' := by
  have hX0 := hX
  obtain ⟨⟨u1, u2, u3⟩, kN, kZ, kM, kGm, l5, l6, qk, q0, q1, q2, q3, q4, q5, q6, q7, q8, q9⟩ := hX
  obtain ⟨fr_, to_, co_, op_, wr_, ki_, nu_, mm_, pa_, hF⟩ := YO_F q0
  have hA : MA hp n := ⟨⟨⟨u2, u3⟩, hF 0, hF 18, hF 19, q1.1.1, q1.1.2⟩, ⟨hF 13, hF 14, hF 15, hF 16, hF 17⟩, q1.2⟩
  have hK := hA.1
  have cK := cM hK
  have hG : gF hp 54 11 3 = some (mL G) := hF 3
  have g37 : gF hp 54 11 37 = some (mR 75) := hF 37
  have g38 : gF hp 54 11 38 = some (mR 76) := hF 38
  have g39 : gF hp 54 11 39 = some (mR 77) := hF 39
  have g40 : gF hp 54 11 40 = some (mR 78) := hF 40
  obtain ⟨⟨a75, a76⟩, ⟨ce, j77, lce, hce⟩, as, j78, las⟩ := q7
  obtain ⟨lso, lle, lit, hlk⟩ := hO
  unfold mvI mvA
  cases ex : shO x with
  | none =>
    have e : mvO so le x i y j m = none := by unfold mvO; rw [ex]
    rw [e]
    refine ⟨hp, hX0, Fr_refl hp, fun R => ?_⟩
    rw [callD_k]; simp only [entL_i, entL_l, entL_q, entL_s, entL_nil, n_X11_move, u_X11_move, m_X11_move, rep_1, List.cons_append, List.nil_append, List.append_nil, List.length_cons, List.length_nil, Nat.reduceAdd, true_and]
    simp only [AW_k, AWk_1, x_iload_1, x_call_1, x_if_eq, x_iload_3, x_if_ne, x_push_i, x_push_l, x_ret, x_ret_i, x_ret_z, x_ret_l, x_ret_c, x_aload_0, x_aloads_0, k_X11_move_0, k_X11_move_1, k_X11_move_2, k_X11_move_3, k_X11_move_4, k_X11_move_5, k_X11_move_6, k_X11_move_7, k_X11_move_8, oE_some, Int.reduceToNat, Nat.reduceAdd, true_and, and_true, List.length_cons, List.length_nil, Option.toList_some, Option.toList_none, List.cons_append, List.nil_append, Nat.reduceLeDiff, Nat.le_refl, wdS_nil, wdS_i, wdS_l, wdS_r, wdS_n, wdS_s, m_isSheet_n (d + 97) hx ex, w00, ↓reduceIte]
  | some s =>
    obtain ⟨hs, es'⟩ := shO_lt ex
    have ms := fun R => m_isSheet_s (d + 97) (hp := hp) hx ex R
    cases ey : shO y with
    | none =>
      have e : mvO so le x i y j m = none := by unfold mvO; rw [ex, ey]
      rw [e]
      refine ⟨hp, hX0, Fr_refl hp, fun R => ?_⟩
      rw [callD_k]; simp only [entL_i, entL_l, entL_q, entL_s, entL_nil, n_X11_move, u_X11_move, m_X11_move, rep_1, List.cons_append, List.nil_append, List.append_nil, List.length_cons, List.length_nil, Nat.reduceAdd, true_and]
      simp only [AW_k, AWk_1, x_iload_1, x_call_1, x_if_eq, x_iload_3, x_if_ne, x_push_i, x_push_l, x_ret, x_ret_i, x_ret_z, x_ret_l, x_ret_c, x_aload_0, x_aloads_0, k_X11_move_0, k_X11_move_1, k_X11_move_2, k_X11_move_3, k_X11_move_4, k_X11_move_5, k_X11_move_6, k_X11_move_7, k_X11_move_8, oE_some, Int.reduceToNat, Nat.reduceAdd, true_and, and_true, List.length_cons, List.length_nil, Option.toList_some, Option.toList_none, List.cons_append, List.nil_append, Nat.reduceLeDiff, Nat.le_refl, wdS_nil, wdS_i, wdS_l, wdS_r, wdS_n, wdS_s, ms, m_isSheet_n (d + 97) hy ey, w10, w00, ↓reduceIte]
    | some t =>
      obtain ⟨ht, et'⟩ := shO_lt ey
      have mt := fun R => m_isSheet_s (d + 97) (hp := hp) hy ey R
      have e : mvO so le x i y j m = if so.getD s 0 = -1 ∨ so.getD t 0 = -1 then none else if so.getD s 0 = so.getD t 0 then (if (rchs (le.getD s 0) i m && rchs (le.getD t 0) j m) = true then some (s, t) else none) else none := by unfold mvO; rw [ex, ey]
      rw [e]
      have bs : s < 2147483648 := by clear hx hy hi hj hm; omega
      have bt : t < 2147483648 := by clear hx hy hi hj hm; omega
      obtain ⟨L, l1, l2, l3, l4⟩ := hlk s hs
      obtain ⟨L', l1', l2', l3', l4'⟩ := hlk t ht
      have iso : inB (s : Int) so.length := by rw [lso]; exact inB_n hs (by decide)
      have ito : inB (t : Int) so.length := by rw [lso]; exact inB_n ht (by decide)
      have ile : inB (s : Int) le.length := by rw [lle]; exact inB_n hs (by decide)
      have jle : inB (t : Int) le.length := by rw [lle]; exact inB_n ht (by decide)
      have wso : w32 (so.getD s 0) = so.getD s 0 := w32_id (by clear hx hy hi hj hm; omega) (by clear hx hy hi hj hm; omega)
      have wst : w32 (so.getD t 0) = so.getD t 0 := w32_id (by clear hx hy hi hj hm; omega) (by clear hx hy hi hj hm; omega)
      have wmi := w32_in m
      rw [hm] at wmi
      subst es'
      subst et'
      have z0' : w32 0 = 0 := rfl
      by_cases c0 : so.getD s 0 = -1
      · have n0 : (so.getD s 0 < 0) = True := eq_true (by clear hx hy hi hj hm wso wst; omega)
        rw [if_pos (Or.inl c0)]
        refine ⟨hp, hX0, Fr_refl hp, fun R => ?_⟩
        simp only [if_pos (show so.getD s 0 = -1 ∨ so.getD t 0 = -1 from Or.inl c0)]
        rw [callD_k]; simp only [entL_i, entL_l, entL_q, entL_s, entL_nil, n_X11_move, u_X11_move, m_X11_move, rep_1, List.cons_append, List.nil_append, List.append_nil, List.length_cons, List.length_nil, Nat.reduceAdd, true_and]
        simp only [AW_k, AWk_1, x_iload_1, x_call_1, x_if_eq, x_iload_3, x_if_ne, x_push_i, x_push_l, x_ret, x_ret_i, x_ret_z, x_ret_l, x_ret_c, x_aload_0, x_aloads_0, x_getf, x_iald, x_ialds, x_if_lt, x_if_ge, k_X11_move_0, k_X11_move_1, k_X11_move_2, k_X11_move_3, k_X11_move_4, k_X11_move_5, k_X11_move_6, k_X11_move_7, k_X11_move_8, k_X11_move_9, k_X11_move_10, k_X11_move_11, k_X11_move_12, k_X11_move_13, k_X11_move_14, k_X11_move_15, k_X11_move_16, k_X11_move_17, k_X11_move_18, k_X11_move_19, oE_some, Int.reduceToNat, Nat.reduceAdd, true_and, and_true, List.length_cons, List.length_nil, Option.toList_some, Option.toList_none, List.cons_append, List.nil_append, Nat.reduceLeDiff, Nat.le_refl, wdS_nil, wdS_i, wdS_l, wdS_r, wdS_n, wdS_s, ms, mt, w10, g37, a75, iso, w32_nat bs, Int.toNat_natCast, wso, n0, ↓reduceIte]
      · have n0 : (so.getD s 0 < 0) = False := eq_false (by clear hx hy hi hj hm wso wst; omega)
        by_cases c1 : so.getD t 0 = -1
        · have n1 : (so.getD t 0 < 0) = True := eq_true (by clear hx hy hi hj hm wso wst; omega)
          rw [if_pos (Or.inr c1)]
          refine ⟨hp, hX0, Fr_refl hp, fun R => ?_⟩
          simp only [if_pos (show so.getD s 0 = -1 ∨ so.getD t 0 = -1 from Or.inr c1)]
          rw [callD_k]; simp only [entL_i, entL_l, entL_q, entL_s, entL_nil, n_X11_move, u_X11_move, m_X11_move, rep_1, List.cons_append, List.nil_append, List.append_nil, List.length_cons, List.length_nil, Nat.reduceAdd, true_and]
          simp only [AW_k, AWk_1, x_iload_1, x_call_1, x_if_eq, x_iload_3, x_if_ne, x_push_i, x_push_l, x_ret, x_ret_i, x_ret_z, x_ret_l, x_ret_c, x_aload_0, x_aloads_0, x_getf, x_iald, x_ialds, x_if_lt, x_if_ge, k_X11_move_0, k_X11_move_1, k_X11_move_2, k_X11_move_3, k_X11_move_4, k_X11_move_5, k_X11_move_6, k_X11_move_7, k_X11_move_8, k_X11_move_9, k_X11_move_10, k_X11_move_11, k_X11_move_12, k_X11_move_13, k_X11_move_14, k_X11_move_15, k_X11_move_16, k_X11_move_17, k_X11_move_18, k_X11_move_19, oE_some, Int.reduceToNat, Nat.reduceAdd, true_and, and_true, List.length_cons, List.length_nil, Option.toList_some, Option.toList_none, List.cons_append, List.nil_append, Nat.reduceLeDiff, Nat.le_refl, wdS_nil, wdS_i, wdS_l, wdS_r, wdS_n, wdS_s, ms, mt, w10, g37, a75, iso, ito, w32_nat bs, w32_nat bt, Int.toNat_natCast, wso, wst, n0, n1, ↓reduceIte]
        · have n1 : (so.getD t 0 < 0) = False := eq_false (by clear hx hy hi hj hm wso wst; omega)
          have c01 : ¬ (so.getD s 0 = -1 ∨ so.getD t 0 = -1) := fun q => q.elim c0 c1
          rw [if_neg c01]
          by_cases c2 : so.getD s 0 = so.getD t 0
          · rw [if_pos c2]
            have n2 : (so.getD s 0 = so.getD t 0) = True := eq_true c2
            have toM : ∀ R : PO, callD (d + 100) 266 [mR 54, mI (s : Int), mI i, mI (t : Int), mI j, mI m] hp R ↔ AW (d + 99) [] 266 R 31 [some (mR 54), some (mI (s : Int)), some (mI i), some (mI (t : Int)), some (mI j), some (mI m), none] [] hp (0, 0) := by
              intro R
              rw [callD_k]; simp only [entL_i, entL_l, entL_q, entL_s, entL_nil, n_X11_move, u_X11_move, m_X11_move, rep_1, List.cons_append, List.nil_append, List.append_nil, List.length_cons, List.length_nil, Nat.reduceAdd, true_and]
              simp only [AW_k, AWk_1, x_iload_1, x_call_1, x_if_eq, x_iload_3, x_if_ne, x_push_i, x_push_l, x_ret, x_ret_i, x_ret_z, x_ret_l, x_ret_c, x_aload_0, x_aloads_0, x_getf, x_iald, x_ialds, x_if_lt, x_if_ge, x_icmp_eq, k_X11_move_0, k_X11_move_1, k_X11_move_2, k_X11_move_3, k_X11_move_4, k_X11_move_5, k_X11_move_6, k_X11_move_7, k_X11_move_8, k_X11_move_9, k_X11_move_10, k_X11_move_11, k_X11_move_12, k_X11_move_13, k_X11_move_14, k_X11_move_15, k_X11_move_16, k_X11_move_17, k_X11_move_18, k_X11_move_19, k_X11_move_20, k_X11_move_21, k_X11_move_22, k_X11_move_23, k_X11_move_24, k_X11_move_25, k_X11_move_26, k_X11_move_27, k_X11_move_28, k_X11_move_29, k_X11_move_30, oE_some, Int.reduceToNat, Nat.reduceAdd, true_and, and_true, List.length_cons, List.length_nil, Option.toList_some, Option.toList_none, List.cons_append, List.nil_append, Nat.reduceLeDiff, Nat.le_refl, wdS_nil, wdS_i, wdS_l, wdS_r, wdS_n, wdS_s, ms, mt, w10, g37, a75, iso, ito, w32_nat bs, w32_nat bt, Int.toNat_natCast, wso, wst, n0, n1, n2, ↓reduceIte]
            have dn : (rchs (le.getD s 0) i m && rchs (le.getD t 0) j m) = (decide (0 ≤ m) && (decide (0 ≤ i) && (decide (0 ≤ j) && (decide (i ≤ (L : Int) - m) && decide (j ≤ (L' : Int) - m))))) := by
              unfold rchs
              rw [l1, l1', Bool.eq_iff_iff]
              simp only [Bool.and_eq_true, decide_eq_true_eq]
              clear hx hy hi hj hm wso wst
              omega
            have no : (rchs (le.getD s 0) i m && rchs (le.getD t 0) j m) = false → (∀ R : PO, AW (d + 99) [] 266 R 31 [some (mR 54), some (mI (s : Int)), some (mI i), some (mI (t : Int)), some (mI j), some (mI m), none] [] hp (0, 0) ↔ R (some (mI (-12))) hp) → ∃ h', MI (h') n G z c ks es ik kn kG kz kc kks kes tc tb sc tl so le (match (if (rchs (le.getD s 0) i m && rchs (le.getD t 0) j m) = true then some (s, t) else none) with | some p => updF it p.2 (cpyL 0#64 (it p.1) (it p.2) i.toNat j.toNat m.toNat) | none => it) he th sl tr bo ∧ Fr 54 83 hp h' ∧ ∀ R : PO, callD (d + 100) 266 [mR 54, mI (s : Int), mI i, mI (t : Int), mI j, mI m] hp R ↔ R (some (mI (if so.getD s 0 = -1 ∨ so.getD t 0 = -1 then -11 else if so.getD s 0 = so.getD t 0 then (if (rchs (le.getD s 0) i m && rchs (le.getD t 0) j m) = true then m else -12) else -13))) h' := by
              intro er q
              rw [er]
              simp only [Bool.false_eq_true, if_neg c01, if_pos c2, ↓reduceIte]
              exact ⟨hp, hX0, Fr_refl hp, fun R => (toM R).trans (q R)⟩
            by_cases k1 : m < 0
            · refine no (by rw [dn, decide_eq_false (show ¬ 0 ≤ m by clear hx hy hi hj hm wso wst; omega), Bool.false_and]) (fun R => ?_)
              simp only [AW_k, AWk_1, x_iload_5, x_if_lt, x_iload_2, x_iload_4, x_aload_0, x_aloads_0, x_getf, x_iload_1, x_iald, x_ialds, x_isub, x_icmp_gt, x_iload_3, x_icmp_le, x_push_i, x_push_l, x_ret, x_ret_i, x_ret_z, x_ret_l, x_ret_c, k_X11_move_31, k_X11_move_32, k_X11_move_33, k_X11_move_34, k_X11_move_35, k_X11_move_36, k_X11_move_37, k_X11_move_38, k_X11_move_39, k_X11_move_40, k_X11_move_41, k_X11_move_42, k_X11_move_43, k_X11_move_44, k_X11_move_45, k_X11_move_46, k_X11_move_47, k_X11_move_48, k_X11_move_49, k_X11_move_50, k_X11_move_51, k_X11_move_52, k_X11_move_53, k_X11_move_54, oE_some, Int.reduceToNat, Nat.reduceAdd, true_and, and_true, List.length_cons, List.length_nil, Option.toList_some, Option.toList_none, List.cons_append, List.nil_append, Nat.reduceLeDiff, Nat.le_refl, wdS_nil, wdS_i, wdS_l, wdS_r, wdS_n, wdS_s, hm, k1, ↓reduceIte]
            · by_cases k2 : i < 0
              · refine no (by rw [dn, decide_eq_false (show ¬ 0 ≤ i by clear hx hy hi hj hm wso wst; omega), Bool.false_and, Bool.and_false]) (fun R => ?_)
                simp only [AW_k, AWk_1, x_iload_5, x_if_lt, x_iload_2, x_iload_4, x_aload_0, x_aloads_0, x_getf, x_iload_1, x_iald, x_ialds, x_isub, x_icmp_gt, x_iload_3, x_icmp_le, x_push_i, x_push_l, x_ret, x_ret_i, x_ret_z, x_ret_l, x_ret_c, k_X11_move_31, k_X11_move_32, k_X11_move_33, k_X11_move_34, k_X11_move_35, k_X11_move_36, k_X11_move_37, k_X11_move_38, k_X11_move_39, k_X11_move_40, k_X11_move_41, k_X11_move_42, k_X11_move_43, k_X11_move_44, k_X11_move_45, k_X11_move_46, k_X11_move_47, k_X11_move_48, k_X11_move_49, k_X11_move_50, k_X11_move_51, k_X11_move_52, k_X11_move_53, k_X11_move_54, oE_some, Int.reduceToNat, Nat.reduceAdd, true_and, and_true, List.length_cons, List.length_nil, Option.toList_some, Option.toList_none, List.cons_append, List.nil_append, Nat.reduceLeDiff, Nat.le_refl, wdS_nil, wdS_i, wdS_l, wdS_r, wdS_n, wdS_s, hm, hi, k1, k2, ↓reduceIte]
              · by_cases k3 : j < 0
                · refine no (by rw [dn, decide_eq_false (show ¬ 0 ≤ j by clear hx hy hi hj hm wso wst; omega), Bool.false_and, Bool.and_false, Bool.and_false]) (fun R => ?_)
                  simp only [AW_k, AWk_1, x_iload_5, x_if_lt, x_iload_2, x_iload_4, x_aload_0, x_aloads_0, x_getf, x_iload_1, x_iald, x_ialds, x_isub, x_icmp_gt, x_iload_3, x_icmp_le, x_push_i, x_push_l, x_ret, x_ret_i, x_ret_z, x_ret_l, x_ret_c, k_X11_move_31, k_X11_move_32, k_X11_move_33, k_X11_move_34, k_X11_move_35, k_X11_move_36, k_X11_move_37, k_X11_move_38, k_X11_move_39, k_X11_move_40, k_X11_move_41, k_X11_move_42, k_X11_move_43, k_X11_move_44, k_X11_move_45, k_X11_move_46, k_X11_move_47, k_X11_move_48, k_X11_move_49, k_X11_move_50, k_X11_move_51, k_X11_move_52, k_X11_move_53, k_X11_move_54, oE_some, Int.reduceToNat, Nat.reduceAdd, true_and, and_true, List.length_cons, List.length_nil, Option.toList_some, Option.toList_none, List.cons_append, List.nil_append, Nat.reduceLeDiff, Nat.le_refl, wdS_nil, wdS_i, wdS_l, wdS_r, wdS_n, wdS_s, hm, hi, hj, k1, k2, k3, ↓reduceIte]
                · have w5 : w32 ((L : Int) - m) = (L : Int) - m := w32_id (by clear hx hy hi hj hm wso wst; omega) (by clear hx hy hi hj hm wso wst; omega)
                  have w6 : w32 ((L' : Int) - m) = (L' : Int) - m := w32_id (by clear hx hy hi hj hm wso wst w5; omega) (by clear hx hy hi hj hm wso wst w5; omega)
                  by_cases k4 : (L : Int) - m < i
                  · refine no (by rw [dn, decide_eq_false (show ¬ i ≤ (L : Int) - m by clear hx hy hi hj hm wso wst w5 w6; omega), Bool.false_and, Bool.and_false, Bool.and_false, Bool.and_false]) (fun R => ?_)
                    simp only [AW_k, AWk_1, x_iload_5, x_if_lt, x_iload_2, x_iload_4, x_aload_0, x_aloads_0, x_getf, x_iload_1, x_iald, x_ialds, x_isub, x_icmp_gt, x_iload_3, x_icmp_le, x_push_i, x_push_l, x_ret, x_ret_i, x_ret_z, x_ret_l, x_ret_c, k_X11_move_31, k_X11_move_32, k_X11_move_33, k_X11_move_34, k_X11_move_35, k_X11_move_36, k_X11_move_37, k_X11_move_38, k_X11_move_39, k_X11_move_40, k_X11_move_41, k_X11_move_42, k_X11_move_43, k_X11_move_44, k_X11_move_45, k_X11_move_46, k_X11_move_47, k_X11_move_48, k_X11_move_49, k_X11_move_50, k_X11_move_51, k_X11_move_52, k_X11_move_53, k_X11_move_54, oE_some, Int.reduceToNat, Nat.reduceAdd, true_and, and_true, List.length_cons, List.length_nil, Option.toList_some, Option.toList_none, List.cons_append, List.nil_append, Nat.reduceLeDiff, Nat.le_refl, wdS_nil, wdS_i, wdS_l, wdS_r, wdS_n, wdS_s, hm, hi, hj, k1, k2, k3, g38, a76, ile, w32_nat bs, Int.toNat_natCast, l1, w5, k4, ↓reduceIte]
                  · by_cases k5 : (L' : Int) - m < j
                    · refine no (by rw [dn, decide_eq_false (show ¬ j ≤ (L' : Int) - m by clear hx hy hi hj hm wso wst w5 w6; omega), Bool.and_false, Bool.and_false, Bool.and_false, Bool.and_false]) (fun R => ?_)
                      simp only [AW_k, AWk_1, x_iload_5, x_if_lt, x_iload_2, x_iload_4, x_aload_0, x_aloads_0, x_getf, x_iload_1, x_iald, x_ialds, x_isub, x_icmp_gt, x_iload_3, x_icmp_le, x_push_i, x_push_l, x_ret, x_ret_i, x_ret_z, x_ret_l, x_ret_c, k_X11_move_31, k_X11_move_32, k_X11_move_33, k_X11_move_34, k_X11_move_35, k_X11_move_36, k_X11_move_37, k_X11_move_38, k_X11_move_39, k_X11_move_40, k_X11_move_41, k_X11_move_42, k_X11_move_43, k_X11_move_44, k_X11_move_45, k_X11_move_46, k_X11_move_47, k_X11_move_48, k_X11_move_49, k_X11_move_50, k_X11_move_51, k_X11_move_52, k_X11_move_53, k_X11_move_54, oE_some, Int.reduceToNat, Nat.reduceAdd, true_and, and_true, List.length_cons, List.length_nil, Option.toList_some, Option.toList_none, List.cons_append, List.nil_append, Nat.reduceLeDiff, Nat.le_refl, wdS_nil, wdS_i, wdS_l, wdS_r, wdS_n, wdS_s, hm, hi, hj, k1, k2, k3, g38, a76, ile, jle, w32_nat bs, w32_nat bt, Int.toNat_natCast, l1, l1', w5, w6, k4, k5, ↓reduceIte]
                    · have er : (rchs (le.getD s 0) i m && rchs (le.getD t 0) j m) = true := by
                        rw [dn, decide_eq_true (show 0 ≤ m by clear hx hy hi hj hm wso wst w5 w6; omega), decide_eq_true (show 0 ≤ i by clear hx hy hi hj hm wso wst w5 w6; omega), decide_eq_true (show 0 ≤ j by clear hx hy hi hj hm wso wst w5 w6; omega), decide_eq_true (show i ≤ (L : Int) - m by clear hx hy hi hj hm wso wst w5 w6; omega), decide_eq_true (show j ≤ (L' : Int) - m by clear hx hy hi hj hm wso wst w5 w6; omega)]
                        rfl
                      obtain ⟨I, eI⟩ : ∃ I : Nat, i = (I : Int) := ⟨i.toNat, by clear hx hy hi hj hm wso wst w5 w6; omega⟩
                      obtain ⟨J, eJ⟩ : ∃ J : Nat, j = (J : Int) := ⟨j.toNat, by clear hx hy hi hj hm wso wst w5 w6; omega⟩
                      obtain ⟨m0, em⟩ : ∃ m0 : Nat, m = (m0 : Int) := ⟨m.toNat, by clear hx hy hi hj hm wso wst w5 w6; omega⟩
                      subst eI
                      subst eJ
                      subst em
                      have hI : I + m0 ≤ 40 := by clear hx hy hi hj hm wso wst w5 w6; omega
                      have hJ : J + m0 ≤ 40 := by clear hx hy hi hj hm wso wst w5 w6; omega
                      obtain ⟨as', a1, a2, a3⟩ := m_mvA d (s := s) (I := I) (t := t) (J := J) (m := m0) hs hI lce m0 0 as hp (Nat.zero_add _) g39 g40 j77 j78 las
                      obtain ⟨ce', b1, b2, b3⟩ := m_mvB d (s := s) (I := I) (t := t) (J := J) (m := m0) ht hJ a1 m0 0 ce (pJ hp 78 as') (Nat.zero_add _) (by rw [gF_pJ, g39]) (by rw [gF_pJ, g40]) (by rw [gJ_pJ (by decide), j77]) (gJ_pJ_same j78) lce
                      simp only [er, if_neg c01, if_pos c2, Int.toNat_natCast, ↓reduceIte]
                      have f : Fr 75 79 hp (pJ (pJ hp 78 as') 77 ce') := Fr_trans (Fr_pJ (by omega) (by omega)) (Fr_pJ (by omega) (by omega))
                      refine ⟨pJ (pJ hp 78 as') 77 ce', MI_H hX0 f ⟨⟨by rw [gA_pJ, gA_pJ, a75], by rw [gA_pJ, gA_pJ, a76]⟩, ⟨ce', gJ_pJ_same (by rw [gJ_pJ (by decide), j77]), b1, ?_⟩, as', by rw [gJ_pJ (by decide)]; exact gJ_pJ_same j78, a1⟩, Fr_mono f (by omega) (by omega), fun R => (toM R).trans ?_⟩
                      · exact mv_ce hs ht hI hJ lit hce a2 b2
                      · refine Iff.trans ?_ ((a3 R).trans (b3 R))
                        simp only [AW_k, AWk_1, x_iload_5, x_if_lt, x_iload_2, x_iload_4, x_aload_0, x_aloads_0, x_getf, x_iload_1, x_iald, x_ialds, x_isub, x_icmp_gt, x_iload_3, x_icmp_le, x_push_i, x_push_l, x_ret, x_ret_i, x_ret_z, x_ret_l, x_ret_c, x_istore_6, x_iload_6, unl_i, unl_l, unl_q, unl_r, unl_s, unl_n, k_X11_move_31, k_X11_move_32, k_X11_move_33, k_X11_move_34, k_X11_move_35, k_X11_move_36, k_X11_move_37, k_X11_move_38, k_X11_move_39, k_X11_move_40, k_X11_move_41, k_X11_move_42, k_X11_move_43, k_X11_move_44, k_X11_move_45, k_X11_move_46, k_X11_move_47, k_X11_move_48, k_X11_move_49, k_X11_move_50, k_X11_move_51, k_X11_move_52, k_X11_move_53, k_X11_move_54, k_X11_move_55, k_X11_move_56, k_X11_move_57, oE_some, Int.reduceToNat, Nat.reduceAdd, true_and, and_true, List.length_cons, List.length_nil, Option.toList_some, Option.toList_none, List.cons_append, List.nil_append, Nat.reduceLeDiff, Nat.le_refl, wdS_nil, wdS_i, wdS_l, wdS_r, wdS_n, wdS_s, hm, hi, hj, k1, k2, k3, g38, a76, ile, jle, w32_nat bs, w32_nat bt, Int.toNat_natCast, l1, l1', w5, w6, k4, k5, ↓reduceIte]
                        all_goals exact Iff.rfl
          · have n2 : (so.getD s 0 = so.getD t 0) = False := eq_false c2
            rw [if_neg c2]
            refine ⟨hp, hX0, Fr_refl hp, fun R => ?_⟩
            simp only [if_neg c01, if_neg c2]
            rw [callD_k]; simp only [entL_i, entL_l, entL_q, entL_s, entL_nil, n_X11_move, u_X11_move, m_X11_move, rep_1, List.cons_append, List.nil_append, List.append_nil, List.length_cons, List.length_nil, Nat.reduceAdd, true_and]
            simp only [AW_k, AWk_1, x_iload_1, x_call_1, x_if_eq, x_iload_3, x_if_ne, x_push_i, x_push_l, x_ret, x_ret_i, x_ret_z, x_ret_l, x_ret_c, x_aload_0, x_aloads_0, x_getf, x_iald, x_ialds, x_if_lt, x_if_ge, x_icmp_eq, k_X11_move_0, k_X11_move_1, k_X11_move_2, k_X11_move_3, k_X11_move_4, k_X11_move_5, k_X11_move_6, k_X11_move_7, k_X11_move_8, k_X11_move_9, k_X11_move_10, k_X11_move_11, k_X11_move_12, k_X11_move_13, k_X11_move_14, k_X11_move_15, k_X11_move_16, k_X11_move_17, k_X11_move_18, k_X11_move_19, k_X11_move_20, k_X11_move_21, k_X11_move_22, k_X11_move_23, k_X11_move_24, k_X11_move_25, k_X11_move_26, k_X11_move_27, k_X11_move_28, k_X11_move_29, k_X11_move_30, oE_some, Int.reduceToNat, Nat.reduceAdd, true_and, and_true, List.length_cons, List.length_nil, Option.toList_some, Option.toList_none, List.cons_append, List.nil_append, Nat.reduceLeDiff, Nat.le_refl, wdS_nil, wdS_i, wdS_l, wdS_r, wdS_n, wdS_s, ms, mt, w10, g37, a75, iso, ito, w32_nat bs, w32_nat bt, Int.toNat_natCast, wso, wst, n0, n1, n2, ↓reduceIte]
