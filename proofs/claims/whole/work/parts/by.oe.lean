/-! ===== the reference's whatIs (2) ===== -/
set_option maxHeartbeats 16000000 in
theorem m_fits (d : Nat) {hp : HP} {n : Nat} {G : BitVec 64} {z : Int} {c : Nat} {ks : List Int} {es : List Int} {ik : Bool} {kn : Nat} {kG : BitVec 64} {kz : Int} {kc : Nat} {kks : List Int} {kes : List Int} {tc : Nat} {tb : List Int} {sc : Nat} {tl : List Int} {so : List Int} {le : List Int} {it : Nat → List (BitVec 64)} {he : List Int} {th : List Int} {sl : List Int} {tr : Nat} {bo : List Int} {s L : Nat} {H : BitVec 64} (hX : MI (hp) n G z c ks es ik kn kG kz kc kks kes tc tb sc tl so le it he th sl tr bo) (hO : shOK so le it) (hs : s < 4) (hl : le.getD s 0 = (L : Int)) (hL : L ≤ 40) (hI : ∀ j, w32 ((it s).getD j 0).toInt = ((it s).getD j 0).toInt) (h3 : L % 3 = 0) (ha : at3A n (it s) (L / 3) 0 = true) (R : PO) : callD (d + 10) 250 [mR 54, mI (s : Int), mL H] hp R ↔ R (some (mI (zI (ftA n H (it s) (L / 3) 0)))) hp := by
  refine Iff.trans ?_ (m_ftLoop d (R := R) (H := H) hX hO hs hl hL hI (L / 3) 0 none none (by omega) ha)
  rw [callD_k]; simp only [entL_i, entL_l, entL_q, entL_s, entL_nil, n_X11_fits, u_X11_fits, m_X11_fits, rep_3, List.cons_append, List.nil_append, List.append_nil, List.length_cons, List.length_nil, Nat.reduceAdd, true_and]
  simp only [AW_k, AWk_1, x_push_i, x_push_l, x_istore_4, x_iload_4, unl_i, unl_l, unl_q, unl_r, unl_s, unl_n, k_X11_fits_0, k_X11_fits_1, k_X11_fits_2, oE_some, Int.reduceToNat, Nat.reduceAdd, true_and, and_true, List.length_cons, List.length_nil, Option.toList_some, Option.toList_none, List.cons_append, List.nil_append, Nat.reduceLeDiff, Nat.le_refl, wdS_nil, wdS_i, wdS_l, wdS_r, wdS_n, wdS_s]
  all_goals exact Iff.rfl
def lsF (f : Nat → Bool) (k : Nat) : Int := match fst f (96 - k) k with
  | some j => (j : Int)
  | none => -3
theorem lsF_up {f : Nat → Bool} {k : Nat} (h : k < 96) : lsF f k = if f k = true then (k : Int) else lsF f (k + 1) := by
  unfold lsF
  rw [show 96 - k = (96 - (k + 1)) + 1 by omega]
  show (match (if f k = true then some k else fst f (96 - (k + 1)) (k + 1)) with | some j => (j : Int) | none => -3) = _
  cases f k <;> rfl
set_option maxHeartbeats 32000000 in
theorem m_whLoop (d : Nat) {hp : HP} {n : Nat} {G : BitVec 64} {z : Int} {c : Nat} {ks : List Int} {es : List Int} {ik : Bool} {kn : Nat} {kG : BitVec 64} {kz : Int} {kc : Nat} {kks : List Int} {kes : List Int} {tc : Nat} {tb : List Int} {sc : Nat} {tl : List Int} {so : List Int} {le : List Int} {it : Nat → List (BitVec 64)} {he : List Int} {th : List Int} {sl : List Int} {tr : Nat} {bo : List Int} {s L : Nat} {w : Int} {R : PO} (hX : MI (hp) n G z c ks es ik kn kG kz kc kks kes tc tb sc tl so le it he th sl tr bo) (hO : shOK so le it) (hs : s < 4) (hl : le.getD s 0 = (L : Int)) (hL : L ≤ 40) (hI : ∀ j, w32 ((it s).getD j 0).toInt = ((it s).getD j 0).toInt) (hw : w32 w = w) (h3 : L % 3 = 0) (ha : at3A n (it s) (L / 3) 0 = true) : ∀ k, k ≤ 96 → (AWh (d + 20) [] 251 R 32 [some (mR 54), some (mI (s : Int)), some (mI w), some (mI (cnt (wiF n L (it s)) 96 - cnt (wiF n L (it s)) k)), some (mI (lsF (wiF n L (it s)) k)), some (mI ((k : Int) - 1))] [] hp (0, 0) ↔ R (some (mI (if w = 0 then cnt (wiF n L (it s)) 96 else lsF (wiF n L (it s)) 0))) hp) := by
  have hX0 := hX
  obtain ⟨⟨u1, u2, u3⟩, kN, kZ, kM, kGm, l5, l6, qk, q0, q1, q2, q3, q4, q5, q6, q7, q8, q9⟩ := hX
  obtain ⟨fr_, to_, co_, op_, wr_, ki_, nu_, mm_, pa_, hF⟩ := YO_F q0
  have hA : MA hp n := ⟨⟨⟨u2, u3⟩, hF 0, hF 18, hF 19, q1.1.1, q1.1.2⟩, ⟨hF 13, hF 14, hF 15, hF 16, hF 17⟩, q1.2⟩
  have hK := hA.1
  have cK := cM hK
  have hG : gF hp 54 11 3 = some (mL G) := hF 3
  have cT := fun R => m_areThrees (d + 10) hX0 hO hs hl hL R
  rw [decide_eq_true h3, ha, Bool.true_and, zI_t] at cT
  intro k
  induction k with
  | zero =>
    intro _
    have e : cnt (wiF n L (it s)) 96 - cnt (wiF n L (it s)) 0 = cnt (wiF n L (it s)) 96 := Int.sub_zero _
    have n1 : (w32 (((0 : Nat) : Int) - 1) < 0) = True := eq_true (by decide)
    rw [e]
    rw [AWh_k, k_X11_whatIs_32]
    by_cases c : w = 0
    · rw [if_pos c]
      have c' : (w = 0) = True := eq_true c
      simp only [AW_k, AWk_1, x_iload_5, x_if_lt, x_iload_2, x_if_ne, x_iload_3, x_goto, x_iload_4, x_ret, x_ret_i, x_ret_z, x_ret_l, x_ret_c, k_X11_whatIs_32, k_X11_whatIs_33, k_X11_whatIs_57, k_X11_whatIs_58, k_X11_whatIs_59, k_X11_whatIs_60, k_X11_whatIs_61, k_X11_whatIs_62, oE_some, Int.reduceToNat, Nat.reduceAdd, true_and, and_true, List.length_cons, List.length_nil, Option.toList_some, Option.toList_none, List.cons_append, List.nil_append, Nat.reduceLeDiff, Nat.le_refl, wdS_nil, wdS_i, wdS_l, wdS_r, wdS_n, wdS_s, n1, hw, c', ↓reduceIte]
    · rw [if_neg c]
      simp only [AW_k, AWk_1, x_iload_5, x_if_lt, x_iload_2, x_if_ne, x_iload_3, x_goto, x_iload_4, x_ret, x_ret_i, x_ret_z, x_ret_l, x_ret_c, k_X11_whatIs_32, k_X11_whatIs_33, k_X11_whatIs_57, k_X11_whatIs_58, k_X11_whatIs_59, k_X11_whatIs_60, k_X11_whatIs_61, k_X11_whatIs_62, oE_some, Int.reduceToNat, Nat.reduceAdd, true_and, and_true, List.length_cons, List.length_nil, Option.toList_some, Option.toList_none, List.cons_append, List.nil_append, Nat.reduceLeDiff, Nat.le_refl, wdS_nil, wdS_i, wdS_l, wdS_r, wdS_n, wdS_s, n1, hw, c, ↓reduceIte]
  | succ k ih =>
    intro hk
    have ih := ih (by omega)
    have bk : k < 2147483648 := by omega
    have e0 : ((k + 1 : Nat) : Int) - 1 = (k : Int) := by omega
    have e1 : (k : Int) + -1 = (k : Int) - 1 := rfl
    have n1 : ((k : Int) < 0) = False := eq_false (by omega)
    have k6 : k / 16 < 6 := by omega
    have k16 : k % 16 < 16 := by omega
    have ed : Int.tdiv (w32 (k : Int)) (w32 16) = ((k / 16 : Nat) : Int) := w_div (b := 16) bk (by decide)
    have em : Int.tmod (w32 (k : Int)) (w32 16) = ((k % 16 : Nat) : Int) := w_mod (b := 16) bk (by decide)
    have w16 : (w32 16 = 0) = False := eq_false (by decide)
    rw [w32_nat bk] at ed em
    have ct := fun R => m_takenBy (d + 15) hA k6 k16 R
    have cc : ∀ R : PO, callD (d + 20) 190 [mR 54, mL (stB (tk n (k / 16) (k % 16)) (NA n))] hp R ↔ R (some (mL (wbG n k))) hp := fun R => m_closedBy (d + 18) hA (okS_stB _ (Nat.le_refl _)) R
    have cf := fun R => m_fits (d + 10) (H := wbG n k) hX0 hO hs hl hL hI h3 ha R
    have ef : ftA n (wbG n k) (it s) (L / 3) 0 = wiF n L (it s) k := by
      unfold wiF ftW
      rw [decide_eq_true h3, Bool.true_and]
    rw [ef] at cf
    rw [lsF_up (show k < 96 by omega)] at ih
    cases c : wiF n L (it s) k with
    | true =>
      rw [c] at cf
      rw [c, if_pos rfl] at ih
      have e3 : cnt (wiF n L (it s)) 96 - cnt (wiF n L (it s)) (k + 1) + 1 = cnt (wiF n L (it s)) 96 - cnt (wiF n L (it s)) k := by
        rw [cnt_succ (wiF n L (it s)) k, c, zI_t]; omega
      rw [AWh_k, k_X11_whatIs_32]
      simp only [AW_k, AWk_1, x_iload_5, x_if_lt, x_aload_0, x_aloads_0, x_iload_1, x_callv_2, x_if_eq, x_push_i, x_push_l, x_idiv, x_irem, x_callv_3, x_iinc_3, x_istore_4, x_iinc_5, x_goto, unl_i, unl_l, unl_q, unl_r, unl_s, unl_n, k_X11_whatIs_32, k_X11_whatIs_33, k_X11_whatIs_34, k_X11_whatIs_35, k_X11_whatIs_36, k_X11_whatIs_37, k_X11_whatIs_38, k_X11_whatIs_39, k_X11_whatIs_40, k_X11_whatIs_41, k_X11_whatIs_42, k_X11_whatIs_43, k_X11_whatIs_44, k_X11_whatIs_45, k_X11_whatIs_46, k_X11_whatIs_47, k_X11_whatIs_48, k_X11_whatIs_49, k_X11_whatIs_50, k_X11_whatIs_51, k_X11_whatIs_52, k_X11_whatIs_53, k_X11_whatIs_54, k_X11_whatIs_55, k_X11_whatIs_56, oE_some, Int.reduceToNat, Nat.reduceAdd, true_and, and_true, List.length_cons, List.length_nil, Option.toList_some, Option.toList_none, List.cons_append, List.nil_append, Nat.reduceLeDiff, Nat.le_refl, wdS_nil, wdS_i, wdS_l, wdS_r, wdS_n, wdS_s, e0, w32_nat bk, n1, cK, cT, w10, ed, em, w16, not_false_eq_true, ct, cc, cf, zI_t, e3, e1, ↓reduceIte]
      exact ih
    | false =>
      rw [c] at cf
      rw [c, if_neg (by decide)] at ih
      have e3 : cnt (wiF n L (it s)) 96 - cnt (wiF n L (it s)) (k + 1) = cnt (wiF n L (it s)) 96 - cnt (wiF n L (it s)) k := by
        rw [cnt_succ (wiF n L (it s)) k, c, zI_f]; omega
      rw [AWh_k, k_X11_whatIs_32]
      simp only [AW_k, AWk_1, x_iload_5, x_if_lt, x_aload_0, x_aloads_0, x_iload_1, x_callv_2, x_if_eq, x_push_i, x_push_l, x_idiv, x_irem, x_callv_3, x_iinc_3, x_istore_4, x_iinc_5, x_goto, unl_i, unl_l, unl_q, unl_r, unl_s, unl_n, k_X11_whatIs_32, k_X11_whatIs_33, k_X11_whatIs_34, k_X11_whatIs_35, k_X11_whatIs_36, k_X11_whatIs_37, k_X11_whatIs_38, k_X11_whatIs_39, k_X11_whatIs_40, k_X11_whatIs_41, k_X11_whatIs_42, k_X11_whatIs_43, k_X11_whatIs_44, k_X11_whatIs_45, k_X11_whatIs_46, k_X11_whatIs_47, k_X11_whatIs_48, k_X11_whatIs_49, k_X11_whatIs_50, k_X11_whatIs_51, k_X11_whatIs_52, k_X11_whatIs_53, k_X11_whatIs_54, k_X11_whatIs_55, k_X11_whatIs_56, oE_some, Int.reduceToNat, Nat.reduceAdd, true_and, and_true, List.length_cons, List.length_nil, Option.toList_some, Option.toList_none, List.cons_append, List.nil_append, Nat.reduceLeDiff, Nat.le_refl, wdS_nil, wdS_i, wdS_l, wdS_r, wdS_n, wdS_s, e0, w32_nat bk, n1, cK, cT, w10, w00, ed, em, w16, not_false_eq_true, ct, cc, cf, zI_f, e3, e1, ↓reduceIte]
      exact ih
set_option maxHeartbeats 32000000 in
theorem x_whatIs_m (d : Nat) {hp : HP} {n : Nat} {G : BitVec 64} {z : Int} {c : Nat} {ks : List Int} {es : List Int} {ik : Bool} {kn : Nat} {kG : BitVec 64} {kz : Int} {kc : Nat} {kks : List Int} {kes : List Int} {tc : Nat} {tb : List Int} {sc : Nat} {tl : List Int} {so : List Int} {le : List Int} {it : Nat → List (BitVec 64)} {he : List Int} {th : List Int} {sl : List Int} {tr : Nat} {bo : List Int} {x w : Int} (hX : MI (hp) n G z c ks es ik kn kG kz kc kks kes tc tb sc tl so le it he th sl tr bo) (hO : shOK so le it) (hI : itOK so it) (hx : w32 x = x) (hw : w32 w = w) (R : PO) : callD (d + 100) 251 [mR 54, mI x, mI w] hp R ↔ R (some (mI (whA n so le it x w))) hp := by
  have hX0 := hX
  obtain ⟨⟨u1, u2, u3⟩, kN, kZ, kM, kGm, l5, l6, qk, q0, q1, q2, q3, q4, q5, q6, q7, q8, q9⟩ := hX
  obtain ⟨fr_, to_, co_, op_, wr_, ki_, nu_, mm_, pa_, hF⟩ := YO_F q0
  have hA : MA hp n := ⟨⟨⟨u2, u3⟩, hF 0, hF 18, hF 19, q1.1.1, q1.1.2⟩, ⟨hF 13, hF 14, hF 15, hF 16, hF 17⟩, q1.2⟩
  have hK := hA.1
  have cK := cM hK
  have hG : gF hp 54 11 3 = some (mL G) := hF 3
  have g37 : gF hp 54 11 37 = some (mR 75) := hF 37
  obtain ⟨⟨a75, a76⟩, -, -⟩ := q7
  have hO' := hO
  obtain ⟨lso, lle, lit, hlk⟩ := hO
  have i2' : w32 2 = 2 := rfl
  unfold whA
  cases ex : shO x with
  | none =>
    rw [callD_k]; simp only [entL_i, entL_l, entL_q, entL_s, entL_nil, n_X11_whatIs, u_X11_whatIs, m_X11_whatIs, rep_3, List.cons_append, List.nil_append, List.append_nil, List.length_cons, List.length_nil, Nat.reduceAdd, true_and]
    simp only [AW_k, AWk_1, x_iload_1, x_call_1, x_if_eq, x_iload_2, x_i2l, x_push_i, x_push_l, x_call_3, x_if_ne, x_ret, x_ret_i, x_ret_z, x_ret_l, x_ret_c, k_X11_whatIs_0, k_X11_whatIs_1, k_X11_whatIs_2, k_X11_whatIs_3, k_X11_whatIs_4, k_X11_whatIs_5, k_X11_whatIs_6, k_X11_whatIs_7, k_X11_whatIs_8, k_X11_whatIs_9, k_X11_whatIs_10, oE_some, Int.reduceToNat, Nat.reduceAdd, true_and, and_true, List.length_cons, List.length_nil, Option.toList_some, Option.toList_none, List.cons_append, List.nil_append, Nat.reduceLeDiff, Nat.le_refl, wdS_nil, wdS_i, wdS_l, wdS_r, wdS_n, wdS_s, m_isSheet_n (d + 97) hx ex, w00, ↓reduceIte]
  | some s =>
    obtain ⟨hs, es'⟩ := shO_lt ex
    have ms := fun R => m_isSheet_s (d + 97) (hp := hp) hx ex R
    have bs : s < 2147483648 := by omega
    obtain ⟨L, l1, l2, l3, l4⟩ := hlk s hs
    have iso : inB (s : Int) so.length := by rw [lso]; exact inB_n hs (by decide)
    have wso : w32 (so.getD s 0) = so.getD s 0 := w32_id (by omega) (by omega)
    subst es'
    by_cases hin : 0 ≤ w ∧ w ≤ 1
    · have d1 : inI w 0 1 = true := decide_eq_true hin
      show _ ↔ R (some (mI (if 0 ≤ w ∧ w ≤ 1 then _ else _))) hp
      rw [if_pos hin, l1, Int.toNat_natCast]
      by_cases c1 : so.getD s 0 = -1
      · rw [if_pos c1]
        have n1 : (so.getD s 0 = 2) = False := eq_false (by clear hx hw wso; omega)
        have n2 : (so.getD s 0 < 0) = True := eq_true (by clear hx hw wso; omega)
        rw [callD_k]; simp only [entL_i, entL_l, entL_q, entL_s, entL_nil, n_X11_whatIs, u_X11_whatIs, m_X11_whatIs, rep_3, List.cons_append, List.nil_append, List.append_nil, List.length_cons, List.length_nil, Nat.reduceAdd, true_and]
        simp only [AW_k, AWk_1, x_iload_1, x_call_1, x_if_eq, x_iload_2, x_i2l, x_push_i, x_push_l, x_call_3, x_if_ne, x_ret, x_ret_i, x_ret_z, x_ret_l, x_ret_c, k_X11_whatIs_0, k_X11_whatIs_1, k_X11_whatIs_2, k_X11_whatIs_3, k_X11_whatIs_4, k_X11_whatIs_5, k_X11_whatIs_6, k_X11_whatIs_7, k_X11_whatIs_8, k_X11_whatIs_9, k_X11_whatIs_10, oE_some, Int.reduceToNat, Nat.reduceAdd, true_and, and_true, List.length_cons, List.length_nil, Option.toList_some, Option.toList_none, List.cons_append, List.nil_append, Nat.reduceLeDiff, Nat.le_refl, wdS_nil, wdS_i, wdS_l, wdS_r, wdS_n, wdS_s, ms, w10, m_in (d + 98), tI_id hw, q0_I, one_long, d1, zI_t, ↓reduceIte]
        simp only [AW_k, AWk_1, x_aload_0, x_aloads_0, x_getf, x_iload_1, x_iald, x_ialds, x_push_i, x_push_l, x_icmp_eq, x_if_ge, x_goto, x_ret, x_ret_i, x_ret_z, x_ret_l, x_ret_c, k_X11_whatIs_11, k_X11_whatIs_12, k_X11_whatIs_13, k_X11_whatIs_14, k_X11_whatIs_15, k_X11_whatIs_16, k_X11_whatIs_17, k_X11_whatIs_18, k_X11_whatIs_19, k_X11_whatIs_20, k_X11_whatIs_21, k_X11_whatIs_22, k_X11_whatIs_23, k_X11_whatIs_24, k_X11_whatIs_25, oE_some, Int.reduceToNat, Nat.reduceAdd, true_and, and_true, List.length_cons, List.length_nil, Option.toList_some, Option.toList_none, List.cons_append, List.nil_append, Nat.reduceLeDiff, Nat.le_refl, wdS_nil, wdS_i, wdS_l, wdS_r, wdS_n, wdS_s, g37, a75, iso, w32_nat bs, Int.toNat_natCast, wso, i2', n1, n2, ↓reduceIte]
      · rw [if_neg c1]
        by_cases c2 : so.getD s 0 = 2
        · rw [if_pos c2]
          have n1 : (so.getD s 0 = 2) = True := eq_true c2
          have hIs := hI s hs c2
          cases hT : (decide (L % 3 = 0) && at3A n (it s) (L / 3) 0) with
          | false =>
            have cT := fun R => m_areThrees (d + 89) hX0 hO' hs l1 l2 R
            rw [hT, zI_f] at cT
            have fz : ∀ k, wiF n L (it s) k = false := by
              intro k
              unfold wiF ftW
              cases e3 : decide (L % 3 = 0) with
              | false => rw [Bool.false_and]
              | true =>
                rw [e3, Bool.true_and] at hT
                rw [ftA_at _ _ hT, Bool.and_false]
            have ew : whR n L (it s) w 96 0 = if w = 1 then -3 else 0 := by
              unfold whR
              rw [fst_none_of (fun q _ _ => fz q), cnt_zero (fun q _ => fz q)]
            rw [ew]
            have n95 : (w32 95 < 0) = False := eq_false (by decide)
            rw [callD_k]; simp only [entL_i, entL_l, entL_q, entL_s, entL_nil, n_X11_whatIs, u_X11_whatIs, m_X11_whatIs, rep_3, List.cons_append, List.nil_append, List.append_nil, List.length_cons, List.length_nil, Nat.reduceAdd, true_and]
            simp only [AW_k, AWk_1, x_iload_1, x_call_1, x_if_eq, x_iload_2, x_i2l, x_push_i, x_push_l, x_call_3, x_if_ne, x_ret, x_ret_i, x_ret_z, x_ret_l, x_ret_c, k_X11_whatIs_0, k_X11_whatIs_1, k_X11_whatIs_2, k_X11_whatIs_3, k_X11_whatIs_4, k_X11_whatIs_5, k_X11_whatIs_6, k_X11_whatIs_7, k_X11_whatIs_8, k_X11_whatIs_9, k_X11_whatIs_10, oE_some, Int.reduceToNat, Nat.reduceAdd, true_and, and_true, List.length_cons, List.length_nil, Option.toList_some, Option.toList_none, List.cons_append, List.nil_append, Nat.reduceLeDiff, Nat.le_refl, wdS_nil, wdS_i, wdS_l, wdS_r, wdS_n, wdS_s, ms, w10, m_in (d + 98), tI_id hw, q0_I, one_long, d1, zI_t, ↓reduceIte]
            simp only [AW_k, AWk_1, x_aload_0, x_aloads_0, x_getf, x_iload_1, x_iald, x_ialds, x_push_i, x_push_l, x_icmp_eq, x_if_ge, x_goto, x_ret, x_ret_i, x_ret_z, x_ret_l, x_ret_c, x_istore_3, x_istore_4, x_istore_5, x_iload_5, unl_i, unl_l, unl_q, unl_r, unl_s, unl_n, k_X11_whatIs_11, k_X11_whatIs_12, k_X11_whatIs_13, k_X11_whatIs_14, k_X11_whatIs_15, k_X11_whatIs_16, k_X11_whatIs_17, k_X11_whatIs_18, k_X11_whatIs_19, k_X11_whatIs_20, k_X11_whatIs_21, k_X11_whatIs_22, k_X11_whatIs_23, k_X11_whatIs_24, k_X11_whatIs_25, k_X11_whatIs_26, k_X11_whatIs_27, k_X11_whatIs_28, k_X11_whatIs_29, k_X11_whatIs_30, k_X11_whatIs_31, k_X11_whatIs_32, oE_some, Int.reduceToNat, Nat.reduceAdd, true_and, and_true, List.length_cons, List.length_nil, Option.toList_some, Option.toList_none, List.cons_append, List.nil_append, Nat.reduceLeDiff, Nat.le_refl, wdS_nil, wdS_i, wdS_l, wdS_r, wdS_n, wdS_s, g37, a75, iso, w32_nat bs, Int.toNat_natCast, wso, i2', n1, ↓reduceIte]
            by_cases c0 : w = 0
            · have c0' : (w = 0) = True := eq_true c0
              have c10 : ¬ w = 1 := by clear hx hw wso; omega
              rw [if_neg c10]
              rw [AWh_k, k_X11_whatIs_32]
              simp only [AW_k, AWk_1, x_iload_5, x_if_lt, x_aload_0, x_aloads_0, x_iload_1, x_callv_2, x_if_eq, x_iload_2, x_if_ne, x_iload_3, x_goto, x_iload_4, x_ret, x_ret_i, x_ret_z, x_ret_l, x_ret_c, k_X11_whatIs_32, k_X11_whatIs_33, k_X11_whatIs_34, k_X11_whatIs_35, k_X11_whatIs_36, k_X11_whatIs_37, k_X11_whatIs_57, k_X11_whatIs_58, k_X11_whatIs_59, k_X11_whatIs_60, k_X11_whatIs_61, k_X11_whatIs_62, oE_some, Int.reduceToNat, Nat.reduceAdd, true_and, and_true, List.length_cons, List.length_nil, Option.toList_some, Option.toList_none, List.cons_append, List.nil_append, Nat.reduceLeDiff, Nat.le_refl, wdS_nil, wdS_i, wdS_l, wdS_r, wdS_n, wdS_s, n95, cK, cT, w00, hw, c0', ↓reduceIte]
            · have c11 : w = 1 := by clear hx hw wso; omega
              rw [if_pos c11]
              rw [AWh_k, k_X11_whatIs_32]
              simp only [AW_k, AWk_1, x_iload_5, x_if_lt, x_aload_0, x_aloads_0, x_iload_1, x_callv_2, x_if_eq, x_iload_2, x_if_ne, x_iload_3, x_goto, x_iload_4, x_ret, x_ret_i, x_ret_z, x_ret_l, x_ret_c, k_X11_whatIs_32, k_X11_whatIs_33, k_X11_whatIs_34, k_X11_whatIs_35, k_X11_whatIs_36, k_X11_whatIs_37, k_X11_whatIs_57, k_X11_whatIs_58, k_X11_whatIs_59, k_X11_whatIs_60, k_X11_whatIs_61, k_X11_whatIs_62, oE_some, Int.reduceToNat, Nat.reduceAdd, true_and, and_true, List.length_cons, List.length_nil, Option.toList_some, Option.toList_none, List.cons_append, List.nil_append, Nat.reduceLeDiff, Nat.le_refl, wdS_nil, wdS_i, wdS_l, wdS_r, wdS_n, wdS_s, n95, cK, cT, w00, hw, c0, ↓reduceIte]
          | true =>
            rw [Bool.and_eq_true] at hT
            have h3 : L % 3 = 0 := of_decide_eq_true hT.1
            have key := m_whLoop (d + 79) (w := w) (R := R) hX0 hO' hs l1 l2 hIs hw h3 hT.2 96 (Nat.le_refl _)
            rw [Int.sub_self] at key
            have ew : whR n L (it s) w 96 0 = if w = 0 then cnt (wiF n L (it s)) 96 else lsF (wiF n L (it s)) 0 := by
              unfold whR lsF
              by_cases c0 : w = 0
              · rw [if_pos c0, if_neg (by clear hx hw wso; omega)]
              · rw [if_neg c0, if_pos (by clear hx hw wso; omega)]
                rfl
            rw [ew]
            refine Iff.trans ?_ key
            rw [callD_k]; simp only [entL_i, entL_l, entL_q, entL_s, entL_nil, n_X11_whatIs, u_X11_whatIs, m_X11_whatIs, rep_3, List.cons_append, List.nil_append, List.append_nil, List.length_cons, List.length_nil, Nat.reduceAdd, true_and]
            simp only [AW_k, AWk_1, x_iload_1, x_call_1, x_if_eq, x_iload_2, x_i2l, x_push_i, x_push_l, x_call_3, x_if_ne, x_ret, x_ret_i, x_ret_z, x_ret_l, x_ret_c, k_X11_whatIs_0, k_X11_whatIs_1, k_X11_whatIs_2, k_X11_whatIs_3, k_X11_whatIs_4, k_X11_whatIs_5, k_X11_whatIs_6, k_X11_whatIs_7, k_X11_whatIs_8, k_X11_whatIs_9, k_X11_whatIs_10, oE_some, Int.reduceToNat, Nat.reduceAdd, true_and, and_true, List.length_cons, List.length_nil, Option.toList_some, Option.toList_none, List.cons_append, List.nil_append, Nat.reduceLeDiff, Nat.le_refl, wdS_nil, wdS_i, wdS_l, wdS_r, wdS_n, wdS_s, ms, w10, m_in (d + 98), tI_id hw, q0_I, one_long, d1, zI_t, ↓reduceIte]
            simp only [AW_k, AWk_1, x_aload_0, x_aloads_0, x_getf, x_iload_1, x_iald, x_ialds, x_push_i, x_push_l, x_icmp_eq, x_if_ge, x_goto, x_ret, x_ret_i, x_ret_z, x_ret_l, x_ret_c, x_istore_3, x_istore_4, x_istore_5, x_iload_5, unl_i, unl_l, unl_q, unl_r, unl_s, unl_n, k_X11_whatIs_11, k_X11_whatIs_12, k_X11_whatIs_13, k_X11_whatIs_14, k_X11_whatIs_15, k_X11_whatIs_16, k_X11_whatIs_17, k_X11_whatIs_18, k_X11_whatIs_19, k_X11_whatIs_20, k_X11_whatIs_21, k_X11_whatIs_22, k_X11_whatIs_23, k_X11_whatIs_24, k_X11_whatIs_25, k_X11_whatIs_26, k_X11_whatIs_27, k_X11_whatIs_28, k_X11_whatIs_29, k_X11_whatIs_30, k_X11_whatIs_31, k_X11_whatIs_32, oE_some, Int.reduceToNat, Nat.reduceAdd, true_and, and_true, List.length_cons, List.length_nil, Option.toList_some, Option.toList_none, List.cons_append, List.nil_append, Nat.reduceLeDiff, Nat.le_refl, wdS_nil, wdS_i, wdS_l, wdS_r, wdS_n, wdS_s, g37, a75, iso, w32_nat bs, Int.toNat_natCast, wso, i2', n1, ↓reduceIte]
            all_goals exact Iff.rfl
        · rw [if_neg c2]
          have n1 : (so.getD s 0 = 2) = False := eq_false c2
          have n2 : (so.getD s 0 < 0) = False := eq_false (by clear hx hw wso; omega)
          rw [callD_k]; simp only [entL_i, entL_l, entL_q, entL_s, entL_nil, n_X11_whatIs, u_X11_whatIs, m_X11_whatIs, rep_3, List.cons_append, List.nil_append, List.append_nil, List.length_cons, List.length_nil, Nat.reduceAdd, true_and]
          simp only [AW_k, AWk_1, x_iload_1, x_call_1, x_if_eq, x_iload_2, x_i2l, x_push_i, x_push_l, x_call_3, x_if_ne, x_ret, x_ret_i, x_ret_z, x_ret_l, x_ret_c, k_X11_whatIs_0, k_X11_whatIs_1, k_X11_whatIs_2, k_X11_whatIs_3, k_X11_whatIs_4, k_X11_whatIs_5, k_X11_whatIs_6, k_X11_whatIs_7, k_X11_whatIs_8, k_X11_whatIs_9, k_X11_whatIs_10, oE_some, Int.reduceToNat, Nat.reduceAdd, true_and, and_true, List.length_cons, List.length_nil, Option.toList_some, Option.toList_none, List.cons_append, List.nil_append, Nat.reduceLeDiff, Nat.le_refl, wdS_nil, wdS_i, wdS_l, wdS_r, wdS_n, wdS_s, ms, w10, m_in (d + 98), tI_id hw, q0_I, one_long, d1, zI_t, ↓reduceIte]
          simp only [AW_k, AWk_1, x_aload_0, x_aloads_0, x_getf, x_iload_1, x_iald, x_ialds, x_push_i, x_push_l, x_icmp_eq, x_if_ge, x_goto, x_ret, x_ret_i, x_ret_z, x_ret_l, x_ret_c, k_X11_whatIs_11, k_X11_whatIs_12, k_X11_whatIs_13, k_X11_whatIs_14, k_X11_whatIs_15, k_X11_whatIs_16, k_X11_whatIs_17, k_X11_whatIs_18, k_X11_whatIs_19, k_X11_whatIs_20, k_X11_whatIs_21, k_X11_whatIs_22, k_X11_whatIs_23, k_X11_whatIs_24, k_X11_whatIs_25, oE_some, Int.reduceToNat, Nat.reduceAdd, true_and, and_true, List.length_cons, List.length_nil, Option.toList_some, Option.toList_none, List.cons_append, List.nil_append, Nat.reduceLeDiff, Nat.le_refl, wdS_nil, wdS_i, wdS_l, wdS_r, wdS_n, wdS_s, g37, a75, iso, w32_nat bs, Int.toNat_natCast, wso, i2', n1, n2, ↓reduceIte]
    · have d1 : inI w 0 1 = false := decide_eq_false hin
      show _ ↔ R (some (mI (if 0 ≤ w ∧ w ≤ 1 then _ else _))) hp
      rw [if_neg hin]
      rw [callD_k]; simp only [entL_i, entL_l, entL_q, entL_s, entL_nil, n_X11_whatIs, u_X11_whatIs, m_X11_whatIs, rep_3, List.cons_append, List.nil_append, List.append_nil, List.length_cons, List.length_nil, Nat.reduceAdd, true_and]
      simp only [AW_k, AWk_1, x_iload_1, x_call_1, x_if_eq, x_iload_2, x_i2l, x_push_i, x_push_l, x_call_3, x_if_ne, x_ret, x_ret_i, x_ret_z, x_ret_l, x_ret_c, k_X11_whatIs_0, k_X11_whatIs_1, k_X11_whatIs_2, k_X11_whatIs_3, k_X11_whatIs_4, k_X11_whatIs_5, k_X11_whatIs_6, k_X11_whatIs_7, k_X11_whatIs_8, k_X11_whatIs_9, k_X11_whatIs_10, oE_some, Int.reduceToNat, Nat.reduceAdd, true_and, and_true, List.length_cons, List.length_nil, Option.toList_some, Option.toList_none, List.cons_append, List.nil_append, Nat.reduceLeDiff, Nat.le_refl, wdS_nil, wdS_i, wdS_l, wdS_r, wdS_n, wdS_s, ms, w10, m_in (d + 98), tI_id hw, q0_I, one_long, d1, zI_f, w00, ↓reduceIte]
