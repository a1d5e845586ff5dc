/-! ===== the tape: words ===== -/
def sgnB (x : Nat) : Bool := decide (x = 40) || decide (x = 41) || decide (x = 60) || decide (x = 61) || decide (x = 62)
/-- what a word is -/
def wcd (b : Nat → Nat) (p e : Nat) : Nat := if dgt (b p) = true then (if e - p ≤ 4 then 1 else 10) else if ltr (b p) = true then nmC b p e else if sgnB (b p) = true then b p else 10
def wrI (b : Nat → Nat) : Nat → Nat → Int → Int
  | 0, _, acc => acc
  | k + 1, p, acc => wrI b k (p + 1) (acc * 10 + (b p : Int) - 48)
set_option maxHeartbeats 16000000 in
theorem c8_wordAt (d : Nat) {hp : HP} {a tc p e : Nat} {ft : Int} {tb ws bg wo : List Int} {at_ : Int} {av : AV} {b : Nat → Nat} (h : TPS hp a tc ft tb ws bg wo at_ av) (hb : byOK tb b) (hp1 : p < e) (he : e ≤ 200) (R : PO) : callD (d + 7) 78 [mR a, mI (p : Int), mI (e : Int)] hp R ↔ R (some (mI (wcd b p e : Int))) hp := by
  have p200 : p < 200 := by omega
  have bb := (hb.2 p p200).2
  have bb2 : b p < 2147483648 := by omega
  have ee : (e : Int) - (p : Int) = ((e - p : Nat) : Int) := by omega
  have bep : e - p < 2147483648 := by omega
  have kC := gC_of h.1.1
  have cn := c8_nameAt d h hb (Nat.le_of_lt hp1) he
  obtain ⟨g1, g2⟩ := b200 hb p200
  unfold wcd
  cases hd : dgt (b p)
  · cases hl : ltr (b p)
    · rw [if_neg (by decide), if_neg (by decide)]
      by_cases q0 : b p = 40
      · rw [callD_k]; simp only [entL_i, entL_l, entL_q, entL_s, entL_nil, n_X8_wordAt, u_X8_wordAt, m_X8_wordAt, rep_2, List.cons_append, List.nil_append, List.append_nil, List.length_cons, List.length_nil, Nat.reduceAdd, true_and]
        simp only [AW_k, AWk_1, x_aload_0, x_aloads_0, x_getf, x_iload_1, x_iald, x_ialds, x_istore_3, x_iload_3, x_call_1, x_if_eq, x_iload_2, x_isub, x_push_i, x_push_l, x_icmp_gt, x_goto, x_ret, x_ret_i, x_ret_z, x_ret_l, x_ret_c, x_callv_3, x_icmp_eq, x_icmp_ne, x_istore_4, x_iload_4, unl_i, unl_l, unl_q, unl_r, unl_s, unl_n, k_X8_wordAt_0, k_X8_wordAt_1, k_X8_wordAt_2, k_X8_wordAt_3, k_X8_wordAt_4, k_X8_wordAt_5, k_X8_wordAt_6, k_X8_wordAt_7, k_X8_wordAt_8, k_X8_wordAt_9, k_X8_wordAt_10, k_X8_wordAt_11, k_X8_wordAt_12, k_X8_wordAt_13, k_X8_wordAt_14, k_X8_wordAt_15, k_X8_wordAt_16, k_X8_wordAt_17, k_X8_wordAt_18, k_X8_wordAt_19, k_X8_wordAt_20, k_X8_wordAt_21, k_X8_wordAt_22, k_X8_wordAt_23, k_X8_wordAt_24, k_X8_wordAt_25, k_X8_wordAt_26, k_X8_wordAt_27, k_X8_wordAt_28, k_X8_wordAt_29, k_X8_wordAt_30, k_X8_wordAt_31, k_X8_wordAt_32, k_X8_wordAt_33, k_X8_wordAt_34, k_X8_wordAt_35, k_X8_wordAt_36, k_X8_wordAt_37, k_X8_wordAt_38, k_X8_wordAt_39, k_X8_wordAt_40, k_X8_wordAt_41, k_X8_wordAt_42, k_X8_wordAt_43, k_X8_wordAt_44, k_X8_wordAt_45, k_X8_wordAt_46, k_X8_wordAt_47, k_X8_wordAt_48, k_X8_wordAt_49, oE_some, Int.reduceToNat, Nat.reduceAdd, true_and, and_true, List.length_cons, List.length_nil, Option.toList_some, Option.toList_none, List.cons_append, List.nil_append, Nat.reduceLeDiff, Nat.le_refl, wdS_nil, wdS_i, wdS_l, wdS_r, wdS_n, wdS_s, h.1.2.2.1, h.2.1, g1, g2, c8_isDigit (d + 5) bb, c8_isLetter (d + 5) bb, hd, hl, w32_zI_0, Bool.true_eq_false, if_true, if_false]
        rw [w32_nat bb2, show w32 40 = 40 from rfl, if_pos (show (b p : Int) = 40 by omega), if_neg (by decide), q0]
        exact Iff.rfl
      · have s : sgnB (b p) = (decide (b p = 41) || decide (b p = 60) || decide (b p = 61) || decide (b p = 62)) := by
          unfold sgnB; rw [decide_eq_false q0, Bool.false_or]
        rw [s]
        rw [callD_k]; simp only [entL_i, entL_l, entL_q, entL_s, entL_nil, n_X8_wordAt, u_X8_wordAt, m_X8_wordAt, rep_2, List.cons_append, List.nil_append, List.append_nil, List.length_cons, List.length_nil, Nat.reduceAdd, true_and]
        simp only [AW_k, AWk_1, x_aload_0, x_aloads_0, x_getf, x_iload_1, x_iald, x_ialds, x_istore_3, x_iload_3, x_call_1, x_if_eq, x_iload_2, x_isub, x_push_i, x_push_l, x_icmp_gt, x_goto, x_ret, x_ret_i, x_ret_z, x_ret_l, x_ret_c, x_callv_3, x_icmp_eq, x_icmp_ne, x_istore_4, x_iload_4, unl_i, unl_l, unl_q, unl_r, unl_s, unl_n, k_X8_wordAt_0, k_X8_wordAt_1, k_X8_wordAt_2, k_X8_wordAt_3, k_X8_wordAt_4, k_X8_wordAt_5, k_X8_wordAt_6, k_X8_wordAt_7, k_X8_wordAt_8, k_X8_wordAt_9, k_X8_wordAt_10, k_X8_wordAt_11, k_X8_wordAt_12, k_X8_wordAt_13, k_X8_wordAt_14, k_X8_wordAt_15, k_X8_wordAt_16, k_X8_wordAt_17, k_X8_wordAt_18, k_X8_wordAt_19, k_X8_wordAt_20, k_X8_wordAt_21, k_X8_wordAt_22, k_X8_wordAt_23, k_X8_wordAt_24, k_X8_wordAt_25, k_X8_wordAt_26, k_X8_wordAt_27, k_X8_wordAt_28, k_X8_wordAt_29, k_X8_wordAt_30, k_X8_wordAt_31, k_X8_wordAt_32, k_X8_wordAt_33, k_X8_wordAt_34, k_X8_wordAt_35, k_X8_wordAt_36, k_X8_wordAt_37, k_X8_wordAt_38, k_X8_wordAt_39, k_X8_wordAt_40, k_X8_wordAt_41, k_X8_wordAt_42, k_X8_wordAt_43, k_X8_wordAt_44, k_X8_wordAt_45, k_X8_wordAt_46, k_X8_wordAt_47, k_X8_wordAt_48, k_X8_wordAt_49, oE_some, Int.reduceToNat, Nat.reduceAdd, true_and, and_true, List.length_cons, List.length_nil, Option.toList_some, Option.toList_none, List.cons_append, List.nil_append, Nat.reduceLeDiff, Nat.le_refl, wdS_nil, wdS_i, wdS_l, wdS_r, wdS_n, wdS_s, h.1.2.2.1, h.2.1, g1, g2, c8_isDigit (d + 5) bb, c8_isLetter (d + 5) bb, hd, hl, w32_zI_0, Bool.true_eq_false, if_true, if_false, show ¬ w32 1 = 0 by decide, show w32 0 = 0 from rfl]
        rw [w32_nat bb2, show w32 40 = 40 from rfl, show w32 41 = 41 from rfl, show w32 60 = 60 from rfl, show w32 61 = 61 from rfl, show w32 62 = 62 from rfl, if_neg (show ¬ (b p : Int) = 40 by omega)]
        by_cases q1 : b p = 41
        · rw [if_pos (show (b p : Int) = 41 by omega), decide_eq_true q1, q1]; exact Iff.rfl
        · rw [if_neg (show ¬ (b p : Int) = 41 by omega), decide_eq_false q1]
          by_cases q2 : b p = 60
          · rw [if_pos (show (b p : Int) = 60 by omega), decide_eq_true q2, q2]; exact Iff.rfl
          · rw [if_neg (show ¬ (b p : Int) = 60 by omega), decide_eq_false q2]
            by_cases q3 : b p = 61
            · rw [if_pos (show (b p : Int) = 61 by omega), decide_eq_true q3, q3]; exact Iff.rfl
            · rw [if_neg (show ¬ (b p : Int) = 61 by omega), decide_eq_false q3]
              by_cases q4 : b p = 62
              · rw [if_pos (show (b p : Int) = 62 by omega), decide_eq_true q4, q4]; exact Iff.rfl
              · rw [if_neg (show ¬ (b p : Int) = 62 by omega), decide_eq_false q4]; exact Iff.rfl
    · rw [if_neg (by decide), if_pos rfl]
      rw [callD_k]; simp only [entL_i, entL_l, entL_q, entL_s, entL_nil, n_X8_wordAt, u_X8_wordAt, m_X8_wordAt, rep_2, List.cons_append, List.nil_append, List.append_nil, List.length_cons, List.length_nil, Nat.reduceAdd, true_and]
      simp only [AW_k, AWk_1, x_aload_0, x_aloads_0, x_getf, x_iload_1, x_iald, x_ialds, x_istore_3, x_iload_3, x_call_1, x_if_eq, x_iload_2, x_isub, x_push_i, x_push_l, x_icmp_gt, x_goto, x_ret, x_ret_i, x_ret_z, x_ret_l, x_ret_c, x_callv_3, x_icmp_eq, x_icmp_ne, x_istore_4, x_iload_4, unl_i, unl_l, unl_q, unl_r, unl_s, unl_n, k_X8_wordAt_0, k_X8_wordAt_1, k_X8_wordAt_2, k_X8_wordAt_3, k_X8_wordAt_4, k_X8_wordAt_5, k_X8_wordAt_6, k_X8_wordAt_7, k_X8_wordAt_8, k_X8_wordAt_9, k_X8_wordAt_10, k_X8_wordAt_11, k_X8_wordAt_12, k_X8_wordAt_13, k_X8_wordAt_14, k_X8_wordAt_15, k_X8_wordAt_16, k_X8_wordAt_17, k_X8_wordAt_18, k_X8_wordAt_19, k_X8_wordAt_20, k_X8_wordAt_21, k_X8_wordAt_22, k_X8_wordAt_23, k_X8_wordAt_24, k_X8_wordAt_25, k_X8_wordAt_26, k_X8_wordAt_27, k_X8_wordAt_28, k_X8_wordAt_29, k_X8_wordAt_30, k_X8_wordAt_31, k_X8_wordAt_32, k_X8_wordAt_33, k_X8_wordAt_34, k_X8_wordAt_35, k_X8_wordAt_36, k_X8_wordAt_37, k_X8_wordAt_38, k_X8_wordAt_39, k_X8_wordAt_40, k_X8_wordAt_41, k_X8_wordAt_42, k_X8_wordAt_43, k_X8_wordAt_44, k_X8_wordAt_45, k_X8_wordAt_46, k_X8_wordAt_47, k_X8_wordAt_48, k_X8_wordAt_49, oE_some, Int.reduceToNat, Nat.reduceAdd, true_and, and_true, List.length_cons, List.length_nil, Option.toList_some, Option.toList_none, List.cons_append, List.nil_append, Nat.reduceLeDiff, Nat.le_refl, wdS_nil, wdS_i, wdS_l, wdS_r, wdS_n, wdS_s, h.1.2.2.1, h.2.1, g1, g2, c8_isDigit (d + 5) bb, c8_isLetter (d + 5) bb, hd, hl, w32_zI_0, Bool.true_eq_false, if_true, if_false, kC, cn]
  · rw [if_pos rfl]
    rw [callD_k]; simp only [entL_i, entL_l, entL_q, entL_s, entL_nil, n_X8_wordAt, u_X8_wordAt, m_X8_wordAt, rep_2, List.cons_append, List.nil_append, List.append_nil, List.length_cons, List.length_nil, Nat.reduceAdd, true_and]
    simp only [AW_k, AWk_1, x_aload_0, x_aloads_0, x_getf, x_iload_1, x_iald, x_ialds, x_istore_3, x_iload_3, x_call_1, x_if_eq, x_iload_2, x_isub, x_push_i, x_push_l, x_icmp_gt, x_goto, x_ret, x_ret_i, x_ret_z, x_ret_l, x_ret_c, x_callv_3, x_icmp_eq, x_icmp_ne, x_istore_4, x_iload_4, unl_i, unl_l, unl_q, unl_r, unl_s, unl_n, k_X8_wordAt_0, k_X8_wordAt_1, k_X8_wordAt_2, k_X8_wordAt_3, k_X8_wordAt_4, k_X8_wordAt_5, k_X8_wordAt_6, k_X8_wordAt_7, k_X8_wordAt_8, k_X8_wordAt_9, k_X8_wordAt_10, k_X8_wordAt_11, k_X8_wordAt_12, k_X8_wordAt_13, k_X8_wordAt_14, k_X8_wordAt_15, k_X8_wordAt_16, k_X8_wordAt_17, k_X8_wordAt_18, k_X8_wordAt_19, k_X8_wordAt_20, k_X8_wordAt_21, k_X8_wordAt_22, k_X8_wordAt_23, k_X8_wordAt_24, k_X8_wordAt_25, k_X8_wordAt_26, k_X8_wordAt_27, k_X8_wordAt_28, k_X8_wordAt_29, k_X8_wordAt_30, k_X8_wordAt_31, k_X8_wordAt_32, k_X8_wordAt_33, k_X8_wordAt_34, k_X8_wordAt_35, k_X8_wordAt_36, k_X8_wordAt_37, k_X8_wordAt_38, k_X8_wordAt_39, k_X8_wordAt_40, k_X8_wordAt_41, k_X8_wordAt_42, k_X8_wordAt_43, k_X8_wordAt_44, k_X8_wordAt_45, k_X8_wordAt_46, k_X8_wordAt_47, k_X8_wordAt_48, k_X8_wordAt_49, oE_some, Int.reduceToNat, Nat.reduceAdd, true_and, and_true, List.length_cons, List.length_nil, Option.toList_some, Option.toList_none, List.cons_append, List.nil_append, Nat.reduceLeDiff, Nat.le_refl, wdS_nil, wdS_i, wdS_l, wdS_r, wdS_n, wdS_s, h.1.2.2.1, h.2.1, g1, g2, c8_isDigit (d + 5) bb, hd, w32_zI_0, Bool.true_eq_false, if_false, ee]
    rw [w32_nat bep, show w32 4 = 4 from rfl]
    by_cases q : e - p ≤ 4
    · rw [if_pos q, if_neg (show ¬ (4 : Int) < ((e - p : Nat) : Int) by omega)]; exact Iff.rfl
    · rw [if_neg q, if_pos (show (4 : Int) < ((e - p : Nat) : Int) by omega)]; exact Iff.rfl
set_option maxHeartbeats 16000000 in
theorem c8_worthOf (d : Nat) {hp : HP} {a tc p e : Nat} {ft : Int} {tb ws bg wo : List Int} {at_ : Int} {av : AV} {b : Nat → Nat} (h : TPS hp a tc ft tb ws bg wo at_ av) (hb : byOK tb b) (hp1 : p ≤ e) (he : e ≤ 200) (R : PO) : callD (d + 1) 79 [mR a, mI (p : Int), mI (e : Int)] hp R ↔ R (some (mI (wrI b (e - p) p 0))) hp := by
  have key : ∀ (k q : Nat) (acc : Int), q + k = e → (AWh d [] 79 R 4 [some (mR a), some (mI (p : Int)), some (mI (e : Int)), some (mI acc), some (mI (q : Int))] [] hp (0, 0) ↔ R (some (mI (wrI b k q acc))) hp) := by
    intro k
    induction k with
    | zero =>
      intro q acc hq
      have bq : q < 2147483648 := by omega
      have be : e < 2147483648 := by omega
      have cc : ¬ (q : Int) < (e : Int) := by omega
      rw [AWh_k, k_X8_worthOf_4]
      simp only [AW_k, AWk_1, x_push_i, x_push_l, x_istore_3, x_iload_1, x_istore_4, x_iload_4, x_iload_2, x_icmp_ge, x_iload_3, x_imul, x_aload_0, x_aloads_0, x_getf, x_iald, x_ialds, x_iadd, x_isub, x_iinc_4, x_goto, x_ret, x_ret_i, x_ret_z, x_ret_l, x_ret_c, unl_i, unl_l, unl_q, unl_r, unl_s, unl_n, k_X8_worthOf_0, k_X8_worthOf_1, k_X8_worthOf_2, k_X8_worthOf_3, k_X8_worthOf_4, k_X8_worthOf_5, k_X8_worthOf_6, k_X8_worthOf_7, k_X8_worthOf_8, k_X8_worthOf_9, k_X8_worthOf_10, k_X8_worthOf_11, k_X8_worthOf_12, k_X8_worthOf_13, k_X8_worthOf_14, k_X8_worthOf_15, k_X8_worthOf_16, k_X8_worthOf_17, k_X8_worthOf_18, k_X8_worthOf_19, k_X8_worthOf_20, k_X8_worthOf_21, oE_some, Int.reduceToNat, Nat.reduceAdd, true_and, and_true, List.length_cons, List.length_nil, Option.toList_some, Option.toList_none, List.cons_append, List.nil_append, Nat.reduceLeDiff, Nat.le_refl, wdS_nil, wdS_i, wdS_l, wdS_r, wdS_n, wdS_s]
      rw [w32_nat bq, w32_nat be, if_neg cc]
      exact Iff.rfl
    | succ k ih =>
      intro q acc hq
      have bq : q < 2147483648 := by omega
      have be : e < 2147483648 := by omega
      have cc : (q : Int) < (e : Int) := by omega
      have q200 : q < 200 := by omega
      have i1 := ih (q + 1) (acc * 10 + (b q : Int) - 48) (by omega)
      obtain ⟨g1, g2⟩ := b200 hb q200
      rw [AWh_k, k_X8_worthOf_4]
      simp only [AW_k, AWk_1, x_push_i, x_push_l, x_istore_3, x_iload_1, x_istore_4, x_iload_4, x_iload_2, x_icmp_ge, x_iload_3, x_imul, x_aload_0, x_aloads_0, x_getf, x_iald, x_ialds, x_iadd, x_isub, x_iinc_4, x_goto, x_ret, x_ret_i, x_ret_z, x_ret_l, x_ret_c, unl_i, unl_l, unl_q, unl_r, unl_s, unl_n, k_X8_worthOf_0, k_X8_worthOf_1, k_X8_worthOf_2, k_X8_worthOf_3, k_X8_worthOf_4, k_X8_worthOf_5, k_X8_worthOf_6, k_X8_worthOf_7, k_X8_worthOf_8, k_X8_worthOf_9, k_X8_worthOf_10, k_X8_worthOf_11, k_X8_worthOf_12, k_X8_worthOf_13, k_X8_worthOf_14, k_X8_worthOf_15, k_X8_worthOf_16, k_X8_worthOf_17, k_X8_worthOf_18, k_X8_worthOf_19, k_X8_worthOf_20, k_X8_worthOf_21, oE_some, Int.reduceToNat, Nat.reduceAdd, true_and, and_true, List.length_cons, List.length_nil, Option.toList_some, Option.toList_none, List.cons_append, List.nil_append, Nat.reduceLeDiff, Nat.le_refl, wdS_nil, wdS_i, wdS_l, wdS_r, wdS_n, wdS_s, h.1.2.2.1, h.2.1, g1, g2]
      rw [w32_nat bq, w32_nat be, if_pos cc]
      exact i1
  rw [callD_k]; simp only [entL_i, entL_l, entL_q, entL_s, entL_nil, n_X8_worthOf, u_X8_worthOf, m_X8_worthOf, rep_2, List.cons_append, List.nil_append, List.append_nil, List.length_cons, List.length_nil, Nat.reduceAdd, true_and]
  simp only [AW_k, AWk_1, x_push_i, x_push_l, x_istore_3, x_iload_1, x_istore_4, x_iload_4, x_iload_2, x_icmp_ge, x_iload_3, x_imul, x_aload_0, x_aloads_0, x_getf, x_iald, x_ialds, x_iadd, x_isub, x_iinc_4, x_goto, x_ret, x_ret_i, x_ret_z, x_ret_l, x_ret_c, unl_i, unl_l, unl_q, unl_r, unl_s, unl_n, k_X8_worthOf_0, k_X8_worthOf_1, k_X8_worthOf_2, k_X8_worthOf_3, k_X8_worthOf_4, k_X8_worthOf_5, k_X8_worthOf_6, k_X8_worthOf_7, k_X8_worthOf_8, k_X8_worthOf_9, k_X8_worthOf_10, k_X8_worthOf_11, k_X8_worthOf_12, k_X8_worthOf_13, k_X8_worthOf_14, k_X8_worthOf_15, k_X8_worthOf_16, k_X8_worthOf_17, k_X8_worthOf_18, k_X8_worthOf_19, k_X8_worthOf_20, k_X8_worthOf_21, oE_some, Int.reduceToNat, Nat.reduceAdd, true_and, and_true, List.length_cons, List.length_nil, Option.toList_some, Option.toList_none, List.cons_append, List.nil_append, Nat.reduceLeDiff, Nat.le_refl, wdS_nil, wdS_i, wdS_l, wdS_r, wdS_n, wdS_s]
  exact key (e - p) p 0 (by omega)
/-- the words, where each begins and ends -/
def tks (b : Nat → Nat) (tc : Nat) : Nat → Nat → List (Nat × Nat)
  | 0, _ => []
  | f + 1, p => if p < tc then (if b p = 32 then tks b tc f (eow b tc p) else (p, eow b tc p) :: tks b tc f (eow b tc p)) else []
def tW (b : Nat → Nat) (T : List (Nat × Nat)) (k : Nat) : Nat := if k < T.length then wcd b (T.getD k (0, 0)).1 (T.getD k (0, 0)).2 else 0
def tB (tc : Nat) (T : List (Nat × Nat)) (k : Nat) : Nat := if k < T.length then (T.getD k (0, 0)).1 else tc
def tV (b : Nat → Nat) (T : List (Nat × Nat)) (k : Nat) : Int := if tW b T k = 1 then wrI b ((T.getD k (0, 0)).2 - (T.getD k (0, 0)).1) (T.getD k (0, 0)).1 0 else 0
/-- the first words of T stand in the tables -/
def tpI (b : Nat → Nat) (T : List (Nat × Nat)) (ws bg wo : List Int) : Prop := (ws.length = 201 ∧ bg.length = 201 ∧ wo.length = 201) ∧ ∀ k, k < T.length → ws.getD k 0 = (tW b T k : Int) ∧ bg.getD k 0 = ((T.getD k (0, 0)).1 : Int) ∧ wo.getD k 0 = tV b T k
theorem getD_app2 {T t : List (Nat × Nat)} {i : Nat} (h : i < T.length) : (T ++ t).getD i (0, 0) = T.getD i (0, 0) := by
  rw [List.getD_eq_getElem?_getD, List.getElem?_append_left h, ← List.getD_eq_getElem?_getD]
theorem getD_last {T : List (Nat × Nat)} {x : Nat × Nat} : (T ++ [x]).getD T.length (0, 0) = x := by
  rw [List.getD_eq_getElem?_getD, List.getElem?_append_right (Nat.le_refl _), Nat.sub_self]; rfl
theorem tW_app {b : Nat → Nat} {T : List (Nat × Nat)} {x : Nat × Nat} {k : Nat} (h : k < T.length) : tW b (T ++ [x]) k = tW b T k := by
  unfold tW
  rw [List.length_append, List.length_singleton, if_pos (by omega), if_pos h, getD_app2 h]
theorem tW_last {b : Nat → Nat} {T : List (Nat × Nat)} {x : Nat × Nat} : tW b (T ++ [x]) T.length = wcd b x.1 x.2 := by
  unfold tW
  rw [List.length_append, List.length_singleton, if_pos (by omega), getD_last]
theorem tpI_add {b : Nat → Nat} {T : List (Nat × Nat)} {ws bg wo : List Int} {x : Nat × Nat} (h : tpI b T ws bg wo) (hl : T.length < 201) : tpI b (T ++ [x]) (ws.set T.length (wcd b x.1 x.2 : Int)) (bg.set T.length (x.1 : Int)) (wo.set T.length (tV b (T ++ [x]) T.length)) := by
  obtain ⟨⟨l1, l2, l3⟩, h⟩ := h
  refine ⟨⟨by rw [List.length_set]; exact l1, by rw [List.length_set]; exact l2, by rw [List.length_set]; exact l3⟩, ?_⟩
  intro k hk
  rw [List.length_append, List.length_singleton] at hk
  rw [getD_set (by omega), getD_set (by omega), getD_set (by omega)]
  by_cases e : T.length = k
  · subst e
    rw [if_pos rfl, if_pos rfl, if_pos rfl, tW_last, getD_last]
    exact ⟨rfl, rfl, rfl⟩
  · rw [if_neg e, if_neg e, if_neg e]
    have hk2 : k < T.length := by omega
    have q := h k hk2
    refine ⟨by rw [q.1, tW_app hk2], by rw [q.2.1, getD_app2 hk2], ?_⟩
    rw [q.2.2]
    unfold tV
    rw [tW_app hk2, getD_app2 hk2]
