/-! ===== the tape: names ===== -/
theorem stx_all : ∀ j, j < 21 → (stxt j).length < 100 ∧ ∀ k, k < (stxt j).length → iAnd ((stxt j).getD k 0) 255 = (stxt j).getD k 0 ∧ 0 ≤ (stxt j).getD k 0 ∧ (stxt j).getD k 0 < 128 := by decide +kernel
theorem i2c_id {x : Int} (h0 : 0 ≤ x) (h1 : x < 128) : i2c x = x := by unfold i2c; omega
theorem iShr_0 {n : Nat} (h : n < 2147483648) : iShr (n : Int) 0 = (n : Int) := by
  have := iShr_nat (k := 0) h (by decide)
  rw [Nat.pow_zero, Nat.div_one] at this
  exact this
set_option maxHeartbeats 8000000 in
theorem c0_coder (d : Nat) {hp : HP} {t : Nat} (h : 100 ≤ t ∧ t < 121) (R : PO) : callD (d + 1) 295 [mS t] hp R ↔ R (some (mI 0)) hp := by
  rw [callD_k]; simp only [entL_i, entL_l, entL_q, entL_s, entL_nil, n_J0_coder_7d493, u_J0_coder_7d493, m_J0_coder_7d493, rep_0, List.cons_append, List.nil_append, List.append_nil, List.length_cons, List.length_nil, Nat.reduceAdd, true_and]
  simp only [AW_k, AWk_1, x_gcs, x_if_eq, x_aload_0, x_aloads_0, x_tcod, x_goto, x_push_i, x_push_l, x_ret, x_ret_i, x_ret_z, x_ret_l, x_ret_c, k_J0_coder_7d493_0, k_J0_coder_7d493_1, k_J0_coder_7d493_2, k_J0_coder_7d493_3, k_J0_coder_7d493_4, k_J0_coder_7d493_5, k_J0_coder_7d493_6, oE_some, Int.reduceToNat, Nat.reduceAdd, true_and, and_true, List.length_cons, List.length_nil, Option.toList_some, Option.toList_none, List.cons_append, List.nil_append, Nat.reduceLeDiff, Nat.le_refl, wdS_nil, wdS_i, wdS_l, wdS_r, wdS_n, wdS_s, h, Int.le_refl, show (0 : Int) < 128 by decide, and_self]
  rw [if_neg (by decide)]
set_option maxHeartbeats 8000000 in
theorem c0_latin (d : Nat) {hp : HP} {t : Nat} (h : 100 ≤ t ∧ t < 121) (R : PO) : callD (d + 1) 296 [mS t] hp R ↔ R (some (mI 1)) hp := by
  rw [callD_k]; simp only [entL_i, entL_l, entL_q, entL_s, entL_nil, n_J0_isLatin1_aae02, u_J0_isLatin1_aae02, m_J0_isLatin1_aae02, rep_0, List.cons_append, List.nil_append, List.append_nil, List.length_cons, List.length_nil, Nat.reduceAdd, true_and]
  simp only [AW_k, AWk_1, x_gcs, x_if_eq, x_aload_0, x_aloads_0, x_tcod, x_if_ne, x_push_i, x_push_l, x_goto, x_ret, x_ret_i, x_ret_z, x_ret_l, x_ret_c, k_J0_isLatin1_aae02_0, k_J0_isLatin1_aae02_1, k_J0_isLatin1_aae02_2, k_J0_isLatin1_aae02_3, k_J0_isLatin1_aae02_4, k_J0_isLatin1_aae02_5, k_J0_isLatin1_aae02_6, k_J0_isLatin1_aae02_7, k_J0_isLatin1_aae02_8, oE_some, Int.reduceToNat, Nat.reduceAdd, true_and, and_true, List.length_cons, List.length_nil, Option.toList_some, Option.toList_none, List.cons_append, List.nil_append, Nat.reduceLeDiff, Nat.le_refl, wdS_nil, wdS_i, wdS_l, wdS_r, wdS_n, wdS_s, h, and_self, or_true, true_or]
  rw [if_neg (by decide), if_pos (by decide)]
set_option maxHeartbeats 8000000 in
theorem c0_length (d : Nat) {hp : HP} {j : Nat} (h : j < 21) (R : PO) : callD (d + 2) 293 [mS (100 + j)] hp R ↔ R (some (mI ((stxt j).length : Int))) hp := by
  have h1 : 100 ≤ 100 + j ∧ 100 + j < 121 := by omega
  have h2 : 200 ≤ 100 + (100 + j) ∧ 100 + (100 + j) < 221 := by omega
  have e : 100 + (100 + j) - 200 = j := by omega
  have b := Nat.lt_trans (stx_all j h).1 (show 100 < 2147483648 by decide)
  rw [callD_k]; simp only [entL_i, entL_l, entL_q, entL_s, entL_nil, n_J0_length_8abf5, u_J0_length_8abf5, m_J0_length_8abf5, rep_0, List.cons_append, List.nil_append, List.append_nil, List.length_cons, List.length_nil, Nat.reduceAdd, true_and]
  simp only [AW_k, AWk_1, x_aload_0, x_aloads_0, x_tval, x_tlen, x_callt_1, x_ishr, x_ret, x_ret_i, x_ret_z, x_ret_l, x_ret_c, k_J0_length_8abf5_0, k_J0_length_8abf5_1, k_J0_length_8abf5_2, k_J0_length_8abf5_3, k_J0_length_8abf5_4, k_J0_length_8abf5_5, k_J0_length_8abf5_6, oE_some, Int.reduceToNat, Nat.reduceAdd, true_and, and_true, List.length_cons, List.length_nil, Option.toList_some, Option.toList_none, List.cons_append, List.nil_append, Nat.reduceLeDiff, Nat.le_refl, wdS_nil, wdS_i, wdS_l, wdS_r, wdS_n, wdS_s, h1, h2, e, and_self, c0_coder d h1, iShr_0 b]
set_option maxHeartbeats 8000000 in
theorem c3_check (d : Nat) {hp : HP} {k n t : Nat} (hk : k < n) (hn : n < 1000) (R : PO) : callD (d + 1) 301 [mI (k : Int), mI (n : Int), mS t] hp R ↔ R (some (mI (k : Int))) hp := by
  have bk : k < 2147483648 := by omega
  have bn : n < 2147483648 := by omega
  have c1 : ¬ (k : Int) < 0 := by omega
  have c2 : (k : Int) < (n : Int) := by omega
  rw [callD_k]; simp only [entL_i, entL_l, entL_q, entL_s, entL_nil, n_J3_checkIndex_8e157, u_J3_checkIndex_8e157, m_J3_checkIndex_8e157, rep_0, List.cons_append, List.nil_append, List.append_nil, List.length_cons, List.length_nil, Nat.reduceAdd, true_and]
  simp only [AW_k, AWk_1, x_iload_0, x_if_lt, x_iload_1, x_icmp_lt, k_J3_checkIndex_8e157_0, k_J3_checkIndex_8e157_1, k_J3_checkIndex_8e157_2, k_J3_checkIndex_8e157_3, k_J3_checkIndex_8e157_4, oE_some, Int.reduceToNat, Nat.reduceAdd, true_and, and_true, List.length_cons, List.length_nil, Option.toList_some, Option.toList_none, List.cons_append, List.nil_append, Nat.reduceLeDiff, Nat.le_refl, wdS_nil, wdS_i, wdS_l, wdS_r, wdS_n, wdS_s]
  rw [w32_nat bk, w32_nat bn, if_neg c1, if_pos c2]
  simp only [AW_k, AWk_1, x_iload_0, x_ret, x_ret_i, x_ret_z, x_ret_l, x_ret_c, k_J3_checkIndex_8e157_10, k_J3_checkIndex_8e157_11, oE_some, Int.reduceToNat, Nat.reduceAdd, true_and, and_true, List.length_cons, List.length_nil, Option.toList_some, Option.toList_none, List.cons_append, List.nil_append, Nat.reduceLeDiff, Nat.le_refl, wdS_nil, wdS_i, wdS_l, wdS_r, wdS_n, wdS_s]
set_option maxHeartbeats 8000000 in
theorem c0_check (d : Nat) {hp : HP} {k n : Nat} (hk : k < n) (hn : n < 1000) (R : PO) : callD (d + 2) 297 [mI (k : Int), mI (n : Int)] hp R ↔ R none hp := by
  rw [callD_k]; simp only [entL_i, entL_l, entL_q, entL_s, entL_nil, n_J0_checkIndex_df160, u_J0_checkIndex_df160, m_J0_checkIndex_df160, rep_0, List.cons_append, List.nil_append, List.append_nil, List.length_cons, List.length_nil, Nat.reduceAdd, true_and]
  simp only [AW_k, AWk_1, x_iload_0, x_iload_1, x_gets, x_call_3, x_pop_i, x_ret, x_ret_i, x_ret_z, x_ret_l, x_ret_c, k_J0_checkIndex_df160_0, k_J0_checkIndex_df160_1, k_J0_checkIndex_df160_2, k_J0_checkIndex_df160_3, k_J0_checkIndex_df160_4, k_J0_checkIndex_df160_5, oE_some, Int.reduceToNat, Nat.reduceAdd, true_and, and_true, List.length_cons, List.length_nil, Option.toList_some, Option.toList_none, List.cons_append, List.nil_append, Nat.reduceLeDiff, Nat.le_refl, wdS_nil, wdS_i, wdS_l, wdS_r, wdS_n, wdS_s, c3_check d hk hn]
set_option maxHeartbeats 8000000 in
theorem c1_charAt (d : Nat) {hp : HP} {j k : Nat} (h : j < 21) (hk : k < (stxt j).length) (R : PO) : callD (d + 3) 298 [mS (100 + (100 + j)), mI (k : Int)] hp R ↔ R (some (mI ((stxt j).getD k 0))) hp := by
  have h2 : 200 ≤ 100 + (100 + j) ∧ 100 + (100 + j) < 221 := by omega
  have e : 100 + (100 + j) - 200 = j := by omega
  have b := (stx_all j h).1
  have q := (stx_all j h).2 k hk
  have bk : k < 2147483648 := Nat.lt_trans (Nat.lt_trans hk b) (by decide)
  have bi : inB (k : Int) (stxt j).length := inB_n hk (Nat.lt_trans b (by decide))
  have q4 : 0 ≤ (stxt j).getD k 0 ∧ (stxt j).getD k 0 < 128 := q.2
  rw [callD_k]; simp only [entL_i, entL_l, entL_q, entL_s, entL_nil, n_J1_charAt_3b067, u_J1_charAt_3b067, m_J1_charAt_3b067, rep_0, List.cons_append, List.nil_append, List.append_nil, List.length_cons, List.length_nil, Nat.reduceAdd, true_and]
  simp only [AW_k, AWk_1, x_iload_1, x_aload_0, x_aloads_0, x_tlen, x_call_2, x_tbald, x_push_i, x_push_l, x_iand, x_i2c, x_ret, x_ret_i, x_ret_z, x_ret_l, x_ret_c, k_J1_charAt_3b067_0, k_J1_charAt_3b067_1, k_J1_charAt_3b067_2, k_J1_charAt_3b067_3, k_J1_charAt_3b067_4, k_J1_charAt_3b067_5, k_J1_charAt_3b067_6, k_J1_charAt_3b067_7, k_J1_charAt_3b067_8, k_J1_charAt_3b067_9, k_J1_charAt_3b067_10, oE_some, Int.reduceToNat, Nat.reduceAdd, true_and, and_true, List.length_cons, List.length_nil, Option.toList_some, Option.toList_none, List.cons_append, List.nil_append, Nat.reduceLeDiff, Nat.le_refl, wdS_nil, wdS_i, wdS_l, wdS_r, wdS_n, wdS_s, h2, e, and_self, c0_check d hk (Nat.lt_trans b (by decide)), bi, w32_tn bk, q.1, i2c_id q.2.1 q.2.2, q4]
set_option maxHeartbeats 8000000 in
theorem c0_charAt (d : Nat) {hp : HP} {j k : Nat} (h : j < 21) (hk : k < (stxt j).length) (R : PO) : callD (d + 4) 294 [mS (100 + j), mI (k : Int)] hp R ↔ R (some (mI ((stxt j).getD k 0))) hp := by
  have h1 : 100 ≤ 100 + j ∧ 100 + j < 121 := by omega
  have q := (stx_all j h).2 k hk
  have q4 : 0 ≤ (stxt j).getD k 0 ∧ (stxt j).getD k 0 < 128 := q.2
  rw [callD_k]; simp only [entL_i, entL_l, entL_q, entL_s, entL_nil, n_J0_charAt_5068e, u_J0_charAt_5068e, m_J0_charAt_5068e, rep_0, List.cons_append, List.nil_append, List.append_nil, List.length_cons, List.length_nil, Nat.reduceAdd, true_and]
  simp only [AW_k, AWk_1, x_aload_0, x_aloads_0, x_callt_1, x_if_eq, x_tval, x_iload_1, x_call_2, x_ret, x_ret_i, x_ret_z, x_ret_l, x_ret_c, k_J0_charAt_5068e_0, k_J0_charAt_5068e_1, k_J0_charAt_5068e_2, k_J0_charAt_5068e_3, k_J0_charAt_5068e_4, k_J0_charAt_5068e_5, k_J0_charAt_5068e_6, k_J0_charAt_5068e_7, oE_some, Int.reduceToNat, Nat.reduceAdd, true_and, and_true, List.length_cons, List.length_nil, Option.toList_some, Option.toList_none, List.cons_append, List.nil_append, Nat.reduceLeDiff, Nat.le_refl, wdS_nil, wdS_i, wdS_l, wdS_r, wdS_n, wdS_s, h1, and_self, c0_latin (d + 2) h1, c1_charAt d h hk, q4]
  rw [if_neg (by decide)]
/-- are the bytes from p to e this text -/
def isNm (s : List Int) (b : Nat → Nat) (p e : Nat) : Bool := decide (e - p = s.length) && (fst (fun k => !decide (((b (p + k) : Nat) : Int) = s.getD k 0)) s.length 0).isNone
set_option maxHeartbeats 16000000 in
theorem c8_isName (d : Nat) {hp : HP} {a tc p e j : Nat} {ft : Int} {tb ws bg wo : List Int} {at_ : Int} {av : AV} {b : Nat → Nat} (h : TPS hp a tc ft tb ws bg wo at_ av) (hb : byOK tb b) (hj : j < 21) (hp1 : p ≤ e) (he : e ≤ 200) (R : PO) : callD (d + 5) 81 [mR a, mS (100 + j), mI (p : Int), mI (e : Int)] hp R ↔ R (some (mI (zI (isNm (stxt j) b p e)))) hp := by
  have h1 : 100 ≤ 100 + j ∧ 100 + j < 121 := by omega
  have bl := (stx_all j hj).1
  have sj := (stx_all j hj).2
  have bL : (stxt j).length < 2147483648 := by omega
  have ee : (e : Int) - (p : Int) = ((e - p : Nat) : Int) := by omega
  have bep : e - p < 2147483648 := by omega
  unfold isNm
  by_cases hl : e - p = (stxt j).length
  · have cl : ((e - p : Nat) : Int) = ((stxt j).length : Int) := by omega
    rw [decide_eq_true hl, Bool.true_and]
    have key := loop_fst (P := fun k => AWh (d + 4) [] 81 R 10 [some (mR a), some (mS (100 + j)), some (mI (p : Int)), some (mI (e : Int)), some (mI (k : Int))] [] hp (0, 0)) (E := fun _ => R (some (mI 0)) hp) (f := fun k => !decide (((b (p + k) : Nat) : Int) = (stxt j).getD k 0)) (N := (stxt j).length) (fun k hk => by
      have bk : k < 2147483648 := by omega
      have ck : (k : Int) < ((stxt j).length : Int) := by omega
      have pk : p + k < 200 := by omega
      have epk : (p : Int) + (k : Int) = ((p + k : Nat) : Int) := by omega
      have bb := (hb.2 (p + k) pk).2
      have bb2 : b (p + k) < 2147483648 := by omega
      have sk := (sj k hk).2
      have r1 : -2147483648 ≤ (stxt j).getD k 0 := by omega
      have r2 : (stxt j).getD k 0 < 2147483648 := by omega
      obtain ⟨g1, g2⟩ := b200 hb pk
      rw [AWh_k, k_X8_isName_10]
      simp only [AW_k, AWk_1, x_iload_3, x_iload_2, x_isub, x_aload_1, x_aloads_1, x_callt_1, x_icmp_eq, x_push_i, x_push_l, x_ret, x_ret_i, x_ret_z, x_ret_l, x_ret_c, x_istore_4, x_iload_4, x_icmp_ge, x_aload_0, x_aloads_0, x_getf, x_iadd, x_iald, x_ialds, x_callt_2, x_iinc_4, x_goto, unl_i, unl_l, unl_q, unl_r, unl_s, unl_n, k_X8_isName_0, k_X8_isName_1, k_X8_isName_2, k_X8_isName_3, k_X8_isName_4, k_X8_isName_5, k_X8_isName_6, k_X8_isName_7, k_X8_isName_8, k_X8_isName_9, k_X8_isName_10, k_X8_isName_11, k_X8_isName_12, k_X8_isName_13, k_X8_isName_14, k_X8_isName_15, k_X8_isName_16, k_X8_isName_17, k_X8_isName_18, k_X8_isName_19, k_X8_isName_20, k_X8_isName_21, k_X8_isName_22, k_X8_isName_23, k_X8_isName_24, k_X8_isName_25, k_X8_isName_26, k_X8_isName_27, k_X8_isName_28, k_X8_isName_29, oE_some, Int.reduceToNat, Nat.reduceAdd, true_and, and_true, List.length_cons, List.length_nil, Option.toList_some, Option.toList_none, List.cons_append, List.nil_append, Nat.reduceLeDiff, Nat.le_refl, wdS_nil, wdS_i, wdS_l, wdS_r, wdS_n, wdS_s, h1, and_self, c0_length (d + 2) hj, h.1.2.2.1, h.2.1, epk, g1, g2, c0_charAt d hj hk, or_true, true_or]
      rw [w32_nat bk, w32_nat bL, if_pos ck, w32_nat bb2, w32_id r1 r2]
      by_cases q : ((b (p + k) : Nat) : Int) = (stxt j).getD k 0
      · rw [if_pos q, decide_eq_true q]; exact Iff.rfl
      · rw [if_neg q, decide_eq_false q]; exact Iff.rfl) (n := (stxt j).length) (a := 0) (by omega)
    rw [callD_k]; simp only [entL_i, entL_l, entL_q, entL_s, entL_nil, n_X8_isName, u_X8_isName, m_X8_isName, rep_1, List.cons_append, List.nil_append, List.append_nil, List.length_cons, List.length_nil, Nat.reduceAdd, true_and]
    simp only [AW_k, AWk_1, x_iload_3, x_iload_2, x_isub, x_aload_1, x_aloads_1, x_callt_1, x_icmp_eq, x_push_i, x_push_l, x_ret, x_ret_i, x_ret_z, x_ret_l, x_ret_c, x_istore_4, x_iload_4, x_icmp_ge, x_aload_0, x_aloads_0, x_getf, x_iadd, x_iald, x_ialds, x_callt_2, x_iinc_4, x_goto, unl_i, unl_l, unl_q, unl_r, unl_s, unl_n, k_X8_isName_0, k_X8_isName_1, k_X8_isName_2, k_X8_isName_3, k_X8_isName_4, k_X8_isName_5, k_X8_isName_6, k_X8_isName_7, k_X8_isName_8, k_X8_isName_9, k_X8_isName_10, k_X8_isName_11, k_X8_isName_12, k_X8_isName_13, k_X8_isName_14, k_X8_isName_15, k_X8_isName_16, k_X8_isName_17, k_X8_isName_18, k_X8_isName_19, k_X8_isName_20, k_X8_isName_21, k_X8_isName_22, k_X8_isName_23, k_X8_isName_24, k_X8_isName_25, k_X8_isName_26, k_X8_isName_27, k_X8_isName_28, k_X8_isName_29, oE_some, Int.reduceToNat, Nat.reduceAdd, true_and, and_true, List.length_cons, List.length_nil, Option.toList_some, Option.toList_none, List.cons_append, List.nil_append, Nat.reduceLeDiff, Nat.le_refl, wdS_nil, wdS_i, wdS_l, wdS_r, wdS_n, wdS_s, h1, and_self, c0_length (d + 2) hj, ee]
    rw [w32_nat bep, w32_nat bL, if_pos cl]
    refine key.trans ?_
    cases fst (fun k => !decide (((b (p + k) : Nat) : Int) = (stxt j).getD k 0)) (stxt j).length 0 with
    | some k => exact Iff.rfl
    | none =>
      show AWh _ _ _ _ _ _ _ _ _ ↔ _
      rw [AWh_k, k_X8_isName_10]
      simp only [AW_k, AWk_1, x_iload_3, x_iload_2, x_isub, x_aload_1, x_aloads_1, x_callt_1, x_icmp_eq, x_push_i, x_push_l, x_ret, x_ret_i, x_ret_z, x_ret_l, x_ret_c, x_istore_4, x_iload_4, x_icmp_ge, x_aload_0, x_aloads_0, x_getf, x_iadd, x_iald, x_ialds, x_callt_2, x_iinc_4, x_goto, unl_i, unl_l, unl_q, unl_r, unl_s, unl_n, k_X8_isName_0, k_X8_isName_1, k_X8_isName_2, k_X8_isName_3, k_X8_isName_4, k_X8_isName_5, k_X8_isName_6, k_X8_isName_7, k_X8_isName_8, k_X8_isName_9, k_X8_isName_10, k_X8_isName_11, k_X8_isName_12, k_X8_isName_13, k_X8_isName_14, k_X8_isName_15, k_X8_isName_16, k_X8_isName_17, k_X8_isName_18, k_X8_isName_19, k_X8_isName_20, k_X8_isName_21, k_X8_isName_22, k_X8_isName_23, k_X8_isName_24, k_X8_isName_25, k_X8_isName_26, k_X8_isName_27, k_X8_isName_28, k_X8_isName_29, oE_some, Int.reduceToNat, Nat.reduceAdd, true_and, and_true, List.length_cons, List.length_nil, Option.toList_some, Option.toList_none, List.cons_append, List.nil_append, Nat.reduceLeDiff, Nat.le_refl, wdS_nil, wdS_i, wdS_l, wdS_r, wdS_n, wdS_s, h1, and_self, c0_length (d + 2) hj, or_true, true_or]
      rw [if_neg (Int.lt_irrefl _)]
      exact Iff.rfl
  · have cl : ¬ ((e - p : Nat) : Int) = ((stxt j).length : Int) := by omega
    rw [decide_eq_false hl, Bool.false_and]
    rw [callD_k]; simp only [entL_i, entL_l, entL_q, entL_s, entL_nil, n_X8_isName, u_X8_isName, m_X8_isName, rep_1, List.cons_append, List.nil_append, List.append_nil, List.length_cons, List.length_nil, Nat.reduceAdd, true_and]
    simp only [AW_k, AWk_1, x_iload_3, x_iload_2, x_isub, x_aload_1, x_aloads_1, x_callt_1, x_icmp_eq, x_push_i, x_push_l, x_ret, x_ret_i, x_ret_z, x_ret_l, x_ret_c, x_istore_4, x_iload_4, x_icmp_ge, x_aload_0, x_aloads_0, x_getf, x_iadd, x_iald, x_ialds, x_callt_2, x_iinc_4, x_goto, unl_i, unl_l, unl_q, unl_r, unl_s, unl_n, k_X8_isName_0, k_X8_isName_1, k_X8_isName_2, k_X8_isName_3, k_X8_isName_4, k_X8_isName_5, k_X8_isName_6, k_X8_isName_7, k_X8_isName_8, k_X8_isName_9, k_X8_isName_10, k_X8_isName_11, k_X8_isName_12, k_X8_isName_13, k_X8_isName_14, k_X8_isName_15, k_X8_isName_16, k_X8_isName_17, k_X8_isName_18, k_X8_isName_19, k_X8_isName_20, k_X8_isName_21, k_X8_isName_22, k_X8_isName_23, k_X8_isName_24, k_X8_isName_25, k_X8_isName_26, k_X8_isName_27, k_X8_isName_28, k_X8_isName_29, oE_some, Int.reduceToNat, Nat.reduceAdd, true_and, and_true, List.length_cons, List.length_nil, Option.toList_some, Option.toList_none, List.cons_append, List.nil_append, Nat.reduceLeDiff, Nat.le_refl, wdS_nil, wdS_i, wdS_l, wdS_r, wdS_n, wdS_s, h1, and_self, c0_length (d + 2) hj, ee, or_true, true_or]
    rw [w32_nat bep, w32_nat bL, if_neg cl]
    exact Iff.rfl
/-- what a name is -/
def nmC (b : Nat → Nat) (p e : Nat) : Nat := if isNm (stxt 0) b p e = true then 2 else if isNm (stxt 1) b p e = true then 3 else if isNm (stxt 2) b p e = true then 4 else if isNm (stxt 3) b p e = true then 5 else if isNm (stxt 4) b p e = true then 6 else if isNm (stxt 5) b p e = true then 7 else if isNm (stxt 6) b p e = true then 8 else if isNm (stxt 7) b p e = true then 9 else 10
set_option maxHeartbeats 16000000 in
theorem c8_nameAt (d : Nat) {hp : HP} {a tc p e : Nat} {ft : Int} {tb ws bg wo : List Int} {at_ : Int} {av : AV} {b : Nat → Nat} (h : TPS hp a tc ft tb ws bg wo at_ av) (hb : byOK tb b) (hp1 : p ≤ e) (he : e ≤ 200) (R : PO) : callD (d + 6) 80 [mR a, mI (p : Int), mI (e : Int)] hp R ↔ R (some (mI (nmC b p e : Int))) hp := by
  have kC := gC_of h.1.1
  have c0 := c8_isName d (j := 0) h hb (by decide) hp1 he
  have c1 := c8_isName d (j := 1) h hb (by decide) hp1 he
  have c2 := c8_isName d (j := 2) h hb (by decide) hp1 he
  have c3 := c8_isName d (j := 3) h hb (by decide) hp1 he
  have c4 := c8_isName d (j := 4) h hb (by decide) hp1 he
  have c5 := c8_isName d (j := 5) h hb (by decide) hp1 he
  have c6 := c8_isName d (j := 6) h hb (by decide) hp1 he
  have c7 := c8_isName d (j := 7) h hb (by decide) hp1 he
  rw [callD_k]; simp only [entL_i, entL_l, entL_q, entL_s, entL_nil, n_X8_nameAt, u_X8_nameAt, m_X8_nameAt, rep_0, List.cons_append, List.nil_append, List.append_nil, List.length_cons, List.length_nil, Nat.reduceAdd, true_and]
  simp only [AW_k, AWk_1, x_aload_0, x_aloads_0, x_ldcs, x_iload_1, x_iload_2, x_callv_4, x_if_eq, x_push_i, x_push_l, x_goto, x_ret, x_ret_i, x_ret_z, x_ret_l, x_ret_c, k_X8_nameAt_0, k_X8_nameAt_1, k_X8_nameAt_2, k_X8_nameAt_3, k_X8_nameAt_4, k_X8_nameAt_5, k_X8_nameAt_6, k_X8_nameAt_7, k_X8_nameAt_8, k_X8_nameAt_9, k_X8_nameAt_10, k_X8_nameAt_11, k_X8_nameAt_12, k_X8_nameAt_13, k_X8_nameAt_14, k_X8_nameAt_15, k_X8_nameAt_16, k_X8_nameAt_17, k_X8_nameAt_18, k_X8_nameAt_19, k_X8_nameAt_20, k_X8_nameAt_21, k_X8_nameAt_22, k_X8_nameAt_23, k_X8_nameAt_24, k_X8_nameAt_25, k_X8_nameAt_26, k_X8_nameAt_27, k_X8_nameAt_28, k_X8_nameAt_29, k_X8_nameAt_30, k_X8_nameAt_31, k_X8_nameAt_32, k_X8_nameAt_33, k_X8_nameAt_34, k_X8_nameAt_35, k_X8_nameAt_36, k_X8_nameAt_37, k_X8_nameAt_38, k_X8_nameAt_39, k_X8_nameAt_40, k_X8_nameAt_41, k_X8_nameAt_42, k_X8_nameAt_43, k_X8_nameAt_44, k_X8_nameAt_45, k_X8_nameAt_46, k_X8_nameAt_47, k_X8_nameAt_48, k_X8_nameAt_49, k_X8_nameAt_50, k_X8_nameAt_51, k_X8_nameAt_52, k_X8_nameAt_53, k_X8_nameAt_54, k_X8_nameAt_55, k_X8_nameAt_56, k_X8_nameAt_57, k_X8_nameAt_58, k_X8_nameAt_59, k_X8_nameAt_60, k_X8_nameAt_61, k_X8_nameAt_62, k_X8_nameAt_63, k_X8_nameAt_64, k_X8_nameAt_65, oE_some, Int.reduceToNat, Nat.reduceAdd, true_and, and_true, List.length_cons, List.length_nil, Option.toList_some, Option.toList_none, List.cons_append, List.nil_append, Nat.reduceLeDiff, Nat.le_refl, wdS_nil, wdS_i, wdS_l, wdS_r, wdS_n, wdS_s, kC, c0, c1, c2, c3, c4, c5, c6, c7, w32_zI_0, ite_bf, show (0 : Nat) < 21 by decide, show (1 : Nat) < 21 by decide, show (2 : Nat) < 21 by decide, show (3 : Nat) < 21 by decide, show (4 : Nat) < 21 by decide, show (5 : Nat) < 21 by decide, show (6 : Nat) < 21 by decide, show (7 : Nat) < 21 by decide]
  unfold nmC
  cases isNm (stxt 0) b p e
  · cases isNm (stxt 1) b p e
    · cases isNm (stxt 2) b p e
      · cases isNm (stxt 3) b p e
        · cases isNm (stxt 4) b p e
          · cases isNm (stxt 5) b p e
            · cases isNm (stxt 6) b p e
              · cases isNm (stxt 7) b p e <;> exact Iff.rfl
              · exact Iff.rfl
            · exact Iff.rfl
          · exact Iff.rfl
        · exact Iff.rfl
      · exact Iff.rfl
    · exact Iff.rfl
  · exact Iff.rfl
