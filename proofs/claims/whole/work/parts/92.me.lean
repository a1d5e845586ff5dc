/-! ===== the reference: meets and joins by search; drops, the row turned round, places ===== -/
theorem cnt_cg {f g : Nat → Bool} : ∀ {n : Nat}, (∀ k, k < n → f k = g k) → cnt f n = cnt g n := by
  intro n
  induction n with
  | zero => intro _; rfl
  | succ n ih => intro h; rw [cnt_succ, cnt_succ, ih (fun k hk => h k (by omega)), h n (by omega)]
theorem pop_NI {a : Nat} (ha : a < 2147483648) : popI (BitVec.ofInt 64 (w32 (a : Int))) = popN a := by
  unfold popI popN
  rw [show (64 : Nat) = 32 + 32 from rfl, cnt_add]
  have h1 : cnt (fun i => (BitVec.ofInt 64 (w32 (a : Int))).getLsbD i) 32 = cnt (fun i => a.testBit i) 32 := cnt_cg (fun k hk => by rw [ofI_bit ha (by omega), tst_bit])
  have h2 : cnt (fun i => (BitVec.ofInt 64 (w32 (a : Int))).getLsbD (32 + i)) 32 = 0 := cnt_zero (fun k hk => by
    rw [ofI_bit ha (by omega), tst_bit]
    exact Nat.testBit_lt_two_pow (Nat.lt_of_lt_of_le ha (Nat.pow_le_pow_right (n := 2) (i := 31) (by decide) (by omega))))
  rw [h1, h2, Int.add_zero]
/-- the one with the most swapped, among the first k, that lies within w -/
def mmI (n w : Nat) : Nat → Nat × Int
  | 0 => (0, -1)
  | k + 1 => if sub1 (sw n k) w = true ∧ (mmI n w k).2 < popN (sw n k) then (k, popN (sw n k)) else mmI n w k
theorem mmI_up (n w k : Nat) : mmI n w (k + 1) = if sub1 (sw n k) w = true ∧ (mmI n w k).2 < popN (sw n k) then (k, popN (sw n k)) else mmI n w k := rfl
/-- the one with the fewest swapped, among the first k, that holds w -/
def mjI (n w : Nat) : Nat → Nat × Int
  | 0 => (0, 99)
  | k + 1 => if sub1 w (sw n k) = true ∧ popN (sw n k) < (mjI n w k).2 then (k, popN (sw n k)) else mjI n w k
theorem mjI_up (n w k : Nat) : mjI n w (k + 1) = if sub1 w (sw n k) = true ∧ popN (sw n k) < (mjI n w k).2 then (k, popN (sw n k)) else mjI n w k := rfl
/-- the number of the best so far, 0 as long as there is none -/
def mmN (n : Nat) (s : Nat × Int) (z : Int) : Int := if s.2 = z then 0 else ((num n s.1 : Nat) : Int)
theorem popN_bd (a : Nat) : 0 ≤ popN a ∧ popN a ≤ 32 := by have := cnt_in (fun i => a.testBit i) 32; unfold popN; omega
theorem mmI_bd (n w : Nat) : ∀ k, -1 ≤ (mmI n w k).2 ∧ (mmI n w k).2 ≤ 32 := by
  intro k
  induction k with
  | zero => exact ⟨by show (-1 : Int) ≤ -1; omega, by show (-1 : Int) ≤ 32; omega⟩
  | succ k ih =>
    rw [mmI_up]
    have := popN_bd (sw n k)
    split
    · exact ⟨by show -1 ≤ popN (sw n k); omega, this.2⟩
    · exact ih
theorem mjI_bd (n w : Nat) : ∀ k, 0 ≤ (mjI n w k).2 ∧ (mjI n w k).2 ≤ 99 := by
  intro k
  induction k with
  | zero => exact ⟨by show (0 : Int) ≤ 99; omega, by show (99 : Int) ≤ 99; omega⟩
  | succ k ih =>
    rw [mjI_up]
    have := popN_bd (sw n k)
    split
    · exact ⟨this.1, by show popN (sw n k) ≤ 99; omega⟩
    · exact ih
set_option maxHeartbeats 16000000 in
theorem m_meetOf0 (d : Nat) {hp : HP} {n i j : Nat} (h : MK hp n) (hi : i < FC n) (hj : j < FC n) (R : PO) : callD (d + 3) 170 [mR 54, mI ((num n i : Nat) : Int), mI ((num n j : Nat) : Int)] hp R ↔ R (some (mI (mmN n (mmI n (sw n i &&& sw n j) (FC n)) (-1)))) hp := by
  have h1 := h.1.1
  have h6 := h.1.2
  have g1 := h.2.1
  have g2 := h.2.2.2.1
  have a2 := h.2.2.2.2.2
  have f1 := FC_le n
  have n7 : n < 7 := by omega
  have bn : n < 2147483648 := by omega
  have ib : inB (n : Int) FW.length := inB_n n7 (by decide)
  have b1 : sw n i < 2147483648 := Nat.lt_trans (sw_31 n i) (by decide)
  have b2 : sw n j < 2147483648 := Nat.lt_trans (sw_31 n j) (by decide)
  have bw : sw n i &&& sw n j < 2147483648 := Nat.lt_of_le_of_lt Nat.and_le_left b1
  have key : ∀ (m k : Nat) (y7 : Option AV), k + m = FC n → (AWh (d + 2) [] 170 R 14 [some (mR 54), some (mI ((num n i : Nat) : Int)), some (mI ((num n j : Nat) : Int)), some (mI ((sw n i &&& sw n j : Nat) : Int)), some (mI (mmN n (mmI n (sw n i &&& sw n j) k) (-1))), some (mI (mmI n (sw n i &&& sw n j) k).2), some (mI (k : Int)), y7] [] hp (0, 0) ↔ R (some (mI (mmN n (mmI n (sw n i &&& sw n j) (FC n)) (-1)))) hp) := by
    intro m
    induction m with
    | zero =>
      intro k y7 hk
      have e : k = FC n := by omega
      subst e
      rw [AWh_k, k_X11_meetOf_14]
      simp only [AW_k, AWk_1, x_iload_6, x_aload_0, x_aloads_0, x_getf, x_iald, x_ialds, x_icmp_ge, x_callv_2, x_istore_7, x_iload_7, x_iload_3, x_push_i, x_push_l, x_ixor, x_iand, x_if_ne, x_i2l, x_call_1, x_iload_5, x_icmp_le, x_istore_5, x_istore_4, x_iinc_6, x_goto, x_iload_4, x_ret, x_ret_i, x_ret_z, x_ret_l, x_ret_c, unl_i, unl_l, unl_q, unl_r, unl_s, unl_n, k_X11_meetOf_14, k_X11_meetOf_15, k_X11_meetOf_16, k_X11_meetOf_17, k_X11_meetOf_18, k_X11_meetOf_19, k_X11_meetOf_20, k_X11_meetOf_21, k_X11_meetOf_22, k_X11_meetOf_23, k_X11_meetOf_24, k_X11_meetOf_25, k_X11_meetOf_26, k_X11_meetOf_27, k_X11_meetOf_28, k_X11_meetOf_29, k_X11_meetOf_30, k_X11_meetOf_31, k_X11_meetOf_32, k_X11_meetOf_33, k_X11_meetOf_34, k_X11_meetOf_35, k_X11_meetOf_36, k_X11_meetOf_37, k_X11_meetOf_38, k_X11_meetOf_39, k_X11_meetOf_40, k_X11_meetOf_41, k_X11_meetOf_42, k_X11_meetOf_43, k_X11_meetOf_44, k_X11_meetOf_45, k_X11_meetOf_46, k_X11_meetOf_47, k_X11_meetOf_48, k_X11_meetOf_49, oE_some, Int.reduceToNat, Nat.reduceAdd, true_and, and_true, List.length_cons, List.length_nil, Option.toList_some, Option.toList_none, List.cons_append, List.nil_append, Nat.reduceLeDiff, Nat.le_refl, wdS_nil, wdS_i, wdS_l, wdS_r, wdS_n, wdS_s, g1, g2, a2, ib, w32_tn bn, FW_get n7]
      rw [if_neg (Int.lt_irrefl _)]
    | succ m ih =>
      intro k y7 hk
      have hkF : k < FC n := by omega
      have bk : k < 2147483648 := by omega
      have bF := FC_31 n
      have n1 : ((k : Int) < ((FC n : Nat) : Int)) = True := eq_true (by omega)
      have e1 : (k : Int) + 1 = ((k + 1 : Nat) : Int) := by omega
      have bs : sw n k < 2147483648 := Nat.lt_trans (sw_31 n k) (by decide)
      have mb := mmI_bd n (sw n i &&& sw n j) k
      have pb := popN_bd (sw n k)
      have wm : w32 (mmI n (sw n i &&& sw n j) k).2 = (mmI n (sw n i &&& sw n j) k).2 := w32_id (by omega) (by omega)
      have wp : w32 (popN (sw n k)) = popN (sw n k) := w32_id (by omega) (by omega)
      have hnx := ih (k + 1) (some (mI ((sw n k : Nat) : Int))) (by omega)
      rw [mmI_up] at hnx
      by_cases c1 : sub1 (sw n k) (sw n i &&& sw n j) = true
      · by_cases c2 : (mmI n (sw n i &&& sw n j) k).2 < popN (sw n k)
        · rw [if_pos ⟨c1, c2⟩] at hnx
          have en : mmN n (k, popN (sw n k)) (-1) = ((num n k : Nat) : Int) := by
            unfold mmN
            rw [if_neg (show ¬ popN (sw n k) = -1 by omega)]
          rw [en] at hnx
          rw [AWh_k, k_X11_meetOf_14]
          simp only [AW_k, AWk_1, x_iload_6, x_aload_0, x_aloads_0, x_getf, x_iald, x_ialds, x_icmp_ge, x_callv_2, x_istore_7, x_iload_7, x_iload_3, x_push_i, x_push_l, x_ixor, x_iand, x_if_ne, x_i2l, x_call_1, x_iload_5, x_icmp_le, x_istore_5, x_istore_4, x_iinc_6, x_goto, unl_i, unl_l, unl_q, unl_r, unl_s, unl_n, k_X11_meetOf_14, k_X11_meetOf_15, k_X11_meetOf_16, k_X11_meetOf_17, k_X11_meetOf_18, k_X11_meetOf_19, k_X11_meetOf_20, k_X11_meetOf_21, k_X11_meetOf_22, k_X11_meetOf_23, k_X11_meetOf_24, k_X11_meetOf_25, k_X11_meetOf_26, k_X11_meetOf_27, k_X11_meetOf_28, k_X11_meetOf_29, k_X11_meetOf_30, k_X11_meetOf_31, k_X11_meetOf_32, k_X11_meetOf_33, k_X11_meetOf_34, k_X11_meetOf_35, k_X11_meetOf_36, k_X11_meetOf_37, k_X11_meetOf_38, k_X11_meetOf_39, k_X11_meetOf_40, k_X11_meetOf_41, k_X11_meetOf_42, k_X11_meetOf_43, k_X11_meetOf_44, k_X11_meetOf_45, k_X11_meetOf_46, k_X11_meetOf_47, oE_some, Int.reduceToNat, Nat.reduceAdd, true_and, and_true, List.length_cons, List.length_nil, Option.toList_some, Option.toList_none, List.cons_append, List.nil_append, Nat.reduceLeDiff, Nat.le_refl, wdS_nil, wdS_i, wdS_l, wdS_r, wdS_n, wdS_s, g1, g2, a2, ib, w32_tn bn, FW_get n7, w32_nat bk, w32_nat bF, n1, cM h, m_rowBy d h hkF, m_swapped d h hkF, iSub bs bw, c1, m_ones d, pop_NI bs, wm, wp, c2, e1, ↓reduceIte]
          exact hnx
        · rw [if_neg (fun q => c2 q.2)] at hnx
          rw [AWh_k, k_X11_meetOf_14]
          simp only [AW_k, AWk_1, x_iload_6, x_aload_0, x_aloads_0, x_getf, x_iald, x_ialds, x_icmp_ge, x_callv_2, x_istore_7, x_iload_7, x_iload_3, x_push_i, x_push_l, x_ixor, x_iand, x_if_ne, x_i2l, x_call_1, x_iload_5, x_icmp_le, x_istore_5, x_istore_4, x_iinc_6, x_goto, unl_i, unl_l, unl_q, unl_r, unl_s, unl_n, k_X11_meetOf_14, k_X11_meetOf_15, k_X11_meetOf_16, k_X11_meetOf_17, k_X11_meetOf_18, k_X11_meetOf_19, k_X11_meetOf_20, k_X11_meetOf_21, k_X11_meetOf_22, k_X11_meetOf_23, k_X11_meetOf_24, k_X11_meetOf_25, k_X11_meetOf_26, k_X11_meetOf_27, k_X11_meetOf_28, k_X11_meetOf_29, k_X11_meetOf_30, k_X11_meetOf_31, k_X11_meetOf_32, k_X11_meetOf_33, k_X11_meetOf_34, k_X11_meetOf_35, k_X11_meetOf_36, k_X11_meetOf_37, k_X11_meetOf_38, k_X11_meetOf_39, k_X11_meetOf_40, k_X11_meetOf_41, k_X11_meetOf_42, k_X11_meetOf_43, k_X11_meetOf_44, k_X11_meetOf_45, k_X11_meetOf_46, k_X11_meetOf_47, oE_some, Int.reduceToNat, Nat.reduceAdd, true_and, and_true, List.length_cons, List.length_nil, Option.toList_some, Option.toList_none, List.cons_append, List.nil_append, Nat.reduceLeDiff, Nat.le_refl, wdS_nil, wdS_i, wdS_l, wdS_r, wdS_n, wdS_s, g1, g2, a2, ib, w32_tn bn, FW_get n7, w32_nat bk, w32_nat bF, n1, cM h, m_rowBy d h hkF, m_swapped d h hkF, iSub bs bw, c1, m_ones d, pop_NI bs, wm, wp, c2, e1, ↓reduceIte]
          exact hnx
      · rw [if_neg (fun q => c1 q.1)] at hnx
        rw [AWh_k, k_X11_meetOf_14]
        simp only [AW_k, AWk_1, x_iload_6, x_aload_0, x_aloads_0, x_getf, x_iald, x_ialds, x_icmp_ge, x_callv_2, x_istore_7, x_iload_7, x_iload_3, x_push_i, x_push_l, x_ixor, x_iand, x_if_ne, x_i2l, x_call_1, x_iload_5, x_icmp_le, x_istore_5, x_istore_4, x_iinc_6, x_goto, unl_i, unl_l, unl_q, unl_r, unl_s, unl_n, k_X11_meetOf_14, k_X11_meetOf_15, k_X11_meetOf_16, k_X11_meetOf_17, k_X11_meetOf_18, k_X11_meetOf_19, k_X11_meetOf_20, k_X11_meetOf_21, k_X11_meetOf_22, k_X11_meetOf_23, k_X11_meetOf_24, k_X11_meetOf_25, k_X11_meetOf_26, k_X11_meetOf_27, k_X11_meetOf_28, k_X11_meetOf_29, k_X11_meetOf_30, k_X11_meetOf_31, k_X11_meetOf_32, k_X11_meetOf_33, k_X11_meetOf_34, k_X11_meetOf_35, k_X11_meetOf_36, k_X11_meetOf_37, k_X11_meetOf_38, k_X11_meetOf_39, k_X11_meetOf_40, k_X11_meetOf_41, k_X11_meetOf_42, k_X11_meetOf_43, k_X11_meetOf_44, k_X11_meetOf_45, k_X11_meetOf_46, k_X11_meetOf_47, oE_some, Int.reduceToNat, Nat.reduceAdd, true_and, and_true, List.length_cons, List.length_nil, Option.toList_some, Option.toList_none, List.cons_append, List.nil_append, Nat.reduceLeDiff, Nat.le_refl, wdS_nil, wdS_i, wdS_l, wdS_r, wdS_n, wdS_s, g1, g2, a2, ib, w32_tn bn, FW_get n7, w32_nat bk, w32_nat bF, n1, cM h, m_rowBy d h hkF, m_swapped d h hkF, iSub bs bw, c1, e1, ↓reduceIte]
        exact hnx
  rw [callD_k]; simp only [entL_i, entL_l, entL_q, entL_s, entL_nil, n_X11_meetOf, u_X11_meetOf, m_X11_meetOf, rep_5, List.cons_append, List.nil_append, List.append_nil, List.length_cons, List.length_nil, Nat.reduceAdd, true_and]
  simp only [AW_k, AWk_1, x_aload_0, x_aloads_0, x_iload_1, x_callv_2, x_iload_2, x_iand, x_istore_3, x_push_i, x_push_l, x_istore_4, x_istore_5, x_istore_6, x_iload_6, unl_i, unl_l, unl_q, unl_r, unl_s, unl_n, k_X11_meetOf_0, k_X11_meetOf_1, k_X11_meetOf_2, k_X11_meetOf_3, k_X11_meetOf_4, k_X11_meetOf_5, k_X11_meetOf_6, k_X11_meetOf_7, k_X11_meetOf_8, k_X11_meetOf_9, k_X11_meetOf_10, k_X11_meetOf_11, k_X11_meetOf_12, k_X11_meetOf_13, k_X11_meetOf_14, oE_some, Int.reduceToNat, Nat.reduceAdd, true_and, and_true, List.length_cons, List.length_nil, Option.toList_some, Option.toList_none, List.cons_append, List.nil_append, Nat.reduceLeDiff, Nat.le_refl, wdS_nil, wdS_i, wdS_l, wdS_r, wdS_n, wdS_s, cM h, m_swapped d h hi, m_swapped d h hj, iAnd_nat b1 b2]
  exact key (FC n) 0 none (Nat.zero_add _)
set_option maxHeartbeats 16000000 in
theorem m_joinOf0 (d : Nat) {hp : HP} {n i j : Nat} (h : MK hp n) (hi : i < FC n) (hj : j < FC n) (R : PO) : callD (d + 3) 171 [mR 54, mI ((num n i : Nat) : Int), mI ((num n j : Nat) : Int)] hp R ↔ R (some (mI (mmN n (mjI n (sw n i ||| sw n j) (FC n)) 99))) hp := by
  have h1 := h.1.1
  have h6 := h.1.2
  have g1 := h.2.1
  have g2 := h.2.2.2.1
  have a2 := h.2.2.2.2.2
  have f1 := FC_le n
  have n7 : n < 7 := by omega
  have bn : n < 2147483648 := by omega
  have ib : inB (n : Int) FW.length := inB_n n7 (by decide)
  have b1 : sw n i < 2147483648 := Nat.lt_trans (sw_31 n i) (by decide)
  have b2 : sw n j < 2147483648 := Nat.lt_trans (sw_31 n j) (by decide)
  have bw0 : sw n i ||| sw n j < 2 ^ 15 := Nat.or_lt_two_pow (sw_31 n i) (sw_31 n j)
  have bw : sw n i ||| sw n j < 2147483648 := Nat.lt_trans bw0 (by decide)
  have key : ∀ (m k : Nat) (y7 : Option AV), k + m = FC n → (AWh (d + 2) [] 171 R 14 [some (mR 54), some (mI ((num n i : Nat) : Int)), some (mI ((num n j : Nat) : Int)), some (mI ((sw n i ||| sw n j : Nat) : Int)), some (mI (mmN n (mjI n (sw n i ||| sw n j) k) 99)), some (mI (mjI n (sw n i ||| sw n j) k).2), some (mI (k : Int)), y7] [] hp (0, 0) ↔ R (some (mI (mmN n (mjI n (sw n i ||| sw n j) (FC n)) 99))) hp) := by
    intro m
    induction m with
    | zero =>
      intro k y7 hk
      have e : k = FC n := by omega
      subst e
      rw [AWh_k, k_X11_joinOf_14]
      simp only [AW_k, AWk_1, x_iload_6, x_aload_0, x_aloads_0, x_getf, x_iald, x_ialds, x_icmp_ge, x_callv_2, x_istore_7, x_iload_3, x_iload_7, x_push_i, x_push_l, x_ixor, x_iand, x_if_ne, x_i2l, x_call_1, x_iload_5, x_istore_5, x_istore_4, x_iinc_6, x_goto, x_iload_4, x_ret, x_ret_i, x_ret_z, x_ret_l, x_ret_c, unl_i, unl_l, unl_q, unl_r, unl_s, unl_n, k_X11_joinOf_14, k_X11_joinOf_15, k_X11_joinOf_16, k_X11_joinOf_17, k_X11_joinOf_18, k_X11_joinOf_19, k_X11_joinOf_20, k_X11_joinOf_21, k_X11_joinOf_22, k_X11_joinOf_23, k_X11_joinOf_24, k_X11_joinOf_25, k_X11_joinOf_26, k_X11_joinOf_27, k_X11_joinOf_28, k_X11_joinOf_29, k_X11_joinOf_30, k_X11_joinOf_31, k_X11_joinOf_32, k_X11_joinOf_33, k_X11_joinOf_34, k_X11_joinOf_35, k_X11_joinOf_36, k_X11_joinOf_37, k_X11_joinOf_38, k_X11_joinOf_39, k_X11_joinOf_40, k_X11_joinOf_41, k_X11_joinOf_42, k_X11_joinOf_43, k_X11_joinOf_44, k_X11_joinOf_45, k_X11_joinOf_46, k_X11_joinOf_47, k_X11_joinOf_48, k_X11_joinOf_49, oE_some, Int.reduceToNat, Nat.reduceAdd, true_and, and_true, List.length_cons, List.length_nil, Option.toList_some, Option.toList_none, List.cons_append, List.nil_append, Nat.reduceLeDiff, Nat.le_refl, wdS_nil, wdS_i, wdS_l, wdS_r, wdS_n, wdS_s, g1, g2, a2, ib, w32_tn bn, FW_get n7]
      rw [if_neg (Int.lt_irrefl _)]
    | succ m ih =>
      intro k y7 hk
      have hkF : k < FC n := by omega
      have bk : k < 2147483648 := by omega
      have bF := FC_31 n
      have n1 : ((k : Int) < ((FC n : Nat) : Int)) = True := eq_true (by omega)
      have e1 : (k : Int) + 1 = ((k + 1 : Nat) : Int) := by omega
      have bs : sw n k < 2147483648 := Nat.lt_trans (sw_31 n k) (by decide)
      have mb := mjI_bd n (sw n i ||| sw n j) k
      have pb := popN_bd (sw n k)
      have wm : w32 (mjI n (sw n i ||| sw n j) k).2 = (mjI n (sw n i ||| sw n j) k).2 := w32_id (by omega) (by omega)
      have wp : w32 (popN (sw n k)) = popN (sw n k) := w32_id (by omega) (by omega)
      have hnx := ih (k + 1) (some (mI ((sw n k : Nat) : Int))) (by omega)
      rw [mjI_up] at hnx
      by_cases c1 : sub1 (sw n i ||| sw n j) (sw n k) = true
      · by_cases c2 : popN (sw n k) < (mjI n (sw n i ||| sw n j) k).2
        · rw [if_pos ⟨c1, c2⟩] at hnx
          have en : mmN n (k, popN (sw n k)) 99 = ((num n k : Nat) : Int) := by
            unfold mmN
            rw [if_neg (show ¬ popN (sw n k) = 99 by omega)]
          rw [en] at hnx
          rw [AWh_k, k_X11_joinOf_14]
          simp only [AW_k, AWk_1, x_iload_6, x_aload_0, x_aloads_0, x_getf, x_iald, x_ialds, x_icmp_ge, x_callv_2, x_istore_7, x_iload_3, x_iload_7, x_push_i, x_push_l, x_ixor, x_iand, x_if_ne, x_i2l, x_call_1, x_iload_5, x_istore_5, x_istore_4, x_iinc_6, x_goto, unl_i, unl_l, unl_q, unl_r, unl_s, unl_n, k_X11_joinOf_14, k_X11_joinOf_15, k_X11_joinOf_16, k_X11_joinOf_17, k_X11_joinOf_18, k_X11_joinOf_19, k_X11_joinOf_20, k_X11_joinOf_21, k_X11_joinOf_22, k_X11_joinOf_23, k_X11_joinOf_24, k_X11_joinOf_25, k_X11_joinOf_26, k_X11_joinOf_27, k_X11_joinOf_28, k_X11_joinOf_29, k_X11_joinOf_30, k_X11_joinOf_31, k_X11_joinOf_32, k_X11_joinOf_33, k_X11_joinOf_34, k_X11_joinOf_35, k_X11_joinOf_36, k_X11_joinOf_37, k_X11_joinOf_38, k_X11_joinOf_39, k_X11_joinOf_40, k_X11_joinOf_41, k_X11_joinOf_42, k_X11_joinOf_43, k_X11_joinOf_44, k_X11_joinOf_45, k_X11_joinOf_46, k_X11_joinOf_47, oE_some, Int.reduceToNat, Nat.reduceAdd, true_and, and_true, List.length_cons, List.length_nil, Option.toList_some, Option.toList_none, List.cons_append, List.nil_append, Nat.reduceLeDiff, Nat.le_refl, wdS_nil, wdS_i, wdS_l, wdS_r, wdS_n, wdS_s, g1, g2, a2, ib, w32_tn bn, FW_get n7, w32_nat bk, w32_nat bF, n1, cM h, m_rowBy d h hkF, m_swapped d h hkF, iSub bw bs, c1, m_ones d, pop_NI bs, wm, wp, c2, e1, ↓reduceIte]
          exact hnx
        · rw [if_neg (fun q => c2 q.2)] at hnx
          rw [AWh_k, k_X11_joinOf_14]
          simp only [AW_k, AWk_1, x_iload_6, x_aload_0, x_aloads_0, x_getf, x_iald, x_ialds, x_icmp_ge, x_callv_2, x_istore_7, x_iload_3, x_iload_7, x_push_i, x_push_l, x_ixor, x_iand, x_if_ne, x_i2l, x_call_1, x_iload_5, x_istore_5, x_istore_4, x_iinc_6, x_goto, unl_i, unl_l, unl_q, unl_r, unl_s, unl_n, k_X11_joinOf_14, k_X11_joinOf_15, k_X11_joinOf_16, k_X11_joinOf_17, k_X11_joinOf_18, k_X11_joinOf_19, k_X11_joinOf_20, k_X11_joinOf_21, k_X11_joinOf_22, k_X11_joinOf_23, k_X11_joinOf_24, k_X11_joinOf_25, k_X11_joinOf_26, k_X11_joinOf_27, k_X11_joinOf_28, k_X11_joinOf_29, k_X11_joinOf_30, k_X11_joinOf_31, k_X11_joinOf_32, k_X11_joinOf_33, k_X11_joinOf_34, k_X11_joinOf_35, k_X11_joinOf_36, k_X11_joinOf_37, k_X11_joinOf_38, k_X11_joinOf_39, k_X11_joinOf_40, k_X11_joinOf_41, k_X11_joinOf_42, k_X11_joinOf_43, k_X11_joinOf_44, k_X11_joinOf_45, k_X11_joinOf_46, k_X11_joinOf_47, oE_some, Int.reduceToNat, Nat.reduceAdd, true_and, and_true, List.length_cons, List.length_nil, Option.toList_some, Option.toList_none, List.cons_append, List.nil_append, Nat.reduceLeDiff, Nat.le_refl, wdS_nil, wdS_i, wdS_l, wdS_r, wdS_n, wdS_s, g1, g2, a2, ib, w32_tn bn, FW_get n7, w32_nat bk, w32_nat bF, n1, cM h, m_rowBy d h hkF, m_swapped d h hkF, iSub bw bs, c1, m_ones d, pop_NI bs, wm, wp, c2, e1, ↓reduceIte]
          exact hnx
      · rw [if_neg (fun q => c1 q.1)] at hnx
        rw [AWh_k, k_X11_joinOf_14]
        simp only [AW_k, AWk_1, x_iload_6, x_aload_0, x_aloads_0, x_getf, x_iald, x_ialds, x_icmp_ge, x_callv_2, x_istore_7, x_iload_3, x_iload_7, x_push_i, x_push_l, x_ixor, x_iand, x_if_ne, x_i2l, x_call_1, x_iload_5, x_istore_5, x_istore_4, x_iinc_6, x_goto, unl_i, unl_l, unl_q, unl_r, unl_s, unl_n, k_X11_joinOf_14, k_X11_joinOf_15, k_X11_joinOf_16, k_X11_joinOf_17, k_X11_joinOf_18, k_X11_joinOf_19, k_X11_joinOf_20, k_X11_joinOf_21, k_X11_joinOf_22, k_X11_joinOf_23, k_X11_joinOf_24, k_X11_joinOf_25, k_X11_joinOf_26, k_X11_joinOf_27, k_X11_joinOf_28, k_X11_joinOf_29, k_X11_joinOf_30, k_X11_joinOf_31, k_X11_joinOf_32, k_X11_joinOf_33, k_X11_joinOf_34, k_X11_joinOf_35, k_X11_joinOf_36, k_X11_joinOf_37, k_X11_joinOf_38, k_X11_joinOf_39, k_X11_joinOf_40, k_X11_joinOf_41, k_X11_joinOf_42, k_X11_joinOf_43, k_X11_joinOf_44, k_X11_joinOf_45, k_X11_joinOf_46, k_X11_joinOf_47, oE_some, Int.reduceToNat, Nat.reduceAdd, true_and, and_true, List.length_cons, List.length_nil, Option.toList_some, Option.toList_none, List.cons_append, List.nil_append, Nat.reduceLeDiff, Nat.le_refl, wdS_nil, wdS_i, wdS_l, wdS_r, wdS_n, wdS_s, g1, g2, a2, ib, w32_tn bn, FW_get n7, w32_nat bk, w32_nat bF, n1, cM h, m_rowBy d h hkF, m_swapped d h hkF, iSub bw bs, c1, e1, ↓reduceIte]
        exact hnx
  rw [callD_k]; simp only [entL_i, entL_l, entL_q, entL_s, entL_nil, n_X11_joinOf, u_X11_joinOf, m_X11_joinOf, rep_5, List.cons_append, List.nil_append, List.append_nil, List.length_cons, List.length_nil, Nat.reduceAdd, true_and]
  simp only [AW_k, AWk_1, x_aload_0, x_aloads_0, x_iload_1, x_callv_2, x_iload_2, x_ior, x_istore_3, x_push_i, x_push_l, x_istore_4, x_istore_5, x_istore_6, x_iload_6, unl_i, unl_l, unl_q, unl_r, unl_s, unl_n, k_X11_joinOf_0, k_X11_joinOf_1, k_X11_joinOf_2, k_X11_joinOf_3, k_X11_joinOf_4, k_X11_joinOf_5, k_X11_joinOf_6, k_X11_joinOf_7, k_X11_joinOf_8, k_X11_joinOf_9, k_X11_joinOf_10, k_X11_joinOf_11, k_X11_joinOf_12, k_X11_joinOf_13, k_X11_joinOf_14, oE_some, Int.reduceToNat, Nat.reduceAdd, true_and, and_true, List.length_cons, List.length_nil, Option.toList_some, Option.toList_none, List.cons_append, List.nil_append, Nat.reduceLeDiff, Nat.le_refl, wdS_nil, wdS_i, wdS_l, wdS_r, wdS_n, wdS_s, cM h, m_swapped d h hi, m_swapped d h hj, iOr_nat b1 b2]
  exact key (FC n) 0 none (Nat.zero_add _)
