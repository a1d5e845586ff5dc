/-! ===== the reference's own methods: arcs ===== -/
def lwI (n a : Nat) : Nat → Nat × Int
  | 0 => (0, 99)
  | k + 1 => if (dgm n k).testBit a = true ∧ popN (sw n k) < (lwI n a k).2 then (k, popN (sw n k)) else lwI n a k
theorem lwI_up (n a k : Nat) : lwI n a (k + 1) = if (dgm n k).testBit a = true ∧ popN (sw n k) < (lwI n a k).2 then (k, popN (sw n k)) else lwI n a k := rfl
theorem lwI_bd (n a : Nat) : ∀ k, 0 ≤ (lwI n a k).2 ∧ (lwI n a k).2 ≤ 99 := by
  intro k
  induction k with
  | zero => exact ⟨by show (0 : Int) ≤ 99; omega, by show (99 : Int) ≤ 99; omega⟩
  | succ k ih =>
    rw [lwI_up]
    have := popN_bd (sw n k)
    split
    · exact ⟨this.1, by show popN (sw n k) ≤ 99; omega⟩
    · exact ih
/-- the same search, its counts as they come: for a check by running -/
def pc15 (s : Nat) : Nat := s % 2 + s / 2 % 2 + s / 4 % 2 + s / 8 % 2 + s / 16 % 2 + s / 32 % 2 + s / 64 % 2 + s / 128 % 2 + s / 256 % 2 + s / 512 % 2 + s / 1024 % 2 + s / 2048 % 2 + s / 4096 % 2 + s / 8192 % 2 + s / 16384 % 2
def lwC (n a : Nat) : Nat → Nat → Nat → Nat
  | 0, b, _ => b
  | m + 1, b, c => if tst (dgm n (FC n - (m + 1))) a = true then (if Nat.blt (pc15 (sw n (FC n - (m + 1)))) c = true then lwC n a m (num n (FC n - (m + 1))) (pc15 (sw n (FC n - (m + 1)))) else lwC n a m b c) else lwC n a m b c
theorem lwC_up (n a m b c : Nat) : lwC n a (m + 1) b c = if tst (dgm n (FC n - (m + 1))) a = true then (if Nat.blt (pc15 (sw n (FC n - (m + 1)))) c = true then lwC n a m (num n (FC n - (m + 1))) (pc15 (sw n (FC n - (m + 1)))) else lwC n a m b c) else lwC n a m b c := rfl
def lw_b (n : Nat) : Bool := allB (fun a => lwC n a (FC n) 0 99 == lrw n a) (NA n)
theorem lw_c : all6 lw_b = true := by decide +kernel
theorem tb_dm (s k : Nat) : zI (s.testBit k) = ((s / 2 ^ k % 2 : Nat) : Int) := by
  rw [Nat.testBit_eq_decide_div_mod_eq]
  by_cases c : s / 2 ^ k % 2 = 1
  · rw [decide_eq_true c, c]; rfl
  · rw [decide_eq_false c]
    have : s / 2 ^ k % 2 = 0 := by omega
    rw [this]; rfl
theorem pc15_pop {s : Nat} (h : s < 32768) : ((pc15 s : Nat) : Int) = popN s := by
  unfold popN
  rw [show (32 : Nat) = 15 + 17 from rfl, cnt_add]
  have h2 : cnt (fun i => s.testBit (15 + i)) 17 = 0 := cnt_zero (fun k hk => Nat.testBit_lt_two_pow (Nat.lt_of_lt_of_le h (Nat.pow_le_pow_right (n := 2) (i := 15) (by decide) (by omega))))
  rw [h2, Int.add_zero]
  have e : cnt (fun i => s.testBit i) 15 = zI (s.testBit 0) + zI (s.testBit 1) + zI (s.testBit 2) + zI (s.testBit 3) + zI (s.testBit 4) + zI (s.testBit 5) + zI (s.testBit 6) + zI (s.testBit 7) + zI (s.testBit 8) + zI (s.testBit 9) + zI (s.testBit 10) + zI (s.testBit 11) + zI (s.testBit 12) + zI (s.testBit 13) + zI (s.testBit 14) := by
    simp only [cnt_succ]
    show 0 + _ + _ + _ + _ + _ + _ + _ + _ + _ + _ + _ + _ + _ + _ + _ = _
    rw [Int.zero_add]
  rw [e]
  simp only [tb_dm, Nat.reducePow, Nat.div_one]
  unfold pc15
  omega
theorem lw_ok {n a : Nat} (h1 : 1 ≤ n) (h6 : n ≤ 6) (ha : a < NA n) : mmN n (lwI n a (FC n)) 99 = ((lrw n a : Nat) : Int) := by
  have key : ∀ m, m ≤ FC n → ∀ b c : Nat, ((c : Nat) : Int) = (lwI n a (FC n - m)).2 → (b : Int) = mmN n (lwI n a (FC n - m)) 99 → ((lwC n a m b c : Nat) : Int) = mmN n (lwI n a (FC n)) 99 := by
    intro m
    induction m with
    | zero => intro _ b c _ hb; exact hb
    | succ m ih =>
      intro hm b c hc hb
      have e1 : FC n - m = FC n - (m + 1) + 1 := by omega
      have hs := sw_31 n (FC n - (m + 1))
      have hp := pc15_pop hs
      have pb := popN_bd (sw n (FC n - (m + 1)))
      rw [lwC_up]
      rw [e1] at ih
      rw [lwI_up] at ih
      rw [tst_bit]
      by_cases c1 : (dgm n (FC n - (m + 1))).testBit a = true
      · rw [if_pos c1]
        by_cases c2 : Nat.blt (pc15 (sw n (FC n - (m + 1)))) c = true
        · have c3 : popN (sw n (FC n - (m + 1))) < (lwI n a (FC n - (m + 1))).2 := by
            have := Nat.blt_eq.mp c2
            omega
          rw [if_pos c2]
          rw [if_pos ⟨c1, c3⟩] at ih
          refine ih (by omega) _ _ hp ?_
          unfold mmN
          rw [if_neg (show ¬ popN (sw n (FC n - (m + 1))) = 99 by omega)]
        · have c3 : ¬ popN (sw n (FC n - (m + 1))) < (lwI n a (FC n - (m + 1))).2 := by
            intro q
            exact c2 (Nat.blt_eq.mpr (by omega))
          rw [if_neg c2]
          rw [if_neg (fun q => c3 q.2)] at ih
          exact ih (by omega) b c hc hb
      · rw [if_neg c1]
        rw [if_neg (fun q => c1 q.1)] at ih
        exact ih (by omega) b c hc hb
  have := key (FC n) (Nat.le_refl _) 0 99 (by rw [Nat.sub_self]; rfl) (by rw [Nat.sub_self]; rfl)
  rw [← this, beq_iff_eq.mp (allB_of (all6_of lw_c h1 h6) a ha)]
theorem dgm_bit {n k a : Nat} (ha : a < 64) : (BitVec.ofNat 64 (dgm n k)).getLsbD a = (dgm n k).testBit a := by
  rw [BitVec.getLsbD_ofNat, decide_eq_true ha, Bool.true_and]
set_option maxHeartbeats 16000000 in
theorem m_leastWith (d : Nat) {hp : HP} {n a : Nat} (h : MA hp n) (ha : a < NA n) (R : PO) : callD (d + 4) 192 [mR 54, mI (a : Int)] hp R ↔ R (some (mI ((lrw n a : Nat) : Int))) hp := by
  have hK := h.1
  have h1 := hK.1.1
  have h6 := hK.1.2
  have g1 := hK.2.1
  have g2 := hK.2.2.2.1
  have a2 := hK.2.2.2.2.2
  have f1 := FC_le n
  have fN := NA_le n
  have a64 : a < 64 := by omega
  have n7 : n < 7 := by omega
  have bn : n < 2147483648 := by omega
  have ib : inB (n : Int) FW.length := inB_n n7 (by decide)
  rw [← lw_ok h1 h6 ha]
  have key : ∀ (m k : Nat) (y5 : Option AV), k + m = FC n → (AWh (d + 3) [] 192 R 6 [some (mR 54), some (mI (a : Int)), some (mI (mmN n (lwI n a k) 99)), some (mI (lwI n a k).2), some (mI (k : Int)), y5] [] hp (0, 0) ↔ R (some (mI (mmN n (lwI n a (FC n)) 99))) hp) := by
    intro m
    induction m with
    | zero =>
      intro k y5 hk
      have e : k = FC n := by omega
      subst e
      rw [AWh_k, k_X11_leastWith_6]
      simp only [AW_k, AWk_1, x_iload_4, x_aload_0, x_aloads_0, x_getf, x_iald, x_ialds, x_icmp_ge, x_callv_2, x_istore_5, x_iload_5, x_iload_1, x_call_2, x_if_eq, x_i2l, x_call_1, x_iload_3, x_istore_3, x_istore_2, x_iinc_4, x_goto, x_iload_2, x_ret, x_ret_i, x_ret_z, x_ret_l, x_ret_c, unl_i, unl_l, unl_q, unl_r, unl_s, unl_n, k_X11_leastWith_6, k_X11_leastWith_7, k_X11_leastWith_8, k_X11_leastWith_9, k_X11_leastWith_10, k_X11_leastWith_11, k_X11_leastWith_12, k_X11_leastWith_13, k_X11_leastWith_14, k_X11_leastWith_15, k_X11_leastWith_16, k_X11_leastWith_17, k_X11_leastWith_18, k_X11_leastWith_19, k_X11_leastWith_20, k_X11_leastWith_21, k_X11_leastWith_22, k_X11_leastWith_23, k_X11_leastWith_24, k_X11_leastWith_25, k_X11_leastWith_26, k_X11_leastWith_27, k_X11_leastWith_28, k_X11_leastWith_29, k_X11_leastWith_30, k_X11_leastWith_31, k_X11_leastWith_32, k_X11_leastWith_33, k_X11_leastWith_34, k_X11_leastWith_35, k_X11_leastWith_36, k_X11_leastWith_37, k_X11_leastWith_38, k_X11_leastWith_39, k_X11_leastWith_40, k_X11_leastWith_41, oE_some, Int.reduceToNat, Nat.reduceAdd, true_and, and_true, List.length_cons, List.length_nil, Option.toList_some, Option.toList_none, List.cons_append, List.nil_append, Nat.reduceLeDiff, Nat.le_refl, wdS_nil, wdS_i, wdS_l, wdS_r, wdS_n, wdS_s, g1, g2, a2, ib, w32_tn bn, FW_get n7]
      rw [if_neg (Int.lt_irrefl _)]
    | succ m ih =>
      intro k y5 hk
      have hkF : k < FC n := by omega
      have bk : k < 2147483648 := by omega
      have bF := FC_31 n
      have f1 : ((k : Int) < ((FC n : Nat) : Int)) = True := eq_true (by omega)
      have e1 : (k : Int) + 1 = ((k + 1 : Nat) : Int) := by omega
      have bs : sw n k < 2147483648 := Nat.lt_trans (sw_31 n k) (by decide)
      have mb := lwI_bd n a k
      have pb := popN_bd (sw n k)
      have hnx := ih (k + 1) (some (mI ((num n k : Nat) : Int))) (by omega)
      rw [lwI_up] at hnx
      have db := dgm_bit (n := n) (k := k) a64
      have wm : w32 (lwI n a k).2 = (lwI n a k).2 := w32_id (by omega) (by omega)
      have wp : w32 (popN (sw n k)) = popN (sw n k) := w32_id (by omega) (by omega)
      by_cases c1 : (dgm n k).testBit a = true
      · rw [c1] at db
        by_cases c2 : popN (sw n k) < (lwI n a k).2
        · rw [if_pos ⟨c1, c2⟩] at hnx
          have en : mmN n (k, popN (sw n k)) 99 = ((num n k : Nat) : Int) := by
            unfold mmN
            rw [if_neg (show ¬ popN (sw n k) = 99 by omega)]
          rw [en] at hnx
          rw [AWh_k, k_X11_leastWith_6]
          simp only [AW_k, AWk_1, x_iload_4, x_aload_0, x_aloads_0, x_getf, x_iald, x_ialds, x_icmp_ge, x_callv_2, x_istore_5, x_iload_5, x_iload_1, x_call_2, x_if_eq, x_i2l, x_call_1, x_iload_3, x_istore_3, x_istore_2, x_iinc_4, x_goto, unl_i, unl_l, unl_q, unl_r, unl_s, unl_n, k_X11_leastWith_6, k_X11_leastWith_7, k_X11_leastWith_8, k_X11_leastWith_9, k_X11_leastWith_10, k_X11_leastWith_11, k_X11_leastWith_12, k_X11_leastWith_13, k_X11_leastWith_14, k_X11_leastWith_15, k_X11_leastWith_16, k_X11_leastWith_17, k_X11_leastWith_18, k_X11_leastWith_19, k_X11_leastWith_20, k_X11_leastWith_21, k_X11_leastWith_22, k_X11_leastWith_23, k_X11_leastWith_24, k_X11_leastWith_25, k_X11_leastWith_26, k_X11_leastWith_27, k_X11_leastWith_28, k_X11_leastWith_29, k_X11_leastWith_30, k_X11_leastWith_31, k_X11_leastWith_32, k_X11_leastWith_33, k_X11_leastWith_34, k_X11_leastWith_35, k_X11_leastWith_36, k_X11_leastWith_37, k_X11_leastWith_38, k_X11_leastWith_39, oE_some, Int.reduceToNat, Nat.reduceAdd, true_and, and_true, List.length_cons, List.length_nil, Option.toList_some, Option.toList_none, List.cons_append, List.nil_append, Nat.reduceLeDiff, Nat.le_refl, wdS_nil, wdS_i, wdS_l, wdS_r, wdS_n, wdS_s, g1, g2, a2, ib, w32_tn bn, FW_get n7, w32_nat bk, w32_nat bF, f1, cM hK, m_rowBy (d + 1) hK hkF, m_diagramOf d h hkF, m_hasK (d + 2) a64, db, zI_t, w10, m_swapped (d + 1) hK hkF, m_ones (d + 1), pop_NI bs, wm, wp, c2, e1, ↓reduceIte]
          exact hnx
        · rw [if_neg (fun q => c2 q.2)] at hnx
          rw [AWh_k, k_X11_leastWith_6]
          simp only [AW_k, AWk_1, x_iload_4, x_aload_0, x_aloads_0, x_getf, x_iald, x_ialds, x_icmp_ge, x_callv_2, x_istore_5, x_iload_5, x_iload_1, x_call_2, x_if_eq, x_i2l, x_call_1, x_iload_3, x_istore_3, x_istore_2, x_iinc_4, x_goto, unl_i, unl_l, unl_q, unl_r, unl_s, unl_n, k_X11_leastWith_6, k_X11_leastWith_7, k_X11_leastWith_8, k_X11_leastWith_9, k_X11_leastWith_10, k_X11_leastWith_11, k_X11_leastWith_12, k_X11_leastWith_13, k_X11_leastWith_14, k_X11_leastWith_15, k_X11_leastWith_16, k_X11_leastWith_17, k_X11_leastWith_18, k_X11_leastWith_19, k_X11_leastWith_20, k_X11_leastWith_21, k_X11_leastWith_22, k_X11_leastWith_23, k_X11_leastWith_24, k_X11_leastWith_25, k_X11_leastWith_26, k_X11_leastWith_27, k_X11_leastWith_28, k_X11_leastWith_29, k_X11_leastWith_30, k_X11_leastWith_31, k_X11_leastWith_32, k_X11_leastWith_33, k_X11_leastWith_34, k_X11_leastWith_35, k_X11_leastWith_36, k_X11_leastWith_37, k_X11_leastWith_38, k_X11_leastWith_39, oE_some, Int.reduceToNat, Nat.reduceAdd, true_and, and_true, List.length_cons, List.length_nil, Option.toList_some, Option.toList_none, List.cons_append, List.nil_append, Nat.reduceLeDiff, Nat.le_refl, wdS_nil, wdS_i, wdS_l, wdS_r, wdS_n, wdS_s, g1, g2, a2, ib, w32_tn bn, FW_get n7, w32_nat bk, w32_nat bF, f1, cM hK, m_rowBy (d + 1) hK hkF, m_diagramOf d h hkF, m_hasK (d + 2) a64, db, zI_t, w10, m_swapped (d + 1) hK hkF, m_ones (d + 1), pop_NI bs, wm, wp, c2, e1, ↓reduceIte]
          exact hnx
      · rw [if_neg (fun q => c1 q.1)] at hnx
        rw [Bool.not_eq_true] at c1
        rw [c1] at db
        rw [AWh_k, k_X11_leastWith_6]
        simp only [AW_k, AWk_1, x_iload_4, x_aload_0, x_aloads_0, x_getf, x_iald, x_ialds, x_icmp_ge, x_callv_2, x_istore_5, x_iload_5, x_iload_1, x_call_2, x_if_eq, x_i2l, x_call_1, x_iload_3, x_istore_3, x_istore_2, x_iinc_4, x_goto, unl_i, unl_l, unl_q, unl_r, unl_s, unl_n, k_X11_leastWith_6, k_X11_leastWith_7, k_X11_leastWith_8, k_X11_leastWith_9, k_X11_leastWith_10, k_X11_leastWith_11, k_X11_leastWith_12, k_X11_leastWith_13, k_X11_leastWith_14, k_X11_leastWith_15, k_X11_leastWith_16, k_X11_leastWith_17, k_X11_leastWith_18, k_X11_leastWith_19, k_X11_leastWith_20, k_X11_leastWith_21, k_X11_leastWith_22, k_X11_leastWith_23, k_X11_leastWith_24, k_X11_leastWith_25, k_X11_leastWith_26, k_X11_leastWith_27, k_X11_leastWith_28, k_X11_leastWith_29, k_X11_leastWith_30, k_X11_leastWith_31, k_X11_leastWith_32, k_X11_leastWith_33, k_X11_leastWith_34, k_X11_leastWith_35, k_X11_leastWith_36, k_X11_leastWith_37, k_X11_leastWith_38, k_X11_leastWith_39, oE_some, Int.reduceToNat, Nat.reduceAdd, true_and, and_true, List.length_cons, List.length_nil, Option.toList_some, Option.toList_none, List.cons_append, List.nil_append, Nat.reduceLeDiff, Nat.le_refl, wdS_nil, wdS_i, wdS_l, wdS_r, wdS_n, wdS_s, g1, g2, a2, ib, w32_tn bn, FW_get n7, w32_nat bk, w32_nat bF, f1, cM hK, m_rowBy (d + 1) hK hkF, m_diagramOf d h hkF, m_hasK (d + 2) a64, db, zI_f, w00, e1, ↓reduceIte]
        exact hnx
  rw [callD_k]; simp only [entL_i, entL_l, entL_q, entL_s, entL_nil, n_X11_leastWith, u_X11_leastWith, m_X11_leastWith, rep_4, List.cons_append, List.nil_append, List.append_nil, List.length_cons, List.length_nil, Nat.reduceAdd, true_and]
  simp only [AW_k, AWk_1, x_push_i, x_push_l, x_istore_2, x_istore_3, x_istore_4, x_iload_4, unl_i, unl_l, unl_q, unl_r, unl_s, unl_n, k_X11_leastWith_0, k_X11_leastWith_1, k_X11_leastWith_2, k_X11_leastWith_3, k_X11_leastWith_4, k_X11_leastWith_5, k_X11_leastWith_6, oE_some, Int.reduceToNat, Nat.reduceAdd, true_and, and_true, List.length_cons, List.length_nil, Option.toList_some, Option.toList_none, List.cons_append, List.nil_append, Nat.reduceLeDiff, Nat.le_refl, wdS_nil, wdS_i, wdS_l, wdS_r, wdS_n, wdS_s]
  exact key (FC n) 0 none (Nat.zero_add _)
