/-! ===== the reference: swapped, below, rank, row by index ===== -/
theorem iOr_0 {a : Nat} (h : a < 2147483648) : iOr (a : Int) 0 = (a : Int) := by
  have := iOr_nat (b := 0) h (by decide)
  rw [Nat.or_zero] at this
  exact this
set_option maxHeartbeats 16000000 in
theorem m_swapped (d : Nat) {hp : HP} {n i : Nat} (h : MK hp n) (hi : i < FC n) (R : PO) : callD (d + 2) 166 [mR 54, mI ((num n i : Nat) : Int)] hp R ↔ R (some (mI ((sw n i : Nat) : Int))) hp := by
  have h1 := h.1.1
  have h6 := h.1.2
  have b := num_31 h1 h6 hi
  have g1 := h.2.1
  have bn : n < 2147483648 := by omega
  have inner : ∀ (m k p acc : Nat) (y5 y6 : Option AV), p + 1 + k + m = n → acc < 32768 → ∃ y5' y6', (AWh (d + 1) [] 166 R 12 [some (mR 54), some (mI ((num n i : Nat) : Int)), some (mI ((sIn n i p k acc : Nat) : Int)), some (mI (p : Int)), some (mI ((p + 1 + k : Nat) : Int)), y5, y6] [] hp (0, 0) ↔ AWk (d + 1) [] 166 R 51 (cd 166 51) [some (mR 54), some (mI ((num n i : Nat) : Int)), some (mI ((sIn n i p (n - 1 - p) acc : Nat) : Int)), some (mI (p : Int)), some (mI (n : Int)), y5', y6'] [] hp (0, 0)) := by
    intro m
    induction m with
    | zero =>
      intro k p acc y5 y6 hk ha
      have e1 : k = n - 1 - p := by omega
      have e2 : p + 1 + k = n := by omega
      refine ⟨y5, y6, ?_⟩
      rw [e2, e1]
      rw [AWh_k, k_X11_swapped_12]
      simp only [AW_k, AWk_1, x_iload_4, x_aload_0, x_aloads_0, x_getf, x_icmp_ge, k_X11_swapped_12, k_X11_swapped_13, k_X11_swapped_14, k_X11_swapped_15, oE_some, Int.reduceToNat, Nat.reduceAdd, true_and, and_true, List.length_cons, List.length_nil, Option.toList_some, Option.toList_none, List.cons_append, List.nil_append, Nat.reduceLeDiff, Nat.le_refl, wdS_nil, wdS_i, wdS_l, wdS_r, wdS_n, wdS_s, g1]
      rw [if_neg (Int.lt_irrefl _)]
    | succ m ih =>
      intro k p acc y5 y6 hk ha
      have hq : p + 1 + k < n := by omega
      have hp1 : p < n := by omega
      have bq : p + 1 + k < 2147483648 := by omega
      have n1 : (((p + 1 + k : Nat) : Int) < (n : Int)) = True := eq_true (by omega)
      have e1 : ((p + 1 + k : Nat) : Int) + 1 = ((p + 1 + (k + 1) : Nat) : Int) := by omega
      obtain ⟨y5', y6', hi2⟩ := ih (k + 1) p acc (some (mI ((dg n (num n i) p : Nat) : Int))) (some (mI ((dg n (num n i) (p + 1 + k) : Nat) : Int))) (by omega) ha
      refine ⟨y5', y6', Iff.trans ?_ hi2⟩
      have hs := sIn_lt h1 h6 hi hp1 k acc (by omega) ha
      have bs : sIn n i p k acc < 2147483648 := by omega
      obtain ⟨d1, d2⟩ := dg_in h1 h6 hi hp1
      obtain ⟨d3, d4⟩ := dg_in h1 h6 hi hq
      rw [sIn_succ]
      by_cases c : dg n (num n i) (p + 1 + k) < dg n (num n i) p
      · obtain ⟨k15, ek⟩ := pbt_all (dg n (num n i) p) (by omega) _ c d3
        have k31 : pbt (dg n (num n i) p) (dg n (num n i) (p + 1 + k)) < 31 := by omega
        have n2 : (((dg n (num n i) (p + 1 + k) : Nat) : Int) < ((dg n (num n i) p : Nat) : Int)) = True := eq_true (by omega)
        have p31 := pow31 k31
        rw [if_pos c]
        rw [AWh_k, k_X11_swapped_12]
        simp only [AW_k, AWk_1, x_iload_4, x_aload_0, x_aloads_0, x_getf, x_icmp_ge, x_iload_1, x_iload_3, x_callv_3, x_istore_5, x_istore_6, x_iload_2, x_iload_5, x_iload_6, x_icmp_le, x_push_i, x_push_l, x_isub, x_imul, x_idiv, x_iadd, x_ishl, x_goto, x_ior, x_istore_2, x_iinc_4, unl_i, unl_l, unl_q, unl_r, unl_s, unl_n, k_X11_swapped_12, k_X11_swapped_13, k_X11_swapped_14, k_X11_swapped_15, k_X11_swapped_16, k_X11_swapped_17, k_X11_swapped_18, k_X11_swapped_19, k_X11_swapped_20, k_X11_swapped_21, k_X11_swapped_22, k_X11_swapped_23, k_X11_swapped_24, k_X11_swapped_25, k_X11_swapped_26, k_X11_swapped_27, k_X11_swapped_28, k_X11_swapped_29, k_X11_swapped_30, k_X11_swapped_31, k_X11_swapped_32, k_X11_swapped_33, k_X11_swapped_34, k_X11_swapped_35, k_X11_swapped_36, k_X11_swapped_37, k_X11_swapped_38, k_X11_swapped_39, k_X11_swapped_40, k_X11_swapped_41, k_X11_swapped_42, k_X11_swapped_43, k_X11_swapped_44, k_X11_swapped_45, k_X11_swapped_46, k_X11_swapped_47, k_X11_swapped_48, k_X11_swapped_49, k_X11_swapped_50, oE_some, Int.reduceToNat, Nat.reduceAdd, true_and, and_true, List.length_cons, List.length_nil, Option.toList_some, Option.toList_none, List.cons_append, List.nil_append, Nat.reduceLeDiff, Nat.le_refl, wdS_nil, wdS_i, wdS_l, wdS_r, wdS_n, wdS_s, g1, cM h, w32_nat bq, w32_nat bn, n1, m_digit d h hp1 b, m_digit d h hq b, w32_nat (dg_31 n (num n i) p), w32_nat (dg_31 n (num n i) (p + 1 + k)), n2, ek, show ¬ w32 2 = 0 by decide, not_false_eq_true, iShl_1 k31, iOr_nat bs p31, e1, ↓reduceIte]
        all_goals exact Iff.rfl
      · have n2 : (((dg n (num n i) (p + 1 + k) : Nat) : Int) < ((dg n (num n i) p : Nat) : Int)) = False := eq_false (by omega)
        rw [if_neg c]
        rw [AWh_k, k_X11_swapped_12]
        simp only [AW_k, AWk_1, x_iload_4, x_aload_0, x_aloads_0, x_getf, x_icmp_ge, x_iload_1, x_iload_3, x_callv_3, x_istore_5, x_istore_6, x_iload_2, x_iload_5, x_iload_6, x_icmp_le, x_push_i, x_push_l, x_isub, x_imul, x_idiv, x_iadd, x_ishl, x_goto, x_ior, x_istore_2, x_iinc_4, unl_i, unl_l, unl_q, unl_r, unl_s, unl_n, k_X11_swapped_12, k_X11_swapped_13, k_X11_swapped_14, k_X11_swapped_15, k_X11_swapped_16, k_X11_swapped_17, k_X11_swapped_18, k_X11_swapped_19, k_X11_swapped_20, k_X11_swapped_21, k_X11_swapped_22, k_X11_swapped_23, k_X11_swapped_24, k_X11_swapped_25, k_X11_swapped_26, k_X11_swapped_27, k_X11_swapped_28, k_X11_swapped_29, k_X11_swapped_30, k_X11_swapped_31, k_X11_swapped_32, k_X11_swapped_33, k_X11_swapped_34, k_X11_swapped_35, k_X11_swapped_36, k_X11_swapped_37, k_X11_swapped_38, k_X11_swapped_39, k_X11_swapped_40, k_X11_swapped_41, k_X11_swapped_42, k_X11_swapped_43, k_X11_swapped_44, k_X11_swapped_45, k_X11_swapped_46, k_X11_swapped_47, k_X11_swapped_48, k_X11_swapped_49, k_X11_swapped_50, oE_some, Int.reduceToNat, Nat.reduceAdd, true_and, and_true, List.length_cons, List.length_nil, Option.toList_some, Option.toList_none, List.cons_append, List.nil_append, Nat.reduceLeDiff, Nat.le_refl, wdS_nil, wdS_i, wdS_l, wdS_r, wdS_n, wdS_s, g1, cM h, w32_nat bq, w32_nat bn, n1, m_digit d h hp1 b, m_digit d h hq b, w32_nat (dg_31 n (num n i) p), w32_nat (dg_31 n (num n i) (p + 1 + k)), n2, iOr_0 bs, e1, ↓reduceIte]
        all_goals exact Iff.rfl
  have outer : ∀ (m p : Nat) (y4 y5 y6 : Option AV), p + m = n → (AWh (d + 1) [] 166 R 4 [some (mR 54), some (mI ((num n i : Nat) : Int)), some (mI ((sOut n i p : Nat) : Int)), some (mI (p : Int)), y4, y5, y6] [] hp (0, 0) ↔ R (some (mI ((sw n i : Nat) : Int))) hp) := by
    intro m
    induction m with
    | zero =>
      intro p y4 y5 y6 hp1
      have e : p = n := by omega
      subst e
      rw [sOut_sw h1 h6 hi]
      rw [AWh_k, k_X11_swapped_4]
      simp only [AW_k, AWk_1, x_iload_3, x_aload_0, x_aloads_0, x_getf, x_icmp_ge, x_push_i, x_push_l, x_iadd, x_istore_4, x_iload_4, x_iload_1, x_callv_3, x_istore_5, x_istore_6, x_iload_2, x_iload_5, x_iload_6, x_icmp_le, x_isub, x_imul, x_idiv, x_ishl, x_goto, x_ior, x_istore_2, x_iinc_4, x_iinc_3, x_ret, x_ret_i, x_ret_z, x_ret_l, x_ret_c, unl_i, unl_l, unl_q, unl_r, unl_s, unl_n, k_X11_swapped_4, k_X11_swapped_5, k_X11_swapped_6, k_X11_swapped_7, k_X11_swapped_8, k_X11_swapped_9, k_X11_swapped_10, k_X11_swapped_11, k_X11_swapped_12, k_X11_swapped_13, k_X11_swapped_14, k_X11_swapped_15, k_X11_swapped_16, k_X11_swapped_17, k_X11_swapped_18, k_X11_swapped_19, k_X11_swapped_20, k_X11_swapped_21, k_X11_swapped_22, k_X11_swapped_23, k_X11_swapped_24, k_X11_swapped_25, k_X11_swapped_26, k_X11_swapped_27, k_X11_swapped_28, k_X11_swapped_29, k_X11_swapped_30, k_X11_swapped_31, k_X11_swapped_32, k_X11_swapped_33, k_X11_swapped_34, k_X11_swapped_35, k_X11_swapped_36, k_X11_swapped_37, k_X11_swapped_38, k_X11_swapped_39, k_X11_swapped_40, k_X11_swapped_41, k_X11_swapped_42, k_X11_swapped_43, k_X11_swapped_44, k_X11_swapped_45, k_X11_swapped_46, k_X11_swapped_47, k_X11_swapped_48, k_X11_swapped_49, k_X11_swapped_50, k_X11_swapped_51, k_X11_swapped_52, k_X11_swapped_53, k_X11_swapped_54, oE_some, Int.reduceToNat, Nat.reduceAdd, true_and, and_true, List.length_cons, List.length_nil, Option.toList_some, Option.toList_none, List.cons_append, List.nil_append, Nat.reduceLeDiff, Nat.le_refl, wdS_nil, wdS_i, wdS_l, wdS_r, wdS_n, wdS_s, g1]
      rw [if_neg (Int.lt_irrefl _)]
    | succ m ih =>
      intro p y4 y5 y6 hp1
      have bp : p < 2147483648 := by omega
      have n1 : ((p : Int) < (n : Int)) = True := eq_true (by omega)
      have e1 : (p : Int) + 1 = ((p + 1 : Nat) : Int) := by omega
      have ha := sOut_lt h1 h6 hi p (by omega)
      obtain ⟨y5', y6', hin⟩ := inner (n - 1 - p) 0 p (sOut n i p) y5 y6 (by omega) ha
      have hi2 := ih (p + 1) (some (mI (n : Int))) y5' y6' (by omega)
      rw [AWh_k, k_X11_swapped_4]
      simp only [AW_k, AWk_1, x_iload_3, x_aload_0, x_aloads_0, x_getf, x_icmp_ge, x_push_i, x_push_l, x_iadd, x_istore_4, x_iload_4, unl_i, unl_l, unl_q, unl_r, unl_s, unl_n, k_X11_swapped_4, k_X11_swapped_5, k_X11_swapped_6, k_X11_swapped_7, k_X11_swapped_8, k_X11_swapped_9, k_X11_swapped_10, k_X11_swapped_11, k_X11_swapped_12, oE_some, Int.reduceToNat, Nat.reduceAdd, true_and, and_true, List.length_cons, List.length_nil, Option.toList_some, Option.toList_none, List.cons_append, List.nil_append, Nat.reduceLeDiff, Nat.le_refl, wdS_nil, wdS_i, wdS_l, wdS_r, wdS_n, wdS_s, g1, w32_nat bp, w32_nat bn, n1, e1, ↓reduceIte]
      refine hin.trans (Iff.trans ?_ hi2)
      simp only [AW_k, AWk_1, x_iinc_3, x_goto, unl_i, unl_l, unl_q, unl_r, unl_s, unl_n, k_X11_swapped_51, k_X11_swapped_52, oE_some, Int.reduceToNat, Nat.reduceAdd, true_and, and_true, List.length_cons, List.length_nil, Option.toList_some, Option.toList_none, List.cons_append, List.nil_append, Nat.reduceLeDiff, Nat.le_refl, wdS_nil, wdS_i, wdS_l, wdS_r, wdS_n, wdS_s, e1]
      all_goals exact Iff.rfl
  rw [callD_k]; simp only [entL_i, entL_l, entL_q, entL_s, entL_nil, n_X11_swapped, u_X11_swapped, m_X11_swapped, rep_5, List.cons_append, List.nil_append, List.append_nil, List.length_cons, List.length_nil, Nat.reduceAdd, true_and]
  simp only [AW_k, AWk_1, x_push_i, x_push_l, x_istore_2, x_istore_3, x_iload_3, unl_i, unl_l, unl_q, unl_r, unl_s, unl_n, k_X11_swapped_0, k_X11_swapped_1, k_X11_swapped_2, k_X11_swapped_3, k_X11_swapped_4, oE_some, Int.reduceToNat, Nat.reduceAdd, true_and, and_true, List.length_cons, List.length_nil, Option.toList_some, Option.toList_none, List.cons_append, List.nil_append, Nat.reduceLeDiff, Nat.le_refl, wdS_nil, wdS_i, wdS_l, wdS_r, wdS_n, wdS_s]
  exact outer n 0 none none none (Nat.zero_add n)
set_option maxHeartbeats 4000000 in
theorem m_isBelow (d : Nat) {hp : HP} {n i j : Nat} (h : MK hp n) (hi : i < FC n) (hj : j < FC n) (R : PO) : callD (d + 3) 167 [mR 54, mI ((num n i : Nat) : Int), mI ((num n j : Nat) : Int)] hp R ↔ R (some (mI (zI (blw n i j)))) hp := by
  have b1 : sw n i < 2147483648 := Nat.lt_trans (sw_31 n i) (by decide)
  have b2 : sw n j < 2147483648 := Nat.lt_trans (sw_31 n j) (by decide)
  rw [callD_k]; simp only [entL_i, entL_l, entL_q, entL_s, entL_nil, n_X11_isBelow, u_X11_isBelow, m_X11_isBelow, rep_0, List.cons_append, List.nil_append, List.append_nil, List.length_cons, List.length_nil, Nat.reduceAdd, true_and]
  simp only [AW_k, AWk_1, x_aload_0, x_aloads_0, x_iload_1, x_callv_2, x_iload_2, x_push_i, x_push_l, x_ixor, x_iand, x_if_ne, x_goto, x_ret, x_ret_i, x_ret_z, x_ret_l, x_ret_c, k_X11_isBelow_0, k_X11_isBelow_1, k_X11_isBelow_2, k_X11_isBelow_3, k_X11_isBelow_4, k_X11_isBelow_5, k_X11_isBelow_6, k_X11_isBelow_7, k_X11_isBelow_8, k_X11_isBelow_9, k_X11_isBelow_10, k_X11_isBelow_11, k_X11_isBelow_12, k_X11_isBelow_13, oE_some, Int.reduceToNat, Nat.reduceAdd, true_and, and_true, List.length_cons, List.length_nil, Option.toList_some, Option.toList_none, List.cons_append, List.nil_append, Nat.reduceLeDiff, Nat.le_refl, wdS_nil, wdS_i, wdS_l, wdS_r, wdS_n, wdS_s, cM h, m_swapped d h hi, m_swapped d h hj, iSub b1 b2]
  unfold blw
  cases sub1 (sw n i) (sw n j)
  · rw [if_neg (by decide)]; exact ⟨fun q => q.2, fun q => ⟨Or.inl trivial, q⟩⟩
  · rw [if_pos rfl]; exact ⟨fun q => q.2, fun q => ⟨Or.inr trivial, q⟩⟩
/-- so many are less -/
def rkI (n r p : Nat) : Nat → Nat
  | 0 => 0
  | k + 1 => rkI n r p k + (if dg n r (p + 1 + k) < dg n r p then FC (n - 1 - p) else 0)
def rkO (n r : Nat) : Nat → Nat
  | 0 => 0
  | p + 1 => rkO n r p + rkI n r p (n - 1 - p)
theorem rkI_up (n r p k : Nat) : rkI n r p (k + 1) = rkI n r p k + (if dg n r (p + 1 + k) < dg n r p then FC (n - 1 - p) else 0) := rfl
theorem rkO_up (n r p : Nat) : rkO n r (p + 1) = rkO n r p + rkI n r p (n - 1 - p) := rfl
def rk_b (n : Nat) : Bool := allB (fun i => rkO n (num n i) n == i) (FC n)
theorem rk_c : all6 rk_b = true := by decide +kernel
theorem rk_ok {n i : Nat} (h1 : 1 ≤ n) (h6 : n ≤ 6) (hi : i < FC n) : rkO n (num n i) n = i := beq_iff_eq.mp (allB_of (all6_of rk_c h1 h6) i hi)
set_option maxHeartbeats 16000000 in
theorem m_rank (d : Nat) {hp : HP} {n i : Nat} (h : MK hp n) (hi : i < FC n) (R : PO) : callD (d + 2) 169 [mR 54, mI ((num n i : Nat) : Int)] hp R ↔ R (some (mI (i : Int))) hp := by
  have h1 := h.1.1
  have h6 := h.1.2
  have b := num_31 h1 h6 hi
  have g1 := h.2.1
  have g2 := h.2.2.2.1
  have a2 := h.2.2.2.2.2
  have bn : n < 2147483648 := by omega
  have inner : ∀ (m k p acc : Nat), p + 1 + k + m = n → (AWh (d + 1) [] 169 R 12 [some (mR 54), some (mI ((num n i : Nat) : Int)), some (mI ((acc + rkI n (num n i) p k : Nat) : Int)), some (mI (p : Int)), some (mI ((p + 1 + k : Nat) : Int))] [] hp (0, 0) ↔ AWk (d + 1) [] 169 R 41 (cd 169 41) [some (mR 54), some (mI ((num n i : Nat) : Int)), some (mI ((acc + rkI n (num n i) p (n - 1 - p) : Nat) : Int)), some (mI (p : Int)), some (mI (n : Int))] [] hp (0, 0)) := by
    intro m
    induction m with
    | zero =>
      intro k p acc hk
      have e1 : k = n - 1 - p := by omega
      have e2 : p + 1 + k = n := by omega
      rw [e2, e1]
      rw [AWh_k, k_X11_rank_12]
      simp only [AW_k, AWk_1, x_iload_4, x_aload_0, x_aloads_0, x_getf, x_icmp_ge, k_X11_rank_12, k_X11_rank_13, k_X11_rank_14, k_X11_rank_15, oE_some, Int.reduceToNat, Nat.reduceAdd, true_and, and_true, List.length_cons, List.length_nil, Option.toList_some, Option.toList_none, List.cons_append, List.nil_append, Nat.reduceLeDiff, Nat.le_refl, wdS_nil, wdS_i, wdS_l, wdS_r, wdS_n, wdS_s, g1]
      rw [if_neg (Int.lt_irrefl _)]
    | succ m ih =>
      intro k p acc hk
      have hq : p + 1 + k < n := by omega
      have hp1 : p < n := by omega
      have bq : p + 1 + k < 2147483648 := by omega
      have n1 : (((p + 1 + k : Nat) : Int) < (n : Int)) = True := eq_true (by omega)
      have e1 : ((p + 1 + k : Nat) : Int) + 1 = ((p + 1 + (k + 1) : Nat) : Int) := by omega
      have e2 : (n : Int) - 1 - (p : Int) = ((n - 1 - p : Nat) : Int) := by omega
      have k7 : n - 1 - p < 7 := by omega
      have bk : n - 1 - p < 2147483648 := by omega
      have ib : inB ((n - 1 - p : Nat) : Int) FW.length := inB_n k7 (by decide)
      refine Iff.trans ?_ (ih (k + 1) p acc (by omega))
      rw [rkI_up]
      by_cases c : dg n (num n i) (p + 1 + k) < dg n (num n i) p
      · have n2 : (((dg n (num n i) (p + 1 + k) : Nat) : Int) < ((dg n (num n i) p : Nat) : Int)) = True := eq_true (by omega)
        have e3 : ((acc + rkI n (num n i) p k : Nat) : Int) + ((FC (n - 1 - p) : Nat) : Int) = ((acc + (rkI n (num n i) p k + FC (n - 1 - p)) : Nat) : Int) := by omega
        rw [if_pos c]
        rw [AWh_k, k_X11_rank_12]
        simp only [AW_k, AWk_1, x_iload_4, x_aload_0, x_aloads_0, x_getf, x_icmp_ge, x_iload_2, x_iload_1, x_callv_3, x_iload_3, x_push_i, x_push_l, x_isub, x_iald, x_ialds, x_goto, x_iadd, x_istore_2, x_iinc_4, unl_i, unl_l, unl_q, unl_r, unl_s, unl_n, k_X11_rank_12, k_X11_rank_13, k_X11_rank_14, k_X11_rank_15, k_X11_rank_16, k_X11_rank_17, k_X11_rank_18, k_X11_rank_19, k_X11_rank_20, k_X11_rank_21, k_X11_rank_22, k_X11_rank_23, k_X11_rank_24, k_X11_rank_25, k_X11_rank_26, k_X11_rank_27, k_X11_rank_28, k_X11_rank_29, k_X11_rank_30, k_X11_rank_31, k_X11_rank_32, k_X11_rank_33, k_X11_rank_34, k_X11_rank_35, k_X11_rank_36, k_X11_rank_37, k_X11_rank_38, k_X11_rank_39, k_X11_rank_40, oE_some, Int.reduceToNat, Nat.reduceAdd, true_and, and_true, List.length_cons, List.length_nil, Option.toList_some, Option.toList_none, List.cons_append, List.nil_append, Nat.reduceLeDiff, Nat.le_refl, wdS_nil, wdS_i, wdS_l, wdS_r, wdS_n, wdS_s, g1, cM h, w32_nat bq, w32_nat bn, n1, m_digit d h hp1 b, m_digit d h hq b, w32_nat (dg_31 n (num n i) p), w32_nat (dg_31 n (num n i) (p + 1 + k)), n2, g2, a2, e2, ib, w32_tn bk, FW_get k7, e3, e1, ↓reduceIte]
        all_goals exact Iff.rfl
      · have n2 : (((dg n (num n i) (p + 1 + k) : Nat) : Int) < ((dg n (num n i) p : Nat) : Int)) = False := eq_false (by omega)
        rw [if_neg c, Nat.add_zero]
        rw [AWh_k, k_X11_rank_12]
        simp only [AW_k, AWk_1, x_iload_4, x_aload_0, x_aloads_0, x_getf, x_icmp_ge, x_iload_2, x_iload_1, x_callv_3, x_iload_3, x_push_i, x_push_l, x_isub, x_iald, x_ialds, x_goto, x_iadd, x_istore_2, x_iinc_4, unl_i, unl_l, unl_q, unl_r, unl_s, unl_n, k_X11_rank_12, k_X11_rank_13, k_X11_rank_14, k_X11_rank_15, k_X11_rank_16, k_X11_rank_17, k_X11_rank_18, k_X11_rank_19, k_X11_rank_20, k_X11_rank_21, k_X11_rank_22, k_X11_rank_23, k_X11_rank_24, k_X11_rank_25, k_X11_rank_26, k_X11_rank_27, k_X11_rank_28, k_X11_rank_29, k_X11_rank_30, k_X11_rank_31, k_X11_rank_32, k_X11_rank_33, k_X11_rank_34, k_X11_rank_35, k_X11_rank_36, k_X11_rank_37, k_X11_rank_38, k_X11_rank_39, k_X11_rank_40, oE_some, Int.reduceToNat, Nat.reduceAdd, true_and, and_true, List.length_cons, List.length_nil, Option.toList_some, Option.toList_none, List.cons_append, List.nil_append, Nat.reduceLeDiff, Nat.le_refl, wdS_nil, wdS_i, wdS_l, wdS_r, wdS_n, wdS_s, g1, cM h, w32_nat bq, w32_nat bn, n1, m_digit d h hp1 b, m_digit d h hq b, w32_nat (dg_31 n (num n i) p), w32_nat (dg_31 n (num n i) (p + 1 + k)), n2, Int.add_zero, e1, ↓reduceIte]
        all_goals exact Iff.rfl
  have outer : ∀ (m p : Nat) (y4 : Option AV), p + m = n → (AWh (d + 1) [] 169 R 4 [some (mR 54), some (mI ((num n i : Nat) : Int)), some (mI ((rkO n (num n i) p : Nat) : Int)), some (mI (p : Int)), y4] [] hp (0, 0) ↔ R (some (mI (i : Int))) hp) := by
    intro m
    induction m with
    | zero =>
      intro p y4 hp1
      have e : p = n := by omega
      subst e
      rw [rk_ok h1 h6 hi]
      rw [AWh_k, k_X11_rank_4]
      simp only [AW_k, AWk_1, x_iload_3, x_aload_0, x_aloads_0, x_getf, x_icmp_ge, x_push_i, x_push_l, x_iadd, x_istore_4, x_iload_4, x_iload_2, x_iload_1, x_callv_3, x_isub, x_iald, x_ialds, x_goto, x_istore_2, x_iinc_4, x_iinc_3, x_ret, x_ret_i, x_ret_z, x_ret_l, x_ret_c, unl_i, unl_l, unl_q, unl_r, unl_s, unl_n, k_X11_rank_4, k_X11_rank_5, k_X11_rank_6, k_X11_rank_7, k_X11_rank_8, k_X11_rank_9, k_X11_rank_10, k_X11_rank_11, k_X11_rank_12, k_X11_rank_13, k_X11_rank_14, k_X11_rank_15, k_X11_rank_16, k_X11_rank_17, k_X11_rank_18, k_X11_rank_19, k_X11_rank_20, k_X11_rank_21, k_X11_rank_22, k_X11_rank_23, k_X11_rank_24, k_X11_rank_25, k_X11_rank_26, k_X11_rank_27, k_X11_rank_28, k_X11_rank_29, k_X11_rank_30, k_X11_rank_31, k_X11_rank_32, k_X11_rank_33, k_X11_rank_34, k_X11_rank_35, k_X11_rank_36, k_X11_rank_37, k_X11_rank_38, k_X11_rank_39, k_X11_rank_40, k_X11_rank_41, k_X11_rank_42, k_X11_rank_43, k_X11_rank_44, oE_some, Int.reduceToNat, Nat.reduceAdd, true_and, and_true, List.length_cons, List.length_nil, Option.toList_some, Option.toList_none, List.cons_append, List.nil_append, Nat.reduceLeDiff, Nat.le_refl, wdS_nil, wdS_i, wdS_l, wdS_r, wdS_n, wdS_s, g1]
      rw [if_neg (Int.lt_irrefl _)]
    | succ m ih =>
      intro p y4 hp1
      have bp : p < 2147483648 := by omega
      have n1 : ((p : Int) < (n : Int)) = True := eq_true (by omega)
      have e1 : (p : Int) + 1 = ((p + 1 : Nat) : Int) := by omega
      have hin := inner (n - 1 - p) 0 p (rkO n (num n i) p) (by omega)
      have hi2 := ih (p + 1) (some (mI (n : Int))) (by omega)
      rw [show rkI n (num n i) p 0 = 0 from rfl, Nat.add_zero, Nat.add_zero] at hin
      rw [AWh_k, k_X11_rank_4]
      simp only [AW_k, AWk_1, x_iload_3, x_aload_0, x_aloads_0, x_getf, x_icmp_ge, x_push_i, x_push_l, x_iadd, x_istore_4, x_iload_4, unl_i, unl_l, unl_q, unl_r, unl_s, unl_n, k_X11_rank_4, k_X11_rank_5, k_X11_rank_6, k_X11_rank_7, k_X11_rank_8, k_X11_rank_9, k_X11_rank_10, k_X11_rank_11, k_X11_rank_12, oE_some, Int.reduceToNat, Nat.reduceAdd, true_and, and_true, List.length_cons, List.length_nil, Option.toList_some, Option.toList_none, List.cons_append, List.nil_append, Nat.reduceLeDiff, Nat.le_refl, wdS_nil, wdS_i, wdS_l, wdS_r, wdS_n, wdS_s, g1, w32_nat bp, w32_nat bn, n1, e1, ↓reduceIte]
      refine hin.trans (Iff.trans ?_ hi2)
      rw [rkO_up]
      simp only [AW_k, AWk_1, x_iinc_3, x_goto, unl_i, unl_l, unl_q, unl_r, unl_s, unl_n, k_X11_rank_41, k_X11_rank_42, oE_some, Int.reduceToNat, Nat.reduceAdd, true_and, and_true, List.length_cons, List.length_nil, Option.toList_some, Option.toList_none, List.cons_append, List.nil_append, Nat.reduceLeDiff, Nat.le_refl, wdS_nil, wdS_i, wdS_l, wdS_r, wdS_n, wdS_s, e1]
      all_goals exact Iff.rfl
  rw [callD_k]; simp only [entL_i, entL_l, entL_q, entL_s, entL_nil, n_X11_rank, u_X11_rank, m_X11_rank, rep_3, List.cons_append, List.nil_append, List.append_nil, List.length_cons, List.length_nil, Nat.reduceAdd, true_and]
  simp only [AW_k, AWk_1, x_push_i, x_push_l, x_istore_2, x_istore_3, x_iload_3, unl_i, unl_l, unl_q, unl_r, unl_s, unl_n, k_X11_rank_0, k_X11_rank_1, k_X11_rank_2, k_X11_rank_3, k_X11_rank_4, oE_some, Int.reduceToNat, Nat.reduceAdd, true_and, and_true, List.length_cons, List.length_nil, Option.toList_some, Option.toList_none, List.cons_append, List.nil_append, Nat.reduceLeDiff, Nat.le_refl, wdS_nil, wdS_i, wdS_l, wdS_r, wdS_n, wdS_s]
  exact outer n 0 none (Nat.zero_add n)
