/-! ===== the class's rows are made: numbers ===== -/
/-- the numbers stand -/
def RW0 (hp : HP) (ra n : Nat) : Prop := (1 ≤ n ∧ n ≤ 6) ∧ gF hp ra 4 0 = some (mI (n : Int)) ∧ gF hp ra 4 1 = some (mI ((FC n : Nat) : Int)) ∧ gF hp ra 4 4 = some (mR (ra + 10)) ∧ gA hp (ra + 10) = some (tI (num n) (FC n))
set_option maxHeartbeats 4000000 in
theorem c4v_valueAt (d : Nat) {hp : HP} {ra n i p : Nat} (h : RW0 hp ra n) (hi : i < FC n) (hp1 : p < n) (R : PO) : callD (d + 1) 36 [mR ra, mI (i : Int), mI (p : Int)] hp R ↔ R (some (mI (dg n (num n i) p : Int))) hp := by
  have hx : (n : Int) - 1 - (p : Int) = ((n - 1 - p : Nat) : Int) := by omega
  have h6 := h.1.2
  rw [callD_k]; simp only [entL_i, entL_l, entL_q, entL_s, entL_nil, n_X4_valueAt, u_X4_valueAt, m_X4_valueAt, rep_0, List.cons_append, List.nil_append, List.append_nil, List.length_cons, List.length_nil, Nat.reduceAdd, true_and]
  simp only [AW_k, AWk_1, x_aload_0, x_aloads_0, x_getf, x_iload_1, x_iald, x_ialds, x_gets, x_push_i, x_push_l, x_isub, x_iload_2, x_idiv, x_irem, x_ret, x_ret_i, x_ret_z, x_ret_l, x_ret_c, k_X4_valueAt_0, k_X4_valueAt_1, k_X4_valueAt_2, k_X4_valueAt_3, k_X4_valueAt_4, k_X4_valueAt_5, k_X4_valueAt_6, k_X4_valueAt_7, k_X4_valueAt_8, k_X4_valueAt_9, k_X4_valueAt_10, k_X4_valueAt_11, k_X4_valueAt_12, k_X4_valueAt_13, k_X4_valueAt_14, k_X4_valueAt_15, oE_some, Int.reduceToNat, Nat.reduceAdd, true_and, and_true, List.length_cons, List.length_nil, Option.toList_some, Option.toList_none, List.cons_append, List.nil_append, Nat.reduceLeDiff, Nat.le_refl, wdS_nil, wdS_i, wdS_l, wdS_r, wdS_n, wdS_s, h.2.2.2.1, h.2.2.2.2, h.2.1, bI rfl hi (Nat.lt_of_le_of_lt (FC_le n) (by decide)), gI rfl hi (Nat.lt_of_le_of_lt (FC_le n) (by decide)), T_in hx (show n - 1 - p < 7 by omega), T_get hx (show n - 1 - p < 7 by omega), w_ne (ten_pos (n - 1 - p)) (ten_lt (show n - 1 - p < 7 by omega)), not_false_eq_true, w32_10, dg_int (p := p) h6 (num_31 (h.1.1) h6 hi)]
set_option maxHeartbeats 16000000 in
theorem c4v_find (d : Nat) {hp : HP} {ra n : Nat} {x : Int} (hR : RW0 hp ra n) (hx : w32 x = x) (R : PO) : callD (d + 1) 35 [mR ra, mI x] hp R ↔ R (some (mI (fnd n x))) hp := by
  have h1 := hR.1.1
  have h6 := hR.1.2
  have f1 := FC_le n
  have f0 := FC_pos h1 h6
  have key : ∀ (m f i : Nat) (y5 : Option AV), f + m ≤ FC n → (∀ j, j < f → ((num n j : Nat) : Int) < x) → (∀ j, f + m ≤ j → j < FC n → x < ((num n j : Nat) : Int)) → i + m ≤ FC n → (AWh d [] 35 R 9 [some (mR ra), some (mI x), some (mI (f : Int)), some (mI ((f : Int) + (m : Int) - 1)), some (mI (i : Int)), y5] [] hp (0, 0) ↔ R (some (mI (fnd n x))) hp) := by
    intro m
    induction m using Nat.strongRecOn with
    | _ m ih =>
      intro f i y5 hm hlo hhi him
      have bi : i < 2147483648 := by omega
      have bf : f < 2147483648 := by omega
      by_cases h0 : m = 0
      · subst h0
        have hno : fnd n x = -1 := fnd_no (fun j hj e => by
          by_cases hjf : j < f
          · have := hlo j hjf; omega
          · have := hhi j (by omega) hj; omega)
        have r1 : -2147483648 ≤ (f : Int) + ((0 : Nat) : Int) - 1 := by omega
        have r2 : (f : Int) + ((0 : Nat) : Int) - 1 < 2147483648 := by omega
        have cc : ¬ (f : Int) + ((0 : Nat) : Int) - 1 ≥ (f : Int) := by omega
        have cc2 : (f : Int) + ((0 : Nat) : Int) - 1 < (f : Int) := by omega
        rw [hno]
        rw [AWh_k, k_X4_find_9]
        simp only [AW_k, AWk_1, x_push_i, x_push_l, x_istore_2, x_aload_0, x_aloads_0, x_getf, x_isub, x_istore_3, x_istore_4, x_iload_4, x_icmp_ge, x_iload_2, x_iload_3, x_icmp_gt, x_iadd, x_idiv, x_istore_5, x_iload_5, x_iald, x_ialds, x_iload_1, x_icmp_ne, x_ret, x_ret_i, x_ret_z, x_ret_l, x_ret_c, x_goto, x_iinc_4, unl_i, unl_l, unl_q, unl_r, unl_s, unl_n, k_X4_find_0, k_X4_find_1, k_X4_find_2, k_X4_find_3, k_X4_find_4, k_X4_find_5, k_X4_find_6, k_X4_find_7, k_X4_find_8, k_X4_find_9, k_X4_find_10, k_X4_find_11, k_X4_find_12, k_X4_find_13, k_X4_find_14, k_X4_find_15, k_X4_find_16, k_X4_find_17, k_X4_find_18, k_X4_find_19, k_X4_find_20, k_X4_find_21, k_X4_find_22, k_X4_find_23, k_X4_find_24, k_X4_find_25, k_X4_find_26, k_X4_find_27, k_X4_find_28, k_X4_find_29, k_X4_find_30, k_X4_find_31, k_X4_find_32, k_X4_find_33, k_X4_find_34, k_X4_find_35, k_X4_find_36, k_X4_find_37, k_X4_find_38, k_X4_find_39, k_X4_find_40, k_X4_find_41, k_X4_find_42, k_X4_find_43, k_X4_find_44, k_X4_find_45, k_X4_find_46, k_X4_find_47, k_X4_find_48, oE_some, Int.reduceToNat, Nat.reduceAdd, true_and, and_true, List.length_cons, List.length_nil, Option.toList_some, Option.toList_none, List.cons_append, List.nil_append, Nat.reduceLeDiff, Nat.le_refl, wdS_nil, wdS_i, wdS_l, wdS_r, wdS_n, wdS_s, hR.2.2.1]
        rw [w32_nat bi, w32_nat (FC_31 n), w32_nat bf, w32_id r1 r2, if_pos cc2]
        by_cases ci : (i : Int) < ((FC n : Nat) : Int)
        · rw [if_pos ci]
        · rw [if_neg ci]
      · have r1 : -2147483648 ≤ (f : Int) + (m : Int) - 1 := by omega
        have r2 : (f : Int) + (m : Int) - 1 < 2147483648 := by omega
        have cc2 : ¬ (f : Int) + (m : Int) - 1 < (f : Int) := by omega
        have ci : (i : Int) < ((FC n : Nat) : Int) := by omega
        obtain ⟨g, hg⟩ : ∃ g : Nat, g = (f + (f + m - 1)) / 2 := ⟨_, rfl⟩
        have hg1 : f ≤ g ∧ g < f + m := by omega
        have bs1 : f + (f + m - 1) < 2147483648 := by omega
        have es : (f : Int) + ((f : Int) + (m : Int) - 1) = ((f + (f + m - 1) : Nat) : Int) := by omega
        have em : Int.tdiv (w32 ((f : Int) + ((f : Int) + (m : Int) - 1))) (w32 2) = (g : Int) := by
          rw [es, hg]; exact w_div (b := 2) bs1 (by decide)
        have hgF : g < FC n := by omega
        have bg := num_31 h1 h6 hgF
        have e1 : ((g + 1 : Nat) : Int) + ((f + m - (g + 1) : Nat) : Int) - 1 = (f : Int) + (m : Int) - 1 := by omega
        have e2 : (f : Int) + ((g - f : Nat) : Int) - 1 = (g : Int) - 1 := by omega
        have s1 := ih (f + m - (g + 1)) (by omega) (g + 1) (i + 1) (some (mI (g : Int))) (by omega)
        have s2 := ih (g - f) (by omega) f (i + 1) (some (mI (g : Int))) (by omega)
        rw [e1] at s1
        rw [e2] at s2
        rw [AWh_k, k_X4_find_9]
        simp only [AW_k, AWk_1, x_push_i, x_push_l, x_istore_2, x_aload_0, x_aloads_0, x_getf, x_isub, x_istore_3, x_istore_4, x_iload_4, x_icmp_ge, x_iload_2, x_iload_3, x_icmp_gt, x_iadd, x_idiv, x_istore_5, x_iload_5, x_iald, x_ialds, x_iload_1, x_icmp_ne, x_ret, x_ret_i, x_ret_z, x_ret_l, x_ret_c, x_goto, x_iinc_4, unl_i, unl_l, unl_q, unl_r, unl_s, unl_n, k_X4_find_0, k_X4_find_1, k_X4_find_2, k_X4_find_3, k_X4_find_4, k_X4_find_5, k_X4_find_6, k_X4_find_7, k_X4_find_8, k_X4_find_9, k_X4_find_10, k_X4_find_11, k_X4_find_12, k_X4_find_13, k_X4_find_14, k_X4_find_15, k_X4_find_16, k_X4_find_17, k_X4_find_18, k_X4_find_19, k_X4_find_20, k_X4_find_21, k_X4_find_22, k_X4_find_23, k_X4_find_24, k_X4_find_25, k_X4_find_26, k_X4_find_27, k_X4_find_28, k_X4_find_29, k_X4_find_30, k_X4_find_31, k_X4_find_32, k_X4_find_33, k_X4_find_34, k_X4_find_35, k_X4_find_36, k_X4_find_37, k_X4_find_38, k_X4_find_39, k_X4_find_40, k_X4_find_41, k_X4_find_42, k_X4_find_43, k_X4_find_44, k_X4_find_45, k_X4_find_46, k_X4_find_47, k_X4_find_48, oE_some, Int.reduceToNat, Nat.reduceAdd, true_and, and_true, List.length_cons, List.length_nil, Option.toList_some, Option.toList_none, List.cons_append, List.nil_append, Nat.reduceLeDiff, Nat.le_refl, wdS_nil, wdS_i, wdS_l, wdS_r, wdS_n, wdS_s, hR.2.2.1, em, hR.2.2.2.1, hR.2.2.2.2, bI rfl hgF (FC_31 n), gI rfl hgF (FC_31 n), show ¬ w32 2 = 0 by decide, not_false_eq_true]
        rw [w32_nat bi, w32_nat (FC_31 n), w32_nat bf, w32_id r1 r2, if_neg cc2, if_pos ci, w32_nat bg, hx]
        by_cases q1 : ((num n g : Nat) : Int) = x
        · rw [if_pos q1, ← q1, fnd_num h1 h6 hgF]
        · rw [if_neg q1]
          by_cases q2 : ((num n g : Nat) : Int) < x
          · rw [if_pos q2]
            refine s1 (fun j hj => ?_) (fun j hj1 hj2 => hhi j (by omega) hj2) (by omega)
            by_cases e : j = g
            · rw [e]; exact q2
            · have := num_lt h1 h6 hgF (show j < g by omega); omega
          · rw [if_neg q2]
            refine s2 hlo (fun j hj1 hj2 => ?_) (by omega)
            by_cases e : j = g
            · rw [e]; omega
            · have := num_lt h1 h6 hj2 (show g < j by omega); omega
  have k0 := key (FC n) 0 0 none (by omega) (fun j hj => by omega) (fun j h1 h2 => by omega) (by omega)
  rw [show ((0 : Nat) : Int) + ((FC n : Nat) : Int) - 1 = ((FC n : Nat) : Int) - 1 by omega] at k0
  rw [callD_k]; simp only [entL_i, entL_l, entL_q, entL_s, entL_nil, n_X4_find, u_X4_find, m_X4_find, rep_4, List.cons_append, List.nil_append, List.append_nil, List.length_cons, List.length_nil, Nat.reduceAdd, true_and]
  simp only [AW_k, AWk_1, x_push_i, x_push_l, x_istore_2, x_aload_0, x_aloads_0, x_getf, x_isub, x_istore_3, x_istore_4, x_iload_4, x_icmp_ge, x_iload_2, x_iload_3, x_icmp_gt, x_iadd, x_idiv, x_istore_5, x_iload_5, x_iald, x_ialds, x_iload_1, x_icmp_ne, x_ret, x_ret_i, x_ret_z, x_ret_l, x_ret_c, x_goto, x_iinc_4, unl_i, unl_l, unl_q, unl_r, unl_s, unl_n, k_X4_find_0, k_X4_find_1, k_X4_find_2, k_X4_find_3, k_X4_find_4, k_X4_find_5, k_X4_find_6, k_X4_find_7, k_X4_find_8, k_X4_find_9, k_X4_find_10, k_X4_find_11, k_X4_find_12, k_X4_find_13, k_X4_find_14, k_X4_find_15, k_X4_find_16, k_X4_find_17, k_X4_find_18, k_X4_find_19, k_X4_find_20, k_X4_find_21, k_X4_find_22, k_X4_find_23, k_X4_find_24, k_X4_find_25, k_X4_find_26, k_X4_find_27, k_X4_find_28, k_X4_find_29, k_X4_find_30, k_X4_find_31, k_X4_find_32, k_X4_find_33, k_X4_find_34, k_X4_find_35, k_X4_find_36, k_X4_find_37, k_X4_find_38, k_X4_find_39, k_X4_find_40, k_X4_find_41, k_X4_find_42, k_X4_find_43, k_X4_find_44, k_X4_find_45, k_X4_find_46, k_X4_find_47, k_X4_find_48, oE_some, Int.reduceToNat, Nat.reduceAdd, true_and, and_true, List.length_cons, List.length_nil, Option.toList_some, Option.toList_none, List.cons_append, List.nil_append, Nat.reduceLeDiff, Nat.le_refl, wdS_nil, wdS_i, wdS_l, wdS_r, wdS_n, wdS_s, hR.2.2.1]
  exact k0
/-- the number that is free behind so many -/
def fvF (n u : Nat) : Nat → Nat → Nat → Nat
  | 0, _, _ => n
  | k + 1, v, s => if tst u v = false then (if s = 0 then v else fvF n u k (v + 1) (s - 1)) else fvF n u k (v + 1) s
set_option maxHeartbeats 16000000 in
theorem c4_freeValue (d : Nat) {hp : HP} {ra n u s : Nat} (h6 : n ≤ 6) (h : gF hp ra 4 0 = some (mI (n : Int))) (hu : u < 2147483648) (hs : s < 2147483648) (R : PO) : callD (d + 1) 31 [mR ra, mI (u : Int), mI (s : Int)] hp R ↔ R (some (mI (fvF n u n 1 s : Int))) hp := by
  have key : ∀ (k v t : Nat), v + k = n + 1 → t < 2147483648 → (AWh d [] 31 R 4 [some (mR ra), some (mI (u : Int)), some (mI (s : Int)), some (mI (t : Int)), some (mI (v : Int))] [] hp (0, 0) ↔ R (some (mI (fvF n u k v t : Int))) hp) := by
    intro k
    induction k with
    | zero =>
      intro v t hv ht
      have bv : v < 2147483648 := by omega
      have bn : n < 2147483648 := by omega
      have cv : (n : Int) < (v : Int) := by omega
      rw [AWh_k, k_X4_freeValue_4]
      simp only [AW_k, AWk_1, x_iload_2, x_istore_3, x_push_i, x_push_l, x_istore_4, x_iload_4, x_aload_0, x_aloads_0, x_getf, x_icmp_gt, x_iload_1, x_ishr, x_iand, x_if_ne, x_iload_3, x_ret, x_ret_i, x_ret_z, x_ret_l, x_ret_c, x_iinc_3, x_iinc_4, x_goto, unl_i, unl_l, unl_q, unl_r, unl_s, unl_n, k_X4_freeValue_0, k_X4_freeValue_1, k_X4_freeValue_2, k_X4_freeValue_3, k_X4_freeValue_4, k_X4_freeValue_5, k_X4_freeValue_6, k_X4_freeValue_7, k_X4_freeValue_8, k_X4_freeValue_9, k_X4_freeValue_10, k_X4_freeValue_11, k_X4_freeValue_12, k_X4_freeValue_13, k_X4_freeValue_14, k_X4_freeValue_15, k_X4_freeValue_16, k_X4_freeValue_17, k_X4_freeValue_18, k_X4_freeValue_19, k_X4_freeValue_20, k_X4_freeValue_21, k_X4_freeValue_22, k_X4_freeValue_23, oE_some, Int.reduceToNat, Nat.reduceAdd, true_and, and_true, List.length_cons, List.length_nil, Option.toList_some, Option.toList_none, List.cons_append, List.nil_append, Nat.reduceLeDiff, Nat.le_refl, wdS_nil, wdS_i, wdS_l, wdS_r, wdS_n, wdS_s, h]
      rw [w32_nat bv, w32_nat bn, if_pos cv]
      exact Iff.rfl
    | succ k ih =>
      intro v t hv ht
      have bv : v < 2147483648 := by omega
      have v32 : v < 32 := by omega
      have bn : n < 2147483648 := by omega
      have cv : ¬ (n : Int) < (v : Int) := by omega
      have eu : fvF n u (k + 1) v t = if tst u v = false then (if t = 0 then v else fvF n u k (v + 1) (t - 1)) else fvF n u k (v + 1) t := rfl
      rw [eu]
      cases hb : tst u v
      · rw [if_pos rfl]
        by_cases h0 : t = 0
        · subst h0
          rw [if_pos rfl]
          rw [AWh_k, k_X4_freeValue_4]
          simp only [AW_k, AWk_1, x_iload_2, x_istore_3, x_push_i, x_push_l, x_istore_4, x_iload_4, x_aload_0, x_aloads_0, x_getf, x_icmp_gt, x_iload_1, x_ishr, x_iand, x_if_ne, x_iload_3, x_ret, x_ret_i, x_ret_z, x_ret_l, x_ret_c, x_iinc_3, x_iinc_4, x_goto, unl_i, unl_l, unl_q, unl_r, unl_s, unl_n, k_X4_freeValue_0, k_X4_freeValue_1, k_X4_freeValue_2, k_X4_freeValue_3, k_X4_freeValue_4, k_X4_freeValue_5, k_X4_freeValue_6, k_X4_freeValue_7, k_X4_freeValue_8, k_X4_freeValue_9, k_X4_freeValue_10, k_X4_freeValue_11, k_X4_freeValue_12, k_X4_freeValue_13, k_X4_freeValue_14, k_X4_freeValue_15, k_X4_freeValue_16, k_X4_freeValue_17, k_X4_freeValue_18, k_X4_freeValue_19, k_X4_freeValue_20, k_X4_freeValue_21, k_X4_freeValue_22, k_X4_freeValue_23, oE_some, Int.reduceToNat, Nat.reduceAdd, true_and, and_true, List.length_cons, List.length_nil, Option.toList_some, Option.toList_none, List.cons_append, List.nil_append, Nat.reduceLeDiff, Nat.le_refl, wdS_nil, wdS_i, wdS_l, wdS_r, wdS_n, wdS_s, h, iBit hu v32, hb, if_true, show w32 ((0 : Nat) : Int) = 0 from rfl]
          rw [w32_nat bv, w32_nat bn, if_neg cv]
        · rw [if_neg h0]
          have i1 := ih (v + 1) (t - 1) (by omega) (by omega)
          have et : (t : Int) + -1 = ((t - 1 : Nat) : Int) := by omega
          have nt : ¬ (t : Int) = 0 := by omega
          rw [AWh_k, k_X4_freeValue_4]
          simp only [AW_k, AWk_1, x_iload_2, x_istore_3, x_push_i, x_push_l, x_istore_4, x_iload_4, x_aload_0, x_aloads_0, x_getf, x_icmp_gt, x_iload_1, x_ishr, x_iand, x_if_ne, x_iload_3, x_ret, x_ret_i, x_ret_z, x_ret_l, x_ret_c, x_iinc_3, x_iinc_4, x_goto, unl_i, unl_l, unl_q, unl_r, unl_s, unl_n, k_X4_freeValue_0, k_X4_freeValue_1, k_X4_freeValue_2, k_X4_freeValue_3, k_X4_freeValue_4, k_X4_freeValue_5, k_X4_freeValue_6, k_X4_freeValue_7, k_X4_freeValue_8, k_X4_freeValue_9, k_X4_freeValue_10, k_X4_freeValue_11, k_X4_freeValue_12, k_X4_freeValue_13, k_X4_freeValue_14, k_X4_freeValue_15, k_X4_freeValue_16, k_X4_freeValue_17, k_X4_freeValue_18, k_X4_freeValue_19, k_X4_freeValue_20, k_X4_freeValue_21, k_X4_freeValue_22, k_X4_freeValue_23, oE_some, Int.reduceToNat, Nat.reduceAdd, true_and, and_true, List.length_cons, List.length_nil, Option.toList_some, Option.toList_none, List.cons_append, List.nil_append, Nat.reduceLeDiff, Nat.le_refl, wdS_nil, wdS_i, wdS_l, wdS_r, wdS_n, wdS_s, h, iBit hu v32, hb, if_true, et]
          rw [w32_nat bv, w32_nat bn, if_neg cv, w32_nat ht, if_neg nt]
          exact i1
      · rw [if_neg (by decide)]
        have i1 := ih (v + 1) t (by omega) ht
        rw [AWh_k, k_X4_freeValue_4]
        simp only [AW_k, AWk_1, x_iload_2, x_istore_3, x_push_i, x_push_l, x_istore_4, x_iload_4, x_aload_0, x_aloads_0, x_getf, x_icmp_gt, x_iload_1, x_ishr, x_iand, x_if_ne, x_iload_3, x_ret, x_ret_i, x_ret_z, x_ret_l, x_ret_c, x_iinc_3, x_iinc_4, x_goto, unl_i, unl_l, unl_q, unl_r, unl_s, unl_n, k_X4_freeValue_0, k_X4_freeValue_1, k_X4_freeValue_2, k_X4_freeValue_3, k_X4_freeValue_4, k_X4_freeValue_5, k_X4_freeValue_6, k_X4_freeValue_7, k_X4_freeValue_8, k_X4_freeValue_9, k_X4_freeValue_10, k_X4_freeValue_11, k_X4_freeValue_12, k_X4_freeValue_13, k_X4_freeValue_14, k_X4_freeValue_15, k_X4_freeValue_16, k_X4_freeValue_17, k_X4_freeValue_18, k_X4_freeValue_19, k_X4_freeValue_20, k_X4_freeValue_21, k_X4_freeValue_22, k_X4_freeValue_23, oE_some, Int.reduceToNat, Nat.reduceAdd, true_and, and_true, List.length_cons, List.length_nil, Option.toList_some, Option.toList_none, List.cons_append, List.nil_append, Nat.reduceLeDiff, Nat.le_refl, wdS_nil, wdS_i, wdS_l, wdS_r, wdS_n, wdS_s, h, iBit hu v32, hb, Bool.true_eq_false, if_false]
        rw [w32_nat bv, w32_nat bn, if_neg cv]
        exact i1
  rw [callD_k]; simp only [entL_i, entL_l, entL_q, entL_s, entL_nil, n_X4_freeValue, u_X4_freeValue, m_X4_freeValue, rep_2, List.cons_append, List.nil_append, List.append_nil, List.length_cons, List.length_nil, Nat.reduceAdd, true_and]
  simp only [AW_k, AWk_1, x_iload_2, x_istore_3, x_push_i, x_push_l, x_istore_4, x_iload_4, x_aload_0, x_aloads_0, x_getf, x_icmp_gt, x_iload_1, x_ishr, x_iand, x_if_ne, x_iload_3, x_ret, x_ret_i, x_ret_z, x_ret_l, x_ret_c, x_iinc_3, x_iinc_4, x_goto, unl_i, unl_l, unl_q, unl_r, unl_s, unl_n, k_X4_freeValue_0, k_X4_freeValue_1, k_X4_freeValue_2, k_X4_freeValue_3, k_X4_freeValue_4, k_X4_freeValue_5, k_X4_freeValue_6, k_X4_freeValue_7, k_X4_freeValue_8, k_X4_freeValue_9, k_X4_freeValue_10, k_X4_freeValue_11, k_X4_freeValue_12, k_X4_freeValue_13, k_X4_freeValue_14, k_X4_freeValue_15, k_X4_freeValue_16, k_X4_freeValue_17, k_X4_freeValue_18, k_X4_freeValue_19, k_X4_freeValue_20, k_X4_freeValue_21, k_X4_freeValue_22, k_X4_freeValue_23, oE_some, Int.reduceToNat, Nat.reduceAdd, true_and, and_true, List.length_cons, List.length_nil, Option.toList_some, Option.toList_none, List.cons_append, List.nil_append, Nat.reduceLeDiff, Nat.le_refl, wdS_nil, wdS_i, wdS_l, wdS_r, wdS_n, wdS_s]
  exact key n 1 s (by omega) hs
/-- rest, used, number behind p places -/
def naS (n i : Nat) : Nat → Nat × Nat × Nat
  | 0 => (i, 0, 0)
  | p + 1 => ((naS n i p).1 % FC (n - 1 - p), (naS n i p).2.1 ||| 2 ^ fvF n (naS n i p).2.1 n 1 ((naS n i p).1 / FC (n - 1 - p)), (naS n i p).2.2 * 10 + fvF n (naS n i p).2.1 n 1 ((naS n i p).1 / FC (n - 1 - p)))
def na_bd (n : Nat) : Bool := allB (fun i => (naS n i n).2.2 == num n i && allB (fun p => Nat.ble (naS n i p).1 719 && (Nat.ble (naS n i p).2.1 127 && Nat.ble (fvF n (naS n i p).2.1 n 1 ((naS n i p).1 / FC (n - 1 - p))) 6)) n) (FC n)
theorem na_bdc : all6 na_bd = true := by decide +kernel
theorem na_ok {n i : Nat} (h1 : 1 ≤ n) (h6 : n ≤ 6) (hi : i < FC n) : (naS n i n).2.2 = num n i ∧ ∀ p, p < n → (naS n i p).1 ≤ 719 ∧ (naS n i p).2.1 ≤ 127 ∧ fvF n (naS n i p).2.1 n 1 ((naS n i p).1 / FC (n - 1 - p)) ≤ 6 := by
  have := allB_of (all6_of na_bdc h1 h6) i hi
  rw [Bool.and_eq_true, beq_iff_eq] at this
  refine ⟨this.1, fun p hp => ?_⟩
  have q := allB_of this.2 p hp
  simp only [Bool.and_eq_true, Nat.ble_eq] at q
  exact q
theorem FC_pos2 : ∀ k, k < 7 → 0 < FC k := by decide
set_option maxHeartbeats 16000000 in
theorem c4_numberAt (d : Nat) {hp : HP} {ra n i : Nat} (h1 : 1 ≤ n) (h6 : n ≤ 6) (h : gF hp ra 4 0 = some (mI (n : Int))) (hi : i < FC n) (R : PO) : callD (d + 2) 30 [mR ra, mI (i : Int)] hp R ↔ R (some (mI (num n i : Int))) hp := by
  obtain ⟨k1, k2⟩ := na_ok h1 h6 hi
  have key : ∀ (m p : Nat) (y6 y7 : Option AV), p + m = n → (AWh (d + 1) [] 30 R 8 [some (mR ra), some (mI (i : Int)), some (mI ((naS n i p).1 : Int)), some (mI ((naS n i p).2.1 : Int)), some (mI ((naS n i p).2.2 : Int)), some (mI (p : Int)), y6, y7] [] hp (0, 0) ↔ R (some (mI (num n i : Int))) hp) := by
    intro m
    induction m with
    | zero =>
      intro p y6 y7 hp1
      have e : p = n := by omega
      subst e
      rw [AWh_k, k_X4_numberAt_8]
      simp only [AW_k, AWk_1, x_iload_1, x_istore_2, x_push_i, x_push_l, x_istore_3, x_istore_4, x_istore_5, x_iload_5, x_aload_0, x_aloads_0, x_getf, x_icmp_ge, x_gets, x_isub, x_iald, x_ialds, x_istore_6, x_iload_3, x_iload_2, x_iload_6, x_idiv, x_callv_3, x_istore_7, x_irem, x_iload_7, x_ishl, x_ior, x_iload_4, x_imul, x_iadd, x_iinc_5, x_goto, x_ret, x_ret_i, x_ret_z, x_ret_l, x_ret_c, unl_i, unl_l, unl_q, unl_r, unl_s, unl_n, k_X4_numberAt_0, k_X4_numberAt_1, k_X4_numberAt_2, k_X4_numberAt_3, k_X4_numberAt_4, k_X4_numberAt_5, k_X4_numberAt_6, k_X4_numberAt_7, k_X4_numberAt_8, k_X4_numberAt_9, k_X4_numberAt_10, k_X4_numberAt_11, k_X4_numberAt_12, k_X4_numberAt_13, k_X4_numberAt_14, k_X4_numberAt_15, k_X4_numberAt_16, k_X4_numberAt_17, k_X4_numberAt_18, k_X4_numberAt_19, k_X4_numberAt_20, k_X4_numberAt_21, k_X4_numberAt_22, k_X4_numberAt_23, k_X4_numberAt_24, k_X4_numberAt_25, k_X4_numberAt_26, k_X4_numberAt_27, k_X4_numberAt_28, k_X4_numberAt_29, k_X4_numberAt_30, k_X4_numberAt_31, k_X4_numberAt_32, k_X4_numberAt_33, k_X4_numberAt_34, k_X4_numberAt_35, k_X4_numberAt_36, k_X4_numberAt_37, k_X4_numberAt_38, k_X4_numberAt_39, k_X4_numberAt_40, k_X4_numberAt_41, k_X4_numberAt_42, k_X4_numberAt_43, k_X4_numberAt_44, k_X4_numberAt_45, k_X4_numberAt_46, k_X4_numberAt_47, oE_some, Int.reduceToNat, Nat.reduceAdd, true_and, and_true, List.length_cons, List.length_nil, Option.toList_some, Option.toList_none, List.cons_append, List.nil_append, Nat.reduceLeDiff, Nat.le_refl, wdS_nil, wdS_i, wdS_l, wdS_r, wdS_n, wdS_s, h]
      rw [if_neg (Int.lt_irrefl _), k1]
    | succ m ih =>
      intro p y6 y7 hp1
      have hpn : p < n := by omega
      obtain ⟨q1, q2, q3⟩ := k2 p hpn
      have bp : p < 2147483648 := by omega
      have bn : n < 2147483648 := by omega
      have cp : (p : Int) < (n : Int) := by omega
      have ex : (n : Int) - 1 - (p : Int) = ((n - 1 - p : Nat) : Int) := by omega
      have l7 : n - 1 - p < 7 := by omega
      have fp := FC_pos2 (n - 1 - p) l7
      have fb := FC_31 (n - 1 - p)
      have i1 := ih (p + 1) (some (mI ((FC (n - 1 - p) : Nat) : Int))) (some (mI (fvF n (naS n i p).2.1 n 1 ((naS n i p).1 / FC (n - 1 - p)) : Int))) (by omega)
      have es : naS n i (p + 1) = ((naS n i p).1 % FC (n - 1 - p), (naS n i p).2.1 ||| 2 ^ fvF n (naS n i p).2.1 n 1 ((naS n i p).1 / FC (n - 1 - p)), (naS n i p).2.2 * 10 + fvF n (naS n i p).2.1 n 1 ((naS n i p).1 / FC (n - 1 - p))) := rfl
      rw [es] at i1
      obtain ⟨F, hF⟩ : ∃ F, FC (n - 1 - p) = F := ⟨_, rfl⟩
      rw [hF] at fp fb q3 i1
      generalize (naS n i p).1 = r at q1 q3 i1 ⊢
      generalize (naS n i p).2.1 = u at q2 q3 i1 ⊢
      generalize (naS n i p).2.2 = x at i1 ⊢
      have br : r < 2147483648 := by omega
      have bu : u < 2147483648 := by omega
      have bd : r / F < 2147483648 := Nat.lt_of_le_of_lt (Nat.div_le_self _ _) br
      have cfv := fun R => c4_freeValue d (s := r / F) (hp := hp) (ra := ra) h6 h bu bd R
      generalize fvF n u n 1 (r / F) = v at q3 i1 cfv ⊢
      have v31 : v < 31 := by omega
      have p2 : 2 ^ v < 2147483648 := pow31 v31
      have enum_ : (x : Int) * 10 + (v : Int) = ((x * 10 + v : Nat) : Int) := rfl
      have eor : iOr (u : Int) (iShl 1 (v : Int)) = ((u ||| 2 ^ v : Nat) : Int) := by rw [iShl_1 v31, iOr_nat bu p2]
      have ed := w_div br fb
      have em := w_mod br fb
      have nF := w_ne fp fb
      have gi := F_in (x := ((n - 1 - p : Nat) : Int)) rfl l7
      have gf := F_get (x := ((n - 1 - p : Nat) : Int)) rfl l7
      rw [hF] at gf
      rw [AWh_k, k_X4_numberAt_8]
      simp only [AW_k, AWk_1, x_iload_1, x_istore_2, x_push_i, x_push_l, x_istore_3, x_istore_4, x_istore_5, x_iload_5, x_aload_0, x_aloads_0, x_getf, x_icmp_ge, x_gets, x_isub, x_iald, x_ialds, x_istore_6, x_iload_3, x_iload_2, x_iload_6, x_idiv, x_callv_3, x_istore_7, x_irem, x_iload_7, x_ishl, x_ior, x_iload_4, x_imul, x_iadd, x_iinc_5, x_goto, x_ret, x_ret_i, x_ret_z, x_ret_l, x_ret_c, unl_i, unl_l, unl_q, unl_r, unl_s, unl_n, k_X4_numberAt_0, k_X4_numberAt_1, k_X4_numberAt_2, k_X4_numberAt_3, k_X4_numberAt_4, k_X4_numberAt_5, k_X4_numberAt_6, k_X4_numberAt_7, k_X4_numberAt_8, k_X4_numberAt_9, k_X4_numberAt_10, k_X4_numberAt_11, k_X4_numberAt_12, k_X4_numberAt_13, k_X4_numberAt_14, k_X4_numberAt_15, k_X4_numberAt_16, k_X4_numberAt_17, k_X4_numberAt_18, k_X4_numberAt_19, k_X4_numberAt_20, k_X4_numberAt_21, k_X4_numberAt_22, k_X4_numberAt_23, k_X4_numberAt_24, k_X4_numberAt_25, k_X4_numberAt_26, k_X4_numberAt_27, k_X4_numberAt_28, k_X4_numberAt_29, k_X4_numberAt_30, k_X4_numberAt_31, k_X4_numberAt_32, k_X4_numberAt_33, k_X4_numberAt_34, k_X4_numberAt_35, k_X4_numberAt_36, k_X4_numberAt_37, k_X4_numberAt_38, k_X4_numberAt_39, k_X4_numberAt_40, k_X4_numberAt_41, k_X4_numberAt_42, k_X4_numberAt_43, k_X4_numberAt_44, k_X4_numberAt_45, k_X4_numberAt_46, k_X4_numberAt_47, oE_some, Int.reduceToNat, Nat.reduceAdd, true_and, and_true, List.length_cons, List.length_nil, Option.toList_some, Option.toList_none, List.cons_append, List.nil_append, Nat.reduceLeDiff, Nat.le_refl, wdS_nil, wdS_i, wdS_l, wdS_r, wdS_n, wdS_s, h, gC_of h, ex, gi, gf, nF, not_false_eq_true, ed, em, cfv, eor, enum_]
      rw [w32_nat bp, w32_nat bn, if_pos cp]
      exact i1
  have k0 := key n 0 none none (by omega)
  rw [callD_k]; simp only [entL_i, entL_l, entL_q, entL_s, entL_nil, n_X4_numberAt, u_X4_numberAt, m_X4_numberAt, rep_6, List.cons_append, List.nil_append, List.append_nil, List.length_cons, List.length_nil, Nat.reduceAdd, true_and]
  simp only [AW_k, AWk_1, x_iload_1, x_istore_2, x_push_i, x_push_l, x_istore_3, x_istore_4, x_istore_5, x_iload_5, x_aload_0, x_aloads_0, x_getf, x_icmp_ge, x_gets, x_isub, x_iald, x_ialds, x_istore_6, x_iload_3, x_iload_2, x_iload_6, x_idiv, x_callv_3, x_istore_7, x_irem, x_iload_7, x_ishl, x_ior, x_iload_4, x_imul, x_iadd, x_iinc_5, x_goto, x_ret, x_ret_i, x_ret_z, x_ret_l, x_ret_c, unl_i, unl_l, unl_q, unl_r, unl_s, unl_n, k_X4_numberAt_0, k_X4_numberAt_1, k_X4_numberAt_2, k_X4_numberAt_3, k_X4_numberAt_4, k_X4_numberAt_5, k_X4_numberAt_6, k_X4_numberAt_7, k_X4_numberAt_8, k_X4_numberAt_9, k_X4_numberAt_10, k_X4_numberAt_11, k_X4_numberAt_12, k_X4_numberAt_13, k_X4_numberAt_14, k_X4_numberAt_15, k_X4_numberAt_16, k_X4_numberAt_17, k_X4_numberAt_18, k_X4_numberAt_19, k_X4_numberAt_20, k_X4_numberAt_21, k_X4_numberAt_22, k_X4_numberAt_23, k_X4_numberAt_24, k_X4_numberAt_25, k_X4_numberAt_26, k_X4_numberAt_27, k_X4_numberAt_28, k_X4_numberAt_29, k_X4_numberAt_30, k_X4_numberAt_31, k_X4_numberAt_32, k_X4_numberAt_33, k_X4_numberAt_34, k_X4_numberAt_35, k_X4_numberAt_36, k_X4_numberAt_37, k_X4_numberAt_38, k_X4_numberAt_39, k_X4_numberAt_40, k_X4_numberAt_41, k_X4_numberAt_42, k_X4_numberAt_43, k_X4_numberAt_44, k_X4_numberAt_45, k_X4_numberAt_46, k_X4_numberAt_47, oE_some, Int.reduceToNat, Nat.reduceAdd, true_and, and_true, List.length_cons, List.length_nil, Option.toList_some, Option.toList_none, List.cons_append, List.nil_append, Nat.reduceLeDiff, Nat.le_refl, wdS_nil, wdS_i, wdS_l, wdS_r, wdS_n, wdS_s]
  exact k0
