/-! ===== which row a number tells; the small holders ===== -/
def fnd (n : Nat) (x : Int) : Int := oI (fst (fun j => decide (((num n j : Nat) : Int) = x)) (FC n) 0)
theorem fnd_num {n j : Nat} (h1 : 1 ≤ n) (h6 : n ≤ 6) (hj : j < FC n) : fnd n ((num n j : Nat) : Int) = (j : Int) := by
  unfold fnd
  rw [fst_some_of (p := j) (Nat.zero_le _) (by omega) (decide_eq_true rfl) (fun q _ hq => by
    rw [decide_eq_false_iff_not]
    intro e
    have := num_inj h1 h6 (show q < FC n by omega) hj (by omega)
    omega)]
  rfl
theorem fnd_no {n : Nat} {x : Int} (h : ∀ j, j < FC n → ((num n j : Nat) : Int) ≠ x) : fnd n x = -1 := by
  unfold fnd
  rw [fst_none_of (fun q _ hq => decide_eq_false (h q (by omega)))]
  rfl
theorem fnd_cases (n : Nat) (x : Int) : (∃ j, j < FC n ∧ x = ((num n j : Nat) : Int)) ∨ (∀ j, j < FC n → ((num n j : Nat) : Int) ≠ x) := by
  cases e : fst (fun j => decide (((num n j : Nat) : Int) = x)) (FC n) 0 with
  | some j => exact Or.inl ⟨j, by have := (fst_some e).2.1; omega, by have := (fst_some e).2.2; exact (of_decide_eq_true this).symm⟩
  | none => exact Or.inr (fun j hj => of_decide_eq_false (fst_none e j (Nat.zero_le _) (by omega)))
set_option maxHeartbeats 16000000 in
theorem c4_find (d : Nat) {hp : HP} {ra n : Nat} {x : Int} (hR : RWS hp ra n) (hx : w32 x = x) (R : PO) : callD (d + 1) 35 [mR ra, mI x] hp R ↔ R (some (mI (fnd n x))) hp := by
  have h1 := rw_1 hR
  have h6 := rw_6 hR
  have f1 := FC_le n
  have f0 := FC_pos h1 h6
  have key : ∀ (m f i : Nat) (y5 : Option AV), f + m ≤ FC n → (∀ j, j < f → ((num n j : Nat) : Int) < x) → (∀ j, f + m ≤ j → j < FC n → x < ((num n j : Nat) : Int)) → i + m ≤ FC n → (AWh d [] 35 R 9 [some (mR ra), some (mI x), some (mI (f : Int)), some (mI ((f : Int) + (m : Int) - 1)), some (mI (i : Int)), y5] [] hp (0, 0) ↔ R (some (mI (fnd n x))) hp) := by
    intro m
    induction m using Nat.strongRecOn with
    | _ m ih =>
      intro f i y5 hm hlo hhi him
      have bi : i < 2147483648 := by omega
      have bf : f < 2147483648 := by omega
      by_cases h0 : m = 0
      · subst h0
        have hno : fnd n x = -1 := fnd_no (fun j hj e => by
          by_cases hjf : j < f
          · have := hlo j hjf; omega
          · have := hhi j (by omega) hj; omega)
        have r1 : -2147483648 ≤ (f : Int) + ((0 : Nat) : Int) - 1 := by omega
        have r2 : (f : Int) + ((0 : Nat) : Int) - 1 < 2147483648 := by omega
        have cc : ¬ (f : Int) + ((0 : Nat) : Int) - 1 ≥ (f : Int) := by omega
        have cc2 : (f : Int) + ((0 : Nat) : Int) - 1 < (f : Int) := by omega
        rw [hno]
        rw [AWh_k, k_X4_find_9]
        simp only [AW_k, AWk_1, x_push_i, x_push_l, x_istore_2, x_aload_0, x_aloads_0, x_getf, x_isub, x_istore_3, x_istore_4, x_iload_4, x_icmp_ge, x_iload_2, x_iload_3, x_icmp_gt, x_iadd, x_idiv, x_istore_5, x_iload_5, x_iald, x_ialds, x_iload_1, x_icmp_ne, x_ret, x_ret_i, x_ret_z, x_ret_l, x_ret_c, x_goto, x_iinc_4, unl_i, unl_l, unl_q, unl_r, unl_s, unl_n, k_X4_find_0, k_X4_find_1, k_X4_find_2, k_X4_find_3, k_X4_find_4, k_X4_find_5, k_X4_find_6, k_X4_find_7, k_X4_find_8, k_X4_find_9, k_X4_find_10, k_X4_find_11, k_X4_find_12, k_X4_find_13, k_X4_find_14, k_X4_find_15, k_X4_find_16, k_X4_find_17, k_X4_find_18, k_X4_find_19, k_X4_find_20, k_X4_find_21, k_X4_find_22, k_X4_find_23, k_X4_find_24, k_X4_find_25, k_X4_find_26, k_X4_find_27, k_X4_find_28, k_X4_find_29, k_X4_find_30, k_X4_find_31, k_X4_find_32, k_X4_find_33, k_X4_find_34, k_X4_find_35, k_X4_find_36, k_X4_find_37, k_X4_find_38, k_X4_find_39, k_X4_find_40, k_X4_find_41, k_X4_find_42, k_X4_find_43, k_X4_find_44, k_X4_find_45, k_X4_find_46, k_X4_find_47, k_X4_find_48, oE_some, Int.reduceToNat, Nat.reduceAdd, true_and, and_true, List.length_cons, List.length_nil, Option.toList_some, Option.toList_none, List.cons_append, List.nil_append, Nat.reduceLeDiff, Nat.le_refl, wdS_nil, wdS_i, wdS_l, wdS_r, wdS_n, wdS_s, rw_count hR]
        rw [w32_nat bi, w32_nat (FC_31 n), w32_nat bf, w32_id r1 r2, if_pos cc2]
        by_cases ci : (i : Int) < ((FC n : Nat) : Int)
        · rw [if_pos ci]
        · rw [if_neg ci]
      · have r1 : -2147483648 ≤ (f : Int) + (m : Int) - 1 := by omega
        have r2 : (f : Int) + (m : Int) - 1 < 2147483648 := by omega
        have cc2 : ¬ (f : Int) + (m : Int) - 1 < (f : Int) := by omega
        have ci : (i : Int) < ((FC n : Nat) : Int) := by omega
        obtain ⟨g, hg⟩ : ∃ g : Nat, g = (f + (f + m - 1)) / 2 := ⟨_, rfl⟩
        have hg1 : f ≤ g ∧ g < f + m := by omega
        have bs1 : f + (f + m - 1) < 2147483648 := by omega
        have es : (f : Int) + ((f : Int) + (m : Int) - 1) = ((f + (f + m - 1) : Nat) : Int) := by omega
        have em : Int.tdiv (w32 ((f : Int) + ((f : Int) + (m : Int) - 1))) (w32 2) = (g : Int) := by
          rw [es, hg]; exact w_div (b := 2) bs1 (by decide)
        have hgF : g < FC n := by omega
        have bg := num_31 h1 h6 hgF
        have e1 : ((g + 1 : Nat) : Int) + ((f + m - (g + 1) : Nat) : Int) - 1 = (f : Int) + (m : Int) - 1 := by omega
        have e2 : (f : Int) + ((g - f : Nat) : Int) - 1 = (g : Int) - 1 := by omega
        have s1 := ih (f + m - (g + 1)) (by omega) (g + 1) (i + 1) (some (mI (g : Int))) (by omega)
        have s2 := ih (g - f) (by omega) f (i + 1) (some (mI (g : Int))) (by omega)
        rw [e1] at s1
        rw [e2] at s2
        rw [AWh_k, k_X4_find_9]
        simp only [AW_k, AWk_1, x_push_i, x_push_l, x_istore_2, x_aload_0, x_aloads_0, x_getf, x_isub, x_istore_3, x_istore_4, x_iload_4, x_icmp_ge, x_iload_2, x_iload_3, x_icmp_gt, x_iadd, x_idiv, x_istore_5, x_iload_5, x_iald, x_ialds, x_iload_1, x_icmp_ne, x_ret, x_ret_i, x_ret_z, x_ret_l, x_ret_c, x_goto, x_iinc_4, unl_i, unl_l, unl_q, unl_r, unl_s, unl_n, k_X4_find_0, k_X4_find_1, k_X4_find_2, k_X4_find_3, k_X4_find_4, k_X4_find_5, k_X4_find_6, k_X4_find_7, k_X4_find_8, k_X4_find_9, k_X4_find_10, k_X4_find_11, k_X4_find_12, k_X4_find_13, k_X4_find_14, k_X4_find_15, k_X4_find_16, k_X4_find_17, k_X4_find_18, k_X4_find_19, k_X4_find_20, k_X4_find_21, k_X4_find_22, k_X4_find_23, k_X4_find_24, k_X4_find_25, k_X4_find_26, k_X4_find_27, k_X4_find_28, k_X4_find_29, k_X4_find_30, k_X4_find_31, k_X4_find_32, k_X4_find_33, k_X4_find_34, k_X4_find_35, k_X4_find_36, k_X4_find_37, k_X4_find_38, k_X4_find_39, k_X4_find_40, k_X4_find_41, k_X4_find_42, k_X4_find_43, k_X4_find_44, k_X4_find_45, k_X4_find_46, k_X4_find_47, k_X4_find_48, oE_some, Int.reduceToNat, Nat.reduceAdd, true_and, and_true, List.length_cons, List.length_nil, Option.toList_some, Option.toList_none, List.cons_append, List.nil_append, Nat.reduceLeDiff, Nat.le_refl, wdS_nil, wdS_i, wdS_l, wdS_r, wdS_n, wdS_s, rw_count hR, em, rw_nums hR, rA_10 hR, bI rfl hgF (FC_31 n), gI rfl hgF (FC_31 n), show ¬ w32 2 = 0 by decide, not_false_eq_true]
        rw [w32_nat bi, w32_nat (FC_31 n), w32_nat bf, w32_id r1 r2, if_neg cc2, if_pos ci, w32_nat bg, hx]
        by_cases q1 : ((num n g : Nat) : Int) = x
        · rw [if_pos q1, ← q1, fnd_num h1 h6 hgF]
        · rw [if_neg q1]
          by_cases q2 : ((num n g : Nat) : Int) < x
          · rw [if_pos q2]
            refine s1 (fun j hj => ?_) (fun j hj1 hj2 => hhi j (by omega) hj2) (by omega)
            by_cases e : j = g
            · rw [e]; exact q2
            · have := num_lt h1 h6 hgF (show j < g by omega); omega
          · rw [if_neg q2]
            refine s2 hlo (fun j hj1 hj2 => ?_) (by omega)
            by_cases e : j = g
            · rw [e]; omega
            · have := num_lt h1 h6 hj2 (show g < j by omega); omega
  have k0 := key (FC n) 0 0 none (by omega) (fun j hj => by omega) (fun j h1 h2 => by omega) (by omega)
  rw [show ((0 : Nat) : Int) + ((FC n : Nat) : Int) - 1 = ((FC n : Nat) : Int) - 1 by omega] at k0
  rw [callD_k]; simp only [entL_i, entL_l, entL_q, entL_s, entL_nil, n_X4_find, u_X4_find, m_X4_find, rep_4, List.cons_append, List.nil_append, List.append_nil, List.length_cons, List.length_nil, Nat.reduceAdd, true_and]
  simp only [AW_k, AWk_1, x_push_i, x_push_l, x_istore_2, x_aload_0, x_aloads_0, x_getf, x_isub, x_istore_3, x_istore_4, x_iload_4, x_icmp_ge, x_iload_2, x_iload_3, x_icmp_gt, x_iadd, x_idiv, x_istore_5, x_iload_5, x_iald, x_ialds, x_iload_1, x_icmp_ne, x_ret, x_ret_i, x_ret_z, x_ret_l, x_ret_c, x_goto, x_iinc_4, unl_i, unl_l, unl_q, unl_r, unl_s, unl_n, k_X4_find_0, k_X4_find_1, k_X4_find_2, k_X4_find_3, k_X4_find_4, k_X4_find_5, k_X4_find_6, k_X4_find_7, k_X4_find_8, k_X4_find_9, k_X4_find_10, k_X4_find_11, k_X4_find_12, k_X4_find_13, k_X4_find_14, k_X4_find_15, k_X4_find_16, k_X4_find_17, k_X4_find_18, k_X4_find_19, k_X4_find_20, k_X4_find_21, k_X4_find_22, k_X4_find_23, k_X4_find_24, k_X4_find_25, k_X4_find_26, k_X4_find_27, k_X4_find_28, k_X4_find_29, k_X4_find_30, k_X4_find_31, k_X4_find_32, k_X4_find_33, k_X4_find_34, k_X4_find_35, k_X4_find_36, k_X4_find_37, k_X4_find_38, k_X4_find_39, k_X4_find_40, k_X4_find_41, k_X4_find_42, k_X4_find_43, k_X4_find_44, k_X4_find_45, k_X4_find_46, k_X4_find_47, k_X4_find_48, oE_some, Int.reduceToNat, Nat.reduceAdd, true_and, and_true, List.length_cons, List.length_nil, Option.toList_some, Option.toList_none, List.cons_append, List.nil_append, Nat.reduceLeDiff, Nat.le_refl, wdS_nil, wdS_i, wdS_l, wdS_r, wdS_n, wdS_s, rw_count hR]
  exact k0
/-! makers -/
def mkOK (c : Nat) (ks es : List Int) : Prop := ks.length = 6 ∧ es.length = 6 ∧ c ≤ 6 ∧ ∀ i, i < c → ∃ k m : Nat, ks.getD i 0 = (k : Int) ∧ k < 6 ∧ es.getD i 0 = (m : Int) ∧ m < 16
def MKS (hp : HP) (a c : Nat) (ks es : List Int) : Prop := (gF hp a 3 0 = some (mI (c : Int)) ∧ gF hp a 3 1 = some (mR (a + 1)) ∧ gF hp a 3 2 = some (mR (a + 2))) ∧ gA hp (a + 1) = some ks ∧ gA hp (a + 2) = some es
theorem MKS_Fr {hp h : HP} {a c x y : Nat} {ks es : List Int} (m : MKS hp a c ks es) (f : Fr x y hp h) (o : a + 3 ≤ x ∨ y ≤ a) : MKS h a c ks es := by
  obtain ⟨⟨a1, a2, a3⟩, b1, b2⟩ := m
  exact ⟨⟨by rw [gF_Fr f (by omega), a1], by rw [gF_Fr f (by omega), a2], by rw [gF_Fr f (by omega), a3]⟩, by rw [gA_Fr f (by omega), b1], by rw [gA_Fr f (by omega), b2]⟩
set_option maxHeartbeats 8000000 in
theorem c3_has (d : Nat) {hp : HP} {a c : Nat} {ks es : List Int} {x : Int} (h : MKS hp a c ks es) (hx : w32 x = x) (hc : c ≤ 6) (R : PO) : callD (d + 1) 22 [mR a, mI x] hp R ↔ R (some (mI (zI (decide (0 ≤ x) && decide (x < (c : Int)))))) hp := by
  have bc : c < 2147483648 := by omega
  rw [callD_k]; simp only [entL_i, entL_l, entL_q, entL_s, entL_nil, n_X3_has, u_X3_has, m_X3_has, rep_0, List.cons_append, List.nil_append, List.append_nil, List.length_cons, List.length_nil, Nat.reduceAdd, true_and]
  simp only [AW_k, AWk_1, x_iload_1, x_if_lt, x_aload_0, x_aloads_0, x_getf, x_icmp_ge, x_push_i, x_push_l, x_goto, x_ret, x_ret_i, x_ret_z, x_ret_l, x_ret_c, k_X3_has_0, k_X3_has_1, k_X3_has_2, k_X3_has_3, k_X3_has_4, k_X3_has_5, k_X3_has_6, k_X3_has_7, k_X3_has_8, k_X3_has_9, oE_some, Int.reduceToNat, Nat.reduceAdd, true_and, and_true, List.length_cons, List.length_nil, Option.toList_some, Option.toList_none, List.cons_append, List.nil_append, Nat.reduceLeDiff, Nat.le_refl, wdS_nil, wdS_i, wdS_l, wdS_r, wdS_n, wdS_s, h.1.1, or_true, true_or, R_ite, hx, w32_nat bc]
  by_cases e : x < 0
  · rw [if_pos e, decide_eq_false (show ¬ 0 ≤ x by omega)]; exact Iff.rfl
  · rw [if_neg e, decide_eq_true (show 0 ≤ x by omega), Bool.true_and, ite_zI3]
set_option maxHeartbeats 8000000 in
theorem c3_add (d : Nat) {hp : HP} {a c : Nat} {ks es : List Int} {k m : Int} (h : MKS hp a c ks es) (hk : ks.length = 6) (he : es.length = 6) (hc : c < 6) : ∃ h', MKS h' a (c + 1) (ks.set c k) (es.set c m) ∧ Fr a (a + 3) hp h' ∧ ∀ R : PO, callD (d + 1) 23 [mR a, mI k, mI m] hp R ↔ R (some (mI (c : Int))) h' := by
  obtain ⟨⟨a1, a2, a3⟩, b1, b2⟩ := h
  have bc : c < 2147483648 := by omega
  have j1 : c < ks.length := by omega
  have j2 : c < es.length := by omega
  have L1 : ks.length < 2147483648 := by omega
  have L2 : es.length < 2147483648 := by omega
  have e1 : ((c + 1 : Nat) : Int) - 1 = (c : Int) := by omega
  have e2 : (c : Int) + 1 = ((c + 1 : Nat) : Int) := by omega
  have n1 : a + 1 ≠ a + 2 := by omega
  have n2 : a + 2 ≠ a + 1 := by omega
  refine ⟨pF (pA (pA hp (a + 1) (ks.set c k)) (a + 2) (es.set c m)) a 3 0 (mI ((c + 1 : Nat) : Int)), ⟨⟨gF_pF_same (w := mI (c : Int)) (by rw [gF_pA, gF_pA, a1]), by rw [gF_pF (by omega), gF_pA, gF_pA, a2], by rw [gF_pF (by omega), gF_pA, gF_pA, a3]⟩, by rw [gA_pF, gA_pA n2, gA_pA_same b1], by rw [gA_pF]; exact gA_pA_same (by rw [gA_pA n1, b2])⟩, Fr_trans (Fr_trans (Fr_pA (by omega) (by omega)) (Fr_pA (by omega) (by omega))) (Fr_pF (by omega) (by omega)), fun R => ?_⟩
  have s0 : gF (pF (pA (pA hp (a + 1) (ks.set c k)) (a + 2) (es.set c m)) a 3 0 (mI ((c + 1 : Nat) : Int))) a 3 0 = some (mI ((c + 1 : Nat) : Int)) := gF_pF_same (w := mI (c : Int)) (by rw [gF_pA, gF_pA, a1])
  rw [callD_k]; simp only [entL_i, entL_l, entL_q, entL_s, entL_nil, n_X3_add, u_X3_add, m_X3_add, rep_0, List.cons_append, List.nil_append, List.append_nil, List.length_cons, List.length_nil, Nat.reduceAdd, true_and]
  simp only [AW_k, AWk_1, x_aload_0, x_aloads_0, x_getf, x_iload_1, x_iast, x_iload_2, x_dup_i, x_dup_r, x_dup_q, x_push_i, x_push_l, x_iadd, x_putf_i, x_isub, x_ret, x_ret_i, x_ret_z, x_ret_l, x_ret_c, k_X3_add_0, k_X3_add_1, k_X3_add_2, k_X3_add_3, k_X3_add_4, k_X3_add_5, k_X3_add_6, k_X3_add_7, k_X3_add_8, k_X3_add_9, k_X3_add_10, k_X3_add_11, k_X3_add_12, k_X3_add_13, k_X3_add_14, k_X3_add_15, k_X3_add_16, k_X3_add_17, k_X3_add_18, k_X3_add_19, k_X3_add_20, k_X3_add_21, k_X3_add_22, oE_some, Int.reduceToNat, Nat.reduceAdd, true_and, and_true, List.length_cons, List.length_nil, Option.toList_some, Option.toList_none, List.cons_append, List.nil_append, Nat.reduceLeDiff, Nat.le_refl, wdS_nil, wdS_i, wdS_l, wdS_r, wdS_n, wdS_s, a1, a2, a3, b1, b2, gF_pA, gA_pA n1, inB_n j1 L1, inB_n j2 L2, w32_tn bc, e2, s0, e1]
theorem cpy_all {α : Type} {z : α} {f g : List α} {N : Nat} (hf : f.length = N) (hg : g.length = N) : cpyL z f g 0 0 N = f := by
  unfold cpyL
  rw [hg]
  apply List.ext_getElem?
  intro k
  rw [List.getElem?_map]
  by_cases h : k < N
  · rw [List.getElem?_range h]
    show some (if 0 ≤ k ∧ k < 0 + N then f.getD (0 + (k - 0)) z else g.getD k z) = f[k]?
    rw [if_pos ⟨Nat.zero_le _, by omega⟩, Nat.zero_add, Nat.sub_zero, List.getD_eq_getElem?_getD, List.getElem?_eq_getElem (by omega)]
    rfl
  · rw [List.getElem?_eq_none (by rw [List.length_range]; omega), List.getElem?_eq_none (by omega)]
    rfl
set_option maxHeartbeats 8000000 in
theorem c3_becomeLike (d : Nat) {hp : HP} {a b c e : Nat} {ks es ks2 es2 : List Int} (h : MKS hp a c ks es) (h2 : MKS hp b e ks2 es2) (hk : ks.length = 6) (he : es.length = 6) (hk2 : ks2.length = 6) (he2 : es2.length = 6) (ho : a + 3 ≤ b ∨ b + 3 ≤ a) : ∃ h', MKS h' a e ks2 es2 ∧ Fr a (a + 3) hp h' ∧ ∀ R : PO, callD (d + 1) 24 [mR a, mR b] hp R ↔ R none h' := by
  obtain ⟨⟨a1, a2, a3⟩, a4, a5⟩ := h
  obtain ⟨⟨b1, b2, b3⟩, b4, b5⟩ := h2
  have n1 : a + 1 ≠ a + 2 := by omega
  have n2 : a + 2 ≠ a + 1 := by omega
  have n3 : a + 1 ≠ b + 2 := by omega
  have n4 : ¬ (a = a ∧ (0 : Nat) = 1) := by omega
  have n5 : ¬ (a = a ∧ (0 : Nat) = 2) := by omega
  have n6 : ¬ (a = b ∧ (0 : Nat) = 1) := by omega
  have n7 : ¬ (a = b ∧ (0 : Nat) = 2) := by omega
  have n8 : ¬ (a = b ∧ (0 : Nat) = 0) := by omega
  refine ⟨pA (pA (pF hp a 3 0 (mI (e : Int))) (a + 1) ks2) (a + 2) es2, ⟨⟨by rw [gF_pA, gF_pA]; exact gF_pF_same a1, by rw [gF_pA, gF_pA, gF_pF n4, a2], by rw [gF_pA, gF_pA, gF_pF n5, a3]⟩, by rw [gA_pA n2]; exact gA_pA_same (by rw [gA_pF, a4]), gA_pA_same (by rw [gA_pA n1, gA_pF, a5])⟩, Fr_trans (Fr_trans (Fr_pF (by omega) (by omega)) (Fr_pA (by omega) (by omega))) (Fr_pA (by omega) (by omega)), fun R => ?_⟩
  have q1 : cpyL 0 ks2 ks (w32 0).toNat (w32 0).toNat (w32 6).toNat = ks2 := cpy_all hk2 hk
  have q2 : cpyL 0 es2 es (w32 0).toNat (w32 0).toNat (w32 6).toNat = es2 := cpy_all he2 he
  have q3 : w32 0 + w32 6 ≤ ((6 : Nat) : Int) := by decide
  have q4 : 0 ≤ w32 0 := by decide
  have q5 : 0 ≤ w32 6 := by decide
  rw [callD_k]; simp only [entL_i, entL_l, entL_q, entL_s, entL_nil, n_X3_becomeLike, u_X3_becomeLike, m_X3_becomeLike, rep_0, List.cons_append, List.nil_append, List.append_nil, List.length_cons, List.length_nil, Nat.reduceAdd, true_and]
  simp only [AW_k, AWk_1, x_aload_0, x_aloads_0, x_aload_1, x_aloads_1, x_getf, x_putf_i, x_push_i, x_push_l, x_copyi, x_ret, x_ret_i, x_ret_z, x_ret_l, x_ret_c, k_X3_becomeLike_0, k_X3_becomeLike_1, k_X3_becomeLike_2, k_X3_becomeLike_3, k_X3_becomeLike_4, k_X3_becomeLike_5, k_X3_becomeLike_6, k_X3_becomeLike_7, k_X3_becomeLike_8, k_X3_becomeLike_9, k_X3_becomeLike_10, k_X3_becomeLike_11, k_X3_becomeLike_12, k_X3_becomeLike_13, k_X3_becomeLike_14, k_X3_becomeLike_15, k_X3_becomeLike_16, k_X3_becomeLike_17, k_X3_becomeLike_18, k_X3_becomeLike_19, k_X3_becomeLike_20, oE_some, Int.reduceToNat, Nat.reduceAdd, true_and, and_true, List.length_cons, List.length_nil, Option.toList_some, Option.toList_none, List.cons_append, List.nil_append, Nat.reduceLeDiff, Nat.le_refl, wdS_nil, wdS_i, wdS_l, wdS_r, wdS_n, wdS_s, b1, b2, b3, a1, a2, a3, a4, a5, b4, b5, gF_pF n4, gF_pF n5, gF_pF n6, gF_pF n7, gF_pF n8, gA_pF, gF_pA, gA_pA n1, gA_pA n3, hk, he, hk2, he2, q3, q4, q5, q1, q2, Nat.zero_le]
def isU (k a : Nat) : Bool := decide (a = 0) || decide (k = a) || (decide (a = 1) && (decide (k = 3) || decide (k = 4))) || (decide (a = 2) && decide (k = 5))
def upK (a : Nat) : Nat → Nat → Nat
  | 0, now => now
  | f + 1, now => if now = a then now else upK a f ([0, 0, 0, 1, 1, 2].getD now 0)
theorem up_isU : ∀ k, k < 6 → ∀ a, a < 6 → decide (upK a 6 k = a) = isU k a := by decide +kernel
theorem upK_lt : ∀ k, k < 6 → ([0, 0, 0, 1, 1, 2] : List Nat).getD k 0 < 6 := by decide
theorem K_get {k : Nat} (hk : k < 6) : (stab [] 2).getD (w32 (k : Int)).toNat 0 = ((([0, 0, 0, 1, 1, 2] : List Nat).getD k 0 : Nat) : Int) := by
  rw [w32_tn (by omega)]
  have : ∀ k, k < 6 → (stab [] 2).getD k 0 = ((([0, 0, 0, 1, 1, 2] : List Nat).getD k 0 : Nat) : Int) := by decide +kernel
  exact this k hk
set_option maxHeartbeats 8000000 in
theorem c3_isUnder (d : Nat) {hp : HP} {k a : Nat} (hk : k < 6) (ha : a < 6) (R : PO) : callD (d + 1) 25 [mI (k : Int), mI (a : Int)] hp R ↔ R (some (mI (zI (isU k a)))) hp := by
  have key : ∀ (f i now : Nat), i + f = 6 → now < 6 → (AWh d [] 25 R 4 [some (mI (k : Int)), some (mI (a : Int)), some (mI (now : Int)), some (mI (i : Int))] [] hp (0, 0) ↔ R (some (mI (zI (decide (upK a f now = a))))) hp) := by
    intro f
    induction f with
    | zero =>
      intro i now hi hn
      have bi : i < 2147483648 := by omega
      have bn : now < 2147483648 := by omega
      have ba : a < 2147483648 := by omega
      have cc : ¬ (i : Int) < 6 := by omega
      rw [AWh_k, k_X3_isUnder_4]
      simp only [AW_k, AWk_1, x_iload_0, x_istore_2, x_push_i, x_push_l, x_istore_3, x_iload_3, x_icmp_ge, x_iload_2, x_iload_1, x_icmp_eq, x_gets, x_iald, x_ialds, x_iinc_3, x_goto, x_icmp_ne, x_ret, x_ret_i, x_ret_z, x_ret_l, x_ret_c, unl_i, unl_l, unl_q, unl_r, unl_s, unl_n, k_X3_isUnder_0, k_X3_isUnder_1, k_X3_isUnder_2, k_X3_isUnder_3, k_X3_isUnder_4, k_X3_isUnder_5, k_X3_isUnder_6, k_X3_isUnder_7, k_X3_isUnder_8, k_X3_isUnder_9, k_X3_isUnder_10, k_X3_isUnder_11, k_X3_isUnder_12, k_X3_isUnder_13, k_X3_isUnder_14, k_X3_isUnder_15, k_X3_isUnder_16, k_X3_isUnder_17, k_X3_isUnder_18, k_X3_isUnder_19, k_X3_isUnder_20, k_X3_isUnder_21, k_X3_isUnder_22, oE_some, Int.reduceToNat, Nat.reduceAdd, true_and, and_true, List.length_cons, List.length_nil, Option.toList_some, Option.toList_none, List.cons_append, List.nil_append, Nat.reduceLeDiff, Nat.le_refl, wdS_nil, wdS_i, wdS_l, wdS_r, wdS_n, wdS_s, or_true, true_or, R_ite]
      rw [w32_nat bi, w32_nat bn, w32_nat ba, show w32 6 = 6 from rfl, if_neg cc, ite_zI3]
      unfold upK
      by_cases e : now = a
      · rw [decide_eq_true (show (now : Int) = (a : Int) by omega), decide_eq_true e]
      · rw [decide_eq_false (show ¬ (now : Int) = (a : Int) by omega), decide_eq_false e]
    | succ f ih =>
      intro i now hi hn
      have bi : i < 2147483648 := by omega
      have bn : now < 2147483648 := by omega
      have ba : a < 2147483648 := by omega
      have cc : (i : Int) < 6 := by omega
      have kin : inB (now : Int) (stab [] 2).length := inB_n (by show now < 6; exact hn) (by decide)
      have i1 := ih (i + 1) (([0, 0, 0, 1, 1, 2] : List Nat).getD now 0) (by omega) (upK_lt now hn)
      unfold upK
      rw [AWh_k, k_X3_isUnder_4]
      simp only [AW_k, AWk_1, x_iload_0, x_istore_2, x_push_i, x_push_l, x_istore_3, x_iload_3, x_icmp_ge, x_iload_2, x_iload_1, x_icmp_eq, x_gets, x_iald, x_ialds, x_iinc_3, x_goto, x_icmp_ne, x_ret, x_ret_i, x_ret_z, x_ret_l, x_ret_c, unl_i, unl_l, unl_q, unl_r, unl_s, unl_n, k_X3_isUnder_0, k_X3_isUnder_1, k_X3_isUnder_2, k_X3_isUnder_3, k_X3_isUnder_4, k_X3_isUnder_5, k_X3_isUnder_6, k_X3_isUnder_7, k_X3_isUnder_8, k_X3_isUnder_9, k_X3_isUnder_10, k_X3_isUnder_11, k_X3_isUnder_12, k_X3_isUnder_13, k_X3_isUnder_14, k_X3_isUnder_15, k_X3_isUnder_16, k_X3_isUnder_17, k_X3_isUnder_18, k_X3_isUnder_19, k_X3_isUnder_20, k_X3_isUnder_21, k_X3_isUnder_22, oE_some, Int.reduceToNat, Nat.reduceAdd, true_and, and_true, List.length_cons, List.length_nil, Option.toList_some, Option.toList_none, List.cons_append, List.nil_append, Nat.reduceLeDiff, Nat.le_refl, wdS_nil, wdS_i, wdS_l, wdS_r, wdS_n, wdS_s, or_true, true_or, R_ite, kin, K_get hn]
      rw [w32_nat bi, w32_nat bn, w32_nat ba, show w32 6 = 6 from rfl, if_pos cc]
      by_cases e : now = a
      · rw [if_pos (show (now : Int) = (a : Int) by omega), if_pos (show (now : Int) = (a : Int) by omega), if_pos e, decide_eq_true e]; exact Iff.rfl
      · rw [if_neg (show ¬ (now : Int) = (a : Int) by omega), if_neg e]
        exact i1
  have := key 6 0 k rfl hk
  rw [up_isU k hk a ha] at this
  rw [callD_k]; simp only [entL_i, entL_l, entL_q, entL_s, entL_nil, n_X3_isUnder, u_X3_isUnder, m_X3_isUnder, rep_2, List.cons_append, List.nil_append, List.append_nil, List.length_cons, List.length_nil, Nat.reduceAdd, true_and]
  simp only [AW_k, AWk_1, x_iload_0, x_istore_2, x_push_i, x_push_l, x_istore_3, x_iload_3, x_icmp_ge, x_iload_2, x_iload_1, x_icmp_eq, x_gets, x_iald, x_ialds, x_iinc_3, x_goto, x_icmp_ne, x_ret, x_ret_i, x_ret_z, x_ret_l, x_ret_c, unl_i, unl_l, unl_q, unl_r, unl_s, unl_n, k_X3_isUnder_0, k_X3_isUnder_1, k_X3_isUnder_2, k_X3_isUnder_3, k_X3_isUnder_4, k_X3_isUnder_5, k_X3_isUnder_6, k_X3_isUnder_7, k_X3_isUnder_8, k_X3_isUnder_9, k_X3_isUnder_10, k_X3_isUnder_11, k_X3_isUnder_12, k_X3_isUnder_13, k_X3_isUnder_14, k_X3_isUnder_15, k_X3_isUnder_16, k_X3_isUnder_17, k_X3_isUnder_18, k_X3_isUnder_19, k_X3_isUnder_20, k_X3_isUnder_21, k_X3_isUnder_22, oE_some, Int.reduceToNat, Nat.reduceAdd, true_and, and_true, List.length_cons, List.length_nil, Option.toList_some, Option.toList_none, List.cons_append, List.nil_append, Nat.reduceLeDiff, Nat.le_refl, wdS_nil, wdS_i, wdS_l, wdS_r, wdS_n, wdS_s]
  exact this
