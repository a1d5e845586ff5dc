/-! ===== the reference: the row by its index ===== -/
theorem tst_bit (u k : Nat) : tst u k = u.testBit k := by
  unfold tst
  rw [Nat.testBit_eq_decide_div_mod_eq]
theorem ofI_bit {u k : Nat} (hu : u < 2147483648) (hk : k < 64) : (BitVec.ofInt 64 (w32 (u : Int))).getLsbD k = tst u k := by
  rw [w32_nat hu, BitVec.ofInt_natCast, BitVec.getLsbD_ofNat, decide_eq_true hk, Bool.true_and, tst_bit]
/-- the free number is found -/
def fvB (n u : Nat) : Nat → Nat → Nat → Bool
  | 0, _, _ => false
  | k + 1, v, s => if tst u v = false then (if s = 0 then true else fvB n u k (v + 1) (s - 1)) else fvB n u k (v + 1) s
theorem fvB_up (n u k v s : Nat) : fvB n u (k + 1) v s = if tst u v = false then (if s = 0 then true else fvB n u k (v + 1) (s - 1)) else fvB n u k (v + 1) s := rfl
theorem fvF_up (n u k v s : Nat) : fvF n u (k + 1) v s = if tst u v = false then (if s = 0 then v else fvF n u k (v + 1) (s - 1)) else fvF n u k (v + 1) s := rfl
def nb_b (n : Nat) : Bool := allB (fun i => allB (fun p => fvB n (naS n i p).2.1 n 1 ((naS n i p).1 / FC (n - 1 - p))) n) (FC n)
theorem nb_c : all6 nb_b = true := by decide +kernel
theorem nb_ok {n i p : Nat} (h1 : 1 ≤ n) (h6 : n ≤ 6) (hi : i < FC n) (hp : p < n) : fvB n (naS n i p).2.1 n 1 ((naS n i p).1 / FC (n - 1 - p)) = true := allB_of (allB_of (all6_of nb_c h1 h6) i hi) p hp
theorem naS_up (n i p : Nat) : naS n i (p + 1) = ((naS n i p).1 % FC (n - 1 - p), (naS n i p).2.1 ||| 2 ^ fvF n (naS n i p).2.1 n 1 ((naS n i p).1 / FC (n - 1 - p)), (naS n i p).2.2 * 10 + fvF n (naS n i p).2.1 n 1 ((naS n i p).1 / FC (n - 1 - p))) := rfl
set_option maxHeartbeats 16000000 in
theorem rb_in (d : Nat) {hp : HP} {n i u r t p : Nat} {R : PO} (hu : u < 2147483648) : ∀ (k v s : Nat), v + k ≤ 60 → s < 2147483648 → fvB n u k v s = true → (AWh (d + 1) [] 168 R 38 [some (mR 54), some (mI (i : Int)), some (mI (r : Int)), some (mI (u : Int)), some (mI (t : Int)), some (mI (p : Int)), some (mI (s : Int)), some (mI (v : Int))] [] hp (0, 0) ↔ AWk (d + 1) [] 168 R 58 (cd 168 58) [some (mR 54), some (mI (i : Int)), some (mI (r : Int)), some (mI (u : Int)), some (mI (t : Int)), some (mI (p : Int)), some (mI 0), some (mI ((fvF n u k v s : Nat) : Int))] [] hp (0, 0)) := by
  intro k
  induction k with
  | zero => intro v s _ _ hf; exact Bool.noConfusion (show false = true from hf)
  | succ k ih =>
    intro v s hv hs hf
    have v64 : v < 64 := by omega
    have e1 : (v : Int) + 1 = ((v + 1 : Nat) : Int) := by omega
    rw [fvB_up] at hf
    rw [fvF_up]
    have ob := ofI_bit hu v64
    by_cases c : tst u v = false
    · rw [if_pos c] at hf
      rw [if_pos c]
      rw [c] at ob
      by_cases c0 : s = 0
      · subst c0
        rw [if_pos rfl]
        rw [AWh_k, k_X11_rowBy_38]
        simp only [AW_k, AWk_1, x_iload_3, x_i2l, x_iload_7, x_call_2, x_if_ne, x_iload_6, x_if_le, x_if_eq, x_push_i, x_push_l, x_goto, x_isub, x_istore_6, x_iinc_7, unl_i, unl_l, unl_q, unl_r, unl_s, unl_n, k_X11_rowBy_38, k_X11_rowBy_39, k_X11_rowBy_40, k_X11_rowBy_41, k_X11_rowBy_42, k_X11_rowBy_43, k_X11_rowBy_44, k_X11_rowBy_45, k_X11_rowBy_46, k_X11_rowBy_47, k_X11_rowBy_48, k_X11_rowBy_49, k_X11_rowBy_50, k_X11_rowBy_51, k_X11_rowBy_52, k_X11_rowBy_53, k_X11_rowBy_54, k_X11_rowBy_55, k_X11_rowBy_56, k_X11_rowBy_57, oE_some, Int.reduceToNat, Nat.reduceAdd, true_and, and_true, List.length_cons, List.length_nil, Option.toList_some, Option.toList_none, List.cons_append, List.nil_append, Nat.reduceLeDiff, Nat.le_refl, wdS_nil, wdS_i, wdS_l, wdS_r, wdS_n, wdS_s, m_hasK d v64, ob, zI_f, w00, show w32 ((0 : Nat) : Int) = 0 from rfl, show ((0 : Int) < 0) = False from eq_false (by decide), ↓reduceIte]
        all_goals exact Iff.rfl
      · rw [if_neg c0] at hf
        rw [if_neg c0]
        have n1 : ((0 : Int) < (s : Int)) = True := eq_true (by omega)
        have e2 : (s : Int) - 1 = ((s - 1 : Nat) : Int) := by omega
        have hi := ih (v + 1) (s - 1) (by omega) (by omega) hf
        rw [AWh_k, k_X11_rowBy_38]
        simp only [AW_k, AWk_1, x_iload_3, x_i2l, x_iload_7, x_call_2, x_if_ne, x_iload_6, x_if_le, x_if_eq, x_push_i, x_push_l, x_goto, x_isub, x_istore_6, x_iinc_7, unl_i, unl_l, unl_q, unl_r, unl_s, unl_n, k_X11_rowBy_38, k_X11_rowBy_39, k_X11_rowBy_40, k_X11_rowBy_41, k_X11_rowBy_42, k_X11_rowBy_43, k_X11_rowBy_44, k_X11_rowBy_45, k_X11_rowBy_46, k_X11_rowBy_47, k_X11_rowBy_48, k_X11_rowBy_49, k_X11_rowBy_50, k_X11_rowBy_51, k_X11_rowBy_52, k_X11_rowBy_53, k_X11_rowBy_54, k_X11_rowBy_55, k_X11_rowBy_56, k_X11_rowBy_57, oE_some, Int.reduceToNat, Nat.reduceAdd, true_and, and_true, List.length_cons, List.length_nil, Option.toList_some, Option.toList_none, List.cons_append, List.nil_append, Nat.reduceLeDiff, Nat.le_refl, wdS_nil, wdS_i, wdS_l, wdS_r, wdS_n, wdS_s, m_hasK d v64, ob, zI_f, w00, w32_nat hs, n1, e2, e1, ↓reduceIte]
        exact hi
    · rw [if_neg c] at hf
      rw [if_neg c]
      rw [Bool.not_eq_false] at c
      rw [c] at ob
      have e2 : (s : Int) - 0 = (s : Int) := Int.sub_zero _
      have hi := ih (v + 1) s (by omega) hs hf
      rw [AWh_k, k_X11_rowBy_38]
      simp only [AW_k, AWk_1, x_iload_3, x_i2l, x_iload_7, x_call_2, x_if_ne, x_iload_6, x_if_le, x_if_eq, x_push_i, x_push_l, x_goto, x_isub, x_istore_6, x_iinc_7, unl_i, unl_l, unl_q, unl_r, unl_s, unl_n, k_X11_rowBy_38, k_X11_rowBy_39, k_X11_rowBy_40, k_X11_rowBy_41, k_X11_rowBy_42, k_X11_rowBy_43, k_X11_rowBy_44, k_X11_rowBy_45, k_X11_rowBy_46, k_X11_rowBy_47, k_X11_rowBy_48, k_X11_rowBy_49, k_X11_rowBy_50, k_X11_rowBy_51, k_X11_rowBy_52, k_X11_rowBy_53, k_X11_rowBy_54, k_X11_rowBy_55, k_X11_rowBy_56, k_X11_rowBy_57, oE_some, Int.reduceToNat, Nat.reduceAdd, true_and, and_true, List.length_cons, List.length_nil, Option.toList_some, Option.toList_none, List.cons_append, List.nil_append, Nat.reduceLeDiff, Nat.le_refl, wdS_nil, wdS_i, wdS_l, wdS_r, wdS_n, wdS_s, m_hasK d v64, ob, zI_t, w10, e2, e1, ↓reduceIte]
      exact hi
theorem FC_7 : ∀ k, k < 7 → 0 < FC k ∧ FC k < 2147483648 := by decide
set_option maxHeartbeats 16000000 in
theorem m_rowBy (d : Nat) {hp : HP} {n i : Nat} (h : MK hp n) (hi : i < FC n) (R : PO) : callD (d + 2) 168 [mR 54, mI (i : Int)] hp R ↔ R (some (mI ((num n i : Nat) : Int))) hp := by
  have h1 := h.1.1
  have h6 := h.1.2
  have g1 := h.2.1
  have g2 := h.2.2.2.1
  have a2 := h.2.2.2.2.2
  have bn : n < 2147483648 := by omega
  obtain ⟨enum_, hok⟩ := na_ok h1 h6 hi
  have outer : ∀ (m p : Nat) (y6 y7 : Option AV), p + m = n → (AWh (d + 1) [] 168 R 8 [some (mR 54), some (mI (i : Int)), some (mI (((naS n i p).2.2 : Nat) : Int)), some (mI (((naS n i p).2.1 : Nat) : Int)), some (mI (((naS n i p).1 : Nat) : Int)), some (mI (p : Int)), y6, y7] [] hp (0, 0) ↔ R (some (mI ((num n i : Nat) : Int))) hp) := by
    intro m
    induction m with
    | zero =>
      intro p y6 y7 hp1
      have e : p = n := by omega
      subst e
      rw [enum_]
      rw [AWh_k, k_X11_rowBy_8]
      simp only [AW_k, AWk_1, x_iload_5, x_aload_0, x_aloads_0, x_getf, x_icmp_ge, x_iload_4, x_push_i, x_push_l, x_isub, x_iald, x_ialds, x_idiv, x_istore_6, x_irem, x_istore_4, x_istore_7, x_iload_3, x_i2l, x_iload_7, x_call_2, x_if_ne, x_iload_6, x_if_le, x_if_eq, x_goto, x_iinc_7, x_ishl, x_ior, x_istore_3, x_iload_2, x_imul, x_iadd, x_istore_2, x_iinc_5, x_ret, x_ret_i, x_ret_z, x_ret_l, x_ret_c, unl_i, unl_l, unl_q, unl_r, unl_s, unl_n, k_X11_rowBy_8, k_X11_rowBy_9, k_X11_rowBy_10, k_X11_rowBy_11, k_X11_rowBy_12, k_X11_rowBy_13, k_X11_rowBy_14, k_X11_rowBy_15, k_X11_rowBy_16, k_X11_rowBy_17, k_X11_rowBy_18, k_X11_rowBy_19, k_X11_rowBy_20, k_X11_rowBy_21, k_X11_rowBy_22, k_X11_rowBy_23, k_X11_rowBy_24, k_X11_rowBy_25, k_X11_rowBy_26, k_X11_rowBy_27, k_X11_rowBy_28, k_X11_rowBy_29, k_X11_rowBy_30, k_X11_rowBy_31, k_X11_rowBy_32, k_X11_rowBy_33, k_X11_rowBy_34, k_X11_rowBy_35, k_X11_rowBy_36, k_X11_rowBy_37, k_X11_rowBy_38, k_X11_rowBy_39, k_X11_rowBy_40, k_X11_rowBy_41, k_X11_rowBy_42, k_X11_rowBy_43, k_X11_rowBy_44, k_X11_rowBy_45, k_X11_rowBy_46, k_X11_rowBy_47, k_X11_rowBy_48, k_X11_rowBy_49, k_X11_rowBy_50, k_X11_rowBy_51, k_X11_rowBy_52, k_X11_rowBy_53, k_X11_rowBy_54, k_X11_rowBy_55, k_X11_rowBy_56, k_X11_rowBy_57, k_X11_rowBy_58, k_X11_rowBy_59, k_X11_rowBy_60, k_X11_rowBy_61, k_X11_rowBy_62, k_X11_rowBy_63, k_X11_rowBy_64, k_X11_rowBy_65, k_X11_rowBy_66, k_X11_rowBy_67, k_X11_rowBy_68, k_X11_rowBy_69, k_X11_rowBy_70, k_X11_rowBy_71, k_X11_rowBy_72, k_X11_rowBy_73, oE_some, Int.reduceToNat, Nat.reduceAdd, true_and, and_true, List.length_cons, List.length_nil, Option.toList_some, Option.toList_none, List.cons_append, List.nil_append, Nat.reduceLeDiff, Nat.le_refl, wdS_nil, wdS_i, wdS_l, wdS_r, wdS_n, wdS_s, g1]
      rw [if_neg (Int.lt_irrefl _)]
    | succ m ih =>
      intro p y6 y7 hp1
      have hpn : p < n := by omega
      have bp : p < 2147483648 := by omega
      have n1 : ((p : Int) < (n : Int)) = True := eq_true (by omega)
      have e1 : (p : Int) + 1 = ((p + 1 : Nat) : Int) := by omega
      have e2 : (n : Int) - 1 - (p : Int) = ((n - 1 - p : Nat) : Int) := by omega
      have k7 : n - 1 - p < 7 := by omega
      have bk : n - 1 - p < 2147483648 := by omega
      obtain ⟨o1, o2, o3⟩ := hok p hpn
      obtain ⟨f0, f1⟩ := FC_7 (n - 1 - p) k7
      have hb := nb_ok h1 h6 hi hpn
      have hnx := ih (p + 1) (some (mI 0)) (some (mI ((fvF n (naS n i p).2.1 n 1 ((naS n i p).1 / FC (n - 1 - p)) : Nat) : Int))) (by omega)
      rw [naS_up] at hnx
      generalize naS n i p = S at o1 o2 o3 hb hnx ⊢
      obtain ⟨t, u, r⟩ := S
      have bt : t < 2147483648 := Nat.lt_of_le_of_lt o1 (by decide)
      have bu : u < 2147483648 := Nat.lt_of_le_of_lt o2 (by decide)
      have bs : t / FC (n - 1 - p) < 2147483648 := Nat.lt_of_le_of_lt (Nat.div_le_self _ _) bt
      have ib : inB ((n - 1 - p : Nat) : Int) FW.length := inB_n k7 (by decide)
      have ed : Int.tdiv (w32 (t : Int)) (w32 ((FC (n - 1 - p) : Nat) : Int)) = ((t / FC (n - 1 - p) : Nat) : Int) := w_div bt f1
      have em : Int.tmod (w32 (t : Int)) (w32 ((FC (n - 1 - p) : Nat) : Int)) = ((t % FC (n - 1 - p) : Nat) : Int) := w_mod bt f1
      have wn := w_ne f0 f1
      have hin := rb_in d (hp := hp) (n := n) (i := i) (u := u) (r := r) (t := t % FC (n - 1 - p)) (p := p) (R := R) bu n 1 (t / FC (n - 1 - p)) (by omega) bs hb
      have f31 : fvF n u n 1 (t / FC (n - 1 - p)) < 31 := Nat.lt_of_le_of_lt o3 (by decide)
      have p31 := pow31 f31
      have e3 : (10 : Int) * (r : Int) + ((fvF n u n 1 (t / FC (n - 1 - p)) : Nat) : Int) = ((r * 10 + fvF n u n 1 (t / FC (n - 1 - p)) : Nat) : Int) := by omega
      rw [w32_nat bt, w32_nat f1] at ed em
      rw [w32_nat f1] at wn
      rw [AWh_k, k_X11_rowBy_8]
      simp only [AW_k, AWk_1, x_iload_5, x_aload_0, x_aloads_0, x_getf, x_icmp_ge, x_iload_4, x_push_i, x_push_l, x_isub, x_iald, x_ialds, x_idiv, x_istore_6, x_irem, x_istore_4, x_istore_7, x_iload_3, unl_i, unl_l, unl_q, unl_r, unl_s, unl_n, k_X11_rowBy_8, k_X11_rowBy_9, k_X11_rowBy_10, k_X11_rowBy_11, k_X11_rowBy_12, k_X11_rowBy_13, k_X11_rowBy_14, k_X11_rowBy_15, k_X11_rowBy_16, k_X11_rowBy_17, k_X11_rowBy_18, k_X11_rowBy_19, k_X11_rowBy_20, k_X11_rowBy_21, k_X11_rowBy_22, k_X11_rowBy_23, k_X11_rowBy_24, k_X11_rowBy_25, k_X11_rowBy_26, k_X11_rowBy_27, k_X11_rowBy_28, k_X11_rowBy_29, k_X11_rowBy_30, k_X11_rowBy_31, k_X11_rowBy_32, k_X11_rowBy_33, k_X11_rowBy_34, k_X11_rowBy_35, k_X11_rowBy_36, k_X11_rowBy_37, k_X11_rowBy_38, oE_some, Int.reduceToNat, Nat.reduceAdd, true_and, and_true, List.length_cons, List.length_nil, Option.toList_some, Option.toList_none, List.cons_append, List.nil_append, Nat.reduceLeDiff, Nat.le_refl, wdS_nil, wdS_i, wdS_l, wdS_r, wdS_n, wdS_s, g1, w32_nat bp, w32_nat bn, n1, g2, a2, e2, ib, w32_tn bk, FW_get k7, w32_nat bt, w32_nat f1, ed, em, wn, not_false_eq_true, ↓reduceIte]
      refine hin.trans (Iff.trans ?_ hnx)
      simp only [AW_k, AWk_1, x_iload_3, x_push_i, x_push_l, x_iload_7, x_ishl, x_ior, x_istore_3, x_iload_2, x_imul, x_iadd, x_istore_2, x_iinc_5, x_goto, unl_i, unl_l, unl_q, unl_r, unl_s, unl_n, k_X11_rowBy_58, k_X11_rowBy_59, k_X11_rowBy_60, k_X11_rowBy_61, k_X11_rowBy_62, k_X11_rowBy_63, k_X11_rowBy_64, k_X11_rowBy_65, k_X11_rowBy_66, k_X11_rowBy_67, k_X11_rowBy_68, k_X11_rowBy_69, k_X11_rowBy_70, k_X11_rowBy_71, oE_some, Int.reduceToNat, Nat.reduceAdd, true_and, and_true, List.length_cons, List.length_nil, Option.toList_some, Option.toList_none, List.cons_append, List.nil_append, Nat.reduceLeDiff, Nat.le_refl, wdS_nil, wdS_i, wdS_l, wdS_r, wdS_n, wdS_s, iShl_1 f31, iOr_nat bu p31, e3, e1]
      all_goals exact Iff.rfl
  rw [callD_k]; simp only [entL_i, entL_l, entL_q, entL_s, entL_nil, n_X11_rowBy, u_X11_rowBy, m_X11_rowBy, rep_6, List.cons_append, List.nil_append, List.append_nil, List.length_cons, List.length_nil, Nat.reduceAdd, true_and]
  simp only [AW_k, AWk_1, x_push_i, x_push_l, x_istore_2, x_istore_3, x_iload_1, x_istore_4, x_istore_5, x_iload_5, unl_i, unl_l, unl_q, unl_r, unl_s, unl_n, k_X11_rowBy_0, k_X11_rowBy_1, k_X11_rowBy_2, k_X11_rowBy_3, k_X11_rowBy_4, k_X11_rowBy_5, k_X11_rowBy_6, k_X11_rowBy_7, k_X11_rowBy_8, oE_some, Int.reduceToNat, Nat.reduceAdd, true_and, and_true, List.length_cons, List.length_nil, Option.toList_some, Option.toList_none, List.cons_append, List.nil_append, Nat.reduceLeDiff, Nat.le_refl, wdS_nil, wdS_i, wdS_l, wdS_r, wdS_n, wdS_s]
  exact outer n 0 none none (Nat.zero_add n)
