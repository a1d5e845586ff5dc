/-! ===== the class's rows are made: the gaps ===== -/
set_option maxHeartbeats 8000000 in
theorem c1_numberOf (d : Nat) {hp : HP} {r fa : Nat} {l : List Int} {a b z : Int} (h1 : gF hp r 1 10 = some (mR fa)) (h2 : gA hp fa = some l) (hin : inB (a * 7 + b) l.length) (R : PO) : callD (d + 1) 12 [mR r, mI a, mI b, mI z] hp R ↔ R (some (mI (l.getD (w32 (a * 7 + b)).toNat 0 + z))) hp := by
  rw [callD_k]; simp only [entL_i, entL_l, entL_q, entL_s, entL_nil, n_X1_numberOf, u_X1_numberOf, m_X1_numberOf, rep_0, List.cons_append, List.nil_append, List.append_nil, List.length_cons, List.length_nil, Nat.reduceAdd, true_and]
  simp only [AW_k, AWk_1, x_aload_0, x_aloads_0, x_getf, x_iload_1, x_push_i, x_push_l, x_imul, x_iload_2, x_iadd, x_iald, x_ialds, x_iload_3, x_ret, x_ret_i, x_ret_z, x_ret_l, x_ret_c, k_X1_numberOf_0, k_X1_numberOf_1, k_X1_numberOf_2, k_X1_numberOf_3, k_X1_numberOf_4, k_X1_numberOf_5, k_X1_numberOf_6, k_X1_numberOf_7, k_X1_numberOf_8, k_X1_numberOf_9, k_X1_numberOf_10, oE_some, Int.reduceToNat, Nat.reduceAdd, true_and, and_true, List.length_cons, List.length_nil, Option.toList_some, Option.toList_none, List.cons_append, List.nil_append, Nat.reduceLeDiff, Nat.le_refl, wdS_nil, wdS_i, wdS_l, wdS_r, wdS_n, wdS_s, h1, h2, hin]
/-- what is left of the arc of a, b, ahead of the place q -/
def lfA (n i a b : Nat) : Nat → Nat
  | 0 => 0
  | q + 1 => if a < dg n (num n i) q ∧ dg n (num n i) q < b then lfA n i a b q ||| 2 ^ (dg n (num n i) q - a - 1) else lfA n i a b q
theorem lfA_succ (n i a b q : Nat) : lfA n i a b (q + 1) = if a < dg n (num n i) q ∧ dg n (num n i) q < b then lfA n i a b q ||| 2 ^ (dg n (num n i) q - a - 1) else lfA n i a b q := rfl
theorem lfA_lt {n i a b : Nat} (hb : b < 10) : ∀ q, lfA n i a b q < 1024 := by
  intro q
  induction q with
  | zero => show 0 < 1024; decide
  | succ q ih =>
    rw [lfA_succ]
    split
    · next c => exact Nat.or_lt_two_pow (n := 10) ih (Nat.pow_lt_pow_right (by decide) (by omega))
    · exact ih
def ai_b (n : Nat) : Bool := allB (fun i => allB (fun p => fi n (min (dg n (num n i) p) (dg n (num n i) (p + 1)) * 7 + max (dg n (num n i) p) (dg n (num n i) (p + 1))) + lfA n i (min (dg n (num n i) p) (dg n (num n i) (p + 1))) (max (dg n (num n i) p) (dg n (num n i) (p + 1))) p == ar n i p && decide (((num n i : Nat) : Int) + (((dg n (num n i) (p + 1) : Nat) : Int) - ((dg n (num n i) p : Nat) : Int)) * 9 * ((10 ^ (n - 2 - p) : Nat) : Int) = ((num n (bs n i p) : Nat) : Int))) (n - 1)) (FC n)
theorem ai_c : all6 ai_b = true := by decide +kernel
theorem ai_ok {n i p : Nat} (h1 : 1 ≤ n) (h6 : n ≤ 6) (hi : i < FC n) (hp : p < n - 1) : fi n (min (dg n (num n i) p) (dg n (num n i) (p + 1)) * 7 + max (dg n (num n i) p) (dg n (num n i) (p + 1))) + lfA n i (min (dg n (num n i) p) (dg n (num n i) (p + 1))) (max (dg n (num n i) p) (dg n (num n i) (p + 1))) p = ar n i p ∧ ((num n i : Nat) : Int) + (((dg n (num n i) (p + 1) : Nat) : Int) - ((dg n (num n i) p : Nat) : Int)) * 9 * ((10 ^ (n - 2 - p) : Nat) : Int) = ((num n (bs n i p) : Nat) : Int) := by
  have := allB_of (allB_of (all6_of ai_c h1 h6) i hi) p hp
  rw [Bool.and_eq_true, beq_iff_eq, decide_eq_true_eq] at this
  exact this
set_option maxHeartbeats 32000000 in
theorem c4_arcIn (d : Nat) {h : HP} {ra n i p : Nat} {S D : List Int} {G : List (BitVec 64)} {A B P : List Int} (h1 : 1 ≤ n) (h6 : n ≤ 6) (hi : i < FC n) (hp : p < n - 1) (hP : plI n i P) (hR : RIP h ra n S D G A B P) (R : PO) : callD (d + 2) 34 [mR ra, mR (ra + 16), mI (p : Int)] h R ↔ R (some (mI ((ar n i p : Nat) : Int))) h := by
  obtain ⟨k1, -⟩ := ai_ok h1 h6 hi hp
  have gu := dg_in h1 h6 hi (show p < n by omega)
  have gv := dg_in h1 h6 hi (show p + 1 < n by omega)
  have pu := hP.2 p (by omega)
  have pv := hP.2 (p + 1) (by omega)
  have lP := hP.1
  have jp : p < P.length := by omega
  have jq : p + 1 < P.length := by omega
  have LP : P.length < 2147483648 := by omega
  have bp : p < 2147483648 := by omega
  have bq : p + 1 < 2147483648 := by omega
  have e1 : (p : Int) + 1 = ((p + 1 : Nat) : Int) := by omega
  generalize dg n (num n i) p = u at k1 gu pu
  generalize dg n (num n i) (p + 1) = v at k1 gv pv
  have bu : u < 2147483648 := by omega
  have bv : v < 2147483648 := by omega
  have a7 : min u v * 7 + max u v < 49 := by omega
  have bm : min u v < 7 := by omega
  have bM : max u v < 7 := by omega
  have b7 : min u v * 7 + max u v < 2147483648 := by omega
  have e7 : ((min u v : Nat) : Int) * 7 + ((max u v : Nat) : Int) = ((min u v * 7 + max u v : Nat) : Int) := by omega
  clear gu gv
  obtain ⟨a, hma⟩ : ∃ a, min u v = a := ⟨_, rfl⟩
  obtain ⟨b, hmb⟩ : ∃ b, max u v = b := ⟨_, rfl⟩
  rw [hma, hmb] at k1 a7 b7 e7
  rw [hma] at bm
  rw [hmb] at bM
  have ba : a < 2147483648 := by omega
  have bb : b < 2147483648 := by omega
  have key : ∀ (m q : Nat) (y7 : Option AV), q + m = p → (AWh (d + 1) [] 34 R 24 [some (mR ra), some (mR (ra + 16)), some (mI (p : Int)), some (mI (a : Int)), some (mI (b : Int)), some (mI (lfA n i a b q : Int)), some (mI (q : Int)), y7] [] h (0, 0) ↔ R (some (mI ((ar n i p : Nat) : Int))) h) := by
    intro m
    induction m with
    | zero =>
      intro q y7 hq
      have e : q = p := by omega
      subst e
      have hi49 : inB (((a * 7 + b : Nat) : Int)) (tI (fi n) 49).length := bI rfl a7 (by decide)
      have gfi : (tI (fi n) 49).getD (w32 ((a * 7 + b : Nat) : Int)).toNat 0 = ((fi n (a * 7 + b) : Nat) : Int) := gI rfl a7 (by decide)
      have cn := c1_numberOf d (a := (a : Int)) (b := (b : Int)) (z := (lfA n i a b q : Int)) hR.2.1.2.2.2.2.2.2.2.1 hR.2.1.2.2.2.2.2.2.2.2 (by rw [e7]; exact hi49)
      rw [e7, gfi] at cn
      have ek : ((fi n (a * 7 + b) : Nat) : Int) + (lfA n i a b q : Int) = ((ar n i q : Nat) : Int) := by rw [← k1]; rfl
      rw [ek] at cn
      rw [AWh_k, k_X4_arcIn_24]
      simp only [AW_k, AWk_1, x_aload_1, x_aloads_1, x_iload_2, x_iald, x_ialds, x_push_i, x_push_l, x_iadd, x_mmin, x_istore_3, x_mmax, x_istore_4, x_istore_5, x_istore_6, x_iload_6, x_icmp_ge, x_istore_7, x_iload_7, x_iload_3, x_icmp_le, x_iload_4, x_iload_5, x_isub, x_ishl, x_ior, x_iinc_6, x_goto, x_aload_0, x_aloads_0, x_getf, x_callv_4, x_ret, x_ret_i, x_ret_z, x_ret_l, x_ret_c, unl_i, unl_l, unl_q, unl_r, unl_s, unl_n, k_X4_arcIn_0, k_X4_arcIn_1, k_X4_arcIn_2, k_X4_arcIn_3, k_X4_arcIn_4, k_X4_arcIn_5, k_X4_arcIn_6, k_X4_arcIn_7, k_X4_arcIn_8, k_X4_arcIn_9, k_X4_arcIn_10, k_X4_arcIn_11, k_X4_arcIn_12, k_X4_arcIn_13, k_X4_arcIn_14, k_X4_arcIn_15, k_X4_arcIn_16, k_X4_arcIn_17, k_X4_arcIn_18, k_X4_arcIn_19, k_X4_arcIn_20, k_X4_arcIn_21, k_X4_arcIn_22, k_X4_arcIn_23, k_X4_arcIn_24, k_X4_arcIn_25, k_X4_arcIn_26, k_X4_arcIn_27, k_X4_arcIn_28, k_X4_arcIn_29, k_X4_arcIn_30, k_X4_arcIn_31, k_X4_arcIn_32, k_X4_arcIn_33, k_X4_arcIn_34, k_X4_arcIn_35, k_X4_arcIn_36, k_X4_arcIn_37, k_X4_arcIn_38, k_X4_arcIn_39, k_X4_arcIn_40, k_X4_arcIn_41, k_X4_arcIn_42, k_X4_arcIn_43, k_X4_arcIn_44, k_X4_arcIn_45, k_X4_arcIn_46, k_X4_arcIn_47, k_X4_arcIn_48, k_X4_arcIn_49, k_X4_arcIn_50, k_X4_arcIn_51, k_X4_arcIn_52, k_X4_arcIn_53, k_X4_arcIn_54, k_X4_arcIn_55, oE_some, Int.reduceToNat, Nat.reduceAdd, true_and, and_true, List.length_cons, List.length_nil, Option.toList_some, Option.toList_none, List.cons_append, List.nil_append, Nat.reduceLeDiff, Nat.le_refl, wdS_nil, wdS_i, wdS_l, wdS_r, wdS_n, wdS_s, hR.2.1.2.1, gC_of hR.2.1.2.2.2.2.2.2.2.1, cn]
      rw [if_neg (Int.lt_irrefl _)]
    | succ m ih =>
      intro q y7 hq
      have hqp : q < p := by omega
      have cq : (q : Int) < (p : Int) := by omega
      have bq2 : q < 2147483648 := by omega
      have gx := dg_in h1 h6 hi (show q < n by omega)
      have px := hP.2 q (by omega)
      have jx : q < P.length := by omega
      have es := lfA_succ n i a b q
      have hl := lfA_lt (n := n) (i := i) (a := a) (b := b) (by omega) q
      generalize dg n (num n i) q = x at gx px es
      generalize lfA n i a b q = s at es hl ⊢
      have bx : x < 2147483648 := by omega
      have bs : s < 2147483648 := by omega
      have i1 := ih (q + 1) (some (mI (x : Int))) (by omega)
      rw [es] at i1
      by_cases c1 : a < x
      · have c1' : (a : Int) < (x : Int) := by omega
        by_cases c2 : x < b
        · have c2' : (x : Int) < (b : Int) := by omega
          rw [if_pos ⟨c1, c2⟩] at i1
          have ex : (x : Int) - (a : Int) - 1 = ((x - a - 1 : Nat) : Int) := by omega
          have l31 : x - a - 1 < 31 := by omega
          have p31 := pow31 l31
          have eor : iOr (s : Int) (iShl 1 ((x - a - 1 : Nat) : Int)) = ((s ||| 2 ^ (x - a - 1) : Nat) : Int) := by rw [iShl_1 l31, iOr_nat bs p31]
          rw [AWh_k, k_X4_arcIn_24]
          simp only [AW_k, AWk_1, x_iload_6, x_iload_2, x_icmp_ge, x_aload_1, x_aloads_1, x_iald, x_ialds, x_istore_7, x_iload_7, x_iload_3, x_icmp_le, x_iload_4, x_iload_5, x_push_i, x_push_l, x_isub, x_ishl, x_ior, x_istore_5, x_iinc_6, x_goto, unl_i, unl_l, unl_q, unl_r, unl_s, unl_n, k_X4_arcIn_24, k_X4_arcIn_25, k_X4_arcIn_26, k_X4_arcIn_27, k_X4_arcIn_28, k_X4_arcIn_29, k_X4_arcIn_30, k_X4_arcIn_31, k_X4_arcIn_32, k_X4_arcIn_33, k_X4_arcIn_34, k_X4_arcIn_35, k_X4_arcIn_36, k_X4_arcIn_37, k_X4_arcIn_38, k_X4_arcIn_39, k_X4_arcIn_40, k_X4_arcIn_41, k_X4_arcIn_42, k_X4_arcIn_43, k_X4_arcIn_44, k_X4_arcIn_45, k_X4_arcIn_46, k_X4_arcIn_47, k_X4_arcIn_48, oE_some, Int.reduceToNat, Nat.reduceAdd, true_and, and_true, List.length_cons, List.length_nil, Option.toList_some, Option.toList_none, List.cons_append, List.nil_append, Nat.reduceLeDiff, Nat.le_refl, wdS_nil, wdS_i, wdS_l, wdS_r, wdS_n, wdS_s, hR.2.2.2.2.2.2.2, inB_n jx LP, gtW bq2 px, ex, eor]
          rw [w32_nat bq2, w32_nat bp, if_pos cq, w32_nat bx, w32_nat ba, if_pos c1', w32_nat bb, if_pos c2']
          exact i1
        · have c2' : ¬ (x : Int) < (b : Int) := by omega
          rw [if_neg (fun z => c2 z.2)] at i1
          rw [AWh_k, k_X4_arcIn_24]
          simp only [AW_k, AWk_1, x_iload_6, x_iload_2, x_icmp_ge, x_aload_1, x_aloads_1, x_iald, x_ialds, x_istore_7, x_iload_7, x_iload_3, x_icmp_le, x_iload_4, unl_i, unl_l, unl_q, unl_r, unl_s, unl_n, k_X4_arcIn_24, k_X4_arcIn_25, k_X4_arcIn_26, k_X4_arcIn_27, k_X4_arcIn_28, k_X4_arcIn_29, k_X4_arcIn_30, k_X4_arcIn_31, k_X4_arcIn_32, k_X4_arcIn_33, k_X4_arcIn_34, k_X4_arcIn_35, k_X4_arcIn_36, oE_some, Int.reduceToNat, Nat.reduceAdd, true_and, and_true, List.length_cons, List.length_nil, Option.toList_some, Option.toList_none, List.cons_append, List.nil_append, Nat.reduceLeDiff, Nat.le_refl, wdS_nil, wdS_i, wdS_l, wdS_r, wdS_n, wdS_s, hR.2.2.2.2.2.2.2, inB_n jx LP, gtW bq2 px]
          rw [w32_nat bq2, w32_nat bp, if_pos cq, w32_nat bx, w32_nat ba, if_pos c1', w32_nat bb, if_neg c2']
          simp only [AW_k, AWk_1, x_iinc_6, x_goto, unl_i, unl_l, unl_q, unl_r, unl_s, unl_n, k_X4_arcIn_47, k_X4_arcIn_48, oE_some, Int.reduceToNat, Nat.reduceAdd, true_and, and_true, List.length_cons, List.length_nil, Option.toList_some, Option.toList_none, List.cons_append, List.nil_append, Nat.reduceLeDiff, Nat.le_refl, wdS_nil, wdS_i, wdS_l, wdS_r, wdS_n, wdS_s]
          exact i1
      · have c1' : ¬ (a : Int) < (x : Int) := by omega
        rw [if_neg (fun z => c1 z.1)] at i1
        rw [AWh_k, k_X4_arcIn_24]
        simp only [AW_k, AWk_1, x_iload_6, x_iload_2, x_icmp_ge, x_aload_1, x_aloads_1, x_iald, x_ialds, x_istore_7, x_iload_7, x_iload_3, x_icmp_le, unl_i, unl_l, unl_q, unl_r, unl_s, unl_n, k_X4_arcIn_24, k_X4_arcIn_25, k_X4_arcIn_26, k_X4_arcIn_27, k_X4_arcIn_28, k_X4_arcIn_29, k_X4_arcIn_30, k_X4_arcIn_31, k_X4_arcIn_32, k_X4_arcIn_33, oE_some, Int.reduceToNat, Nat.reduceAdd, true_and, and_true, List.length_cons, List.length_nil, Option.toList_some, Option.toList_none, List.cons_append, List.nil_append, Nat.reduceLeDiff, Nat.le_refl, wdS_nil, wdS_i, wdS_l, wdS_r, wdS_n, wdS_s, hR.2.2.2.2.2.2.2, inB_n jx LP, gtW bq2 px]
        rw [w32_nat bq2, w32_nat bp, if_pos cq, w32_nat bx, w32_nat ba, if_neg c1']
        simp only [AW_k, AWk_1, x_iinc_6, x_goto, unl_i, unl_l, unl_q, unl_r, unl_s, unl_n, k_X4_arcIn_47, k_X4_arcIn_48, oE_some, Int.reduceToNat, Nat.reduceAdd, true_and, and_true, List.length_cons, List.length_nil, Option.toList_some, Option.toList_none, List.cons_append, List.nil_append, Nat.reduceLeDiff, Nat.le_refl, wdS_nil, wdS_i, wdS_l, wdS_r, wdS_n, wdS_s]
        exact i1
  have k0 := key p 0 none (by omega)
  have emn := w_min bu bv
  have emx := w_max bu bv
  rw [hma] at emn
  rw [hmb] at emx
  rw [callD_k]; simp only [entL_i, entL_l, entL_q, entL_s, entL_nil, n_X4_arcIn, u_X4_arcIn, m_X4_arcIn, rep_5, List.cons_append, List.nil_append, List.append_nil, List.length_cons, List.length_nil, Nat.reduceAdd, true_and]
  simp only [AW_k, AWk_1, x_aload_1, x_aloads_1, x_iload_2, x_iald, x_ialds, x_push_i, x_push_l, x_iadd, x_mmin, x_istore_3, x_mmax, x_istore_4, x_istore_5, x_istore_6, x_iload_6, x_icmp_ge, x_istore_7, x_iload_7, x_iload_3, x_icmp_le, x_iload_4, x_iload_5, x_isub, x_ishl, x_ior, x_iinc_6, x_goto, x_aload_0, x_aloads_0, x_getf, x_callv_4, x_ret, x_ret_i, x_ret_z, x_ret_l, x_ret_c, unl_i, unl_l, unl_q, unl_r, unl_s, unl_n, k_X4_arcIn_0, k_X4_arcIn_1, k_X4_arcIn_2, k_X4_arcIn_3, k_X4_arcIn_4, k_X4_arcIn_5, k_X4_arcIn_6, k_X4_arcIn_7, k_X4_arcIn_8, k_X4_arcIn_9, k_X4_arcIn_10, k_X4_arcIn_11, k_X4_arcIn_12, k_X4_arcIn_13, k_X4_arcIn_14, k_X4_arcIn_15, k_X4_arcIn_16, k_X4_arcIn_17, k_X4_arcIn_18, k_X4_arcIn_19, k_X4_arcIn_20, k_X4_arcIn_21, k_X4_arcIn_22, k_X4_arcIn_23, k_X4_arcIn_24, k_X4_arcIn_25, k_X4_arcIn_26, k_X4_arcIn_27, k_X4_arcIn_28, k_X4_arcIn_29, k_X4_arcIn_30, k_X4_arcIn_31, k_X4_arcIn_32, k_X4_arcIn_33, k_X4_arcIn_34, k_X4_arcIn_35, k_X4_arcIn_36, k_X4_arcIn_37, k_X4_arcIn_38, k_X4_arcIn_39, k_X4_arcIn_40, k_X4_arcIn_41, k_X4_arcIn_42, k_X4_arcIn_43, k_X4_arcIn_44, k_X4_arcIn_45, k_X4_arcIn_46, k_X4_arcIn_47, k_X4_arcIn_48, k_X4_arcIn_49, k_X4_arcIn_50, k_X4_arcIn_51, k_X4_arcIn_52, k_X4_arcIn_53, k_X4_arcIn_54, k_X4_arcIn_55, oE_some, Int.reduceToNat, Nat.reduceAdd, true_and, and_true, List.length_cons, List.length_nil, Option.toList_some, Option.toList_none, List.cons_append, List.nil_append, Nat.reduceLeDiff, Nat.le_refl, wdS_nil, wdS_i, wdS_l, wdS_r, wdS_n, wdS_s, hR.2.2.2.2.2.2.2, e1, inB_n jp LP, inB_n jq LP, gtW bp pu, gtW bq pv, emn, emx]
  exact k0
