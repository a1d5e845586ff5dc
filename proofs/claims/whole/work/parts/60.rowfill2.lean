/-! ===== the class's rows are made: what is swapped ===== -/
theorem set_set {l : List Int} {i : Nat} {x y : Int} : (l.set i x).set i y = l.set i y := List.set_set ..
set_option maxHeartbeats 32000000 in
theorem fs_q (d : Nat) {ra n i p acc : Nat} {T D : List Int} {G : List (BitVec 64)} {A B P : List Int} (h1 : 1 ≤ n) (h6 : n ≤ 6) (hi : i < FC n) (hp : p < n) (hT : T.length = FC n) (hP : plI n i P) (ha : acc < 32768) : ∀ (m k : Nat) (h : HP) (y5 y6 : Option AV), p + 1 + k + m = n → RIP h ra n (T.set i (sIn n i p k acc : Int)) D G A B P → ∃ h' y7 y8, RIP h' ra n (T.set i (sIn n i p (n - 1 - p) acc : Int)) D G A B P ∧ Fr (ra + 11) (ra + 12) h h' ∧ ∀ R : PO, (AWh d [] 32 R 10 [some (mR ra), some (mI (i : Int)), some (mR (ra + 16)), some (mI (p : Int)), some (mI ((p + 1 + k : Nat) : Int)), y5, y6] [] h (0, 0) ↔ AWk d [] 32 R 49 (cd 32 49) [some (mR ra), some (mI (i : Int)), some (mR (ra + 16)), some (mI (p : Int)), some (mI (n : Int)), y7, y8] [] h' (0, 0)) := by
  have f1 := FC_le n
  intro m
  induction m with
  | zero =>
    intro k h y5 y6 hk hR
    have e : p + 1 + k = n := by omega
    have ek : k = n - 1 - p := by omega
    rw [ek] at hR
    refine ⟨h, y5, y6, hR, Fr_refl h, fun R => ?_⟩
    have a1 := hR.1.2.1
    rw [e]
    rw [AWh_k, k_X4_fillSwapped_10]
    simp only [AW_k, AWk_1, x_iload_4, x_aload_0, x_aloads_0, x_getf, x_icmp_ge, x_aload_2, x_aloads_2, x_iald, x_ialds, x_istore_5, x_iload_3, x_istore_6, x_iload_6, x_iload_5, x_icmp_le, x_iload_1, x_dup2_ir, x_push_i, x_push_l, x_isub, x_imul, x_idiv, x_iadd, x_ishl, x_ior, x_iast, x_iinc_4, x_goto, unl_i, unl_l, unl_q, unl_r, unl_s, unl_n, k_X4_fillSwapped_10, k_X4_fillSwapped_11, k_X4_fillSwapped_12, k_X4_fillSwapped_13, k_X4_fillSwapped_14, k_X4_fillSwapped_15, k_X4_fillSwapped_16, k_X4_fillSwapped_17, k_X4_fillSwapped_18, k_X4_fillSwapped_19, k_X4_fillSwapped_20, k_X4_fillSwapped_21, k_X4_fillSwapped_22, k_X4_fillSwapped_23, k_X4_fillSwapped_24, k_X4_fillSwapped_25, k_X4_fillSwapped_26, k_X4_fillSwapped_27, k_X4_fillSwapped_28, k_X4_fillSwapped_29, k_X4_fillSwapped_30, k_X4_fillSwapped_31, k_X4_fillSwapped_32, k_X4_fillSwapped_33, k_X4_fillSwapped_34, k_X4_fillSwapped_35, k_X4_fillSwapped_36, k_X4_fillSwapped_37, k_X4_fillSwapped_38, k_X4_fillSwapped_39, k_X4_fillSwapped_40, k_X4_fillSwapped_41, k_X4_fillSwapped_42, k_X4_fillSwapped_43, k_X4_fillSwapped_44, k_X4_fillSwapped_45, k_X4_fillSwapped_46, k_X4_fillSwapped_47, k_X4_fillSwapped_48, oE_some, Int.reduceToNat, Nat.reduceAdd, true_and, and_true, List.length_cons, List.length_nil, Option.toList_some, Option.toList_none, List.cons_append, List.nil_append, Nat.reduceLeDiff, Nat.le_refl, wdS_nil, wdS_i, wdS_l, wdS_r, wdS_n, wdS_s, a1]
    rw [if_neg (Int.lt_irrefl _)]
  | succ m ih =>
    intro k h y5 y6 hk hR
    have hq : p + 1 + k < n := by omega
    have bq : p + 1 + k < 2147483648 := by omega
    have bn : n < 2147483648 := by omega
    have bp : p < 2147483648 := by omega
    have bi : i < 2147483648 := by omega
    have cq : ((p + 1 + k : Nat) : Int) < (n : Int) := by omega
    have eq1 : ((p + 1 + k : Nat) : Int) + 1 = ((p + 1 + (k + 1) : Nat) : Int) := by omega
    have gp := dg_in h1 h6 hi hp
    have gq := dg_in h1 h6 hi hq
    have pp := hP.2 p hp
    have pq := hP.2 _ hq
    have lP := hP.1
    have jp : p < P.length := by omega
    have jq : p + 1 + k < P.length := by omega
    have LP : P.length < 2147483648 := by omega
    have hs := sIn_lt h1 h6 hi hp k acc (by omega) ha
    have es := sIn_succ n i p k acc
    have jT : i < (T.set i (sIn n i p k acc : Int)).length := by rw [List.length_set]; omega
    have LT : (T.set i (sIn n i p k acc : Int)).length < 2147483648 := by rw [List.length_set]; omega
    have vT : (T.set i (sIn n i p k acc : Int)).getD i 0 = (sIn n i p k acc : Int) := by rw [getD_set (by omega), if_pos rfl]
    obtain ⟨g, hg⟩ : ∃ g, dg n (num n i) p = g := ⟨_, rfl⟩
    obtain ⟨l, hl⟩ : ∃ g, dg n (num n i) (p + 1 + k) = g := ⟨_, rfl⟩
    obtain ⟨s, hs0⟩ : ∃ s, sIn n i p k acc = s := ⟨_, rfl⟩
    rw [hg, hl, hs0] at es
    rw [hg] at gp pp
    rw [hl] at gq pq
    rw [hs0] at hs jT LT vT hR
    have bg : g < 2147483648 := by omega
    have bl : l < 2147483648 := by omega
    by_cases c : l < g
    · rw [if_pos c] at es
      have cl : (l : Int) < (g : Int) := by omega
      obtain ⟨b15, ep⟩ := pbt_all g (by omega) l c gq.1
      have bs : s < 2147483648 := by omega
      have b31 : pbt g l < 31 := by omega
      have bP2 := pow31 b31
      have eor : iOr (s : Int) (iShl 1 ((pbt g l : Nat) : Int)) = ((s ||| 2 ^ pbt g l : Nat) : Int) := by rw [iShl_1 b31, iOr_nat bs bP2]
      have s1 := RIP_11 (l := T.set i ((s ||| 2 ^ pbt g l : Nat) : Int)) hR
      have fr : Fr (ra + 11) (ra + 12) h (pA h (ra + 11) (T.set i ((s ||| 2 ^ pbt g l : Nat) : Int))) := Fr_pA (Nat.le_refl _) (Nat.lt_succ_self _)
      obtain ⟨h', y7, y8, u1, u2, u3⟩ := ih (k + 1) _ (some (mI (l : Int))) (some (mI (g : Int))) (by omega) (by rw [es]; exact s1)
      refine ⟨h', y7, y8, u1, Fr_trans fr u2, fun R => ?_⟩
      have u3 := u3 R
      rw [← eq1] at u3
      rw [AWh_k, k_X4_fillSwapped_10]
      simp only [AW_k, AWk_1, x_iload_4, x_aload_0, x_aloads_0, x_getf, x_icmp_ge, x_aload_2, x_aloads_2, x_iald, x_ialds, x_istore_5, x_iload_3, x_istore_6, x_iload_6, x_iload_5, x_icmp_le, x_iload_1, x_dup2_ir, x_push_i, x_push_l, x_isub, x_imul, x_idiv, x_iadd, x_ishl, x_ior, x_iast, x_iinc_4, x_goto, unl_i, unl_l, unl_q, unl_r, unl_s, unl_n, k_X4_fillSwapped_10, k_X4_fillSwapped_11, k_X4_fillSwapped_12, k_X4_fillSwapped_13, k_X4_fillSwapped_14, k_X4_fillSwapped_15, k_X4_fillSwapped_16, k_X4_fillSwapped_17, k_X4_fillSwapped_18, k_X4_fillSwapped_19, k_X4_fillSwapped_20, k_X4_fillSwapped_21, k_X4_fillSwapped_22, k_X4_fillSwapped_23, k_X4_fillSwapped_24, k_X4_fillSwapped_25, k_X4_fillSwapped_26, k_X4_fillSwapped_27, k_X4_fillSwapped_28, k_X4_fillSwapped_29, k_X4_fillSwapped_30, k_X4_fillSwapped_31, k_X4_fillSwapped_32, k_X4_fillSwapped_33, k_X4_fillSwapped_34, k_X4_fillSwapped_35, k_X4_fillSwapped_36, k_X4_fillSwapped_37, k_X4_fillSwapped_38, k_X4_fillSwapped_39, k_X4_fillSwapped_40, k_X4_fillSwapped_41, k_X4_fillSwapped_42, k_X4_fillSwapped_43, k_X4_fillSwapped_44, k_X4_fillSwapped_45, k_X4_fillSwapped_46, k_X4_fillSwapped_47, k_X4_fillSwapped_48, oE_some, Int.reduceToNat, Nat.reduceAdd, true_and, and_true, List.length_cons, List.length_nil, Option.toList_some, Option.toList_none, List.cons_append, List.nil_append, Nat.reduceLeDiff, Nat.le_refl, wdS_nil, wdS_i, wdS_l, wdS_r, wdS_n, wdS_s, hR.1.2.1, hR.2.2.2.2.2.2.2, hR.2.1.2.2.1, hR.2.2.1, inB_n jp LP, inB_n jq LP, gtW bp pp, gtW bq pq, inB_n jT LT, gtW bi vT, vT, ep, show ¬ w32 2 = 0 by decide, not_false_eq_true, eor, w32_tn bi, set_set]
      rw [w32_nat bq, w32_nat bn, if_pos cq, w32_nat bl, w32_nat bg, if_pos cl]
      exact u3
    · rw [if_neg c] at es
      have cl : ¬ (l : Int) < (g : Int) := by omega
      obtain ⟨h', y7, y8, u1, u2, u3⟩ := ih (k + 1) h (some (mI (l : Int))) (some (mI (g : Int))) (by omega) (by rw [es]; exact hR)
      refine ⟨h', y7, y8, u1, u2, fun R => ?_⟩
      have u3 := u3 R
      rw [← eq1] at u3
      rw [AWh_k, k_X4_fillSwapped_10]
      simp only [AW_k, AWk_1, x_iload_4, x_aload_0, x_aloads_0, x_getf, x_icmp_ge, x_aload_2, x_aloads_2, x_iald, x_ialds, x_istore_5, x_iload_3, x_istore_6, x_iload_6, x_iload_5, x_icmp_le, unl_i, unl_l, unl_q, unl_r, unl_s, unl_n, k_X4_fillSwapped_10, k_X4_fillSwapped_11, k_X4_fillSwapped_12, k_X4_fillSwapped_13, k_X4_fillSwapped_14, k_X4_fillSwapped_15, k_X4_fillSwapped_16, k_X4_fillSwapped_17, k_X4_fillSwapped_18, k_X4_fillSwapped_19, k_X4_fillSwapped_20, k_X4_fillSwapped_21, k_X4_fillSwapped_22, k_X4_fillSwapped_23, k_X4_fillSwapped_24, oE_some, Int.reduceToNat, Nat.reduceAdd, true_and, and_true, List.length_cons, List.length_nil, Option.toList_some, Option.toList_none, List.cons_append, List.nil_append, Nat.reduceLeDiff, Nat.le_refl, wdS_nil, wdS_i, wdS_l, wdS_r, wdS_n, wdS_s, hR.1.2.1, hR.2.2.2.2.2.2.2, inB_n jp LP, inB_n jq LP, gtW bp pp, gtW bq pq]
      rw [w32_nat bq, w32_nat bn, if_pos cq, w32_nat bl, w32_nat bg, if_neg cl]
      simp only [AW_k, AWk_1, x_iinc_4, x_goto, unl_i, unl_l, unl_q, unl_r, unl_s, unl_n, k_X4_fillSwapped_47, k_X4_fillSwapped_48, oE_some, Int.reduceToNat, Nat.reduceAdd, true_and, and_true, List.length_cons, List.length_nil, Option.toList_some, Option.toList_none, List.cons_append, List.nil_append, Nat.reduceLeDiff, Nat.le_refl, wdS_nil, wdS_i, wdS_l, wdS_r, wdS_n, wdS_s]
      exact u3
set_option maxHeartbeats 32000000 in
theorem c4_fillSwapped (d : Nat) {h : HP} {ra n i : Nat} {D : List Int} {G : List (BitVec 64)} {A B P : List Int} (h1 : 1 ≤ n) (h6 : n ≤ 6) (hi : i < FC n) (hP : plI n i P) (hR : RIP h ra n (tP (sw n) i (FC n)) D G A B P) : ∃ h', RIP h' ra n (tP (sw n) (i + 1) (FC n)) D G A B P ∧ Fr (ra + 11) (ra + 12) h h' ∧ ∀ R : PO, callD (d + 1) 32 [mR ra, mI (i : Int), mR (ra + 16)] h R ↔ R none h' := by
  have f1 := FC_le n
  have key : ∀ (m p : Nat) (h : HP) (y4 y5 y6 : Option AV), p + m = n → RIP h ra n ((tP (sw n) i (FC n)).set i (sOut n i p : Int)) D G A B P → ∃ h', RIP h' ra n ((tP (sw n) i (FC n)).set i (sOut n i n : Int)) D G A B P ∧ Fr (ra + 11) (ra + 12) h h' ∧ ∀ R : PO, (AWh d [] 32 R 2 [some (mR ra), some (mI (i : Int)), some (mR (ra + 16)), some (mI (p : Int)), y4, y5, y6] [] h (0, 0) ↔ R none h') := by
    intro m
    induction m with
    | zero =>
      intro p h y4 y5 y6 hp hR
      have e : p = n := by omega
      subst e
      refine ⟨h, hR, Fr_refl h, fun R => ?_⟩
      have a1 := hR.1.2.1
      rw [AWh_k, k_X4_fillSwapped_2]
      simp only [AW_k, AWk_1, x_iload_3, x_aload_0, x_aloads_0, x_getf, x_icmp_ge, x_push_i, x_push_l, x_iadd, x_istore_4, unl_i, unl_l, unl_q, unl_r, unl_s, unl_n, k_X4_fillSwapped_2, k_X4_fillSwapped_3, k_X4_fillSwapped_4, k_X4_fillSwapped_5, k_X4_fillSwapped_6, k_X4_fillSwapped_7, k_X4_fillSwapped_8, k_X4_fillSwapped_9, oE_some, Int.reduceToNat, Nat.reduceAdd, true_and, and_true, List.length_cons, List.length_nil, Option.toList_some, Option.toList_none, List.cons_append, List.nil_append, Nat.reduceLeDiff, Nat.le_refl, wdS_nil, wdS_i, wdS_l, wdS_r, wdS_n, wdS_s, a1]
      rw [if_neg (Int.lt_irrefl _)]
      simp only [AW_k, AWk_1, x_ret, x_ret_i, x_ret_z, x_ret_l, x_ret_c, k_X4_fillSwapped_51, oE_some, Int.reduceToNat, Nat.reduceAdd, true_and, and_true, List.length_cons, List.length_nil, Option.toList_some, Option.toList_none, List.cons_append, List.nil_append, Nat.reduceLeDiff, Nat.le_refl, wdS_nil, wdS_i, wdS_l, wdS_r, wdS_n, wdS_s]
    | succ m ih =>
      intro p h y4 y5 y6 hp hR
      have hpn : p < n := by omega
      have bp : p < 2147483648 := by omega
      have bn : n < 2147483648 := by omega
      have cp : (p : Int) < (n : Int) := by omega
      have e1 : (p : Int) + 1 = ((p + 1 : Nat) : Int) := by omega
      obtain ⟨h2, y7, y8, u1, u2, u3⟩ := fs_q d h1 h6 hi hpn tP_len hP (sOut_lt h1 h6 hi p (by omega)) (n - 1 - p) 0 h y5 y6 (by omega) hR
      obtain ⟨h', v1, v2, v3⟩ := ih (p + 1) h2 (some (mI (n : Int))) y7 y8 (by omega) u1
      refine ⟨h', v1, Fr_trans u2 v2, fun R => ?_⟩
      have u3 := u3 R
      have v3 := v3 R
      have a1 := hR.1.2.1
      rw [AWh_k, k_X4_fillSwapped_2]
      simp only [AW_k, AWk_1, x_iload_3, x_aload_0, x_aloads_0, x_getf, x_icmp_ge, x_push_i, x_push_l, x_iadd, x_istore_4, unl_i, unl_l, unl_q, unl_r, unl_s, unl_n, k_X4_fillSwapped_2, k_X4_fillSwapped_3, k_X4_fillSwapped_4, k_X4_fillSwapped_5, k_X4_fillSwapped_6, k_X4_fillSwapped_7, k_X4_fillSwapped_8, k_X4_fillSwapped_9, oE_some, Int.reduceToNat, Nat.reduceAdd, true_and, and_true, List.length_cons, List.length_nil, Option.toList_some, Option.toList_none, List.cons_append, List.nil_append, Nat.reduceLeDiff, Nat.le_refl, wdS_nil, wdS_i, wdS_l, wdS_r, wdS_n, wdS_s, a1, e1]
      rw [w32_nat bp, w32_nat bn, if_pos cp]
      refine Iff.trans u3 ?_
      simp only [AW_k, AWk_1, x_iinc_3, x_goto, unl_i, unl_l, unl_q, unl_r, unl_s, unl_n, k_X4_fillSwapped_49, k_X4_fillSwapped_50, oE_some, Int.reduceToNat, Nat.reduceAdd, true_and, and_true, List.length_cons, List.length_nil, Option.toList_some, Option.toList_none, List.cons_append, List.nil_append, Nat.reduceLeDiff, Nat.le_refl, wdS_nil, wdS_i, wdS_l, wdS_r, wdS_n, wdS_s, e1]
      exact v3
  have e0 : (tP (sw n) i (FC n)).set i ((sOut n i 0 : Nat) : Int) = tP (sw n) i (FC n) := by
    apply list_ext (N := FC n) (by rw [List.length_set, tP_len]) tP_len
    intro j hj
    rw [getD_set (by rw [tP_len]; exact hi)]
    by_cases e : i = j
    · subst e; rw [if_pos rfl, tP_get hj, if_neg (Nat.lt_irrefl _)]; rfl
    · rw [if_neg e]
  obtain ⟨h', v1, v2, v3⟩ := key n 0 h none none none (by omega) (by rw [e0]; exact hR)
  rw [sOut_sw h1 h6 hi, tP_set hi rfl] at v1
  refine ⟨h', v1, v2, fun R => ?_⟩
  rw [callD_k]; simp only [entL_i, entL_l, entL_q, entL_s, entL_nil, n_X4_fillSwapped, u_X4_fillSwapped, m_X4_fillSwapped, rep_4, List.cons_append, List.nil_append, List.append_nil, List.length_cons, List.length_nil, Nat.reduceAdd, true_and]
  simp only [AW_k, AWk_1, x_push_i, x_push_l, x_istore_3, unl_i, unl_l, unl_q, unl_r, unl_s, unl_n, k_X4_fillSwapped_0, k_X4_fillSwapped_1, oE_some, Int.reduceToNat, Nat.reduceAdd, true_and, and_true, List.length_cons, List.length_nil, Option.toList_some, Option.toList_none, List.cons_append, List.nil_append, Nat.reduceLeDiff, Nat.le_refl, wdS_nil, wdS_i, wdS_l, wdS_r, wdS_n, wdS_s]
  exact v3 R
