/-! ===== the class's rows are made: the gaps' loop ===== -/
def rdA (n i : Nat) : Nat → Nat
  | 0 => 0
  | p + 1 => if dn n i p = true then rdA n i p ||| 2 ^ p else rdA n i p
def ddA (n i : Nat) : Nat → BitVec 64
  | 0 => 0#64
  | p + 1 => if dn n i p = true then ddA n i p ||| 1#64 <<< ar n i p else ddA n i p
theorem rdA_succ (n i p : Nat) : rdA n i (p + 1) = if dn n i p = true then rdA n i p ||| 2 ^ p else rdA n i p := rfl
theorem ddA_succ (n i p : Nat) : ddA n i (p + 1) = if dn n i p = true then ddA n i p ||| 1#64 <<< ar n i p else ddA n i p := rfl
def rd_b (n : Nat) : Bool := allB (fun i => rdA n i (n - 1) == dr n i && decide (ddA n i (n - 1) = BitVec.ofNat 64 (dgm n i))) (FC n)
theorem rd_c : all6 rd_b = true := by decide +kernel
theorem rd_ok {n i : Nat} (h1 : 1 ≤ n) (h6 : n ≤ 6) (hi : i < FC n) : rdA n i (n - 1) = dr n i ∧ ddA n i (n - 1) = BitVec.ofNat 64 (dgm n i) := by
  have := allB_of (all6_of rd_c h1 h6) i hi
  rw [Bool.and_eq_true, beq_iff_eq, decide_eq_true_eq] at this
  exact this
theorem rdA_lt {n i : Nat} : ∀ p, p ≤ 10 → rdA n i p < 1024 := by
  intro p
  induction p with
  | zero => intro _; show 0 < 1024; decide
  | succ p ih =>
    intro hp
    rw [rdA_succ]
    split
    · exact Nat.or_lt_two_pow (n := 10) (ih (by omega)) (Nat.pow_lt_pow_right (by decide) (by omega))
    · exact ih (by omega)
def dgT (n k : Nat) : List (BitVec 64) := (List.range (FC n)).map (fun j => if j < k then BitVec.ofNat 64 (dgm n j) else 0#64)
theorem dgT_len {n k : Nat} : (dgT n k).length = FC n := by unfold dgT; rw [List.length_map, List.length_range]
theorem dgT_get {n k j : Nat} (h : j < FC n) : (dgT n k).getD j 0 = if j < k then BitVec.ofNat 64 (dgm n j) else 0#64 := by
  unfold dgT
  rw [List.getD_eq_getElem?_getD, List.getElem?_map, List.getElem?_range h]
  rfl
theorem set_setJ {l : List (BitVec 64)} {i : Nat} {x y : BitVec 64} : (l.set i x).set i y = l.set i y := List.set_set ..
/-- one row's gaps up to p -/
def RIg (h : HP) (ra n i p : Nat) (S P : List Int) : Prop := RIP h ra n S ((tP (dr n) i (FC n)).set i (rdA n i p : Int)) ((dgT n i).set i (ddA n i p)) (tP (arK n) (i * (n - 1) + p) (FC n * (n - 1))) (tP (bsK n) (i * (n - 1) + p) (FC n * (n - 1))) P
set_option maxHeartbeats 32000000 in
theorem fg_step (d : Nat) {h : HP} {ra n i p : Nat} {S P : List Int} {y4 : Option AV} (h1 : 1 ≤ n) (h6 : n ≤ 6) (hi : i < FC n) (hp : p < n - 1) (hP : plI n i P) (hR : RIg h ra n i p S P) : ∃ h', RIg h' ra n i (p + 1) S P ∧ Fr (ra + 12) (ra + 16) h h' ∧ ∀ R : PO, (AWh (d + 2) [] 33 R 2 [some (mR ra), some (mI (i : Int)), some (mR (ra + 16)), some (mI (p : Int)), y4] [] h (0, 0) ↔ AWh (d + 2) [] 33 R 2 [some (mR ra), some (mI (i : Int)), some (mR (ra + 16)), some (mI ((p + 1 : Nat) : Int)), some (mI ((ar n i p : Nat) : Int))] [] h' (0, 0)) := by
  unfold RIg at hR
  have f1 := FC_le n
  have fg := FCg_le h1 h6
  have gl := gap_lt hi hp
  obtain ⟨-, k2⟩ := ai_ok h1 h6 hi hp
  have kd := dn_dg h1 h6 hi hp
  have bx := num_31 h1 h6 (bs_ok h1 h6 hi hp)
  have kf := fnd_num h1 h6 (bs_ok h1 h6 hi hp)
  have pu := hP.2 p (by omega)
  have pv := hP.2 (p + 1) (by omega)
  have lP := hP.1
  have u10 := dg_lt n (num n i) p
  have v10 := dg_lt n (num n i) (p + 1)
  have jp : p < P.length := by omega
  have jq : p + 1 < P.length := by omega
  have LP : P.length < 2147483648 := by omega
  have bp : p < 2147483648 := by omega
  have bq : p + 1 < 2147483648 := by omega
  have bi : i < 2147483648 := by omega
  have bg : n - 1 < 2147483648 := by omega
  have p31 : p < 31 := by omega
  have cp : (p : Int) < ((n - 1 : Nat) : Int) := by omega
  have e1 : (p : Int) + 1 = ((p + 1 : Nat) : Int) := by omega
  have et : (n : Int) - 2 - (p : Int) = ((n - 2 - p : Nat) : Int) := by omega
  have t7 : n - 2 - p < 7 := by omega
  have hrd := rdA_lt (n := n) (i := i) p (by omega)
  have brd : rdA n i p < 2147483648 := by omega
  have bk : i * (n - 1) + p < 2147483648 := by omega
  have jA : i * (n - 1) + p < (tP (arK n) (i * (n - 1) + p) (FC n * (n - 1))).length := by rw [tP_len]; exact gl
  have LA : (tP (arK n) (i * (n - 1) + p) (FC n * (n - 1))).length < 2147483648 := by rw [tP_len]; omega
  have jB : i * (n - 1) + p < (tP (bsK n) (i * (n - 1) + p) (FC n * (n - 1))).length := by rw [tP_len]; exact gl
  have LB : (tP (bsK n) (i * (n - 1) + p) (FC n * (n - 1))).length < 2147483648 := by rw [tP_len]; omega
  have jD : i < ((tP (dr n) i (FC n)).set i (rdA n i p : Int)).length := by rw [List.length_set, tP_len]; exact hi
  have LD : ((tP (dr n) i (FC n)).set i (rdA n i p : Int)).length < 2147483648 := by rw [List.length_set, tP_len]; exact FC_31 n
  have jG : i < ((dgT n i).set i (ddA n i p)).length := by rw [List.length_set, dgT_len]; exact hi
  have LG : ((dgT n i).set i (ddA n i p)).length < 2147483648 := by rw [List.length_set, dgT_len]; exact FC_31 n
  have vD : ((tP (dr n) i (FC n)).set i (rdA n i p : Int)).getD i 0 = (rdA n i p : Int) := by rw [getD_set (by rw [tP_len]; exact hi), if_pos rfl]
  have vG : ((dgT n i).set i (ddA n i p)).getD i 0 = ddA n i p := by rw [getD_set (by rw [dgT_len]; exact hi), if_pos rfl]
  have tA : (tP (arK n) (i * (n - 1) + p) (FC n * (n - 1))).set (i * (n - 1) + p) ((ar n i p : Nat) : Int) = tP (arK n) (i * (n - 1) + (p + 1)) (FC n * (n - 1)) := tP_set gl rfl
  have tB : (tP (bsK n) (i * (n - 1) + p) (FC n * (n - 1))).set (i * (n - 1) + p) ((bs n i p : Nat) : Int) = tP (bsK n) (i * (n - 1) + (p + 1)) (FC n * (n - 1)) := tP_set gl rfl
  have m1 := RIP_14 (l := tP (arK n) (i * (n - 1) + (p + 1)) (FC n * (n - 1))) hR
  have fr1 : Fr (ra + 12) (ra + 16) h (pA h (ra + 14) (tP (arK n) (i * (n - 1) + (p + 1)) (FC n * (n - 1)))) := Fr_pA (by omega) (by omega)
  have ca := c4_arcIn (d + 0) h1 h6 hi hp hP hR
  have e64 : ar n i p < 64 := ar_64 n i p
  have bu : dg n (num n i) p < 2147483648 := by omega
  have bv : dg n (num n i) (p + 1) < 2147483648 := by omega
  cases hd : dn n i p
  · rw [hd] at kd
    have nlt : ¬ ((dg n (num n i) (p + 1) : Nat) : Int) < ((dg n (num n i) p : Nat) : Int) := by
      have := of_decide_eq_false kd.symm
      omega
    have er : rdA n i (p + 1) = rdA n i p := by rw [rdA_succ, hd, if_neg (by decide)]
    have ed : ddA n i (p + 1) = ddA n i p := by rw [ddA_succ, hd, if_neg (by decide)]
    have m4 := RIP_15 (l := tP (bsK n) (i * (n - 1) + (p + 1)) (FC n * (n - 1))) m1
    have fr4 : Fr (ra + 12) (ra + 16) (pA h (ra + 14) (tP (arK n) (i * (n - 1) + (p + 1)) (FC n * (n - 1)))) (pA (pA h (ra + 14) (tP (arK n) (i * (n - 1) + (p + 1)) (FC n * (n - 1)))) (ra + 15) (tP (bsK n) (i * (n - 1) + (p + 1)) (FC n * (n - 1)))) := Fr_pA (by omega) (by omega)
    refine ⟨_, by unfold RIg; rw [er, ed]; exact m4, Fr_trans fr1 fr4, fun R => ?_⟩
    have cf := c4v_find (d + 1) (x := ((num n (bs n i p) : Nat) : Int)) m1.1 (w32_nat bx)
    rw [kf] at cf
    have ti := T_in (x := ((n - 2 - p : Nat) : Int)) rfl t7
    have tg := T_get (x := ((n - 2 - p : Nat) : Int)) rfl t7
    rw [AWh_k, k_X4_fillGaps_2]
    simp only [AW_k, AWk_1, x_push_i, x_push_l, x_istore_3, x_iload_3, x_aload_0, x_aloads_0, x_getf, x_icmp_ge, x_aload_2, x_aloads_2, x_callv_3, x_istore_4, x_iload_1, x_imul, x_iadd, x_iload_4, x_iast, x_iald, x_ialds, x_icmp_le, x_dup2_ir, x_ishl, x_ior, x_lald, x_lshl, x_lor, x_last, x_isub, x_gets, x_callv_2, x_iinc_3, x_goto, x_ret, x_ret_i, x_ret_z, x_ret_l, x_ret_c, unl_i, unl_l, unl_q, unl_r, unl_s, unl_n, k_X4_fillGaps_0, k_X4_fillGaps_1, k_X4_fillGaps_2, k_X4_fillGaps_3, k_X4_fillGaps_4, k_X4_fillGaps_5, k_X4_fillGaps_6, k_X4_fillGaps_7, k_X4_fillGaps_8, k_X4_fillGaps_9, k_X4_fillGaps_10, k_X4_fillGaps_11, k_X4_fillGaps_12, k_X4_fillGaps_13, k_X4_fillGaps_14, k_X4_fillGaps_15, k_X4_fillGaps_16, k_X4_fillGaps_17, k_X4_fillGaps_18, k_X4_fillGaps_19, k_X4_fillGaps_20, k_X4_fillGaps_21, k_X4_fillGaps_22, k_X4_fillGaps_23, k_X4_fillGaps_24, k_X4_fillGaps_25, k_X4_fillGaps_26, k_X4_fillGaps_27, k_X4_fillGaps_28, k_X4_fillGaps_29, k_X4_fillGaps_30, k_X4_fillGaps_31, k_X4_fillGaps_32, k_X4_fillGaps_33, k_X4_fillGaps_34, k_X4_fillGaps_35, k_X4_fillGaps_36, k_X4_fillGaps_37, k_X4_fillGaps_38, k_X4_fillGaps_39, k_X4_fillGaps_40, k_X4_fillGaps_41, k_X4_fillGaps_42, k_X4_fillGaps_43, k_X4_fillGaps_44, k_X4_fillGaps_45, k_X4_fillGaps_46, k_X4_fillGaps_47, k_X4_fillGaps_48, k_X4_fillGaps_49, k_X4_fillGaps_50, k_X4_fillGaps_51, k_X4_fillGaps_52, k_X4_fillGaps_53, k_X4_fillGaps_54, k_X4_fillGaps_55, k_X4_fillGaps_56, k_X4_fillGaps_57, k_X4_fillGaps_58, k_X4_fillGaps_59, k_X4_fillGaps_60, k_X4_fillGaps_61, k_X4_fillGaps_62, k_X4_fillGaps_63, k_X4_fillGaps_64, k_X4_fillGaps_65, k_X4_fillGaps_66, k_X4_fillGaps_67, k_X4_fillGaps_68, k_X4_fillGaps_69, k_X4_fillGaps_70, k_X4_fillGaps_71, k_X4_fillGaps_72, k_X4_fillGaps_73, k_X4_fillGaps_74, k_X4_fillGaps_75, k_X4_fillGaps_76, k_X4_fillGaps_77, k_X4_fillGaps_78, k_X4_fillGaps_79, k_X4_fillGaps_80, k_X4_fillGaps_81, k_X4_fillGaps_82, k_X4_fillGaps_83, k_X4_fillGaps_84, k_X4_fillGaps_85, k_X4_fillGaps_86, k_X4_fillGaps_87, k_X4_fillGaps_88, oE_some, Int.reduceToNat, Nat.reduceAdd, true_and, and_true, List.length_cons, List.length_nil, Option.toList_some, Option.toList_none, List.cons_append, List.nil_append, Nat.reduceLeDiff, Nat.le_refl, wdS_nil, wdS_i, wdS_l, wdS_r, wdS_n, wdS_s, hR.2.1.1, gC_of hR.1.2.1, ca, hR.2.1.2.2.2.2.2.1, hR.2.2.2.2.2.1, gp_eq, inB_n jA LA, w32_tn bk, tA, m1.2.2.2.2.2.2.2, inB_n jp LP, inB_n jq LP, gtW bp pu, gtW bq pv, e1, m1.2.1.2.2.2.2.2.2.1, m1.2.1.1, m1.1.2.2.2.1, m1.1.2.2.2.2, bI rfl hi (FC_31 n), gI rfl hi (FC_31 n), m1.1.2.1, et, ti, tg, k2, gC_of m1.1.2.1, cf, m1.2.2.2.2.2.2.1, inB_n jB LB, tB]
    rw [w32_nat bp, w32_nat bg, if_pos cp, w32_nat bu, w32_nat bv, if_neg nlt]
  · rw [hd] at kd
    have lt : ((dg n (num n i) (p + 1) : Nat) : Int) < ((dg n (num n i) p : Nat) : Int) := by
      have := of_decide_eq_true kd.symm
      omega
    have er : rdA n i (p + 1) = rdA n i p ||| 2 ^ p := by rw [rdA_succ, hd, if_pos rfl]
    have ed : ddA n i (p + 1) = ddA n i p ||| 1#64 <<< ar n i p := by rw [ddA_succ, hd, if_pos rfl]
    have m2 := RIP_12 (l := (tP (dr n) i (FC n)).set i (rdA n i (p + 1) : Int)) m1
    have m3 := RIP_13 (l := (dgT n i).set i (ddA n i (p + 1))) m2
    have m4 := RIP_15 (l := tP (bsK n) (i * (n - 1) + (p + 1)) (FC n * (n - 1))) m3
    have fr4 := Fr_trans (Fr_trans (Fr_trans fr1 (Fr_pA (a := ra + 12) (b := ra + 16) (x := ra + 12) (l := (tP (dr n) i (FC n)).set i (rdA n i (p + 1) : Int)) (by omega) (by omega))) (Fr_pJ (a := ra + 12) (b := ra + 16) (x := ra + 13) (l := (dgT n i).set i (ddA n i (p + 1))) (by omega) (by omega))) (Fr_pA (a := ra + 12) (b := ra + 16) (x := ra + 15) (l := tP (bsK n) (i * (n - 1) + (p + 1)) (FC n * (n - 1))) (by omega) (by omega))
    refine ⟨_, m4, fr4, fun R => ?_⟩
    have p2 := pow31 p31
    have eor : iOr (rdA n i p : Int) (iShl 1 (p : Int)) = (rdA n i (p + 1) : Int) := by rw [er, iShl_1 p31, iOr_nat brd p2]
    have cf := c4v_find (d + 1) (x := ((num n (bs n i p) : Nat) : Int)) m3.1 (w32_nat bx)
    rw [kf] at cf
    have ti := T_in (x := ((n - 2 - p : Nat) : Int)) rfl t7
    have tg := T_get (x := ((n - 2 - p : Nat) : Int)) rfl t7
    rw [AWh_k, k_X4_fillGaps_2]
    simp only [AW_k, AWk_1, x_push_i, x_push_l, x_istore_3, x_iload_3, x_aload_0, x_aloads_0, x_getf, x_icmp_ge, x_aload_2, x_aloads_2, x_callv_3, x_istore_4, x_iload_1, x_imul, x_iadd, x_iload_4, x_iast, x_iald, x_ialds, x_icmp_le, x_dup2_ir, x_ishl, x_ior, x_lald, x_lshl, x_lor, x_last, x_isub, x_gets, x_callv_2, x_iinc_3, x_goto, x_ret, x_ret_i, x_ret_z, x_ret_l, x_ret_c, unl_i, unl_l, unl_q, unl_r, unl_s, unl_n, k_X4_fillGaps_0, k_X4_fillGaps_1, k_X4_fillGaps_2, k_X4_fillGaps_3, k_X4_fillGaps_4, k_X4_fillGaps_5, k_X4_fillGaps_6, k_X4_fillGaps_7, k_X4_fillGaps_8, k_X4_fillGaps_9, k_X4_fillGaps_10, k_X4_fillGaps_11, k_X4_fillGaps_12, k_X4_fillGaps_13, k_X4_fillGaps_14, k_X4_fillGaps_15, k_X4_fillGaps_16, k_X4_fillGaps_17, k_X4_fillGaps_18, k_X4_fillGaps_19, k_X4_fillGaps_20, k_X4_fillGaps_21, k_X4_fillGaps_22, k_X4_fillGaps_23, k_X4_fillGaps_24, k_X4_fillGaps_25, k_X4_fillGaps_26, k_X4_fillGaps_27, k_X4_fillGaps_28, k_X4_fillGaps_29, k_X4_fillGaps_30, k_X4_fillGaps_31, k_X4_fillGaps_32, k_X4_fillGaps_33, k_X4_fillGaps_34, k_X4_fillGaps_35, k_X4_fillGaps_36, k_X4_fillGaps_37, k_X4_fillGaps_38, k_X4_fillGaps_39, k_X4_fillGaps_40, k_X4_fillGaps_41, k_X4_fillGaps_42, k_X4_fillGaps_43, k_X4_fillGaps_44, k_X4_fillGaps_45, k_X4_fillGaps_46, k_X4_fillGaps_47, k_X4_fillGaps_48, k_X4_fillGaps_49, k_X4_fillGaps_50, k_X4_fillGaps_51, k_X4_fillGaps_52, k_X4_fillGaps_53, k_X4_fillGaps_54, k_X4_fillGaps_55, k_X4_fillGaps_56, k_X4_fillGaps_57, k_X4_fillGaps_58, k_X4_fillGaps_59, k_X4_fillGaps_60, k_X4_fillGaps_61, k_X4_fillGaps_62, k_X4_fillGaps_63, k_X4_fillGaps_64, k_X4_fillGaps_65, k_X4_fillGaps_66, k_X4_fillGaps_67, k_X4_fillGaps_68, k_X4_fillGaps_69, k_X4_fillGaps_70, k_X4_fillGaps_71, k_X4_fillGaps_72, k_X4_fillGaps_73, k_X4_fillGaps_74, k_X4_fillGaps_75, k_X4_fillGaps_76, k_X4_fillGaps_77, k_X4_fillGaps_78, k_X4_fillGaps_79, k_X4_fillGaps_80, k_X4_fillGaps_81, k_X4_fillGaps_82, k_X4_fillGaps_83, k_X4_fillGaps_84, k_X4_fillGaps_85, k_X4_fillGaps_86, k_X4_fillGaps_87, k_X4_fillGaps_88, oE_some, Int.reduceToNat, Nat.reduceAdd, true_and, and_true, List.length_cons, List.length_nil, Option.toList_some, Option.toList_none, List.cons_append, List.nil_append, Nat.reduceLeDiff, Nat.le_refl, wdS_nil, wdS_i, wdS_l, wdS_r, wdS_n, wdS_s, hR.2.1.1, gC_of hR.1.2.1, ca, hR.2.1.2.2.2.2.2.1, hR.2.2.2.2.2.1, gp_eq, inB_n jA LA, w32_tn bk, tA, m1.2.2.2.2.2.2.2, inB_n jp LP, inB_n jq LP, gtW bp pu, gtW bq pv, e1, m1.2.1.2.2.2.1, m1.2.2.2.1, inB_n jD LD, gtW bi vD, vD, tI_get (f := num n) hi, eor, w32_tn bi, set_set, m2.2.1.2.2.2.2.1, m2.2.2.2.2.1, inB_n jG LG, vG, sh_ar, ← ed, set_setJ, m3.2.2.2.2.2.2.2, m3.2.1.2.2.2.2.2.2.1, m3.2.1.1, m3.1.2.2.2.1, m3.1.2.2.2.2, bI rfl hi (FC_31 n), gI rfl hi (FC_31 n), m3.1.2.1, et, ti, tg, k2, gC_of m3.1.2.1, cf, m3.2.2.2.2.2.2.1, inB_n jB LB, tB]
    rw [w32_nat bp, w32_nat bg, if_pos cp, w32_nat bu, w32_nat bv, if_pos lt]
