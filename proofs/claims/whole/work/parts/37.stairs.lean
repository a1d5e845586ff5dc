/-! ===== stairs, the list ===== -/
def STS (hp : HP) (a c : Nat) (tl : List Int) : Prop := gF hp a 7 0 = some (mI (c : Int)) ∧ gF hp a 7 1 = some (mR (a + 1)) ∧ gA hp (a + 1) = some tl
def stOK (c : Nat) (tl : List Int) : Prop := c ≤ 15 ∧ tl.length = 30 ∧ ∀ k, w32 (tl.getD k 0) = tl.getD k 0
theorem STS_Fr {hp h : HP} {a c x y : Nat} {tl : List Int} (m : STS hp a c tl) (f : Fr x y hp h) (o : a + 2 ≤ x ∨ y ≤ a) : STS h a c tl := ⟨by rw [gF_Fr f (by omega), m.1], by rw [gF_Fr f (by omega), m.2.1], by rw [gA_Fr f (by omega), m.2.2]⟩
theorem STS_A {hp : HP} {a c : Nat} {tl l : List Int} (m : STS hp a c tl) : STS (pA hp (a + 1) l) a c l := ⟨by rw [gF_pA, m.1], by rw [gF_pA, m.2.1], gA_pA_same m.2.2⟩
theorem STS_F {hp : HP} {a c e : Nat} {tl : List Int} (m : STS hp a c tl) : STS (pF hp a 7 0 (mI (e : Int))) a e tl := ⟨gF_pF_same m.1, by rw [gF_pF (by omega), m.2.1], by rw [gA_pF, m.2.2]⟩
/-- down from now: what is told, how many steps -/
def gdF (n : Nat) (G : BitVec 64) : Nat → Nat → Nat → List Int → List Int × Nat
  | 0, j, _, tl => (tl, j)
  | k + 1, j, now, tl => match fgo n G now (mD n now) with
    | some p => gdF n G k (j + 1) (bs n now p) ((tl.set (2 * j + 1) ((ar n now p : Nat) : Int)).set (2 * j) ((num n (bs n now p) : Nat) : Int))
    | none => (tl, j)
theorem gdF_some {n k j now p : Nat} {G : BitVec 64} {tl : List Int} (e : fgo n G now (mD n now) = some p) : gdF n G (k + 1) j now tl = gdF n G k (j + 1) (bs n now p) ((tl.set (2 * j + 1) ((ar n now p : Nat) : Int)).set (2 * j) ((num n (bs n now p) : Nat) : Int)) := by
  show (match fgo n G now (mD n now) with | some p => _ | none => _) = _
  rw [e]
theorem gdF_none {n k j now : Nat} {G : BitVec 64} {tl : List Int} (e : fgo n G now (mD n now) = none) : gdF n G (k + 1) j now tl = (tl, j) := by
  show (match fgo n G now (mD n now) with | some p => _ | none => _) = _
  rw [e]
set_option maxHeartbeats 16000000 in
theorem c7_goDown (d : Nat) {hp : HP} {a ra n c i : Nat} {G : BitVec 64} {tl : List Int} (hR : RWS hp ra n) (hS : STS hp a c tl) (ht : tl.length = 30) (hi : i < FC n) (ho : a + 2 ≤ ra ∨ ra + 16 ≤ a) : ∃ h', STS h' a (gdF n G 15 0 i tl).2 (gdF n G 15 0 i tl).1 ∧ Fr a (a + 2) hp h' ∧ ∀ R : PO, callD (d + 2) 69 [mR a, mR ra, mL G, mI (i : Int)] hp R ↔ R (some (mI ((gdF n G 15 0 i tl).2 : Int))) h' := by
  have h1 := rw_1 hR
  have h6 := rw_6 hR
  have f1 := FC_le n
  have key : ∀ (k j now : Nat) (tl : List Int) (h : HP) (y : Option AV), j + k = 15 → now < FC n → tl.length = 30 → RWS h ra n → STS h a j tl → ∃ h', STS h' a (gdF n G k j now tl).2 (gdF n G k j now tl).1 ∧ Fr a (a + 2) h h' ∧ ∀ R : PO, AWh (d + 1) [] 69 R 7 [some (mR a), some (mR ra), some (mL G), none, some (mI (i : Int)), some (mI (now : Int)), some (mI (j : Int)), y] [] h (0, 0) ↔ R (some (mI ((gdF n G k j now tl).2 : Int))) h' := by
    intro k
    induction k with
    | zero =>
      intro j now tl h y hj hn htl hR hS
      have e : j = 15 := by omega
      subst e
      refine ⟨h, hS, Fr_refl h, fun R => ?_⟩
      rw [AWh_k, k_X7_goDown_7]
      simp only [AW_k, AWk_1, x_iload_4, x_istore_5, x_aload_0, x_aloads_0, x_push_i, x_push_l, x_putf_i, x_istore_6, x_iload_6, x_icmp_ge, x_aload_1, x_aloads_1, x_iload_5, x_getf, x_iald, x_ialds, x_lload_2, x_callv_4, x_istore_7, x_iload_7, x_if_ge, x_goto, x_imul, x_iadd, x_iast, x_dup_i, x_dup_r, x_dup_q, x_iinc_6, x_ret, x_ret_i, x_ret_z, x_ret_l, x_ret_c, unl_i, unl_l, unl_q, unl_r, unl_s, unl_n, k_X7_goDown_0, k_X7_goDown_1, k_X7_goDown_2, k_X7_goDown_3, k_X7_goDown_4, k_X7_goDown_5, k_X7_goDown_6, k_X7_goDown_7, k_X7_goDown_8, k_X7_goDown_9, k_X7_goDown_10, k_X7_goDown_11, k_X7_goDown_12, k_X7_goDown_13, k_X7_goDown_14, k_X7_goDown_15, k_X7_goDown_16, k_X7_goDown_17, k_X7_goDown_18, k_X7_goDown_19, k_X7_goDown_20, k_X7_goDown_21, k_X7_goDown_22, k_X7_goDown_23, k_X7_goDown_24, k_X7_goDown_25, k_X7_goDown_26, k_X7_goDown_27, k_X7_goDown_28, k_X7_goDown_29, k_X7_goDown_30, k_X7_goDown_31, k_X7_goDown_32, k_X7_goDown_33, k_X7_goDown_34, k_X7_goDown_35, k_X7_goDown_36, k_X7_goDown_37, k_X7_goDown_38, k_X7_goDown_39, k_X7_goDown_40, k_X7_goDown_41, k_X7_goDown_42, k_X7_goDown_43, k_X7_goDown_44, k_X7_goDown_45, k_X7_goDown_46, k_X7_goDown_47, k_X7_goDown_48, k_X7_goDown_49, k_X7_goDown_50, k_X7_goDown_51, k_X7_goDown_52, k_X7_goDown_53, k_X7_goDown_54, k_X7_goDown_55, k_X7_goDown_56, k_X7_goDown_57, k_X7_goDown_58, k_X7_goDown_59, k_X7_goDown_60, k_X7_goDown_61, k_X7_goDown_62, k_X7_goDown_63, k_X7_goDown_64, k_X7_goDown_65, k_X7_goDown_66, k_X7_goDown_67, k_X7_goDown_68, k_X7_goDown_69, oE_some, Int.reduceToNat, Nat.reduceAdd, true_and, and_true, List.length_cons, List.length_nil, Option.toList_some, Option.toList_none, List.cons_append, List.nil_append, Nat.reduceLeDiff, Nat.le_refl, wdS_nil, wdS_i, wdS_l, wdS_r, wdS_n, wdS_s, hS.1]
      rw [if_neg (by decide)]
      exact Iff.rfl
    | succ k ih =>
      intro j now tl h y hj hn htl hR hS
      have bj : j < 2147483648 := by omega
      have cj : (j : Int) < 15 := by omega
      cases e : fgo n G now (mD n now) with
      | none =>
        rw [gdF_none e]
        have eo : oI (fgo n G now (mD n now)) = -1 := by rw [e]; rfl
        refine ⟨h, hS, Fr_refl h, fun R => ?_⟩
        rw [AWh_k, k_X7_goDown_7]
        simp only [AW_k, AWk_1, x_iload_4, x_istore_5, x_aload_0, x_aloads_0, x_push_i, x_push_l, x_putf_i, x_istore_6, x_iload_6, x_icmp_ge, x_aload_1, x_aloads_1, x_iload_5, x_getf, x_iald, x_ialds, x_lload_2, x_callv_4, x_istore_7, x_iload_7, x_if_ge, x_goto, x_imul, x_iadd, x_iast, x_dup_i, x_dup_r, x_dup_q, x_iinc_6, x_ret, x_ret_i, x_ret_z, x_ret_l, x_ret_c, unl_i, unl_l, unl_q, unl_r, unl_s, unl_n, k_X7_goDown_0, k_X7_goDown_1, k_X7_goDown_2, k_X7_goDown_3, k_X7_goDown_4, k_X7_goDown_5, k_X7_goDown_6, k_X7_goDown_7, k_X7_goDown_8, k_X7_goDown_9, k_X7_goDown_10, k_X7_goDown_11, k_X7_goDown_12, k_X7_goDown_13, k_X7_goDown_14, k_X7_goDown_15, k_X7_goDown_16, k_X7_goDown_17, k_X7_goDown_18, k_X7_goDown_19, k_X7_goDown_20, k_X7_goDown_21, k_X7_goDown_22, k_X7_goDown_23, k_X7_goDown_24, k_X7_goDown_25, k_X7_goDown_26, k_X7_goDown_27, k_X7_goDown_28, k_X7_goDown_29, k_X7_goDown_30, k_X7_goDown_31, k_X7_goDown_32, k_X7_goDown_33, k_X7_goDown_34, k_X7_goDown_35, k_X7_goDown_36, k_X7_goDown_37, k_X7_goDown_38, k_X7_goDown_39, k_X7_goDown_40, k_X7_goDown_41, k_X7_goDown_42, k_X7_goDown_43, k_X7_goDown_44, k_X7_goDown_45, k_X7_goDown_46, k_X7_goDown_47, k_X7_goDown_48, k_X7_goDown_49, k_X7_goDown_50, k_X7_goDown_51, k_X7_goDown_52, k_X7_goDown_53, k_X7_goDown_54, k_X7_goDown_55, k_X7_goDown_56, k_X7_goDown_57, k_X7_goDown_58, k_X7_goDown_59, k_X7_goDown_60, k_X7_goDown_61, k_X7_goDown_62, k_X7_goDown_63, k_X7_goDown_64, k_X7_goDown_65, k_X7_goDown_66, k_X7_goDown_67, k_X7_goDown_68, k_X7_goDown_69, oE_some, Int.reduceToNat, Nat.reduceAdd, true_and, and_true, List.length_cons, List.length_nil, Option.toList_some, Option.toList_none, List.cons_append, List.nil_append, Nat.reduceLeDiff, Nat.le_refl, wdS_nil, wdS_i, wdS_l, wdS_r, wdS_n, wdS_s, rC0 hR, rw_drops hR, rA_12 hR, bI rfl hn (FC_31 n), gI rfl hn (FC_31 n), c4_firstGone d hR hn msk_d, eo, hS.1]
        rw [w32_nat bj, show w32 15 = 15 from rfl, if_pos cj, if_pos (by decide)]
      | some p =>
        rw [gdF_some e]
        have hp1 := fgo_lt e
        have hb := bs_ok h1 h6 hn hp1
        have eo : oI (fgo n G now (mD n now)) = (p : Int) := by rw [e]; rfl
        have bp : p < 2147483648 := by omega
        have cp : ¬ (p : Int) < 0 := by omega
        have e1 : ((2 * j : Nat) : Int) + 1 = ((2 * j + 1 : Nat) : Int) := by omega
        have e2 : (j : Int) * 2 = ((2 * j : Nat) : Int) := by omega
        have j1 : 2 * j + 1 < tl.length := by omega
        have L1 : tl.length < 2147483648 := by omega
        have j2 : 2 * j < (tl.set (2 * j + 1) ((ar n now p : Nat) : Int)).length := by rw [List.length_set]; omega
        have L2 : (tl.set (2 * j + 1) ((ar n now p : Nat) : Int)).length < 2147483648 := by rw [List.length_set]; omega
        have b1 : 2 * j + 1 < 2147483648 := by omega
        have b2 : 2 * j < 2147483648 := by omega
        have ej : (j : Int) + 1 = ((j + 1 : Nat) : Int) := by omega
        have s1 := STS_A (l := tl.set (2 * j + 1) ((ar n now p : Nat) : Int)) hS
        have f1 : Fr a (a + 2) h (pA h (a + 1) (tl.set (2 * j + 1) ((ar n now p : Nat) : Int))) := Fr_pA (by omega) (by omega)
        have R1 := RWS_Fr hR f1 (by omega)
        have s2 := STS_A (l := (tl.set (2 * j + 1) ((ar n now p : Nat) : Int)).set (2 * j) ((num n (bs n now p) : Nat) : Int)) s1
        have f2 : Fr a (a + 2) (pA h (a + 1) (tl.set (2 * j + 1) ((ar n now p : Nat) : Int))) (pA (pA h (a + 1) (tl.set (2 * j + 1) ((ar n now p : Nat) : Int))) (a + 1) ((tl.set (2 * j + 1) ((ar n now p : Nat) : Int)).set (2 * j) ((num n (bs n now p) : Nat) : Int))) := Fr_pA (by omega) (by omega)
        have R2 := RWS_Fr R1 f2 (by omega)
        have s3 := STS_F (e := j + 1) s2
        have f3 : Fr a (a + 2) (pA (pA h (a + 1) (tl.set (2 * j + 1) ((ar n now p : Nat) : Int))) (a + 1) ((tl.set (2 * j + 1) ((ar n now p : Nat) : Int)).set (2 * j) ((num n (bs n now p) : Nat) : Int))) (pF (pA (pA h (a + 1) (tl.set (2 * j + 1) ((ar n now p : Nat) : Int))) (a + 1) ((tl.set (2 * j + 1) ((ar n now p : Nat) : Int)).set (2 * j) ((num n (bs n now p) : Nat) : Int))) a 7 0 (mI ((j + 1 : Nat) : Int))) := Fr_pF (by omega) (by omega)
        have R3 := RWS_Fr R2 f3 (by omega)
        obtain ⟨h', u1, u2, u3⟩ := ih (j + 1) (bs n now p) ((tl.set (2 * j + 1) ((ar n now p : Nat) : Int)).set (2 * j) ((num n (bs n now p) : Nat) : Int)) _ (some (mI (p : Int))) (by omega) hb (by rw [List.length_set, List.length_set]; exact htl) R3 s3
        refine ⟨h', u1, Fr_trans (Fr_trans (Fr_trans f1 f2) f3) u2, fun R => ?_⟩
        rw [AWh_k, k_X7_goDown_7]
        simp only [AW_k, AWk_1, x_iload_4, x_istore_5, x_aload_0, x_aloads_0, x_push_i, x_push_l, x_putf_i, x_istore_6, x_iload_6, x_icmp_ge, x_aload_1, x_aloads_1, x_iload_5, x_getf, x_iald, x_ialds, x_lload_2, x_callv_4, x_istore_7, x_iload_7, x_if_ge, x_goto, x_imul, x_iadd, x_iast, x_dup_i, x_dup_r, x_dup_q, x_iinc_6, x_ret, x_ret_i, x_ret_z, x_ret_l, x_ret_c, unl_i, unl_l, unl_q, unl_r, unl_s, unl_n, k_X7_goDown_0, k_X7_goDown_1, k_X7_goDown_2, k_X7_goDown_3, k_X7_goDown_4, k_X7_goDown_5, k_X7_goDown_6, k_X7_goDown_7, k_X7_goDown_8, k_X7_goDown_9, k_X7_goDown_10, k_X7_goDown_11, k_X7_goDown_12, k_X7_goDown_13, k_X7_goDown_14, k_X7_goDown_15, k_X7_goDown_16, k_X7_goDown_17, k_X7_goDown_18, k_X7_goDown_19, k_X7_goDown_20, k_X7_goDown_21, k_X7_goDown_22, k_X7_goDown_23, k_X7_goDown_24, k_X7_goDown_25, k_X7_goDown_26, k_X7_goDown_27, k_X7_goDown_28, k_X7_goDown_29, k_X7_goDown_30, k_X7_goDown_31, k_X7_goDown_32, k_X7_goDown_33, k_X7_goDown_34, k_X7_goDown_35, k_X7_goDown_36, k_X7_goDown_37, k_X7_goDown_38, k_X7_goDown_39, k_X7_goDown_40, k_X7_goDown_41, k_X7_goDown_42, k_X7_goDown_43, k_X7_goDown_44, k_X7_goDown_45, k_X7_goDown_46, k_X7_goDown_47, k_X7_goDown_48, k_X7_goDown_49, k_X7_goDown_50, k_X7_goDown_51, k_X7_goDown_52, k_X7_goDown_53, k_X7_goDown_54, k_X7_goDown_55, k_X7_goDown_56, k_X7_goDown_57, k_X7_goDown_58, k_X7_goDown_59, k_X7_goDown_60, k_X7_goDown_61, k_X7_goDown_62, k_X7_goDown_63, k_X7_goDown_64, k_X7_goDown_65, k_X7_goDown_66, k_X7_goDown_67, k_X7_goDown_68, k_X7_goDown_69, oE_some, Int.reduceToNat, Nat.reduceAdd, true_and, and_true, List.length_cons, List.length_nil, Option.toList_some, Option.toList_none, List.cons_append, List.nil_append, Nat.reduceLeDiff, Nat.le_refl, wdS_nil, wdS_i, wdS_l, wdS_r, wdS_n, wdS_s, rC0 hR, rw_drops hR, rA_12 hR, bI rfl hn (FC_31 n), gI rfl hn (FC_31 n), c4_firstGone d hR hn msk_d, eo, hS.1, hS.2.1, hS.2.2, rw_arcAt hR, rA_14 hR, rw_gaps hR, gp_in h1 h6 hn hp1, ar_get h1 h6 hn hp1, e1, inB_n j1 L1, w32_tn b1, s1.1, s1.2.1, s1.2.2, rw_beside R1, rA_15 R1, rw_gaps R1, bs_get h1 h6 hn hp1, rw_nums R1, rA_10 R1, bI rfl hb (FC_31 n), gI rfl hb (FC_31 n), e2, inB_n j2 L2, w32_tn b2, s2.1, ej]
        rw [w32_nat bj, show w32 15 = 15 from rfl, if_pos cj, w32_nat bp, if_neg cp]
        exact u3 R
  have s0 := STS_F (e := 0) hS
  have f0 : Fr a (a + 2) hp (pF hp a 7 0 (mI ((0 : Nat) : Int))) := Fr_pF (by omega) (by omega)
  have R0 := RWS_Fr hR f0 (by omega)
  obtain ⟨h', u1, u2, u3⟩ := key 15 0 i tl _ none rfl hi ht R0 s0
  refine ⟨h', u1, Fr_trans f0 u2, fun R => ?_⟩
  rw [callD_k]; simp only [entL_i, entL_l, entL_q, entL_s, entL_nil, n_X7_goDown, u_X7_goDown, m_X7_goDown, rep_3, List.cons_append, List.nil_append, List.append_nil, List.length_cons, List.length_nil, Nat.reduceAdd, true_and]
  simp only [AW_k, AWk_1, x_iload_4, x_istore_5, x_aload_0, x_aloads_0, x_push_i, x_push_l, x_putf_i, x_istore_6, x_iload_6, x_icmp_ge, x_aload_1, x_aloads_1, x_iload_5, x_getf, x_iald, x_ialds, x_lload_2, x_callv_4, x_istore_7, x_iload_7, x_if_ge, x_goto, x_imul, x_iadd, x_iast, x_dup_i, x_dup_r, x_dup_q, x_iinc_6, x_ret, x_ret_i, x_ret_z, x_ret_l, x_ret_c, unl_i, unl_l, unl_q, unl_r, unl_s, unl_n, k_X7_goDown_0, k_X7_goDown_1, k_X7_goDown_2, k_X7_goDown_3, k_X7_goDown_4, k_X7_goDown_5, k_X7_goDown_6, k_X7_goDown_7, k_X7_goDown_8, k_X7_goDown_9, k_X7_goDown_10, k_X7_goDown_11, k_X7_goDown_12, k_X7_goDown_13, k_X7_goDown_14, k_X7_goDown_15, k_X7_goDown_16, k_X7_goDown_17, k_X7_goDown_18, k_X7_goDown_19, k_X7_goDown_20, k_X7_goDown_21, k_X7_goDown_22, k_X7_goDown_23, k_X7_goDown_24, k_X7_goDown_25, k_X7_goDown_26, k_X7_goDown_27, k_X7_goDown_28, k_X7_goDown_29, k_X7_goDown_30, k_X7_goDown_31, k_X7_goDown_32, k_X7_goDown_33, k_X7_goDown_34, k_X7_goDown_35, k_X7_goDown_36, k_X7_goDown_37, k_X7_goDown_38, k_X7_goDown_39, k_X7_goDown_40, k_X7_goDown_41, k_X7_goDown_42, k_X7_goDown_43, k_X7_goDown_44, k_X7_goDown_45, k_X7_goDown_46, k_X7_goDown_47, k_X7_goDown_48, k_X7_goDown_49, k_X7_goDown_50, k_X7_goDown_51, k_X7_goDown_52, k_X7_goDown_53, k_X7_goDown_54, k_X7_goDown_55, k_X7_goDown_56, k_X7_goDown_57, k_X7_goDown_58, k_X7_goDown_59, k_X7_goDown_60, k_X7_goDown_61, k_X7_goDown_62, k_X7_goDown_63, k_X7_goDown_64, k_X7_goDown_65, k_X7_goDown_66, k_X7_goDown_67, k_X7_goDown_68, k_X7_goDown_69, oE_some, Int.reduceToNat, Nat.reduceAdd, true_and, and_true, List.length_cons, List.length_nil, Option.toList_some, Option.toList_none, List.cons_append, List.nil_append, Nat.reduceLeDiff, Nat.le_refl, wdS_nil, wdS_i, wdS_l, wdS_r, wdS_n, wdS_s, hS.1]
  exact u3 R
theorem sh_ar2 {n i p : Nat} : (((ar n i p : Nat) : Int) % 64).toNat = ar n i p := by
  have := ar_64 n i p
  omega
def isR (n : Nat) (G : BitVec 64) (i j : Nat) (arc : Int) : Bool := match fst (fun p => dn n i p && decide (bs n i p = j)) (n - 1) 0 with
  | some p => decide (((ar n i p : Nat) : Int) = arc) && G.getLsbD (ar n i p)
  | none => false
set_option maxHeartbeats 8000000 in
theorem c7_isRight (d : Nat) {hp : HP} {ra n i j : Nat} {G : BitVec 64} {arc : Int} (hR : RWS hp ra n) (hi : i < FC n) (hj : j < FC n) (ha : w32 arc = arc) (R : PO) : callD (d + 1) 71 [mR ra, mL G, mI (i : Int), mI (j : Int), mI arc] hp R ↔ R (some (mI (zI (isR n G i j arc)))) hp := by
  have h1 := rw_1 hR
  have h6 := rw_6 hR
  have f1 := FC_le n
  have bj : j < 2147483648 := by omega
  have ba : ∀ p, ar n i p < 2147483648 := fun p => Nat.lt_trans (ar_64 n i p) (by decide)
  have bb : ∀ p, bs n i p < 2147483648 := fun p => Nat.lt_trans (bs_10 n i p) (by decide)
  have bg : ∀ p, p < n - 1 → p < 2147483648 := fun p h => by omega
  have bn : n - 1 < 2147483648 := by omega
  have cg : ∀ p, p < n - 1 → (p : Int) < ((n - 1 : Nat) : Int) := fun p h => by omega
  have b32 : ∀ p, p < n - 1 → p < 32 := fun p h => by omega
  rw [callD_k]; simp only [entL_i, entL_l, entL_q, entL_s, entL_nil, n_X7_isRight, u_X7_isRight, m_X7_isRight, rep_2, List.cons_append, List.nil_append, List.append_nil, List.length_cons, List.length_nil, Nat.reduceAdd, true_and]
  simp only [AW_k, AWk_1, x_push_i, x_push_l, x_istore_6, x_iload_6, x_aload_0, x_aloads_0, x_getf, x_icmp_ge, x_iload_3, x_imul, x_iadd, x_istore_7, x_iald, x_ialds, x_ishr, x_iand, x_if_eq, x_iload_7, x_iload_4, x_icmp_ne, x_iload_5, x_lload_1, x_lushr, x_land, x_lcmp, x_goto, x_ret, x_ret_i, x_ret_z, x_ret_l, x_ret_c, x_iinc_6, unl_i, unl_l, unl_q, unl_r, unl_s, unl_n, k_X7_isRight_0, k_X7_isRight_1, k_X7_isRight_2, k_X7_isRight_3, k_X7_isRight_4, k_X7_isRight_5, k_X7_isRight_6, k_X7_isRight_7, k_X7_isRight_8, k_X7_isRight_9, k_X7_isRight_10, k_X7_isRight_11, k_X7_isRight_12, k_X7_isRight_13, k_X7_isRight_14, k_X7_isRight_15, k_X7_isRight_16, k_X7_isRight_17, k_X7_isRight_18, k_X7_isRight_19, k_X7_isRight_20, k_X7_isRight_21, k_X7_isRight_22, k_X7_isRight_23, k_X7_isRight_24, k_X7_isRight_25, k_X7_isRight_26, k_X7_isRight_27, k_X7_isRight_28, k_X7_isRight_29, k_X7_isRight_30, k_X7_isRight_31, k_X7_isRight_32, k_X7_isRight_33, k_X7_isRight_34, k_X7_isRight_35, k_X7_isRight_36, k_X7_isRight_37, k_X7_isRight_38, k_X7_isRight_39, k_X7_isRight_40, k_X7_isRight_41, k_X7_isRight_42, k_X7_isRight_43, k_X7_isRight_44, k_X7_isRight_45, k_X7_isRight_46, k_X7_isRight_47, k_X7_isRight_48, k_X7_isRight_49, oE_some, Int.reduceToNat, Nat.reduceAdd, true_and, and_true, List.length_cons, List.length_nil, Option.toList_some, Option.toList_none, List.cons_append, List.nil_append, Nat.reduceLeDiff, Nat.le_refl, wdS_nil, wdS_i, wdS_l, wdS_r, wdS_n, wdS_s]
  refine (loop_fst (P := fun p => AWh d [] 71 R 2 [some (mR ra), some (mL G), none, some (mI (i : Int)), some (mI (j : Int)), some (mI arc), some (mI (p : Int)), (if p = 0 then none else some (mI ((i : Int) * ((n - 1 : Nat) : Int) + ((p - 1 : Nat) : Int))))] [] hp (0, 0)) (E := fun p => R (some (mI (zI (decide (((ar n i p : Nat) : Int) = arc) && G.getLsbD (ar n i p))))) hp) (f := fun p => dn n i p && decide (bs n i p = j)) (N := n - 1) ?_ (n := n - 1) (a := 0) (by omega)).trans ?_
  · intro p hp1
    have m := @msk_d n i p (b32 p hp1)
    rw [if_neg (show ¬ p + 1 = 0 from Nat.succ_ne_zero p), Nat.add_sub_cancel]
    rw [AWh_k, k_X7_isRight_2]
    simp only [AW_k, AWk_1, x_push_i, x_push_l, x_istore_6, x_iload_6, x_aload_0, x_aloads_0, x_getf, x_icmp_ge, x_iload_3, x_imul, x_iadd, x_istore_7, x_iald, x_ialds, x_ishr, x_iand, x_if_eq, x_iload_7, x_iload_4, x_icmp_ne, x_iload_5, x_lload_1, x_lushr, x_land, x_lcmp, x_goto, x_ret, x_ret_i, x_ret_z, x_ret_l, x_ret_c, x_iinc_6, unl_i, unl_l, unl_q, unl_r, unl_s, unl_n, k_X7_isRight_0, k_X7_isRight_1, k_X7_isRight_2, k_X7_isRight_3, k_X7_isRight_4, k_X7_isRight_5, k_X7_isRight_6, k_X7_isRight_7, k_X7_isRight_8, k_X7_isRight_9, k_X7_isRight_10, k_X7_isRight_11, k_X7_isRight_12, k_X7_isRight_13, k_X7_isRight_14, k_X7_isRight_15, k_X7_isRight_16, k_X7_isRight_17, k_X7_isRight_18, k_X7_isRight_19, k_X7_isRight_20, k_X7_isRight_21, k_X7_isRight_22, k_X7_isRight_23, k_X7_isRight_24, k_X7_isRight_25, k_X7_isRight_26, k_X7_isRight_27, k_X7_isRight_28, k_X7_isRight_29, k_X7_isRight_30, k_X7_isRight_31, k_X7_isRight_32, k_X7_isRight_33, k_X7_isRight_34, k_X7_isRight_35, k_X7_isRight_36, k_X7_isRight_37, k_X7_isRight_38, k_X7_isRight_39, k_X7_isRight_40, k_X7_isRight_41, k_X7_isRight_42, k_X7_isRight_43, k_X7_isRight_44, k_X7_isRight_45, k_X7_isRight_46, k_X7_isRight_47, k_X7_isRight_48, k_X7_isRight_49, oE_some, Int.reduceToNat, Nat.reduceAdd, true_and, and_true, List.length_cons, List.length_nil, Option.toList_some, Option.toList_none, List.cons_append, List.nil_append, Nat.reduceLeDiff, Nat.le_refl, wdS_nil, wdS_i, wdS_l, wdS_r, wdS_n, wdS_s, rw_gaps hR, rw_drops hR, rA_12 hR, bI rfl hi (FC_31 n), gI rfl hi (FC_31 n), m, rw_beside hR, rA_15 hR, gp_in h1 h6 hi hp1, bs_get h1 h6 hi hp1, rw_arcAt hR, rA_14 hR, ar_get h1 h6 hi hp1, lCmp_eq, shr_one0, ha, or_true, true_or, R_ite]
    rw [w32_nat (bg p hp1), w32_nat bn, if_pos (cg p hp1), w32_nat (bb p), w32_nat (ba p), w32_nat bj]
    show (if mD n i p = false then _ else _) ↔ if (mD n i p && decide (bs n i p = j)) = true then _ else _
    cases mD n i p
    · exact Iff.rfl
    · rw [if_neg (by decide), Bool.true_and]
      by_cases e : bs n i p = j
      · rw [if_pos (show ((bs n i p : Nat) : Int) = (j : Int) by omega), if_pos (decide_eq_true e)]
        by_cases e2 : ((ar n i p : Nat) : Int) = arc
        · rw [if_pos e2, decide_eq_true e2, Bool.true_and, ← e2, sh_ar2]
          cases G.getLsbD (ar n i p) <;> exact Iff.rfl
        · rw [if_neg e2, decide_eq_false e2]; exact Iff.rfl
      · rw [if_neg (show ¬ ((bs n i p : Nat) : Int) = (j : Int) by omega), if_neg (by rw [decide_eq_false e]; decide)]
        exact Iff.rfl
  · unfold isR
    split
    · next p e => rw [e]
    · next e =>
      rw [e]
      show AWh _ _ _ _ _ _ _ _ _ ↔ _
      rw [AWh_k, k_X7_isRight_2]
      simp only [AW_k, AWk_1, x_push_i, x_push_l, x_istore_6, x_iload_6, x_aload_0, x_aloads_0, x_getf, x_icmp_ge, x_iload_3, x_imul, x_iadd, x_istore_7, x_iald, x_ialds, x_ishr, x_iand, x_if_eq, x_iload_7, x_iload_4, x_icmp_ne, x_iload_5, x_lload_1, x_lushr, x_land, x_lcmp, x_goto, x_ret, x_ret_i, x_ret_z, x_ret_l, x_ret_c, x_iinc_6, unl_i, unl_l, unl_q, unl_r, unl_s, unl_n, k_X7_isRight_0, k_X7_isRight_1, k_X7_isRight_2, k_X7_isRight_3, k_X7_isRight_4, k_X7_isRight_5, k_X7_isRight_6, k_X7_isRight_7, k_X7_isRight_8, k_X7_isRight_9, k_X7_isRight_10, k_X7_isRight_11, k_X7_isRight_12, k_X7_isRight_13, k_X7_isRight_14, k_X7_isRight_15, k_X7_isRight_16, k_X7_isRight_17, k_X7_isRight_18, k_X7_isRight_19, k_X7_isRight_20, k_X7_isRight_21, k_X7_isRight_22, k_X7_isRight_23, k_X7_isRight_24, k_X7_isRight_25, k_X7_isRight_26, k_X7_isRight_27, k_X7_isRight_28, k_X7_isRight_29, k_X7_isRight_30, k_X7_isRight_31, k_X7_isRight_32, k_X7_isRight_33, k_X7_isRight_34, k_X7_isRight_35, k_X7_isRight_36, k_X7_isRight_37, k_X7_isRight_38, k_X7_isRight_39, k_X7_isRight_40, k_X7_isRight_41, k_X7_isRight_42, k_X7_isRight_43, k_X7_isRight_44, k_X7_isRight_45, k_X7_isRight_46, k_X7_isRight_47, k_X7_isRight_48, k_X7_isRight_49, oE_some, Int.reduceToNat, Nat.reduceAdd, true_and, and_true, List.length_cons, List.length_nil, Option.toList_some, Option.toList_none, List.cons_append, List.nil_append, Nat.reduceLeDiff, Nat.le_refl, wdS_nil, wdS_i, wdS_l, wdS_r, wdS_n, wdS_s, rw_gaps hR, true_or]
      rw [if_neg (Int.lt_irrefl _)]
      exact Iff.rfl
/-- the reader: the first step that is wrong, and 1 more -/
def fwF (n : Nat) (G : BitVec 64) (tl : List Int) : Nat → Nat → Nat → Int
  | 0, _, _ => 0
  | m + 1, i, ah => if fnd n (tl.getD (2 * i) 0) < 0 ∨ isR n G ah (fnd n (tl.getD (2 * i) 0)).toNat (tl.getD (2 * i + 1) 0) = false then ((i + 1 : Nat) : Int) else fwF n G tl m (i + 1) (fnd n (tl.getD (2 * i) 0)).toNat
theorem fwF_succ (n : Nat) (G : BitVec 64) (tl : List Int) (m i ah : Nat) : fwF n G tl (m + 1) i ah = if fnd n (tl.getD (2 * i) 0) < 0 ∨ isR n G ah (fnd n (tl.getD (2 * i) 0)).toNat (tl.getD (2 * i + 1) 0) = false then ((i + 1 : Nat) : Int) else fwF n G tl m (i + 1) (fnd n (tl.getD (2 * i) 0)).toNat := rfl
set_option maxHeartbeats 16000000 in
theorem c7_firstWrong (d : Nat) {hp : HP} {a ra n c i : Nat} {G : BitVec 64} {tl : List Int} (hR : RWS hp ra n) (hS : STS hp a c tl) (ht : stOK c tl) (hi : i < FC n) (R : PO) : callD (d + 2) 70 [mR a, mR ra, mL G, mI (i : Int)] hp R ↔ R (some (mI (fwF n G tl c 0 i))) hp := by
  obtain ⟨t1, t2, t3⟩ := ht
  have h1 := rw_1 hR
  have h6 := rw_6 hR
  have f1 := FC_le n
  have key : ∀ (m k ah : Nat) (y : Option AV), k + m = c → ah < FC n → (AWh (d + 1) [] 70 R 4 [some (mR a), some (mR ra), some (mL G), none, some (mI (i : Int)), some (mI (ah : Int)), some (mI (k : Int)), y] [] hp (0, 0) ↔ R (some (mI (fwF n G tl m k ah))) hp) := by
    intro m
    induction m with
    | zero =>
      intro k ah y hk hah
      have bk : k < 2147483648 := by omega
      have bc : c < 2147483648 := by omega
      have cc : ¬ (k : Int) < (c : Int) := by omega
      rw [AWh_k, k_X7_firstWrong_4]
      simp only [AW_k, AWk_1, x_iload_4, x_istore_5, x_push_i, x_push_l, x_istore_6, x_iload_6, x_aload_0, x_aloads_0, x_getf, x_icmp_ge, x_aload_1, x_aloads_1, x_imul, x_iald, x_ialds, x_callv_2, x_istore_7, x_iload_7, x_if_lt, x_lload_2, x_iload_5, x_iadd, x_call_5, x_if_ne, x_ret, x_ret_i, x_ret_z, x_ret_l, x_ret_c, x_iinc_6, x_goto, unl_i, unl_l, unl_q, unl_r, unl_s, unl_n, k_X7_firstWrong_0, k_X7_firstWrong_1, k_X7_firstWrong_2, k_X7_firstWrong_3, k_X7_firstWrong_4, k_X7_firstWrong_5, k_X7_firstWrong_6, k_X7_firstWrong_7, k_X7_firstWrong_8, k_X7_firstWrong_9, k_X7_firstWrong_10, k_X7_firstWrong_11, k_X7_firstWrong_12, k_X7_firstWrong_13, k_X7_firstWrong_14, k_X7_firstWrong_15, k_X7_firstWrong_16, k_X7_firstWrong_17, k_X7_firstWrong_18, k_X7_firstWrong_19, k_X7_firstWrong_20, k_X7_firstWrong_21, k_X7_firstWrong_22, k_X7_firstWrong_23, k_X7_firstWrong_24, k_X7_firstWrong_25, k_X7_firstWrong_26, k_X7_firstWrong_27, k_X7_firstWrong_28, k_X7_firstWrong_29, k_X7_firstWrong_30, k_X7_firstWrong_31, k_X7_firstWrong_32, k_X7_firstWrong_33, k_X7_firstWrong_34, k_X7_firstWrong_35, k_X7_firstWrong_36, k_X7_firstWrong_37, k_X7_firstWrong_38, k_X7_firstWrong_39, k_X7_firstWrong_40, k_X7_firstWrong_41, k_X7_firstWrong_42, oE_some, Int.reduceToNat, Nat.reduceAdd, true_and, and_true, List.length_cons, List.length_nil, Option.toList_some, Option.toList_none, List.cons_append, List.nil_append, Nat.reduceLeDiff, Nat.le_refl, wdS_nil, wdS_i, wdS_l, wdS_r, wdS_n, wdS_s, hS.1]
      rw [w32_nat bk, w32_nat bc, if_neg cc]
      exact Iff.rfl
    | succ m ih =>
      intro k ah y hk hah
      have bk : k < 2147483648 := by omega
      have bc : c < 2147483648 := by omega
      have cc : (k : Int) < (c : Int) := by omega
      have e1 : ((2 * k : Nat) : Int) + 1 = ((2 * k + 1 : Nat) : Int) := by omega
      have e2 : (k : Int) * 2 = ((2 * k : Nat) : Int) := by omega
      have j1 : 2 * k + 1 < tl.length := by omega
      have j2 : 2 * k < tl.length := by omega
      have L1 : tl.length < 2147483648 := by omega
      have b1 : 2 * k + 1 < 2147483648 := by omega
      have b2 : 2 * k < 2147483648 := by omega
      have t4 := t3 (2 * k)
      have t5 := t3 (2 * k + 1)
      have r1 : fnd n (tl.getD (2 * k) 0) = -1 ∨ ∃ j, j < FC n ∧ fnd n (tl.getD (2 * k) 0) = ((j : Nat) : Int) := by
        rcases fnd_cases n (tl.getD (2 * k) 0) with ⟨j, q1, q2⟩ | q
        · exact Or.inr ⟨j, q1, by rw [q2, fnd_num h1 h6 q1]⟩
        · exact Or.inl (fnd_no q)
      rw [fwF_succ]
      rcases r1 with r1 | ⟨j, q1, q2⟩
      · rw [r1, if_pos (Or.inl (by decide))]
        rw [AWh_k, k_X7_firstWrong_4]
        simp only [AW_k, AWk_1, x_iload_4, x_istore_5, x_push_i, x_push_l, x_istore_6, x_iload_6, x_aload_0, x_aloads_0, x_getf, x_icmp_ge, x_aload_1, x_aloads_1, x_imul, x_iald, x_ialds, x_callv_2, x_istore_7, x_iload_7, x_if_lt, x_lload_2, x_iload_5, x_iadd, x_call_5, x_if_ne, x_ret, x_ret_i, x_ret_z, x_ret_l, x_ret_c, x_iinc_6, x_goto, unl_i, unl_l, unl_q, unl_r, unl_s, unl_n, k_X7_firstWrong_0, k_X7_firstWrong_1, k_X7_firstWrong_2, k_X7_firstWrong_3, k_X7_firstWrong_4, k_X7_firstWrong_5, k_X7_firstWrong_6, k_X7_firstWrong_7, k_X7_firstWrong_8, k_X7_firstWrong_9, k_X7_firstWrong_10, k_X7_firstWrong_11, k_X7_firstWrong_12, k_X7_firstWrong_13, k_X7_firstWrong_14, k_X7_firstWrong_15, k_X7_firstWrong_16, k_X7_firstWrong_17, k_X7_firstWrong_18, k_X7_firstWrong_19, k_X7_firstWrong_20, k_X7_firstWrong_21, k_X7_firstWrong_22, k_X7_firstWrong_23, k_X7_firstWrong_24, k_X7_firstWrong_25, k_X7_firstWrong_26, k_X7_firstWrong_27, k_X7_firstWrong_28, k_X7_firstWrong_29, k_X7_firstWrong_30, k_X7_firstWrong_31, k_X7_firstWrong_32, k_X7_firstWrong_33, k_X7_firstWrong_34, k_X7_firstWrong_35, k_X7_firstWrong_36, k_X7_firstWrong_37, k_X7_firstWrong_38, k_X7_firstWrong_39, k_X7_firstWrong_40, k_X7_firstWrong_41, k_X7_firstWrong_42, oE_some, Int.reduceToNat, Nat.reduceAdd, true_and, and_true, List.length_cons, List.length_nil, Option.toList_some, Option.toList_none, List.cons_append, List.nil_append, Nat.reduceLeDiff, Nat.le_refl, wdS_nil, wdS_i, wdS_l, wdS_r, wdS_n, wdS_s, hS.1, hS.2.1, hS.2.2, e2, inB_n j2 L1, w32_tn b2, rC0 hR, c4_find d hR t4, r1]
        rw [w32_nat bk, w32_nat bc, if_pos cc, if_pos (by decide)]
        exact Iff.rfl
      · have bj : j < 2147483648 := by omega
        have cj : ¬ (j : Int) < 0 := by omega
        have i1 := ih (k + 1) j (some (mI (j : Int))) (by omega) q1
        rw [q2, Int.toNat_natCast]
        rw [AWh_k, k_X7_firstWrong_4]
        simp only [AW_k, AWk_1, x_iload_4, x_istore_5, x_push_i, x_push_l, x_istore_6, x_iload_6, x_aload_0, x_aloads_0, x_getf, x_icmp_ge, x_aload_1, x_aloads_1, x_imul, x_iald, x_ialds, x_callv_2, x_istore_7, x_iload_7, x_if_lt, x_lload_2, x_iload_5, x_iadd, x_call_5, x_if_ne, x_ret, x_ret_i, x_ret_z, x_ret_l, x_ret_c, x_iinc_6, x_goto, unl_i, unl_l, unl_q, unl_r, unl_s, unl_n, k_X7_firstWrong_0, k_X7_firstWrong_1, k_X7_firstWrong_2, k_X7_firstWrong_3, k_X7_firstWrong_4, k_X7_firstWrong_5, k_X7_firstWrong_6, k_X7_firstWrong_7, k_X7_firstWrong_8, k_X7_firstWrong_9, k_X7_firstWrong_10, k_X7_firstWrong_11, k_X7_firstWrong_12, k_X7_firstWrong_13, k_X7_firstWrong_14, k_X7_firstWrong_15, k_X7_firstWrong_16, k_X7_firstWrong_17, k_X7_firstWrong_18, k_X7_firstWrong_19, k_X7_firstWrong_20, k_X7_firstWrong_21, k_X7_firstWrong_22, k_X7_firstWrong_23, k_X7_firstWrong_24, k_X7_firstWrong_25, k_X7_firstWrong_26, k_X7_firstWrong_27, k_X7_firstWrong_28, k_X7_firstWrong_29, k_X7_firstWrong_30, k_X7_firstWrong_31, k_X7_firstWrong_32, k_X7_firstWrong_33, k_X7_firstWrong_34, k_X7_firstWrong_35, k_X7_firstWrong_36, k_X7_firstWrong_37, k_X7_firstWrong_38, k_X7_firstWrong_39, k_X7_firstWrong_40, k_X7_firstWrong_41, k_X7_firstWrong_42, oE_some, Int.reduceToNat, Nat.reduceAdd, true_and, and_true, List.length_cons, List.length_nil, Option.toList_some, Option.toList_none, List.cons_append, List.nil_append, Nat.reduceLeDiff, Nat.le_refl, wdS_nil, wdS_i, wdS_l, wdS_r, wdS_n, wdS_s, hS.1, hS.2.1, hS.2.2, e2, e1, inB_n j2 L1, inB_n j1 L1, w32_tn b2, w32_tn b1, rC0 hR, c4_find d hR t4, q2, c7_isRight d hR hah q1 t5, w32_zI_0]
        rw [w32_nat bk, w32_nat bc, if_pos cc, w32_nat bj, if_neg cj]
        cases isR n G ah j (tl.getD (2 * k + 1) 0)
        · rw [if_pos rfl, if_pos (Or.inr rfl)]
          exact Iff.rfl
        · rw [if_neg (by decide), if_neg (fun q => q.elim cj (by decide))]
          exact i1
  rw [callD_k]; simp only [entL_i, entL_l, entL_q, entL_s, entL_nil, n_X7_firstWrong, u_X7_firstWrong, m_X7_firstWrong, rep_3, List.cons_append, List.nil_append, List.append_nil, List.length_cons, List.length_nil, Nat.reduceAdd, true_and]
  simp only [AW_k, AWk_1, x_iload_4, x_istore_5, x_push_i, x_push_l, x_istore_6, x_iload_6, x_aload_0, x_aloads_0, x_getf, x_icmp_ge, x_aload_1, x_aloads_1, x_imul, x_iald, x_ialds, x_callv_2, x_istore_7, x_iload_7, x_if_lt, x_lload_2, x_iload_5, x_iadd, x_call_5, x_if_ne, x_ret, x_ret_i, x_ret_z, x_ret_l, x_ret_c, x_iinc_6, x_goto, unl_i, unl_l, unl_q, unl_r, unl_s, unl_n, k_X7_firstWrong_0, k_X7_firstWrong_1, k_X7_firstWrong_2, k_X7_firstWrong_3, k_X7_firstWrong_4, k_X7_firstWrong_5, k_X7_firstWrong_6, k_X7_firstWrong_7, k_X7_firstWrong_8, k_X7_firstWrong_9, k_X7_firstWrong_10, k_X7_firstWrong_11, k_X7_firstWrong_12, k_X7_firstWrong_13, k_X7_firstWrong_14, k_X7_firstWrong_15, k_X7_firstWrong_16, k_X7_firstWrong_17, k_X7_firstWrong_18, k_X7_firstWrong_19, k_X7_firstWrong_20, k_X7_firstWrong_21, k_X7_firstWrong_22, k_X7_firstWrong_23, k_X7_firstWrong_24, k_X7_firstWrong_25, k_X7_firstWrong_26, k_X7_firstWrong_27, k_X7_firstWrong_28, k_X7_firstWrong_29, k_X7_firstWrong_30, k_X7_firstWrong_31, k_X7_firstWrong_32, k_X7_firstWrong_33, k_X7_firstWrong_34, k_X7_firstWrong_35, k_X7_firstWrong_36, k_X7_firstWrong_37, k_X7_firstWrong_38, k_X7_firstWrong_39, k_X7_firstWrong_40, k_X7_firstWrong_41, k_X7_firstWrong_42, oE_some, Int.reduceToNat, Nat.reduceAdd, true_and, and_true, List.length_cons, List.length_nil, Option.toList_some, Option.toList_none, List.cons_append, List.nil_append, Nat.reduceLeDiff, Nat.le_refl, wdS_nil, wdS_i, wdS_l, wdS_r, wdS_n, wdS_s]
  exact key c 0 i none (by omega) hi
