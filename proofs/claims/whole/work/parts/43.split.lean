/-! ===== the tape is split into words; bytes come ===== -/
def TT (b : Nat → Nat) (tc : Nat) : List (Nat × Nat) := tks b tc 200 0
/-- the tables behind the split -/
def tpA (b : Nat → Nat) (tc : Nat) (T : List (Nat × Nat)) (ws bg wo : List Int) : Prop := (ws.length = 201 ∧ bg.length = 201 ∧ wo.length = 201) ∧ T.length ≤ 200 ∧ ∀ k, k ≤ T.length → ws.getD k 0 = (tW b T k : Int) ∧ bg.getD k 0 = (tB tc T k : Int) ∧ (k < T.length → wo.getD k 0 = tV b T k)
theorem TPS_a {hp : HP} {a tc x y z : Nat} {ft : Int} {tb ws bg wo l1 l2 l3 : List Int} {at_ : Int} {av : AV} (m : TPS hp a tc ft tb ws bg wo at_ av) : TPS (pA (pA (pA hp (a + 3) l1) (a + 2) l2) (a + 4) l3) a tc ft tb l2 l1 l3 at_ av := TPS_a4 (TPS_a2 (TPS_a3 m))
set_option maxHeartbeats 32000000 in
theorem c8_splitLoop (d : Nat) {a tc : Nat} {ft : Int} {tb : List Int} {at_ : Int} {av : AV} {b : Nat → Nat} (hb : byOK tb b) (hc : tc ≤ 200) : ∀ (f i p : Nat) (acc : List (Nat × Nat)) (ws bg wo : List Int) (h : HP) (y4 : Option AV), i + f = 200 → i ≤ p → acc.length ≤ i → p ≤ tc → TPS h a tc ft tb ws bg wo at_ av → tpI b acc ws bg wo → ∃ h' ws' bg' wo', TPS h' a tc ft tb ws' bg' wo' at_ av ∧ tpA b tc (acc ++ tks b tc f p) ws' bg' wo' ∧ Fr a (a + 5) h h' ∧ ∀ R : PO, AWh (d + 8) [] 76 R 6 [some (mR a), some (mI (acc.length : Int)), some (mI (p : Int)), some (mI (i : Int)), y4] [] h (0, 0) ↔ R none h' := by
  -- the end: the last word
  have fin : ∀ (acc : List (Nat × Nat)) (ws bg wo : List Int) (h : HP), acc.length ≤ 200 → TPS h a tc ft tb ws bg wo at_ av → tpI b acc ws bg wo → TPS (pA (pA h (a + 3) (bg.set acc.length (tc : Int))) (a + 2) (ws.set acc.length 0)) a tc ft tb (ws.set acc.length 0) (bg.set acc.length (tc : Int)) wo at_ av ∧ tpA b tc acc (ws.set acc.length 0) (bg.set acc.length (tc : Int)) wo ∧ Fr a (a + 5) h (pA (pA h (a + 3) (bg.set acc.length (tc : Int))) (a + 2) (ws.set acc.length 0)) := by
    intro acc ws bg wo h hl hT hI
    obtain ⟨⟨l1, l2, l3⟩, hI⟩ := hI
    refine ⟨TPS_a2 (TPS_a3 hT), ⟨⟨by rw [List.length_set]; exact l1, by rw [List.length_set]; exact l2, l3⟩, hl, fun k hk => ?_⟩, Fr_trans (Fr_pA (by omega) (by omega)) (Fr_pA (by omega) (by omega))⟩
    rw [getD_set (by omega), getD_set (by omega)]
    by_cases e : acc.length = k
    · subst e
      rw [if_pos rfl, if_pos rfl]
      unfold tW tB
      rw [if_neg (Nat.lt_irrefl _), if_neg (Nat.lt_irrefl _)]
      exact ⟨rfl, rfl, fun q => absurd q (Nat.lt_irrefl _)⟩
    · have hk2 : k < acc.length := by omega
      have q := hI k hk2
      rw [if_neg e, if_neg e]
      refine ⟨q.1, ?_, fun _ => q.2.2⟩
      unfold tB
      rw [if_pos hk2]; exact q.2.1
  intro f
  induction f with
  | zero =>
    intro i p acc ws bg wo h y4 hi hip hai hp hT hI
    have l1 := hI.1.1
    have l2 := hI.1.2.1
    have bi : i < 2147483648 := by omega
    have ba : acc.length < 2147483648 := by omega
    have ci : ¬ (i : Int) < 200 := by omega
    have j1 : acc.length < bg.length := by omega
    have j2 : acc.length < ws.length := by omega
    have L1 : bg.length < 2147483648 := by omega
    have L2 : ws.length < 2147483648 := by omega
    obtain ⟨f1, f2, f3⟩ := fin acc ws bg wo h (by omega) hT hI
    refine ⟨_, _, _, _, f1, by rw [show tks b tc 0 p = [] from rfl, List.append_nil]; exact f2, f3, fun R => ?_⟩
    have s1 := TPS_a3 (l := bg.set acc.length (tc : Int)) hT
    rw [AWh_k, k_X8_splitIntoWords_6]
    simp only [AW_k, AWk_1, x_push_i, x_push_l, x_istore_1, x_istore_2, x_istore_3, x_iload_3, x_icmp_ge, x_iload_2, x_aload_0, x_aloads_0, x_getf, x_callv_2, x_istore_4, x_iald, x_ialds, x_icmp_eq, x_iload_1, x_iast, x_iload_4, x_callv_3, x_icmp_ne, x_goto, x_iinc_1, x_iinc_3, x_ret, x_ret_i, x_ret_z, x_ret_l, x_ret_c, unl_i, unl_l, unl_q, unl_r, unl_s, unl_n, k_X8_splitIntoWords_0, k_X8_splitIntoWords_1, k_X8_splitIntoWords_2, k_X8_splitIntoWords_3, k_X8_splitIntoWords_4, k_X8_splitIntoWords_5, k_X8_splitIntoWords_6, k_X8_splitIntoWords_7, k_X8_splitIntoWords_8, k_X8_splitIntoWords_9, k_X8_splitIntoWords_10, k_X8_splitIntoWords_11, k_X8_splitIntoWords_12, k_X8_splitIntoWords_13, k_X8_splitIntoWords_14, k_X8_splitIntoWords_15, k_X8_splitIntoWords_16, k_X8_splitIntoWords_17, k_X8_splitIntoWords_18, k_X8_splitIntoWords_19, k_X8_splitIntoWords_20, k_X8_splitIntoWords_21, k_X8_splitIntoWords_22, k_X8_splitIntoWords_23, k_X8_splitIntoWords_24, k_X8_splitIntoWords_25, k_X8_splitIntoWords_26, k_X8_splitIntoWords_27, k_X8_splitIntoWords_28, k_X8_splitIntoWords_29, k_X8_splitIntoWords_30, k_X8_splitIntoWords_31, k_X8_splitIntoWords_32, k_X8_splitIntoWords_33, k_X8_splitIntoWords_34, k_X8_splitIntoWords_35, k_X8_splitIntoWords_36, k_X8_splitIntoWords_37, k_X8_splitIntoWords_38, k_X8_splitIntoWords_39, k_X8_splitIntoWords_40, k_X8_splitIntoWords_41, k_X8_splitIntoWords_42, k_X8_splitIntoWords_43, k_X8_splitIntoWords_44, k_X8_splitIntoWords_45, k_X8_splitIntoWords_46, k_X8_splitIntoWords_47, k_X8_splitIntoWords_48, k_X8_splitIntoWords_49, k_X8_splitIntoWords_50, k_X8_splitIntoWords_51, k_X8_splitIntoWords_52, k_X8_splitIntoWords_53, k_X8_splitIntoWords_54, k_X8_splitIntoWords_55, k_X8_splitIntoWords_56, k_X8_splitIntoWords_57, k_X8_splitIntoWords_58, k_X8_splitIntoWords_59, k_X8_splitIntoWords_60, k_X8_splitIntoWords_61, k_X8_splitIntoWords_62, k_X8_splitIntoWords_63, k_X8_splitIntoWords_64, k_X8_splitIntoWords_65, k_X8_splitIntoWords_66, k_X8_splitIntoWords_67, k_X8_splitIntoWords_68, oE_some, Int.reduceToNat, Nat.reduceAdd, true_and, and_true, List.length_cons, List.length_nil, Option.toList_some, Option.toList_none, List.cons_append, List.nil_append, Nat.reduceLeDiff, Nat.le_refl, wdS_nil, wdS_i, wdS_l, wdS_r, wdS_n, wdS_s, hT.1.1, hT.1.2.2.2.2.1, hT.2.2.2.1, inB_n j1 L1, w32_tn ba, s1.1.2.2.2.1, s1.2.2.1, inB_n j2 L2]
    rw [w32_nat bi, show w32 200 = 200 from rfl, if_neg ci]
  | succ f ih =>
    intro i p acc ws bg wo h y4 hi hip hai hp hT hI
    have l1 := hI.1.1
    have l2 := hI.1.2.1
    have l3 := hI.1.2.2
    have bi : i < 2147483648 := by omega
    have bp : p < 2147483648 := by omega
    have bc : tc < 2147483648 := by omega
    have ba : acc.length < 2147483648 := by omega
    have ci : (i : Int) < 200 := by omega
    have j1 : acc.length < bg.length := by omega
    have j2 : acc.length < ws.length := by omega
    have j3 : acc.length < wo.length := by omega
    have L1 : bg.length < 2147483648 := by omega
    have L2 : ws.length < 2147483648 := by omega
    have L3 : wo.length < 2147483648 := by omega
    have ht : tks b tc (f + 1) p = if p < tc then (if b p = 32 then tks b tc f (eow b tc p) else (p, eow b tc p) :: tks b tc f (eow b tc p)) else [] := rfl
    by_cases hlt : p < tc
    · have clt : (p : Int) < (tc : Int) := by omega
      have p200 : p < 200 := by omega
      obtain ⟨e1, e2⟩ := eow_in (b := b) hlt
      have bb := (hb.2 p p200).2
      have bb2 : b p < 2147483648 := by omega
      have kC := gC_of hT.1.1
      have ce := c8_endOfWord (d + 6) hT hb hc hlt
      by_cases h32 : b p = 32
      · have c32 : (b p : Int) = 32 := by omega
        rw [ht, if_pos hlt, if_pos h32]
        obtain ⟨h', ws', bg', wo', u1, u2, u3, u4⟩ := ih (i + 1) (eow b tc p) acc ws bg wo h (some (mI (eow b tc p : Int))) (by omega) (by omega) (by omega) e2 hT hI
        refine ⟨h', ws', bg', wo', u1, u2, u3, fun R => ?_⟩
        have u4 := u4 R
        obtain ⟨g1, g2⟩ := b200 hb p200
        rw [AWh_k, k_X8_splitIntoWords_6]
        simp only [AW_k, AWk_1, x_push_i, x_push_l, x_istore_1, x_istore_2, x_istore_3, x_iload_3, x_icmp_ge, x_iload_2, x_aload_0, x_aloads_0, x_getf, x_callv_2, x_istore_4, x_iald, x_ialds, x_icmp_eq, x_iload_1, x_iast, x_iload_4, x_callv_3, x_icmp_ne, x_goto, x_iinc_1, x_iinc_3, x_ret, x_ret_i, x_ret_z, x_ret_l, x_ret_c, unl_i, unl_l, unl_q, unl_r, unl_s, unl_n, k_X8_splitIntoWords_0, k_X8_splitIntoWords_1, k_X8_splitIntoWords_2, k_X8_splitIntoWords_3, k_X8_splitIntoWords_4, k_X8_splitIntoWords_5, k_X8_splitIntoWords_6, k_X8_splitIntoWords_7, k_X8_splitIntoWords_8, k_X8_splitIntoWords_9, k_X8_splitIntoWords_10, k_X8_splitIntoWords_11, k_X8_splitIntoWords_12, k_X8_splitIntoWords_13, k_X8_splitIntoWords_14, k_X8_splitIntoWords_15, k_X8_splitIntoWords_16, k_X8_splitIntoWords_17, k_X8_splitIntoWords_18, k_X8_splitIntoWords_19, k_X8_splitIntoWords_20, k_X8_splitIntoWords_21, k_X8_splitIntoWords_22, k_X8_splitIntoWords_23, k_X8_splitIntoWords_24, k_X8_splitIntoWords_25, k_X8_splitIntoWords_26, k_X8_splitIntoWords_27, k_X8_splitIntoWords_28, k_X8_splitIntoWords_29, k_X8_splitIntoWords_30, k_X8_splitIntoWords_31, k_X8_splitIntoWords_32, k_X8_splitIntoWords_33, k_X8_splitIntoWords_34, k_X8_splitIntoWords_35, k_X8_splitIntoWords_36, k_X8_splitIntoWords_37, k_X8_splitIntoWords_38, k_X8_splitIntoWords_39, k_X8_splitIntoWords_40, k_X8_splitIntoWords_41, k_X8_splitIntoWords_42, k_X8_splitIntoWords_43, k_X8_splitIntoWords_44, k_X8_splitIntoWords_45, k_X8_splitIntoWords_46, k_X8_splitIntoWords_47, k_X8_splitIntoWords_48, k_X8_splitIntoWords_49, k_X8_splitIntoWords_50, k_X8_splitIntoWords_51, k_X8_splitIntoWords_52, k_X8_splitIntoWords_53, k_X8_splitIntoWords_54, k_X8_splitIntoWords_55, k_X8_splitIntoWords_56, k_X8_splitIntoWords_57, k_X8_splitIntoWords_58, k_X8_splitIntoWords_59, k_X8_splitIntoWords_60, k_X8_splitIntoWords_61, k_X8_splitIntoWords_62, k_X8_splitIntoWords_63, k_X8_splitIntoWords_64, k_X8_splitIntoWords_65, k_X8_splitIntoWords_66, k_X8_splitIntoWords_67, k_X8_splitIntoWords_68, oE_some, Int.reduceToNat, Nat.reduceAdd, true_and, and_true, List.length_cons, List.length_nil, Option.toList_some, Option.toList_none, List.cons_append, List.nil_append, Nat.reduceLeDiff, Nat.le_refl, wdS_nil, wdS_i, wdS_l, wdS_r, wdS_n, wdS_s, hT.1.1, kC, ce, hT.1.2.2.1, hT.2.1, g1, g2]
        rw [w32_nat bi, show w32 200 = 200 from rfl, if_pos ci, w32_nat bp, w32_nat bc, if_pos clt, w32_nat bb2, show w32 32 = 32 from rfl, if_pos c32]
        exact u4
      · have c32 : ¬ (b p : Int) = 32 := by omega
        rw [ht, if_pos hlt, if_neg h32]
        have hA := tpI_add (x := (p, eow b tc p)) hI (by omega)
        have hacc : (acc ++ [(p, eow b tc p)]).length = acc.length + 1 := by rw [List.length_append, List.length_singleton]
        have eap : acc ++ (p, eow b tc p) :: tks b tc f (eow b tc p) = (acc ++ [(p, eow b tc p)]) ++ tks b tc f (eow b tc p) := by rw [List.append_assoc]; rfl
        have s1 := TPS_a3 (l := bg.set acc.length (p : Int)) hT
        have s2 := TPS_a2 (l := ws.set acc.length (wcd b p (eow b tc p) : Int)) s1
        have s3 := TPS_a4 (l := wo.set acc.length (tV b (acc ++ [(p, eow b tc p)]) acc.length)) s2
        have fr : Fr a (a + 5) h (pA (pA (pA h (a + 3) (bg.set acc.length (p : Int))) (a + 2) (ws.set acc.length (wcd b p (eow b tc p) : Int))) (a + 4) (wo.set acc.length (tV b (acc ++ [(p, eow b tc p)]) acc.length))) := Fr_trans (Fr_trans (Fr_pA (by omega) (by omega)) (Fr_pA (by omega) (by omega))) (Fr_pA (by omega) (by omega))
        obtain ⟨h', ws', bg', wo', u1, u2, u3, u4⟩ := ih (i + 1) (eow b tc p) (acc ++ [(p, eow b tc p)]) _ _ _ _ (some (mI (eow b tc p : Int))) (by omega) (by omega) (by omega) e2 s3 hA
        rw [eap]
        refine ⟨h', ws', bg', wo', u1, u2, Fr_trans fr u3, fun R => ?_⟩
        have u4 := u4 R
        rw [hacc] at u4
        have cw := c8_wordAt (d + 1) s1 hb e1 (Nat.le_trans e2 hc)
        have cv := c8_worthOf (d + 7) s2 hb (Nat.le_of_lt e1) (Nat.le_trans e2 hc)
        have hw : (ws.set acc.length (wcd b p (eow b tc p) : Int)).getD acc.length 0 = (wcd b p (eow b tc p) : Int) := by rw [getD_set j2, if_pos rfl]
        have j4 : acc.length < (ws.set acc.length (wcd b p (eow b tc p) : Int)).length := by rw [List.length_set]; exact j2
        have L4 : (ws.set acc.length (wcd b p (eow b tc p) : Int)).length < 2147483648 := by rw [List.length_set]; exact L2
        have wlt : wcd b p (eow b tc p) < 2147483648 := by
          unfold wcd
          split
          · split <;> decide
          · split
            · unfold nmC
              repeat (first | (split; decide) | decide)
            · split
              · exact bb2
              · decide
        have k1 := gC_of s1.1.1
        have k2 := gC_of s2.1.1
        obtain ⟨g1, g2⟩ := b200 hb p200
        by_cases hw1 : wcd b p (eow b tc p) = 1
        · have ev : tV b (acc ++ [(p, eow b tc p)]) acc.length = wrI b (eow b tc p - p) p 0 := by
            unfold tV
            rw [tW_last, if_pos hw1, getD_last]
          rw [ev] at u4
          have cw1 : (wcd b p (eow b tc p) : Int) = 1 := by omega
          rw [AWh_k, k_X8_splitIntoWords_6]
          simp only [AW_k, AWk_1, x_push_i, x_push_l, x_istore_1, x_istore_2, x_istore_3, x_iload_3, x_icmp_ge, x_iload_2, x_aload_0, x_aloads_0, x_getf, x_callv_2, x_istore_4, x_iald, x_ialds, x_icmp_eq, x_iload_1, x_iast, x_iload_4, x_callv_3, x_icmp_ne, x_goto, x_iinc_1, x_iinc_3, x_ret, x_ret_i, x_ret_z, x_ret_l, x_ret_c, unl_i, unl_l, unl_q, unl_r, unl_s, unl_n, k_X8_splitIntoWords_0, k_X8_splitIntoWords_1, k_X8_splitIntoWords_2, k_X8_splitIntoWords_3, k_X8_splitIntoWords_4, k_X8_splitIntoWords_5, k_X8_splitIntoWords_6, k_X8_splitIntoWords_7, k_X8_splitIntoWords_8, k_X8_splitIntoWords_9, k_X8_splitIntoWords_10, k_X8_splitIntoWords_11, k_X8_splitIntoWords_12, k_X8_splitIntoWords_13, k_X8_splitIntoWords_14, k_X8_splitIntoWords_15, k_X8_splitIntoWords_16, k_X8_splitIntoWords_17, k_X8_splitIntoWords_18, k_X8_splitIntoWords_19, k_X8_splitIntoWords_20, k_X8_splitIntoWords_21, k_X8_splitIntoWords_22, k_X8_splitIntoWords_23, k_X8_splitIntoWords_24, k_X8_splitIntoWords_25, k_X8_splitIntoWords_26, k_X8_splitIntoWords_27, k_X8_splitIntoWords_28, k_X8_splitIntoWords_29, k_X8_splitIntoWords_30, k_X8_splitIntoWords_31, k_X8_splitIntoWords_32, k_X8_splitIntoWords_33, k_X8_splitIntoWords_34, k_X8_splitIntoWords_35, k_X8_splitIntoWords_36, k_X8_splitIntoWords_37, k_X8_splitIntoWords_38, k_X8_splitIntoWords_39, k_X8_splitIntoWords_40, k_X8_splitIntoWords_41, k_X8_splitIntoWords_42, k_X8_splitIntoWords_43, k_X8_splitIntoWords_44, k_X8_splitIntoWords_45, k_X8_splitIntoWords_46, k_X8_splitIntoWords_47, k_X8_splitIntoWords_48, k_X8_splitIntoWords_49, k_X8_splitIntoWords_50, k_X8_splitIntoWords_51, k_X8_splitIntoWords_52, k_X8_splitIntoWords_53, k_X8_splitIntoWords_54, k_X8_splitIntoWords_55, k_X8_splitIntoWords_56, k_X8_splitIntoWords_57, k_X8_splitIntoWords_58, k_X8_splitIntoWords_59, k_X8_splitIntoWords_60, k_X8_splitIntoWords_61, k_X8_splitIntoWords_62, k_X8_splitIntoWords_63, k_X8_splitIntoWords_64, k_X8_splitIntoWords_65, k_X8_splitIntoWords_66, k_X8_splitIntoWords_67, k_X8_splitIntoWords_68, oE_some, Int.reduceToNat, Nat.reduceAdd, true_and, and_true, List.length_cons, List.length_nil, Option.toList_some, Option.toList_none, List.cons_append, List.nil_append, Nat.reduceLeDiff, Nat.le_refl, wdS_nil, wdS_i, wdS_l, wdS_r, wdS_n, wdS_s, hT.1.1, kC, ce, hT.1.2.2.1, hT.2.1, g1, g2, hT.1.2.2.2.2.1, hT.2.2.2.1, inB_n j1 L1, w32_tn ba, s1.1.2.2.2.1, k1, cw, s1.2.2.1, inB_n j2 L2, s2.1.2.2.2.2.2.1, s2.1.2.2.2.1, s2.2.2.1, inB_n j4 L4, hw, k2, cv, s2.2.2.2.2, inB_n j3 L3]
          rw [w32_nat bi, show w32 200 = 200 from rfl, if_pos ci, w32_nat bp, w32_nat bc, if_pos clt, w32_nat bb2, show w32 32 = 32 from rfl, if_neg c32, w32_nat wlt, show w32 1 = 1 from rfl, if_pos cw1]
          exact u4
        · have ev : tV b (acc ++ [(p, eow b tc p)]) acc.length = 0 := by
            unfold tV
            rw [tW_last, if_neg hw1]
          rw [ev] at u4
          have cw1 : ¬ (wcd b p (eow b tc p) : Int) = 1 := by omega
          rw [AWh_k, k_X8_splitIntoWords_6]
          simp only [AW_k, AWk_1, x_push_i, x_push_l, x_istore_1, x_istore_2, x_istore_3, x_iload_3, x_icmp_ge, x_iload_2, x_aload_0, x_aloads_0, x_getf, x_callv_2, x_istore_4, x_iald, x_ialds, x_icmp_eq, x_iload_1, x_iast, x_iload_4, x_callv_3, x_icmp_ne, x_goto, x_iinc_1, x_iinc_3, x_ret, x_ret_i, x_ret_z, x_ret_l, x_ret_c, unl_i, unl_l, unl_q, unl_r, unl_s, unl_n, k_X8_splitIntoWords_0, k_X8_splitIntoWords_1, k_X8_splitIntoWords_2, k_X8_splitIntoWords_3, k_X8_splitIntoWords_4, k_X8_splitIntoWords_5, k_X8_splitIntoWords_6, k_X8_splitIntoWords_7, k_X8_splitIntoWords_8, k_X8_splitIntoWords_9, k_X8_splitIntoWords_10, k_X8_splitIntoWords_11, k_X8_splitIntoWords_12, k_X8_splitIntoWords_13, k_X8_splitIntoWords_14, k_X8_splitIntoWords_15, k_X8_splitIntoWords_16, k_X8_splitIntoWords_17, k_X8_splitIntoWords_18, k_X8_splitIntoWords_19, k_X8_splitIntoWords_20, k_X8_splitIntoWords_21, k_X8_splitIntoWords_22, k_X8_splitIntoWords_23, k_X8_splitIntoWords_24, k_X8_splitIntoWords_25, k_X8_splitIntoWords_26, k_X8_splitIntoWords_27, k_X8_splitIntoWords_28, k_X8_splitIntoWords_29, k_X8_splitIntoWords_30, k_X8_splitIntoWords_31, k_X8_splitIntoWords_32, k_X8_splitIntoWords_33, k_X8_splitIntoWords_34, k_X8_splitIntoWords_35, k_X8_splitIntoWords_36, k_X8_splitIntoWords_37, k_X8_splitIntoWords_38, k_X8_splitIntoWords_39, k_X8_splitIntoWords_40, k_X8_splitIntoWords_41, k_X8_splitIntoWords_42, k_X8_splitIntoWords_43, k_X8_splitIntoWords_44, k_X8_splitIntoWords_45, k_X8_splitIntoWords_46, k_X8_splitIntoWords_47, k_X8_splitIntoWords_48, k_X8_splitIntoWords_49, k_X8_splitIntoWords_50, k_X8_splitIntoWords_51, k_X8_splitIntoWords_52, k_X8_splitIntoWords_53, k_X8_splitIntoWords_54, k_X8_splitIntoWords_55, k_X8_splitIntoWords_56, k_X8_splitIntoWords_57, k_X8_splitIntoWords_58, k_X8_splitIntoWords_59, k_X8_splitIntoWords_60, k_X8_splitIntoWords_61, k_X8_splitIntoWords_62, k_X8_splitIntoWords_63, k_X8_splitIntoWords_64, k_X8_splitIntoWords_65, k_X8_splitIntoWords_66, k_X8_splitIntoWords_67, k_X8_splitIntoWords_68, oE_some, Int.reduceToNat, Nat.reduceAdd, true_and, and_true, List.length_cons, List.length_nil, Option.toList_some, Option.toList_none, List.cons_append, List.nil_append, Nat.reduceLeDiff, Nat.le_refl, wdS_nil, wdS_i, wdS_l, wdS_r, wdS_n, wdS_s, hT.1.1, kC, ce, hT.1.2.2.1, hT.2.1, g1, g2, hT.1.2.2.2.2.1, hT.2.2.2.1, inB_n j1 L1, w32_tn ba, s1.1.2.2.2.1, k1, cw, s1.2.2.1, inB_n j2 L2, s2.1.2.2.2.2.2.1, s2.1.2.2.2.1, s2.2.2.1, inB_n j4 L4, hw, s2.2.2.2.2, inB_n j3 L3]
          rw [w32_nat bi, show w32 200 = 200 from rfl, if_pos ci, w32_nat bp, w32_nat bc, if_pos clt, w32_nat bb2, show w32 32 = 32 from rfl, if_neg c32, w32_nat wlt, show w32 1 = 1 from rfl, if_neg cw1]
          exact u4
    · have clt : ¬ (p : Int) < (tc : Int) := by omega
      rw [ht, if_neg hlt, List.append_nil]
      obtain ⟨f1, f2, f3⟩ := fin acc ws bg wo h (by omega) hT hI
      refine ⟨_, _, _, _, f1, f2, f3, fun R => ?_⟩
      have s1 := TPS_a3 (l := bg.set acc.length (tc : Int)) hT
      rw [AWh_k, k_X8_splitIntoWords_6]
      simp only [AW_k, AWk_1, x_push_i, x_push_l, x_istore_1, x_istore_2, x_istore_3, x_iload_3, x_icmp_ge, x_iload_2, x_aload_0, x_aloads_0, x_getf, x_callv_2, x_istore_4, x_iald, x_ialds, x_icmp_eq, x_iload_1, x_iast, x_iload_4, x_callv_3, x_icmp_ne, x_goto, x_iinc_1, x_iinc_3, x_ret, x_ret_i, x_ret_z, x_ret_l, x_ret_c, unl_i, unl_l, unl_q, unl_r, unl_s, unl_n, k_X8_splitIntoWords_0, k_X8_splitIntoWords_1, k_X8_splitIntoWords_2, k_X8_splitIntoWords_3, k_X8_splitIntoWords_4, k_X8_splitIntoWords_5, k_X8_splitIntoWords_6, k_X8_splitIntoWords_7, k_X8_splitIntoWords_8, k_X8_splitIntoWords_9, k_X8_splitIntoWords_10, k_X8_splitIntoWords_11, k_X8_splitIntoWords_12, k_X8_splitIntoWords_13, k_X8_splitIntoWords_14, k_X8_splitIntoWords_15, k_X8_splitIntoWords_16, k_X8_splitIntoWords_17, k_X8_splitIntoWords_18, k_X8_splitIntoWords_19, k_X8_splitIntoWords_20, k_X8_splitIntoWords_21, k_X8_splitIntoWords_22, k_X8_splitIntoWords_23, k_X8_splitIntoWords_24, k_X8_splitIntoWords_25, k_X8_splitIntoWords_26, k_X8_splitIntoWords_27, k_X8_splitIntoWords_28, k_X8_splitIntoWords_29, k_X8_splitIntoWords_30, k_X8_splitIntoWords_31, k_X8_splitIntoWords_32, k_X8_splitIntoWords_33, k_X8_splitIntoWords_34, k_X8_splitIntoWords_35, k_X8_splitIntoWords_36, k_X8_splitIntoWords_37, k_X8_splitIntoWords_38, k_X8_splitIntoWords_39, k_X8_splitIntoWords_40, k_X8_splitIntoWords_41, k_X8_splitIntoWords_42, k_X8_splitIntoWords_43, k_X8_splitIntoWords_44, k_X8_splitIntoWords_45, k_X8_splitIntoWords_46, k_X8_splitIntoWords_47, k_X8_splitIntoWords_48, k_X8_splitIntoWords_49, k_X8_splitIntoWords_50, k_X8_splitIntoWords_51, k_X8_splitIntoWords_52, k_X8_splitIntoWords_53, k_X8_splitIntoWords_54, k_X8_splitIntoWords_55, k_X8_splitIntoWords_56, k_X8_splitIntoWords_57, k_X8_splitIntoWords_58, k_X8_splitIntoWords_59, k_X8_splitIntoWords_60, k_X8_splitIntoWords_61, k_X8_splitIntoWords_62, k_X8_splitIntoWords_63, k_X8_splitIntoWords_64, k_X8_splitIntoWords_65, k_X8_splitIntoWords_66, k_X8_splitIntoWords_67, k_X8_splitIntoWords_68, oE_some, Int.reduceToNat, Nat.reduceAdd, true_and, and_true, List.length_cons, List.length_nil, Option.toList_some, Option.toList_none, List.cons_append, List.nil_append, Nat.reduceLeDiff, Nat.le_refl, wdS_nil, wdS_i, wdS_l, wdS_r, wdS_n, wdS_s, hT.1.1, hT.1.2.2.2.2.1, hT.2.2.2.1, inB_n j1 L1, w32_tn ba, s1.1.2.2.2.1, s1.2.2.1, inB_n j2 L2]
      rw [w32_nat bi, show w32 200 = 200 from rfl, if_pos ci, w32_nat bp, w32_nat bc, if_neg clt]
set_option maxHeartbeats 8000000 in
theorem c8_split (d : Nat) {hp : HP} {a tc : Nat} {ft : Int} {tb ws bg wo : List Int} {at_ : Int} {av : AV} {b : Nat → Nat} (h : TPS hp a tc ft tb ws bg wo at_ av) (hb : byOK tb b) (hc : tc ≤ 200) (hl : ws.length = 201 ∧ bg.length = 201 ∧ wo.length = 201) : ∃ h' ws' bg' wo', TPS h' a tc ft tb ws' bg' wo' at_ av ∧ tpA b tc (TT b tc) ws' bg' wo' ∧ Fr a (a + 5) hp h' ∧ ∀ R : PO, callD (d + 9) 76 [mR a] hp R ↔ R none h' := by
  obtain ⟨h', ws', bg', wo', u1, u2, u3, u4⟩ := c8_splitLoop d hb hc 200 0 0 [] ws bg wo hp none rfl (Nat.le_refl _) (Nat.zero_le _) (Nat.zero_le _) h ⟨hl, fun k hk => absurd hk (Nat.not_lt_zero k)⟩
  refine ⟨h', ws', bg', wo', u1, u2, u3, fun R => ?_⟩
  rw [callD_k]; simp only [entL_i, entL_l, entL_q, entL_s, entL_nil, n_X8_splitIntoWords, u_X8_splitIntoWords, m_X8_splitIntoWords, rep_4, List.cons_append, List.nil_append, List.append_nil, List.length_cons, List.length_nil, Nat.reduceAdd, true_and]
  simp only [AW_k, AWk_1, x_push_i, x_push_l, x_istore_1, x_istore_2, x_istore_3, x_iload_3, x_icmp_ge, x_iload_2, x_aload_0, x_aloads_0, x_getf, x_callv_2, x_istore_4, x_iald, x_ialds, x_icmp_eq, x_iload_1, x_iast, x_iload_4, x_callv_3, x_icmp_ne, x_goto, x_iinc_1, x_iinc_3, x_ret, x_ret_i, x_ret_z, x_ret_l, x_ret_c, unl_i, unl_l, unl_q, unl_r, unl_s, unl_n, k_X8_splitIntoWords_0, k_X8_splitIntoWords_1, k_X8_splitIntoWords_2, k_X8_splitIntoWords_3, k_X8_splitIntoWords_4, k_X8_splitIntoWords_5, k_X8_splitIntoWords_6, k_X8_splitIntoWords_7, k_X8_splitIntoWords_8, k_X8_splitIntoWords_9, k_X8_splitIntoWords_10, k_X8_splitIntoWords_11, k_X8_splitIntoWords_12, k_X8_splitIntoWords_13, k_X8_splitIntoWords_14, k_X8_splitIntoWords_15, k_X8_splitIntoWords_16, k_X8_splitIntoWords_17, k_X8_splitIntoWords_18, k_X8_splitIntoWords_19, k_X8_splitIntoWords_20, k_X8_splitIntoWords_21, k_X8_splitIntoWords_22, k_X8_splitIntoWords_23, k_X8_splitIntoWords_24, k_X8_splitIntoWords_25, k_X8_splitIntoWords_26, k_X8_splitIntoWords_27, k_X8_splitIntoWords_28, k_X8_splitIntoWords_29, k_X8_splitIntoWords_30, k_X8_splitIntoWords_31, k_X8_splitIntoWords_32, k_X8_splitIntoWords_33, k_X8_splitIntoWords_34, k_X8_splitIntoWords_35, k_X8_splitIntoWords_36, k_X8_splitIntoWords_37, k_X8_splitIntoWords_38, k_X8_splitIntoWords_39, k_X8_splitIntoWords_40, k_X8_splitIntoWords_41, k_X8_splitIntoWords_42, k_X8_splitIntoWords_43, k_X8_splitIntoWords_44, k_X8_splitIntoWords_45, k_X8_splitIntoWords_46, k_X8_splitIntoWords_47, k_X8_splitIntoWords_48, k_X8_splitIntoWords_49, k_X8_splitIntoWords_50, k_X8_splitIntoWords_51, k_X8_splitIntoWords_52, k_X8_splitIntoWords_53, k_X8_splitIntoWords_54, k_X8_splitIntoWords_55, k_X8_splitIntoWords_56, k_X8_splitIntoWords_57, k_X8_splitIntoWords_58, k_X8_splitIntoWords_59, k_X8_splitIntoWords_60, k_X8_splitIntoWords_61, k_X8_splitIntoWords_62, k_X8_splitIntoWords_63, k_X8_splitIntoWords_64, k_X8_splitIntoWords_65, k_X8_splitIntoWords_66, k_X8_splitIntoWords_67, k_X8_splitIntoWords_68, oE_some, Int.reduceToNat, Nat.reduceAdd, true_and, and_true, List.length_cons, List.length_nil, Option.toList_some, Option.toList_none, List.cons_append, List.nil_append, Nat.reduceLeDiff, Nat.le_refl, wdS_nil, wdS_i, wdS_l, wdS_r, wdS_n, wdS_s]
  exact u4 R
/-- n bytes come to the tape -/
def tkB (g : BitVec 64) (tc : Nat) (tb : List Int) : Nat → List Int
  | 0 => tb
  | i + 1 => (tkB g tc tb i).set (tc + i) (g >>> (8 * i) &&& 255#64).toInt
theorem tkB_len {g : BitVec 64} {tc : Nat} {tb : List Int} : ∀ i, (tkB g tc tb i).length = tb.length := by
  intro i
  induction i with
  | zero => rfl
  | succ i ih => show ((tkB g tc tb i).set _ _).length = _; rw [List.length_set, ih]
theorem tkB_ok {g : BitVec 64} {tc : Nat} {tb : List Int} {b : Nat → Nat} (h : byOK tb b) : ∀ i, ∃ b', byOK (tkB g tc tb i) b' := by
  intro i
  induction i with
  | zero => exact ⟨b, h⟩
  | succ i ih =>
    obtain ⟨b', l, q⟩ := ih
    have hv : (g >>> (8 * i) &&& 255#64).toInt = (((g >>> (8 * i) &&& 255#64).toNat : Nat) : Int) ∧ (g >>> (8 * i) &&& 255#64).toNat < 256 := by
      have : (g >>> (8 * i) &&& 255#64).toNat ≤ 255 := by rw [BitVec.toNat_and]; exact Nat.and_le_right
      exact ⟨BitVec.toInt_eq_toNat_of_lt (by omega), by omega⟩
    refine ⟨fun k => if tc + i = k then (g >>> (8 * i) &&& 255#64).toNat else b' k, by rw [tkB_len]; exact h.1, fun k hk => ?_⟩
    show ((tkB g tc tb i).set (tc + i) (g >>> (8 * i) &&& 255#64).toInt).getD k 0 = _ ∧ _
    by_cases e : tc + i = k
    · rw [getD_set (by omega), if_pos e]
      dsimp only
      rw [if_pos e]
      exact hv
    · have : ((tkB g tc tb i).set (tc + i) (g >>> (8 * i) &&& 255#64).toInt).getD k 0 = (tkB g tc tb i).getD k 0 := by
        by_cases e2 : tc + i < (tkB g tc tb i).length
        · rw [getD_set e2, if_neg e]
        · rw [List.set_eq_of_length_le (by omega)]
      rw [this]
      dsimp only
      rw [if_neg e]
      exact q k hk
set_option maxHeartbeats 16000000 in
theorem c8_take (d : Nat) {hp : HP} {a tc n : Nat} {ft : Int} {tb ws bg wo : List Int} {at_ : Int} {av : AV} {g : BitVec 64} (h : TPS hp a tc ft tb ws bg wo at_ av) (ht : tb.length = 200) (hn : n ≤ 8) (hc : tc + n ≤ 200) : ∃ h', TPS h' a (tc + n) ft (tkB g tc tb n) ws bg wo at_ av ∧ Fr a (a + 5) hp h' ∧ ∀ R : PO, callD (d + 1) 74 [mR a, mL g, mI (n : Int)] hp R ↔ R (some (mI ((tc + n : Nat) : Int))) h' := by
  have key : ∀ (m k : Nat) (h : HP), k + m = n → TPS h a (tc + k) ft (tkB g tc tb k) ws bg wo at_ av → ∃ h', TPS h' a (tc + n) ft (tkB g tc tb n) ws bg wo at_ av ∧ Fr a (a + 5) h h' ∧ ∀ R : PO, AWh d [] 74 R 2 [some (mR a), some (mL g), none, some (mI (n : Int)), some (mI (k : Int))] [] h (0, 0) ↔ R (some (mI ((tc + n : Nat) : Int))) h' := by
    intro m
    induction m with
    | zero =>
      intro k h hk hT
      have e : k = n := by omega
      subst e
      refine ⟨h, hT, Fr_refl h, fun R => ?_⟩
      rw [AWh_k, k_X8_take_2]
      simp only [AW_k, AWk_1, x_push_i, x_push_l, x_istore_4, x_iload_4, x_iload_3, x_icmp_ge, x_aload_0, x_aloads_0, x_getf, x_lload_1, x_imul, x_lushr, x_land, x_l2i, x_iast, x_dup_i, x_dup_r, x_dup_q, x_iadd, x_putf_i, x_iinc_4, x_goto, x_ret, x_ret_i, x_ret_z, x_ret_l, x_ret_c, unl_i, unl_l, unl_q, unl_r, unl_s, unl_n, k_X8_take_0, k_X8_take_1, k_X8_take_2, k_X8_take_3, k_X8_take_4, k_X8_take_5, k_X8_take_6, k_X8_take_7, k_X8_take_8, k_X8_take_9, k_X8_take_10, k_X8_take_11, k_X8_take_12, k_X8_take_13, k_X8_take_14, k_X8_take_15, k_X8_take_16, k_X8_take_17, k_X8_take_18, k_X8_take_19, k_X8_take_20, k_X8_take_21, k_X8_take_22, k_X8_take_23, k_X8_take_24, k_X8_take_25, k_X8_take_26, k_X8_take_27, k_X8_take_28, oE_some, Int.reduceToNat, Nat.reduceAdd, true_and, and_true, List.length_cons, List.length_nil, Option.toList_some, Option.toList_none, List.cons_append, List.nil_append, Nat.reduceLeDiff, Nat.le_refl, wdS_nil, wdS_i, wdS_l, wdS_r, wdS_n, wdS_s, hT.1.1]
      rw [if_neg (Int.lt_irrefl _)]
    | succ m ih =>
      intro k h hk hT
      have bk : k < 2147483648 := by omega
      have bn : n < 2147483648 := by omega
      have ck : (k : Int) < (n : Int) := by omega
      have e8 : (8 : Int) * (k : Int) = ((8 * k : Nat) : Int) := by omega
      have b8 : 8 * k < 64 := by omega
      have j1 : tc + k < (tkB g tc tb k).length := by rw [tkB_len]; omega
      have L1 : (tkB g tc tb k).length < 2147483648 := by rw [tkB_len]; omega
      have bt : tc + k < 2147483648 := by omega
      have et : ((tc + k : Nat) : Int) + 1 = ((tc + (k + 1) : Nat) : Int) := by omega
      have s1 := TPS_a1 (l := tkB g tc tb (k + 1)) hT
      have s2 := TPS_f0 (x := tc + (k + 1)) s1
      obtain ⟨h', u1, u2, u3⟩ := ih (k + 1) _ (by omega) s2
      refine ⟨h', u1, Fr_trans (Fr_trans (Fr_pA (by omega) (by omega)) (Fr_pF (by omega) (by omega))) u2, fun R => ?_⟩
      have u3 := u3 R
      have es : tkB g tc tb (k + 1) = (tkB g tc tb k).set (tc + k) (g >>> (8 * k) &&& 255#64).toInt := rfl
      have q1 := s1.1.1
      rw [es] at u3 q1
      rw [AWh_k, k_X8_take_2]
      simp only [AW_k, AWk_1, x_push_i, x_push_l, x_istore_4, x_iload_4, x_iload_3, x_icmp_ge, x_aload_0, x_aloads_0, x_getf, x_lload_1, x_imul, x_lushr, x_land, x_l2i, x_iast, x_dup_i, x_dup_r, x_dup_q, x_iadd, x_putf_i, x_iinc_4, x_goto, x_ret, x_ret_i, x_ret_z, x_ret_l, x_ret_c, unl_i, unl_l, unl_q, unl_r, unl_s, unl_n, k_X8_take_0, k_X8_take_1, k_X8_take_2, k_X8_take_3, k_X8_take_4, k_X8_take_5, k_X8_take_6, k_X8_take_7, k_X8_take_8, k_X8_take_9, k_X8_take_10, k_X8_take_11, k_X8_take_12, k_X8_take_13, k_X8_take_14, k_X8_take_15, k_X8_take_16, k_X8_take_17, k_X8_take_18, k_X8_take_19, k_X8_take_20, k_X8_take_21, k_X8_take_22, k_X8_take_23, k_X8_take_24, k_X8_take_25, k_X8_take_26, k_X8_take_27, k_X8_take_28, oE_some, Int.reduceToNat, Nat.reduceAdd, true_and, and_true, List.length_cons, List.length_nil, Option.toList_some, Option.toList_none, List.cons_append, List.nil_append, Nat.reduceLeDiff, Nat.le_refl, wdS_nil, wdS_i, wdS_l, wdS_r, wdS_n, wdS_s, hT.1.1, hT.1.2.2.1, hT.2.1, e8, sh_k b8, inB_n j1 L1, w32_tn bt, q1, et]
      rw [w32_nat bk, w32_nat bn, if_pos ck]
      exact u3
  obtain ⟨h', u1, u2, u3⟩ := key n 0 hp (by omega) h
  refine ⟨h', u1, u2, fun R => ?_⟩
  rw [callD_k]; simp only [entL_i, entL_l, entL_q, entL_s, entL_nil, n_X8_take, u_X8_take, m_X8_take, rep_1, List.cons_append, List.nil_append, List.append_nil, List.length_cons, List.length_nil, Nat.reduceAdd, true_and]
  simp only [AW_k, AWk_1, x_push_i, x_push_l, x_istore_4, x_iload_4, x_iload_3, x_icmp_ge, x_aload_0, x_aloads_0, x_getf, x_lload_1, x_imul, x_lushr, x_land, x_l2i, x_iast, x_dup_i, x_dup_r, x_dup_q, x_iadd, x_putf_i, x_iinc_4, x_goto, x_ret, x_ret_i, x_ret_z, x_ret_l, x_ret_c, unl_i, unl_l, unl_q, unl_r, unl_s, unl_n, k_X8_take_0, k_X8_take_1, k_X8_take_2, k_X8_take_3, k_X8_take_4, k_X8_take_5, k_X8_take_6, k_X8_take_7, k_X8_take_8, k_X8_take_9, k_X8_take_10, k_X8_take_11, k_X8_take_12, k_X8_take_13, k_X8_take_14, k_X8_take_15, k_X8_take_16, k_X8_take_17, k_X8_take_18, k_X8_take_19, k_X8_take_20, k_X8_take_21, k_X8_take_22, k_X8_take_23, k_X8_take_24, k_X8_take_25, k_X8_take_26, k_X8_take_27, k_X8_take_28, oE_some, Int.reduceToNat, Nat.reduceAdd, true_and, and_true, List.length_cons, List.length_nil, Option.toList_some, Option.toList_none, List.cons_append, List.nil_append, Nat.reduceLeDiff, Nat.le_refl, wdS_nil, wdS_i, wdS_l, wdS_r, wdS_n, wdS_s]
  exact u3 R
set_option maxHeartbeats 8000000 in
theorem c8_room (d : Nat) {hp : HP} {a tc n : Nat} {ft : Int} {tb ws bg wo : List Int} {at_ : Int} {av : AV} (h : TPS hp a tc ft tb ws bg wo at_ av) (hn : n ≤ 8) (hc : tc ≤ 200) (R : PO) : callD (d + 1) 73 [mR a, mI (n : Int)] hp R ↔ R (some (mI (zI (decide (tc + n ≤ 200))))) hp := by
  have e : (tc : Int) + (n : Int) = ((tc + n : Nat) : Int) := rfl
  have b : tc + n < 2147483648 := by omega
  have q : (decide (tc + n ≤ 200)) = !decide ((200 : Int) < ((tc + n : Nat) : Int)) := by
    by_cases h : tc + n ≤ 200
    · rw [decide_eq_true h, decide_eq_false (by omega)]; rfl
    · rw [decide_eq_false h, decide_eq_true (by omega)]; rfl
  rw [q]
  rw [callD_k]; simp only [entL_i, entL_l, entL_q, entL_s, entL_nil, n_X8_hasRoomFor, u_X8_hasRoomFor, m_X8_hasRoomFor, rep_0, List.cons_append, List.nil_append, List.append_nil, List.length_cons, List.length_nil, Nat.reduceAdd, true_and]
  simp only [AW_k, AWk_1, x_aload_0, x_aloads_0, x_getf, x_iload_1, x_iadd, x_push_i, x_push_l, x_icmp_gt, x_goto, x_ret, x_ret_i, x_ret_z, x_ret_l, x_ret_c, k_X8_hasRoomFor_0, k_X8_hasRoomFor_1, k_X8_hasRoomFor_2, k_X8_hasRoomFor_3, k_X8_hasRoomFor_4, k_X8_hasRoomFor_5, k_X8_hasRoomFor_6, k_X8_hasRoomFor_7, k_X8_hasRoomFor_8, k_X8_hasRoomFor_9, oE_some, Int.reduceToNat, Nat.reduceAdd, true_and, and_true, List.length_cons, List.length_nil, Option.toList_some, Option.toList_none, List.cons_append, List.nil_append, Nat.reduceLeDiff, Nat.le_refl, wdS_nil, wdS_i, wdS_l, wdS_r, wdS_n, wdS_s, h.1.1, e, or_true, true_or, R_ite]
  rw [w32_nat b, show w32 200 = 200 from rfl]
  by_cases h2 : (200 : Int) < ((tc + n : Nat) : Int)
  · rw [if_pos h2, decide_eq_true h2]; exact Iff.rfl
  · rw [if_neg h2, decide_eq_false h2]; exact Iff.rfl
