/-! ===== the reference reads words ===== -/
theorem m_isDigit (d : Nat) {hp : HP} {x : Nat} (hx : x < 256) (R : PO) : callD (d + 1) 211 [mI (x : Int)] hp R ↔ R (some (mI (zI (dgt x)))) hp := by
  have bx : x < 2147483648 := by omega
  unfold dgt
  rw [callD_k]; simp only [entL_i, entL_l, entL_q, entL_s, entL_nil, n_X11_isDigit, u_X11_isDigit, m_X11_isDigit, rep_0, List.cons_append, List.nil_append, List.append_nil, List.length_cons, List.length_nil, Nat.reduceAdd, true_and]
  simp only [AW_k, AWk_1, x_iload_0, x_push_i, x_push_l, x_icmp_lt, x_icmp_gt, x_goto, x_ret, x_ret_i, x_ret_z, x_ret_l, x_ret_c, k_X11_isDigit_0, k_X11_isDigit_1, k_X11_isDigit_2, k_X11_isDigit_3, k_X11_isDigit_4, k_X11_isDigit_5, k_X11_isDigit_6, k_X11_isDigit_7, k_X11_isDigit_8, k_X11_isDigit_9, oE_some, Int.reduceToNat, Nat.reduceAdd, true_and, and_true, List.length_cons, List.length_nil, Option.toList_some, Option.toList_none, List.cons_append, List.nil_append, Nat.reduceLeDiff, Nat.le_refl, wdS_nil, wdS_i, wdS_l, wdS_r, wdS_n, wdS_s, w32_nat bx, show w32 48 = 48 from rfl, show w32 57 = 57 from rfl]
  by_cases h : x < 48
  · rw [if_pos (by omega), decide_eq_false (by omega), Bool.false_and]; exact ⟨fun q => q.2, fun q => ⟨Or.inl trivial, q⟩⟩
  · rw [if_neg (by omega), decide_eq_true (by omega), Bool.true_and]
    by_cases h2 : 57 < x
    · rw [if_pos (by omega), decide_eq_false (by omega)]; exact ⟨fun q => q.2, fun q => ⟨Or.inl trivial, q⟩⟩
    · rw [if_neg (by omega), decide_eq_true (by omega)]; exact ⟨fun q => q.2, fun q => ⟨Or.inr trivial, q⟩⟩
theorem m_isLetter (d : Nat) {hp : HP} {x : Nat} (hx : x < 256) (R : PO) : callD (d + 1) 212 [mI (x : Int)] hp R ↔ R (some (mI (zI (ltr x)))) hp := by
  have bx : x < 2147483648 := by omega
  unfold ltr
  rw [callD_k]; simp only [entL_i, entL_l, entL_q, entL_s, entL_nil, n_X11_isLetter, u_X11_isLetter, m_X11_isLetter, rep_0, List.cons_append, List.nil_append, List.append_nil, List.length_cons, List.length_nil, Nat.reduceAdd, true_and]
  simp only [AW_k, AWk_1, x_iload_0, x_push_i, x_push_l, x_icmp_lt, x_icmp_gt, x_goto, x_ret, x_ret_i, x_ret_z, x_ret_l, x_ret_c, k_X11_isLetter_0, k_X11_isLetter_1, k_X11_isLetter_2, k_X11_isLetter_3, k_X11_isLetter_4, k_X11_isLetter_5, k_X11_isLetter_6, k_X11_isLetter_7, k_X11_isLetter_8, k_X11_isLetter_9, oE_some, Int.reduceToNat, Nat.reduceAdd, true_and, and_true, List.length_cons, List.length_nil, Option.toList_some, Option.toList_none, List.cons_append, List.nil_append, Nat.reduceLeDiff, Nat.le_refl, wdS_nil, wdS_i, wdS_l, wdS_r, wdS_n, wdS_s, w32_nat bx, show w32 97 = 97 from rfl, show w32 122 = 122 from rfl]
  by_cases h : x < 97
  · rw [if_pos (by omega), decide_eq_false (by omega), Bool.false_and]; exact ⟨fun q => q.2, fun q => ⟨Or.inl trivial, q⟩⟩
  · rw [if_neg (by omega), decide_eq_true (by omega), Bool.true_and]
    by_cases h2 : 122 < x
    · rw [if_pos (by omega), decide_eq_false (by omega)]; exact ⟨fun q => q.2, fun q => ⟨Or.inl trivial, q⟩⟩
    · rw [if_neg (by omega), decide_eq_true (by omega)]; exact ⟨fun q => q.2, fun q => ⟨Or.inr trivial, q⟩⟩
/-- what the reader's small methods need -/
def RD (hp : HP) (tb : List Int) (tc : Nat) : Prop := gF hp 54 11 20 = some (mR 65) ∧ gA hp 65 = some tb ∧ gF hp 54 11 23 = some (mI (tc : Int)) ∧ byOK tb (bO tb) ∧ tc ≤ 200 ∧ gC hp 54 = some 11
set_option maxHeartbeats 16000000 in
theorem m_is (d : Nat) {hp : HP} {tb : List Int} {tc p e j : Nat} (h : RD hp tb tc) (g24 : gF hp 54 11 24 = some (mI (p : Int))) (g25 : gF hp 54 11 25 = some (mI (e : Int))) (hj : j < 21) (hp1 : p ≤ e) (he : e ≤ 200) (R : PO) : callD (d + 5) 214 [mR 54, mS (100 + j)] hp R ↔ R (some (mI (zI (isNm (stxt j) (bO tb) p e)))) hp := by
  obtain ⟨g20, a65, g23, hb, hc, cK⟩ := h
  have h1 : 100 ≤ 100 + j ∧ 100 + j < 121 := by omega
  have bl := (stx_all j hj).1
  have sj := (stx_all j hj).2
  have bL : (stxt j).length < 2147483648 := by omega
  have ee : (e : Int) - (p : Int) = ((e - p : Nat) : Int) := by omega
  have bep : e - p < 2147483648 := by omega
  unfold isNm
  by_cases hl : e - p = (stxt j).length
  · have cl : (((e - p : Nat) : Int) = ((stxt j).length : Int)) = True := eq_true (by omega)
    rw [decide_eq_true hl, Bool.true_and]
    have zero : ∀ k : Nat, k ≤ (stxt j).length → (AWh (d + 4) [] 214 R 14 [some (mR 54), some (mS (100 + j)), some (mI 0), some (mI (k : Int))] [] hp (0, 0) ↔ R (some (mI 0)) hp) := by
      intro k hk
      have bk : k < 2147483648 := by omega
      rw [AWh_k, k_X11_is_14]
      by_cases c : k < (stxt j).length
      · have ck : ((k : Int) < ((stxt j).length : Int)) = True := eq_true (by omega)
        simp only [AW_k, AWk_1, x_iload_3, x_aload_1, x_aloads_1, x_callt_1, x_icmp_ge, x_iload_2, x_if_eq, x_ret, x_ret_i, x_ret_z, x_ret_l, x_ret_c, k_X11_is_14, k_X11_is_15, k_X11_is_16, k_X11_is_17, k_X11_is_18, k_X11_is_19, k_X11_is_37, k_X11_is_38, oE_some, Int.reduceToNat, Nat.reduceAdd, true_and, and_true, List.length_cons, List.length_nil, Option.toList_some, Option.toList_none, List.cons_append, List.nil_append, Nat.reduceLeDiff, Nat.le_refl, wdS_nil, wdS_i, wdS_l, wdS_r, wdS_n, wdS_s, h1, and_self, c0_length (d + 2) hj, w32_nat bk, w32_nat bL, ck, w00, true_or, ↓reduceIte]
      · have ck : ((k : Int) < ((stxt j).length : Int)) = False := eq_false (by omega)
        simp only [AW_k, AWk_1, x_iload_3, x_aload_1, x_aloads_1, x_callt_1, x_icmp_ge, x_iload_2, x_if_eq, x_ret, x_ret_i, x_ret_z, x_ret_l, x_ret_c, k_X11_is_14, k_X11_is_15, k_X11_is_16, k_X11_is_17, k_X11_is_18, k_X11_is_19, k_X11_is_37, k_X11_is_38, oE_some, Int.reduceToNat, Nat.reduceAdd, true_and, and_true, List.length_cons, List.length_nil, Option.toList_some, Option.toList_none, List.cons_append, List.nil_append, Nat.reduceLeDiff, Nat.le_refl, wdS_nil, wdS_i, wdS_l, wdS_r, wdS_n, wdS_s, h1, and_self, c0_length (d + 2) hj, w32_nat bk, w32_nat bL, ck, true_or, ↓reduceIte]
    have key := loop_fst (P := fun k => AWh (d + 4) [] 214 R 14 [some (mR 54), some (mS (100 + j)), some (mI 1), some (mI (k : Int))] [] hp (0, 0)) (E := fun _ => R (some (mI 0)) hp) (f := fun k => !decide (((bO tb (p + k) : Nat) : Int) = (stxt j).getD k 0)) (N := (stxt j).length) (fun k hk => by
      have bk : k < 2147483648 := by omega
      have ck : ((k : Int) < ((stxt j).length : Int)) = True := eq_true (by omega)
      have pk : p + k < 200 := by omega
      have epk : (p : Int) + (k : Int) = ((p + k : Nat) : Int) := by omega
      have ek : (k : Int) + 1 = ((k + 1 : Nat) : Int) := by omega
      have bb := (hb.2 (p + k) pk).2
      have bb2 : bO tb (p + k) < 2147483648 := by omega
      have sk := (sj k hk).2
      have r1 : -2147483648 ≤ (stxt j).getD k 0 := by omega
      have r2 : (stxt j).getD k 0 < 2147483648 := by omega
      obtain ⟨g1, g2⟩ := b200 hb pk
      have z := zero (k + 1) (by omega)
      show AWh (d + 4) [] 214 R 14 [some (mR 54), some (mS (100 + j)), some (mI 1), some (mI (k : Int))] [] hp (0, 0) ↔ if (!decide (((bO tb (p + k) : Nat) : Int) = (stxt j).getD k 0)) = true then R (some (mI 0)) hp else AWh (d + 4) [] 214 R 14 [some (mR 54), some (mS (100 + j)), some (mI 1), some (mI ((k + 1 : Nat) : Int))] [] hp (0, 0)
      refine Iff.trans AWh_k ?_
      rw [k_X11_is_14]
      by_cases q : ((bO tb (p + k) : Nat) : Int) = (stxt j).getD k 0
      · have q' : (((bO tb (p + k) : Nat) : Int) = (stxt j).getD k 0) = True := eq_true q
        rw [decide_eq_true q, if_neg (by decide)]
        simp only [AW_k, AWk_1, x_iload_3, x_aload_1, x_aloads_1, x_callt_1, x_icmp_ge, x_iload_2, x_if_eq, x_aload_0, x_aloads_0, x_getf, x_iadd, x_iald, x_ialds, x_callt_2, x_icmp_ne, x_push_i, x_push_l, x_goto, x_istore_2, x_iinc_3, unl_i, unl_l, unl_q, unl_r, unl_s, unl_n, k_X11_is_14, k_X11_is_15, k_X11_is_16, k_X11_is_17, k_X11_is_18, k_X11_is_19, k_X11_is_20, k_X11_is_21, k_X11_is_22, k_X11_is_23, k_X11_is_24, k_X11_is_25, k_X11_is_26, k_X11_is_27, k_X11_is_28, k_X11_is_29, k_X11_is_30, k_X11_is_31, k_X11_is_32, k_X11_is_33, k_X11_is_34, k_X11_is_35, k_X11_is_36, oE_some, Int.reduceToNat, Nat.reduceAdd, true_and, and_true, List.length_cons, List.length_nil, Option.toList_some, Option.toList_none, List.cons_append, List.nil_append, Nat.reduceLeDiff, Nat.le_refl, wdS_nil, wdS_i, wdS_l, wdS_r, wdS_n, wdS_s, h1, and_self, c0_length (d + 2) hj, w32_nat bk, w32_nat bL, ck, w10, g20, a65, g24, epk, g1, g2, c0_charAt d hj hk, w32_nat bb2, w32_id r1 r2, q', ek, ↓reduceIte]
      · have q' : (((bO tb (p + k) : Nat) : Int) = (stxt j).getD k 0) = False := eq_false q
        rw [decide_eq_false q, if_pos (show (!false) = true from rfl)]
        simp only [AW_k, AWk_1, x_iload_3, x_aload_1, x_aloads_1, x_callt_1, x_icmp_ge, x_iload_2, x_if_eq, x_aload_0, x_aloads_0, x_getf, x_iadd, x_iald, x_ialds, x_callt_2, x_icmp_ne, x_push_i, x_push_l, x_goto, x_istore_2, x_iinc_3, unl_i, unl_l, unl_q, unl_r, unl_s, unl_n, k_X11_is_14, k_X11_is_15, k_X11_is_16, k_X11_is_17, k_X11_is_18, k_X11_is_19, k_X11_is_20, k_X11_is_21, k_X11_is_22, k_X11_is_23, k_X11_is_24, k_X11_is_25, k_X11_is_26, k_X11_is_27, k_X11_is_28, k_X11_is_29, k_X11_is_30, k_X11_is_31, k_X11_is_32, k_X11_is_33, k_X11_is_34, k_X11_is_35, k_X11_is_36, oE_some, Int.reduceToNat, Nat.reduceAdd, true_and, and_true, List.length_cons, List.length_nil, Option.toList_some, Option.toList_none, List.cons_append, List.nil_append, Nat.reduceLeDiff, Nat.le_refl, wdS_nil, wdS_i, wdS_l, wdS_r, wdS_n, wdS_s, h1, and_self, c0_length (d + 2) hj, w32_nat bk, w32_nat bL, ck, w10, g20, a65, g24, epk, g1, g2, c0_charAt d hj hk, w32_nat bb2, w32_id r1 r2, q', ek, ↓reduceIte]
        exact z) (n := (stxt j).length) (a := 0) (by omega)
    have st : callD (d + 5) 214 [mR 54, mS (100 + j)] hp R ↔ AWh (d + 4) [] 214 R 14 [some (mR 54), some (mS (100 + j)), some (mI 1), some (mI ((0 : Nat) : Int))] [] hp (0, 0) := by
      rw [callD_k]; simp only [entL_i, entL_l, entL_q, entL_s, entL_nil, n_X11_is, u_X11_is, m_X11_is, rep_2, List.cons_append, List.nil_append, List.append_nil, List.length_cons, List.length_nil, Nat.reduceAdd, true_and]
      simp only [AW_k, AWk_1, x_aload_0, x_aloads_0, x_getf, x_isub, x_aload_1, x_aloads_1, x_callt_1, x_icmp_ne, x_push_i, x_push_l, x_goto, x_istore_2, x_istore_3, x_iload_3, unl_i, unl_l, unl_q, unl_r, unl_s, unl_n, k_X11_is_0, k_X11_is_1, k_X11_is_2, k_X11_is_3, k_X11_is_4, k_X11_is_5, k_X11_is_6, k_X11_is_7, k_X11_is_8, k_X11_is_9, k_X11_is_10, k_X11_is_11, k_X11_is_12, k_X11_is_13, k_X11_is_14, oE_some, Int.reduceToNat, Nat.reduceAdd, true_and, and_true, List.length_cons, List.length_nil, Option.toList_some, Option.toList_none, List.cons_append, List.nil_append, Nat.reduceLeDiff, Nat.le_refl, wdS_nil, wdS_i, wdS_l, wdS_r, wdS_n, wdS_s, h1, and_self, c0_length (d + 2) hj, g24, g25, ee, w32_nat bep, w32_nat bL, cl, ↓reduceIte]
      all_goals exact Iff.rfl
    refine st.trans (key.trans ?_)
    cases fst (fun k => !decide (((bO tb (p + k) : Nat) : Int) = (stxt j).getD k 0)) (stxt j).length 0 with
    | some k => exact Iff.rfl
    | none =>
      show AWh (d + 4) [] 214 R 14 [some (mR 54), some (mS (100 + j)), some (mI 1), some (mI ((stxt j).length : Int))] [] hp (0, 0) ↔ R (some (mI 1)) hp
      refine Iff.trans AWh_k ?_
      rw [k_X11_is_14]
      simp only [AW_k, AWk_1, x_iload_3, x_aload_1, x_aloads_1, x_callt_1, x_icmp_ge, x_iload_2, x_ret, x_ret_i, x_ret_z, x_ret_l, x_ret_c, k_X11_is_14, k_X11_is_15, k_X11_is_16, k_X11_is_17, k_X11_is_37, k_X11_is_38, oE_some, Int.reduceToNat, Nat.reduceAdd, true_and, and_true, List.length_cons, List.length_nil, Option.toList_some, Option.toList_none, List.cons_append, List.nil_append, Nat.reduceLeDiff, Nat.le_refl, wdS_nil, wdS_i, wdS_l, wdS_r, wdS_n, wdS_s, h1, and_self, c0_length (d + 2) hj, w32_nat bL, Int.lt_irrefl, or_true, ↓reduceIte]
  · have cl : (((e - p : Nat) : Int) = ((stxt j).length : Int)) = False := eq_false (by omega)
    have hne : 0 < (stxt j).length ∨ (stxt j).length = 0 := by omega
    rw [decide_eq_false hl, Bool.false_and]
    rw [callD_k]; simp only [entL_i, entL_l, entL_q, entL_s, entL_nil, n_X11_is, u_X11_is, m_X11_is, rep_2, List.cons_append, List.nil_append, List.append_nil, List.length_cons, List.length_nil, Nat.reduceAdd, true_and]
    simp only [AW_k, AWk_1, x_aload_0, x_aloads_0, x_getf, x_isub, x_aload_1, x_aloads_1, x_callt_1, x_icmp_ne, x_push_i, x_push_l, x_goto, x_istore_2, x_istore_3, x_iload_3, unl_i, unl_l, unl_q, unl_r, unl_s, unl_n, k_X11_is_0, k_X11_is_1, k_X11_is_2, k_X11_is_3, k_X11_is_4, k_X11_is_5, k_X11_is_6, k_X11_is_7, k_X11_is_8, k_X11_is_9, k_X11_is_10, k_X11_is_11, k_X11_is_12, k_X11_is_13, k_X11_is_14, oE_some, Int.reduceToNat, Nat.reduceAdd, true_and, and_true, List.length_cons, List.length_nil, Option.toList_some, Option.toList_none, List.cons_append, List.nil_append, Nat.reduceLeDiff, Nat.le_refl, wdS_nil, wdS_i, wdS_l, wdS_r, wdS_n, wdS_s, h1, and_self, c0_length (d + 2) hj, g24, g25, ee, w32_nat bep, w32_nat bL, cl, ↓reduceIte]
    rw [AWh_k, k_X11_is_14]
    by_cases c : (0 : Int) < ((stxt j).length : Int)
    · simp only [AW_k, AWk_1, x_iload_3, x_aload_1, x_aloads_1, x_callt_1, x_icmp_ge, x_iload_2, x_if_eq, x_ret, x_ret_i, x_ret_z, x_ret_l, x_ret_c, k_X11_is_14, k_X11_is_15, k_X11_is_16, k_X11_is_17, k_X11_is_18, k_X11_is_19, k_X11_is_37, k_X11_is_38, oE_some, Int.reduceToNat, Nat.reduceAdd, true_and, and_true, List.length_cons, List.length_nil, Option.toList_some, Option.toList_none, List.cons_append, List.nil_append, Nat.reduceLeDiff, Nat.le_refl, wdS_nil, wdS_i, wdS_l, wdS_r, wdS_n, wdS_s, h1, and_self, c0_length (d + 2) hj, show w32 0 = 0 from rfl, w32_nat bL, c, true_or, ↓reduceIte]
      all_goals exact Iff.rfl
    · simp only [AW_k, AWk_1, x_iload_3, x_aload_1, x_aloads_1, x_callt_1, x_icmp_ge, x_iload_2, x_if_eq, x_ret, x_ret_i, x_ret_z, x_ret_l, x_ret_c, k_X11_is_14, k_X11_is_15, k_X11_is_16, k_X11_is_17, k_X11_is_18, k_X11_is_19, k_X11_is_37, k_X11_is_38, oE_some, Int.reduceToNat, Nat.reduceAdd, true_and, and_true, List.length_cons, List.length_nil, Option.toList_some, Option.toList_none, List.cons_append, List.nil_append, Nat.reduceLeDiff, Nat.le_refl, wdS_nil, wdS_i, wdS_l, wdS_r, wdS_n, wdS_s, h1, and_self, c0_length (d + 2) hj, show w32 0 = 0 from rfl, w32_nat bL, c, true_or, ↓reduceIte]
      all_goals exact Iff.rfl
/-- only the places are new -/
def PF (h h' : HP) : Prop := Fr 54 55 h h' ∧ ∀ f, f ≠ 24 → f ≠ 25 → gF h' 54 11 f = gF h 54 11 f
theorem PF_refl (h : HP) : PF h h := ⟨Fr_refl h, fun _ _ _ => rfl⟩
theorem PF_trans {a b c : HP} (x : PF a b) (y : PF b c) : PF a c := ⟨Fr_trans x.1 y.1, fun f h1 h2 => (y.2 f h1 h2).trans (x.2 f h1 h2)⟩
theorem PF_24 {h : HP} {v : AV} : PF h (pF h 54 11 24 v) := ⟨Fr_pF (by decide) (by decide), fun f h1 h2 => gF_pF (by omega)⟩
theorem PF_25 {h : HP} {v : AV} : PF h (pF h 54 11 25 v) := ⟨Fr_pF (by decide) (by decide), fun f h1 h2 => gF_pF (by omega)⟩
theorem RD_PF {h h' : HP} {tb : List Int} {tc : Nat} (r : RD h tb tc) (p : PF h h') : RD h' tb tc := by
  obtain ⟨g20, a65, g23, hb, hc, cK⟩ := r
  have e20 := (p.2 20 (by decide) (by decide)).trans g20
  exact ⟨e20, by rw [gA_Fr p.1 (by omega), a65], (p.2 23 (by decide) (by decide)).trans g23, hb, hc, gC_of e20⟩
set_option maxHeartbeats 16000000 in
theorem m_nxSkip (d : Nat) {tb : List Int} {tc : Nat} (y1 y2 : Option AV) : ∀ (f e : Nat) (h : HP), tc - e ≤ f → e ≤ tc → RD h tb tc → gF h 54 11 24 = some (mI (e : Int)) → ∃ (h' : HP) (p : Nat), PF h h' ∧ gF h' 54 11 25 = gF h 54 11 25 ∧ gF h' 54 11 24 = some (mI (p : Int)) ∧ p ≤ tc ∧ (p < tc → ¬ bO tb p = 32) ∧ TK (bO tb) tc e = TK (bO tb) tc p ∧ ∀ R : PO, AWh (d + 1) [] 213 R 4 [some (mR 54), y1, y2] [] h (0, 0) ↔ AWk (d + 1) [] 213 R 23 (cd 213 23) [some (mR 54), y1, y2] [] h' (0, 0) := by
  intro f
  induction f with
  | zero =>
    intro e h hf he r g24
    have ee : e = tc := by omega
    subst ee
    have bt : e < 2147483648 := by have := r.2.2.2.2.1; omega
    refine ⟨h, e, PF_refl h, rfl, g24, Nat.le_refl _, fun q => absurd q (Nat.lt_irrefl _), rfl, fun R => ?_⟩
    rw [AWh_k, k_X11_next_4]
    simp only [AW_k, AWk_1, x_aload_0, x_aloads_0, x_getf, x_icmp_ge, k_X11_next_4, k_X11_next_5, k_X11_next_6, k_X11_next_7, k_X11_next_8, oE_some, Int.reduceToNat, Nat.reduceAdd, true_and, and_true, List.length_cons, List.length_nil, Option.toList_some, Option.toList_none, List.cons_append, List.nil_append, Nat.reduceLeDiff, Nat.le_refl, wdS_nil, wdS_i, wdS_l, wdS_r, wdS_n, wdS_s, g24, r.2.2.1, w32_nat bt, Int.lt_irrefl, ↓reduceIte]
    all_goals exact Iff.rfl
  | succ f ih =>
    intro e h hf he r g24
    have r0 := r
    obtain ⟨g20, a65, g23, hb, hc, cK⟩ := r
    have be : e < 2147483648 := by omega
    have bt : tc < 2147483648 := by omega
    by_cases c : e < tc
    · have c1 : ((e : Int) < (tc : Int)) = True := eq_true (by omega)
      have e200 : e < 200 := by omega
      obtain ⟨g1, g2⟩ := b200 hb e200
      have bb := (hb.2 e e200).2
      have bb2 : bO tb e < 2147483648 := by omega
      rw [w32_tn be] at g2
      by_cases c2 : bO tb e = 32
      · have n1 : (((bO tb e : Nat) : Int) = 32) = True := eq_true (by omega)
        have ek : (e : Int) + 1 = ((e + 1 : Nat) : Int) := by omega
        obtain ⟨h', p, a1, a0, a2, a3, a4, a5, a6⟩ := ih (e + 1) (pF h 54 11 24 (mI ((e + 1 : Nat) : Int))) (by omega) c (RD_PF r0 PF_24) (gF_pF_same g24)
        refine ⟨h', p, PF_trans PF_24 a1, by rw [a0, gF_pF (by omega)], a2, a3, a4, by rw [TK_bl hc c c2]; exact a5, fun R => Iff.trans ?_ (a6 R)⟩
        rw [AWh_k, k_X11_next_4]
        simp only [AW_k, AWk_1, x_aload_0, x_aloads_0, x_getf, x_icmp_ge, x_iald, x_ialds, x_push_i, x_push_l, x_icmp_ne, x_dup_i, x_dup_r, x_dup_q, x_iadd, x_putf_i, x_goto, k_X11_next_4, k_X11_next_5, k_X11_next_6, k_X11_next_7, k_X11_next_8, k_X11_next_9, k_X11_next_10, k_X11_next_11, k_X11_next_12, k_X11_next_13, k_X11_next_14, k_X11_next_15, k_X11_next_16, k_X11_next_17, k_X11_next_18, k_X11_next_19, k_X11_next_20, k_X11_next_21, k_X11_next_22, oE_some, Int.reduceToNat, Nat.reduceAdd, true_and, and_true, List.length_cons, List.length_nil, Option.toList_some, Option.toList_none, List.cons_append, List.nil_append, Nat.reduceLeDiff, Nat.le_refl, wdS_nil, wdS_i, wdS_l, wdS_r, wdS_n, wdS_s, g24, g23, w32_nat be, w32_nat bt, c1, g20, a65, g1, Int.toNat_natCast, g2, w32_nat bb2, show w32 32 = 32 from rfl, n1, ek, ↓reduceIte]
      · have n1 : (((bO tb e : Nat) : Int) = 32) = False := eq_false (by omega)
        refine ⟨h, e, PF_refl h, rfl, g24, he, fun _ => c2, rfl, fun R => ?_⟩
        rw [AWh_k, k_X11_next_4]
        simp only [AW_k, AWk_1, x_aload_0, x_aloads_0, x_getf, x_icmp_ge, x_iald, x_ialds, x_push_i, x_push_l, x_icmp_ne, k_X11_next_4, k_X11_next_5, k_X11_next_6, k_X11_next_7, k_X11_next_8, k_X11_next_9, k_X11_next_10, k_X11_next_11, k_X11_next_12, k_X11_next_13, k_X11_next_14, k_X11_next_15, oE_some, Int.reduceToNat, Nat.reduceAdd, true_and, and_true, List.length_cons, List.length_nil, Option.toList_some, Option.toList_none, List.cons_append, List.nil_append, Nat.reduceLeDiff, Nat.le_refl, wdS_nil, wdS_i, wdS_l, wdS_r, wdS_n, wdS_s, g24, g23, w32_nat be, w32_nat bt, c1, g20, a65, g1, Int.toNat_natCast, g2, w32_nat bb2, show w32 32 = 32 from rfl, n1, ↓reduceIte]
        all_goals exact Iff.rfl
    · have c1 : ((e : Int) < (tc : Int)) = False := eq_false (by omega)
      refine ⟨h, e, PF_refl h, rfl, g24, he, fun q => absurd q c, rfl, fun R => ?_⟩
      rw [AWh_k, k_X11_next_4]
      simp only [AW_k, AWk_1, x_aload_0, x_aloads_0, x_getf, x_icmp_ge, k_X11_next_4, k_X11_next_5, k_X11_next_6, k_X11_next_7, k_X11_next_8, oE_some, Int.reduceToNat, Nat.reduceAdd, true_and, and_true, List.length_cons, List.length_nil, Option.toList_some, Option.toList_none, List.cons_append, List.nil_append, Nat.reduceLeDiff, Nat.le_refl, wdS_nil, wdS_i, wdS_l, wdS_r, wdS_n, wdS_s, g24, g23, w32_nat be, w32_nat bt, c1, ↓reduceIte]
      all_goals exact Iff.rfl
/-- which bytes go on -/
def gon (l g : Bool) (x : Nat) : Bool := (l && ltr x) || (g && dgt x)
set_option maxHeartbeats 16000000 in
theorem m_nxRun (d : Nat) {tb : List Int} {tc : Nat} (l g : Bool) : ∀ (f e : Nat) (h : HP), tc - e ≤ f → e ≤ tc → RD h tb tc → gF h 54 11 25 = some (mI (e : Int)) → ∃ h', PF h h' ∧ gF h' 54 11 24 = gF h 54 11 24 ∧ gF h' 54 11 25 = some (mI ((rnE (gon l g) (bO tb) tc f e : Nat) : Int)) ∧ ∀ R : PO, AWh (d + 1) [] 213 R 53 [some (mR 54), some (mI (zI l)), some (mI (zI g))] [] h (0, 0) ↔ R none h' := by
  intro f
  induction f with
  | zero =>
    intro e h hf he r g25
    have ee : e = tc := by omega
    subst ee
    have bt : e < 2147483648 := by have := r.2.2.2.2.1; omega
    refine ⟨h, PF_refl h, rfl, g25, fun R => ?_⟩
    rw [AWh_k, k_X11_next_53]
    simp only [AW_k, AWk_1, x_aload_0, x_aloads_0, x_getf, x_icmp_ge, x_ret, x_ret_i, x_ret_z, x_ret_l, x_ret_c, k_X11_next_53, k_X11_next_54, k_X11_next_55, k_X11_next_56, k_X11_next_57, k_X11_next_83, oE_some, Int.reduceToNat, Nat.reduceAdd, true_and, and_true, List.length_cons, List.length_nil, Option.toList_some, Option.toList_none, List.cons_append, List.nil_append, Nat.reduceLeDiff, Nat.le_refl, wdS_nil, wdS_i, wdS_l, wdS_r, wdS_n, wdS_s, g25, r.2.2.1, w32_nat bt, Int.lt_irrefl, ↓reduceIte]
  | succ f ih =>
    intro e h hf he r g25
    have r0 := r
    obtain ⟨g20, a65, g23, hb, hc, cK⟩ := r
    have be : e < 2147483648 := by omega
    have bt : tc < 2147483648 := by omega
    have eu : rnE (gon l g) (bO tb) tc (f + 1) e = if (decide (e < tc) && gon l g (bO tb e)) = true then rnE (gon l g) (bO tb) tc f (e + 1) else e := rfl
    rw [eu]
    by_cases c : e < tc
    · have c1 : ((e : Int) < (tc : Int)) = True := eq_true (by omega)
      have e200 : e < 200 := by omega
      obtain ⟨g1, g2⟩ := b200 hb e200
      have bb := (hb.2 e e200).2
      rw [w32_tn be] at g2
      have ek : (e : Int) + 1 = ((e + 1 : Nat) : Int) := by omega
      rw [decide_eq_true c, Bool.true_and]
      cases q : gon l g (bO tb e) with
      | true =>
        rw [if_pos rfl]
        obtain ⟨h', a1, a2, a3, a4⟩ := ih (e + 1) (pF h 54 11 25 (mI ((e + 1 : Nat) : Int))) (by omega) c (RD_PF r0 PF_25) (gF_pF_same g25)
        refine ⟨h', PF_trans PF_25 a1, by rw [a2, gF_pF (by omega)], a3, fun R => Iff.trans ?_ (a4 R)⟩
        rw [AWh_k, k_X11_next_53]
        unfold gon at q
        cases l with
        | true =>
          cases el : ltr (bO tb e) with
          | true =>
            simp only [AW_k, AWk_1, x_aload_0, x_aloads_0, x_getf, x_icmp_ge, x_iload_1, x_if_eq, x_iald, x_ialds, x_call_1, x_if_ne, x_iload_2, x_dup_i, x_dup_r, x_dup_q, x_push_i, x_push_l, x_iadd, x_putf_i, x_goto, k_X11_next_53, k_X11_next_54, k_X11_next_55, k_X11_next_56, k_X11_next_57, k_X11_next_58, k_X11_next_59, k_X11_next_60, k_X11_next_61, k_X11_next_62, k_X11_next_63, k_X11_next_64, k_X11_next_65, k_X11_next_66, k_X11_next_67, k_X11_next_68, k_X11_next_69, k_X11_next_70, k_X11_next_71, k_X11_next_72, k_X11_next_73, k_X11_next_74, k_X11_next_75, k_X11_next_76, k_X11_next_77, k_X11_next_78, k_X11_next_79, k_X11_next_80, k_X11_next_81, k_X11_next_82, oE_some, Int.reduceToNat, Nat.reduceAdd, true_and, and_true, List.length_cons, List.length_nil, Option.toList_some, Option.toList_none, List.cons_append, List.nil_append, Nat.reduceLeDiff, Nat.le_refl, wdS_nil, wdS_i, wdS_l, wdS_r, wdS_n, wdS_s, g25, g23, w32_nat be, w32_nat bt, c1, zI_t, w10, g20, a65, g1, Int.toNat_natCast, g2, m_isLetter d bb, el, ek, ↓reduceIte]
          | false =>
            rw [el] at q
            cases g with
            | false => exact absurd q (by cases dgt (bO tb e) <;> decide)
            | true =>
              cases eg : dgt (bO tb e) with
              | false => rw [eg] at q; exact absurd q (by decide)
              | true =>
                simp only [AW_k, AWk_1, x_aload_0, x_aloads_0, x_getf, x_icmp_ge, x_iload_1, x_if_eq, x_iald, x_ialds, x_call_1, x_if_ne, x_iload_2, x_dup_i, x_dup_r, x_dup_q, x_push_i, x_push_l, x_iadd, x_putf_i, x_goto, k_X11_next_53, k_X11_next_54, k_X11_next_55, k_X11_next_56, k_X11_next_57, k_X11_next_58, k_X11_next_59, k_X11_next_60, k_X11_next_61, k_X11_next_62, k_X11_next_63, k_X11_next_64, k_X11_next_65, k_X11_next_66, k_X11_next_67, k_X11_next_68, k_X11_next_69, k_X11_next_70, k_X11_next_71, k_X11_next_72, k_X11_next_73, k_X11_next_74, k_X11_next_75, k_X11_next_76, k_X11_next_77, k_X11_next_78, k_X11_next_79, k_X11_next_80, k_X11_next_81, k_X11_next_82, oE_some, Int.reduceToNat, Nat.reduceAdd, true_and, and_true, List.length_cons, List.length_nil, Option.toList_some, Option.toList_none, List.cons_append, List.nil_append, Nat.reduceLeDiff, Nat.le_refl, wdS_nil, wdS_i, wdS_l, wdS_r, wdS_n, wdS_s, g25, g23, w32_nat be, w32_nat bt, c1, zI_t, zI_f, w10, w00, g20, a65, g1, Int.toNat_natCast, g2, m_isLetter d bb, m_isDigit d bb, el, eg, ek, ↓reduceIte]
        | false =>
          cases g with
          | false => exact absurd q (by cases ltr (bO tb e) <;> cases dgt (bO tb e) <;> decide)
          | true =>
            cases eg : dgt (bO tb e) with
            | false => rw [eg] at q; exact absurd q (by cases ltr (bO tb e) <;> decide)
            | true =>
              simp only [AW_k, AWk_1, x_aload_0, x_aloads_0, x_getf, x_icmp_ge, x_iload_1, x_if_eq, x_iald, x_ialds, x_call_1, x_if_ne, x_iload_2, x_dup_i, x_dup_r, x_dup_q, x_push_i, x_push_l, x_iadd, x_putf_i, x_goto, k_X11_next_53, k_X11_next_54, k_X11_next_55, k_X11_next_56, k_X11_next_57, k_X11_next_58, k_X11_next_59, k_X11_next_60, k_X11_next_61, k_X11_next_62, k_X11_next_63, k_X11_next_64, k_X11_next_65, k_X11_next_66, k_X11_next_67, k_X11_next_68, k_X11_next_69, k_X11_next_70, k_X11_next_71, k_X11_next_72, k_X11_next_73, k_X11_next_74, k_X11_next_75, k_X11_next_76, k_X11_next_77, k_X11_next_78, k_X11_next_79, k_X11_next_80, k_X11_next_81, k_X11_next_82, oE_some, Int.reduceToNat, Nat.reduceAdd, true_and, and_true, List.length_cons, List.length_nil, Option.toList_some, Option.toList_none, List.cons_append, List.nil_append, Nat.reduceLeDiff, Nat.le_refl, wdS_nil, wdS_i, wdS_l, wdS_r, wdS_n, wdS_s, g25, g23, w32_nat be, w32_nat bt, c1, zI_t, zI_f, w10, w00, g20, a65, g1, Int.toNat_natCast, g2, m_isDigit d bb, eg, ek, ↓reduceIte]
      | false =>
        rw [if_neg (by decide)]
        refine ⟨h, PF_refl h, rfl, g25, fun R => ?_⟩
        rw [AWh_k, k_X11_next_53]
        unfold gon at q
        cases l with
        | true =>
          cases el : ltr (bO tb e) with
          | true => rw [el] at q; exact absurd q (by cases g <;> cases dgt (bO tb e) <;> decide)
          | false =>
            cases g with
            | false =>
              simp only [AW_k, AWk_1, x_aload_0, x_aloads_0, x_getf, x_icmp_ge, x_iload_1, x_if_eq, x_iald, x_ialds, x_call_1, x_if_ne, x_iload_2, x_dup_i, x_dup_r, x_dup_q, x_push_i, x_push_l, x_iadd, x_putf_i, x_goto, x_ret, x_ret_i, x_ret_z, x_ret_l, x_ret_c, k_X11_next_53, k_X11_next_54, k_X11_next_55, k_X11_next_56, k_X11_next_57, k_X11_next_58, k_X11_next_59, k_X11_next_60, k_X11_next_61, k_X11_next_62, k_X11_next_63, k_X11_next_64, k_X11_next_65, k_X11_next_66, k_X11_next_67, k_X11_next_68, k_X11_next_69, k_X11_next_70, k_X11_next_71, k_X11_next_72, k_X11_next_73, k_X11_next_74, k_X11_next_75, k_X11_next_76, k_X11_next_77, k_X11_next_78, k_X11_next_79, k_X11_next_80, k_X11_next_81, k_X11_next_82, k_X11_next_83, oE_some, Int.reduceToNat, Nat.reduceAdd, true_and, and_true, List.length_cons, List.length_nil, Option.toList_some, Option.toList_none, List.cons_append, List.nil_append, Nat.reduceLeDiff, Nat.le_refl, wdS_nil, wdS_i, wdS_l, wdS_r, wdS_n, wdS_s, g25, g23, w32_nat be, w32_nat bt, c1, zI_t, zI_f, w10, w00, g20, a65, g1, Int.toNat_natCast, g2, m_isLetter d bb, el, ↓reduceIte]
            | true =>
              cases eg : dgt (bO tb e) with
              | true => rw [el, eg] at q; exact absurd q (by decide)
              | false =>
                simp only [AW_k, AWk_1, x_aload_0, x_aloads_0, x_getf, x_icmp_ge, x_iload_1, x_if_eq, x_iald, x_ialds, x_call_1, x_if_ne, x_iload_2, x_dup_i, x_dup_r, x_dup_q, x_push_i, x_push_l, x_iadd, x_putf_i, x_goto, x_ret, x_ret_i, x_ret_z, x_ret_l, x_ret_c, k_X11_next_53, k_X11_next_54, k_X11_next_55, k_X11_next_56, k_X11_next_57, k_X11_next_58, k_X11_next_59, k_X11_next_60, k_X11_next_61, k_X11_next_62, k_X11_next_63, k_X11_next_64, k_X11_next_65, k_X11_next_66, k_X11_next_67, k_X11_next_68, k_X11_next_69, k_X11_next_70, k_X11_next_71, k_X11_next_72, k_X11_next_73, k_X11_next_74, k_X11_next_75, k_X11_next_76, k_X11_next_77, k_X11_next_78, k_X11_next_79, k_X11_next_80, k_X11_next_81, k_X11_next_82, k_X11_next_83, oE_some, Int.reduceToNat, Nat.reduceAdd, true_and, and_true, List.length_cons, List.length_nil, Option.toList_some, Option.toList_none, List.cons_append, List.nil_append, Nat.reduceLeDiff, Nat.le_refl, wdS_nil, wdS_i, wdS_l, wdS_r, wdS_n, wdS_s, g25, g23, w32_nat be, w32_nat bt, c1, zI_t, zI_f, w10, w00, g20, a65, g1, Int.toNat_natCast, g2, m_isLetter d bb, m_isDigit d bb, el, eg, ↓reduceIte]
        | false =>
          cases g with
          | false =>
            simp only [AW_k, AWk_1, x_aload_0, x_aloads_0, x_getf, x_icmp_ge, x_iload_1, x_if_eq, x_iald, x_ialds, x_call_1, x_if_ne, x_iload_2, x_dup_i, x_dup_r, x_dup_q, x_push_i, x_push_l, x_iadd, x_putf_i, x_goto, x_ret, x_ret_i, x_ret_z, x_ret_l, x_ret_c, k_X11_next_53, k_X11_next_54, k_X11_next_55, k_X11_next_56, k_X11_next_57, k_X11_next_58, k_X11_next_59, k_X11_next_60, k_X11_next_61, k_X11_next_62, k_X11_next_63, k_X11_next_64, k_X11_next_65, k_X11_next_66, k_X11_next_67, k_X11_next_68, k_X11_next_69, k_X11_next_70, k_X11_next_71, k_X11_next_72, k_X11_next_73, k_X11_next_74, k_X11_next_75, k_X11_next_76, k_X11_next_77, k_X11_next_78, k_X11_next_79, k_X11_next_80, k_X11_next_81, k_X11_next_82, k_X11_next_83, oE_some, Int.reduceToNat, Nat.reduceAdd, true_and, and_true, List.length_cons, List.length_nil, Option.toList_some, Option.toList_none, List.cons_append, List.nil_append, Nat.reduceLeDiff, Nat.le_refl, wdS_nil, wdS_i, wdS_l, wdS_r, wdS_n, wdS_s, g25, g23, w32_nat be, w32_nat bt, c1, zI_f, w00, ↓reduceIte]
          | true =>
            cases eg : dgt (bO tb e) with
            | true => rw [eg] at q; exact absurd q (by cases ltr (bO tb e) <;> decide)
            | false =>
              simp only [AW_k, AWk_1, x_aload_0, x_aloads_0, x_getf, x_icmp_ge, x_iload_1, x_if_eq, x_iald, x_ialds, x_call_1, x_if_ne, x_iload_2, x_dup_i, x_dup_r, x_dup_q, x_push_i, x_push_l, x_iadd, x_putf_i, x_goto, x_ret, x_ret_i, x_ret_z, x_ret_l, x_ret_c, k_X11_next_53, k_X11_next_54, k_X11_next_55, k_X11_next_56, k_X11_next_57, k_X11_next_58, k_X11_next_59, k_X11_next_60, k_X11_next_61, k_X11_next_62, k_X11_next_63, k_X11_next_64, k_X11_next_65, k_X11_next_66, k_X11_next_67, k_X11_next_68, k_X11_next_69, k_X11_next_70, k_X11_next_71, k_X11_next_72, k_X11_next_73, k_X11_next_74, k_X11_next_75, k_X11_next_76, k_X11_next_77, k_X11_next_78, k_X11_next_79, k_X11_next_80, k_X11_next_81, k_X11_next_82, k_X11_next_83, oE_some, Int.reduceToNat, Nat.reduceAdd, true_and, and_true, List.length_cons, List.length_nil, Option.toList_some, Option.toList_none, List.cons_append, List.nil_append, Nat.reduceLeDiff, Nat.le_refl, wdS_nil, wdS_i, wdS_l, wdS_r, wdS_n, wdS_s, g25, g23, w32_nat be, w32_nat bt, c1, zI_t, zI_f, w10, w00, g20, a65, g1, Int.toNat_natCast, g2, m_isDigit d bb, eg, ↓reduceIte]
    · have c1 : ((e : Int) < (tc : Int)) = False := eq_false (by omega)
      rw [decide_eq_false c, Bool.false_and, if_neg (by decide)]
      refine ⟨h, PF_refl h, rfl, g25, fun R => ?_⟩
      rw [AWh_k, k_X11_next_53]
      simp only [AW_k, AWk_1, x_aload_0, x_aloads_0, x_getf, x_icmp_ge, x_ret, x_ret_i, x_ret_z, x_ret_l, x_ret_c, k_X11_next_53, k_X11_next_54, k_X11_next_55, k_X11_next_56, k_X11_next_57, k_X11_next_83, oE_some, Int.reduceToNat, Nat.reduceAdd, true_and, and_true, List.length_cons, List.length_nil, Option.toList_some, Option.toList_none, List.cons_append, List.nil_append, Nat.reduceLeDiff, Nat.le_refl, wdS_nil, wdS_i, wdS_l, wdS_r, wdS_n, wdS_s, g25, g23, w32_nat be, w32_nat bt, c1, ↓reduceIte]
theorem rnE_cg {p q : Nat → Bool} {b : Nat → Nat} {tc : Nat} (h : ∀ x, p x = q x) : ∀ f e, rnE p b tc f e = rnE q b tc f e := by
  have : p = q := funext h
  intro f e
  rw [this]
theorem rnE_none {b : Nat → Nat} {tc : Nat} : ∀ f e, rnE (fun _ => false) b tc f e = e := by
  intro f e
  cases f with
  | zero => rfl
  | succ f =>
    show (if (decide (e < tc) && false) = true then _ else e) = e
    rw [Bool.and_false, if_neg (by decide)]
theorem rnE_fuel {p : Nat → Bool} {b : Nat → Nat} {tc : Nat} : ∀ f g e, tc - e ≤ f → tc - e ≤ g → rnE p b tc f e = rnE p b tc g e := by
  intro f
  induction f with
  | zero =>
    intro g e h1 h2
    cases g with
    | zero => rfl
    | succ g =>
      show e = if (decide (e < tc) && p (b e)) = true then _ else e
      rw [decide_eq_false (show ¬ e < tc by omega), Bool.false_and, if_neg (by decide)]
  | succ f ih =>
    intro g e h1 h2
    cases g with
    | zero =>
      show (if (decide (e < tc) && p (b e)) = true then _ else e) = e
      rw [decide_eq_false (show ¬ e < tc by omega), Bool.false_and, if_neg (by decide)]
    | succ g =>
      show (if (decide (e < tc) && p (b e)) = true then rnE p b tc f (e + 1) else e) = (if (decide (e < tc) && p (b e)) = true then rnE p b tc g (e + 1) else e)
      rw [ih g (e + 1) (by omega) (by omega)]
theorem eow_gon {b : Nat → Nat} {tc p : Nat} (hc : tc ≤ 200) : rnE (gon (ltr (b p)) (dgt (b p))) b tc (tc - (p + 1)) (p + 1) = eow b tc p := by
  unfold eow
  cases hd : dgt (b p) with
  | true =>
    have hl : ltr (b p) = false := by
      cases q : ltr (b p) with
      | false => rfl
      | true => rw [ltr_dgt q] at hd; cases hd
    rw [if_pos rfl, hl, rnE_fuel (tc - (p + 1)) 200 (p + 1) (by omega) (by omega)]
    exact rnE_cg (fun x => by unfold gon; rw [Bool.false_and, Bool.false_or, Bool.true_and]) 200 (p + 1)
  | false =>
    rw [if_neg (by decide)]
    cases hl : ltr (b p) with
    | true =>
      rw [if_pos rfl, rnE_fuel (tc - (p + 1)) 200 (p + 1) (by omega) (by omega)]
      exact rnE_cg (fun x => by unfold gon; rw [Bool.false_and, Bool.or_false, Bool.true_and]) 200 (p + 1)
    | false =>
      rw [if_neg (by decide), rnE_cg (q := fun _ => false) (fun x => by unfold gon; rw [Bool.false_and, Bool.false_and]; rfl)]
      exact rnE_none _ _
theorem drop_at {T : List (Nat × Nat)} {k : Nat} {x : Nat × Nat} {l : List (Nat × Nat)} (h : T.drop k = x :: l) : k < T.length ∧ T.getD k (0, 0) = x := by
  have e : (T.drop k)[0]? = some x := by rw [h]; rfl
  rw [List.getElem?_drop, Nat.add_zero] at e
  have hk := (List.getElem?_eq_some_iff.mp e).1
  exact ⟨hk, by rw [List.getD_eq_getElem?_getD, e]; rfl⟩
set_option maxHeartbeats 16000000 in
theorem m_next (d : Nat) {hp : HP} {tb : List Int} {tc e k : Nat} {v24 : AV} (r : RD hp tb tc) (g24 : gF hp 54 11 24 = some v24) (g25 : gF hp 54 11 25 = some (mI (e : Int))) (hv : ∃ x, v24 = mI x) (he : e ≤ tc) (hk : k ≤ (TT (bO tb) tc).length) (hT : TK (bO tb) tc e = (TT (bO tb) tc).drop k) : ∃ h', PF hp h' ∧ gF h' 54 11 24 = some (mI ((tB tc (TT (bO tb) tc) k : Nat) : Int)) ∧ gF h' 54 11 25 = some (mI ((tE (bO tb) tc k : Nat) : Int)) ∧ ∀ R : PO, callD (d + 2) 213 [mR 54] hp R ↔ R none h' := by
  obtain ⟨x24, e24⟩ := hv
  subst e24
  have hc := r.2.2.2.2.1
  have bt : tc < 2147483648 := by omega
  obtain ⟨h1, p, a1, a0, a2, a3, a4, a5, a6⟩ := m_nxSkip d none none tc e (pF hp 54 11 24 (mI (e : Int))) (by omega) he (RD_PF r PF_24) (gF_pF_same g24)
  have r1 := RD_PF (RD_PF r PF_24) a1
  rw [gF_pF (by omega), g25] at a0
  have bp : p < 2147483648 := by omega
  have st : ∀ R : PO, callD (d + 2) 213 [mR 54] hp R ↔ AWh (d + 1) [] 213 R 4 [some (mR 54), none, none] [] (pF hp 54 11 24 (mI (e : Int))) (0, 0) := by
    intro R
    rw [callD_k]; simp only [entL_i, entL_l, entL_q, entL_s, entL_nil, n_X11_next, u_X11_next, m_X11_next, rep_2, List.cons_append, List.nil_append, List.append_nil, List.length_cons, List.length_nil, Nat.reduceAdd, true_and]
    simp only [AW_k, AWk_1, x_aload_0, x_aloads_0, x_getf, x_putf_i, k_X11_next_0, k_X11_next_1, k_X11_next_2, k_X11_next_3, k_X11_next_4, oE_some, Int.reduceToNat, Nat.reduceAdd, true_and, and_true, List.length_cons, List.length_nil, Option.toList_some, Option.toList_none, List.cons_append, List.nil_append, Nat.reduceLeDiff, Nat.le_refl, wdS_nil, wdS_i, wdS_l, wdS_r, wdS_n, wdS_s, g25, g24]
  have g24' : gF (pF h1 54 11 25 (mI (p : Int))) 54 11 24 = some (mI (p : Int)) := by rw [gF_pF (by omega), a2]
  have g25' : gF (pF h1 54 11 25 (mI (p : Int))) 54 11 25 = some (mI (p : Int)) := gF_pF_same a0
  have r2 := RD_PF r1 (PF_25 (v := mI (p : Int)))
  have g23' := r2.2.2.1
  by_cases c : p < tc
  · have nb := a4 c
    rw [a5, TK_wd hc c nb] at hT
    obtain ⟨kL, kx⟩ := drop_at hT.symm
    have n1 : ((p : Int) = (tc : Int)) = False := eq_false (by omega)
    have ek : (p : Int) + 1 = ((p + 1 : Nat) : Int) := by omega
    have p200 : p < 200 := by omega
    have r3 := RD_PF r2 (PF_25 (v := mI ((p + 1 : Nat) : Int)))
    obtain ⟨h', b1, b2, b3, b4⟩ := m_nxRun d (ltr (bO tb p)) (dgt (bO tb p)) (tc - (p + 1)) (p + 1) (pF (pF h1 54 11 25 (mI (p : Int))) 54 11 25 (mI ((p + 1 : Nat) : Int))) (Nat.le_refl _) c r3 (gF_pF_same g25')
    rw [eow_gon hc] at b3
    have w24 : gF (pF (pF h1 54 11 25 (mI (p : Int))) 54 11 25 (mI ((p + 1 : Nat) : Int))) 54 11 24 = some (mI (p : Int)) := by rw [gF_pF (by omega), g24']
    refine ⟨h', PF_trans PF_24 (PF_trans a1 (PF_trans PF_25 (PF_trans PF_25 b1))), ?_, ?_, fun R => (st R).trans ((a6 R).trans ?_)⟩
    · rw [b2, w24]; unfold tB; rw [if_pos kL, kx]
    · rw [b3]; unfold tE; rw [if_pos kL, kx]
    · refine Iff.trans ?_ (b4 R)
      obtain ⟨g1, g2⟩ := b200 r.2.2.2.1 p200
      rw [w32_tn bp] at g2
      have bb := (r.2.2.2.1.2 p p200).2
      simp only [AW_k, AWk_1, x_aload_0, x_aloads_0, x_getf, x_putf_i, x_icmp_ne, x_ret, x_ret_i, x_ret_z, x_ret_l, x_ret_c, x_dup_i, x_dup_r, x_dup_q, x_push_i, x_push_l, x_iadd, x_iald, x_ialds, x_call_1, x_istore_1, x_istore_2, unl_i, unl_l, unl_q, unl_r, unl_s, unl_n, k_X11_next_23, k_X11_next_24, k_X11_next_25, k_X11_next_26, k_X11_next_27, k_X11_next_28, k_X11_next_29, k_X11_next_30, k_X11_next_31, k_X11_next_32, k_X11_next_33, k_X11_next_34, k_X11_next_35, k_X11_next_36, k_X11_next_37, k_X11_next_38, k_X11_next_39, k_X11_next_40, k_X11_next_41, k_X11_next_42, k_X11_next_43, k_X11_next_44, k_X11_next_45, k_X11_next_46, k_X11_next_47, k_X11_next_48, k_X11_next_49, k_X11_next_50, k_X11_next_51, k_X11_next_52, k_X11_next_53, oE_some, Int.reduceToNat, Nat.reduceAdd, true_and, and_true, List.length_cons, List.length_nil, Option.toList_some, Option.toList_none, List.cons_append, List.nil_append, Nat.reduceLeDiff, Nat.le_refl, wdS_nil, wdS_i, wdS_l, wdS_r, wdS_n, wdS_s, a0, a2, g24', g25', g23', w32_nat bp, w32_nat bt, n1, ek, r3.1, r3.2.1, w24, g1, w32_nat bp, Int.toNat_natCast, g2, m_isLetter d bb, m_isDigit d bb, ↓reduceIte]
  · have ep : p = tc := by omega
    subst ep
    rw [a5, TK_end hc (Nat.le_refl _)] at hT
    have kL : ¬ k < (TT (bO tb) p).length := by
      intro q
      have := congrArg List.length hT
      rw [List.length_drop] at this
      have : 0 = (TT (bO tb) p).length - k := this
      omega
    refine ⟨pF h1 54 11 25 (mI (p : Int)), PF_trans PF_24 (PF_trans a1 PF_25), ?_, ?_, fun R => (st R).trans ((a6 R).trans ?_)⟩
    · rw [g24']; unfold tB; rw [if_neg kL]
    · rw [g25']; unfold tE; rw [if_neg kL]
    · simp only [AW_k, AWk_1, x_aload_0, x_aloads_0, x_getf, x_putf_i, x_icmp_ne, x_ret, x_ret_i, x_ret_z, x_ret_l, x_ret_c, k_X11_next_23, k_X11_next_24, k_X11_next_25, k_X11_next_26, k_X11_next_27, k_X11_next_28, k_X11_next_29, k_X11_next_30, k_X11_next_31, k_X11_next_32, oE_some, Int.reduceToNat, Nat.reduceAdd, true_and, and_true, List.length_cons, List.length_nil, Option.toList_some, Option.toList_none, List.cons_append, List.nil_append, Nat.reduceLeDiff, Nat.le_refl, wdS_nil, wdS_i, wdS_l, wdS_r, wdS_n, wdS_s, a0, a2, g24', g23', w32_nat bp, ↓reduceIte]
