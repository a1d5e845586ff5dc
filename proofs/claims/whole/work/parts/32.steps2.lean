/-! ===== steps from class to class: the methods ===== -/
theorem set_self {α : Type} {l : List α} {k : Nat} {x : α} (h : l[k]? = some x) : l.set k x = l := by
  apply List.ext_getElem?
  intro j
  rw [List.getElem?_set]
  by_cases e : k = j
  · subst e
    have hl : k < l.length := (List.getElem?_eq_some_iff.mp h).1
    rw [if_pos rfl, if_pos hl, h]
  · rw [if_neg e]
/-- the classes next to the row i by the gaps of m, ascending -/
def nrF (n : Nat) (G : BitVec 64) (i : Nat) (m : Nat → Bool) : Nat → List Nat
  | 0 => []
  | p + 1 => if m p = true then insS (lst n G (bs n i p)) (nrF n G i m p) else nrF n G i m p
def nr0 (n : Nat) (G : BitVec 64) (i : Nat) : List Nat := nrF n G (lst n G i) (mD n (lst n G i)) (n - 1)
def nr1 (n : Nat) (G : BitVec 64) (i : Nat) : List Nat := nrF n G (gst n G i) (mU n (gst n G i)) (n - 1)
theorem nrF_len {n i : Nat} {G : BitVec 64} {m : Nat → Bool} : ∀ k, (nrF n G i m k).length ≤ k := by
  intro k
  induction k with
  | zero => exact Nat.le_refl _
  | succ k ih =>
    unfold nrF
    split
    · rw [insS_len]; omega
    · omega
theorem nrF_bd {n i : Nat} {G : BitVec 64} {m : Nat → Bool} (h1 : 1 ≤ n) (h6 : n ≤ 6) (hi : i < FC n) : ∀ k, k ≤ n - 1 → ∀ y ∈ nrF n G i m k, y < FC n := by
  intro k
  induction k with
  | zero => intro _ y hy; cases hy
  | succ k ih =>
    intro hk
    unfold nrF
    split
    · exact insS_bd (lst_ok h1 h6 (bs_ok h1 h6 hi (by omega))) (ih (by omega))
    · exact ih (by omega)
theorem nr0_bd {n i : Nat} {G : BitVec 64} (h1 : 1 ≤ n) (h6 : n ≤ 6) (hi : i < FC n) : ∀ y ∈ nr0 n G i, y < FC n := nrF_bd h1 h6 (lst_ok h1 h6 hi) _ (Nat.le_refl _)
theorem nr1_bd {n i : Nat} {G : BitVec 64} (h1 : 1 ≤ n) (h6 : n ≤ 6) (hi : i < FC n) : ∀ y ∈ nr1 n G i, y < FC n := nrF_bd h1 h6 (gst_ok h1 h6 hi) _ (Nat.le_refl _)
theorem nr0_len {n i : Nat} {G : BitVec 64} (h6 : n ≤ 6) : (nr0 n G i).length < 6 := by have := nrF_len (n := n) (G := G) (i := lst n G i) (m := mD n (lst n G i)) (n - 1); unfold nr0; omega
theorem nr1_len {n i : Nat} {G : BitVec 64} (h6 : n ≤ 6) : (nr1 n G i).length < 6 := by have := nrF_len (n := n) (G := G) (i := gst n G i) (m := mU n (gst n G i)) (n - 1); unfold nr1; omega
set_option maxHeartbeats 8000000 in
theorem c9_findLoop (d : Nat) {w ra n i i0 : Nat} {G : BitVec 64} {x wy : Int} {m : Nat → Bool} (hi : i < FC n) (hm : mskOK x m) (ho : w + 4 ≤ ra ∨ ra + 16 ≤ w) : ∀ (k : Nat) (l st q : List Int) (h : HP), k ≤ n - 1 → RWS h ra n → WK h w l st q → pre l (nrF n G i m (n - 1 - k)) → ∃ l', pre l' (nrF n G i m (n - 1)) ∧ l'.length = 6 ∧ ∀ R : PO, AWh (d + 2) [] 93 R 30 [some (mR w), some (mR ra), some (mL G), none, some (mI (i0 : Int)), some (mI wy), some (mI (i : Int)), some (mI x), some (mI ((nrF n G i m (n - 1 - k)).length : Int)), some (mI ((n - 1 - k : Nat) : Int))] [] h (0, 0) ↔ R (some (mI ((nrF n G i m (n - 1)).length : Int))) (pA h (w + 1) l') := by
  intro k
  induction k with
  | zero =>
    intro l st q h hk hR hW hp1
    refine ⟨l, hp1, hW.2.2.2.2.1, fun R => ?_⟩
    have e : pA h (w + 1) l = h := by
      rw [pA_is hW.2.1]
      have := hW.2.1
      unfold gA at this
      split at this
      · next l2 e =>
        cases this
        exact set_self e
      · cases this
    have h6 := rw_6 hR
    rw [e]
    rw [AWh_k, k_X9_findNear_30]
    simp only [AW_k, AWk_1, x_iload_5, x_if_ne, x_aload_1, x_aloads_1, x_iload_4, x_lload_2, x_callv_3, x_goto, x_istore_6, x_getf, x_iload_6, x_iald, x_ialds, x_push_i, x_push_l, x_ixor, x_istore_7, x_istore_8, x_istore_9, x_iload_9, x_icmp_ge, x_iload_7, x_ishr, x_iand, x_if_eq, x_aload_0, x_aloads_0, x_imul, x_iadd, x_iload_8, x_iinc_8, x_iinc_9, x_ret, x_ret_i, x_ret_z, x_ret_l, x_ret_c, unl_i, unl_l, unl_q, unl_r, unl_s, unl_n, k_X9_findNear_0, k_X9_findNear_1, k_X9_findNear_2, k_X9_findNear_3, k_X9_findNear_4, k_X9_findNear_5, k_X9_findNear_6, k_X9_findNear_7, k_X9_findNear_8, k_X9_findNear_9, k_X9_findNear_10, k_X9_findNear_11, k_X9_findNear_12, k_X9_findNear_13, k_X9_findNear_14, k_X9_findNear_15, k_X9_findNear_16, k_X9_findNear_17, k_X9_findNear_18, k_X9_findNear_19, k_X9_findNear_20, k_X9_findNear_21, k_X9_findNear_22, k_X9_findNear_23, k_X9_findNear_24, k_X9_findNear_25, k_X9_findNear_26, k_X9_findNear_27, k_X9_findNear_28, k_X9_findNear_29, k_X9_findNear_30, k_X9_findNear_31, k_X9_findNear_32, k_X9_findNear_33, k_X9_findNear_34, k_X9_findNear_35, k_X9_findNear_36, k_X9_findNear_37, k_X9_findNear_38, k_X9_findNear_39, k_X9_findNear_40, k_X9_findNear_41, k_X9_findNear_42, k_X9_findNear_43, k_X9_findNear_44, k_X9_findNear_45, k_X9_findNear_46, k_X9_findNear_47, k_X9_findNear_48, k_X9_findNear_49, k_X9_findNear_50, k_X9_findNear_51, k_X9_findNear_52, k_X9_findNear_53, k_X9_findNear_54, k_X9_findNear_55, k_X9_findNear_56, k_X9_findNear_57, k_X9_findNear_58, k_X9_findNear_59, oE_some, Int.reduceToNat, Nat.reduceAdd, true_and, and_true, List.length_cons, List.length_nil, Option.toList_some, Option.toList_none, List.cons_append, List.nil_append, Nat.reduceLeDiff, Nat.le_refl, wdS_nil, wdS_i, wdS_l, wdS_r, wdS_n, wdS_s, rw_gaps hR]
    rw [w32_nat (show n - 1 - 0 < 2147483648 by omega), w32_nat (show n - 1 < 2147483648 by omega), if_neg (by omega)]
    rfl
  | succ k ih =>
    intro l st q h hk hR hW hp1
    have h1 := rw_1 hR
    have h6 := rw_6 hR
    have f1 := FC_le n
    have hlt : n - 1 - (k + 1) < n - 1 := by omega
    have hb := bs_ok h1 h6 hi hlt
    have e1 : n - 1 - k = (n - 1 - (k + 1)) + 1 := by omega
    have hu : nrF n G i m (n - 1 - k) = if m (n - 1 - (k + 1)) = true then insS (lst n G (bs n i (n - 1 - (k + 1)))) (nrF n G i m (n - 1 - (k + 1))) else nrF n G i m (n - 1 - (k + 1)) := by rw [e1]; rfl
    have hl := nrF_len (n := n) (G := G) (i := i) (m := m) (n - 1 - (k + 1))
    have hbd := nrF_bd (G := G) (m := m) h1 h6 hi (n - 1 - (k + 1)) (by omega)
    cases hc : m (n - 1 - (k + 1))
    · rw [hc, if_neg (by decide)] at hu
      obtain ⟨l', p1, p2, p3⟩ := ih l st q h (by omega) hR hW (by rw [hu]; exact hp1)
      refine ⟨l', p1, p2, fun R => ?_⟩
      have p3 := p3 R
      rw [hu] at p3
      rw [AWh_k, k_X9_findNear_30]
      simp only [AW_k, AWk_1, x_iload_5, x_if_ne, x_aload_1, x_aloads_1, x_iload_4, x_lload_2, x_callv_3, x_goto, x_istore_6, x_getf, x_iload_6, x_iald, x_ialds, x_push_i, x_push_l, x_ixor, x_istore_7, x_istore_8, x_istore_9, x_iload_9, x_icmp_ge, x_iload_7, x_ishr, x_iand, x_if_eq, x_aload_0, x_aloads_0, x_imul, x_iadd, x_iload_8, x_iinc_8, x_iinc_9, x_ret, x_ret_i, x_ret_z, x_ret_l, x_ret_c, unl_i, unl_l, unl_q, unl_r, unl_s, unl_n, k_X9_findNear_0, k_X9_findNear_1, k_X9_findNear_2, k_X9_findNear_3, k_X9_findNear_4, k_X9_findNear_5, k_X9_findNear_6, k_X9_findNear_7, k_X9_findNear_8, k_X9_findNear_9, k_X9_findNear_10, k_X9_findNear_11, k_X9_findNear_12, k_X9_findNear_13, k_X9_findNear_14, k_X9_findNear_15, k_X9_findNear_16, k_X9_findNear_17, k_X9_findNear_18, k_X9_findNear_19, k_X9_findNear_20, k_X9_findNear_21, k_X9_findNear_22, k_X9_findNear_23, k_X9_findNear_24, k_X9_findNear_25, k_X9_findNear_26, k_X9_findNear_27, k_X9_findNear_28, k_X9_findNear_29, k_X9_findNear_30, k_X9_findNear_31, k_X9_findNear_32, k_X9_findNear_33, k_X9_findNear_34, k_X9_findNear_35, k_X9_findNear_36, k_X9_findNear_37, k_X9_findNear_38, k_X9_findNear_39, k_X9_findNear_40, k_X9_findNear_41, k_X9_findNear_42, k_X9_findNear_43, k_X9_findNear_44, k_X9_findNear_45, k_X9_findNear_46, k_X9_findNear_47, k_X9_findNear_48, k_X9_findNear_49, k_X9_findNear_50, k_X9_findNear_51, k_X9_findNear_52, k_X9_findNear_53, k_X9_findNear_54, k_X9_findNear_55, k_X9_findNear_56, k_X9_findNear_57, k_X9_findNear_58, k_X9_findNear_59, oE_some, Int.reduceToNat, Nat.reduceAdd, true_and, and_true, List.length_cons, List.length_nil, Option.toList_some, Option.toList_none, List.cons_append, List.nil_append, Nat.reduceLeDiff, Nat.le_refl, wdS_nil, wdS_i, wdS_l, wdS_r, wdS_n, wdS_s, rw_gaps hR, hm (n - 1 - (k + 1)) (by omega), hc, if_true]
      rw [w32_nat (show n - 1 - (k + 1) < 2147483648 by omega), w32_nat (show n - 1 < 2147483648 by omega), if_pos (by omega)]
      rw [show ((n - 1 - (k + 1) : Nat) : Int) + 1 = ((n - 1 - k : Nat) : Int) by omega]
      exact p3
    · rw [hc, if_pos rfl] at hu
      obtain ⟨l1, q1, q2, q3⟩ := c9_insertNear (d + 1) hW (show lst n G (bs n i (n - 1 - (k + 1))) < 720 by have := lst_ok (G := G) h1 h6 hb; omega) (fun y hy => by have := hbd y hy; omega) (by omega) hp1
      have hW2 := WK_1 (l' := l1) hW q2
      have hR2 : RWS (pA h (w + 1) l1) ra n := RWS_Fr hR (Fr_pA (a := w) (b := w + 4) (by omega) (by omega)) (by omega)
      obtain ⟨l', p1, p2, p3⟩ := ih l1 st q _ (by omega) hR2 hW2 (by rw [hu]; exact q1)
      refine ⟨l', p1, p2, fun R => ?_⟩
      have p3 := p3 R
      rw [hu, insS_len, pA_pA] at p3
      rw [AWh_k, k_X9_findNear_30]
      simp only [AW_k, AWk_1, x_iload_5, x_if_ne, x_aload_1, x_aloads_1, x_iload_4, x_lload_2, x_callv_3, x_goto, x_istore_6, x_getf, x_iload_6, x_iald, x_ialds, x_push_i, x_push_l, x_ixor, x_istore_7, x_istore_8, x_istore_9, x_iload_9, x_icmp_ge, x_iload_7, x_ishr, x_iand, x_if_eq, x_aload_0, x_aloads_0, x_imul, x_iadd, x_iload_8, x_iinc_8, x_iinc_9, x_ret, x_ret_i, x_ret_z, x_ret_l, x_ret_c, unl_i, unl_l, unl_q, unl_r, unl_s, unl_n, k_X9_findNear_0, k_X9_findNear_1, k_X9_findNear_2, k_X9_findNear_3, k_X9_findNear_4, k_X9_findNear_5, k_X9_findNear_6, k_X9_findNear_7, k_X9_findNear_8, k_X9_findNear_9, k_X9_findNear_10, k_X9_findNear_11, k_X9_findNear_12, k_X9_findNear_13, k_X9_findNear_14, k_X9_findNear_15, k_X9_findNear_16, k_X9_findNear_17, k_X9_findNear_18, k_X9_findNear_19, k_X9_findNear_20, k_X9_findNear_21, k_X9_findNear_22, k_X9_findNear_23, k_X9_findNear_24, k_X9_findNear_25, k_X9_findNear_26, k_X9_findNear_27, k_X9_findNear_28, k_X9_findNear_29, k_X9_findNear_30, k_X9_findNear_31, k_X9_findNear_32, k_X9_findNear_33, k_X9_findNear_34, k_X9_findNear_35, k_X9_findNear_36, k_X9_findNear_37, k_X9_findNear_38, k_X9_findNear_39, k_X9_findNear_40, k_X9_findNear_41, k_X9_findNear_42, k_X9_findNear_43, k_X9_findNear_44, k_X9_findNear_45, k_X9_findNear_46, k_X9_findNear_47, k_X9_findNear_48, k_X9_findNear_49, k_X9_findNear_50, k_X9_findNear_51, k_X9_findNear_52, k_X9_findNear_53, k_X9_findNear_54, k_X9_findNear_55, k_X9_findNear_56, k_X9_findNear_57, k_X9_findNear_58, k_X9_findNear_59, oE_some, Int.reduceToNat, Nat.reduceAdd, true_and, and_true, List.length_cons, List.length_nil, Option.toList_some, Option.toList_none, List.cons_append, List.nil_append, Nat.reduceLeDiff, Nat.le_refl, wdS_nil, wdS_i, wdS_l, wdS_r, wdS_n, wdS_s, rw_gaps hR, hm (n - 1 - (k + 1)) (by omega), hc, Bool.true_eq_false, if_false, rw_beside hR, rA_15 hR, gp_in h1 h6 hi hlt, bs_get h1 h6 hi hlt, rC0 hR, gC_of hW.1.1, c4_leastOf d hR hb, q3]
      rw [w32_nat (show n - 1 - (k + 1) < 2147483648 by omega), w32_nat (show n - 1 < 2147483648 by omega), if_pos (by omega)]
      rw [show ((n - 1 - (k + 1) : Nat) : Int) + 1 = ((n - 1 - k : Nat) : Int) by omega]
      exact p3
set_option maxHeartbeats 8000000 in
theorem c9_findNear0 (d : Nat) {hp : HP} {w ra n i : Nat} {G : BitVec 64} {l st q : List Int} (hR : RWS hp ra n) (hW : WK hp w l st q) (hi : i < FC n) (ho : w + 4 ≤ ra ∨ ra + 16 ≤ w) : ∃ l', pre l' (nr0 n G i) ∧ l'.length = 6 ∧ ∀ R : PO, callD (d + 3) 93 [mR w, mR ra, mL G, mI (i : Int), mI 0] hp R ↔ R (some (mI ((nr0 n G i).length : Int))) (pA hp (w + 1) l') := by
  have h1 := rw_1 hR
  have h6 := rw_6 hR
  have hl := lst_ok (G := G) h1 h6 hi
  obtain ⟨l', p1, p2, p3⟩ := c9_findLoop d (i0 := i) (wy := 0) (G := G) hl msk_d ho (n - 1) l st q hp (Nat.le_refl _) hR hW (by rw [Nat.sub_self]; intro k hk; exact absurd hk (Nat.not_lt_zero k))
  refine ⟨l', p1, p2, fun R => ?_⟩
  have p3 := p3 R
  rw [Nat.sub_self] at p3
  rw [callD_k]; simp only [entL_i, entL_l, entL_q, entL_s, entL_nil, n_X9_findNear, u_X9_findNear, m_X9_findNear, rep_4, List.cons_append, List.nil_append, List.append_nil, List.length_cons, List.length_nil, Nat.reduceAdd, true_and]
  simp only [AW_k, AWk_1, x_iload_5, x_if_ne, x_aload_1, x_aloads_1, x_iload_4, x_lload_2, x_callv_3, x_goto, x_istore_6, x_getf, x_iload_6, x_iald, x_ialds, x_push_i, x_push_l, x_ixor, x_istore_7, x_istore_8, x_istore_9, x_iload_9, x_icmp_ge, x_iload_7, x_ishr, x_iand, x_if_eq, x_aload_0, x_aloads_0, x_imul, x_iadd, x_iload_8, x_iinc_8, x_iinc_9, x_ret, x_ret_i, x_ret_z, x_ret_l, x_ret_c, unl_i, unl_l, unl_q, unl_r, unl_s, unl_n, k_X9_findNear_0, k_X9_findNear_1, k_X9_findNear_2, k_X9_findNear_3, k_X9_findNear_4, k_X9_findNear_5, k_X9_findNear_6, k_X9_findNear_7, k_X9_findNear_8, k_X9_findNear_9, k_X9_findNear_10, k_X9_findNear_11, k_X9_findNear_12, k_X9_findNear_13, k_X9_findNear_14, k_X9_findNear_15, k_X9_findNear_16, k_X9_findNear_17, k_X9_findNear_18, k_X9_findNear_19, k_X9_findNear_20, k_X9_findNear_21, k_X9_findNear_22, k_X9_findNear_23, k_X9_findNear_24, k_X9_findNear_25, k_X9_findNear_26, k_X9_findNear_27, k_X9_findNear_28, k_X9_findNear_29, k_X9_findNear_30, k_X9_findNear_31, k_X9_findNear_32, k_X9_findNear_33, k_X9_findNear_34, k_X9_findNear_35, k_X9_findNear_36, k_X9_findNear_37, k_X9_findNear_38, k_X9_findNear_39, k_X9_findNear_40, k_X9_findNear_41, k_X9_findNear_42, k_X9_findNear_43, k_X9_findNear_44, k_X9_findNear_45, k_X9_findNear_46, k_X9_findNear_47, k_X9_findNear_48, k_X9_findNear_49, k_X9_findNear_50, k_X9_findNear_51, k_X9_findNear_52, k_X9_findNear_53, k_X9_findNear_54, k_X9_findNear_55, k_X9_findNear_56, k_X9_findNear_57, k_X9_findNear_58, k_X9_findNear_59, oE_some, Int.reduceToNat, Nat.reduceAdd, true_and, and_true, List.length_cons, List.length_nil, Option.toList_some, Option.toList_none, List.cons_append, List.nil_append, Nat.reduceLeDiff, Nat.le_refl, wdS_nil, wdS_i, wdS_l, wdS_r, wdS_n, wdS_s, rC0 hR, c4_leastOf d hR hi, rw_drops hR, rA_12 hR, bI rfl hl (FC_31 n), gI rfl hl (FC_31 n), show w32 0 = 0 from rfl, if_true]
  exact p3
set_option maxHeartbeats 8000000 in
theorem c9_findNear1 (d : Nat) {hp : HP} {w ra n i : Nat} {G : BitVec 64} {l st q : List Int} (hR : RWS hp ra n) (hW : WK hp w l st q) (hi : i < FC n) (ho : w + 4 ≤ ra ∨ ra + 16 ≤ w) : ∃ l', pre l' (nr1 n G i) ∧ l'.length = 6 ∧ ∀ R : PO, callD (d + 3) 93 [mR w, mR ra, mL G, mI (i : Int), mI 1] hp R ↔ R (some (mI ((nr1 n G i).length : Int))) (pA hp (w + 1) l') := by
  have h1 := rw_1 hR
  have h6 := rw_6 hR
  have hl := gst_ok (G := G) h1 h6 hi
  obtain ⟨l', p1, p2, p3⟩ := c9_findLoop d (i0 := i) (wy := 1) (G := G) hl msk_r ho (n - 1) l st q hp (Nat.le_refl _) hR hW (by rw [Nat.sub_self]; intro k hk; exact absurd hk (Nat.not_lt_zero k))
  refine ⟨l', p1, p2, fun R => ?_⟩
  have p3 := p3 R
  rw [Nat.sub_self] at p3
  rw [callD_k]; simp only [entL_i, entL_l, entL_q, entL_s, entL_nil, n_X9_findNear, u_X9_findNear, m_X9_findNear, rep_4, List.cons_append, List.nil_append, List.append_nil, List.length_cons, List.length_nil, Nat.reduceAdd, true_and]
  simp only [AW_k, AWk_1, x_iload_5, x_if_ne, x_aload_1, x_aloads_1, x_iload_4, x_lload_2, x_callv_3, x_goto, x_istore_6, x_getf, x_iload_6, x_iald, x_ialds, x_push_i, x_push_l, x_ixor, x_istore_7, x_istore_8, x_istore_9, x_iload_9, x_icmp_ge, x_iload_7, x_ishr, x_iand, x_if_eq, x_aload_0, x_aloads_0, x_imul, x_iadd, x_iload_8, x_iinc_8, x_iinc_9, x_ret, x_ret_i, x_ret_z, x_ret_l, x_ret_c, unl_i, unl_l, unl_q, unl_r, unl_s, unl_n, k_X9_findNear_0, k_X9_findNear_1, k_X9_findNear_2, k_X9_findNear_3, k_X9_findNear_4, k_X9_findNear_5, k_X9_findNear_6, k_X9_findNear_7, k_X9_findNear_8, k_X9_findNear_9, k_X9_findNear_10, k_X9_findNear_11, k_X9_findNear_12, k_X9_findNear_13, k_X9_findNear_14, k_X9_findNear_15, k_X9_findNear_16, k_X9_findNear_17, k_X9_findNear_18, k_X9_findNear_19, k_X9_findNear_20, k_X9_findNear_21, k_X9_findNear_22, k_X9_findNear_23, k_X9_findNear_24, k_X9_findNear_25, k_X9_findNear_26, k_X9_findNear_27, k_X9_findNear_28, k_X9_findNear_29, k_X9_findNear_30, k_X9_findNear_31, k_X9_findNear_32, k_X9_findNear_33, k_X9_findNear_34, k_X9_findNear_35, k_X9_findNear_36, k_X9_findNear_37, k_X9_findNear_38, k_X9_findNear_39, k_X9_findNear_40, k_X9_findNear_41, k_X9_findNear_42, k_X9_findNear_43, k_X9_findNear_44, k_X9_findNear_45, k_X9_findNear_46, k_X9_findNear_47, k_X9_findNear_48, k_X9_findNear_49, k_X9_findNear_50, k_X9_findNear_51, k_X9_findNear_52, k_X9_findNear_53, k_X9_findNear_54, k_X9_findNear_55, k_X9_findNear_56, k_X9_findNear_57, k_X9_findNear_58, k_X9_findNear_59, oE_some, Int.reduceToNat, Nat.reduceAdd, true_and, and_true, List.length_cons, List.length_nil, Option.toList_some, Option.toList_none, List.cons_append, List.nil_append, Nat.reduceLeDiff, Nat.le_refl, wdS_nil, wdS_i, wdS_l, wdS_r, wdS_n, wdS_s, rC0 hR, c4_greatestOf d hR hi, rw_drops hR, rA_12 hR, bI rfl hl (FC_31 n), gI rfl hl (FC_31 n), show w32 1 = 1 from rfl, Int.reduceEq, if_false]
  exact p3
/-! filling -/
theorem fillI {N k : Nat} {l : List Int} {v : Int} (hl : l.length = N) (hk : k < N) : (List.replicate k v ++ l.drop k).set k v = List.replicate (k + 1) v ++ l.drop (k + 1) := by
  apply List.ext_getElem?
  intro j
  rw [List.getElem?_set]
  by_cases e : k = j
  · subst e
    rw [if_pos rfl, if_pos (by rw [List.length_append, List.length_replicate, List.length_drop]; omega), List.getElem?_append_left (by rw [List.length_replicate]; omega), List.getElem?_replicate, if_pos (by omega)]
  · rw [if_neg e]
    by_cases h : j < k
    · rw [List.getElem?_append_left (by rw [List.length_replicate]; omega), List.getElem?_append_left (by rw [List.length_replicate]; omega), List.getElem?_replicate, List.getElem?_replicate, if_pos h, if_pos (by omega)]
    · rw [List.getElem?_append_right (by rw [List.length_replicate]; omega), List.getElem?_append_right (by rw [List.length_replicate]; omega), List.length_replicate, List.length_replicate, List.getElem?_drop, List.getElem?_drop]
      congr 1; omega
theorem pA_self {hp : HP} {a : Nat} {l : List Int} (h : gA hp a = some l) : pA hp a l = hp := by
  rw [pA_is h]
  unfold gA at h
  split at h
  · next l2 e =>
    cases h
    exact set_self e
  · cases h
set_option maxHeartbeats 8000000 in
theorem c_fillI (d : Nat) {hp : HP} {a N : Nat} {l : List Int} {v : Int} (h : gA hp a = some l) (hl : l.length = N) (hN : N < 100000) (R : PO) : callD (d + 1) 300 [mR a, mI v] hp R ↔ R none (pA hp a (List.replicate N v)) := by
  rw [callD_k]; simp only [entL_i, entL_l, entL_q, entL_s, entL_nil, n_J7_fill_53178, u_J7_fill_53178, m_J7_fill_53178, rep_2, List.cons_append, List.nil_append, List.append_nil, List.length_cons, List.length_nil, Nat.reduceAdd, true_and]
  simp only [AW_k, AWk_1, x_push_i, x_push_l, x_istore_2, x_aload_0, x_aloads_0, x_alen_i, x_alen_l, x_istore_3, x_iload_2, x_iload_3, x_icmp_ge, x_iload_1, x_iast, x_iinc_2, x_goto, x_ret, x_ret_i, x_ret_z, x_ret_l, x_ret_c, unl_i, unl_l, unl_q, unl_r, unl_s, unl_n, k_J7_fill_53178_0, k_J7_fill_53178_1, k_J7_fill_53178_2, k_J7_fill_53178_3, k_J7_fill_53178_4, k_J7_fill_53178_5, k_J7_fill_53178_6, k_J7_fill_53178_7, k_J7_fill_53178_8, k_J7_fill_53178_9, k_J7_fill_53178_10, k_J7_fill_53178_11, k_J7_fill_53178_12, k_J7_fill_53178_13, k_J7_fill_53178_14, oE_some, Int.reduceToNat, Nat.reduceAdd, true_and, and_true, List.length_cons, List.length_nil, Option.toList_some, Option.toList_none, List.cons_append, List.nil_append, Nat.reduceLeDiff, Nat.le_refl, wdS_nil, wdS_i, wdS_l, wdS_r, wdS_n, wdS_s, h]
  have key : ∀ (k : Nat), k ≤ N → (AWh d [] 300 R 5 [some (mR a), some (mI v), some (mI ((N - k : Nat) : Int)), some (mI (l.length : Int))] [] (pA hp a (List.replicate (N - k) v ++ l.drop (N - k))) (0, 0) ↔ R none (pA hp a (List.replicate N v))) := by
    intro k
    induction k with
    | zero =>
      intro hk
      rw [AWh_k, k_J7_fill_53178_5]
      simp only [AW_k, AWk_1, x_push_i, x_push_l, x_istore_2, x_aload_0, x_aloads_0, x_alen_i, x_alen_l, x_istore_3, x_iload_2, x_iload_3, x_icmp_ge, x_iload_1, x_iast, x_iinc_2, x_goto, x_ret, x_ret_i, x_ret_z, x_ret_l, x_ret_c, unl_i, unl_l, unl_q, unl_r, unl_s, unl_n, k_J7_fill_53178_0, k_J7_fill_53178_1, k_J7_fill_53178_2, k_J7_fill_53178_3, k_J7_fill_53178_4, k_J7_fill_53178_5, k_J7_fill_53178_6, k_J7_fill_53178_7, k_J7_fill_53178_8, k_J7_fill_53178_9, k_J7_fill_53178_10, k_J7_fill_53178_11, k_J7_fill_53178_12, k_J7_fill_53178_13, k_J7_fill_53178_14, oE_some, Int.reduceToNat, Nat.reduceAdd, true_and, and_true, List.length_cons, List.length_nil, Option.toList_some, Option.toList_none, List.cons_append, List.nil_append, Nat.reduceLeDiff, Nat.le_refl, wdS_nil, wdS_i, wdS_l, wdS_r, wdS_n, wdS_s]
      rw [w32_nat (show N - 0 < 2147483648 by omega), w32_nat (show l.length < 2147483648 by omega), if_neg (by omega), Nat.sub_zero, List.drop_eq_nil_of_le (by omega), List.append_nil]
    | succ k ih =>
      intro hk
      have ew : (w32 ((N - (k + 1) : Nat) : Int)).toNat = N - (k + 1) := by rw [w32_nat (by omega)]; omega
      have hlen : (List.replicate (N - (k + 1)) v ++ l.drop (N - (k + 1))).length = N := by rw [List.length_append, List.length_replicate, List.length_drop]; omega
      rw [AWh_k, k_J7_fill_53178_5]
      simp only [AW_k, AWk_1, x_push_i, x_push_l, x_istore_2, x_aload_0, x_aloads_0, x_alen_i, x_alen_l, x_istore_3, x_iload_2, x_iload_3, x_icmp_ge, x_iload_1, x_iast, x_iinc_2, x_goto, x_ret, x_ret_i, x_ret_z, x_ret_l, x_ret_c, unl_i, unl_l, unl_q, unl_r, unl_s, unl_n, k_J7_fill_53178_0, k_J7_fill_53178_1, k_J7_fill_53178_2, k_J7_fill_53178_3, k_J7_fill_53178_4, k_J7_fill_53178_5, k_J7_fill_53178_6, k_J7_fill_53178_7, k_J7_fill_53178_8, k_J7_fill_53178_9, k_J7_fill_53178_10, k_J7_fill_53178_11, k_J7_fill_53178_12, k_J7_fill_53178_13, k_J7_fill_53178_14, oE_some, Int.reduceToNat, Nat.reduceAdd, true_and, and_true, List.length_cons, List.length_nil, Option.toList_some, Option.toList_none, List.cons_append, List.nil_append, Nat.reduceLeDiff, Nat.le_refl, wdS_nil, wdS_i, wdS_l, wdS_r, wdS_n, wdS_s, gA_pA_same h, inB_of (x := ((N - (k + 1) : Nat) : Int)) rfl (show N - (k + 1) < (List.replicate (N - (k + 1)) v ++ l.drop (N - (k + 1))).length by omega) (by omega), ew, pA_pA, fillI hl (show N - (k + 1) < N by omega)]
      rw [w32_nat (show N - (k + 1) < 2147483648 by omega), w32_nat (show l.length < 2147483648 by omega), if_pos (by omega)]
      have i1 := ih (by omega)
      rw [show N - k = N - (k + 1) + 1 by omega] at i1
      exact i1
  have := key N (Nat.le_refl _)
  rw [Nat.sub_self] at this
  rw [show (List.replicate 0 v ++ l.drop 0) = l from rfl, pA_self h] at this
  exact this
/-! the search -/
/-- what is next to the row fr comes into the line -/
def rch (fr : Nat) : List Nat → List Int → List Nat → List Int × List Nat
  | [], st, qs => (st, qs)
  | x :: ns, st, qs => if st.getD x 0 < 0 then rch fr ns (st.set x (st.getD fr 0 + 1)) (qs ++ [x]) else rch fr ns st qs
/-- at most f rows of the line are looked at, from the i-th on -/
def bfs (n : Nat) (G : BitVec 64) (to : Nat) : Nat → Nat → List Int → List Nat → Int
  | 0, _, st, _ => st.getD to 0
  | f + 1, i, st, qs => if i < qs.length ∧ st.getD to 0 < 0 then
      bfs n G to f (i + 1) (rch (qs.getD i 0) (nr1 n G (qs.getD i 0)) (rch (qs.getD i 0) (nr0 n G (qs.getD i 0)) st qs).1 (rch (qs.getD i 0) (nr0 n G (qs.getD i 0)) st qs).2).1 (rch (qs.getD i 0) (nr1 n G (qs.getD i 0)) (rch (qs.getD i 0) (nr0 n G (qs.getD i 0)) st qs).1 (rch (qs.getD i 0) (nr0 n G (qs.getD i 0)) st qs).2).2
    else st.getD to 0
/-- the line holds what has been reached, each once -/
def bInv (st : List Int) (qs : List Nat) : Prop := st.length = 120 ∧ (∀ x ∈ qs, x < 120 ∧ 0 ≤ st.getD x 0) ∧ (qs.length : Int) = cnt (fun x => decide (0 ≤ st.getD x 0)) 120 ∧ ∀ x, x < 120 → -1 ≤ st.getD x 0 ∧ st.getD x 0 < qs.length
theorem bInv_len {st : List Int} {qs : List Nat} (h : bInv st qs) : qs.length ≤ 120 := by
  have := (cnt_in (fun x => decide (0 ≤ st.getD x 0)) 120).2
  have := h.2.2.1
  omega
theorem cnt_one {f g : Nat → Bool} {x n : Nat} (hx : x < n) (h1 : f x = false) (h2 : g x = true) (h : ∀ k, k ≠ x → f k = g k) : cnt g n = cnt f n + 1 := by
  induction n with
  | zero => omega
  | succ n ih =>
    rw [cnt_succ, cnt_succ]
    by_cases e : x = n
    · subst e
      rw [h1, h2, cnt_congr (f := f) (g := g) (fun k hk => h k (by omega)), zI_t, zI_f]; omega
    · rw [ih (by omega), h n (by omega)]; omega
