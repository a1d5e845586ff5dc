/-! ===== the reference's judge ===== -/
def bsi_b (n : Nat) : Bool := allB (fun j => allB (fun p => allB (fun q => !(bs n j p == bs n j q) || p == q) (n - 1)) (n - 1)) (FC n)
theorem bsi_c : all6 bsi_b = true := by decide +kernel
theorem bs_inj {n j p q : Nat} (h1 : 1 ≤ n) (h6 : n ≤ 6) (hj : j < FC n) (hp : p < n - 1) (hq : q < n - 1) (e : bs n j p = bs n j q) : p = q := by
  have := allB_of (allB_of (allB_of (all6_of bsi_c h1 h6) j hj) p hp) q hq
  rw [e] at this
  simpa using this
def rgF (n : Nat) (G : BitVec 64) (ah : Nat) (v a : Int) (p : Nat) : Bool := dn n ah p && (decide (((num n (bs n ah p) : Nat) : Int) = v) && (decide (((ar n ah p : Nat) : Int) = a) && G.getLsbD (ar n ah p)))
def rgM (n : Nat) (G : BitVec 64) (ah : Nat) (v a : Int) : Bool := (fst (rgF n G ah v a) (n - 1) 0).isSome
theorem rg_eq {n ah : Nat} {G : BitVec 64} {v a : Int} (h1 : 1 ≤ n) (h6 : n ≤ 6) (hah : ah < FC n) : (fnd n v < 0 ∨ isR n G ah (fnd n v).toNat a = false) ↔ rgM n G ah v a = false := by
  have none_of : (∀ p, p < n - 1 → rgF n G ah v a p = false) → rgM n G ah v a = false := by
    intro h
    unfold rgM
    rw [fst_none_of (fun q _ hq => h q (by omega))]
    rfl
  have of_none : rgM n G ah v a = false → ∀ p, p < n - 1 → rgF n G ah v a p = false := by
    intro h p hp
    unfold rgM at h
    cases e : fst (rgF n G ah v a) (n - 1) 0 with
    | none => exact fst_none e p (Nat.zero_le _) (by omega)
    | some q => rw [e] at h; cases h
  rcases fnd_cases n v with ⟨j, hj, ev⟩ | hno
  · subst ev
    rw [fnd_num h1 h6 hj, Int.toNat_natCast]
    have key : ∀ p, p < n - 1 → ((((num n (bs n ah p) : Nat) : Int) = ((num n j : Nat) : Int)) = (bs n ah p = j)) := fun p hp => num_eq h1 h6 (bs_ok h1 h6 hah hp) hj
    unfold isR
    cases e : fst (fun p => dn n ah p && decide (bs n ah p = j)) (n - 1) 0 with
    | none =>
      constructor
      · intro _
        apply none_of
        intro p hp
        have := fst_none e p (Nat.zero_le _) (by omega)
        unfold rgF
        simp only [key p hp]
        rw [← Bool.and_assoc, this, Bool.false_and]
      · intro _; exact Or.inr rfl
    | some p =>
      obtain ⟨e1, e2, e3⟩ := fst_some e
      have hp : p < n - 1 := by omega
      rw [Bool.and_eq_true, decide_eq_true_iff] at e3
      constructor
      · intro h
        have h2 : (decide (((ar n ah p : Nat) : Int) = a) && G.getLsbD (ar n ah p)) = false := by
          rcases h with h | h
          · omega
          · exact h
        apply none_of
        intro q hq
        unfold rgF
        simp only [key q hq]
        by_cases c : bs n ah q = j
        · have : q = p := bs_inj h1 h6 hah hq hp (c.trans e3.2.symm)
          subst this
          rw [h2, Bool.and_false, Bool.and_false]
        · rw [decide_eq_false c, Bool.false_and, Bool.and_false]
      · intro h
        have := of_none h p hp
        unfold rgF at this
        simp only [key p hp] at this
        rw [e3.1, decide_eq_true e3.2, Bool.true_and, Bool.true_and] at this
        exact Or.inr this
  · rw [fnd_no hno]
    constructor
    · intro _
      apply none_of
      intro p hp
      unfold rgF
      rw [decide_eq_false (hno _ (bs_ok h1 h6 hah hp)), Bool.false_and, Bool.and_false]
    · intro _; exact Or.inl (by decide)
theorem rg_step {n ah : Nat} {G : BitVec 64} {v a : Int} (h1 : 1 ≤ n) (h6 : n ≤ 6) (hah : ah < FC n) (h : rgM n G ah v a = true) : 0 ≤ fnd n v ∧ (fnd n v).toNat < FC n ∧ v = ((num n (fnd n v).toNat : Nat) : Int) := by
  have h0 : ¬ (fnd n v < 0 ∨ isR n G ah (fnd n v).toNat a = false) := fun q => by
    rw [(rg_eq h1 h6 hah).mp q] at h
    cases h
  rcases fnd_cases n v with ⟨j, hj, ev⟩ | hno
  · subst ev
    rw [fnd_num h1 h6 hj, Int.toNat_natCast]
    exact ⟨by omega, hj, rfl⟩
  · exact absurd (Or.inl (by rw [fnd_no hno]; decide)) h0
set_option maxHeartbeats 16000000 in
theorem m_isRight (d : Nat) {hp : HP} {n ah k : Nat} {G : BitVec 64} {tl : List Int} (hA : MA hp n) (hG : gF hp 54 11 3 = some (mL G)) (g35 : gF hp 54 11 35 = some (mR 74)) (a74 : gA hp 74 = some tl) (l30 : tl.length = 30) (t3 : ∀ k, w32 (tl.getD k 0) = tl.getD k 0) (hah : ah < FC n) (hk : k < 15) (R : PO) : callD (d + 3) 259 [mR 54, mI ((num n ah : Nat) : Int), mI (k : Int)] hp R ↔ R (some (mI (zI (rgM n G ah (tl.getD (2 * k) 0) (tl.getD (2 * k + 1) 0))))) hp := by
  have hK := hA.1
  have cK := cM hK
  have h1 := hK.1.1
  have h6 := hK.1.2
  have g0 := hK.2.1
  have fN := NA_le n
  have en : (n : Int) - 1 = ((n - 1 : Nat) : Int) := by omega
  have bn : n - 1 < 2147483648 := by omega
  have e2 : 2 * (k : Int) = ((2 * k : Nat) : Int) := by omega
  have e1 : ((2 * k : Nat) : Int) + 1 = ((2 * k + 1 : Nat) : Int) := by omega
  have b1 : 2 * k + 1 < 2147483648 := by omega
  have b2 : 2 * k < 2147483648 := by omega
  have i1 : inB ((2 * k + 1 : Nat) : Int) tl.length := by rw [l30]; exact inB_n (by omega) (by decide)
  have i2 : inB ((2 * k : Nat) : Int) tl.length := by rw [l30]; exact inB_n (by omega) (by decide)
  have key : ∀ m p : Nat, p + m = n - 1 → (AWh (d + 2) [] 259 R 2 [some (mR 54), some (mI ((num n ah : Nat) : Int)), some (mI (k : Int)), some (mI (p : Int))] [] hp (0, 0) ↔ R (some (mI (zI (fst (rgF n G ah (tl.getD (2 * k) 0) (tl.getD (2 * k + 1) 0)) m p).isSome))) hp) := by
    intro m
    induction m with
    | zero =>
      intro p hp1
      have ep : p = n - 1 := by omega
      subst ep
      rw [AWh_k, k_X11_isRight_2]
      simp only [AW_k, AWk_1, x_iload_3, x_aload_0, x_aloads_0, x_getf, x_push_i, x_push_l, x_isub, x_icmp_ge, x_ret, x_ret_i, x_ret_z, x_ret_l, x_ret_c, k_X11_isRight_2, k_X11_isRight_3, k_X11_isRight_4, k_X11_isRight_5, k_X11_isRight_6, k_X11_isRight_7, k_X11_isRight_49, k_X11_isRight_50, oE_some, Int.reduceToNat, Nat.reduceAdd, true_and, and_true, List.length_cons, List.length_nil, Option.toList_some, Option.toList_none, List.cons_append, List.nil_append, Nat.reduceLeDiff, Nat.le_refl, wdS_nil, wdS_i, wdS_l, wdS_r, wdS_n, wdS_s, g0, en, w32_nat bn, Int.lt_irrefl, true_or, true_and, ↓reduceIte]
      all_goals exact Iff.rfl
    | succ m ih =>
      intro p hp1
      have hlt : p < n - 1 := by omega
      have hbs := bs_ok h1 h6 hah hlt
      have har := ar_lt h1 h6 hah hlt
      have bp : p < 2147483648 := by omega
      have ba : ar n ah p < 2147483648 := by omega
      have c0 : ((p : Int) < ((n - 1 : Nat) : Int)) = True := eq_true (by omega)
      have ep : (p : Int) + 1 = ((p + 1 : Nat) : Int) := by omega
      have hnx := ih (p + 1) (by omega)
      have t1 := t3 (2 * k)
      have t2 := t3 (2 * k + 1)
      have fs : fst (rgF n G ah (tl.getD (2 * k) 0) (tl.getD (2 * k + 1) 0)) (m + 1) p = if rgF n G ah (tl.getD (2 * k) 0) (tl.getD (2 * k + 1) 0) p = true then some p else fst (rgF n G ah (tl.getD (2 * k) 0) (tl.getD (2 * k + 1) 0)) m (p + 1) := rfl
      cases q1 : dn n ah p with
      | false =>
        have ef : rgF n G ah (tl.getD (2 * k) 0) (tl.getD (2 * k + 1) 0) p = false := by unfold rgF; rw [q1, Bool.false_and]
        rw [fs, ef, if_neg (by decide)]
        refine Iff.trans ?_ hnx
        rw [AWh_k, k_X11_isRight_2]
        simp only [AW_k, AWk_1, x_iload_3, x_aload_0, x_aloads_0, x_getf, x_push_i, x_push_l, x_isub, x_icmp_ge, x_iload_1, x_callv_3, x_if_eq, x_iload_2, x_imul, x_iald, x_ialds, x_icmp_ne, x_iadd, x_call_2, x_ret, x_ret_i, x_ret_z, x_ret_l, x_ret_c, x_iinc_3, x_goto, unl_i, unl_l, unl_q, unl_r, unl_s, unl_n, k_X11_isRight_2, k_X11_isRight_3, k_X11_isRight_4, k_X11_isRight_5, k_X11_isRight_6, k_X11_isRight_7, k_X11_isRight_8, k_X11_isRight_9, k_X11_isRight_10, k_X11_isRight_11, k_X11_isRight_12, k_X11_isRight_13, k_X11_isRight_14, k_X11_isRight_15, k_X11_isRight_16, k_X11_isRight_17, k_X11_isRight_18, k_X11_isRight_19, k_X11_isRight_20, k_X11_isRight_21, k_X11_isRight_22, k_X11_isRight_23, k_X11_isRight_24, k_X11_isRight_25, k_X11_isRight_26, k_X11_isRight_27, k_X11_isRight_28, k_X11_isRight_29, k_X11_isRight_30, k_X11_isRight_31, k_X11_isRight_32, k_X11_isRight_33, k_X11_isRight_34, k_X11_isRight_35, k_X11_isRight_36, k_X11_isRight_37, k_X11_isRight_38, k_X11_isRight_39, k_X11_isRight_40, k_X11_isRight_41, k_X11_isRight_42, k_X11_isRight_43, k_X11_isRight_44, k_X11_isRight_45, k_X11_isRight_46, k_X11_isRight_47, k_X11_isRight_48, oE_some, Int.reduceToNat, Nat.reduceAdd, true_and, and_true, List.length_cons, List.length_nil, Option.toList_some, Option.toList_none, List.cons_append, List.nil_append, Nat.reduceLeDiff, Nat.le_refl, wdS_nil, wdS_i, wdS_l, wdS_r, wdS_n, wdS_s, g0, en, w32_nat bn, w32_nat bp, c0, cK, m_isDrop d hK hah hlt, q1, zI_f, w00, ep, ↓reduceIte]
      | true =>
        by_cases q2 : ((num n (bs n ah p) : Nat) : Int) = tl.getD (2 * k) 0
        · by_cases q3 : ((ar n ah p : Nat) : Int) = tl.getD (2 * k + 1) 0
          · have mh := fun R => m_hasK (d + 1) (hp := hp) (s := G) (k := ar n ah p) (by omega) R
            rw [q3] at mh
            cases q4 : G.getLsbD (ar n ah p) with
            | false =>
              have ef : rgF n G ah (tl.getD (2 * k) 0) (tl.getD (2 * k + 1) 0) p = false := by unfold rgF; rw [q4, Bool.and_false, Bool.and_false, Bool.and_false]
              rw [fs, ef, if_neg (by decide)]
              refine Iff.trans ?_ hnx
              rw [AWh_k, k_X11_isRight_2]
              simp only [AW_k, AWk_1, x_iload_3, x_aload_0, x_aloads_0, x_getf, x_push_i, x_push_l, x_isub, x_icmp_ge, x_iload_1, x_callv_3, x_if_eq, x_iload_2, x_imul, x_iald, x_ialds, x_icmp_ne, x_iadd, x_call_2, x_ret, x_ret_i, x_ret_z, x_ret_l, x_ret_c, x_iinc_3, x_goto, unl_i, unl_l, unl_q, unl_r, unl_s, unl_n, k_X11_isRight_2, k_X11_isRight_3, k_X11_isRight_4, k_X11_isRight_5, k_X11_isRight_6, k_X11_isRight_7, k_X11_isRight_8, k_X11_isRight_9, k_X11_isRight_10, k_X11_isRight_11, k_X11_isRight_12, k_X11_isRight_13, k_X11_isRight_14, k_X11_isRight_15, k_X11_isRight_16, k_X11_isRight_17, k_X11_isRight_18, k_X11_isRight_19, k_X11_isRight_20, k_X11_isRight_21, k_X11_isRight_22, k_X11_isRight_23, k_X11_isRight_24, k_X11_isRight_25, k_X11_isRight_26, k_X11_isRight_27, k_X11_isRight_28, k_X11_isRight_29, k_X11_isRight_30, k_X11_isRight_31, k_X11_isRight_32, k_X11_isRight_33, k_X11_isRight_34, k_X11_isRight_35, k_X11_isRight_36, k_X11_isRight_37, k_X11_isRight_38, k_X11_isRight_39, k_X11_isRight_40, k_X11_isRight_41, k_X11_isRight_42, k_X11_isRight_43, k_X11_isRight_44, k_X11_isRight_45, k_X11_isRight_46, k_X11_isRight_47, k_X11_isRight_48, oE_some, Int.reduceToNat, Nat.reduceAdd, true_and, and_true, List.length_cons, List.length_nil, Option.toList_some, Option.toList_none, List.cons_append, List.nil_append, Nat.reduceLeDiff, Nat.le_refl, wdS_nil, wdS_i, wdS_l, wdS_r, wdS_n, wdS_s, g0, en, w32_nat bn, w32_nat bp, c0, cK, m_isDrop d hK hah hlt, q1, zI_t, w10, m_swapAt d hK hah hlt, g35, a74, e2, e1, i1, i2, w32_nat b1, w32_nat b2, Int.toNat_natCast, t1, t2, w32_nat (num_31 h1 h6 hbs), q2, m_arcAt d hA hah hlt, w32_nat ba, q3, hG, mh, q4, zI_f, w00, ep, ↓reduceIte]
            | true =>
              have ef : rgF n G ah (tl.getD (2 * k) 0) (tl.getD (2 * k + 1) 0) p = true := by unfold rgF; rw [q1, q4, decide_eq_true q2, decide_eq_true q3]; rfl
              rw [fs, ef, if_pos rfl]
              rw [AWh_k, k_X11_isRight_2]
              simp only [AW_k, AWk_1, x_iload_3, x_aload_0, x_aloads_0, x_getf, x_push_i, x_push_l, x_isub, x_icmp_ge, x_iload_1, x_callv_3, x_if_eq, x_iload_2, x_imul, x_iald, x_ialds, x_icmp_ne, x_iadd, x_call_2, x_ret, x_ret_i, x_ret_z, x_ret_l, x_ret_c, x_iinc_3, x_goto, unl_i, unl_l, unl_q, unl_r, unl_s, unl_n, k_X11_isRight_2, k_X11_isRight_3, k_X11_isRight_4, k_X11_isRight_5, k_X11_isRight_6, k_X11_isRight_7, k_X11_isRight_8, k_X11_isRight_9, k_X11_isRight_10, k_X11_isRight_11, k_X11_isRight_12, k_X11_isRight_13, k_X11_isRight_14, k_X11_isRight_15, k_X11_isRight_16, k_X11_isRight_17, k_X11_isRight_18, k_X11_isRight_19, k_X11_isRight_20, k_X11_isRight_21, k_X11_isRight_22, k_X11_isRight_23, k_X11_isRight_24, k_X11_isRight_25, k_X11_isRight_26, k_X11_isRight_27, k_X11_isRight_28, k_X11_isRight_29, k_X11_isRight_30, k_X11_isRight_31, k_X11_isRight_32, k_X11_isRight_33, k_X11_isRight_34, k_X11_isRight_35, k_X11_isRight_36, k_X11_isRight_37, k_X11_isRight_38, k_X11_isRight_39, k_X11_isRight_40, k_X11_isRight_41, k_X11_isRight_42, k_X11_isRight_43, k_X11_isRight_44, k_X11_isRight_45, k_X11_isRight_46, k_X11_isRight_47, k_X11_isRight_48, oE_some, Int.reduceToNat, Nat.reduceAdd, true_and, and_true, List.length_cons, List.length_nil, Option.toList_some, Option.toList_none, List.cons_append, List.nil_append, Nat.reduceLeDiff, Nat.le_refl, wdS_nil, wdS_i, wdS_l, wdS_r, wdS_n, wdS_s, g0, en, w32_nat bn, w32_nat bp, c0, cK, m_isDrop d hK hah hlt, q1, zI_t, w10, m_swapAt d hK hah hlt, g35, a74, e2, e1, i1, i2, w32_nat b1, w32_nat b2, Int.toNat_natCast, t1, t2, w32_nat (num_31 h1 h6 hbs), q2, m_arcAt d hA hah hlt, w32_nat ba, q3, hG, mh, q4, ep, Option.isSome_some, or_true, ↓reduceIte]
          · have ef : rgF n G ah (tl.getD (2 * k) 0) (tl.getD (2 * k + 1) 0) p = false := by unfold rgF; rw [decide_eq_false q3, Bool.false_and, Bool.and_false, Bool.and_false]
            rw [fs, ef, if_neg (by decide)]
            refine Iff.trans ?_ hnx
            rw [AWh_k, k_X11_isRight_2]
            simp only [AW_k, AWk_1, x_iload_3, x_aload_0, x_aloads_0, x_getf, x_push_i, x_push_l, x_isub, x_icmp_ge, x_iload_1, x_callv_3, x_if_eq, x_iload_2, x_imul, x_iald, x_ialds, x_icmp_ne, x_iadd, x_call_2, x_ret, x_ret_i, x_ret_z, x_ret_l, x_ret_c, x_iinc_3, x_goto, unl_i, unl_l, unl_q, unl_r, unl_s, unl_n, k_X11_isRight_2, k_X11_isRight_3, k_X11_isRight_4, k_X11_isRight_5, k_X11_isRight_6, k_X11_isRight_7, k_X11_isRight_8, k_X11_isRight_9, k_X11_isRight_10, k_X11_isRight_11, k_X11_isRight_12, k_X11_isRight_13, k_X11_isRight_14, k_X11_isRight_15, k_X11_isRight_16, k_X11_isRight_17, k_X11_isRight_18, k_X11_isRight_19, k_X11_isRight_20, k_X11_isRight_21, k_X11_isRight_22, k_X11_isRight_23, k_X11_isRight_24, k_X11_isRight_25, k_X11_isRight_26, k_X11_isRight_27, k_X11_isRight_28, k_X11_isRight_29, k_X11_isRight_30, k_X11_isRight_31, k_X11_isRight_32, k_X11_isRight_33, k_X11_isRight_34, k_X11_isRight_35, k_X11_isRight_36, k_X11_isRight_37, k_X11_isRight_38, k_X11_isRight_39, k_X11_isRight_40, k_X11_isRight_41, k_X11_isRight_42, k_X11_isRight_43, k_X11_isRight_44, k_X11_isRight_45, k_X11_isRight_46, k_X11_isRight_47, k_X11_isRight_48, oE_some, Int.reduceToNat, Nat.reduceAdd, true_and, and_true, List.length_cons, List.length_nil, Option.toList_some, Option.toList_none, List.cons_append, List.nil_append, Nat.reduceLeDiff, Nat.le_refl, wdS_nil, wdS_i, wdS_l, wdS_r, wdS_n, wdS_s, g0, en, w32_nat bn, w32_nat bp, c0, cK, m_isDrop d hK hah hlt, q1, zI_t, w10, m_swapAt d hK hah hlt, g35, a74, e2, e1, i1, i2, w32_nat b1, w32_nat b2, Int.toNat_natCast, t1, t2, w32_nat (num_31 h1 h6 hbs), q2, m_arcAt d hA hah hlt, w32_nat ba, q3, ep, ↓reduceIte]
        · have ef : rgF n G ah (tl.getD (2 * k) 0) (tl.getD (2 * k + 1) 0) p = false := by unfold rgF; rw [decide_eq_false q2, Bool.false_and, Bool.and_false]
          rw [fs, ef, if_neg (by decide)]
          refine Iff.trans ?_ hnx
          rw [AWh_k, k_X11_isRight_2]
          simp only [AW_k, AWk_1, x_iload_3, x_aload_0, x_aloads_0, x_getf, x_push_i, x_push_l, x_isub, x_icmp_ge, x_iload_1, x_callv_3, x_if_eq, x_iload_2, x_imul, x_iald, x_ialds, x_icmp_ne, x_iadd, x_call_2, x_ret, x_ret_i, x_ret_z, x_ret_l, x_ret_c, x_iinc_3, x_goto, unl_i, unl_l, unl_q, unl_r, unl_s, unl_n, k_X11_isRight_2, k_X11_isRight_3, k_X11_isRight_4, k_X11_isRight_5, k_X11_isRight_6, k_X11_isRight_7, k_X11_isRight_8, k_X11_isRight_9, k_X11_isRight_10, k_X11_isRight_11, k_X11_isRight_12, k_X11_isRight_13, k_X11_isRight_14, k_X11_isRight_15, k_X11_isRight_16, k_X11_isRight_17, k_X11_isRight_18, k_X11_isRight_19, k_X11_isRight_20, k_X11_isRight_21, k_X11_isRight_22, k_X11_isRight_23, k_X11_isRight_24, k_X11_isRight_25, k_X11_isRight_26, k_X11_isRight_27, k_X11_isRight_28, k_X11_isRight_29, k_X11_isRight_30, k_X11_isRight_31, k_X11_isRight_32, k_X11_isRight_33, k_X11_isRight_34, k_X11_isRight_35, k_X11_isRight_36, k_X11_isRight_37, k_X11_isRight_38, k_X11_isRight_39, k_X11_isRight_40, k_X11_isRight_41, k_X11_isRight_42, k_X11_isRight_43, k_X11_isRight_44, k_X11_isRight_45, k_X11_isRight_46, k_X11_isRight_47, k_X11_isRight_48, oE_some, Int.reduceToNat, Nat.reduceAdd, true_and, and_true, List.length_cons, List.length_nil, Option.toList_some, Option.toList_none, List.cons_append, List.nil_append, Nat.reduceLeDiff, Nat.le_refl, wdS_nil, wdS_i, wdS_l, wdS_r, wdS_n, wdS_s, g0, en, w32_nat bn, w32_nat bp, c0, cK, m_isDrop d hK hah hlt, q1, zI_t, w10, m_swapAt d hK hah hlt, g35, a74, e2, i2, w32_nat b2, Int.toNat_natCast, t1, w32_nat (num_31 h1 h6 hbs), q2, ep, ↓reduceIte]
  rw [callD_k]; simp only [entL_i, entL_l, entL_q, entL_s, entL_nil, n_X11_isRight, u_X11_isRight, m_X11_isRight, rep_1, List.cons_append, List.nil_append, List.append_nil, List.length_cons, List.length_nil, Nat.reduceAdd, true_and]
  simp only [AW_k, AWk_1, x_push_i, x_push_l, x_istore_3, x_iload_3, unl_i, unl_l, unl_q, unl_r, unl_s, unl_n, k_X11_isRight_0, k_X11_isRight_1, k_X11_isRight_2, oE_some, Int.reduceToNat, Nat.reduceAdd, true_and, and_true, List.length_cons, List.length_nil, Option.toList_some, Option.toList_none, List.cons_append, List.nil_append, Nat.reduceLeDiff, Nat.le_refl, wdS_nil, wdS_i, wdS_l, wdS_r, wdS_n, wdS_s]
  exact key (n - 1) 0 (Nat.zero_add _)
set_option maxHeartbeats 16000000 in
theorem x_judge_m (d : Nat) {hp : HP} {n : Nat} {G : BitVec 64} {z : Int} {c : Nat} {ks : List Int} {es : List Int} {ik : Bool} {kn : Nat} {kG : BitVec 64} {kz : Int} {kc : Nat} {kks : List Int} {kes : List Int} {tc : Nat} {tb : List Int} {sc : Nat} {tl : List Int} {so : List Int} {le : List Int} {it : Nat → List (BitVec 64)} {he : List Int} {th : List Int} {sl : List Int} {tr : Nat} {bo : List Int} {x : Int} (hX : MI (hp) n G z c ks es ik kn kG kz kc kks kes tc tb sc tl so le it he th sl tr bo) (hO : stOK sc tl) (hx : w32 x = x) (R : PO) : callD (d + 100) 260 [mR 54, mI x] hp R ↔ R (some (mI (an1 n x (fun i => fwF n G tl sc 0 i)))) hp := by
  obtain ⟨⟨u1, u2, u3⟩, kN, kZ, kM, kGm, l5, l6, qk, q0, q1, q2, q3, q4, q5, q6, q7, q8, q9⟩ := hX
  obtain ⟨fr_, to_, co_, op_, wr_, ki_, nu_, mm_, pa_, hF⟩ := YO_F q0
  have hA : MA hp n := ⟨⟨⟨u2, u3⟩, hF 0, hF 18, hF 19, q1.1.1, q1.1.2⟩, ⟨hF 13, hF 14, hF 15, hF 16, hF 17⟩, q1.2⟩
  have hK := hA.1
  have cK := cM hK
  have hG : gF hp 54 11 3 = some (mL G) := hF 3
  have h1 := u2
  have h6 := u3
  obtain ⟨a74, l30⟩ := q6
  obtain ⟨t1, t2, t3⟩ := hO
  have g36 : gF hp 54 11 36 = some (mI (sc : Int)) := hF 36
  have g35 : gF hp 54 11 35 = some (mR 74) := hF 35
  cases ex : ixo n x with
  | none =>
    rw [an1_n ex]
    rw [callD_k]; simp only [entL_i, entL_l, entL_q, entL_s, entL_nil, n_X11_judge, u_X11_judge, m_X11_judge, rep_2, List.cons_append, List.nil_append, List.append_nil, List.length_cons, List.length_nil, Nat.reduceAdd, true_and]
    simp only [AW_k, AWk_1, x_aload_0, x_aloads_0, x_iload_1, x_callv_2, x_if_ne, x_push_i, x_push_l, x_ret, x_ret_i, x_ret_z, x_ret_l, x_ret_c, x_istore_2, x_istore_3, x_iload_3, x_getf, x_icmp_ge, x_iload_2, x_callv_3, x_iadd, x_imul, x_iald, x_ialds, x_iinc_3, x_goto, unl_i, unl_l, unl_q, unl_r, unl_s, unl_n, k_X11_judge_0, k_X11_judge_1, k_X11_judge_2, k_X11_judge_3, k_X11_judge_4, k_X11_judge_5, k_X11_judge_6, k_X11_judge_7, k_X11_judge_8, k_X11_judge_9, k_X11_judge_10, k_X11_judge_11, k_X11_judge_12, k_X11_judge_13, k_X11_judge_14, k_X11_judge_15, k_X11_judge_16, k_X11_judge_17, k_X11_judge_18, k_X11_judge_19, k_X11_judge_20, k_X11_judge_21, k_X11_judge_22, k_X11_judge_23, k_X11_judge_24, k_X11_judge_25, k_X11_judge_26, k_X11_judge_27, k_X11_judge_28, k_X11_judge_29, k_X11_judge_30, k_X11_judge_31, k_X11_judge_32, k_X11_judge_33, oE_some, Int.reduceToNat, Nat.reduceAdd, true_and, and_true, List.length_cons, List.length_nil, Option.toList_some, Option.toList_none, List.cons_append, List.nil_append, Nat.reduceLeDiff, Nat.le_refl, wdS_nil, wdS_i, wdS_l, wdS_r, wdS_n, wdS_s, cK, m_isRow_n (d + 97) hK hx ex, w00, ↓reduceIte]
  | some i =>
    have hi := ixo_lt ex
    have exn := ixo_num ex
    rw [an1_s ex]
    have bs_ : sc < 2147483648 := by omega
    have key : ∀ (m k ah : Nat), k + m = sc → ah < FC n → (AWh (d + 99) [] 260 R 10 [some (mR 54), some (mI x), some (mI ((num n ah : Nat) : Int)), some (mI (k : Int))] [] hp (0, 0) ↔ R (some (mI (fwF n G tl m k ah))) hp) := by
      intro m
      induction m with
      | zero =>
        intro k ah hk hah
        have ek : k = sc := by omega
        subst ek
        rw [AWh_k, k_X11_judge_10]
        simp only [AW_k, AWk_1, x_iload_3, x_aload_0, x_aloads_0, x_getf, x_icmp_ge, x_push_i, x_push_l, x_ret, x_ret_i, x_ret_z, x_ret_l, x_ret_c, k_X11_judge_10, k_X11_judge_11, k_X11_judge_12, k_X11_judge_13, k_X11_judge_32, k_X11_judge_33, oE_some, Int.reduceToNat, Nat.reduceAdd, true_and, and_true, List.length_cons, List.length_nil, Option.toList_some, Option.toList_none, List.cons_append, List.nil_append, Nat.reduceLeDiff, Nat.le_refl, wdS_nil, wdS_i, wdS_l, wdS_r, wdS_n, wdS_s, g36, w32_nat bs_, Int.lt_irrefl, ↓reduceIte]
        all_goals exact Iff.rfl
      | succ m ih =>
        intro k ah hk hah
        have bk : k < 2147483648 := by omega
        have c0 : ((k : Int) < (sc : Int)) = True := eq_true (by omega)
        have ek : (k : Int) + 1 = ((k + 1 : Nat) : Int) := by omega
        have e2 : 2 * (k : Int) = ((2 * k : Nat) : Int) := by omega
        have b2 : 2 * k < 2147483648 := by omega
        have i2 : inB ((2 * k : Nat) : Int) tl.length := by rw [l30]; exact inB_n (by omega) (by decide)
        have mr := fun R => m_isRight (d + 96) hA hG g35 a74 l30 t3 hah (show k < 15 by omega) R
        rw [fwF_succ]
        cases q : rgM n G ah (tl.getD (2 * k) 0) (tl.getD (2 * k + 1) 0) with
        | false =>
          rw [if_pos ((rg_eq h1 h6 hah).mpr q)]
          rw [q] at mr
          rw [AWh_k, k_X11_judge_10]
          simp only [AW_k, AWk_1, x_iload_3, x_aload_0, x_aloads_0, x_getf, x_icmp_ge, x_iload_2, x_callv_3, x_if_ne, x_push_i, x_push_l, x_iadd, x_ret, x_ret_i, x_ret_z, x_ret_l, x_ret_c, k_X11_judge_10, k_X11_judge_11, k_X11_judge_12, k_X11_judge_13, k_X11_judge_14, k_X11_judge_15, k_X11_judge_16, k_X11_judge_17, k_X11_judge_18, k_X11_judge_19, k_X11_judge_20, k_X11_judge_21, k_X11_judge_22, oE_some, Int.reduceToNat, Nat.reduceAdd, true_and, and_true, List.length_cons, List.length_nil, Option.toList_some, Option.toList_none, List.cons_append, List.nil_append, Nat.reduceLeDiff, Nat.le_refl, wdS_nil, wdS_i, wdS_l, wdS_r, wdS_n, wdS_s, g36, w32_nat bs_, w32_nat bk, c0, cK, mr, zI_f, w00, ek, ↓reduceIte]
        | true =>
          have hno : ¬ (fnd n (tl.getD (2 * k) 0) < 0 ∨ isR n G ah (fnd n (tl.getD (2 * k) 0)).toNat (tl.getD (2 * k + 1) 0) = false) := fun w => by
            rw [(rg_eq h1 h6 hah).mp w] at q
            cases q
          rw [if_neg hno]
          obtain ⟨s1, s2, s3⟩ := rg_step h1 h6 hah q
          rw [q] at mr
          have hnx := ih (k + 1) _ (by omega) s2
          rw [← s3] at hnx
          refine Iff.trans ?_ hnx
          rw [AWh_k, k_X11_judge_10]
          simp only [AW_k, AWk_1, x_iload_3, x_aload_0, x_aloads_0, x_getf, x_icmp_ge, x_iload_2, x_callv_3, x_if_ne, x_push_i, x_push_l, x_imul, x_iald, x_ialds, x_istore_2, x_iinc_3, x_goto, unl_i, unl_l, unl_q, unl_r, unl_s, unl_n, k_X11_judge_10, k_X11_judge_11, k_X11_judge_12, k_X11_judge_13, k_X11_judge_14, k_X11_judge_15, k_X11_judge_16, k_X11_judge_17, k_X11_judge_18, k_X11_judge_23, k_X11_judge_24, k_X11_judge_25, k_X11_judge_26, k_X11_judge_27, k_X11_judge_28, k_X11_judge_29, k_X11_judge_30, k_X11_judge_31, oE_some, Int.reduceToNat, Nat.reduceAdd, true_and, and_true, List.length_cons, List.length_nil, Option.toList_some, Option.toList_none, List.cons_append, List.nil_append, Nat.reduceLeDiff, Nat.le_refl, wdS_nil, wdS_i, wdS_l, wdS_r, wdS_n, wdS_s, g36, w32_nat bs_, w32_nat bk, c0, cK, mr, zI_t, w10, g35, a74, e2, i2, w32_nat b2, Int.toNat_natCast, ek, ↓reduceIte]
    have hk := key sc 0 i (Nat.zero_add _) hi
    rw [exn] at hk
    rw [callD_k]; simp only [entL_i, entL_l, entL_q, entL_s, entL_nil, n_X11_judge, u_X11_judge, m_X11_judge, rep_2, List.cons_append, List.nil_append, List.append_nil, List.length_cons, List.length_nil, Nat.reduceAdd, true_and]
    simp only [AW_k, AWk_1, x_aload_0, x_aloads_0, x_iload_1, x_callv_2, x_if_ne, x_push_i, x_push_l, x_ret, x_ret_i, x_ret_z, x_ret_l, x_ret_c, x_istore_2, x_istore_3, x_iload_3, unl_i, unl_l, unl_q, unl_r, unl_s, unl_n, k_X11_judge_0, k_X11_judge_1, k_X11_judge_2, k_X11_judge_3, k_X11_judge_4, k_X11_judge_5, k_X11_judge_6, k_X11_judge_7, k_X11_judge_8, k_X11_judge_9, k_X11_judge_10, oE_some, Int.reduceToNat, Nat.reduceAdd, true_and, and_true, List.length_cons, List.length_nil, Option.toList_some, Option.toList_none, List.cons_append, List.nil_append, Nat.reduceLeDiff, Nat.le_refl, wdS_nil, wdS_i, wdS_l, wdS_r, wdS_n, wdS_s, cK, m_isRow_s (d + 97) hK hx ex, w10, ↓reduceIte]
    exact hk
