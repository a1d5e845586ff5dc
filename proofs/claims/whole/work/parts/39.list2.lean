/-! ===== the list is brought up to date ===== -/
def lsP (n : Nat) (G : BitVec 64) : Nat → Option Nat → List Nat → List Nat
  | 0, _, acc => acc
  | _ + 1, none, acc => acc
  | f + 1, some x, acc => lsP n G f (nbF n G x (fun y => decide (y ∈ acc ++ [x])) (n - 1)) (acc ++ [x])
def LST (n : Nat) (G : BitVec 64) : List Nat := lsP n G 120 (some 0) []
theorem lsP_some (n : Nat) (G : BitVec 64) (f x : Nat) (acc : List Nat) : lsP n G (f + 1) (some x) acc = lsP n G f (nbF n G x (fun y => decide (y ∈ acc ++ [x])) (n - 1)) (acc ++ [x]) := rfl
theorem lsP_none (n : Nat) (G : BitVec 64) (f : Nat) (acc : List Nat) : lsP n G f none acc = acc := by cases f <;> rfl
def lsOK (c : Nat) (ca se : List Int) (fn : Int) (fg : BitVec 64) : Prop := ca.length = 120 ∧ se.length = 120 ∧ w32 fn = fn ∧ ∀ n : Nat, 1 ≤ n → fn = (n : Int) → c = (LST n fg).length ∧ pre ca (LST n fg)
theorem seI_add {se : List Int} {acc : List Nat} {x : Nat} (h : seI se (fun y => decide (y ∈ acc))) (hl : se.length = 120) (hx : x < 120) : seI (se.set x 1) (fun y => decide (y ∈ acc ++ [x])) := by
  intro y hy
  show _ = zI (decide (y ∈ acc ++ [x]))
  have hh : se.getD y 0 = zI (decide (y ∈ acc)) := h y hy
  rw [getD_set (by omega)]
  by_cases e : x = y
  · subst e
    rw [if_pos rfl, decide_eq_true (List.mem_append_right _ (List.mem_singleton_self x))]
    rfl
  · rw [if_neg e, hh]
    by_cases q : y ∈ acc
    · rw [decide_eq_true q, decide_eq_true (List.mem_append_left _ q)]
    · rw [decide_eq_false q, decide_eq_false (fun z => (List.mem_append.mp z).elim q (fun z => e (List.mem_singleton.mp z).symm))]
set_option maxHeartbeats 16000000 in
theorem c2_loop (d : Nat) {a ra n : Nat} {G : BitVec 64} (h5 : n ≤ 5) (ho : a + 3 ≤ ra ∨ ra + 16 ≤ a) : ∀ (f : Nat) (nx : Option Nat) (acc : List Nat) (ca se : List Int) (h : HP), acc.length + f = 120 → (∀ x, nx = some x → x < FC n) → RWS h ra n → LSS h a acc.length ca se (n : Int) G → ca.length = 120 → se.length = 120 → pre ca acc → seI se (fun y => decide (y ∈ acc)) → ∃ h' ca' se', LSS h' a (lsP n G f nx acc).length ca' se' (n : Int) G ∧ ca'.length = 120 ∧ se'.length = 120 ∧ pre ca' (lsP n G f nx acc) ∧ Fr a (a + 3) h h' ∧ ∀ R : PO, AWh (d + 4) [] 19 R 29 [some (mR a), some (mR ra), some (mL G), none, some (mI (oI nx)), some (mI (acc.length : Int))] [] h (0, 0) ↔ R none h' := by
  intro f
  induction f with
  | zero =>
    intro nx acc ca se h hf hx hR hL hca hse hp hs
    refine ⟨h, ca, se, hL, hca, hse, hp, Fr_refl h, fun R => ?_⟩
    have e : acc.length = 120 := by omega
    rw [e]
    rw [AWh_k, k_X2_bringUpTo_29]
    simp only [AW_k, AWk_1, x_aload_1, x_aloads_1, x_getf, x_aload_0, x_aloads_0, x_icmp_ne, x_lload_2, x_lcmp, x_if_ne, x_ret, x_ret_i, x_ret_z, x_ret_l, x_ret_c, x_putf_i, x_putf_l, x_push_i, x_push_l, x_call_2, x_istore_4, x_istore_5, x_iload_5, x_icmp_ge, x_iload_4, x_if_lt, x_iast, x_dup_i, x_dup_r, x_dup_q, x_iadd, x_callv_4, x_iinc_5, x_goto, unl_i, unl_l, unl_q, unl_r, unl_s, unl_n, k_X2_bringUpTo_0, k_X2_bringUpTo_1, k_X2_bringUpTo_2, k_X2_bringUpTo_3, k_X2_bringUpTo_4, k_X2_bringUpTo_5, k_X2_bringUpTo_6, k_X2_bringUpTo_7, k_X2_bringUpTo_8, k_X2_bringUpTo_9, k_X2_bringUpTo_10, k_X2_bringUpTo_11, k_X2_bringUpTo_12, k_X2_bringUpTo_13, k_X2_bringUpTo_14, k_X2_bringUpTo_15, k_X2_bringUpTo_16, k_X2_bringUpTo_17, k_X2_bringUpTo_18, k_X2_bringUpTo_19, k_X2_bringUpTo_20, k_X2_bringUpTo_21, k_X2_bringUpTo_22, k_X2_bringUpTo_23, k_X2_bringUpTo_24, k_X2_bringUpTo_25, k_X2_bringUpTo_26, k_X2_bringUpTo_27, k_X2_bringUpTo_28, k_X2_bringUpTo_29, k_X2_bringUpTo_30, k_X2_bringUpTo_31, k_X2_bringUpTo_32, k_X2_bringUpTo_33, k_X2_bringUpTo_34, k_X2_bringUpTo_35, k_X2_bringUpTo_36, k_X2_bringUpTo_37, k_X2_bringUpTo_38, k_X2_bringUpTo_39, k_X2_bringUpTo_40, k_X2_bringUpTo_41, k_X2_bringUpTo_42, k_X2_bringUpTo_43, k_X2_bringUpTo_44, k_X2_bringUpTo_45, k_X2_bringUpTo_46, k_X2_bringUpTo_47, k_X2_bringUpTo_48, k_X2_bringUpTo_49, k_X2_bringUpTo_50, k_X2_bringUpTo_51, k_X2_bringUpTo_52, k_X2_bringUpTo_53, k_X2_bringUpTo_54, k_X2_bringUpTo_55, k_X2_bringUpTo_56, k_X2_bringUpTo_57, k_X2_bringUpTo_58, oE_some, Int.reduceToNat, Nat.reduceAdd, true_and, and_true, List.length_cons, List.length_nil, Option.toList_some, Option.toList_none, List.cons_append, List.nil_append, Nat.reduceLeDiff, Nat.le_refl, wdS_nil, wdS_i, wdS_l, wdS_r, wdS_n, wdS_s]
    rw [if_neg (by decide)]
  | succ f ih =>
    intro nx acc ca se h hf hx hR hL hca hse hp hs
    have bi : acc.length < 2147483648 := by omega
    have ci : (acc.length : Int) < 120 := by omega
    cases nx with
    | none =>
      rw [lsP_none]
      refine ⟨h, ca, se, hL, hca, hse, hp, Fr_refl h, fun R => ?_⟩
      rw [AWh_k, k_X2_bringUpTo_29]
      simp only [AW_k, AWk_1, x_aload_1, x_aloads_1, x_getf, x_aload_0, x_aloads_0, x_icmp_ne, x_lload_2, x_lcmp, x_if_ne, x_ret, x_ret_i, x_ret_z, x_ret_l, x_ret_c, x_putf_i, x_putf_l, x_push_i, x_push_l, x_call_2, x_istore_4, x_istore_5, x_iload_5, x_icmp_ge, x_iload_4, x_if_lt, x_iast, x_dup_i, x_dup_r, x_dup_q, x_iadd, x_callv_4, x_iinc_5, x_goto, unl_i, unl_l, unl_q, unl_r, unl_s, unl_n, k_X2_bringUpTo_0, k_X2_bringUpTo_1, k_X2_bringUpTo_2, k_X2_bringUpTo_3, k_X2_bringUpTo_4, k_X2_bringUpTo_5, k_X2_bringUpTo_6, k_X2_bringUpTo_7, k_X2_bringUpTo_8, k_X2_bringUpTo_9, k_X2_bringUpTo_10, k_X2_bringUpTo_11, k_X2_bringUpTo_12, k_X2_bringUpTo_13, k_X2_bringUpTo_14, k_X2_bringUpTo_15, k_X2_bringUpTo_16, k_X2_bringUpTo_17, k_X2_bringUpTo_18, k_X2_bringUpTo_19, k_X2_bringUpTo_20, k_X2_bringUpTo_21, k_X2_bringUpTo_22, k_X2_bringUpTo_23, k_X2_bringUpTo_24, k_X2_bringUpTo_25, k_X2_bringUpTo_26, k_X2_bringUpTo_27, k_X2_bringUpTo_28, k_X2_bringUpTo_29, k_X2_bringUpTo_30, k_X2_bringUpTo_31, k_X2_bringUpTo_32, k_X2_bringUpTo_33, k_X2_bringUpTo_34, k_X2_bringUpTo_35, k_X2_bringUpTo_36, k_X2_bringUpTo_37, k_X2_bringUpTo_38, k_X2_bringUpTo_39, k_X2_bringUpTo_40, k_X2_bringUpTo_41, k_X2_bringUpTo_42, k_X2_bringUpTo_43, k_X2_bringUpTo_44, k_X2_bringUpTo_45, k_X2_bringUpTo_46, k_X2_bringUpTo_47, k_X2_bringUpTo_48, k_X2_bringUpTo_49, k_X2_bringUpTo_50, k_X2_bringUpTo_51, k_X2_bringUpTo_52, k_X2_bringUpTo_53, k_X2_bringUpTo_54, k_X2_bringUpTo_55, k_X2_bringUpTo_56, k_X2_bringUpTo_57, k_X2_bringUpTo_58, oE_some, Int.reduceToNat, Nat.reduceAdd, true_and, and_true, List.length_cons, List.length_nil, Option.toList_some, Option.toList_none, List.cons_append, List.nil_append, Nat.reduceLeDiff, Nat.le_refl, wdS_nil, wdS_i, wdS_l, wdS_r, wdS_n, wdS_s]
      rw [w32_nat bi, show w32 120 = 120 from rfl, if_pos ci, if_pos (by decide)]
    | some x =>
      have h1 := rw_1 hR
      have h6 := rw_6 hR
      have f1 := FC_5 h5
      have hx := hx x rfl
      have bx : x < 2147483648 := by omega
      have cx : ¬ (x : Int) < 0 := by omega
      have j1 : acc.length < ca.length := by omega
      have j2 : x < se.length := by omega
      have L1 : ca.length < 2147483648 := by omega
      have L2 : se.length < 2147483648 := by omega
      have s1 := LSS_1 (l := ca.set acc.length (x : Int)) hL
      have f1' : Fr a (a + 3) h (pA h (a + 1) (ca.set acc.length (x : Int))) := Fr_pA (by omega) (by omega)
      have s2 := LSS_2 (l := se.set x 1) s1
      have f2 : Fr a (a + 3) (pA h (a + 1) (ca.set acc.length (x : Int))) (pA (pA h (a + 1) (ca.set acc.length (x : Int))) (a + 2) (se.set x 1)) := Fr_pA (by omega) (by omega)
      have s3 := LSS_0 (e := acc.length + 1) s2
      have f3 : Fr a (a + 3) (pA (pA h (a + 1) (ca.set acc.length (x : Int))) (a + 2) (se.set x 1)) (pF (pA (pA h (a + 1) (ca.set acc.length (x : Int))) (a + 2) (se.set x 1)) a 2 0 (mI ((acc.length + 1 : Nat) : Int))) := Fr_pF (by omega) (by omega)
      have R3 := RWS_Fr hR (Fr_trans (Fr_trans f1' f2) f3) (by omega)
      have hs3 := seI_add hs hse (show x < 120 by omega)
      have c := c2_nextBehind (G := G) d R3 s3 h5 (by rw [List.length_set]; exact hse) hs3 hx
      have hacc : (acc ++ [x]).length = acc.length + 1 := by rw [List.length_append, List.length_singleton]
      have ej : (acc.length : Int) + 1 = ((acc.length + 1 : Nat) : Int) := by omega
      rw [lsP_some]
      obtain ⟨h', ca', se', u1, u2, u3, u4, u5, u6⟩ := ih (nbF n G x (fun y => decide (y ∈ acc ++ [x])) (n - 1)) (acc ++ [x]) (ca.set acc.length (x : Int)) (se.set x 1) _ (by omega) (fun y hy => (nbF_ok h1 h6 hx hy).1) R3 (by rw [hacc]; exact s3) (by rw [List.length_set]; exact hca) (by rw [List.length_set]; exact hse) (pre_app hp hca (by omega)) hs3
      refine ⟨h', ca', se', u1, u2, u3, u4, Fr_trans (Fr_trans (Fr_trans f1' f2) f3) u5, fun R => ?_⟩
      have u6 := u6 R
      rw [hacc] at u6
      have eo : oI (some x) = (x : Int) := rfl
      rw [AWh_k, k_X2_bringUpTo_29]
      simp only [AW_k, AWk_1, x_aload_1, x_aloads_1, x_getf, x_aload_0, x_aloads_0, x_icmp_ne, x_lload_2, x_lcmp, x_if_ne, x_ret, x_ret_i, x_ret_z, x_ret_l, x_ret_c, x_putf_i, x_putf_l, x_push_i, x_push_l, x_call_2, x_istore_4, x_istore_5, x_iload_5, x_icmp_ge, x_iload_4, x_if_lt, x_iast, x_dup_i, x_dup_r, x_dup_q, x_iadd, x_callv_4, x_iinc_5, x_goto, unl_i, unl_l, unl_q, unl_r, unl_s, unl_n, k_X2_bringUpTo_0, k_X2_bringUpTo_1, k_X2_bringUpTo_2, k_X2_bringUpTo_3, k_X2_bringUpTo_4, k_X2_bringUpTo_5, k_X2_bringUpTo_6, k_X2_bringUpTo_7, k_X2_bringUpTo_8, k_X2_bringUpTo_9, k_X2_bringUpTo_10, k_X2_bringUpTo_11, k_X2_bringUpTo_12, k_X2_bringUpTo_13, k_X2_bringUpTo_14, k_X2_bringUpTo_15, k_X2_bringUpTo_16, k_X2_bringUpTo_17, k_X2_bringUpTo_18, k_X2_bringUpTo_19, k_X2_bringUpTo_20, k_X2_bringUpTo_21, k_X2_bringUpTo_22, k_X2_bringUpTo_23, k_X2_bringUpTo_24, k_X2_bringUpTo_25, k_X2_bringUpTo_26, k_X2_bringUpTo_27, k_X2_bringUpTo_28, k_X2_bringUpTo_29, k_X2_bringUpTo_30, k_X2_bringUpTo_31, k_X2_bringUpTo_32, k_X2_bringUpTo_33, k_X2_bringUpTo_34, k_X2_bringUpTo_35, k_X2_bringUpTo_36, k_X2_bringUpTo_37, k_X2_bringUpTo_38, k_X2_bringUpTo_39, k_X2_bringUpTo_40, k_X2_bringUpTo_41, k_X2_bringUpTo_42, k_X2_bringUpTo_43, k_X2_bringUpTo_44, k_X2_bringUpTo_45, k_X2_bringUpTo_46, k_X2_bringUpTo_47, k_X2_bringUpTo_48, k_X2_bringUpTo_49, k_X2_bringUpTo_50, k_X2_bringUpTo_51, k_X2_bringUpTo_52, k_X2_bringUpTo_53, k_X2_bringUpTo_54, k_X2_bringUpTo_55, k_X2_bringUpTo_56, k_X2_bringUpTo_57, k_X2_bringUpTo_58, oE_some, Int.reduceToNat, Nat.reduceAdd, true_and, and_true, List.length_cons, List.length_nil, Option.toList_some, Option.toList_none, List.cons_append, List.nil_append, Nat.reduceLeDiff, Nat.le_refl, wdS_nil, wdS_i, wdS_l, wdS_r, wdS_n, wdS_s, eo, hL.1.2.1, hL.2.1, inB_n j1 L1, w32_tn bi, s1.1.2.2.1, s1.2.2, inB_n j2 L2, w32_tn bx, s2.1.1, ej, gC_of s3.1.1, c]
      rw [w32_nat bi, show w32 120 = 120 from rfl, if_pos ci, w32_nat bx, if_neg cx]
      exact u6
set_option maxHeartbeats 16000000 in
theorem c2_bringUpTo (d : Nat) {hp : HP} {a ra n c : Nat} {G : BitVec 64} {ca se : List Int} {fn : Int} {fg : BitVec 64} (hR : RWS hp ra n) (hL : LSS hp a c ca se fn fg) (hK : lsOK c ca se fn fg) (h5 : n ≤ 5) (ho : a + 3 ≤ ra ∨ ra + 16 ≤ a) : ∃ h' c' ca' se', LSS h' a c' ca' se' (n : Int) G ∧ lsOK c' ca' se' (n : Int) G ∧ Fr a (a + 3) hp h' ∧ ∀ R : PO, callD (d + 5) 19 [mR a, mR ra, mL G] hp R ↔ R none h' := by
  obtain ⟨k1, k2, k3, k4⟩ := hK
  have h1 := rw_1 hR
  have h6 := rw_6 hR
  have b0 := FC_pos h1 h6
  have bn : n < 2147483648 := by omega
  have fresh : ∃ h' ca' se', LSS h' a (LST n G).length ca' se' (n : Int) G ∧ ca'.length = 120 ∧ se'.length = 120 ∧ pre ca' (LST n G) ∧ Fr a (a + 3) hp h' ∧ ∀ R : PO, AW (d + 4) [] 19 R 11 [some (mR a), some (mR ra), some (mL G), none, none, none] [] hp (0, 0) ↔ R none h' := by
    have s1 := LSS_3 (x := (n : Int)) hL
    have f1 : Fr a (a + 3) hp (pF hp a 2 3 (mI (n : Int))) := Fr_pF (by omega) (by omega)
    have R1 := RWS_Fr hR f1 (by omega)
    have s2 := LSS_4 (x := G) s1
    have f2 : Fr a (a + 3) (pF hp a 2 3 (mI (n : Int))) (pF (pF hp a 2 3 (mI (n : Int))) a 2 4 (mL G)) := Fr_pF (by omega) (by omega)
    have s3 := LSS_2 (l := List.replicate 120 0) s2
    have f3 : Fr a (a + 3) (pF (pF hp a 2 3 (mI (n : Int))) a 2 4 (mL G)) (pA (pF (pF hp a 2 3 (mI (n : Int))) a 2 4 (mL G)) (a + 2) (List.replicate 120 0)) := Fr_pA (by omega) (by omega)
    have s4 := LSS_0 (e := 0) s3
    have f4 : Fr a (a + 3) (pA (pF (pF hp a 2 3 (mI (n : Int))) a 2 4 (mL G)) (a + 2) (List.replicate 120 0)) (pF (pA (pF (pF hp a 2 3 (mI (n : Int))) a 2 4 (mL G)) (a + 2) (List.replicate 120 0)) a 2 0 (mI ((0 : Nat) : Int))) := Fr_pF (by omega) (by omega)
    have f04 := Fr_trans (Fr_trans (Fr_trans f1 f2) f3) f4
    have R4 := RWS_Fr hR f04 (by omega)
    have cf := c_fillI (d + 3) (v := 0) s2.2.2 k2 (by decide)
    obtain ⟨h', ca', se', u1, u2, u3, u4, u5, u6⟩ := c2_loop d h5 ho 120 (some 0) [] ca (List.replicate 120 0) _ rfl (fun x hx => by cases hx; omega) R4 s4 k1 (by rw [List.length_replicate]) (fun k hk => absurd hk (Nat.not_lt_zero k)) (fun y hy => by
      rw [List.getD_eq_getElem?_getD, List.getElem?_replicate, if_pos hy]; rfl)
    refine ⟨h', ca', se', u1, u2, u3, u4, Fr_trans f04 u5, fun R => ?_⟩
    simp only [AW_k, AWk_1, x_aload_1, x_aloads_1, x_getf, x_aload_0, x_aloads_0, x_icmp_ne, x_lload_2, x_lcmp, x_if_ne, x_ret, x_ret_i, x_ret_z, x_ret_l, x_ret_c, x_putf_i, x_putf_l, x_push_i, x_push_l, x_call_2, x_istore_4, x_istore_5, x_iload_5, x_icmp_ge, x_iload_4, x_if_lt, x_iast, x_dup_i, x_dup_r, x_dup_q, x_iadd, x_callv_4, x_iinc_5, x_goto, unl_i, unl_l, unl_q, unl_r, unl_s, unl_n, k_X2_bringUpTo_0, k_X2_bringUpTo_1, k_X2_bringUpTo_2, k_X2_bringUpTo_3, k_X2_bringUpTo_4, k_X2_bringUpTo_5, k_X2_bringUpTo_6, k_X2_bringUpTo_7, k_X2_bringUpTo_8, k_X2_bringUpTo_9, k_X2_bringUpTo_10, k_X2_bringUpTo_11, k_X2_bringUpTo_12, k_X2_bringUpTo_13, k_X2_bringUpTo_14, k_X2_bringUpTo_15, k_X2_bringUpTo_16, k_X2_bringUpTo_17, k_X2_bringUpTo_18, k_X2_bringUpTo_19, k_X2_bringUpTo_20, k_X2_bringUpTo_21, k_X2_bringUpTo_22, k_X2_bringUpTo_23, k_X2_bringUpTo_24, k_X2_bringUpTo_25, k_X2_bringUpTo_26, k_X2_bringUpTo_27, k_X2_bringUpTo_28, k_X2_bringUpTo_29, k_X2_bringUpTo_30, k_X2_bringUpTo_31, k_X2_bringUpTo_32, k_X2_bringUpTo_33, k_X2_bringUpTo_34, k_X2_bringUpTo_35, k_X2_bringUpTo_36, k_X2_bringUpTo_37, k_X2_bringUpTo_38, k_X2_bringUpTo_39, k_X2_bringUpTo_40, k_X2_bringUpTo_41, k_X2_bringUpTo_42, k_X2_bringUpTo_43, k_X2_bringUpTo_44, k_X2_bringUpTo_45, k_X2_bringUpTo_46, k_X2_bringUpTo_47, k_X2_bringUpTo_48, k_X2_bringUpTo_49, k_X2_bringUpTo_50, k_X2_bringUpTo_51, k_X2_bringUpTo_52, k_X2_bringUpTo_53, k_X2_bringUpTo_54, k_X2_bringUpTo_55, k_X2_bringUpTo_56, k_X2_bringUpTo_57, k_X2_bringUpTo_58, oE_some, Int.reduceToNat, Nat.reduceAdd, true_and, and_true, List.length_cons, List.length_nil, Option.toList_some, Option.toList_none, List.cons_append, List.nil_append, Nat.reduceLeDiff, Nat.le_refl, wdS_nil, wdS_i, wdS_l, wdS_r, wdS_n, wdS_s, rw_n hR, hL.1.2.2.2.1, s1.1.2.2.2.2, s2.1.2.2.1, cf, s3.1.1]
    exact u6 R
  obtain ⟨h', ca', se', u1, u2, u3, u4, u5, u6⟩ := fresh
  by_cases e : (n : Int) = fn ∧ G = fg
  · obtain ⟨e1, e2⟩ := e
    subst e2
    refine ⟨hp, c, ca, se, by rw [e1]; exact hL, ⟨k1, k2, w32_nat bn, fun m hm em => by rw [← e1] at k4; exact k4 m hm em⟩, Fr_refl hp, fun R => ?_⟩
    rw [callD_k]; simp only [entL_i, entL_l, entL_q, entL_s, entL_nil, n_X2_bringUpTo, u_X2_bringUpTo, m_X2_bringUpTo, rep_2, List.cons_append, List.nil_append, List.append_nil, List.length_cons, List.length_nil, Nat.reduceAdd, true_and]
    simp only [AW_k, AWk_1, x_aload_1, x_aloads_1, x_getf, x_aload_0, x_aloads_0, x_icmp_ne, x_lload_2, x_lcmp, x_if_ne, x_ret, x_ret_i, x_ret_z, x_ret_l, x_ret_c, k_X2_bringUpTo_0, k_X2_bringUpTo_1, k_X2_bringUpTo_2, k_X2_bringUpTo_3, k_X2_bringUpTo_4, k_X2_bringUpTo_5, k_X2_bringUpTo_6, k_X2_bringUpTo_7, k_X2_bringUpTo_8, k_X2_bringUpTo_9, k_X2_bringUpTo_10, oE_some, Int.reduceToNat, Nat.reduceAdd, true_and, and_true, List.length_cons, List.length_nil, Option.toList_some, Option.toList_none, List.cons_append, List.nil_append, Nat.reduceLeDiff, Nat.le_refl, wdS_nil, wdS_i, wdS_l, wdS_r, wdS_n, wdS_s, rw_n hR, hL.1.2.2.2.1, hL.1.2.2.2.2, lCmp_eq, if_true]
    rw [k3, w32_nat bn, if_pos e1]
  · refine ⟨h', _, ca', se', u1, ⟨u2, u3, w32_nat bn, fun m hm em => by
      have : m = n := by omega
      rw [this]; exact ⟨rfl, u4⟩⟩, u5, fun R => ?_⟩
    rw [callD_k]; simp only [entL_i, entL_l, entL_q, entL_s, entL_nil, n_X2_bringUpTo, u_X2_bringUpTo, m_X2_bringUpTo, rep_2, List.cons_append, List.nil_append, List.append_nil, List.length_cons, List.length_nil, Nat.reduceAdd, true_and]
    simp only [AW_k, AWk_1, x_aload_1, x_aloads_1, x_getf, x_aload_0, x_aloads_0, x_icmp_ne, x_lload_2, x_lcmp, x_if_ne, x_ret, x_ret_i, x_ret_z, x_ret_l, x_ret_c, k_X2_bringUpTo_0, k_X2_bringUpTo_1, k_X2_bringUpTo_2, k_X2_bringUpTo_3, k_X2_bringUpTo_4, k_X2_bringUpTo_5, k_X2_bringUpTo_6, k_X2_bringUpTo_7, k_X2_bringUpTo_8, k_X2_bringUpTo_9, k_X2_bringUpTo_10, oE_some, Int.reduceToNat, Nat.reduceAdd, true_and, and_true, List.length_cons, List.length_nil, Option.toList_some, Option.toList_none, List.cons_append, List.nil_append, Nat.reduceLeDiff, Nat.le_refl, wdS_nil, wdS_i, wdS_l, wdS_r, wdS_n, wdS_s, rw_n hR, hL.1.2.2.2.1, hL.1.2.2.2.2, lCmp_eq]
    rw [k3, w32_nat bn]
    by_cases e1 : (n : Int) = fn
    · rw [if_pos e1, if_neg (fun e2 => e ⟨e1, e2⟩)]
      exact AW_k.symm.trans (u6 R)
    · rw [if_neg e1]
      exact AW_k.symm.trans (u6 R)
