/-! ===== the reference: drops, the row turned round, places, jumps ===== -/
theorem tI64 {x : Int} (h1 : -9223372036854775808 ≤ x) (h2 : x < 9223372036854775808) : (BitVec.ofInt 64 x).toInt = x := by
  rw [BitVec.toInt_ofInt, Int.bmod_def]
  split <;> omega
set_option maxHeartbeats 8000000 in
theorem m_drops (d : Nat) {hp : HP} {n i : Nat} (h : MK hp n) (hi : i < FC n) (R : PO) : callD (d + 3) 176 [mR 54, mI ((num n i : Nat) : Int)] hp R ↔ R (some (mI ((dr n i : Nat) : Int))) hp := by
  have h1 := h.1.1
  have h6 := h.1.2
  have g1 := h.2.1
  have en : (n : Int) - 1 = ((n - 1 : Nat) : Int) := by omega
  have bn : n - 1 < 2147483648 := by omega
  have key : ∀ (m p : Nat), p + m = n - 1 → (AWh (d + 2) [] 176 R 4 [some (mR 54), some (mI ((num n i : Nat) : Int)), some (mI ((rdA n i p : Nat) : Int)), some (mI (p : Int))] [] hp (0, 0) ↔ R (some (mI ((dr n i : Nat) : Int))) hp) := by
    intro m
    induction m with
    | zero =>
      intro p hp1
      have e : p = n - 1 := by omega
      subst e
      rw [(rd_ok h1 h6 hi).1]
      rw [AWh_k, k_X11_drops_4]
      simp only [AW_k, AWk_1, x_iload_3, x_aload_0, x_aloads_0, x_getf, x_push_i, x_push_l, x_isub, x_icmp_ge, x_iload_2, x_iload_1, x_callv_3, x_if_eq, x_ishl, x_goto, x_ior, x_istore_2, x_iinc_3, x_ret, x_ret_i, x_ret_z, x_ret_l, x_ret_c, unl_i, unl_l, unl_q, unl_r, unl_s, unl_n, k_X11_drops_4, k_X11_drops_5, k_X11_drops_6, k_X11_drops_7, k_X11_drops_8, k_X11_drops_9, k_X11_drops_10, k_X11_drops_11, k_X11_drops_12, k_X11_drops_13, k_X11_drops_14, k_X11_drops_15, k_X11_drops_16, k_X11_drops_17, k_X11_drops_18, k_X11_drops_19, k_X11_drops_20, k_X11_drops_21, k_X11_drops_22, k_X11_drops_23, k_X11_drops_24, k_X11_drops_25, k_X11_drops_26, oE_some, Int.reduceToNat, Nat.reduceAdd, true_and, and_true, List.length_cons, List.length_nil, Option.toList_some, Option.toList_none, List.cons_append, List.nil_append, Nat.reduceLeDiff, Nat.le_refl, wdS_nil, wdS_i, wdS_l, wdS_r, wdS_n, wdS_s, g1, en]
      rw [if_neg (Int.lt_irrefl _)]
    | succ m ih =>
      intro p hp1
      have hpn : p < n - 1 := by omega
      have bp : p < 2147483648 := by omega
      have n1 : ((p : Int) < ((n - 1 : Nat) : Int)) = True := eq_true (by omega)
      have e1 : (p : Int) + 1 = ((p + 1 : Nat) : Int) := by omega
      have p31 : p < 31 := by omega
      have hr := rdA_lt (n := n) (i := i) p (by omega)
      have br : rdA n i p < 2147483648 := by omega
      have hnx := ih (p + 1) (by omega)
      have pw := pow31 p31
      rw [rdA_succ] at hnx
      rw [AWh_k, k_X11_drops_4]
      cases c : dn n i p with
      | true =>
        rw [if_pos c] at hnx
        simp only [AW_k, AWk_1, x_iload_3, x_aload_0, x_aloads_0, x_getf, x_push_i, x_push_l, x_isub, x_icmp_ge, x_iload_2, x_iload_1, x_callv_3, x_if_eq, x_ishl, x_goto, x_ior, x_istore_2, x_iinc_3, unl_i, unl_l, unl_q, unl_r, unl_s, unl_n, k_X11_drops_4, k_X11_drops_5, k_X11_drops_6, k_X11_drops_7, k_X11_drops_8, k_X11_drops_9, k_X11_drops_10, k_X11_drops_11, k_X11_drops_12, k_X11_drops_13, k_X11_drops_14, k_X11_drops_15, k_X11_drops_16, k_X11_drops_17, k_X11_drops_18, k_X11_drops_19, k_X11_drops_20, k_X11_drops_21, k_X11_drops_22, k_X11_drops_23, k_X11_drops_24, oE_some, Int.reduceToNat, Nat.reduceAdd, true_and, and_true, List.length_cons, List.length_nil, Option.toList_some, Option.toList_none, List.cons_append, List.nil_append, Nat.reduceLeDiff, Nat.le_refl, wdS_nil, wdS_i, wdS_l, wdS_r, wdS_n, wdS_s, g1, en, w32_nat bp, w32_nat bn, n1, cM h, m_isDrop d h hi hpn, c, zI_t, w10, iShl_1 p31, iOr_nat br pw, e1, ↓reduceIte]
        exact hnx
      | false =>
        rw [if_neg (by rw [c]; decide)] at hnx
        simp only [AW_k, AWk_1, x_iload_3, x_aload_0, x_aloads_0, x_getf, x_push_i, x_push_l, x_isub, x_icmp_ge, x_iload_2, x_iload_1, x_callv_3, x_if_eq, x_ishl, x_goto, x_ior, x_istore_2, x_iinc_3, unl_i, unl_l, unl_q, unl_r, unl_s, unl_n, k_X11_drops_4, k_X11_drops_5, k_X11_drops_6, k_X11_drops_7, k_X11_drops_8, k_X11_drops_9, k_X11_drops_10, k_X11_drops_11, k_X11_drops_12, k_X11_drops_13, k_X11_drops_14, k_X11_drops_15, k_X11_drops_16, k_X11_drops_17, k_X11_drops_18, k_X11_drops_19, k_X11_drops_20, k_X11_drops_21, k_X11_drops_22, k_X11_drops_23, k_X11_drops_24, oE_some, Int.reduceToNat, Nat.reduceAdd, true_and, and_true, List.length_cons, List.length_nil, Option.toList_some, Option.toList_none, List.cons_append, List.nil_append, Nat.reduceLeDiff, Nat.le_refl, wdS_nil, wdS_i, wdS_l, wdS_r, wdS_n, wdS_s, g1, en, w32_nat bp, w32_nat bn, n1, cM h, m_isDrop d h hi hpn, c, zI_f, w00, iOr_0 br, e1, ↓reduceIte]
        exact hnx
  rw [callD_k]; simp only [entL_i, entL_l, entL_q, entL_s, entL_nil, n_X11_drops, u_X11_drops, m_X11_drops, rep_2, List.cons_append, List.nil_append, List.append_nil, List.length_cons, List.length_nil, Nat.reduceAdd, true_and]
  simp only [AW_k, AWk_1, x_push_i, x_push_l, x_istore_2, x_istore_3, x_iload_3, unl_i, unl_l, unl_q, unl_r, unl_s, unl_n, k_X11_drops_0, k_X11_drops_1, k_X11_drops_2, k_X11_drops_3, k_X11_drops_4, oE_some, Int.reduceToNat, Nat.reduceAdd, true_and, and_true, List.length_cons, List.length_nil, Option.toList_some, Option.toList_none, List.cons_append, List.nil_append, Nat.reduceLeDiff, Nat.le_refl, wdS_nil, wdS_i, wdS_l, wdS_r, wdS_n, wdS_s]
  exact key (n - 1) 0 (Nat.zero_add _)
theorem trn_up (n i k : Nat) : trn n i (k + 1) = trn n i k * 10 + dg n (num n i) (n - 1 - k) := rfl
set_option maxHeartbeats 8000000 in
theorem m_turned (d : Nat) {hp : HP} {n i : Nat} (h : MK hp n) (hi : i < FC n) (R : PO) : callD (d + 2) 177 [mR 54, mI ((num n i : Nat) : Int)] hp R ↔ R (some (mI ((trn n i n : Nat) : Int))) hp := by
  have h1 := h.1.1
  have h6 := h.1.2
  have g1 := h.2.1
  have b := num_31 h1 h6 hi
  have key : ∀ (m k : Nat), k + m = n → (AWh (d + 1) [] 177 R 7 [some (mR 54), some (mI ((num n i : Nat) : Int)), some (mI ((trn n i k : Nat) : Int)), some (mI ((n : Int) - 1 - (k : Int)))] [] hp (0, 0) ↔ R (some (mI ((trn n i n : Nat) : Int))) hp) := by
    intro m
    induction m with
    | zero =>
      intro k hk
      have e : k = n := by omega
      subst e
      have e1 : (k : Int) - 1 - (k : Int) = -1 := by omega
      rw [e1]
      rw [AWh_k, k_X11_turned_7]
      simp only [AW_k, AWk_1, x_iload_3, x_if_lt, x_push_i, x_push_l, x_iload_2, x_imul, x_aload_0, x_aloads_0, x_iload_1, x_callv_3, x_iadd, x_istore_2, x_iinc_3, x_goto, x_ret, x_ret_i, x_ret_z, x_ret_l, x_ret_c, unl_i, unl_l, unl_q, unl_r, unl_s, unl_n, k_X11_turned_7, k_X11_turned_8, k_X11_turned_9, k_X11_turned_10, k_X11_turned_11, k_X11_turned_12, k_X11_turned_13, k_X11_turned_14, k_X11_turned_15, k_X11_turned_16, k_X11_turned_17, k_X11_turned_18, k_X11_turned_19, k_X11_turned_20, k_X11_turned_21, oE_some, Int.reduceToNat, Nat.reduceAdd, true_and, and_true, List.length_cons, List.length_nil, Option.toList_some, Option.toList_none, List.cons_append, List.nil_append, Nat.reduceLeDiff, Nat.le_refl, wdS_nil, wdS_i, wdS_l, wdS_r, wdS_n, wdS_s, wN, ↓reduceIte]
    | succ m ih =>
      intro k hk
      have hk2 : n - 1 - k < n := by omega
      have bk : n - 1 - k < 2147483648 := by omega
      have e1 : (n : Int) - 1 - (k : Int) = ((n - 1 - k : Nat) : Int) := by omega
      have e2 : ((n - 1 - k : Nat) : Int) + -1 = (n : Int) - 1 - ((k + 1 : Nat) : Int) := by omega
      have e3 : (10 : Int) * ((trn n i k : Nat) : Int) + ((dg n (num n i) (n - 1 - k) : Nat) : Int) = ((trn n i (k + 1) : Nat) : Int) := by rw [trn_up]; omega
      have hnx := ih (k + 1) (by omega)
      rw [e1]
      rw [AWh_k, k_X11_turned_7]
      simp only [AW_k, AWk_1, x_iload_3, x_if_lt, x_push_i, x_push_l, x_iload_2, x_imul, x_aload_0, x_aloads_0, x_iload_1, x_callv_3, x_iadd, x_istore_2, x_iinc_3, x_goto, unl_i, unl_l, unl_q, unl_r, unl_s, unl_n, k_X11_turned_7, k_X11_turned_8, k_X11_turned_9, k_X11_turned_10, k_X11_turned_11, k_X11_turned_12, k_X11_turned_13, k_X11_turned_14, k_X11_turned_15, k_X11_turned_16, k_X11_turned_17, k_X11_turned_18, k_X11_turned_19, oE_some, Int.reduceToNat, Nat.reduceAdd, true_and, and_true, List.length_cons, List.length_nil, Option.toList_some, Option.toList_none, List.cons_append, List.nil_append, Nat.reduceLeDiff, Nat.le_refl, wdS_nil, wdS_i, wdS_l, wdS_r, wdS_n, wdS_s, wI bk, cM h, m_digit d h hk2 b, e3, e2, ↓reduceIte]
      exact hnx
  have k0 := key n 0 (Nat.zero_add n)
  have e0 : (n : Int) - 1 - ((0 : Nat) : Int) = (n : Int) - 1 := by omega
  rw [e0] at k0
  rw [callD_k]; simp only [entL_i, entL_l, entL_q, entL_s, entL_nil, n_X11_turned, u_X11_turned, m_X11_turned, rep_2, List.cons_append, List.nil_append, List.append_nil, List.length_cons, List.length_nil, Nat.reduceAdd, true_and]
  simp only [AW_k, AWk_1, x_push_i, x_push_l, x_istore_2, x_aload_0, x_aloads_0, x_getf, x_isub, x_istore_3, x_iload_3, unl_i, unl_l, unl_q, unl_r, unl_s, unl_n, k_X11_turned_0, k_X11_turned_1, k_X11_turned_2, k_X11_turned_3, k_X11_turned_4, k_X11_turned_5, k_X11_turned_6, k_X11_turned_7, oE_some, Int.reduceToNat, Nat.reduceAdd, true_and, and_true, List.length_cons, List.length_nil, Option.toList_some, Option.toList_none, List.cons_append, List.nil_append, Nat.reduceLeDiff, Nat.le_refl, wdS_nil, wdS_i, wdS_l, wdS_r, wdS_n, wdS_s, g1]
  exact k0
def pl_b (n : Nat) : Bool := allB (fun i => allB (fun v => dg n (num n i) (plc n i (v + 1)) == v + 1) n && allB (fun p => (!(dg n (num n i) p == dg n (num n i) (p + 1))) && (dg n (num n (bs n i p)) (p + 1) == dg n (num n i) p && dg n (num n (bs n i p)) p == dg n (num n i) (p + 1))) (n - 1)) (FC n)
theorem pl_c : all6 pl_b = true := by decide +kernel
theorem pl_ok {n i v : Nat} (h1 : 1 ≤ n) (h6 : n ≤ 6) (hi : i < FC n) (v1 : 1 ≤ v) (vn : v ≤ n) : dg n (num n i) (plc n i v) = v := by
  have q := allB_of (all6_of pl_c h1 h6) i hi
  rw [Bool.and_eq_true] at q
  have := allB_of q.1 (v - 1) (by omega)
  rw [show v - 1 + 1 = v by omega] at this
  exact beq_iff_eq.mp this
theorem bs_dg {n i p : Nat} (h1 : 1 ≤ n) (h6 : n ≤ 6) (hi : i < FC n) (hp : p < n - 1) : dg n (num n i) p ≠ dg n (num n i) (p + 1) ∧ dg n (num n (bs n i p)) (p + 1) = dg n (num n i) p ∧ dg n (num n (bs n i p)) p = dg n (num n i) (p + 1) := by
  have q := allB_of (all6_of pl_c h1 h6) i hi
  rw [Bool.and_eq_true] at q
  have := allB_of q.2 p hp
  simp only [Bool.and_eq_true, Bool.not_eq_true', beq_eq_false_iff_ne, beq_iff_eq] at this
  exact this
theorem plc_no {n i v q : Nat} (h : q < plc n i v) : dg n (num n i) q ≠ v := by
  unfold plc at h
  split at h
  · next p e => exact of_decide_eq_false (fst_least e q (Nat.zero_le _) h)
  · next e => exact of_decide_eq_false (fst_none e q (Nat.zero_le _) (by omega))
set_option maxHeartbeats 8000000 in
theorem m_placeOf (d : Nat) {hp : HP} {n i v : Nat} (h : MK hp n) (hi : i < FC n) (v1 : 1 ≤ v) (vn : v ≤ n) (R : PO) : callD (d + 2) 180 [mR 54, mI ((num n i : Nat) : Int), mI (v : Int)] hp R ↔ R (some (mI ((plc n i v : Nat) : Int))) hp := by
  have h1 := h.1.1
  have h6 := h.1.2
  have b := num_31 h1 h6 hi
  have bv : v < 2147483648 := by omega
  have hpl := plc_lt (n := n) (i := i) (v := v) h1
  have key : ∀ (m p : Nat), p + m = plc n i v → (AWh (d + 1) [] 180 R 2 [some (mR 54), some (mI ((num n i : Nat) : Int)), some (mI (v : Int)), some (mI (p : Int))] [] hp (0, 0) ↔ R (some (mI ((plc n i v : Nat) : Int))) hp) := by
    intro m
    induction m with
    | zero =>
      intro p hp1
      have e : p = plc n i v := by omega
      subst e
      have eq0 := pl_ok h1 h6 hi v1 vn
      rw [AWh_k, k_X11_placeOf_2]
      simp only [AW_k, AWk_1, x_aload_0, x_aloads_0, x_iload_1, x_iload_3, x_callv_3, x_iload_2, x_icmp_eq, x_iinc_3, x_goto, x_ret, x_ret_i, x_ret_z, x_ret_l, x_ret_c, unl_i, unl_l, unl_q, unl_r, unl_s, unl_n, k_X11_placeOf_2, k_X11_placeOf_3, k_X11_placeOf_4, k_X11_placeOf_5, k_X11_placeOf_6, k_X11_placeOf_7, k_X11_placeOf_8, k_X11_placeOf_9, k_X11_placeOf_10, k_X11_placeOf_11, oE_some, Int.reduceToNat, Nat.reduceAdd, true_and, and_true, List.length_cons, List.length_nil, Option.toList_some, Option.toList_none, List.cons_append, List.nil_append, Nat.reduceLeDiff, Nat.le_refl, wdS_nil, wdS_i, wdS_l, wdS_r, wdS_n, wdS_s, cM h, m_digit d h hpl b, eq0, ↓reduceIte]
    | succ m ih =>
      intro p hp1
      have hpn : p < n := by omega
      have ne := plc_no (show p < plc n i v by omega)
      have e1 : (p : Int) + 1 = ((p + 1 : Nat) : Int) := by omega
      have n1 : (((dg n (num n i) p : Nat) : Int) = (v : Int)) = False := eq_false (by omega)
      have hnx := ih (p + 1) (by omega)
      rw [AWh_k, k_X11_placeOf_2]
      simp only [AW_k, AWk_1, x_aload_0, x_aloads_0, x_iload_1, x_iload_3, x_callv_3, x_iload_2, x_icmp_eq, x_iinc_3, x_goto, unl_i, unl_l, unl_q, unl_r, unl_s, unl_n, k_X11_placeOf_2, k_X11_placeOf_3, k_X11_placeOf_4, k_X11_placeOf_5, k_X11_placeOf_6, k_X11_placeOf_7, k_X11_placeOf_8, k_X11_placeOf_9, oE_some, Int.reduceToNat, Nat.reduceAdd, true_and, and_true, List.length_cons, List.length_nil, Option.toList_some, Option.toList_none, List.cons_append, List.nil_append, Nat.reduceLeDiff, Nat.le_refl, wdS_nil, wdS_i, wdS_l, wdS_r, wdS_n, wdS_s, cM h, m_digit d h hpn b, w32_nat (dg_31 n (num n i) p), w32_nat bv, n1, e1, ↓reduceIte]
      exact hnx
  rw [callD_k]; simp only [entL_i, entL_l, entL_q, entL_s, entL_nil, n_X11_placeOf, u_X11_placeOf, m_X11_placeOf, rep_1, List.cons_append, List.nil_append, List.append_nil, List.length_cons, List.length_nil, Nat.reduceAdd, true_and]
  simp only [AW_k, AWk_1, x_push_i, x_push_l, x_istore_3, x_aload_0, x_aloads_0, unl_i, unl_l, unl_q, unl_r, unl_s, unl_n, k_X11_placeOf_0, k_X11_placeOf_1, k_X11_placeOf_2, oE_some, Int.reduceToNat, Nat.reduceAdd, true_and, and_true, List.length_cons, List.length_nil, Option.toList_some, Option.toList_none, List.cons_append, List.nil_append, Nat.reduceLeDiff, Nat.le_refl, wdS_nil, wdS_i, wdS_l, wdS_r, wdS_n, wdS_s]
  exact key (plc n i v) 0 (Nat.zero_add _)
theorem jmR_up (n k i p : Nat) : jmR n (k + 1) i p = match psR n i p with
  | some q => jmR n k q (p + 1)
  | none => none := rfl
theorem jmL_up (n k i p : Nat) : jmL n (k + 1) i p = match psL n i p with
  | some q => jmL n k q (p - 1)
  | none => none := rfl
theorem jmR_out {n : Nat} : ∀ k i p, n ≤ p + k → p < n → jmR n k i p = none := by
  intro k
  induction k with
  | zero => intro i p h1 h2; omega
  | succ k ih =>
    intro i p h1 h2
    rw [jmR_up]
    cases e : psR n i p with
    | none => rfl
    | some q =>
      show jmR n k q (p + 1) = none
      have : p + 1 < n := by
        unfold psR at e
        split at e
        · next c => rw [Bool.and_eq_true, decide_eq_true_eq] at c; omega
        · cases e
      exact ih q (p + 1) (by omega) this
theorem jmL_out {n : Nat} : ∀ k i p, p < k → jmL n k i p = none := by
  intro k
  induction k with
  | zero => intro i p h1; omega
  | succ k ih =>
    intro i p h1
    rw [jmL_up]
    cases e : psL n i p with
    | none => rfl
    | some q =>
      show jmL n k q (p - 1) = none
      have : 1 ≤ p := by
        unfold psL at e
        split at e
        · next c => rw [Bool.and_eq_true, decide_eq_true_eq] at c; exact c.1
        · cases e
      exact ih q (p - 1) (by omega)
theorem psR_s {n i p : Nat} (hp : p < n - 1) (hd : dn n i p = true) : psR n i p = some (bs n i p) := by unfold psR; rw [if_pos (by rw [hd, decide_eq_true hp]; rfl)]
theorem psR_n {n i p : Nat} (hd : dn n i p = false) : psR n i p = none := by unfold psR; rw [if_neg (by rw [hd, Bool.and_false]; decide)]
theorem psL_s {n i p : Nat} (hp : 1 ≤ p) (hd : dn n i (p - 1) = false) : psL n i p = some (bs n i (p - 1)) := by unfold psL; rw [if_pos (by rw [hd, decide_eq_true hp]; rfl)]
theorem psL_n {n i p : Nat} (hd : dn n i (p - 1) = true) : psL n i p = none := by unfold psL; rw [if_neg (by rw [hd, Bool.not_true, Bool.and_false]; decide)]
theorem ofI_inj {a b : Nat} (ha : a < 2147483648) (hb : b < 2147483648) : (BitVec.ofInt 64 (w32 (a : Int)) = BitVec.ofInt 64 (b : Int)) = (a = b) := by
  apply propext
  constructor
  · intro e
    have := congrArg BitVec.toInt e
    rw [w32_nat ha, tI64 (by omega) (by omega), tI64 (by omega) (by omega)] at this
    omega
  · intro e; subst e; rw [w32_nat ha]
set_option maxHeartbeats 16000000 in
theorem mj_R (d : Nat) {hp : HP} {n v i0 : Nat} {w0 : Int} {p0 : Int} {R : PO} (h : MK hp n) (v1 : 1 ≤ v) (vn : v ≤ n) : ∀ (k j p t : Nat), p + k = t → t < n → j < FC n → dg n (num n j) p = v → (AWh (d + 2) [] 181 R 32 [some (mR 54), some (mI ((num n i0 : Nat) : Int)), some (mI (v : Int)), some (mI w0), some (mI p0), some (mL (BitVec.ofInt 64 (t : Int))), none, some (mI 1), some (mI ((num n j : Nat) : Int)), some (mI (p : Int))] [] hp (0, 0) ↔ R (some (mI (nuO n (jmR n k j p)))) hp) := by
  have h1 := h.1.1
  have h6 := h.1.2
  have bv : v < 2147483648 := by omega
  intro k
  induction k with
  | zero =>
    intro j p t hp1 ht hj hd
    have e : p = t := by omega
    subst e
    have bp : p < 2147483648 := by omega
    have n1 : (p = p) = True := eq_true rfl
    rw [AWh_k, k_X11_jumped_32]
    simp only [AW_k, AWk_1, x_iload_9, x_i2l, x_lload_5, x_lcmp, x_if_eq, x_aload_0, x_aloads_0, x_iload_8, x_iload_7, x_iadd, x_callv_3, x_iload_2, x_icmp_le, x_push_i, x_push_l, x_ret, x_ret_i, x_ret_z, x_ret_l, x_ret_c, x_if_le, x_goto, x_isub, x_istore_8, x_istore_9, unl_i, unl_l, unl_q, unl_r, unl_s, unl_n, k_X11_jumped_32, k_X11_jumped_33, k_X11_jumped_34, k_X11_jumped_35, k_X11_jumped_36, k_X11_jumped_37, k_X11_jumped_38, k_X11_jumped_39, k_X11_jumped_40, k_X11_jumped_41, k_X11_jumped_42, k_X11_jumped_43, k_X11_jumped_44, k_X11_jumped_45, k_X11_jumped_46, k_X11_jumped_47, k_X11_jumped_48, k_X11_jumped_49, k_X11_jumped_50, k_X11_jumped_51, k_X11_jumped_52, k_X11_jumped_53, k_X11_jumped_54, k_X11_jumped_55, k_X11_jumped_56, k_X11_jumped_57, k_X11_jumped_58, k_X11_jumped_59, k_X11_jumped_60, k_X11_jumped_61, k_X11_jumped_62, k_X11_jumped_63, k_X11_jumped_64, oE_some, Int.reduceToNat, Nat.reduceAdd, true_and, and_true, List.length_cons, List.length_nil, Option.toList_some, Option.toList_none, List.cons_append, List.nil_append, Nat.reduceLeDiff, Nat.le_refl, wdS_nil, wdS_i, wdS_l, wdS_r, wdS_n, wdS_s, lCmp_eq, ofI_inj bp bp, n1, ↓reduceIte]
    all_goals exact Iff.rfl
  | succ k ih =>
    intro j p t hp1 ht hj hd
    have bp : p < 2147483648 := by omega
    have bt : t < 2147483648 := by omega
    have hpn : p < n - 1 := by omega
    have hpn1 : p + 1 < n := by omega
    have n1 : (p = t) = False := eq_false (by omega)
    have e1 : (p : Int) + 1 = ((p + 1 : Nat) : Int) := by omega
    have b := num_31 h1 h6 hj
    obtain ⟨q1, q2, q3⟩ := bs_dg h1 h6 hj hpn
    have edn := dn_dg h1 h6 hj hpn
    have hb := bs_lt h1 h6 hj hpn
    have n01 : ((0 : Int) < 1) = True := eq_true (by decide)
    rw [jmR_up]
    by_cases c : v < dg n (num n j) (p + 1)
    · have n2 : ((v : Int) < ((dg n (num n j) (p + 1) : Nat) : Int)) = True := eq_true (by omega)
      have ed : dn n j p = false := by rw [edn]; exact decide_eq_false (by omega)
      rw [psR_n ed]
      rw [AWh_k, k_X11_jumped_32]
      simp only [AW_k, AWk_1, x_iload_9, x_i2l, x_lload_5, x_lcmp, x_if_eq, x_aload_0, x_aloads_0, x_iload_8, x_iload_7, x_iadd, x_callv_3, x_iload_2, x_icmp_le, x_push_i, x_push_l, x_ret, x_ret_i, x_ret_z, x_ret_l, x_ret_c, k_X11_jumped_32, k_X11_jumped_33, k_X11_jumped_34, k_X11_jumped_35, k_X11_jumped_36, k_X11_jumped_37, k_X11_jumped_38, k_X11_jumped_39, k_X11_jumped_40, k_X11_jumped_41, k_X11_jumped_42, k_X11_jumped_43, k_X11_jumped_44, k_X11_jumped_45, k_X11_jumped_46, oE_some, Int.reduceToNat, Nat.reduceAdd, true_and, and_true, List.length_cons, List.length_nil, Option.toList_some, Option.toList_none, List.cons_append, List.nil_append, Nat.reduceLeDiff, Nat.le_refl, wdS_nil, wdS_i, wdS_l, wdS_r, wdS_n, wdS_s, lCmp_eq, ofI_inj bp bt, n1, e1, cM h, m_digit (d + 1) h hpn1 b, w32_nat (dg_31 n (num n j) (p + 1)), w32_nat bv, n2, ↓reduceIte]
      all_goals exact Iff.rfl
    · have n2 : ((v : Int) < ((dg n (num n j) (p + 1) : Nat) : Int)) = False := eq_false (by omega)
      have ed : dn n j p = true := by rw [edn]; exact decide_eq_true (by omega)
      rw [psR_s hpn ed]
      have hnx := ih (bs n j p) (p + 1) t (by omega) ht (by omega) (by rw [q2, hd])
      rw [AWh_k, k_X11_jumped_32]
      simp only [AW_k, AWk_1, x_iload_9, x_i2l, x_lload_5, x_lcmp, x_if_eq, x_aload_0, x_aloads_0, x_iload_8, x_iload_7, x_iadd, x_callv_3, x_iload_2, x_icmp_le, x_push_i, x_push_l, x_ret, x_ret_i, x_ret_z, x_ret_l, x_ret_c, x_if_le, x_goto, x_isub, x_istore_8, x_istore_9, unl_i, unl_l, unl_q, unl_r, unl_s, unl_n, k_X11_jumped_32, k_X11_jumped_33, k_X11_jumped_34, k_X11_jumped_35, k_X11_jumped_36, k_X11_jumped_37, k_X11_jumped_38, k_X11_jumped_39, k_X11_jumped_40, k_X11_jumped_41, k_X11_jumped_42, k_X11_jumped_43, k_X11_jumped_44, k_X11_jumped_45, k_X11_jumped_46, k_X11_jumped_47, k_X11_jumped_48, k_X11_jumped_49, k_X11_jumped_50, k_X11_jumped_51, k_X11_jumped_52, k_X11_jumped_53, k_X11_jumped_54, k_X11_jumped_55, k_X11_jumped_56, k_X11_jumped_57, k_X11_jumped_58, k_X11_jumped_59, k_X11_jumped_60, k_X11_jumped_61, k_X11_jumped_62, oE_some, Int.reduceToNat, Nat.reduceAdd, true_and, and_true, List.length_cons, List.length_nil, Option.toList_some, Option.toList_none, List.cons_append, List.nil_append, Nat.reduceLeDiff, Nat.le_refl, wdS_nil, wdS_i, wdS_l, wdS_r, wdS_n, wdS_s, lCmp_eq, ofI_inj bp bt, n1, e1, cM h, m_digit (d + 1) h hpn1 b, w32_nat (dg_31 n (num n j) (p + 1)), w32_nat bv, n2, wz1, n01, m_swapAt d h hj hpn, ↓reduceIte]
      exact hnx
set_option maxHeartbeats 16000000 in
theorem mj_L (d : Nat) {hp : HP} {n v i0 : Nat} {w0 : Int} {p0 : Int} {R : PO} (h : MK hp n) (v1 : 1 ≤ v) (vn : v ≤ n) : ∀ (k j p t : Nat), t + k = p → p < n → j < FC n → dg n (num n j) p = v → (AWh (d + 2) [] 181 R 32 [some (mR 54), some (mI ((num n i0 : Nat) : Int)), some (mI (v : Int)), some (mI w0), some (mI p0), some (mL (BitVec.ofInt 64 (t : Int))), none, some (mI (-1)), some (mI ((num n j : Nat) : Int)), some (mI (p : Int))] [] hp (0, 0) ↔ R (some (mI (nuO n (jmL n k j p)))) hp) := by
  have h1 := h.1.1
  have h6 := h.1.2
  have bv : v < 2147483648 := by omega
  intro k
  induction k with
  | zero =>
    intro j p t hp1 ht hj hd
    have e : p = t := by omega
    subst e
    have bp : p < 2147483648 := by omega
    have n1 : (p = p) = True := eq_true rfl
    rw [AWh_k, k_X11_jumped_32]
    simp only [AW_k, AWk_1, x_iload_9, x_i2l, x_lload_5, x_lcmp, x_if_eq, x_aload_0, x_aloads_0, x_iload_8, x_iload_7, x_iadd, x_callv_3, x_iload_2, x_icmp_le, x_push_i, x_push_l, x_ret, x_ret_i, x_ret_z, x_ret_l, x_ret_c, x_if_le, x_goto, x_isub, x_istore_8, x_istore_9, unl_i, unl_l, unl_q, unl_r, unl_s, unl_n, k_X11_jumped_32, k_X11_jumped_33, k_X11_jumped_34, k_X11_jumped_35, k_X11_jumped_36, k_X11_jumped_37, k_X11_jumped_38, k_X11_jumped_39, k_X11_jumped_40, k_X11_jumped_41, k_X11_jumped_42, k_X11_jumped_43, k_X11_jumped_44, k_X11_jumped_45, k_X11_jumped_46, k_X11_jumped_47, k_X11_jumped_48, k_X11_jumped_49, k_X11_jumped_50, k_X11_jumped_51, k_X11_jumped_52, k_X11_jumped_53, k_X11_jumped_54, k_X11_jumped_55, k_X11_jumped_56, k_X11_jumped_57, k_X11_jumped_58, k_X11_jumped_59, k_X11_jumped_60, k_X11_jumped_61, k_X11_jumped_62, k_X11_jumped_63, k_X11_jumped_64, oE_some, Int.reduceToNat, Nat.reduceAdd, true_and, and_true, List.length_cons, List.length_nil, Option.toList_some, Option.toList_none, List.cons_append, List.nil_append, Nat.reduceLeDiff, Nat.le_refl, wdS_nil, wdS_i, wdS_l, wdS_r, wdS_n, wdS_s, lCmp_eq, ofI_inj bp bp, n1, ↓reduceIte]
    all_goals exact Iff.rfl
  | succ k ih =>
    intro j p t hp1 ht hj hd
    have bp : p < 2147483648 := by omega
    have bt : t < 2147483648 := by omega
    have hp0 : 1 ≤ p := by omega
    have hpn : p - 1 < n - 1 := by omega
    have hpn1 : p - 1 < n := by omega
    have n1 : (p = t) = False := eq_false (by omega)
    have e1 : (p : Int) + -1 = ((p - 1 : Nat) : Int) := by omega
    have e1' : (p : Int) - 1 = ((p - 1 : Nat) : Int) := by omega
    have b := num_31 h1 h6 hj
    obtain ⟨q1, q2, q3⟩ := bs_dg h1 h6 hj hpn
    have edn := dn_dg h1 h6 hj hpn
    have hb := bs_lt h1 h6 hj hpn
    have ep : p - 1 + 1 = p := by omega
    rw [ep] at q1 q2 q3 edn
    have n01 : ((0 : Int) < -1) = False := eq_false (by decide)
    have wm1 : w32 (-1) = -1 := rfl
    rw [jmL_up]
    by_cases c : v < dg n (num n j) (p - 1)
    · have n2 : ((v : Int) < ((dg n (num n j) (p - 1) : Nat) : Int)) = True := eq_true (by omega)
      have ed : dn n j (p - 1) = true := by rw [edn]; exact decide_eq_true (by omega)
      rw [psL_n ed]
      rw [AWh_k, k_X11_jumped_32]
      simp only [AW_k, AWk_1, x_iload_9, x_i2l, x_lload_5, x_lcmp, x_if_eq, x_aload_0, x_aloads_0, x_iload_8, x_iload_7, x_iadd, x_callv_3, x_iload_2, x_icmp_le, x_push_i, x_push_l, x_ret, x_ret_i, x_ret_z, x_ret_l, x_ret_c, k_X11_jumped_32, k_X11_jumped_33, k_X11_jumped_34, k_X11_jumped_35, k_X11_jumped_36, k_X11_jumped_37, k_X11_jumped_38, k_X11_jumped_39, k_X11_jumped_40, k_X11_jumped_41, k_X11_jumped_42, k_X11_jumped_43, k_X11_jumped_44, k_X11_jumped_45, k_X11_jumped_46, oE_some, Int.reduceToNat, Nat.reduceAdd, true_and, and_true, List.length_cons, List.length_nil, Option.toList_some, Option.toList_none, List.cons_append, List.nil_append, Nat.reduceLeDiff, Nat.le_refl, wdS_nil, wdS_i, wdS_l, wdS_r, wdS_n, wdS_s, lCmp_eq, ofI_inj bp bt, n1, e1, cM h, m_digit (d + 1) h hpn1 b, w32_nat (dg_31 n (num n j) (p - 1)), w32_nat bv, n2, ↓reduceIte]
      all_goals exact Iff.rfl
    · have n2 : ((v : Int) < ((dg n (num n j) (p - 1) : Nat) : Int)) = False := eq_false (by omega)
      have ed : dn n j (p - 1) = false := by rw [edn]; exact decide_eq_false (by omega)
      rw [psL_s hp0 ed]
      have hnx := ih (bs n j (p - 1)) (p - 1) t (by omega) (by omega) (by omega) (by rw [q3, hd])
      rw [AWh_k, k_X11_jumped_32]
      simp only [AW_k, AWk_1, x_iload_9, x_i2l, x_lload_5, x_lcmp, x_if_eq, x_aload_0, x_aloads_0, x_iload_8, x_iload_7, x_iadd, x_callv_3, x_iload_2, x_icmp_le, x_push_i, x_push_l, x_ret, x_ret_i, x_ret_z, x_ret_l, x_ret_c, x_if_le, x_goto, x_isub, x_istore_8, x_istore_9, unl_i, unl_l, unl_q, unl_r, unl_s, unl_n, k_X11_jumped_32, k_X11_jumped_33, k_X11_jumped_34, k_X11_jumped_35, k_X11_jumped_36, k_X11_jumped_37, k_X11_jumped_38, k_X11_jumped_39, k_X11_jumped_40, k_X11_jumped_41, k_X11_jumped_42, k_X11_jumped_43, k_X11_jumped_44, k_X11_jumped_45, k_X11_jumped_46, k_X11_jumped_47, k_X11_jumped_48, k_X11_jumped_49, k_X11_jumped_50, k_X11_jumped_51, k_X11_jumped_52, k_X11_jumped_53, k_X11_jumped_54, k_X11_jumped_55, k_X11_jumped_56, k_X11_jumped_57, k_X11_jumped_58, k_X11_jumped_59, k_X11_jumped_60, k_X11_jumped_61, k_X11_jumped_62, oE_some, Int.reduceToNat, Nat.reduceAdd, true_and, and_true, List.length_cons, List.length_nil, Option.toList_some, Option.toList_none, List.cons_append, List.nil_append, Nat.reduceLeDiff, Nat.le_refl, wdS_nil, wdS_i, wdS_l, wdS_r, wdS_n, wdS_s, lCmp_eq, ofI_inj bp bt, n1, e1, e1', cM h, m_digit (d + 1) h hpn1 b, w32_nat (dg_31 n (num n j) (p - 1)), w32_nat bv, n2, wm1, n01, m_swapAt d h hj hpn, ↓reduceIte]
      exact hnx
