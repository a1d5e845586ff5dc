/-! ===== the reference: its leaves, told of row numbers ===== -/
def PW : List Int := [1, 10, 100, 1000, 10000, 100000, 1000000]
def FW : List Int := [1, 1, 2, 6, 24, 120, 720]
/-- what the reference's leaves read -/
def MK (hp : HP) (n : Nat) : Prop := (1 ≤ n ∧ n ≤ 6) ∧ gF hp 54 11 0 = some (mI (n : Int)) ∧ gF hp 54 11 18 = some (mR 63) ∧ gF hp 54 11 19 = some (mR 64) ∧ gA hp 63 = some PW ∧ gA hp 64 = some FW
theorem PW_get {k : Nat} (h : k < 7) : PW.getD k 0 = ((10 ^ k : Nat) : Int) := by
  have : ∀ k, k < 7 → PW.getD k 0 = ((10 ^ k : Nat) : Int) := by decide +kernel
  exact this k h
theorem FW_get {k : Nat} (h : k < 7) : FW.getD k 0 = ((FC k : Nat) : Int) := by
  have : ∀ k, k < 7 → FW.getD k 0 = ((FC k : Nat) : Int) := by decide +kernel
  exact this k h
theorem PW_7 : PW.length = 7 := rfl
theorem FW_7 : FW.length = 7 := rfl
def inI (x y z : Int) : Bool := decide (y ≤ x ∧ x ≤ z)
set_option maxHeartbeats 4000000 in
theorem m_in (d : Nat) {hp : HP} {x y z : BitVec 64} (R : PO) : callD (d + 1) 158 [mL x, mL y, mL z] hp R ↔ R (some (mI (zI (inI x.toInt y.toInt z.toInt)))) hp := by
  rw [callD_k]; simp only [entL_i, entL_l, entL_q, entL_s, entL_nil, n_X11_in, u_X11_in, m_X11_in, rep_0, List.cons_append, List.nil_append, List.append_nil, List.length_cons, List.length_nil, Nat.reduceAdd, true_and]
  simp only [AW_k, AWk_1, x_lload_0, x_lload_2, x_lcmp, x_if_lt, x_lload_4, x_if_gt, x_push_i, x_push_l, x_goto, x_ret, x_ret_i, x_ret_z, x_ret_l, x_ret_c, k_X11_in_0, k_X11_in_1, k_X11_in_2, k_X11_in_3, k_X11_in_4, k_X11_in_5, k_X11_in_6, k_X11_in_7, k_X11_in_8, k_X11_in_9, k_X11_in_10, k_X11_in_11, oE_some, Int.reduceToNat, Nat.reduceAdd, true_and, and_true, List.length_cons, List.length_nil, Option.toList_some, Option.toList_none, List.cons_append, List.nil_append, Nat.reduceLeDiff, Nat.le_refl, wdS_nil, wdS_i, wdS_l, wdS_r, wdS_n, wdS_s, lCmp_lt, lCmp_gt]
  unfold inI
  by_cases h1 : x.toInt < y.toInt
  · rw [if_pos h1, decide_eq_false (by omega)]; exact ⟨fun q => q.2, fun q => ⟨Or.inl trivial, q⟩⟩
  · rw [if_neg h1]
    by_cases h2 : z.toInt < x.toInt
    · rw [if_pos h2, decide_eq_false (by omega)]; exact ⟨fun q => q.2, fun q => ⟨Or.inl trivial, q⟩⟩
    · rw [if_neg h2, decide_eq_true (by omega)]; exact ⟨fun q => q.2, fun q => ⟨Or.inr trivial, q⟩⟩
set_option maxHeartbeats 4000000 in
theorem m_has (d : Nat) {hp : HP} {s : BitVec 64} {k : Int} (R : PO) : callD (d + 1) 159 [mL s, mI k] hp R ↔ R (some (mI (zI (s.getLsbD (w32 k % 64).toNat)))) hp := by
  rw [callD_k]; simp only [entL_i, entL_l, entL_q, entL_s, entL_nil, n_X11_has, u_X11_has, m_X11_has, rep_0, List.cons_append, List.nil_append, List.append_nil, List.length_cons, List.length_nil, Nat.reduceAdd, true_and]
  simp only [AW_k, AWk_1, x_lload_0, x_iload_2, x_lushr, x_push_i, x_push_l, x_land, x_lcmp, x_if_ne, x_goto, x_ret, x_ret_i, x_ret_z, x_ret_l, x_ret_c, k_X11_has_0, k_X11_has_1, k_X11_has_2, k_X11_has_3, k_X11_has_4, k_X11_has_5, k_X11_has_6, k_X11_has_7, k_X11_has_8, k_X11_has_9, k_X11_has_10, k_X11_has_11, oE_some, Int.reduceToNat, Nat.reduceAdd, true_and, and_true, List.length_cons, List.length_nil, Option.toList_some, Option.toList_none, List.cons_append, List.nil_append, Nat.reduceLeDiff, Nat.le_refl, wdS_nil, wdS_i, wdS_l, wdS_r, wdS_n, wdS_s, lCmp_eq, shr_one]
  cases s.getLsbD (w32 k % 64).toNat
  · rw [if_neg (by decide)]; exact ⟨fun q => q.2, fun q => ⟨Or.inl trivial, q⟩⟩
  · rw [if_pos rfl]; exact ⟨fun q => q.2, fun q => ⟨Or.inr trivial, q⟩⟩
/-- the same of a small number -/
theorem m_hasK (d : Nat) {hp : HP} {s : BitVec 64} {k : Nat} (hk : k < 64) (R : PO) : callD (d + 1) 159 [mL s, mI (k : Int)] hp R ↔ R (some (mI (zI (s.getLsbD k)))) hp := by
  rw [m_has d R, sh_k hk]
set_option maxHeartbeats 4000000 in
theorem m_ones (d : Nat) {hp : HP} {s : BitVec 64} (R : PO) : callD (d + 2) 160 [mL s] hp R ↔ R (some (mI (popI s))) hp := by
  have key : ∀ (k j : Nat), j + k = 64 → (AWh (d + 1) [] 160 R 4 [some (mL s), none, some (mI (cnt (fun i => s.getLsbD i) j)), some (mI (j : Int))] [] hp (0, 0) ↔ R (some (mI (popI s))) hp) := by
    intro k
    induction k with
    | zero =>
      intro j hj
      have e : j = 64 := by omega
      subst e
      rw [AWh_k, k_X11_ones_4]
      simp only [AW_k, AWk_1, x_push_i, x_push_l, x_istore_2, x_istore_3, x_iload_3, x_icmp_ge, x_iload_2, x_lload_0, x_call_2, x_if_eq, x_goto, x_iadd, x_iinc_3, x_ret, x_ret_i, x_ret_z, x_ret_l, x_ret_c, unl_i, unl_l, unl_q, unl_r, unl_s, unl_n, k_X11_ones_0, k_X11_ones_1, k_X11_ones_2, k_X11_ones_3, k_X11_ones_4, k_X11_ones_5, k_X11_ones_6, k_X11_ones_7, k_X11_ones_8, k_X11_ones_9, k_X11_ones_10, k_X11_ones_11, k_X11_ones_12, k_X11_ones_13, k_X11_ones_14, k_X11_ones_15, k_X11_ones_16, k_X11_ones_17, k_X11_ones_18, k_X11_ones_19, k_X11_ones_20, oE_some, Int.reduceToNat, Nat.reduceAdd, true_and, and_true, List.length_cons, List.length_nil, Option.toList_some, Option.toList_none, List.cons_append, List.nil_append, Nat.reduceLeDiff, Nat.le_refl, wdS_nil, wdS_i, wdS_l, wdS_r, wdS_n, wdS_s, show w32 ((64 : Nat) : Int) = ((64 : Nat) : Int) from rfl, show w32 64 = 64 from rfl]
      rw [if_neg (by decide)]
      exact Iff.rfl
    | succ k ih =>
      intro j hj
      have bj : j < 2147483648 := by omega
      have n1 : ((j : Int) < 64) = True := eq_true (by omega)
      have e1 : (j : Int) + 1 = ((j + 1 : Nat) : Int) := by omega
      have hi := ih (j + 1) (by omega)
      rw [cnt_succ] at hi
      rw [AWh_k, k_X11_ones_4]
      simp only [AW_k, AWk_1, x_push_i, x_push_l, x_istore_2, x_istore_3, x_iload_3, x_icmp_ge, x_iload_2, x_lload_0, x_call_2, x_if_eq, x_goto, x_iadd, x_iinc_3, x_ret, x_ret_i, x_ret_z, x_ret_l, x_ret_c, unl_i, unl_l, unl_q, unl_r, unl_s, unl_n, k_X11_ones_0, k_X11_ones_1, k_X11_ones_2, k_X11_ones_3, k_X11_ones_4, k_X11_ones_5, k_X11_ones_6, k_X11_ones_7, k_X11_ones_8, k_X11_ones_9, k_X11_ones_10, k_X11_ones_11, k_X11_ones_12, k_X11_ones_13, k_X11_ones_14, k_X11_ones_15, k_X11_ones_16, k_X11_ones_17, k_X11_ones_18, k_X11_ones_19, k_X11_ones_20, oE_some, Int.reduceToNat, Nat.reduceAdd, true_and, and_true, List.length_cons, List.length_nil, Option.toList_some, Option.toList_none, List.cons_append, List.nil_append, Nat.reduceLeDiff, Nat.le_refl, wdS_nil, wdS_i, wdS_l, wdS_r, wdS_n, wdS_s, w32_nat bj, show w32 64 = 64 from rfl, n1, m_hasK d (show j < 64 by omega), wB, e1, ↓reduceIte]
      cases e : s.getLsbD j with
      | false => rw [e] at hi; rw [if_pos rfl]; exact hi
      | true => rw [e] at hi; rw [if_neg (by decide)]; exact hi
  rw [callD_k]; simp only [entL_i, entL_l, entL_q, entL_s, entL_nil, n_X11_ones, u_X11_ones, m_X11_ones, rep_2, List.cons_append, List.nil_append, List.append_nil, List.length_cons, List.length_nil, Nat.reduceAdd, true_and]
  simp only [AW_k, AWk_1, x_push_i, x_push_l, x_istore_2, x_istore_3, x_iload_3, x_icmp_ge, x_iload_2, x_lload_0, x_call_2, x_if_eq, x_goto, x_iadd, x_iinc_3, x_ret, x_ret_i, x_ret_z, x_ret_l, x_ret_c, unl_i, unl_l, unl_q, unl_r, unl_s, unl_n, k_X11_ones_0, k_X11_ones_1, k_X11_ones_2, k_X11_ones_3, k_X11_ones_4, k_X11_ones_5, k_X11_ones_6, k_X11_ones_7, k_X11_ones_8, k_X11_ones_9, k_X11_ones_10, k_X11_ones_11, k_X11_ones_12, k_X11_ones_13, k_X11_ones_14, k_X11_ones_15, k_X11_ones_16, k_X11_ones_17, k_X11_ones_18, k_X11_ones_19, k_X11_ones_20, oE_some, Int.reduceToNat, Nat.reduceAdd, true_and, and_true, List.length_cons, List.length_nil, Option.toList_some, Option.toList_none, List.cons_append, List.nil_append, Nat.reduceLeDiff, Nat.le_refl, wdS_nil, wdS_i, wdS_l, wdS_r, wdS_n, wdS_s]
  exact key 64 0 rfl
set_option maxHeartbeats 4000000 in
theorem m_digit (d : Nat) {hp : HP} {n r p : Nat} (h : MK hp n) (hp1 : p < n) (hr : r < 2147483648) (R : PO) : callD (d + 1) 161 [mR 54, mI (r : Int), mI (p : Int)] hp R ↔ R (some (mI ((dg n r p : Nat) : Int))) hp := by
  obtain ⟨⟨k1, k6⟩, h1, h2, -, h3, -⟩ := h
  have e1 : (n : Int) - 1 - (p : Int) = ((n - 1 - p : Nat) : Int) := by omega
  have hk : n - 1 - p < 7 := by omega
  have bk : n - 1 - p < 2147483648 := by omega
  have hb : inB ((n - 1 - p : Nat) : Int) PW.length := inB_n hk (by decide)
  have hpos : 0 < 10 ^ (n - 1 - p) := Nat.pow_pos (by decide)
  have hlt : 10 ^ (n - 1 - p) < 2147483648 := Nat.lt_of_le_of_lt (Nat.pow_le_pow_right (n := 10) (j := 6) (by decide) (by omega)) (by decide)
  have hq : r / 10 ^ (n - 1 - p) < 2147483648 := Nat.lt_of_le_of_lt (Nat.div_le_self _ _) hr
  have ed : Int.tdiv (w32 (r : Int)) (w32 ((10 ^ (n - 1 - p) : Nat) : Int)) = ((r / 10 ^ (n - 1 - p) : Nat) : Int) := w_div hr hlt
  have em : Int.tmod (w32 ((r / 10 ^ (n - 1 - p) : Nat) : Int)) (w32 10) = ((r / 10 ^ (n - 1 - p) % 10 : Nat) : Int) := w_mod (b := 10) hq (by decide)
  have wn := w_ne hpos hlt
  rw [callD_k]; simp only [entL_i, entL_l, entL_q, entL_s, entL_nil, n_X11_digit, u_X11_digit, m_X11_digit, rep_0, List.cons_append, List.nil_append, List.append_nil, List.length_cons, List.length_nil, Nat.reduceAdd, true_and]
  simp only [AW_k, AWk_1, x_iload_1, x_aload_0, x_aloads_0, x_getf, x_push_i, x_push_l, x_isub, x_iload_2, x_iald, x_ialds, x_idiv, x_irem, x_ret, x_ret_i, x_ret_z, x_ret_l, x_ret_c, k_X11_digit_0, k_X11_digit_1, k_X11_digit_2, k_X11_digit_3, k_X11_digit_4, k_X11_digit_5, k_X11_digit_6, k_X11_digit_7, k_X11_digit_8, k_X11_digit_9, k_X11_digit_10, k_X11_digit_11, k_X11_digit_12, k_X11_digit_13, oE_some, Int.reduceToNat, Nat.reduceAdd, true_and, and_true, List.length_cons, List.length_nil, Option.toList_some, Option.toList_none, List.cons_append, List.nil_append, Nat.reduceLeDiff, Nat.le_refl, wdS_nil, wdS_i, wdS_l, wdS_r, wdS_n, wdS_s, h1, h2, h3, e1, hb, w32_tn bk, PW_get hk, ed, em, wn, show ¬ w32 10 = 0 by decide, not_false_eq_true]
  exact Iff.rfl
theorem dg_9 (n r p : Nat) : dg n r p < 10 := Nat.mod_lt _ (by decide)
theorem dg_31 (n r p : Nat) : dg n r p < 2147483648 := Nat.lt_trans (dg_9 n r p) (by decide)
theorem cM {hp : HP} {n : Nat} (h : MK hp n) : gC hp 54 = some 11 := gC_of h.2.1
set_option maxHeartbeats 4000000 in
theorem m_isDrop (d : Nat) {hp : HP} {n i p : Nat} (h : MK hp n) (hi : i < FC n) (hp1 : p < n - 1) (R : PO) : callD (d + 2) 165 [mR 54, mI ((num n i : Nat) : Int), mI (p : Int)] hp R ↔ R (some (mI (zI (dn n i p)))) hp := by
  have b := num_31 h.1.1 h.1.2 hi
  have e1 : (p : Int) + 1 = ((p + 1 : Nat) : Int) := rfl
  have ed := dn_dg h.1.1 h.1.2 hi hp1
  rw [callD_k]; simp only [entL_i, entL_l, entL_q, entL_s, entL_nil, n_X11_isDrop, u_X11_isDrop, m_X11_isDrop, rep_0, List.cons_append, List.nil_append, List.append_nil, List.length_cons, List.length_nil, Nat.reduceAdd, true_and]
  simp only [AW_k, AWk_1, x_aload_0, x_aloads_0, x_iload_1, x_iload_2, x_callv_3, x_push_i, x_push_l, x_iadd, x_icmp_le, x_goto, x_ret, x_ret_i, x_ret_z, x_ret_l, x_ret_c, k_X11_isDrop_0, k_X11_isDrop_1, k_X11_isDrop_2, k_X11_isDrop_3, k_X11_isDrop_4, k_X11_isDrop_5, k_X11_isDrop_6, k_X11_isDrop_7, k_X11_isDrop_8, k_X11_isDrop_9, k_X11_isDrop_10, k_X11_isDrop_11, k_X11_isDrop_12, k_X11_isDrop_13, k_X11_isDrop_14, oE_some, Int.reduceToNat, Nat.reduceAdd, true_and, and_true, List.length_cons, List.length_nil, Option.toList_some, Option.toList_none, List.cons_append, List.nil_append, Nat.reduceLeDiff, Nat.le_refl, wdS_nil, wdS_i, wdS_l, wdS_r, wdS_n, wdS_s, cM h, e1, m_digit d h (show p + 1 < n by omega) b, m_digit d h (show p < n by omega) b, w32_nat (dg_31 n (num n i) p), w32_nat (dg_31 n (num n i) (p + 1))]
  rw [ed]
  by_cases c : dg n (num n i) (p + 1) < dg n (num n i) p
  · rw [if_pos (by omega), decide_eq_true c]; exact ⟨fun q => q.2, fun q => ⟨Or.inr trivial, q⟩⟩
  · rw [if_neg (by omega), decide_eq_false c]; exact ⟨fun q => q.2, fun q => ⟨Or.inl trivial, q⟩⟩
set_option maxHeartbeats 4000000 in
theorem m_swapAt (d : Nat) {hp : HP} {n i p : Nat} (h : MK hp n) (hi : i < FC n) (hp1 : p < n - 1) (R : PO) : callD (d + 2) 164 [mR 54, mI ((num n i : Nat) : Int), mI (p : Int)] hp R ↔ R (some (mI ((num n (bs n i p) : Nat) : Int))) hp := by
  have b := num_31 h.1.1 h.1.2 hi
  have g1 := h.2.1
  have g2 := h.2.2.1
  have g3 := h.2.2.2.2.1
  have h6 := h.1.2
  have e1 : (p : Int) + 1 = ((p + 1 : Nat) : Int) := rfl
  have e2 : (n : Int) - 1 - (p : Int) = ((n - 1 - p : Nat) : Int) := by omega
  have e3 : (n : Int) - 2 - (p : Int) = ((n - 2 - p : Nat) : Int) := by omega
  have k1 : n - 1 - p < 7 := by omega
  have k2 : n - 2 - p < 7 := by omega
  have b1 : n - 1 - p < 2147483648 := by omega
  have b2 : n - 2 - p < 2147483648 := by omega
  have i1 : inB ((n - 1 - p : Nat) : Int) PW.length := inB_n k1 (by decide)
  have i2 : inB ((n - 2 - p : Nat) : Int) PW.length := inB_n k2 (by decide)
  have ep := bs_num h.1.1 h.1.2 hi hp1
  have hle : 10 ^ (n - 2 - p) ≤ 10 ^ (n - 1 - p) := Nat.pow_le_pow_right (by decide) (by omega)
  have eA : ((num n i : Nat) : Int) + (((dg n (num n i) (p + 1) : Nat) : Int) - ((dg n (num n i) p : Nat) : Int)) * (((10 ^ (n - 1 - p) : Nat) : Int) - ((10 ^ (n - 2 - p) : Nat) : Int)) = ((num n (bs n i p) : Nat) : Int) := by
    have es : (((10 ^ (n - 1 - p) : Nat) : Int) - ((10 ^ (n - 2 - p) : Nat) : Int)) = ((10 ^ (n - 1 - p) - 10 ^ (n - 2 - p) : Nat) : Int) := by omega
    rw [es, Int.sub_mul, ← Int.natCast_mul, ← Int.natCast_mul]
    omega
  rw [callD_k]; simp only [entL_i, entL_l, entL_q, entL_s, entL_nil, n_X11_swapAt, u_X11_swapAt, m_X11_swapAt, rep_0, List.cons_append, List.nil_append, List.append_nil, List.length_cons, List.length_nil, Nat.reduceAdd, true_and]
  simp only [AW_k, AWk_1, x_iload_1, x_aload_0, x_aloads_0, x_iload_2, x_push_i, x_push_l, x_iadd, x_callv_3, x_isub, x_getf, x_iald, x_ialds, x_imul, x_ret, x_ret_i, x_ret_z, x_ret_l, x_ret_c, k_X11_swapAt_0, k_X11_swapAt_1, k_X11_swapAt_2, k_X11_swapAt_3, k_X11_swapAt_4, k_X11_swapAt_5, k_X11_swapAt_6, k_X11_swapAt_7, k_X11_swapAt_8, k_X11_swapAt_9, k_X11_swapAt_10, k_X11_swapAt_11, k_X11_swapAt_12, k_X11_swapAt_13, k_X11_swapAt_14, k_X11_swapAt_15, k_X11_swapAt_16, k_X11_swapAt_17, k_X11_swapAt_18, k_X11_swapAt_19, k_X11_swapAt_20, k_X11_swapAt_21, k_X11_swapAt_22, k_X11_swapAt_23, k_X11_swapAt_24, k_X11_swapAt_25, k_X11_swapAt_26, k_X11_swapAt_27, k_X11_swapAt_28, k_X11_swapAt_29, k_X11_swapAt_30, k_X11_swapAt_31, k_X11_swapAt_32, k_X11_swapAt_33, oE_some, Int.reduceToNat, Nat.reduceAdd, true_and, and_true, List.length_cons, List.length_nil, Option.toList_some, Option.toList_none, List.cons_append, List.nil_append, Nat.reduceLeDiff, Nat.le_refl, wdS_nil, wdS_i, wdS_l, wdS_r, wdS_n, wdS_s, cM h, e1, m_digit d h (show p + 1 < n by omega) b, m_digit d h (show p < n by omega) b, g1, g2, g3, e2, e3, i1, i2, w32_tn b1, w32_tn b2, PW_get k1, PW_get k2, eA]
