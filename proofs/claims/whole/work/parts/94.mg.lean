/-! ===== the reference's own methods: rows, jumps ===== -/
theorem q0_I : (0#64).toInt = 0 := rfl
theorem q1_I : (1#64).toInt = 1 := by decide
theorem q2_I : (2#64).toInt = 2 := by decide
theorem q3_I : (3#64).toInt = 3 := by decide
theorem tI_nat {k : Nat} (h : k < 2147483648) : (BitVec.ofInt 64 (w32 (k : Int))).toInt = (k : Int) := by rw [tI_w32, w32_nat h]
theorem tI_id {x : Int} (h : w32 x = x) : (BitVec.ofInt 64 (w32 x)).toInt = x := by rw [tI_w32, h]
theorem add64 {p : Nat} {w : Int} (hp : p < 2147483648) (hw : w32 w = w) : BitVec.ofInt 64 (w32 (p : Int)) + BitVec.ofInt 64 (w32 w) = BitVec.ofInt 64 ((p : Int) + w) := by
  rw [hw, w32_nat hp, ← BitVec.ofInt_add]
theorem tI_sum {p : Nat} {w : Int} (hp : p < 2147483648) (hw : w32 w = w) : (BitVec.ofInt 64 ((p : Int) + w)).toInt = (p : Int) + w := by
  have := w32_in w
  rw [hw] at this
  clear hw
  exact tI64 (by omega) (by omega)
def jmX (n v : Nat) (w : Int) (i : Nat) : Int := if -(n : Int) < w ∧ w < (n : Int) then nuO n (jmW n i v w) else -3
theorem jmX_out {n i v : Nat} {w : Int} (h1 : 1 ≤ n) (h : ¬ (0 ≤ ((plc n i v : Nat) : Int) + w ∧ ((plc n i v : Nat) : Int) + w ≤ (n : Int) - 1)) : jmX n v w i = -3 := by
  have hp := plc_lt (n := n) (i := i) (v := v) h1
  unfold jmX
  by_cases c : -(n : Int) < w ∧ w < (n : Int)
  · rw [if_pos c]
    unfold jmW
    by_cases c2 : 0 ≤ w
    · rw [if_pos c2, jmR_out _ _ _ (by omega) hp]; rfl
    · rw [if_neg c2, jmL_out _ _ _ (by omega)]; rfl
  · rw [if_neg c]
set_option maxHeartbeats 16000000 in
theorem m_jumped (d : Nat) {hp : HP} {n i v : Nat} {w : Int} (h : MK hp n) (hi : i < FC n) (v1 : 1 ≤ v) (vn : v ≤ n) (hw : w32 w = w) (R : PO) : callD (d + 3) 181 [mR 54, mI ((num n i : Nat) : Int), mI (v : Int), mI w] hp R ↔ R (some (mI (jmX n v w i))) hp := by
  have h1 := h.1.1
  have h6 := h.1.2
  have g1 := h.2.1
  have hp1 := plc_lt (n := n) (i := i) (v := v) h1
  obtain ⟨p, ep⟩ : ∃ p, plc n i v = p := ⟨_, rfl⟩
  have dp : dg n (num n i) p = v := by rw [← ep]; exact pl_ok h1 h6 hi v1 vn
  have out := jmX_out (n := n) (i := i) (v := v) (w := w) h1
  have mp := m_placeOf d h hi v1 vn
  rw [ep] at hp1 out mp
  have bp : p < 2147483648 := by omega
  have en : (n : Int) - 1 = ((n - 1 : Nat) : Int) := by omega
  have bn : n - 1 < 2147483648 := by omega
  by_cases c : 0 ≤ (p : Int) + w ∧ (p : Int) + w ≤ (n : Int) - 1
  · have ci : inI ((p : Int) + w) 0 ((n - 1 : Nat) : Int) = true := decide_eq_true (by omega)
    by_cases c2 : 0 < w
    · obtain ⟨k, ek⟩ : ∃ k : Nat, w = (k : Int) := ⟨w.toNat, by omega⟩
      subst ek
      have et2 : (p : Int) + (k : Int) = ((p + k : Nat) : Int) := by omega
      have ea : jmX n v (k : Int) i = nuO n (jmR n k i p) := by
        unfold jmX jmW
        rw [if_pos (by omega), if_pos (by omega), ep, Int.toNat_natCast]
      have n2 : ((0 : Int) < (k : Int)) = True := eq_true c2
      have hl := mj_R d (hp := hp) (i0 := i) (w0 := (k : Int)) (p0 := (p : Int)) (R := R) h v1 vn k i p (p + k) rfl (by omega) hi dp
      rw [ea]
      have es := add64 bp hw
      have et := tI_sum bp hw
      rw [hw] at es
      rw [et2] at es et ci
      rw [callD_k]; simp only [entL_i, entL_l, entL_q, entL_s, entL_nil, n_X11_jumped, u_X11_jumped, m_X11_jumped, rep_6, List.cons_append, List.nil_append, List.append_nil, List.length_cons, List.length_nil, Nat.reduceAdd, true_and]
      simp only [AW_k, AWk_1, x_aload_0, x_aloads_0, x_iload_1, x_iload_2, x_callv_3, x_istore_4, x_iload_4, x_i2l, x_iload_3, x_ladd, x_lstore_5, x_lload_5, x_push_i, x_push_l, x_getf, x_isub, x_call_3, x_if_ne, x_ret, x_ret_i, x_ret_z, x_ret_l, x_ret_c, x_if_le, x_goto, x_istore_7, x_istore_8, x_istore_9, x_iload_9, unl_i, unl_l, unl_q, unl_r, unl_s, unl_n, k_X11_jumped_0, k_X11_jumped_1, k_X11_jumped_2, k_X11_jumped_3, k_X11_jumped_4, k_X11_jumped_5, k_X11_jumped_6, k_X11_jumped_7, k_X11_jumped_8, k_X11_jumped_9, k_X11_jumped_10, k_X11_jumped_11, k_X11_jumped_12, k_X11_jumped_13, k_X11_jumped_14, k_X11_jumped_15, k_X11_jumped_16, k_X11_jumped_17, k_X11_jumped_18, k_X11_jumped_19, k_X11_jumped_20, k_X11_jumped_21, k_X11_jumped_22, k_X11_jumped_23, k_X11_jumped_24, k_X11_jumped_25, k_X11_jumped_26, k_X11_jumped_27, k_X11_jumped_28, k_X11_jumped_29, k_X11_jumped_30, k_X11_jumped_31, k_X11_jumped_32, oE_some, Int.reduceToNat, Nat.reduceAdd, true_and, and_true, List.length_cons, List.length_nil, Option.toList_some, Option.toList_none, List.cons_append, List.nil_append, Nat.reduceLeDiff, Nat.le_refl, wdS_nil, wdS_i, wdS_l, wdS_r, wdS_n, wdS_s, cM h, mp, es, g1, en, m_in (d + 1), et, tI_nat bn, q0_I, ci, zI_t, w10, hw, n2, ↓reduceIte]
      exact hl
    · obtain ⟨k, ek⟩ : ∃ k : Nat, w = -(k : Int) := ⟨(-w).toNat, by omega⟩
      subst ek
      have et2 : (p : Int) + -(k : Int) = ((p - k : Nat) : Int) := by omega
      have hk : p - k + k = p := by omega
      have ea : jmX n v (-(k : Int)) i = nuO n (jmL n k i p) := by
        unfold jmX jmW
        rw [if_pos (by omega), ep]
        by_cases k0 : k = 0
        · subst k0
          rw [if_pos (by omega)]
          rfl
        · rw [if_neg (by omega), show (-(-(k : Int))).toNat = k by omega]
      have n2 : ((0 : Int) < -(k : Int)) = False := eq_false c2
      have hl := mj_L d (hp := hp) (i0 := i) (w0 := -(k : Int)) (p0 := (p : Int)) (R := R) h v1 vn k i p (p - k) hk hp1 hi dp
      rw [ea]
      have es := add64 bp hw
      have et := tI_sum bp hw
      rw [hw] at es
      rw [et2] at es et ci
      rw [callD_k]; simp only [entL_i, entL_l, entL_q, entL_s, entL_nil, n_X11_jumped, u_X11_jumped, m_X11_jumped, rep_6, List.cons_append, List.nil_append, List.append_nil, List.length_cons, List.length_nil, Nat.reduceAdd, true_and]
      simp only [AW_k, AWk_1, x_aload_0, x_aloads_0, x_iload_1, x_iload_2, x_callv_3, x_istore_4, x_iload_4, x_i2l, x_iload_3, x_ladd, x_lstore_5, x_lload_5, x_push_i, x_push_l, x_getf, x_isub, x_call_3, x_if_ne, x_ret, x_ret_i, x_ret_z, x_ret_l, x_ret_c, x_if_le, x_goto, x_istore_7, x_istore_8, x_istore_9, x_iload_9, unl_i, unl_l, unl_q, unl_r, unl_s, unl_n, k_X11_jumped_0, k_X11_jumped_1, k_X11_jumped_2, k_X11_jumped_3, k_X11_jumped_4, k_X11_jumped_5, k_X11_jumped_6, k_X11_jumped_7, k_X11_jumped_8, k_X11_jumped_9, k_X11_jumped_10, k_X11_jumped_11, k_X11_jumped_12, k_X11_jumped_13, k_X11_jumped_14, k_X11_jumped_15, k_X11_jumped_16, k_X11_jumped_17, k_X11_jumped_18, k_X11_jumped_19, k_X11_jumped_20, k_X11_jumped_21, k_X11_jumped_22, k_X11_jumped_23, k_X11_jumped_24, k_X11_jumped_25, k_X11_jumped_26, k_X11_jumped_27, k_X11_jumped_28, k_X11_jumped_29, k_X11_jumped_30, k_X11_jumped_31, k_X11_jumped_32, oE_some, Int.reduceToNat, Nat.reduceAdd, true_and, and_true, List.length_cons, List.length_nil, Option.toList_some, Option.toList_none, List.cons_append, List.nil_append, Nat.reduceLeDiff, Nat.le_refl, wdS_nil, wdS_i, wdS_l, wdS_r, wdS_n, wdS_s, cM h, mp, es, g1, en, m_in (d + 1), et, tI_nat bn, q0_I, ci, zI_t, w10, hw, n2, ↓reduceIte]
      exact hl
  · have ci : inI ((p : Int) + w) 0 ((n - 1 : Nat) : Int) = false := decide_eq_false (by omega)
    rw [out c]
    rw [callD_k]; simp only [entL_i, entL_l, entL_q, entL_s, entL_nil, n_X11_jumped, u_X11_jumped, m_X11_jumped, rep_6, List.cons_append, List.nil_append, List.append_nil, List.length_cons, List.length_nil, Nat.reduceAdd, true_and]
    simp only [AW_k, AWk_1, x_aload_0, x_aloads_0, x_iload_1, x_iload_2, x_callv_3, x_istore_4, x_iload_4, x_i2l, x_iload_3, x_ladd, x_lstore_5, x_lload_5, x_push_i, x_push_l, x_getf, x_isub, x_call_3, x_if_ne, x_ret, x_ret_i, x_ret_z, x_ret_l, x_ret_c, unl_i, unl_l, unl_q, unl_r, unl_s, unl_n, k_X11_jumped_0, k_X11_jumped_1, k_X11_jumped_2, k_X11_jumped_3, k_X11_jumped_4, k_X11_jumped_5, k_X11_jumped_6, k_X11_jumped_7, k_X11_jumped_8, k_X11_jumped_9, k_X11_jumped_10, k_X11_jumped_11, k_X11_jumped_12, k_X11_jumped_13, k_X11_jumped_14, k_X11_jumped_15, k_X11_jumped_16, k_X11_jumped_17, k_X11_jumped_18, k_X11_jumped_19, k_X11_jumped_20, k_X11_jumped_21, oE_some, Int.reduceToNat, Nat.reduceAdd, true_and, and_true, List.length_cons, List.length_nil, Option.toList_some, Option.toList_none, List.cons_append, List.nil_append, Nat.reduceLeDiff, Nat.le_refl, wdS_nil, wdS_i, wdS_l, wdS_r, wdS_n, wdS_s, cM h, mp, add64 bp hw, g1, en, m_in (d + 1), tI_sum bp hw, tI_nat bn, q0_I, ci, zI_f, w00, ↓reduceIte]
theorem areT {n i j : Nat} {x y : Int} (ex : ixo n x = some i) (ey : ixo n y = some j) : ((ixo n x).isSome && (ixo n y).isSome) = true := by rw [ex, ey]; rfl
theorem areN {n : Nat} {x y : Int} (ex : ixo n x = none) : ((ixo n x).isSome && (ixo n y).isSome) = false := by rw [ex]; rfl
theorem areM {n i : Nat} {x y : Int} (ex : ixo n x = some i) (ey : ixo n y = none) : ((ixo n x).isSome && (ixo n y).isSome) = false := by rw [ex, ey]; rfl
theorem m_below (d : Nat) {hp : HP} {n : Nat} {x y : Int} (h : MK hp n) (hx : w32 x = x) (hy : w32 y = y) (R : PO) : callD (d + 100) 173 [mR 54, mI x, mI y] hp R ↔ R (some (mI (an2 n x y (fun i j => zI (blw n i j))))) hp := by
  cases ex : ixo n x with
  | none =>
    rw [an2_n ex]
    rw [callD_k]; simp only [entL_i, entL_l, entL_q, entL_s, entL_nil, n_X11_below, u_X11_below, m_X11_below, rep_0, List.cons_append, List.nil_append, List.append_nil, List.length_cons, List.length_nil, Nat.reduceAdd, true_and]
    simp only [AW_k, AWk_1, x_aload_0, x_aloads_0, x_iload_1, x_iload_2, x_callv_3, x_if_ne, x_push_i, x_push_l, x_goto, x_if_eq, x_ret, x_ret_i, x_ret_z, x_ret_l, x_ret_c, k_X11_below_0, k_X11_below_1, k_X11_below_2, k_X11_below_3, k_X11_below_4, k_X11_below_5, k_X11_below_6, k_X11_below_7, k_X11_below_8, k_X11_below_9, k_X11_below_10, k_X11_below_11, k_X11_below_12, k_X11_below_13, k_X11_below_14, k_X11_below_15, oE_some, Int.reduceToNat, Nat.reduceAdd, true_and, and_true, List.length_cons, List.length_nil, Option.toList_some, Option.toList_none, List.cons_append, List.nil_append, Nat.reduceLeDiff, Nat.le_refl, wdS_nil, wdS_i, wdS_l, wdS_r, wdS_n, wdS_s, cM h, m_areRows (d + 96) h hx hy, areN ex, zI_f, w00, ↓reduceIte]
  | some i =>
    have hi := ixo_lt ex
    have exn := ixo_num ex
    cases ey : ixo n y with
    | none =>
      rw [an2_m ex ey]
      rw [callD_k]; simp only [entL_i, entL_l, entL_q, entL_s, entL_nil, n_X11_below, u_X11_below, m_X11_below, rep_0, List.cons_append, List.nil_append, List.append_nil, List.length_cons, List.length_nil, Nat.reduceAdd, true_and]
      simp only [AW_k, AWk_1, x_aload_0, x_aloads_0, x_iload_1, x_iload_2, x_callv_3, x_if_ne, x_push_i, x_push_l, x_goto, x_if_eq, x_ret, x_ret_i, x_ret_z, x_ret_l, x_ret_c, k_X11_below_0, k_X11_below_1, k_X11_below_2, k_X11_below_3, k_X11_below_4, k_X11_below_5, k_X11_below_6, k_X11_below_7, k_X11_below_8, k_X11_below_9, k_X11_below_10, k_X11_below_11, k_X11_below_12, k_X11_below_13, k_X11_below_14, k_X11_below_15, oE_some, Int.reduceToNat, Nat.reduceAdd, true_and, and_true, List.length_cons, List.length_nil, Option.toList_some, Option.toList_none, List.cons_append, List.nil_append, Nat.reduceLeDiff, Nat.le_refl, wdS_nil, wdS_i, wdS_l, wdS_r, wdS_n, wdS_s, cM h, m_areRows (d + 96) h hx hy, areM ex ey, zI_f, w00, ↓reduceIte]
    | some j =>
      have hj := ixo_lt ey
      have eyn := ixo_num ey
      rw [an2_s ex ey]
      have mb := fun R => m_isBelow (d + 96) h hi hj R
      rw [exn, eyn] at mb
      rw [callD_k]; simp only [entL_i, entL_l, entL_q, entL_s, entL_nil, n_X11_below, u_X11_below, m_X11_below, rep_0, List.cons_append, List.nil_append, List.append_nil, List.length_cons, List.length_nil, Nat.reduceAdd, true_and]
      simp only [AW_k, AWk_1, x_aload_0, x_aloads_0, x_iload_1, x_iload_2, x_callv_3, x_if_ne, x_push_i, x_push_l, x_goto, x_if_eq, x_ret, x_ret_i, x_ret_z, x_ret_l, x_ret_c, k_X11_below_0, k_X11_below_1, k_X11_below_2, k_X11_below_3, k_X11_below_4, k_X11_below_5, k_X11_below_6, k_X11_below_7, k_X11_below_8, k_X11_below_9, k_X11_below_10, k_X11_below_11, k_X11_below_12, k_X11_below_13, k_X11_below_14, k_X11_below_15, oE_some, Int.reduceToNat, Nat.reduceAdd, true_and, and_true, List.length_cons, List.length_nil, Option.toList_some, Option.toList_none, List.cons_append, List.nil_append, Nat.reduceLeDiff, Nat.le_refl, wdS_nil, wdS_i, wdS_l, wdS_r, wdS_n, wdS_s, cM h, m_areRows (d + 96) h hx hy, areT ex ey, zI_t, w10, mb, wB, ↓reduceIte]
      cases blw n i j <;> exact Iff.rfl
theorem m_of (d : Nat) {hp : HP} {n : Nat} {x w : Int} (h : MK hp n) (hx : w32 x = x) (hw : w32 w = w) (R : PO) : callD (d + 100) 178 [mR 54, mI x, mI w] hp R ↔ R (some (mI (an1 n x (ofW n w)))) hp := by
  cases ex : ixo n x with
  | none =>
    rw [an1_n ex]
    rw [callD_k]; simp only [entL_i, entL_l, entL_q, entL_s, entL_nil, n_X11_of, u_X11_of, m_X11_of, rep_0, List.cons_append, List.nil_append, List.append_nil, List.length_cons, List.length_nil, Nat.reduceAdd, true_and]
    simp only [AW_k, AWk_1, x_aload_0, x_aloads_0, x_iload_1, x_callv_2, x_if_eq, x_iload_2, x_i2l, x_push_i, x_push_l, x_call_3, x_if_ne, x_ret, x_ret_i, x_ret_z, x_ret_l, x_ret_c, k_X11_of_0, k_X11_of_1, k_X11_of_2, k_X11_of_3, k_X11_of_4, k_X11_of_5, k_X11_of_6, k_X11_of_7, k_X11_of_8, k_X11_of_9, k_X11_of_10, k_X11_of_11, oE_some, Int.reduceToNat, Nat.reduceAdd, true_and, and_true, List.length_cons, List.length_nil, Option.toList_some, Option.toList_none, List.cons_append, List.nil_append, Nat.reduceLeDiff, Nat.le_refl, wdS_nil, wdS_i, wdS_l, wdS_r, wdS_n, wdS_s, cM h, m_isRow_n (d + 97) h hx ex, w00, ↓reduceIte]
  | some i =>
    have hi := ixo_lt ex
    have exn := ixo_num ex
    have bs : sw n i < 2147483648 := Nat.lt_trans (sw_31 n i) (by decide)
    rw [an1_s ex]
    unfold ofW
    have ms := fun R => m_swapped (d + 97) h hi R
    have md := fun R => m_drops (d + 96) h hi R
    have mr := fun R => m_rank (d + 97) h hi R
    have mt := fun R => m_turned (d + 97) h hi R
    rw [exn] at ms md mr mt
    by_cases c : 0 ≤ w ∧ w ≤ 3
    · have ci : inI w 0 3 = true := decide_eq_true c
      rw [callD_k]; simp only [entL_i, entL_l, entL_q, entL_s, entL_nil, n_X11_of, u_X11_of, m_X11_of, rep_0, List.cons_append, List.nil_append, List.append_nil, List.length_cons, List.length_nil, Nat.reduceAdd, true_and]
      simp only [AW_k, AWk_1, x_aload_0, x_aloads_0, x_iload_1, x_callv_2, x_if_eq, x_iload_2, x_i2l, x_push_i, x_push_l, x_call_3, x_if_ne, x_ret, x_ret_i, x_ret_z, x_ret_l, x_ret_c, k_X11_of_0, k_X11_of_1, k_X11_of_2, k_X11_of_3, k_X11_of_4, k_X11_of_5, k_X11_of_6, k_X11_of_7, k_X11_of_8, k_X11_of_9, k_X11_of_10, k_X11_of_11, k_X11_of_12, oE_some, Int.reduceToNat, Nat.reduceAdd, true_and, and_true, List.length_cons, List.length_nil, Option.toList_some, Option.toList_none, List.cons_append, List.nil_append, Nat.reduceLeDiff, Nat.le_refl, wdS_nil, wdS_i, wdS_l, wdS_r, wdS_n, wdS_s, cM h, m_isRow_s (d + 97) h hx ex, w10, m_in (d + 98), tI_id hw, q0_I, q3_I, ci, zI_t, ↓reduceIte]
      by_cases c0 : w = 0
      · rw [if_pos c0]
        simp only [AW_k, AWk_1, x_iload_2, x_if_ne, x_aload_0, x_aloads_0, x_iload_1, x_callv_2, x_i2l, x_call_1, x_goto, x_push_i, x_push_l, x_icmp_ne, x_ret, x_ret_i, x_ret_z, x_ret_l, x_ret_c, k_X11_of_12, k_X11_of_13, k_X11_of_14, k_X11_of_15, k_X11_of_16, k_X11_of_17, k_X11_of_18, k_X11_of_19, k_X11_of_20, k_X11_of_21, k_X11_of_22, k_X11_of_23, k_X11_of_24, k_X11_of_25, k_X11_of_26, k_X11_of_27, k_X11_of_28, k_X11_of_29, k_X11_of_30, k_X11_of_31, k_X11_of_32, k_X11_of_33, k_X11_of_34, k_X11_of_35, k_X11_of_36, k_X11_of_37, oE_some, Int.reduceToNat, Nat.reduceAdd, true_and, and_true, List.length_cons, List.length_nil, Option.toList_some, Option.toList_none, List.cons_append, List.nil_append, Nat.reduceLeDiff, Nat.le_refl, wdS_nil, wdS_i, wdS_l, wdS_r, wdS_n, wdS_s, hw, c0, wz0, cM h, ms, m_ones (d + 97), pop_NI bs, ↓reduceIte]
      · rw [if_neg c0]
        by_cases c1 : w = 1
        · rw [if_pos c1]
          simp only [AW_k, AWk_1, x_iload_2, x_if_ne, x_aload_0, x_aloads_0, x_iload_1, x_callv_2, x_i2l, x_call_1, x_goto, x_push_i, x_push_l, x_icmp_ne, x_ret, x_ret_i, x_ret_z, x_ret_l, x_ret_c, k_X11_of_12, k_X11_of_13, k_X11_of_14, k_X11_of_15, k_X11_of_16, k_X11_of_17, k_X11_of_18, k_X11_of_19, k_X11_of_20, k_X11_of_21, k_X11_of_22, k_X11_of_23, k_X11_of_24, k_X11_of_25, k_X11_of_26, k_X11_of_27, k_X11_of_28, k_X11_of_29, k_X11_of_30, k_X11_of_31, k_X11_of_32, k_X11_of_33, k_X11_of_34, k_X11_of_35, k_X11_of_36, k_X11_of_37, oE_some, Int.reduceToNat, Nat.reduceAdd, true_and, and_true, List.length_cons, List.length_nil, Option.toList_some, Option.toList_none, List.cons_append, List.nil_append, Nat.reduceLeDiff, Nat.le_refl, wdS_nil, wdS_i, wdS_l, wdS_r, wdS_n, wdS_s, hw, c1, wz1, Int.reduceEq, cM h, md, ↓reduceIte]
        · rw [if_neg c1]
          by_cases c2 : w = 2
          · rw [if_pos c2]
            simp only [AW_k, AWk_1, x_iload_2, x_if_ne, x_aload_0, x_aloads_0, x_iload_1, x_callv_2, x_i2l, x_call_1, x_goto, x_push_i, x_push_l, x_icmp_ne, x_ret, x_ret_i, x_ret_z, x_ret_l, x_ret_c, k_X11_of_12, k_X11_of_13, k_X11_of_14, k_X11_of_15, k_X11_of_16, k_X11_of_17, k_X11_of_18, k_X11_of_19, k_X11_of_20, k_X11_of_21, k_X11_of_22, k_X11_of_23, k_X11_of_24, k_X11_of_25, k_X11_of_26, k_X11_of_27, k_X11_of_28, k_X11_of_29, k_X11_of_30, k_X11_of_31, k_X11_of_32, k_X11_of_33, k_X11_of_34, k_X11_of_35, k_X11_of_36, k_X11_of_37, oE_some, Int.reduceToNat, Nat.reduceAdd, true_and, and_true, List.length_cons, List.length_nil, Option.toList_some, Option.toList_none, List.cons_append, List.nil_append, Nat.reduceLeDiff, Nat.le_refl, wdS_nil, wdS_i, wdS_l, wdS_r, wdS_n, wdS_s, hw, c2, wz1, wz2, Int.reduceEq, cM h, mr, ↓reduceIte]
          · have c3 : w = 3 := by omega
            rw [if_neg c2, if_pos c3]
            simp only [AW_k, AWk_1, x_iload_2, x_if_ne, x_aload_0, x_aloads_0, x_iload_1, x_callv_2, x_i2l, x_call_1, x_goto, x_push_i, x_push_l, x_icmp_ne, x_ret, x_ret_i, x_ret_z, x_ret_l, x_ret_c, k_X11_of_12, k_X11_of_13, k_X11_of_14, k_X11_of_15, k_X11_of_16, k_X11_of_17, k_X11_of_18, k_X11_of_19, k_X11_of_20, k_X11_of_21, k_X11_of_22, k_X11_of_23, k_X11_of_24, k_X11_of_25, k_X11_of_26, k_X11_of_27, k_X11_of_28, k_X11_of_29, k_X11_of_30, k_X11_of_31, k_X11_of_32, k_X11_of_33, k_X11_of_34, k_X11_of_35, k_X11_of_36, k_X11_of_37, oE_some, Int.reduceToNat, Nat.reduceAdd, true_and, and_true, List.length_cons, List.length_nil, Option.toList_some, Option.toList_none, List.cons_append, List.nil_append, Nat.reduceLeDiff, Nat.le_refl, wdS_nil, wdS_i, wdS_l, wdS_r, wdS_n, wdS_s, hw, c3, wz1, wz2, wz3, Int.reduceEq, cM h, mt, ↓reduceIte]
    · have ci : inI w 0 3 = false := decide_eq_false c
      rw [if_neg (by omega), if_neg (by omega), if_neg (by omega), if_neg (by omega)]
      rw [callD_k]; simp only [entL_i, entL_l, entL_q, entL_s, entL_nil, n_X11_of, u_X11_of, m_X11_of, rep_0, List.cons_append, List.nil_append, List.append_nil, List.length_cons, List.length_nil, Nat.reduceAdd, true_and]
      simp only [AW_k, AWk_1, x_aload_0, x_aloads_0, x_iload_1, x_callv_2, x_if_eq, x_iload_2, x_i2l, x_push_i, x_push_l, x_call_3, x_if_ne, x_ret, x_ret_i, x_ret_z, x_ret_l, x_ret_c, k_X11_of_0, k_X11_of_1, k_X11_of_2, k_X11_of_3, k_X11_of_4, k_X11_of_5, k_X11_of_6, k_X11_of_7, k_X11_of_8, k_X11_of_9, k_X11_of_10, k_X11_of_11, oE_some, Int.reduceToNat, Nat.reduceAdd, true_and, and_true, List.length_cons, List.length_nil, Option.toList_some, Option.toList_none, List.cons_append, List.nil_append, Nat.reduceLeDiff, Nat.le_refl, wdS_nil, wdS_i, wdS_l, wdS_r, wdS_n, wdS_s, cM h, m_isRow_s (d + 97) h hx ex, w10, m_in (d + 98), tI_id hw, q0_I, q3_I, ci, zI_f, w00, ↓reduceIte]
theorem m_rowAt (d : Nat) {hp : HP} {n : Nat} {x : Int} (h : MK hp n) (hx : w32 x = x) (R : PO) : callD (d + 100) 179 [mR 54, mI x] hp R ↔ R (some (mI (rwA n x))) hp := by
  have h1 := h.1.1
  have h6 := h.1.2
  have g1 := h.2.1
  have g2 := h.2.2.2.1
  have a2 := h.2.2.2.2.2
  have f1 := FC_le n
  have f0 := FC_pos h1 h6
  have n7 : n < 7 := by omega
  have bn : n < 2147483648 := by omega
  have ib : inB (n : Int) FW.length := inB_n n7 (by decide)
  have e1 : ((FC n : Nat) : Int) - 1 = ((FC n - 1 : Nat) : Int) := by omega
  have bF : FC n - 1 < 2147483648 := by omega
  unfold rwA
  by_cases c : 0 ≤ x ∧ x < ((FC n : Nat) : Int)
  · obtain ⟨i, ei⟩ : ∃ i : Nat, x = (i : Int) := ⟨x.toNat, by omega⟩
    subst ei
    have hi : i < FC n := by omega
    have ci : inI (i : Int) 0 ((FC n - 1 : Nat) : Int) = true := decide_eq_true (by omega)
    rw [if_pos c, Int.toNat_natCast]
    rw [callD_k]; simp only [entL_i, entL_l, entL_q, entL_s, entL_nil, n_X11_rowAt, u_X11_rowAt, m_X11_rowAt, rep_0, List.cons_append, List.nil_append, List.append_nil, List.length_cons, List.length_nil, Nat.reduceAdd, true_and]
    simp only [AW_k, AWk_1, x_iload_1, x_i2l, x_push_i, x_push_l, x_aload_0, x_aloads_0, x_getf, x_iald, x_ialds, x_isub, x_call_3, x_if_eq, x_callv_2, x_goto, x_ret, x_ret_i, x_ret_z, x_ret_l, x_ret_c, k_X11_rowAt_0, k_X11_rowAt_1, k_X11_rowAt_2, k_X11_rowAt_3, k_X11_rowAt_4, k_X11_rowAt_5, k_X11_rowAt_6, k_X11_rowAt_7, k_X11_rowAt_8, k_X11_rowAt_9, k_X11_rowAt_10, k_X11_rowAt_11, k_X11_rowAt_12, k_X11_rowAt_13, k_X11_rowAt_14, k_X11_rowAt_15, k_X11_rowAt_16, k_X11_rowAt_17, k_X11_rowAt_18, oE_some, Int.reduceToNat, Nat.reduceAdd, true_and, and_true, List.length_cons, List.length_nil, Option.toList_some, Option.toList_none, List.cons_append, List.nil_append, Nat.reduceLeDiff, Nat.le_refl, wdS_nil, wdS_i, wdS_l, wdS_r, wdS_n, wdS_s, g1, g2, a2, ib, w32_tn bn, FW_get n7, e1, m_in (d + 98), tI_id hx, tI_nat bF, q0_I, ci, zI_t, w10, cM h, m_rowBy (d + 97) h hi, ↓reduceIte]
  · have ci : inI x 0 ((FC n - 1 : Nat) : Int) = false := decide_eq_false (by omega)
    rw [if_neg c]
    rw [callD_k]; simp only [entL_i, entL_l, entL_q, entL_s, entL_nil, n_X11_rowAt, u_X11_rowAt, m_X11_rowAt, rep_0, List.cons_append, List.nil_append, List.append_nil, List.length_cons, List.length_nil, Nat.reduceAdd, true_and]
    simp only [AW_k, AWk_1, x_iload_1, x_i2l, x_push_i, x_push_l, x_aload_0, x_aloads_0, x_getf, x_iald, x_ialds, x_isub, x_call_3, x_if_eq, x_callv_2, x_goto, x_ret, x_ret_i, x_ret_z, x_ret_l, x_ret_c, k_X11_rowAt_0, k_X11_rowAt_1, k_X11_rowAt_2, k_X11_rowAt_3, k_X11_rowAt_4, k_X11_rowAt_5, k_X11_rowAt_6, k_X11_rowAt_7, k_X11_rowAt_8, k_X11_rowAt_9, k_X11_rowAt_10, k_X11_rowAt_11, k_X11_rowAt_12, k_X11_rowAt_13, k_X11_rowAt_14, k_X11_rowAt_15, k_X11_rowAt_16, k_X11_rowAt_17, k_X11_rowAt_18, oE_some, Int.reduceToNat, Nat.reduceAdd, true_and, and_true, List.length_cons, List.length_nil, Option.toList_some, Option.toList_none, List.cons_append, List.nil_append, Nat.reduceLeDiff, Nat.le_refl, wdS_nil, wdS_i, wdS_l, wdS_r, wdS_n, wdS_s, g1, g2, a2, ib, w32_tn bn, FW_get n7, e1, m_in (d + 98), tI_id hx, tI_nat bF, q0_I, ci, zI_f, w00, ↓reduceIte]
theorem m_jump (d : Nat) {hp : HP} {n : Nat} {x v w : Int} (h : MK hp n) (hx : w32 x = x) (hv : w32 v = v) (hw : w32 w = w) (R : PO) : callD (d + 100) 182 [mR 54, mI x, mI v, mI w] hp R ↔ R (some (mI (an1 n x (jmA n v w)))) hp := by
  have h1 := h.1.1
  have h6 := h.1.2
  have g1 := h.2.1
  have bn : n < 2147483648 := by omega
  cases ex : ixo n x with
  | none =>
    rw [an1_n ex]
    rw [callD_k]; simp only [entL_i, entL_l, entL_q, entL_s, entL_nil, n_X11_jump, u_X11_jump, m_X11_jump, rep_0, List.cons_append, List.nil_append, List.append_nil, List.length_cons, List.length_nil, Nat.reduceAdd, true_and]
    simp only [AW_k, AWk_1, x_aload_0, x_aloads_0, x_iload_1, x_callv_2, x_if_eq, x_iload_2, x_i2l, x_push_i, x_push_l, x_getf, x_call_3, x_iload_3, x_callv_4, x_goto, x_ret, x_ret_i, x_ret_z, x_ret_l, x_ret_c, k_X11_jump_0, k_X11_jump_1, k_X11_jump_2, k_X11_jump_3, k_X11_jump_4, k_X11_jump_5, k_X11_jump_6, k_X11_jump_7, k_X11_jump_8, k_X11_jump_9, k_X11_jump_10, k_X11_jump_11, k_X11_jump_12, k_X11_jump_13, k_X11_jump_14, k_X11_jump_15, k_X11_jump_16, k_X11_jump_17, k_X11_jump_18, k_X11_jump_19, oE_some, Int.reduceToNat, Nat.reduceAdd, true_and, and_true, List.length_cons, List.length_nil, Option.toList_some, Option.toList_none, List.cons_append, List.nil_append, Nat.reduceLeDiff, Nat.le_refl, wdS_nil, wdS_i, wdS_l, wdS_r, wdS_n, wdS_s, cM h, m_isRow_n (d + 97) h hx ex, w00, ↓reduceIte]
  | some i =>
    have hi := ixo_lt ex
    have exn := ixo_num ex
    rw [an1_s ex]
    unfold jmA
    by_cases c : 1 ≤ v ∧ v ≤ (n : Int)
    · obtain ⟨v2, ev⟩ : ∃ v2 : Nat, v = (v2 : Int) := ⟨v.toNat, by omega⟩
      subst ev
      have ci : inI (v2 : Int) 1 (n : Int) = true := decide_eq_true c
      have mj := fun R => m_jumped (d + 96) h hi (v := v2) (by omega) (by omega) hw R
      rw [exn] at mj
      rw [if_pos c, Int.toNat_natCast]
      rw [callD_k]; simp only [entL_i, entL_l, entL_q, entL_s, entL_nil, n_X11_jump, u_X11_jump, m_X11_jump, rep_0, List.cons_append, List.nil_append, List.append_nil, List.length_cons, List.length_nil, Nat.reduceAdd, true_and]
      simp only [AW_k, AWk_1, x_aload_0, x_aloads_0, x_iload_1, x_callv_2, x_if_eq, x_iload_2, x_i2l, x_push_i, x_push_l, x_getf, x_call_3, x_iload_3, x_callv_4, x_goto, x_ret, x_ret_i, x_ret_z, x_ret_l, x_ret_c, k_X11_jump_0, k_X11_jump_1, k_X11_jump_2, k_X11_jump_3, k_X11_jump_4, k_X11_jump_5, k_X11_jump_6, k_X11_jump_7, k_X11_jump_8, k_X11_jump_9, k_X11_jump_10, k_X11_jump_11, k_X11_jump_12, k_X11_jump_13, k_X11_jump_14, k_X11_jump_15, k_X11_jump_16, k_X11_jump_17, k_X11_jump_18, k_X11_jump_19, oE_some, Int.reduceToNat, Nat.reduceAdd, true_and, and_true, List.length_cons, List.length_nil, Option.toList_some, Option.toList_none, List.cons_append, List.nil_append, Nat.reduceLeDiff, Nat.le_refl, wdS_nil, wdS_i, wdS_l, wdS_r, wdS_n, wdS_s, cM h, m_isRow_s (d + 97) h hx ex, w10, g1, m_in (d + 98), tI_id hv, tI_nat bn, q1_I, ci, zI_t, mj, ↓reduceIte]
      all_goals exact Iff.rfl
    · have ci : inI v 1 (n : Int) = false := decide_eq_false c
      rw [if_neg c]
      rw [callD_k]; simp only [entL_i, entL_l, entL_q, entL_s, entL_nil, n_X11_jump, u_X11_jump, m_X11_jump, rep_0, List.cons_append, List.nil_append, List.append_nil, List.length_cons, List.length_nil, Nat.reduceAdd, true_and]
      simp only [AW_k, AWk_1, x_aload_0, x_aloads_0, x_iload_1, x_callv_2, x_if_eq, x_iload_2, x_i2l, x_push_i, x_push_l, x_getf, x_call_3, x_iload_3, x_callv_4, x_goto, x_ret, x_ret_i, x_ret_z, x_ret_l, x_ret_c, k_X11_jump_0, k_X11_jump_1, k_X11_jump_2, k_X11_jump_3, k_X11_jump_4, k_X11_jump_5, k_X11_jump_6, k_X11_jump_7, k_X11_jump_8, k_X11_jump_9, k_X11_jump_10, k_X11_jump_11, k_X11_jump_12, k_X11_jump_13, k_X11_jump_14, k_X11_jump_15, k_X11_jump_16, k_X11_jump_17, k_X11_jump_18, k_X11_jump_19, oE_some, Int.reduceToNat, Nat.reduceAdd, true_and, and_true, List.length_cons, List.length_nil, Option.toList_some, Option.toList_none, List.cons_append, List.nil_append, Nat.reduceLeDiff, Nat.le_refl, wdS_nil, wdS_i, wdS_l, wdS_r, wdS_n, wdS_s, cM h, m_isRow_s (d + 97) h hx ex, w10, g1, m_in (d + 98), tI_id hv, tI_nat bn, q1_I, ci, zI_f, w00, ↓reduceIte]
