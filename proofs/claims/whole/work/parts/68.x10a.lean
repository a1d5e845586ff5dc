/-! ===== the class's own methods: rows ===== -/
/-- the row that a number tells -/
def ixo (n : Nat) (x : Int) : Option Nat := fst (fun j => decide (((num n j : Nat) : Int) = x)) (FC n) 0
theorem ixo_lt {n i : Nat} {x : Int} (h : ixo n x = some i) : i < FC n := by have := (fst_some h).2.1; omega
theorem ixo_num {n i : Nat} {x : Int} (h : ixo n x = some i) : ((num n i : Nat) : Int) = x := of_decide_eq_true (fst_some h).2.2
def an1 (n : Nat) (x : Int) (f : Nat → Int) : Int := match ixo n x with
  | some i => f i
  | none => -1
def an2 (n : Nat) (x y : Int) (f : Nat → Nat → Int) : Int := match ixo n x with
  | some i => match ixo n y with
    | some j => f i j
    | none => -1
  | none => -1
theorem an1_n {n : Nat} {x : Int} {f : Nat → Int} (h : ixo n x = none) : an1 n x f = -1 := by unfold an1; rw [h]
theorem an1_s {n i : Nat} {x : Int} {f : Nat → Int} (h : ixo n x = some i) : an1 n x f = f i := by unfold an1; rw [h]
theorem an2_n {n : Nat} {x y : Int} {f : Nat → Nat → Int} (h : ixo n x = none) : an2 n x y f = -1 := by unfold an2; rw [h]
theorem an2_m {n i : Nat} {x y : Int} {f : Nat → Nat → Int} (h : ixo n x = some i) (h2 : ixo n y = none) : an2 n x y f = -1 := by unfold an2; rw [h, h2]
theorem an2_s {n i j : Nat} {x y : Int} {f : Nat → Nat → Int} (h : ixo n x = some i) (h2 : ixo n y = some j) : an2 n x y f = f i j := by unfold an2; rw [h, h2]
set_option maxHeartbeats 16000000 in
theorem c4_findW (d : Nat) {hp : HP} {ra n : Nat} {x y : Int} (hR : RWS hp ra n) (hx : w32 y = x) (R : PO) : callD (d + 1) 35 [mR ra, mI y] hp R ↔ R (some (mI (fnd n x))) hp := by
  have h1 := rw_1 hR
  have h6 := rw_6 hR
  have f1 := FC_le n
  have f0 := FC_pos h1 h6
  have key : ∀ (m f i : Nat) (y5 : Option AV), f + m ≤ FC n → (∀ j, j < f → ((num n j : Nat) : Int) < x) → (∀ j, f + m ≤ j → j < FC n → x < ((num n j : Nat) : Int)) → i + m ≤ FC n → (AWh d [] 35 R 9 [some (mR ra), some (mI y), some (mI (f : Int)), some (mI ((f : Int) + (m : Int) - 1)), some (mI (i : Int)), y5] [] hp (0, 0) ↔ R (some (mI (fnd n x))) hp) := by
    intro m
    induction m using Nat.strongRecOn with
    | _ m ih =>
      intro f i y5 hm hlo hhi him
      have bi : i < 2147483648 := by omega
      have bf : f < 2147483648 := by omega
      by_cases h0 : m = 0
      · subst h0
        have hno : fnd n x = -1 := fnd_no (fun j hj e => by
          by_cases hjf : j < f
          · have := hlo j hjf; omega
          · have := hhi j (by omega) hj; omega)
        have r1 : -2147483648 ≤ (f : Int) + ((0 : Nat) : Int) - 1 := by omega
        have r2 : (f : Int) + ((0 : Nat) : Int) - 1 < 2147483648 := by omega
        have cc : ¬ (f : Int) + ((0 : Nat) : Int) - 1 ≥ (f : Int) := by omega
        have cc2 : (f : Int) + ((0 : Nat) : Int) - 1 < (f : Int) := by omega
        rw [hno]
        rw [AWh_k, k_X4_find_9]
        simp only [AW_k, AWk_1, x_push_i, x_push_l, x_istore_2, x_aload_0, x_aloads_0, x_getf, x_isub, x_istore_3, x_istore_4, x_iload_4, x_icmp_ge, x_iload_2, x_iload_3, x_icmp_gt, x_iadd, x_idiv, x_istore_5, x_iload_5, x_iald, x_ialds, x_iload_1, x_icmp_ne, x_ret, x_ret_i, x_ret_z, x_ret_l, x_ret_c, x_goto, x_iinc_4, unl_i, unl_l, unl_q, unl_r, unl_s, unl_n, k_X4_find_0, k_X4_find_1, k_X4_find_2, k_X4_find_3, k_X4_find_4, k_X4_find_5, k_X4_find_6, k_X4_find_7, k_X4_find_8, k_X4_find_9, k_X4_find_10, k_X4_find_11, k_X4_find_12, k_X4_find_13, k_X4_find_14, k_X4_find_15, k_X4_find_16, k_X4_find_17, k_X4_find_18, k_X4_find_19, k_X4_find_20, k_X4_find_21, k_X4_find_22, k_X4_find_23, k_X4_find_24, k_X4_find_25, k_X4_find_26, k_X4_find_27, k_X4_find_28, k_X4_find_29, k_X4_find_30, k_X4_find_31, k_X4_find_32, k_X4_find_33, k_X4_find_34, k_X4_find_35, k_X4_find_36, k_X4_find_37, k_X4_find_38, k_X4_find_39, k_X4_find_40, k_X4_find_41, k_X4_find_42, k_X4_find_43, k_X4_find_44, k_X4_find_45, k_X4_find_46, k_X4_find_47, k_X4_find_48, oE_some, Int.reduceToNat, Nat.reduceAdd, true_and, and_true, List.length_cons, List.length_nil, Option.toList_some, Option.toList_none, List.cons_append, List.nil_append, Nat.reduceLeDiff, Nat.le_refl, wdS_nil, wdS_i, wdS_l, wdS_r, wdS_n, wdS_s, rw_count hR]
        rw [w32_nat bi, w32_nat (FC_31 n), w32_nat bf, w32_id r1 r2, if_pos cc2]
        by_cases ci : (i : Int) < ((FC n : Nat) : Int)
        · rw [if_pos ci]
        · rw [if_neg ci]
      · have r1 : -2147483648 ≤ (f : Int) + (m : Int) - 1 := by omega
        have r2 : (f : Int) + (m : Int) - 1 < 2147483648 := by omega
        have cc2 : ¬ (f : Int) + (m : Int) - 1 < (f : Int) := by omega
        have ci : (i : Int) < ((FC n : Nat) : Int) := by omega
        obtain ⟨g, hg⟩ : ∃ g : Nat, g = (f + (f + m - 1)) / 2 := ⟨_, rfl⟩
        have hg1 : f ≤ g ∧ g < f + m := by omega
        have bs1 : f + (f + m - 1) < 2147483648 := by omega
        have es : (f : Int) + ((f : Int) + (m : Int) - 1) = ((f + (f + m - 1) : Nat) : Int) := by omega
        have em : Int.tdiv (w32 ((f : Int) + ((f : Int) + (m : Int) - 1))) (w32 2) = (g : Int) := by
          rw [es, hg]; exact w_div (b := 2) bs1 (by decide)
        have hgF : g < FC n := by omega
        have bg := num_31 h1 h6 hgF
        have e1 : ((g + 1 : Nat) : Int) + ((f + m - (g + 1) : Nat) : Int) - 1 = (f : Int) + (m : Int) - 1 := by omega
        have e2 : (f : Int) + ((g - f : Nat) : Int) - 1 = (g : Int) - 1 := by omega
        have s1 := ih (f + m - (g + 1)) (by omega) (g + 1) (i + 1) (some (mI (g : Int))) (by omega)
        have s2 := ih (g - f) (by omega) f (i + 1) (some (mI (g : Int))) (by omega)
        rw [e1] at s1
        rw [e2] at s2
        rw [AWh_k, k_X4_find_9]
        simp only [AW_k, AWk_1, x_push_i, x_push_l, x_istore_2, x_aload_0, x_aloads_0, x_getf, x_isub, x_istore_3, x_istore_4, x_iload_4, x_icmp_ge, x_iload_2, x_iload_3, x_icmp_gt, x_iadd, x_idiv, x_istore_5, x_iload_5, x_iald, x_ialds, x_iload_1, x_icmp_ne, x_ret, x_ret_i, x_ret_z, x_ret_l, x_ret_c, x_goto, x_iinc_4, unl_i, unl_l, unl_q, unl_r, unl_s, unl_n, k_X4_find_0, k_X4_find_1, k_X4_find_2, k_X4_find_3, k_X4_find_4, k_X4_find_5, k_X4_find_6, k_X4_find_7, k_X4_find_8, k_X4_find_9, k_X4_find_10, k_X4_find_11, k_X4_find_12, k_X4_find_13, k_X4_find_14, k_X4_find_15, k_X4_find_16, k_X4_find_17, k_X4_find_18, k_X4_find_19, k_X4_find_20, k_X4_find_21, k_X4_find_22, k_X4_find_23, k_X4_find_24, k_X4_find_25, k_X4_find_26, k_X4_find_27, k_X4_find_28, k_X4_find_29, k_X4_find_30, k_X4_find_31, k_X4_find_32, k_X4_find_33, k_X4_find_34, k_X4_find_35, k_X4_find_36, k_X4_find_37, k_X4_find_38, k_X4_find_39, k_X4_find_40, k_X4_find_41, k_X4_find_42, k_X4_find_43, k_X4_find_44, k_X4_find_45, k_X4_find_46, k_X4_find_47, k_X4_find_48, oE_some, Int.reduceToNat, Nat.reduceAdd, true_and, and_true, List.length_cons, List.length_nil, Option.toList_some, Option.toList_none, List.cons_append, List.nil_append, Nat.reduceLeDiff, Nat.le_refl, wdS_nil, wdS_i, wdS_l, wdS_r, wdS_n, wdS_s, rw_count hR, em, rw_nums hR, rA_10 hR, bI rfl hgF (FC_31 n), gI rfl hgF (FC_31 n), show ¬ w32 2 = 0 by decide, not_false_eq_true]
        rw [w32_nat bi, w32_nat (FC_31 n), w32_nat bf, w32_id r1 r2, if_neg cc2, if_pos ci, w32_nat bg, hx]
        by_cases q1 : ((num n g : Nat) : Int) = x
        · rw [if_pos q1, ← q1, fnd_num h1 h6 hgF]
        · rw [if_neg q1]
          by_cases q2 : ((num n g : Nat) : Int) < x
          · rw [if_pos q2]
            refine s1 (fun j hj => ?_) (fun j hj1 hj2 => hhi j (by omega) hj2) (by omega)
            by_cases e : j = g
            · rw [e]; exact q2
            · have := num_lt h1 h6 hgF (show j < g by omega); omega
          · rw [if_neg q2]
            refine s2 hlo (fun j hj1 hj2 => ?_) (by omega)
            by_cases e : j = g
            · rw [e]; omega
            · have := num_lt h1 h6 hj2 (show g < j by omega); omega
  have k0 := key (FC n) 0 0 none (by omega) (fun j hj => by omega) (fun j h1 h2 => by omega) (by omega)
  rw [show ((0 : Nat) : Int) + ((FC n : Nat) : Int) - 1 = ((FC n : Nat) : Int) - 1 by omega] at k0
  rw [callD_k]; simp only [entL_i, entL_l, entL_q, entL_s, entL_nil, n_X4_find, u_X4_find, m_X4_find, rep_4, List.cons_append, List.nil_append, List.append_nil, List.length_cons, List.length_nil, Nat.reduceAdd, true_and]
  simp only [AW_k, AWk_1, x_push_i, x_push_l, x_istore_2, x_aload_0, x_aloads_0, x_getf, x_isub, x_istore_3, x_istore_4, x_iload_4, x_icmp_ge, x_iload_2, x_iload_3, x_icmp_gt, x_iadd, x_idiv, x_istore_5, x_iload_5, x_iald, x_ialds, x_iload_1, x_icmp_ne, x_ret, x_ret_i, x_ret_z, x_ret_l, x_ret_c, x_goto, x_iinc_4, unl_i, unl_l, unl_q, unl_r, unl_s, unl_n, k_X4_find_0, k_X4_find_1, k_X4_find_2, k_X4_find_3, k_X4_find_4, k_X4_find_5, k_X4_find_6, k_X4_find_7, k_X4_find_8, k_X4_find_9, k_X4_find_10, k_X4_find_11, k_X4_find_12, k_X4_find_13, k_X4_find_14, k_X4_find_15, k_X4_find_16, k_X4_find_17, k_X4_find_18, k_X4_find_19, k_X4_find_20, k_X4_find_21, k_X4_find_22, k_X4_find_23, k_X4_find_24, k_X4_find_25, k_X4_find_26, k_X4_find_27, k_X4_find_28, k_X4_find_29, k_X4_find_30, k_X4_find_31, k_X4_find_32, k_X4_find_33, k_X4_find_34, k_X4_find_35, k_X4_find_36, k_X4_find_37, k_X4_find_38, k_X4_find_39, k_X4_find_40, k_X4_find_41, k_X4_find_42, k_X4_find_43, k_X4_find_44, k_X4_find_45, k_X4_find_46, k_X4_find_47, k_X4_find_48, oE_some, Int.reduceToNat, Nat.reduceAdd, true_and, and_true, List.length_cons, List.length_nil, Option.toList_some, Option.toList_none, List.cons_append, List.nil_append, Nat.reduceLeDiff, Nat.le_refl, wdS_nil, wdS_i, wdS_l, wdS_r, wdS_n, wdS_s, rw_count hR]
  exact k0
/-! makers -/
theorem find_n (d : Nat) {hp : HP} {ra n : Nat} {x y : Int} (hR : RWS hp ra n) (hx : w32 y = x) (h : ixo n x = none) (R : PO) : callD (d + 1) 35 [mR ra, mI y] hp R ↔ R (some (mI (-1))) hp := by
  have e : fnd n x = -1 := by show oI (ixo n x) = -1; rw [h]; rfl
  rw [c4_findW d hR hx R, e]
theorem find_s (d : Nat) {hp : HP} {ra n i : Nat} {x y : Int} (hR : RWS hp ra n) (hx : w32 y = x) (h : ixo n x = some i) (R : PO) : callD (d + 1) 35 [mR ra, mI y] hp R ↔ R (some (mI (i : Int))) hp := by
  have e : fnd n x = (i : Int) := by show oI (ixo n x) = _; rw [h]; rfl
  rw [c4_findW d hR hx R, e]
theorem wz0 : w32 0 = 0 := rfl
theorem wz1 : w32 1 = 1 := rfl
theorem wz2 : w32 2 = 2 := rfl
theorem wz3 : w32 3 = 3 := rfl
theorem wz4 : w32 4 = 4 := rfl
theorem wz5 : w32 5 = 5 := rfl
theorem wz6 : w32 6 = 6 := rfl
theorem wN : (w32 (-1) < 0) = True := eq_true (by decide)
theorem wI {i : Nat} (h : i < 2147483648) : (w32 (i : Int) < 0) = False := eq_false (by rw [w32_nat h]; omega)
theorem wB (b : Bool) : (w32 (zI b) = 0) = (b = false) := by cases b <;> decide
theorem mtF_le (n i j : Nat) : ∀ k, mtF n i j k ≤ k := by
  intro k
  induction k with
  | zero => exact Nat.le_refl 0
  | succ k ih =>
    unfold mtF
    split
    · exact Nat.le_refl _
    · omega
theorem mt_ok {n i j : Nat} (hi : i < FC n) : mt n i j < FC n := by
  have := mtF_le n i j (min i j)
  unfold mt
  omega
theorem jn_ok {n i j : Nat} (hi : i < FC n) : jn n i j < FC n := by
  unfold jn
  split
  · next u e => have := (fst_some e).2.1; have := (fst_some e).1; omega
  · omega
set_option maxHeartbeats 8000000 in
theorem x10_below (d : Nat) {hp : HP} {n : Nat} {G : BitVec 64} {z : Int} {c : Nat} {ks : List Int} {es : List Int} {ik : Bool} {kn : Nat} {kG : BitVec 64} {kz : Int} {kc : Nat} {kks : List Int} {kes : List Int} {tc : Nat} {tb : List Int} {sc : Nat} {tl : List Int} {so : List Int} {le : List Int} {it : Nat → List (BitVec 64)} {he : List Int} {th : List Int} {sl : List Int} {tr : Nat} {bo : List Int} {x y : Int} (hX : XI hp n G z c ks es ik kn kG kz kc kks kes tc tb sc tl so le it he th sl tr bo) (hx : w32 x = x) (hy : w32 y = y) (R : PO) : callD (d + 100) 102 [mR 0, mI x, mI y] hp R ↔ R (some (mI (an2 n x y (fun i j => zI (blw n i j))))) hp := by
  obtain ⟨ra, ts, q0, q1, q2, q3, q4, q5, q6, q7, q8, q9, q10, q11, qk⟩ := hX
  have hR := q1.1
  have h1 := rw_1 hR
  have h6 := rw_6 hR
  have f1 := FC_le n
  have cR := rC0 hR
  have cA := rC1 hR
  have o0 : gF hp 0 10 0 = some (mR 1) := XO_F q0 0
  have o1 : gF hp 0 10 1 = some (mR ra) := XO_F q0 1
  have o2 : gF hp 0 10 2 = some (mL G) := XO_F q0 2
  have o3 : gF hp 0 10 3 = some (mI z) := XO_F q0 3
  have o4 : gF hp 0 10 4 = some (mR 2) := XO_F q0 4
  have o5 : gF hp 0 10 5 = some (mR 5) := XO_F q0 5
  have o6 : gF hp 0 10 6 = some (mR 10) := XO_F q0 6
  have o7 : gF hp 0 10 7 = some (mR 14) := XO_F q0 7
  have o8 : gF hp 0 10 8 = some (mR 17) := XO_F q0 8
  have o9 : gF hp 0 10 9 = some (mR 19) := XO_F q0 9
  have o10 : gF hp 0 10 10 = some (mR 27) := XO_F q0 10
  have o11 : gF hp 0 10 11 = some (mR 31) := XO_F q0 11
  have o12 : gF hp 0 10 12 = some (mR 33) := XO_F q0 12
  have o13 : gF hp 0 10 13 = some (mI (zI ik)) := XO_F q0 13
  have o14 : gF hp 0 10 14 = some (mI (kn : Int)) := XO_F q0 14
  have o15 : gF hp 0 10 15 = some (mL kG) := XO_F q0 15
  have o16 : gF hp 0 10 16 = some (mI kz) := XO_F q0 16
  have o17 : gF hp 0 10 17 = some (mR 34) := XO_F q0 17
  have cO := gC_of o0
  cases ex : ixo n x with
  | none =>
    rw [an2_n ex]
    rw [callD_k]; simp only [entL_i, entL_l, entL_q, entL_s, entL_nil, n_X10_below, u_X10_below, m_X10_below, rep_2, List.cons_append, List.nil_append, List.append_nil, List.length_cons, List.length_nil, Nat.reduceAdd, true_and]
    simp only [AW_k, AWk_1, x_aload_0, x_aloads_0, x_getf, x_iload_1, x_callv_2, x_istore_3, x_iload_2, x_istore_4, x_iload_3, x_if_lt, x_iload_4, x_if_ge, x_push_i, x_push_l, x_ret, x_ret_i, x_ret_z, x_ret_l, x_ret_c, x_callv_3, x_if_eq, x_goto, unl_i, unl_l, unl_q, unl_r, unl_s, unl_n, k_X10_below_0, k_X10_below_1, k_X10_below_2, k_X10_below_3, k_X10_below_4, k_X10_below_5, k_X10_below_6, k_X10_below_7, k_X10_below_8, k_X10_below_9, k_X10_below_10, k_X10_below_11, k_X10_below_12, k_X10_below_13, k_X10_below_14, k_X10_below_15, k_X10_below_16, k_X10_below_17, k_X10_below_18, k_X10_below_19, k_X10_below_20, k_X10_below_21, k_X10_below_22, k_X10_below_23, k_X10_below_24, k_X10_below_25, oE_some, Int.reduceToNat, Nat.reduceAdd, true_and, and_true, List.length_cons, List.length_nil, Option.toList_some, Option.toList_none, List.cons_append, List.nil_append, Nat.reduceLeDiff, Nat.le_refl, wdS_nil, wdS_i, wdS_l, wdS_r, wdS_n, wdS_s, o1, cR, find_n (d + 98) hR hx ex, c4_find (d + 98) hR hy, wN, ↓reduceIte]
  | some i =>
    have hi := ixo_lt ex
    have bi : i < 2147483648 := by omega
    cases ey : ixo n y with
    | none =>
      rw [an2_m ex ey]
      rw [callD_k]; simp only [entL_i, entL_l, entL_q, entL_s, entL_nil, n_X10_below, u_X10_below, m_X10_below, rep_2, List.cons_append, List.nil_append, List.append_nil, List.length_cons, List.length_nil, Nat.reduceAdd, true_and]
      simp only [AW_k, AWk_1, x_aload_0, x_aloads_0, x_getf, x_iload_1, x_callv_2, x_istore_3, x_iload_2, x_istore_4, x_iload_3, x_if_lt, x_iload_4, x_if_ge, x_push_i, x_push_l, x_ret, x_ret_i, x_ret_z, x_ret_l, x_ret_c, x_callv_3, x_if_eq, x_goto, unl_i, unl_l, unl_q, unl_r, unl_s, unl_n, k_X10_below_0, k_X10_below_1, k_X10_below_2, k_X10_below_3, k_X10_below_4, k_X10_below_5, k_X10_below_6, k_X10_below_7, k_X10_below_8, k_X10_below_9, k_X10_below_10, k_X10_below_11, k_X10_below_12, k_X10_below_13, k_X10_below_14, k_X10_below_15, k_X10_below_16, k_X10_below_17, k_X10_below_18, k_X10_below_19, k_X10_below_20, k_X10_below_21, k_X10_below_22, k_X10_below_23, k_X10_below_24, k_X10_below_25, oE_some, Int.reduceToNat, Nat.reduceAdd, true_and, and_true, List.length_cons, List.length_nil, Option.toList_some, Option.toList_none, List.cons_append, List.nil_append, Nat.reduceLeDiff, Nat.le_refl, wdS_nil, wdS_i, wdS_l, wdS_r, wdS_n, wdS_s, o1, cR, find_s (d + 98) hR hx ex, find_n (d + 98) hR hy ey, wN, wI bi, ↓reduceIte]
    | some j =>
      have hj := ixo_lt ey
      have bj : j < 2147483648 := by omega
      rw [an2_s ex ey]
      rw [callD_k]; simp only [entL_i, entL_l, entL_q, entL_s, entL_nil, n_X10_below, u_X10_below, m_X10_below, rep_2, List.cons_append, List.nil_append, List.append_nil, List.length_cons, List.length_nil, Nat.reduceAdd, true_and]
      simp only [AW_k, AWk_1, x_aload_0, x_aloads_0, x_getf, x_iload_1, x_callv_2, x_istore_3, x_iload_2, x_istore_4, x_iload_3, x_if_lt, x_iload_4, x_if_ge, x_push_i, x_push_l, x_ret, x_ret_i, x_ret_z, x_ret_l, x_ret_c, x_callv_3, x_if_eq, x_goto, unl_i, unl_l, unl_q, unl_r, unl_s, unl_n, k_X10_below_0, k_X10_below_1, k_X10_below_2, k_X10_below_3, k_X10_below_4, k_X10_below_5, k_X10_below_6, k_X10_below_7, k_X10_below_8, k_X10_below_9, k_X10_below_10, k_X10_below_11, k_X10_below_12, k_X10_below_13, k_X10_below_14, k_X10_below_15, k_X10_below_16, k_X10_below_17, k_X10_below_18, k_X10_below_19, k_X10_below_20, k_X10_below_21, k_X10_below_22, k_X10_below_23, k_X10_below_24, k_X10_below_25, oE_some, Int.reduceToNat, Nat.reduceAdd, true_and, and_true, List.length_cons, List.length_nil, Option.toList_some, Option.toList_none, List.cons_append, List.nil_append, Nat.reduceLeDiff, Nat.le_refl, wdS_nil, wdS_i, wdS_l, wdS_r, wdS_n, wdS_s, o1, cR, find_s (d + 98) hR hx ex, find_s (d + 98) hR hy ey, wI bi, wI bj, c4_isBelow (d + 98) hR hi hj, wB, ↓reduceIte]
      cases blw n i j <;> exact Iff.rfl
set_option maxHeartbeats 8000000 in
theorem x10_meet (d : Nat) {hp : HP} {n : Nat} {G : BitVec 64} {z : Int} {c : Nat} {ks : List Int} {es : List Int} {ik : Bool} {kn : Nat} {kG : BitVec 64} {kz : Int} {kc : Nat} {kks : List Int} {kes : List Int} {tc : Nat} {tb : List Int} {sc : Nat} {tl : List Int} {so : List Int} {le : List Int} {it : Nat → List (BitVec 64)} {he : List Int} {th : List Int} {sl : List Int} {tr : Nat} {bo : List Int} {x y : Int} (hX : XI hp n G z c ks es ik kn kG kz kc kks kes tc tb sc tl so le it he th sl tr bo) (hx : w32 x = x) (hy : w32 y = y) (R : PO) : callD (d + 100) 103 [mR 0, mI x, mI y] hp R ↔ R (some (mI (an2 n x y (fun i j => ((num n (mt n i j) : Nat) : Int))))) hp := by
  obtain ⟨ra, ts, q0, q1, q2, q3, q4, q5, q6, q7, q8, q9, q10, q11, qk⟩ := hX
  have hR := q1.1
  have h1 := rw_1 hR
  have h6 := rw_6 hR
  have f1 := FC_le n
  have cR := rC0 hR
  have cA := rC1 hR
  have o0 : gF hp 0 10 0 = some (mR 1) := XO_F q0 0
  have o1 : gF hp 0 10 1 = some (mR ra) := XO_F q0 1
  have o2 : gF hp 0 10 2 = some (mL G) := XO_F q0 2
  have o3 : gF hp 0 10 3 = some (mI z) := XO_F q0 3
  have o4 : gF hp 0 10 4 = some (mR 2) := XO_F q0 4
  have o5 : gF hp 0 10 5 = some (mR 5) := XO_F q0 5
  have o6 : gF hp 0 10 6 = some (mR 10) := XO_F q0 6
  have o7 : gF hp 0 10 7 = some (mR 14) := XO_F q0 7
  have o8 : gF hp 0 10 8 = some (mR 17) := XO_F q0 8
  have o9 : gF hp 0 10 9 = some (mR 19) := XO_F q0 9
  have o10 : gF hp 0 10 10 = some (mR 27) := XO_F q0 10
  have o11 : gF hp 0 10 11 = some (mR 31) := XO_F q0 11
  have o12 : gF hp 0 10 12 = some (mR 33) := XO_F q0 12
  have o13 : gF hp 0 10 13 = some (mI (zI ik)) := XO_F q0 13
  have o14 : gF hp 0 10 14 = some (mI (kn : Int)) := XO_F q0 14
  have o15 : gF hp 0 10 15 = some (mL kG) := XO_F q0 15
  have o16 : gF hp 0 10 16 = some (mI kz) := XO_F q0 16
  have o17 : gF hp 0 10 17 = some (mR 34) := XO_F q0 17
  have cO := gC_of o0
  cases ex : ixo n x with
  | none =>
    rw [an2_n ex]
    rw [callD_k]; simp only [entL_i, entL_l, entL_q, entL_s, entL_nil, n_X10_meet, u_X10_meet, m_X10_meet, rep_2, List.cons_append, List.nil_append, List.append_nil, List.length_cons, List.length_nil, Nat.reduceAdd, true_and]
    simp only [AW_k, AWk_1, x_aload_0, x_aloads_0, x_getf, x_iload_1, x_callv_2, x_istore_3, x_iload_2, x_istore_4, x_iload_3, x_if_lt, x_iload_4, x_if_ge, x_push_i, x_push_l, x_ret, x_ret_i, x_ret_z, x_ret_l, x_ret_c, x_callv_3, x_iald, x_ialds, unl_i, unl_l, unl_q, unl_r, unl_s, unl_n, k_X10_meet_0, k_X10_meet_1, k_X10_meet_2, k_X10_meet_3, k_X10_meet_4, k_X10_meet_5, k_X10_meet_6, k_X10_meet_7, k_X10_meet_8, k_X10_meet_9, k_X10_meet_10, k_X10_meet_11, k_X10_meet_12, k_X10_meet_13, k_X10_meet_14, k_X10_meet_15, k_X10_meet_16, k_X10_meet_17, k_X10_meet_18, k_X10_meet_19, k_X10_meet_20, k_X10_meet_21, k_X10_meet_22, k_X10_meet_23, k_X10_meet_24, k_X10_meet_25, oE_some, Int.reduceToNat, Nat.reduceAdd, true_and, and_true, List.length_cons, List.length_nil, Option.toList_some, Option.toList_none, List.cons_append, List.nil_append, Nat.reduceLeDiff, Nat.le_refl, wdS_nil, wdS_i, wdS_l, wdS_r, wdS_n, wdS_s, o1, cR, find_n (d + 98) hR hx ex, c4_find (d + 98) hR hy, wN, ↓reduceIte]
  | some i =>
    have hi := ixo_lt ex
    have bi : i < 2147483648 := by omega
    cases ey : ixo n y with
    | none =>
      rw [an2_m ex ey]
      rw [callD_k]; simp only [entL_i, entL_l, entL_q, entL_s, entL_nil, n_X10_meet, u_X10_meet, m_X10_meet, rep_2, List.cons_append, List.nil_append, List.append_nil, List.length_cons, List.length_nil, Nat.reduceAdd, true_and]
      simp only [AW_k, AWk_1, x_aload_0, x_aloads_0, x_getf, x_iload_1, x_callv_2, x_istore_3, x_iload_2, x_istore_4, x_iload_3, x_if_lt, x_iload_4, x_if_ge, x_push_i, x_push_l, x_ret, x_ret_i, x_ret_z, x_ret_l, x_ret_c, x_callv_3, x_iald, x_ialds, unl_i, unl_l, unl_q, unl_r, unl_s, unl_n, k_X10_meet_0, k_X10_meet_1, k_X10_meet_2, k_X10_meet_3, k_X10_meet_4, k_X10_meet_5, k_X10_meet_6, k_X10_meet_7, k_X10_meet_8, k_X10_meet_9, k_X10_meet_10, k_X10_meet_11, k_X10_meet_12, k_X10_meet_13, k_X10_meet_14, k_X10_meet_15, k_X10_meet_16, k_X10_meet_17, k_X10_meet_18, k_X10_meet_19, k_X10_meet_20, k_X10_meet_21, k_X10_meet_22, k_X10_meet_23, k_X10_meet_24, k_X10_meet_25, oE_some, Int.reduceToNat, Nat.reduceAdd, true_and, and_true, List.length_cons, List.length_nil, Option.toList_some, Option.toList_none, List.cons_append, List.nil_append, Nat.reduceLeDiff, Nat.le_refl, wdS_nil, wdS_i, wdS_l, wdS_r, wdS_n, wdS_s, o1, cR, find_s (d + 98) hR hx ex, find_n (d + 98) hR hy ey, wN, wI bi, ↓reduceIte]
    | some j =>
      have hj := ixo_lt ey
      have bj : j < 2147483648 := by omega
      have hm : mt n i j < FC n := mt_ok hi
      rw [an2_s ex ey]
      rw [callD_k]; simp only [entL_i, entL_l, entL_q, entL_s, entL_nil, n_X10_meet, u_X10_meet, m_X10_meet, rep_2, List.cons_append, List.nil_append, List.append_nil, List.length_cons, List.length_nil, Nat.reduceAdd, true_and]
      simp only [AW_k, AWk_1, x_aload_0, x_aloads_0, x_getf, x_iload_1, x_callv_2, x_istore_3, x_iload_2, x_istore_4, x_iload_3, x_if_lt, x_iload_4, x_if_ge, x_push_i, x_push_l, x_ret, x_ret_i, x_ret_z, x_ret_l, x_ret_c, x_callv_3, x_iald, x_ialds, unl_i, unl_l, unl_q, unl_r, unl_s, unl_n, k_X10_meet_0, k_X10_meet_1, k_X10_meet_2, k_X10_meet_3, k_X10_meet_4, k_X10_meet_5, k_X10_meet_6, k_X10_meet_7, k_X10_meet_8, k_X10_meet_9, k_X10_meet_10, k_X10_meet_11, k_X10_meet_12, k_X10_meet_13, k_X10_meet_14, k_X10_meet_15, k_X10_meet_16, k_X10_meet_17, k_X10_meet_18, k_X10_meet_19, k_X10_meet_20, k_X10_meet_21, k_X10_meet_22, k_X10_meet_23, k_X10_meet_24, k_X10_meet_25, oE_some, Int.reduceToNat, Nat.reduceAdd, true_and, and_true, List.length_cons, List.length_nil, Option.toList_some, Option.toList_none, List.cons_append, List.nil_append, Nat.reduceLeDiff, Nat.le_refl, wdS_nil, wdS_i, wdS_l, wdS_r, wdS_n, wdS_s, o1, cR, find_s (d + 98) hR hx ex, find_s (d + 98) hR hy ey, wI bi, wI bj, c4_meetOf (d + 97) hR hi hj, rw_nums hR, rA_10 hR, bI rfl hm (FC_31 n), gI rfl hm (FC_31 n), ↓reduceIte]
set_option maxHeartbeats 8000000 in
theorem x10_join (d : Nat) {hp : HP} {n : Nat} {G : BitVec 64} {z : Int} {c : Nat} {ks : List Int} {es : List Int} {ik : Bool} {kn : Nat} {kG : BitVec 64} {kz : Int} {kc : Nat} {kks : List Int} {kes : List Int} {tc : Nat} {tb : List Int} {sc : Nat} {tl : List Int} {so : List Int} {le : List Int} {it : Nat → List (BitVec 64)} {he : List Int} {th : List Int} {sl : List Int} {tr : Nat} {bo : List Int} {x y : Int} (hX : XI hp n G z c ks es ik kn kG kz kc kks kes tc tb sc tl so le it he th sl tr bo) (hx : w32 x = x) (hy : w32 y = y) (R : PO) : callD (d + 100) 104 [mR 0, mI x, mI y] hp R ↔ R (some (mI (an2 n x y (fun i j => ((num n (jn n i j) : Nat) : Int))))) hp := by
  obtain ⟨ra, ts, q0, q1, q2, q3, q4, q5, q6, q7, q8, q9, q10, q11, qk⟩ := hX
  have hR := q1.1
  have h1 := rw_1 hR
  have h6 := rw_6 hR
  have f1 := FC_le n
  have cR := rC0 hR
  have cA := rC1 hR
  have o0 : gF hp 0 10 0 = some (mR 1) := XO_F q0 0
  have o1 : gF hp 0 10 1 = some (mR ra) := XO_F q0 1
  have o2 : gF hp 0 10 2 = some (mL G) := XO_F q0 2
  have o3 : gF hp 0 10 3 = some (mI z) := XO_F q0 3
  have o4 : gF hp 0 10 4 = some (mR 2) := XO_F q0 4
  have o5 : gF hp 0 10 5 = some (mR 5) := XO_F q0 5
  have o6 : gF hp 0 10 6 = some (mR 10) := XO_F q0 6
  have o7 : gF hp 0 10 7 = some (mR 14) := XO_F q0 7
  have o8 : gF hp 0 10 8 = some (mR 17) := XO_F q0 8
  have o9 : gF hp 0 10 9 = some (mR 19) := XO_F q0 9
  have o10 : gF hp 0 10 10 = some (mR 27) := XO_F q0 10
  have o11 : gF hp 0 10 11 = some (mR 31) := XO_F q0 11
  have o12 : gF hp 0 10 12 = some (mR 33) := XO_F q0 12
  have o13 : gF hp 0 10 13 = some (mI (zI ik)) := XO_F q0 13
  have o14 : gF hp 0 10 14 = some (mI (kn : Int)) := XO_F q0 14
  have o15 : gF hp 0 10 15 = some (mL kG) := XO_F q0 15
  have o16 : gF hp 0 10 16 = some (mI kz) := XO_F q0 16
  have o17 : gF hp 0 10 17 = some (mR 34) := XO_F q0 17
  have cO := gC_of o0
  cases ex : ixo n x with
  | none =>
    rw [an2_n ex]
    rw [callD_k]; simp only [entL_i, entL_l, entL_q, entL_s, entL_nil, n_X10_join, u_X10_join, m_X10_join, rep_2, List.cons_append, List.nil_append, List.append_nil, List.length_cons, List.length_nil, Nat.reduceAdd, true_and]
    simp only [AW_k, AWk_1, x_aload_0, x_aloads_0, x_getf, x_iload_1, x_callv_2, x_istore_3, x_iload_2, x_istore_4, x_iload_3, x_if_lt, x_iload_4, x_if_ge, x_push_i, x_push_l, x_ret, x_ret_i, x_ret_z, x_ret_l, x_ret_c, x_callv_3, x_iald, x_ialds, unl_i, unl_l, unl_q, unl_r, unl_s, unl_n, k_X10_join_0, k_X10_join_1, k_X10_join_2, k_X10_join_3, k_X10_join_4, k_X10_join_5, k_X10_join_6, k_X10_join_7, k_X10_join_8, k_X10_join_9, k_X10_join_10, k_X10_join_11, k_X10_join_12, k_X10_join_13, k_X10_join_14, k_X10_join_15, k_X10_join_16, k_X10_join_17, k_X10_join_18, k_X10_join_19, k_X10_join_20, k_X10_join_21, k_X10_join_22, k_X10_join_23, k_X10_join_24, k_X10_join_25, oE_some, Int.reduceToNat, Nat.reduceAdd, true_and, and_true, List.length_cons, List.length_nil, Option.toList_some, Option.toList_none, List.cons_append, List.nil_append, Nat.reduceLeDiff, Nat.le_refl, wdS_nil, wdS_i, wdS_l, wdS_r, wdS_n, wdS_s, o1, cR, find_n (d + 98) hR hx ex, c4_find (d + 98) hR hy, wN, ↓reduceIte]
  | some i =>
    have hi := ixo_lt ex
    have bi : i < 2147483648 := by omega
    cases ey : ixo n y with
    | none =>
      rw [an2_m ex ey]
      rw [callD_k]; simp only [entL_i, entL_l, entL_q, entL_s, entL_nil, n_X10_join, u_X10_join, m_X10_join, rep_2, List.cons_append, List.nil_append, List.append_nil, List.length_cons, List.length_nil, Nat.reduceAdd, true_and]
      simp only [AW_k, AWk_1, x_aload_0, x_aloads_0, x_getf, x_iload_1, x_callv_2, x_istore_3, x_iload_2, x_istore_4, x_iload_3, x_if_lt, x_iload_4, x_if_ge, x_push_i, x_push_l, x_ret, x_ret_i, x_ret_z, x_ret_l, x_ret_c, x_callv_3, x_iald, x_ialds, unl_i, unl_l, unl_q, unl_r, unl_s, unl_n, k_X10_join_0, k_X10_join_1, k_X10_join_2, k_X10_join_3, k_X10_join_4, k_X10_join_5, k_X10_join_6, k_X10_join_7, k_X10_join_8, k_X10_join_9, k_X10_join_10, k_X10_join_11, k_X10_join_12, k_X10_join_13, k_X10_join_14, k_X10_join_15, k_X10_join_16, k_X10_join_17, k_X10_join_18, k_X10_join_19, k_X10_join_20, k_X10_join_21, k_X10_join_22, k_X10_join_23, k_X10_join_24, k_X10_join_25, oE_some, Int.reduceToNat, Nat.reduceAdd, true_and, and_true, List.length_cons, List.length_nil, Option.toList_some, Option.toList_none, List.cons_append, List.nil_append, Nat.reduceLeDiff, Nat.le_refl, wdS_nil, wdS_i, wdS_l, wdS_r, wdS_n, wdS_s, o1, cR, find_s (d + 98) hR hx ex, find_n (d + 98) hR hy ey, wN, wI bi, ↓reduceIte]
    | some j =>
      have hj := ixo_lt ey
      have bj : j < 2147483648 := by omega
      have hm : jn n i j < FC n := jn_ok hi
      rw [an2_s ex ey]
      rw [callD_k]; simp only [entL_i, entL_l, entL_q, entL_s, entL_nil, n_X10_join, u_X10_join, m_X10_join, rep_2, List.cons_append, List.nil_append, List.append_nil, List.length_cons, List.length_nil, Nat.reduceAdd, true_and]
      simp only [AW_k, AWk_1, x_aload_0, x_aloads_0, x_getf, x_iload_1, x_callv_2, x_istore_3, x_iload_2, x_istore_4, x_iload_3, x_if_lt, x_iload_4, x_if_ge, x_push_i, x_push_l, x_ret, x_ret_i, x_ret_z, x_ret_l, x_ret_c, x_callv_3, x_iald, x_ialds, unl_i, unl_l, unl_q, unl_r, unl_s, unl_n, k_X10_join_0, k_X10_join_1, k_X10_join_2, k_X10_join_3, k_X10_join_4, k_X10_join_5, k_X10_join_6, k_X10_join_7, k_X10_join_8, k_X10_join_9, k_X10_join_10, k_X10_join_11, k_X10_join_12, k_X10_join_13, k_X10_join_14, k_X10_join_15, k_X10_join_16, k_X10_join_17, k_X10_join_18, k_X10_join_19, k_X10_join_20, k_X10_join_21, k_X10_join_22, k_X10_join_23, k_X10_join_24, k_X10_join_25, oE_some, Int.reduceToNat, Nat.reduceAdd, true_and, and_true, List.length_cons, List.length_nil, Option.toList_some, Option.toList_none, List.cons_append, List.nil_append, Nat.reduceLeDiff, Nat.le_refl, wdS_nil, wdS_i, wdS_l, wdS_r, wdS_n, wdS_s, o1, cR, find_s (d + 98) hR hx ex, find_s (d + 98) hR hy ey, wI bi, wI bj, c4_joinOf (d + 97) hR hi hj, rw_nums hR, rA_10 hR, bI rfl hm (FC_31 n), gI rfl hm (FC_31 n), ↓reduceIte]
/-- what is asked of a row -/
def ofW (n : Nat) (w : Int) (i : Nat) : Int := if w = 0 then popN (sw n i) else if w = 1 then ((dr n i : Nat) : Int) else if w = 2 then (i : Int) else if w = 3 then ((trn n i n : Nat) : Int) else -1
set_option maxHeartbeats 8000000 in
theorem x10_of (d : Nat) {hp : HP} {n : Nat} {G : BitVec 64} {z : Int} {c : Nat} {ks : List Int} {es : List Int} {ik : Bool} {kn : Nat} {kG : BitVec 64} {kz : Int} {kc : Nat} {kks : List Int} {kes : List Int} {tc : Nat} {tb : List Int} {sc : Nat} {tl : List Int} {so : List Int} {le : List Int} {it : Nat → List (BitVec 64)} {he : List Int} {th : List Int} {sl : List Int} {tr : Nat} {bo : List Int} {x w : Int} (hX : XI hp n G z c ks es ik kn kG kz kc kks kes tc tb sc tl so le it he th sl tr bo) (hx : w32 x = x) (hw : w32 w = w) (R : PO) : callD (d + 100) 105 [mR 0, mI x, mI w] hp R ↔ R (some (mI (an1 n x (ofW n w)))) hp := by
  obtain ⟨ra, ts, q0, q1, q2, q3, q4, q5, q6, q7, q8, q9, q10, q11, qk⟩ := hX
  have hR := q1.1
  have h1 := rw_1 hR
  have h6 := rw_6 hR
  have f1 := FC_le n
  have cR := rC0 hR
  have cA := rC1 hR
  have o0 : gF hp 0 10 0 = some (mR 1) := XO_F q0 0
  have o1 : gF hp 0 10 1 = some (mR ra) := XO_F q0 1
  have o2 : gF hp 0 10 2 = some (mL G) := XO_F q0 2
  have o3 : gF hp 0 10 3 = some (mI z) := XO_F q0 3
  have o4 : gF hp 0 10 4 = some (mR 2) := XO_F q0 4
  have o5 : gF hp 0 10 5 = some (mR 5) := XO_F q0 5
  have o6 : gF hp 0 10 6 = some (mR 10) := XO_F q0 6
  have o7 : gF hp 0 10 7 = some (mR 14) := XO_F q0 7
  have o8 : gF hp 0 10 8 = some (mR 17) := XO_F q0 8
  have o9 : gF hp 0 10 9 = some (mR 19) := XO_F q0 9
  have o10 : gF hp 0 10 10 = some (mR 27) := XO_F q0 10
  have o11 : gF hp 0 10 11 = some (mR 31) := XO_F q0 11
  have o12 : gF hp 0 10 12 = some (mR 33) := XO_F q0 12
  have o13 : gF hp 0 10 13 = some (mI (zI ik)) := XO_F q0 13
  have o14 : gF hp 0 10 14 = some (mI (kn : Int)) := XO_F q0 14
  have o15 : gF hp 0 10 15 = some (mL kG) := XO_F q0 15
  have o16 : gF hp 0 10 16 = some (mI kz) := XO_F q0 16
  have o17 : gF hp 0 10 17 = some (mR 34) := XO_F q0 17
  have cO := gC_of o0
  cases ex : ixo n x with
  | none =>
    rw [an1_n ex]
    rw [callD_k]; simp only [entL_i, entL_l, entL_q, entL_s, entL_nil, n_X10_of, u_X10_of, m_X10_of, rep_1, List.cons_append, List.nil_append, List.append_nil, List.length_cons, List.length_nil, Nat.reduceAdd, true_and]
    simp only [AW_k, AWk_1, x_aload_0, x_aloads_0, x_getf, x_iload_1, x_callv_2, x_istore_3, x_iload_3, x_if_ge, x_push_i, x_push_l, x_ret, x_ret_i, x_ret_z, x_ret_l, x_ret_c, x_iload_2, x_switch, AW_sw, AW_sw0, x_iald, x_ialds, x_call_1, unl_i, unl_l, unl_q, unl_r, unl_s, unl_n, k_X10_of_0, k_X10_of_1, k_X10_of_2, k_X10_of_3, k_X10_of_4, k_X10_of_5, k_X10_of_6, k_X10_of_7, k_X10_of_8, k_X10_of_9, k_X10_of_10, k_X10_of_11, k_X10_of_12, k_X10_of_13, k_X10_of_14, k_X10_of_15, k_X10_of_16, k_X10_of_17, k_X10_of_18, k_X10_of_19, k_X10_of_20, k_X10_of_21, k_X10_of_22, k_X10_of_23, k_X10_of_24, k_X10_of_25, k_X10_of_26, k_X10_of_27, k_X10_of_28, k_X10_of_29, k_X10_of_30, k_X10_of_31, k_X10_of_32, oE_some, Int.reduceToNat, Nat.reduceAdd, true_and, and_true, List.length_cons, List.length_nil, Option.toList_some, Option.toList_none, List.cons_append, List.nil_append, Nat.reduceLeDiff, Nat.le_refl, wdS_nil, wdS_i, wdS_l, wdS_r, wdS_n, wdS_s, o1, cR, find_n (d + 98) hR hx ex, wN, ↓reduceIte]
  | some i =>
    have hi := ixo_lt ex
    have bi : i < 2147483648 := by omega
    have bs : sw n i < 2147483648 := by have := sw_31 n i; omega
    rw [an1_s ex]
    unfold ofW
    rw [callD_k]; simp only [entL_i, entL_l, entL_q, entL_s, entL_nil, n_X10_of, u_X10_of, m_X10_of, rep_1, List.cons_append, List.nil_append, List.append_nil, List.length_cons, List.length_nil, Nat.reduceAdd, true_and]
    simp only [AW_k, AWk_1, x_aload_0, x_aloads_0, x_getf, x_iload_1, x_callv_2, x_istore_3, x_iload_3, x_if_ge, x_push_i, x_push_l, x_ret, x_ret_i, x_ret_z, x_ret_l, x_ret_c, x_iload_2, unl_i, unl_l, unl_q, unl_r, unl_s, unl_n, k_X10_of_0, k_X10_of_1, k_X10_of_2, k_X10_of_3, k_X10_of_4, k_X10_of_5, k_X10_of_6, k_X10_of_7, k_X10_of_8, k_X10_of_9, oE_some, Int.reduceToNat, Nat.reduceAdd, true_and, and_true, List.length_cons, List.length_nil, Option.toList_some, Option.toList_none, List.cons_append, List.nil_append, Nat.reduceLeDiff, Nat.le_refl, wdS_nil, wdS_i, wdS_l, wdS_r, wdS_n, wdS_s, o1, cR, find_s (d + 98) hR hx ex, wI bi, hw, ↓reduceIte]
    by_cases c0 : w = 0
    · rw [if_pos c0]
      simp only [AW_k, AWk_1, x_switch, AW_sw, AW_sw0, x_aload_0, x_aloads_0, x_getf, x_iload_3, x_iald, x_ialds, x_call_1, x_ret, x_ret_i, x_ret_z, x_ret_l, x_ret_c, x_callv_2, x_push_i, x_push_l, k_X10_of_10, k_X10_of_11, k_X10_of_12, k_X10_of_13, k_X10_of_14, k_X10_of_15, k_X10_of_16, k_X10_of_17, k_X10_of_18, k_X10_of_19, k_X10_of_20, k_X10_of_21, k_X10_of_22, k_X10_of_23, k_X10_of_24, k_X10_of_25, k_X10_of_26, k_X10_of_27, k_X10_of_28, k_X10_of_29, k_X10_of_30, k_X10_of_31, k_X10_of_32, oE_some, Int.reduceToNat, Nat.reduceAdd, true_and, and_true, List.length_cons, List.length_nil, Option.toList_some, Option.toList_none, List.cons_append, List.nil_append, Nat.reduceLeDiff, Nat.le_refl, wdS_nil, wdS_i, wdS_l, wdS_r, wdS_n, wdS_s, swT_cons, swT_nil, hw, c0, wz0, wz1, wz2, wz3, wz4, wz5, wz6, Int.reduceEq, ↓reduceIte, o1, rw_swaps hR, rA_11 hR, bI rfl hi (FC_31 n), gI rfl hi (FC_31 n), c_bits6 (d + 98) bs]
    · rw [if_neg c0]
      by_cases c1 : w = 1
      · rw [if_pos c1]
        simp only [AW_k, AWk_1, x_switch, AW_sw, AW_sw0, x_aload_0, x_aloads_0, x_getf, x_iload_3, x_iald, x_ialds, x_call_1, x_ret, x_ret_i, x_ret_z, x_ret_l, x_ret_c, x_callv_2, x_push_i, x_push_l, k_X10_of_10, k_X10_of_11, k_X10_of_12, k_X10_of_13, k_X10_of_14, k_X10_of_15, k_X10_of_16, k_X10_of_17, k_X10_of_18, k_X10_of_19, k_X10_of_20, k_X10_of_21, k_X10_of_22, k_X10_of_23, k_X10_of_24, k_X10_of_25, k_X10_of_26, k_X10_of_27, k_X10_of_28, k_X10_of_29, k_X10_of_30, k_X10_of_31, k_X10_of_32, oE_some, Int.reduceToNat, Nat.reduceAdd, true_and, and_true, List.length_cons, List.length_nil, Option.toList_some, Option.toList_none, List.cons_append, List.nil_append, Nat.reduceLeDiff, Nat.le_refl, wdS_nil, wdS_i, wdS_l, wdS_r, wdS_n, wdS_s, swT_cons, swT_nil, hw, c0, c1, wz0, wz1, wz2, wz3, wz4, wz5, wz6, Int.reduceEq, ↓reduceIte, o1, rw_drops hR, rA_12 hR, bI rfl hi (FC_31 n), gI rfl hi (FC_31 n)]
      · rw [if_neg c1]
        by_cases c2 : w = 2
        · rw [if_pos c2]
          simp only [AW_k, AWk_1, x_switch, AW_sw, AW_sw0, x_aload_0, x_aloads_0, x_getf, x_iload_3, x_iald, x_ialds, x_call_1, x_ret, x_ret_i, x_ret_z, x_ret_l, x_ret_c, x_callv_2, x_push_i, x_push_l, k_X10_of_10, k_X10_of_11, k_X10_of_12, k_X10_of_13, k_X10_of_14, k_X10_of_15, k_X10_of_16, k_X10_of_17, k_X10_of_18, k_X10_of_19, k_X10_of_20, k_X10_of_21, k_X10_of_22, k_X10_of_23, k_X10_of_24, k_X10_of_25, k_X10_of_26, k_X10_of_27, k_X10_of_28, k_X10_of_29, k_X10_of_30, k_X10_of_31, k_X10_of_32, oE_some, Int.reduceToNat, Nat.reduceAdd, true_and, and_true, List.length_cons, List.length_nil, Option.toList_some, Option.toList_none, List.cons_append, List.nil_append, Nat.reduceLeDiff, Nat.le_refl, wdS_nil, wdS_i, wdS_l, wdS_r, wdS_n, wdS_s, swT_cons, swT_nil, hw, c0, c1, c2, wz0, wz1, wz2, wz3, wz4, wz5, wz6, Int.reduceEq, ↓reduceIte]
        · rw [if_neg c2]
          by_cases c3 : w = 3
          · rw [if_pos c3]
            simp only [AW_k, AWk_1, x_switch, AW_sw, AW_sw0, x_aload_0, x_aloads_0, x_getf, x_iload_3, x_iald, x_ialds, x_call_1, x_ret, x_ret_i, x_ret_z, x_ret_l, x_ret_c, x_callv_2, x_push_i, x_push_l, k_X10_of_10, k_X10_of_11, k_X10_of_12, k_X10_of_13, k_X10_of_14, k_X10_of_15, k_X10_of_16, k_X10_of_17, k_X10_of_18, k_X10_of_19, k_X10_of_20, k_X10_of_21, k_X10_of_22, k_X10_of_23, k_X10_of_24, k_X10_of_25, k_X10_of_26, k_X10_of_27, k_X10_of_28, k_X10_of_29, k_X10_of_30, k_X10_of_31, k_X10_of_32, oE_some, Int.reduceToNat, Nat.reduceAdd, true_and, and_true, List.length_cons, List.length_nil, Option.toList_some, Option.toList_none, List.cons_append, List.nil_append, Nat.reduceLeDiff, Nat.le_refl, wdS_nil, wdS_i, wdS_l, wdS_r, wdS_n, wdS_s, swT_cons, swT_nil, hw, c0, c1, c2, c3, wz0, wz1, wz2, wz3, wz4, wz5, wz6, Int.reduceEq, ↓reduceIte, o1, cR, c4_turnedRound (d + 97) hR hi]
          · rw [if_neg c3]
            simp only [AW_k, AWk_1, x_switch, AW_sw, AW_sw0, x_aload_0, x_aloads_0, x_getf, x_iload_3, x_iald, x_ialds, x_call_1, x_ret, x_ret_i, x_ret_z, x_ret_l, x_ret_c, x_callv_2, x_push_i, x_push_l, k_X10_of_10, k_X10_of_11, k_X10_of_12, k_X10_of_13, k_X10_of_14, k_X10_of_15, k_X10_of_16, k_X10_of_17, k_X10_of_18, k_X10_of_19, k_X10_of_20, k_X10_of_21, k_X10_of_22, k_X10_of_23, k_X10_of_24, k_X10_of_25, k_X10_of_26, k_X10_of_27, k_X10_of_28, k_X10_of_29, k_X10_of_30, k_X10_of_31, k_X10_of_32, oE_some, Int.reduceToNat, Nat.reduceAdd, true_and, and_true, List.length_cons, List.length_nil, Option.toList_some, Option.toList_none, List.cons_append, List.nil_append, Nat.reduceLeDiff, Nat.le_refl, wdS_nil, wdS_i, wdS_l, wdS_r, wdS_n, wdS_s, swT_cons, swT_nil, hw, c0, c1, c2, c3, wz0, wz1, wz2, wz3, wz4, wz5, wz6, Int.reduceEq, ↓reduceIte]
/-- a row by its index -/
def rwA (n : Nat) (x : Int) : Int := if 0 ≤ x ∧ x < ((FC n : Nat) : Int) then ((num n x.toNat : Nat) : Int) else -1
set_option maxHeartbeats 8000000 in
theorem x10_rowAt (d : Nat) {hp : HP} {n : Nat} {G : BitVec 64} {z : Int} {c : Nat} {ks : List Int} {es : List Int} {ik : Bool} {kn : Nat} {kG : BitVec 64} {kz : Int} {kc : Nat} {kks : List Int} {kes : List Int} {tc : Nat} {tb : List Int} {sc : Nat} {tl : List Int} {so : List Int} {le : List Int} {it : Nat → List (BitVec 64)} {he : List Int} {th : List Int} {sl : List Int} {tr : Nat} {bo : List Int} {x : Int} (hX : XI hp n G z c ks es ik kn kG kz kc kks kes tc tb sc tl so le it he th sl tr bo) (hx : w32 x = x) (R : PO) : callD (d + 100) 106 [mR 0, mI x] hp R ↔ R (some (mI (rwA n x))) hp := by
  obtain ⟨ra, ts, q0, q1, q2, q3, q4, q5, q6, q7, q8, q9, q10, q11, qk⟩ := hX
  have hR := q1.1
  have h1 := rw_1 hR
  have h6 := rw_6 hR
  have f1 := FC_le n
  have cR := rC0 hR
  have cA := rC1 hR
  have o0 : gF hp 0 10 0 = some (mR 1) := XO_F q0 0
  have o1 : gF hp 0 10 1 = some (mR ra) := XO_F q0 1
  have o2 : gF hp 0 10 2 = some (mL G) := XO_F q0 2
  have o3 : gF hp 0 10 3 = some (mI z) := XO_F q0 3
  have o4 : gF hp 0 10 4 = some (mR 2) := XO_F q0 4
  have o5 : gF hp 0 10 5 = some (mR 5) := XO_F q0 5
  have o6 : gF hp 0 10 6 = some (mR 10) := XO_F q0 6
  have o7 : gF hp 0 10 7 = some (mR 14) := XO_F q0 7
  have o8 : gF hp 0 10 8 = some (mR 17) := XO_F q0 8
  have o9 : gF hp 0 10 9 = some (mR 19) := XO_F q0 9
  have o10 : gF hp 0 10 10 = some (mR 27) := XO_F q0 10
  have o11 : gF hp 0 10 11 = some (mR 31) := XO_F q0 11
  have o12 : gF hp 0 10 12 = some (mR 33) := XO_F q0 12
  have o13 : gF hp 0 10 13 = some (mI (zI ik)) := XO_F q0 13
  have o14 : gF hp 0 10 14 = some (mI (kn : Int)) := XO_F q0 14
  have o15 : gF hp 0 10 15 = some (mL kG) := XO_F q0 15
  have o16 : gF hp 0 10 16 = some (mI kz) := XO_F q0 16
  have o17 : gF hp 0 10 17 = some (mR 34) := XO_F q0 17
  have cO := gC_of o0
  unfold rwA
  rw [callD_k]; simp only [entL_i, entL_l, entL_q, entL_s, entL_nil, n_X10_rowAt, u_X10_rowAt, m_X10_rowAt, rep_0, List.cons_append, List.nil_append, List.append_nil, List.length_cons, List.length_nil, Nat.reduceAdd, true_and]
  simp only [AW_k, AWk_1, x_iload_1, x_if_lt, x_aload_0, x_aloads_0, x_getf, x_icmp_lt, x_push_i, x_push_l, x_goto, k_X10_rowAt_0, k_X10_rowAt_1, k_X10_rowAt_2, k_X10_rowAt_3, k_X10_rowAt_4, k_X10_rowAt_5, k_X10_rowAt_6, k_X10_rowAt_7, k_X10_rowAt_8, oE_some, Int.reduceToNat, Nat.reduceAdd, true_and, and_true, List.length_cons, List.length_nil, Option.toList_some, Option.toList_none, List.cons_append, List.nil_append, Nat.reduceLeDiff, Nat.le_refl, wdS_nil, wdS_i, wdS_l, wdS_r, wdS_n, wdS_s, o1, rw_count hR, hx, w32_nat (FC_31 n)]
  by_cases c0 : x < 0
  · rw [if_pos c0, if_neg (by omega)]
    simp only [AW_k, AWk_1, x_push_i, x_push_l, x_goto, x_aload_0, x_aloads_0, x_getf, x_iload_1, x_iald, x_ialds, x_ret, x_ret_i, x_ret_z, x_ret_l, x_ret_c, k_X10_rowAt_7, k_X10_rowAt_8, k_X10_rowAt_9, k_X10_rowAt_10, k_X10_rowAt_11, k_X10_rowAt_12, k_X10_rowAt_13, k_X10_rowAt_14, oE_some, Int.reduceToNat, Nat.reduceAdd, true_and, and_true, List.length_cons, List.length_nil, Option.toList_some, Option.toList_none, List.cons_append, List.nil_append, Nat.reduceLeDiff, Nat.le_refl, wdS_nil, wdS_i, wdS_l, wdS_r, wdS_n, wdS_s]
  · rw [if_neg c0]
    by_cases c1 : x < ((FC n : Nat) : Int)
    · obtain ⟨i, ei⟩ : ∃ i : Nat, x = (i : Int) := ⟨x.toNat, by omega⟩
      subst ei
      have hi : i < FC n := by omega
      rw [if_pos c1, if_pos ⟨by omega, c1⟩, Int.toNat_natCast]
      simp only [AW_k, AWk_1, x_aload_0, x_aloads_0, x_getf, x_iload_1, x_iald, x_ialds, x_ret, x_ret_i, x_ret_z, x_ret_l, x_ret_c, k_X10_rowAt_9, k_X10_rowAt_10, k_X10_rowAt_11, k_X10_rowAt_12, k_X10_rowAt_13, k_X10_rowAt_14, oE_some, Int.reduceToNat, Nat.reduceAdd, true_and, and_true, List.length_cons, List.length_nil, Option.toList_some, Option.toList_none, List.cons_append, List.nil_append, Nat.reduceLeDiff, Nat.le_refl, wdS_nil, wdS_i, wdS_l, wdS_r, wdS_n, wdS_s, o1, rw_nums hR, rA_10 hR, bI rfl hi (FC_31 n), gI rfl hi (FC_31 n)]
    · rw [if_neg c1, if_neg (by omega)]
      simp only [AW_k, AWk_1, x_push_i, x_push_l, x_goto, x_aload_0, x_aloads_0, x_getf, x_iload_1, x_iald, x_ialds, x_ret, x_ret_i, x_ret_z, x_ret_l, x_ret_c, k_X10_rowAt_7, k_X10_rowAt_8, k_X10_rowAt_9, k_X10_rowAt_10, k_X10_rowAt_11, k_X10_rowAt_12, k_X10_rowAt_13, k_X10_rowAt_14, oE_some, Int.reduceToNat, Nat.reduceAdd, true_and, and_true, List.length_cons, List.length_nil, Option.toList_some, Option.toList_none, List.cons_append, List.nil_append, Nat.reduceLeDiff, Nat.le_refl, wdS_nil, wdS_i, wdS_l, wdS_r, wdS_n, wdS_s]
