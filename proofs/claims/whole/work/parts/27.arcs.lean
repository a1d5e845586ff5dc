/-! ===== the class's arcs and makers ===== -/
def arc_ok_b (n : Nat) : Bool := allB (fun a => Nat.ble 1 (lo n a) && (Nat.ble (lo n a + 1) (hi n a) && (Nat.ble (hi n a) n && (Nat.ble (lf n a + 1) (2 ^ (hi n a - lo n a - 1)) && (lc n a + rc n a == hi n a - lo n a - 1))))) (NA n)
theorem arc_ok_c : all6 arc_ok_b = true := by decide +kernel
theorem arc_ok {n a : Nat} (h1 : 1 ≤ n) (h6 : n ≤ 6) (ha : a < NA n) : 1 ≤ lo n a ∧ lo n a < hi n a ∧ hi n a ≤ n ∧ lf n a < 2 ^ (hi n a - lo n a - 1) ∧ lc n a + rc n a = hi n a - lo n a - 1 := by
  have := allB_of (all6_of arc_ok_c h1 h6) a ha
  simp only [Bool.and_eq_true, Nat.ble_eq, beq_iff_eq] at this
  exact this
/-- with what they force -/
def clF (n : Nat) (s : BitVec 64) : Nat → BitVec 64
  | 0 => s
  | k + 1 => if s.getLsbD k = true then clF n s k ||| BitVec.ofNat 64 (fo n k) else clF n s k
def cl (n : Nat) (s : BitVec 64) : BitVec 64 := clF n s (NA n)
theorem sh_k {k : Nat} (h : k < 64) : (w32 (k : Int) % 64).toNat = k := by
  rw [w32_nat (by omega)]; omega
set_option maxHeartbeats 8000000 in
theorem c1_withForced (d : Nat) {hp : HP} {ra n : Nat} {s : BitVec 64} (h : RWS hp ra n) (R : PO) : callD (d + 1) 13 [mR (ra + 1), mL s] hp R ↔ R (some (mL (cl n s))) hp := by
  have f1 := NA_le n
  rw [callD_k]; simp only [entL_i, entL_l, entL_q, entL_s, entL_nil, n_X1_withForced, u_X1_withForced, m_X1_withForced, rep_3, List.cons_append, List.nil_append, List.append_nil, List.length_cons, List.length_nil, Nat.reduceAdd, true_and]
  simp only [AW_k, AWk_1, x_lload_1, x_lstore_3, x_push_i, x_push_l, x_istore_5, x_iload_5, x_aload_0, x_aloads_0, x_getf, x_icmp_ge, x_lushr, x_land, x_lcmp, x_if_eq, x_lload_3, x_lald, x_lor, x_iinc_5, x_goto, x_ret, x_ret_i, x_ret_z, x_ret_l, x_ret_c, unl_i, unl_l, unl_q, unl_r, unl_s, unl_n, k_X1_withForced_0, k_X1_withForced_1, k_X1_withForced_2, k_X1_withForced_3, k_X1_withForced_4, k_X1_withForced_5, k_X1_withForced_6, k_X1_withForced_7, k_X1_withForced_8, k_X1_withForced_9, k_X1_withForced_10, k_X1_withForced_11, k_X1_withForced_12, k_X1_withForced_13, k_X1_withForced_14, k_X1_withForced_15, k_X1_withForced_16, k_X1_withForced_17, k_X1_withForced_18, k_X1_withForced_19, k_X1_withForced_20, k_X1_withForced_21, k_X1_withForced_22, k_X1_withForced_23, k_X1_withForced_24, k_X1_withForced_25, k_X1_withForced_26, oE_some, Int.reduceToNat, Nat.reduceAdd, true_and, and_true, List.length_cons, List.length_nil, Option.toList_some, Option.toList_none, List.cons_append, List.nil_append, Nat.reduceLeDiff, Nat.le_refl, wdS_nil, wdS_i, wdS_l, wdS_r, wdS_n, wdS_s]
  refine (loop_to (P := fun k => AWh d [] 13 R 4 [some (mR (ra + 1)), some (mL s), none, some (mL (clF n s k)), none, some (mI (k : Int))] [] hp (0, 0)) (a := 0) (b := NA n) (by omega) ?_).trans ?_
  · intro k _ hk
    rw [AWh_k, k_X1_withForced_4]
    simp only [AW_k, AWk_1, x_lload_1, x_lstore_3, x_push_i, x_push_l, x_istore_5, x_iload_5, x_aload_0, x_aloads_0, x_getf, x_icmp_ge, x_lushr, x_land, x_lcmp, x_if_eq, x_lload_3, x_lald, x_lor, x_iinc_5, x_goto, x_ret, x_ret_i, x_ret_z, x_ret_l, x_ret_c, unl_i, unl_l, unl_q, unl_r, unl_s, unl_n, k_X1_withForced_0, k_X1_withForced_1, k_X1_withForced_2, k_X1_withForced_3, k_X1_withForced_4, k_X1_withForced_5, k_X1_withForced_6, k_X1_withForced_7, k_X1_withForced_8, k_X1_withForced_9, k_X1_withForced_10, k_X1_withForced_11, k_X1_withForced_12, k_X1_withForced_13, k_X1_withForced_14, k_X1_withForced_15, k_X1_withForced_16, k_X1_withForced_17, k_X1_withForced_18, k_X1_withForced_19, k_X1_withForced_20, k_X1_withForced_21, k_X1_withForced_22, k_X1_withForced_23, k_X1_withForced_24, k_X1_withForced_25, k_X1_withForced_26, oE_some, Int.reduceToNat, Nat.reduceAdd, true_and, and_true, List.length_cons, List.length_nil, Option.toList_some, Option.toList_none, List.cons_append, List.nil_append, Nat.reduceLeDiff, Nat.le_refl, wdS_nil, wdS_i, wdS_l, wdS_r, wdS_n, wdS_s, rw_ac h, lCmp_eq, sh_k (show k < 64 by omega), shr_one0, ite_bf, rw_forced h, rA_8 h, bJ rfl hk (NA_31 n), gJt rfl hk (NA_31 n)]
    rw [w32_nat (show k < 2147483648 by omega), w32_nat (NA_31 n), if_pos (by omega)]
    show _ ↔ AWh _ _ _ _ _ [_, _, _, some (mL (if s.getLsbD k = true then clF n s k ||| BitVec.ofNat 64 (fo n k) else clF n s k)), _, _] _ _ _
    cases s.getLsbD k <;> exact Iff.rfl
  · rw [AWh_k, k_X1_withForced_4]
    simp only [AW_k, AWk_1, x_lload_1, x_lstore_3, x_push_i, x_push_l, x_istore_5, x_iload_5, x_aload_0, x_aloads_0, x_getf, x_icmp_ge, x_lushr, x_land, x_lcmp, x_if_eq, x_lload_3, x_lald, x_lor, x_iinc_5, x_goto, x_ret, x_ret_i, x_ret_z, x_ret_l, x_ret_c, unl_i, unl_l, unl_q, unl_r, unl_s, unl_n, k_X1_withForced_0, k_X1_withForced_1, k_X1_withForced_2, k_X1_withForced_3, k_X1_withForced_4, k_X1_withForced_5, k_X1_withForced_6, k_X1_withForced_7, k_X1_withForced_8, k_X1_withForced_9, k_X1_withForced_10, k_X1_withForced_11, k_X1_withForced_12, k_X1_withForced_13, k_X1_withForced_14, k_X1_withForced_15, k_X1_withForced_16, k_X1_withForced_17, k_X1_withForced_18, k_X1_withForced_19, k_X1_withForced_20, k_X1_withForced_21, k_X1_withForced_22, k_X1_withForced_23, k_X1_withForced_24, k_X1_withForced_25, k_X1_withForced_26, oE_some, Int.reduceToNat, Nat.reduceAdd, true_and, and_true, List.length_cons, List.length_nil, Option.toList_some, Option.toList_none, List.cons_append, List.nil_append, Nat.reduceLeDiff, Nat.le_refl, wdS_nil, wdS_i, wdS_l, wdS_r, wdS_n, wdS_s, rw_ac h]
    rw [if_neg (Int.lt_irrefl _)]
    exact Iff.rfl
/-- the arcs for which f holds -/
def stB (f : Nat → Bool) : Nat → BitVec 64
  | 0 => 0#64
  | k + 1 => stB f k ||| (if f k = true then 1#64 <<< k else 0#64)
/-- does a maker take an arc -/
def tk (n kind m a : Nat) : Bool := match kind with
  | 1 => decide (0 < lc n a)
  | 2 => decide (m < hi n a - lo n a)
  | 3 => decide (0 < lc n a) && decide (0 < rc n a)
  | 4 => !decide (lf n a = m / 2 ^ (lo n a - 1) % 2 ^ (hi n a - lo n a - 1))
  | 5 => decide (m < hi n a - lo n a) || decide (rc n a < lc n a)
  | _ => false
theorem lc_8 (n i : Nat) : lc n i < 8 := Nat.mod_lt _ (by decide)
theorem rc_8 (n i : Nat) : rc n i < 8 := Nat.mod_lt _ (by decide)
theorem iXor_nat {a b : Nat} (h : a < 2147483648) (h2 : b < 2147483648) : iXor (a : Int) (b : Int) = ((a ^^^ b : Nat) : Int) := by
  show (BitVec.ofInt 32 (a : Int) ^^^ BitVec.ofInt 32 (b : Int)).toInt = _
  rw [bO_nat, bO_nat]
  have e : (BitVec.ofNat 32 a ^^^ BitVec.ofNat 32 b).toNat = a ^^^ b := by rw [BitVec.toNat_xor, bO_toNat h, bO_toNat h2]
  have hb : a ^^^ b < 2147483648 := Nat.xor_lt_two_pow (n := 31) h h2
  rw [bT_small (by rw [e]; exact hb), e]
theorem xor_0 {a b : Nat} : (a ^^^ b = 0) = (a = b) := by
  apply propext
  constructor
  · intro h
    apply Nat.eq_of_testBit_eq
    intro i
    have := congrArg (fun x : Nat => x.testBit i) h
    simp only [Nat.testBit_xor, Nat.zero_testBit] at this
    cases ha : a.testBit i <;> cases hb : b.testBit i <;> simp_all
  · intro h
    rw [h, Nat.xor_self]
theorem sgn_eq {m a len : Nat} (hm : m < 16) (ha1 : 1 ≤ a) (ha : a < 8) (hl1 : 1 ≤ len) (hl : len < 8) : iAnd (iShr (m : Int) ((a : Int) - 1)) (iShl 1 ((len : Int) - 1) - 1) = ((m / 2 ^ (a - 1) % 2 ^ (len - 1) : Nat) : Int) := by
  have e1 : (a : Int) - 1 = ((a - 1 : Nat) : Int) := by omega
  have e2 : (len : Int) - 1 = ((len - 1 : Nat) : Int) := by omega
  rw [e1, e2, iShr_nat (by omega) (by omega), iShl_1 (by omega)]
  have p1 : 0 < 2 ^ (len - 1) := Nat.two_pow_pos _
  have p2 : 2 ^ (len - 1) < 2147483648 := pow31 (by omega)
  have e3 : ((2 ^ (len - 1) : Nat) : Int) - 1 = ((2 ^ (len - 1) - 1 : Nat) : Int) := by omega
  have p3 : m / 2 ^ (a - 1) < 2147483648 := Nat.lt_of_le_of_lt (Nat.div_le_self _ _) (by omega)
  rw [e3, iAnd_nat p3 (by omega), Nat.and_two_pow_sub_one_eq_mod]
set_option maxHeartbeats 8000000 in
theorem c3_signsWithin (d : Nat) {hp : HP} {m a len : Nat} (hm : m < 16) (ha1 : 1 ≤ a) (ha : a < 8) (hl1 : 1 ≤ len) (hl : len < 8) (R : PO) : callD (d + 1) 28 [mI (m : Int), mI (a : Int), mI (len : Int)] hp R ↔ R (some (mI ((m / 2 ^ (a - 1) % 2 ^ (len - 1) : Nat) : Int))) hp := by
  rw [callD_k]; simp only [entL_i, entL_l, entL_q, entL_s, entL_nil, n_X3_signsWithin, u_X3_signsWithin, m_X3_signsWithin, rep_0, List.cons_append, List.nil_append, List.append_nil, List.length_cons, List.length_nil, Nat.reduceAdd, true_and]
  simp only [AW_k, AWk_1, x_iload_0, x_iload_1, x_push_i, x_push_l, x_isub, x_ishr, x_iload_2, x_ishl, x_iand, x_ret, x_ret_i, x_ret_z, x_ret_l, x_ret_c, k_X3_signsWithin_0, k_X3_signsWithin_1, k_X3_signsWithin_2, k_X3_signsWithin_3, k_X3_signsWithin_4, k_X3_signsWithin_5, k_X3_signsWithin_6, k_X3_signsWithin_7, k_X3_signsWithin_8, k_X3_signsWithin_9, k_X3_signsWithin_10, k_X3_signsWithin_11, k_X3_signsWithin_12, k_X3_signsWithin_13, oE_some, Int.reduceToNat, Nat.reduceAdd, true_and, and_true, List.length_cons, List.length_nil, Option.toList_some, Option.toList_none, List.cons_append, List.nil_append, Nat.reduceLeDiff, Nat.le_refl, wdS_nil, wdS_i, wdS_l, wdS_r, wdS_n, wdS_s, sgn_eq hm ha1 ha hl1 hl]
theorem z1 : w32 ((1 : Nat) : Int) = 1 := rfl
theorem z2 : w32 ((2 : Nat) : Int) = 2 := rfl
theorem z3 : w32 ((3 : Nat) : Int) = 3 := rfl
theorem z4 : w32 ((4 : Nat) : Int) = 4 := rfl
theorem z5 : w32 ((5 : Nat) : Int) = 5 := rfl
theorem z0 : w32 ((0 : Nat) : Int) = 0 := rfl
theorem w_lt {a b : Nat} (ha : a < 2147483648) (hb : b < 2147483648) : (w32 (a : Int) < w32 (b : Int)) = (a < b) := by
  rw [w32_nat ha, w32_nat hb]; apply propext; omega
theorem w_0lt {a : Nat} (ha : a < 2147483648) : (0 < w32 (a : Int)) = (0 < a) := by
  rw [w32_nat ha]; apply propext; omega
theorem w_eq0 {a : Nat} (ha : a < 2147483648) : (w32 (a : Int) = 0) = (a = 0) := by
  rw [w32_nat ha]; apply propext; omega
theorem ite_zI3 (c : Prop) [Decidable c] : (if c then (some (mI 1) : Option AV) else some (mI 0)) = some (mI (zI (decide c))) := by by_cases h : c <;> simp [h, zI]
theorem ite2a (c e : Prop) [Decidable c] [Decidable e] : (if c then (if e then (some (mI 1) : Option AV) else some (mI 0)) else some (mI 0)) = some (mI (zI (decide c && decide e))) := by by_cases h : c <;> by_cases h2 : e <;> simp [h, h2, zI]
theorem ite2o (c e : Prop) [Decidable c] [Decidable e] : (if c then (some (mI 1) : Option AV) else (if e then some (mI 1) else some (mI 0))) = some (mI (zI (decide c || decide e))) := by by_cases h : c <;> by_cases h2 : e <;> simp [h, h2, zI]
theorem tk_sgn {n m a : Nat} (hm : m < 16) (hlen : lo n a < hi n a) : iXor (lf n a : Int) ((m / 2 ^ (lo n a - 1) % 2 ^ (hi n a - lo n a - 1) : Nat) : Int) = ((lf n a ^^^ (m / 2 ^ (lo n a - 1) % 2 ^ (hi n a - lo n a - 1)) : Nat) : Int) ∧ lf n a ^^^ (m / 2 ^ (lo n a - 1) % 2 ^ (hi n a - lo n a - 1)) < 2147483648 := by
  have b5 := lf_16 n a
  have b6 : m / 2 ^ (lo n a - 1) % 2 ^ (hi n a - lo n a - 1) < 2147483648 := Nat.lt_of_le_of_lt (Nat.mod_le _ _) (Nat.lt_of_le_of_lt (Nat.div_le_self _ _) (Nat.lt_trans hm (by decide)))
  exact ⟨iXor_nat (Nat.lt_trans b5 (by decide)) b6, Nat.xor_lt_two_pow (n := 31) (Nat.lt_trans b5 (by decide)) b6⟩
set_option maxHeartbeats 16000000 in
theorem c3_takes0 (d : Nat) {hp : HP} {ra n m a : Nat} (h : RWS hp ra n) (hm : m < 16) (ha : a < NA n) (R : PO) : callD (d + 2) 27 [mI ((0 : Nat) : Int), mI (m : Int), mR (ra + 1), mI (a : Int)] hp R ↔ R (some (mI (zI (tk n 0 m a)))) hp := by
  obtain ⟨a1, a2, a3, -, -⟩ := arc_ok (rw_1 h) (rw_6 h) ha
  have el : (hi n a : Int) - (lo n a : Int) = ((hi n a - lo n a : Nat) : Int) := by omega
  have b1 : lc n a < 2147483648 := Nat.lt_trans (lc_8 n a) (by decide)
  have b2 : rc n a < 2147483648 := Nat.lt_trans (rc_8 n a) (by decide)
  have b3 := hi_8 n a
  have b4 := lo_8 n a
  have bm : m < 2147483648 := Nat.lt_trans hm (by decide)
  have bl : hi n a - lo n a < 2147483648 := by omega
  obtain ⟨hx, hx2⟩ := tk_sgn hm a2
  have g1 := @gI (lc n) (NA n) _ a rfl ha (NA_31 n)
  have g2 := @gI (rc n) (NA n) _ a rfl ha (NA_31 n)
  have g3 := @gI (hi n) (NA n) _ a rfl ha (NA_31 n)
  have g4 := @gI (lo n) (NA n) _ a rfl ha (NA_31 n)
  have g5 := @gI (lf n) (NA n) _ a rfl ha (NA_31 n)
  rw [callD_k]; simp only [entL_i, entL_l, entL_q, entL_s, entL_nil, n_X3_takes, u_X3_takes, m_X3_takes, rep_3, List.cons_append, List.nil_append, List.append_nil, List.length_cons, List.length_nil, Nat.reduceAdd, true_and]
  simp only [AW_k, AWk_1, x_aload_2, x_aloads_2, x_getf, x_iload_3, x_iald, x_ialds, x_istore_4, x_istore_5, x_isub, x_istore_6, x_iload_0, x_switch, AW_sw, AW_sw0, x_iload_4, x_if_le, x_push_i, x_push_l, x_goto, x_ret, x_ret_i, x_ret_z, x_ret_l, x_ret_c, x_iload_6, x_iload_1, x_icmp_le, x_iload_5, x_call_3, x_ixor, x_if_eq, x_icmp_gt, unl_i, unl_l, unl_q, unl_r, unl_s, unl_n, k_X3_takes_0, k_X3_takes_1, k_X3_takes_2, k_X3_takes_3, k_X3_takes_4, k_X3_takes_5, k_X3_takes_6, k_X3_takes_7, k_X3_takes_8, k_X3_takes_9, k_X3_takes_10, k_X3_takes_11, k_X3_takes_12, k_X3_takes_13, k_X3_takes_14, k_X3_takes_15, k_X3_takes_16, k_X3_takes_17, k_X3_takes_18, k_X3_takes_19, k_X3_takes_20, k_X3_takes_21, k_X3_takes_22, k_X3_takes_23, k_X3_takes_24, k_X3_takes_25, k_X3_takes_26, k_X3_takes_27, k_X3_takes_28, k_X3_takes_29, k_X3_takes_30, k_X3_takes_31, k_X3_takes_32, k_X3_takes_33, k_X3_takes_34, k_X3_takes_35, k_X3_takes_36, k_X3_takes_37, k_X3_takes_38, k_X3_takes_39, k_X3_takes_40, k_X3_takes_41, k_X3_takes_42, k_X3_takes_43, k_X3_takes_44, k_X3_takes_45, k_X3_takes_46, k_X3_takes_47, k_X3_takes_48, k_X3_takes_49, k_X3_takes_50, k_X3_takes_51, k_X3_takes_52, k_X3_takes_53, k_X3_takes_54, k_X3_takes_55, k_X3_takes_56, k_X3_takes_57, k_X3_takes_58, k_X3_takes_59, k_X3_takes_60, k_X3_takes_61, k_X3_takes_62, k_X3_takes_63, k_X3_takes_64, k_X3_takes_65, k_X3_takes_66, k_X3_takes_67, k_X3_takes_68, k_X3_takes_69, k_X3_takes_70, k_X3_takes_71, oE_some, Int.reduceToNat, Nat.reduceAdd, true_and, and_true, List.length_cons, List.length_nil, Option.toList_some, Option.toList_none, List.cons_append, List.nil_append, Nat.reduceLeDiff, Nat.le_refl, wdS_nil, wdS_i, wdS_l, wdS_r, wdS_n, wdS_s, rw_lefts h, rw_rights h, rw_high h, rw_low h, rw_left h, rA_6 h, rA_7 h, rA_4 h, rA_3 h, rA_5 h, bI rfl ha (NA_31 n), g1, g2, g3, g4, g5, el, z0, swT_cons, swT_nil, Int.reduceEq, if_false, if_true, reduceIte, or_true, true_or, R_ite]
  exact Iff.rfl
set_option maxHeartbeats 16000000 in
theorem c3_takes1 (d : Nat) {hp : HP} {ra n m a : Nat} (h : RWS hp ra n) (hm : m < 16) (ha : a < NA n) (R : PO) : callD (d + 2) 27 [mI ((1 : Nat) : Int), mI (m : Int), mR (ra + 1), mI (a : Int)] hp R ↔ R (some (mI (zI (tk n 1 m a)))) hp := by
  obtain ⟨a1, a2, a3, -, -⟩ := arc_ok (rw_1 h) (rw_6 h) ha
  have el : (hi n a : Int) - (lo n a : Int) = ((hi n a - lo n a : Nat) : Int) := by omega
  have b1 : lc n a < 2147483648 := Nat.lt_trans (lc_8 n a) (by decide)
  have b2 : rc n a < 2147483648 := Nat.lt_trans (rc_8 n a) (by decide)
  have b3 := hi_8 n a
  have b4 := lo_8 n a
  have bm : m < 2147483648 := Nat.lt_trans hm (by decide)
  have bl : hi n a - lo n a < 2147483648 := by omega
  obtain ⟨hx, hx2⟩ := tk_sgn hm a2
  have g1 := @gI (lc n) (NA n) _ a rfl ha (NA_31 n)
  have g2 := @gI (rc n) (NA n) _ a rfl ha (NA_31 n)
  have g3 := @gI (hi n) (NA n) _ a rfl ha (NA_31 n)
  have g4 := @gI (lo n) (NA n) _ a rfl ha (NA_31 n)
  have g5 := @gI (lf n) (NA n) _ a rfl ha (NA_31 n)
  rw [callD_k]; simp only [entL_i, entL_l, entL_q, entL_s, entL_nil, n_X3_takes, u_X3_takes, m_X3_takes, rep_3, List.cons_append, List.nil_append, List.append_nil, List.length_cons, List.length_nil, Nat.reduceAdd, true_and]
  simp only [AW_k, AWk_1, x_aload_2, x_aloads_2, x_getf, x_iload_3, x_iald, x_ialds, x_istore_4, x_istore_5, x_isub, x_istore_6, x_iload_0, x_switch, AW_sw, AW_sw0, x_iload_4, x_if_le, x_push_i, x_push_l, x_goto, x_ret, x_ret_i, x_ret_z, x_ret_l, x_ret_c, x_iload_6, x_iload_1, x_icmp_le, x_iload_5, x_call_3, x_ixor, x_if_eq, x_icmp_gt, unl_i, unl_l, unl_q, unl_r, unl_s, unl_n, k_X3_takes_0, k_X3_takes_1, k_X3_takes_2, k_X3_takes_3, k_X3_takes_4, k_X3_takes_5, k_X3_takes_6, k_X3_takes_7, k_X3_takes_8, k_X3_takes_9, k_X3_takes_10, k_X3_takes_11, k_X3_takes_12, k_X3_takes_13, k_X3_takes_14, k_X3_takes_15, k_X3_takes_16, k_X3_takes_17, k_X3_takes_18, k_X3_takes_19, k_X3_takes_20, k_X3_takes_21, k_X3_takes_22, k_X3_takes_23, k_X3_takes_24, k_X3_takes_25, k_X3_takes_26, k_X3_takes_27, k_X3_takes_28, k_X3_takes_29, k_X3_takes_30, k_X3_takes_31, k_X3_takes_32, k_X3_takes_33, k_X3_takes_34, k_X3_takes_35, k_X3_takes_36, k_X3_takes_37, k_X3_takes_38, k_X3_takes_39, k_X3_takes_40, k_X3_takes_41, k_X3_takes_42, k_X3_takes_43, k_X3_takes_44, k_X3_takes_45, k_X3_takes_46, k_X3_takes_47, k_X3_takes_48, k_X3_takes_49, k_X3_takes_50, k_X3_takes_51, k_X3_takes_52, k_X3_takes_53, k_X3_takes_54, k_X3_takes_55, k_X3_takes_56, k_X3_takes_57, k_X3_takes_58, k_X3_takes_59, k_X3_takes_60, k_X3_takes_61, k_X3_takes_62, k_X3_takes_63, k_X3_takes_64, k_X3_takes_65, k_X3_takes_66, k_X3_takes_67, k_X3_takes_68, k_X3_takes_69, k_X3_takes_70, k_X3_takes_71, oE_some, Int.reduceToNat, Nat.reduceAdd, true_and, and_true, List.length_cons, List.length_nil, Option.toList_some, Option.toList_none, List.cons_append, List.nil_append, Nat.reduceLeDiff, Nat.le_refl, wdS_nil, wdS_i, wdS_l, wdS_r, wdS_n, wdS_s, rw_lefts h, rw_rights h, rw_high h, rw_low h, rw_left h, rA_6 h, rA_7 h, rA_4 h, rA_3 h, rA_5 h, bI rfl ha (NA_31 n), g1, g2, g3, g4, g5, el, z1, swT_cons, swT_nil, Int.reduceEq, if_false, if_true, reduceIte, or_true, true_or, R_ite, w_0lt b1, ite_zI3]
  exact Iff.rfl
set_option maxHeartbeats 16000000 in
theorem c3_takes2 (d : Nat) {hp : HP} {ra n m a : Nat} (h : RWS hp ra n) (hm : m < 16) (ha : a < NA n) (R : PO) : callD (d + 2) 27 [mI ((2 : Nat) : Int), mI (m : Int), mR (ra + 1), mI (a : Int)] hp R ↔ R (some (mI (zI (tk n 2 m a)))) hp := by
  obtain ⟨a1, a2, a3, -, -⟩ := arc_ok (rw_1 h) (rw_6 h) ha
  have el : (hi n a : Int) - (lo n a : Int) = ((hi n a - lo n a : Nat) : Int) := by omega
  have b1 : lc n a < 2147483648 := Nat.lt_trans (lc_8 n a) (by decide)
  have b2 : rc n a < 2147483648 := Nat.lt_trans (rc_8 n a) (by decide)
  have b3 := hi_8 n a
  have b4 := lo_8 n a
  have bm : m < 2147483648 := Nat.lt_trans hm (by decide)
  have bl : hi n a - lo n a < 2147483648 := by omega
  obtain ⟨hx, hx2⟩ := tk_sgn hm a2
  have g1 := @gI (lc n) (NA n) _ a rfl ha (NA_31 n)
  have g2 := @gI (rc n) (NA n) _ a rfl ha (NA_31 n)
  have g3 := @gI (hi n) (NA n) _ a rfl ha (NA_31 n)
  have g4 := @gI (lo n) (NA n) _ a rfl ha (NA_31 n)
  have g5 := @gI (lf n) (NA n) _ a rfl ha (NA_31 n)
  rw [callD_k]; simp only [entL_i, entL_l, entL_q, entL_s, entL_nil, n_X3_takes, u_X3_takes, m_X3_takes, rep_3, List.cons_append, List.nil_append, List.append_nil, List.length_cons, List.length_nil, Nat.reduceAdd, true_and]
  simp only [AW_k, AWk_1, x_aload_2, x_aloads_2, x_getf, x_iload_3, x_iald, x_ialds, x_istore_4, x_istore_5, x_isub, x_istore_6, x_iload_0, x_switch, AW_sw, AW_sw0, x_iload_4, x_if_le, x_push_i, x_push_l, x_goto, x_ret, x_ret_i, x_ret_z, x_ret_l, x_ret_c, x_iload_6, x_iload_1, x_icmp_le, x_iload_5, x_call_3, x_ixor, x_if_eq, x_icmp_gt, unl_i, unl_l, unl_q, unl_r, unl_s, unl_n, k_X3_takes_0, k_X3_takes_1, k_X3_takes_2, k_X3_takes_3, k_X3_takes_4, k_X3_takes_5, k_X3_takes_6, k_X3_takes_7, k_X3_takes_8, k_X3_takes_9, k_X3_takes_10, k_X3_takes_11, k_X3_takes_12, k_X3_takes_13, k_X3_takes_14, k_X3_takes_15, k_X3_takes_16, k_X3_takes_17, k_X3_takes_18, k_X3_takes_19, k_X3_takes_20, k_X3_takes_21, k_X3_takes_22, k_X3_takes_23, k_X3_takes_24, k_X3_takes_25, k_X3_takes_26, k_X3_takes_27, k_X3_takes_28, k_X3_takes_29, k_X3_takes_30, k_X3_takes_31, k_X3_takes_32, k_X3_takes_33, k_X3_takes_34, k_X3_takes_35, k_X3_takes_36, k_X3_takes_37, k_X3_takes_38, k_X3_takes_39, k_X3_takes_40, k_X3_takes_41, k_X3_takes_42, k_X3_takes_43, k_X3_takes_44, k_X3_takes_45, k_X3_takes_46, k_X3_takes_47, k_X3_takes_48, k_X3_takes_49, k_X3_takes_50, k_X3_takes_51, k_X3_takes_52, k_X3_takes_53, k_X3_takes_54, k_X3_takes_55, k_X3_takes_56, k_X3_takes_57, k_X3_takes_58, k_X3_takes_59, k_X3_takes_60, k_X3_takes_61, k_X3_takes_62, k_X3_takes_63, k_X3_takes_64, k_X3_takes_65, k_X3_takes_66, k_X3_takes_67, k_X3_takes_68, k_X3_takes_69, k_X3_takes_70, k_X3_takes_71, oE_some, Int.reduceToNat, Nat.reduceAdd, true_and, and_true, List.length_cons, List.length_nil, Option.toList_some, Option.toList_none, List.cons_append, List.nil_append, Nat.reduceLeDiff, Nat.le_refl, wdS_nil, wdS_i, wdS_l, wdS_r, wdS_n, wdS_s, rw_lefts h, rw_rights h, rw_high h, rw_low h, rw_left h, rA_6 h, rA_7 h, rA_4 h, rA_3 h, rA_5 h, bI rfl ha (NA_31 n), g1, g2, g3, g4, g5, el, z2, swT_cons, swT_nil, Int.reduceEq, if_false, if_true, reduceIte, or_true, true_or, R_ite, w_lt bm bl, ite_zI3]
  exact Iff.rfl
set_option maxHeartbeats 16000000 in
theorem c3_takes3 (d : Nat) {hp : HP} {ra n m a : Nat} (h : RWS hp ra n) (hm : m < 16) (ha : a < NA n) (R : PO) : callD (d + 2) 27 [mI ((3 : Nat) : Int), mI (m : Int), mR (ra + 1), mI (a : Int)] hp R ↔ R (some (mI (zI (tk n 3 m a)))) hp := by
  obtain ⟨a1, a2, a3, -, -⟩ := arc_ok (rw_1 h) (rw_6 h) ha
  have el : (hi n a : Int) - (lo n a : Int) = ((hi n a - lo n a : Nat) : Int) := by omega
  have b1 : lc n a < 2147483648 := Nat.lt_trans (lc_8 n a) (by decide)
  have b2 : rc n a < 2147483648 := Nat.lt_trans (rc_8 n a) (by decide)
  have b3 := hi_8 n a
  have b4 := lo_8 n a
  have bm : m < 2147483648 := Nat.lt_trans hm (by decide)
  have bl : hi n a - lo n a < 2147483648 := by omega
  obtain ⟨hx, hx2⟩ := tk_sgn hm a2
  have g1 := @gI (lc n) (NA n) _ a rfl ha (NA_31 n)
  have g2 := @gI (rc n) (NA n) _ a rfl ha (NA_31 n)
  have g3 := @gI (hi n) (NA n) _ a rfl ha (NA_31 n)
  have g4 := @gI (lo n) (NA n) _ a rfl ha (NA_31 n)
  have g5 := @gI (lf n) (NA n) _ a rfl ha (NA_31 n)
  rw [callD_k]; simp only [entL_i, entL_l, entL_q, entL_s, entL_nil, n_X3_takes, u_X3_takes, m_X3_takes, rep_3, List.cons_append, List.nil_append, List.append_nil, List.length_cons, List.length_nil, Nat.reduceAdd, true_and]
  simp only [AW_k, AWk_1, x_aload_2, x_aloads_2, x_getf, x_iload_3, x_iald, x_ialds, x_istore_4, x_istore_5, x_isub, x_istore_6, x_iload_0, x_switch, AW_sw, AW_sw0, x_iload_4, x_if_le, x_push_i, x_push_l, x_goto, x_ret, x_ret_i, x_ret_z, x_ret_l, x_ret_c, x_iload_6, x_iload_1, x_icmp_le, x_iload_5, x_call_3, x_ixor, x_if_eq, x_icmp_gt, unl_i, unl_l, unl_q, unl_r, unl_s, unl_n, k_X3_takes_0, k_X3_takes_1, k_X3_takes_2, k_X3_takes_3, k_X3_takes_4, k_X3_takes_5, k_X3_takes_6, k_X3_takes_7, k_X3_takes_8, k_X3_takes_9, k_X3_takes_10, k_X3_takes_11, k_X3_takes_12, k_X3_takes_13, k_X3_takes_14, k_X3_takes_15, k_X3_takes_16, k_X3_takes_17, k_X3_takes_18, k_X3_takes_19, k_X3_takes_20, k_X3_takes_21, k_X3_takes_22, k_X3_takes_23, k_X3_takes_24, k_X3_takes_25, k_X3_takes_26, k_X3_takes_27, k_X3_takes_28, k_X3_takes_29, k_X3_takes_30, k_X3_takes_31, k_X3_takes_32, k_X3_takes_33, k_X3_takes_34, k_X3_takes_35, k_X3_takes_36, k_X3_takes_37, k_X3_takes_38, k_X3_takes_39, k_X3_takes_40, k_X3_takes_41, k_X3_takes_42, k_X3_takes_43, k_X3_takes_44, k_X3_takes_45, k_X3_takes_46, k_X3_takes_47, k_X3_takes_48, k_X3_takes_49, k_X3_takes_50, k_X3_takes_51, k_X3_takes_52, k_X3_takes_53, k_X3_takes_54, k_X3_takes_55, k_X3_takes_56, k_X3_takes_57, k_X3_takes_58, k_X3_takes_59, k_X3_takes_60, k_X3_takes_61, k_X3_takes_62, k_X3_takes_63, k_X3_takes_64, k_X3_takes_65, k_X3_takes_66, k_X3_takes_67, k_X3_takes_68, k_X3_takes_69, k_X3_takes_70, k_X3_takes_71, oE_some, Int.reduceToNat, Nat.reduceAdd, true_and, and_true, List.length_cons, List.length_nil, Option.toList_some, Option.toList_none, List.cons_append, List.nil_append, Nat.reduceLeDiff, Nat.le_refl, wdS_nil, wdS_i, wdS_l, wdS_r, wdS_n, wdS_s, rw_lefts h, rw_rights h, rw_high h, rw_low h, rw_left h, rA_6 h, rA_7 h, rA_4 h, rA_3 h, rA_5 h, bI rfl ha (NA_31 n), g1, g2, g3, g4, g5, el, z3, swT_cons, swT_nil, Int.reduceEq, if_false, if_true, reduceIte, or_true, true_or, R_ite, w_0lt b1, w_0lt b2, ite2a]
  exact Iff.rfl
set_option maxHeartbeats 16000000 in
theorem c3_takes4 (d : Nat) {hp : HP} {ra n m a : Nat} (h : RWS hp ra n) (hm : m < 16) (ha : a < NA n) (R : PO) : callD (d + 2) 27 [mI ((4 : Nat) : Int), mI (m : Int), mR (ra + 1), mI (a : Int)] hp R ↔ R (some (mI (zI (tk n 4 m a)))) hp := by
  obtain ⟨a1, a2, a3, -, -⟩ := arc_ok (rw_1 h) (rw_6 h) ha
  have el : (hi n a : Int) - (lo n a : Int) = ((hi n a - lo n a : Nat) : Int) := by omega
  have b1 : lc n a < 2147483648 := Nat.lt_trans (lc_8 n a) (by decide)
  have b2 : rc n a < 2147483648 := Nat.lt_trans (rc_8 n a) (by decide)
  have b3 := hi_8 n a
  have b4 := lo_8 n a
  have bm : m < 2147483648 := Nat.lt_trans hm (by decide)
  have bl : hi n a - lo n a < 2147483648 := by omega
  have l1 : 1 ≤ hi n a - lo n a := by omega
  have l2 : hi n a - lo n a < 8 := by omega
  obtain ⟨hx, hx2⟩ := tk_sgn hm a2
  have g1 := @gI (lc n) (NA n) _ a rfl ha (NA_31 n)
  have g2 := @gI (rc n) (NA n) _ a rfl ha (NA_31 n)
  have g3 := @gI (hi n) (NA n) _ a rfl ha (NA_31 n)
  have g4 := @gI (lo n) (NA n) _ a rfl ha (NA_31 n)
  have g5 := @gI (lf n) (NA n) _ a rfl ha (NA_31 n)
  rw [callD_k]; simp only [entL_i, entL_l, entL_q, entL_s, entL_nil, n_X3_takes, u_X3_takes, m_X3_takes, rep_3, List.cons_append, List.nil_append, List.append_nil, List.length_cons, List.length_nil, Nat.reduceAdd, true_and]
  simp only [AW_k, AWk_1, x_aload_2, x_aloads_2, x_getf, x_iload_3, x_iald, x_ialds, x_istore_4, x_istore_5, x_isub, x_istore_6, x_iload_0, x_switch, AW_sw, AW_sw0, x_iload_4, x_if_le, x_push_i, x_push_l, x_goto, x_ret, x_ret_i, x_ret_z, x_ret_l, x_ret_c, x_iload_6, x_iload_1, x_icmp_le, x_iload_5, x_call_3, x_ixor, x_if_eq, x_icmp_gt, unl_i, unl_l, unl_q, unl_r, unl_s, unl_n, k_X3_takes_0, k_X3_takes_1, k_X3_takes_2, k_X3_takes_3, k_X3_takes_4, k_X3_takes_5, k_X3_takes_6, k_X3_takes_7, k_X3_takes_8, k_X3_takes_9, k_X3_takes_10, k_X3_takes_11, k_X3_takes_12, k_X3_takes_13, k_X3_takes_14, k_X3_takes_15, k_X3_takes_16, k_X3_takes_17, k_X3_takes_18, k_X3_takes_19, k_X3_takes_20, k_X3_takes_21, k_X3_takes_22, k_X3_takes_23, k_X3_takes_24, k_X3_takes_25, k_X3_takes_26, k_X3_takes_27, k_X3_takes_28, k_X3_takes_29, k_X3_takes_30, k_X3_takes_31, k_X3_takes_32, k_X3_takes_33, k_X3_takes_34, k_X3_takes_35, k_X3_takes_36, k_X3_takes_37, k_X3_takes_38, k_X3_takes_39, k_X3_takes_40, k_X3_takes_41, k_X3_takes_42, k_X3_takes_43, k_X3_takes_44, k_X3_takes_45, k_X3_takes_46, k_X3_takes_47, k_X3_takes_48, k_X3_takes_49, k_X3_takes_50, k_X3_takes_51, k_X3_takes_52, k_X3_takes_53, k_X3_takes_54, k_X3_takes_55, k_X3_takes_56, k_X3_takes_57, k_X3_takes_58, k_X3_takes_59, k_X3_takes_60, k_X3_takes_61, k_X3_takes_62, k_X3_takes_63, k_X3_takes_64, k_X3_takes_65, k_X3_takes_66, k_X3_takes_67, k_X3_takes_68, k_X3_takes_69, k_X3_takes_70, k_X3_takes_71, oE_some, Int.reduceToNat, Nat.reduceAdd, true_and, and_true, List.length_cons, List.length_nil, Option.toList_some, Option.toList_none, List.cons_append, List.nil_append, Nat.reduceLeDiff, Nat.le_refl, wdS_nil, wdS_i, wdS_l, wdS_r, wdS_n, wdS_s, rw_lefts h, rw_rights h, rw_high h, rw_low h, rw_left h, rA_6 h, rA_7 h, rA_4 h, rA_3 h, rA_5 h, bI rfl ha (NA_31 n), g1, g2, g3, g4, g5, el, z4, swT_cons, swT_nil, Int.reduceEq, if_false, if_true, reduceIte, or_true, true_or, R_ite, c3_signsWithin (d := d) hm a1 b4 l1 l2, hx, w_eq0 hx2, xor_0]
  have e : (if lf n a = m / 2 ^ (lo n a - 1) % 2 ^ (hi n a - lo n a - 1) then (some (mI 0) : Option AV) else some (mI 1)) = some (mI (zI (tk n 4 m a))) := by
    show _ = some (mI (zI (!decide _)))
    by_cases e : lf n a = m / 2 ^ (lo n a - 1) % 2 ^ (hi n a - lo n a - 1)
    · rw [if_pos e, decide_eq_true e]; rfl
    · rw [if_neg e, decide_eq_false e]; rfl
  rw [e]
set_option maxHeartbeats 16000000 in
theorem c3_takes5 (d : Nat) {hp : HP} {ra n m a : Nat} (h : RWS hp ra n) (hm : m < 16) (ha : a < NA n) (R : PO) : callD (d + 2) 27 [mI ((5 : Nat) : Int), mI (m : Int), mR (ra + 1), mI (a : Int)] hp R ↔ R (some (mI (zI (tk n 5 m a)))) hp := by
  obtain ⟨a1, a2, a3, -, -⟩ := arc_ok (rw_1 h) (rw_6 h) ha
  have el : (hi n a : Int) - (lo n a : Int) = ((hi n a - lo n a : Nat) : Int) := by omega
  have b1 : lc n a < 2147483648 := Nat.lt_trans (lc_8 n a) (by decide)
  have b2 : rc n a < 2147483648 := Nat.lt_trans (rc_8 n a) (by decide)
  have b3 := hi_8 n a
  have b4 := lo_8 n a
  have bm : m < 2147483648 := Nat.lt_trans hm (by decide)
  have bl : hi n a - lo n a < 2147483648 := by omega
  obtain ⟨hx, hx2⟩ := tk_sgn hm a2
  have g1 := @gI (lc n) (NA n) _ a rfl ha (NA_31 n)
  have g2 := @gI (rc n) (NA n) _ a rfl ha (NA_31 n)
  have g3 := @gI (hi n) (NA n) _ a rfl ha (NA_31 n)
  have g4 := @gI (lo n) (NA n) _ a rfl ha (NA_31 n)
  have g5 := @gI (lf n) (NA n) _ a rfl ha (NA_31 n)
  rw [callD_k]; simp only [entL_i, entL_l, entL_q, entL_s, entL_nil, n_X3_takes, u_X3_takes, m_X3_takes, rep_3, List.cons_append, List.nil_append, List.append_nil, List.length_cons, List.length_nil, Nat.reduceAdd, true_and]
  simp only [AW_k, AWk_1, x_aload_2, x_aloads_2, x_getf, x_iload_3, x_iald, x_ialds, x_istore_4, x_istore_5, x_isub, x_istore_6, x_iload_0, x_switch, AW_sw, AW_sw0, x_iload_4, x_if_le, x_push_i, x_push_l, x_goto, x_ret, x_ret_i, x_ret_z, x_ret_l, x_ret_c, x_iload_6, x_iload_1, x_icmp_le, x_iload_5, x_call_3, x_ixor, x_if_eq, x_icmp_gt, unl_i, unl_l, unl_q, unl_r, unl_s, unl_n, k_X3_takes_0, k_X3_takes_1, k_X3_takes_2, k_X3_takes_3, k_X3_takes_4, k_X3_takes_5, k_X3_takes_6, k_X3_takes_7, k_X3_takes_8, k_X3_takes_9, k_X3_takes_10, k_X3_takes_11, k_X3_takes_12, k_X3_takes_13, k_X3_takes_14, k_X3_takes_15, k_X3_takes_16, k_X3_takes_17, k_X3_takes_18, k_X3_takes_19, k_X3_takes_20, k_X3_takes_21, k_X3_takes_22, k_X3_takes_23, k_X3_takes_24, k_X3_takes_25, k_X3_takes_26, k_X3_takes_27, k_X3_takes_28, k_X3_takes_29, k_X3_takes_30, k_X3_takes_31, k_X3_takes_32, k_X3_takes_33, k_X3_takes_34, k_X3_takes_35, k_X3_takes_36, k_X3_takes_37, k_X3_takes_38, k_X3_takes_39, k_X3_takes_40, k_X3_takes_41, k_X3_takes_42, k_X3_takes_43, k_X3_takes_44, k_X3_takes_45, k_X3_takes_46, k_X3_takes_47, k_X3_takes_48, k_X3_takes_49, k_X3_takes_50, k_X3_takes_51, k_X3_takes_52, k_X3_takes_53, k_X3_takes_54, k_X3_takes_55, k_X3_takes_56, k_X3_takes_57, k_X3_takes_58, k_X3_takes_59, k_X3_takes_60, k_X3_takes_61, k_X3_takes_62, k_X3_takes_63, k_X3_takes_64, k_X3_takes_65, k_X3_takes_66, k_X3_takes_67, k_X3_takes_68, k_X3_takes_69, k_X3_takes_70, k_X3_takes_71, oE_some, Int.reduceToNat, Nat.reduceAdd, true_and, and_true, List.length_cons, List.length_nil, Option.toList_some, Option.toList_none, List.cons_append, List.nil_append, Nat.reduceLeDiff, Nat.le_refl, wdS_nil, wdS_i, wdS_l, wdS_r, wdS_n, wdS_s, rw_lefts h, rw_rights h, rw_high h, rw_low h, rw_left h, rA_6 h, rA_7 h, rA_4 h, rA_3 h, rA_5 h, bI rfl ha (NA_31 n), g1, g2, g3, g4, g5, el, z5, swT_cons, swT_nil, Int.reduceEq, if_false, if_true, reduceIte, or_true, true_or, R_ite, w_lt bm bl, w_lt b2 b1, ite2o]
  exact Iff.rfl
theorem c3_takes (d : Nat) {hp : HP} {ra n kind m a : Nat} (h : RWS hp ra n) (hk : kind < 6) (hm : m < 16) (ha : a < NA n) (R : PO) : callD (d + 2) 27 [mI (kind : Int), mI (m : Int), mR (ra + 1), mI (a : Int)] hp R ↔ R (some (mI (zI (tk n kind m a)))) hp := by
  rcases (show kind = 0 ∨ kind = 1 ∨ kind = 2 ∨ kind = 3 ∨ kind = 4 ∨ kind = 5 by omega) with e | e | e | e | e | e <;> subst e
  · exact c3_takes0 d h hm ha R
  · exact c3_takes1 d h hm ha R
  · exact c3_takes2 d h hm ha R
  · exact c3_takes3 d h hm ha R
  · exact c3_takes4 d h hm ha R
  · exact c3_takes5 d h hm ha R
