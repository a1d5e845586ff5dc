/-! ===== the last set bit; how many closed sets ===== -/
theorem ntz_val {i : Int} {k m : Nat} (hk : k < 32) (hb : (BitVec.ofInt 32 i).toNat = 2 ^ k * (2 * m + 1)) : iAnd (iXor i (-1)) (i - 1) = ((2 ^ k - 1 : Nat) : Int) := by
  have e0 : iAnd (iXor i (-1)) (i - 1) = (~~~ BitVec.ofInt 32 i &&& (BitVec.ofInt 32 i - 1#32)).toInt := by
    show (BitVec.ofInt 32 ((BitVec.ofInt 32 i ^^^ BitVec.ofInt 32 (-1)).toInt) &&& BitVec.ofInt 32 (i - 1)).toInt = _
    have e1 : BitVec.ofInt 32 (-1) = BitVec.allOnes 32 := by decide
    have e2 : BitVec.ofInt 32 (i - 1) = BitVec.ofInt 32 i - 1#32 := by
      rw [show i - 1 = i + (-1) by omega, BitVec.ofInt_add, BitVec.sub_eq_add_neg]
      congr 1
    rw [BitVec.ofInt_toInt, e1, BitVec.xor_allOnes, e2]
  rw [e0]
  generalize hx : BitVec.ofInt 32 i = b at hb
  have hpos : 0 < 2 ^ k := Nat.two_pow_pos k
  have hp1 : 1 ≤ b.toNat := by rw [hb]; exact Nat.mul_pos hpos (Nat.succ_pos _)
  have hs : (b - 1#32).toNat = b.toNat - 1 := BitVec.toNat_sub_of_le (by show (1 : Nat) ≤ b.toNat; exact hp1)
  have hv : (~~~ b &&& (b - 1#32)).toNat = 2 ^ k - 1 := by
    apply Nat.eq_of_testBit_eq
    intro j
    have hl := @low_bits m k j
    rw [← hb] at hl
    rw [Nat.testBit_two_pow_sub_one]
    by_cases hj : j < 32
    · have t1 : (~~~ b &&& (b - 1#32)).toNat.testBit j = (~~~ b &&& (b - 1#32)).getLsbD j := rfl
      have t2 : (b - 1#32).getLsbD j = (b.toNat - 1).testBit j := by rw [← hs]; rfl
      have t3 : b.getLsbD j = b.toNat.testBit j := rfl
      rw [t1, BitVec.getLsbD_and, BitVec.getLsbD_not, t2, t3, decide_eq_true hj, Bool.true_and]
      by_cases h : j < k
      · rw [decide_eq_true h, (hl.mpr h).1, (hl.mpr h).2]; rfl
      · rw [decide_eq_false h]
        cases h1 : b.toNat.testBit j <;> cases h2 : (b.toNat - 1).testBit j <;> simp_all
    · have t1 : (~~~ b &&& (b - 1#32)).toNat.testBit j = false := by
        apply Nat.testBit_lt_two_pow
        exact Nat.lt_of_lt_of_le (~~~ b &&& (b - 1#32)).isLt (Nat.pow_le_pow_right (by decide) (by omega))
      rw [t1, decide_eq_false (by omega)]
  have hlt : 2 ^ k ≤ 2 ^ 31 := Nat.pow_le_pow_right (by decide) (by omega)
  rw [bT_small (by rw [hv]; omega), hv]
def ntzX (x : Int) : Int :=
  if 0 < w32 x then
    let c1 := w32 65536 < w32 x
    let x1 := if c1 then iUshr x 16 else x
    let n1 : Int := if c1 then 1 + 16 else 1
    let c2 := w32 256 < w32 x1
    let x2 := if c2 then iUshr x1 8 else x1
    let n2 : Int := if c2 then n1 + 8 else n1
    let c3 := w32 16 < w32 x2
    let x3 := if c3 then iUshr x2 4 else x2
    let n3 : Int := if c3 then n2 + 4 else n2
    let c4 := w32 4 < w32 x3
    let x4 := if c4 then iUshr x3 2 else x3
    let n4 : Int := if c4 then n3 + 2 else n3
    n4 + iUshr x4 1
  else iAnd x 32
set_option maxHeartbeats 8000000 in
theorem c_ntz6 (d : Nat) {hp : HP} {i : Int} {k m : Nat} (hk : k < 32) (hb : (BitVec.ofInt 32 i).toNat = 2 ^ k * (2 * m + 1)) (R : PO) : callD (d + 1) 289 [mI i] hp R ↔ R (some (mI (k : Int))) hp := by
  rw [callD_k]; simp only [entL_i, entL_l, entL_q, entL_s, entL_nil, n_J6_numberOfTrailingZeros_0f7a4, u_J6_numberOfTrailingZeros_0f7a4, m_J6_numberOfTrailingZeros_0f7a4, rep_1, List.cons_append, List.nil_append, List.append_nil, List.length_cons, List.length_nil, Nat.reduceAdd, true_and]
  simp only [AW_k, AWk_1, x_iload_0, x_push_i, x_push_l, x_ixor, x_isub, x_iand, x_istore_0, x_if_gt, x_ret, x_ret_i, x_ret_z, x_ret_l, x_ret_c, x_istore_1, x_icmp_le, x_iinc_1, x_iushr, x_iload_1, x_iadd, unl_i, unl_l, unl_q, unl_r, unl_s, unl_n, k_J6_numberOfTrailingZeros_0f7a4_0, k_J6_numberOfTrailingZeros_0f7a4_1, k_J6_numberOfTrailingZeros_0f7a4_2, k_J6_numberOfTrailingZeros_0f7a4_3, k_J6_numberOfTrailingZeros_0f7a4_4, k_J6_numberOfTrailingZeros_0f7a4_5, k_J6_numberOfTrailingZeros_0f7a4_6, k_J6_numberOfTrailingZeros_0f7a4_7, k_J6_numberOfTrailingZeros_0f7a4_8, k_J6_numberOfTrailingZeros_0f7a4_9, k_J6_numberOfTrailingZeros_0f7a4_10, k_J6_numberOfTrailingZeros_0f7a4_11, k_J6_numberOfTrailingZeros_0f7a4_12, k_J6_numberOfTrailingZeros_0f7a4_13, k_J6_numberOfTrailingZeros_0f7a4_14, k_J6_numberOfTrailingZeros_0f7a4_15, k_J6_numberOfTrailingZeros_0f7a4_16, k_J6_numberOfTrailingZeros_0f7a4_17, k_J6_numberOfTrailingZeros_0f7a4_18, k_J6_numberOfTrailingZeros_0f7a4_19, k_J6_numberOfTrailingZeros_0f7a4_20, k_J6_numberOfTrailingZeros_0f7a4_21, k_J6_numberOfTrailingZeros_0f7a4_22, k_J6_numberOfTrailingZeros_0f7a4_23, k_J6_numberOfTrailingZeros_0f7a4_24, k_J6_numberOfTrailingZeros_0f7a4_25, k_J6_numberOfTrailingZeros_0f7a4_26, k_J6_numberOfTrailingZeros_0f7a4_27, k_J6_numberOfTrailingZeros_0f7a4_28, k_J6_numberOfTrailingZeros_0f7a4_29, k_J6_numberOfTrailingZeros_0f7a4_30, k_J6_numberOfTrailingZeros_0f7a4_31, k_J6_numberOfTrailingZeros_0f7a4_32, k_J6_numberOfTrailingZeros_0f7a4_33, k_J6_numberOfTrailingZeros_0f7a4_34, k_J6_numberOfTrailingZeros_0f7a4_35, k_J6_numberOfTrailingZeros_0f7a4_36, k_J6_numberOfTrailingZeros_0f7a4_37, k_J6_numberOfTrailingZeros_0f7a4_38, k_J6_numberOfTrailingZeros_0f7a4_39, k_J6_numberOfTrailingZeros_0f7a4_40, k_J6_numberOfTrailingZeros_0f7a4_41, k_J6_numberOfTrailingZeros_0f7a4_42, k_J6_numberOfTrailingZeros_0f7a4_43, k_J6_numberOfTrailingZeros_0f7a4_44, k_J6_numberOfTrailingZeros_0f7a4_45, k_J6_numberOfTrailingZeros_0f7a4_46, k_J6_numberOfTrailingZeros_0f7a4_47, k_J6_numberOfTrailingZeros_0f7a4_48, k_J6_numberOfTrailingZeros_0f7a4_49, k_J6_numberOfTrailingZeros_0f7a4_50, k_J6_numberOfTrailingZeros_0f7a4_51, k_J6_numberOfTrailingZeros_0f7a4_52, k_J6_numberOfTrailingZeros_0f7a4_53, oE_some, Int.reduceToNat, Nat.reduceAdd, true_and, and_true, List.length_cons, List.length_nil, Option.toList_some, Option.toList_none, List.cons_append, List.nil_append, Nat.reduceLeDiff, Nat.le_refl, wdS_nil, wdS_i, wdS_l, wdS_r, wdS_n, wdS_s, ntz_val hk hb]
  have hn : ∀ k : Nat, k < 32 → ntzX ((2 ^ k - 1 : Nat) : Int) = (k : Int) := by decide +kernel
  have e := hn k hk
  unfold ntzX at e
  rw [← e]
  generalize ((2 ^ k - 1 : Nat) : Int) = x
  dsimp only
  by_cases c0 : 0 < w32 x
  · rw [if_pos c0, if_pos c0]
    by_cases c1 : w32 65536 < w32 x
    · simp only [c1, if_true]
      by_cases c2 : w32 256 < w32 (iUshr x 16)
      · simp only [c2, if_true]
        by_cases c3 : w32 16 < w32 (iUshr (iUshr x 16) 8)
        · simp only [c3, if_true]
          split <;> rfl
        · simp only [c3, if_false]
          split <;> rfl
      · simp only [c2, if_false]
        by_cases c3 : w32 16 < w32 (iUshr x 16)
        · simp only [c3, if_true]
          split <;> rfl
        · simp only [c3, if_false]
          split <;> rfl
    · simp only [c1, if_false]
      by_cases c2 : w32 256 < w32 x
      · simp only [c2, if_true]
        by_cases c3 : w32 16 < w32 (iUshr x 8)
        · simp only [c3, if_true]
          split <;> rfl
        · simp only [c3, if_false]
          split <;> rfl
      · simp only [c2, if_false]
        by_cases c3 : w32 16 < w32 x
        · simp only [c3, if_true]
          split <;> rfl
        · simp only [c3, if_false]
          split <;> rfl
  · rw [if_neg c0, if_neg c0]
/-- every number but 0 is a power of 2, times an odd one -/
theorem odd_part : ∀ a : Nat, a ≠ 0 → ∃ k m, a = 2 ^ k * (2 * m + 1) := by
  intro a
  induction a using Nat.strongRecOn with
  | _ a ih =>
    intro h0
    rcases Nat.mod_two_eq_zero_or_one a with h | h
    · obtain ⟨k, m, e⟩ := ih (a / 2) (by omega) (by omega)
      refine ⟨k + 1, m, ?_⟩
      have : a = 2 * (a / 2) := by omega
      rw [this, e, Nat.pow_succ, Nat.mul_comm (2 ^ k) 2, Nat.mul_assoc]
    · exact ⟨0, a / 2, by omega⟩
theorem odd_lt {a k m N : Nat} (h : a < 2 ^ N) (e : a = 2 ^ k * (2 * m + 1)) : k < N := by
  apply Nat.lt_of_not_le
  intro hN
  have h1 : 2 ^ N ≤ 2 ^ k := Nat.pow_le_pow_right (by decide) hN
  have h2 : 2 ^ k * 1 ≤ 2 ^ k * (2 * m + 1) := Nat.mul_le_mul_left _ (by omega)
  omega
theorem odd_bit {k m : Nat} : (2 ^ k * (2 * m + 1)).testBit k = true := by
  rw [tb_low, decide_eq_true (Nat.le_refl k), Nat.sub_self]
  simp
theorem odd_shift {k m : Nat} : (2 ^ (k + 32) * (2 * m + 1)) / 2 ^ 32 = 2 ^ k * (2 * m + 1) := by
  rw [Nat.pow_add, Nat.mul_comm (2 ^ k) (2 ^ 32), Nat.mul_assoc, Nat.mul_div_cancel_left _ (by decide)]
set_option maxHeartbeats 8000000 in
theorem c_ntz (d : Nat) {hp : HP} {s : BitVec 64} (h0 : s ≠ 0#64) : ∃ k : Nat, k < 64 ∧ s.getLsbD k = true ∧ ∀ R : PO, callD (d + 2) 291 [mL s] hp R ↔ R (some (mI (k : Int))) hp := by
  have hs0 : s.toNat ≠ 0 := fun e => h0 (BitVec.eq_of_toNat_eq (by rw [e]; rfl))
  obtain ⟨k, m, e⟩ := odd_part s.toNat hs0
  have hk := odd_lt s.isLt e
  refine ⟨k, hk, by show s.toNat.testBit k = true; rw [e]; exact odd_bit, fun R => ?_⟩
  have eo : (BitVec.ofInt 32 s.toInt).toNat = s.toNat % 2 ^ 32 := by
    rw [BitVec.toNat_ofInt, BitVec.toInt_eq_toNat_bmod, Int.bmod_def]
    have := s.isLt
    split <;> omega
  by_cases hk2 : k < 32
  · have hmod : s.toNat % 2 ^ 32 = 2 ^ k * (2 * (m % 2 ^ (31 - k)) + 1) := by
      rw [e]
      have h1 : 2 ^ 32 = 2 ^ k * (2 * 2 ^ (31 - k)) := by
        rw [← Nat.pow_succ', ← Nat.pow_add]
        congr 1; omega
      rw [h1, Nat.mul_mod_mul_left]
      congr 1
      generalize 2 ^ (31 - k) = M
      have hd := Nat.div_add_mod m M
      have : 2 * m + 1 = 2 * M * (m / M) + (2 * (m % M) + 1) := by
        rw [Nat.mul_assoc]; omega
      rcases Nat.eq_zero_or_pos M with hM | hM
      · subst hM; simp
      · have hl := Nat.mod_lt m hM
        rw [this, Nat.mul_add_mod, Nat.mod_eq_of_lt (by omega)]
    rw [hmod] at eo
    have c := fun R => c_ntz6 d (hp := hp) hk2 eo R
    have hne : ¬ w32 s.toInt = 0 := by
      intro hz
      have h2 : (s.toInt) % 4294967296 = 0 := by unfold w32 at hz; omega
      rw [BitVec.toNat_ofInt] at eo
      have : 0 < 2 ^ k * (2 * (m % 2 ^ (31 - k)) + 1) := Nat.mul_pos (Nat.two_pow_pos k) (Nat.succ_pos _)
      rw [← eo] at this
      have h3 : (s.toInt % (2 ^ 32 : Nat)).toNat = 0 := by
        show (s.toInt % 4294967296).toNat = 0
        rw [h2]; rfl
      omega
    rw [callD_k]; simp only [entL_i, entL_l, entL_q, entL_s, entL_nil, n_J13_numberOfTrailingZeros_95d88, u_J13_numberOfTrailingZeros_95d88, m_J13_numberOfTrailingZeros_95d88, rep_1, List.cons_append, List.nil_append, List.append_nil, List.length_cons, List.length_nil, Nat.reduceAdd, true_and]
    simp only [AW_k, AWk_1, x_lload_0, x_l2i, x_istore_2, x_iload_2, x_if_ne, x_push_i, x_push_l, x_lushr, x_call_1, x_iadd, x_goto, x_ret, x_ret_i, x_ret_z, x_ret_l, x_ret_c, unl_i, unl_l, unl_q, unl_r, unl_s, unl_n, k_J13_numberOfTrailingZeros_95d88_0, k_J13_numberOfTrailingZeros_95d88_1, k_J13_numberOfTrailingZeros_95d88_2, k_J13_numberOfTrailingZeros_95d88_3, k_J13_numberOfTrailingZeros_95d88_4, k_J13_numberOfTrailingZeros_95d88_5, k_J13_numberOfTrailingZeros_95d88_6, k_J13_numberOfTrailingZeros_95d88_7, k_J13_numberOfTrailingZeros_95d88_8, k_J13_numberOfTrailingZeros_95d88_9, k_J13_numberOfTrailingZeros_95d88_10, k_J13_numberOfTrailingZeros_95d88_11, k_J13_numberOfTrailingZeros_95d88_12, k_J13_numberOfTrailingZeros_95d88_13, k_J13_numberOfTrailingZeros_95d88_14, k_J13_numberOfTrailingZeros_95d88_15, oE_some, Int.reduceToNat, Nat.reduceAdd, true_and, and_true, List.length_cons, List.length_nil, Option.toList_some, Option.toList_none, List.cons_append, List.nil_append, Nat.reduceLeDiff, Nat.le_refl, wdS_nil, wdS_i, wdS_l, wdS_r, wdS_n, wdS_s, c]
    rw [if_neg hne]
  · have e3 : k = (k - 32) + 32 := by omega
    rw [e3] at e
    have hz : w32 s.toInt = 0 := by
      have h2 : s.toNat % 4294967296 = 0 := by
        rw [e, Nat.pow_add, Nat.mul_comm (2 ^ (k - 32)), Nat.mul_assoc]
        exact Nat.mul_mod_right ..
      have : s.toInt % 4294967296 = 0 := by
        rw [BitVec.toInt_eq_toNat_bmod, Int.bmod_def]
        have := s.isLt
        split <;> omega
      unfold w32; omega
    have eo2 : (BitVec.ofInt 32 (s >>> 32).toInt).toNat = 2 ^ (k - 32) * (2 * m + 1) := by
      have h1 : (s >>> 32).toNat = 2 ^ (k - 32) * (2 * m + 1) := by rw [tN_shr, e, odd_shift]
      rw [BitVec.toNat_ofInt, BitVec.toInt_eq_toNat_of_lt (by rw [tN_shr]; have := s.isLt; omega), h1]
      have h2 : (s >>> 32).toNat < 4294967296 := by rw [tN_shr]; have := s.isLt; omega
      rw [h1] at h2
      generalize 2 ^ (k - 32) * (2 * m + 1) = a at h2
      omega
    have c := fun R => c_ntz6 d (hp := hp) (show k - 32 < 32 by omega) eo2 R
    have ek : (32 : Int) + ((k - 32 : Nat) : Int) = (k : Int) := by omega
    rw [callD_k]; simp only [entL_i, entL_l, entL_q, entL_s, entL_nil, n_J13_numberOfTrailingZeros_95d88, u_J13_numberOfTrailingZeros_95d88, m_J13_numberOfTrailingZeros_95d88, rep_1, List.cons_append, List.nil_append, List.append_nil, List.length_cons, List.length_nil, Nat.reduceAdd, true_and]
    simp only [AW_k, AWk_1, x_lload_0, x_l2i, x_istore_2, x_iload_2, x_if_ne, x_push_i, x_push_l, x_lushr, x_call_1, x_iadd, x_goto, x_ret, x_ret_i, x_ret_z, x_ret_l, x_ret_c, unl_i, unl_l, unl_q, unl_r, unl_s, unl_n, k_J13_numberOfTrailingZeros_95d88_0, k_J13_numberOfTrailingZeros_95d88_1, k_J13_numberOfTrailingZeros_95d88_2, k_J13_numberOfTrailingZeros_95d88_3, k_J13_numberOfTrailingZeros_95d88_4, k_J13_numberOfTrailingZeros_95d88_5, k_J13_numberOfTrailingZeros_95d88_6, k_J13_numberOfTrailingZeros_95d88_7, k_J13_numberOfTrailingZeros_95d88_8, k_J13_numberOfTrailingZeros_95d88_9, k_J13_numberOfTrailingZeros_95d88_10, k_J13_numberOfTrailingZeros_95d88_11, k_J13_numberOfTrailingZeros_95d88_12, k_J13_numberOfTrailingZeros_95d88_13, k_J13_numberOfTrailingZeros_95d88_14, k_J13_numberOfTrailingZeros_95d88_15, oE_some, Int.reduceToNat, Nat.reduceAdd, true_and, and_true, List.length_cons, List.length_nil, Option.toList_some, Option.toList_none, List.cons_append, List.nil_append, Nat.reduceLeDiff, Nat.le_refl, wdS_nil, wdS_i, wdS_l, wdS_r, wdS_n, wdS_s, show (w32 32 % 64).toNat = 32 from rfl, c, ek]
    rw [if_pos hz]
/-! how many closed sets, as the class counts -/
def tz (s : BitVec 64) : Nat := match fst (fun k => s.getLsbD k) 64 0 with
  | some k => k
  | none => 0
