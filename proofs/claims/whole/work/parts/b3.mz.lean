/-! ===== the reference's own methods: makers ===== -/
theorem iOr_z (a b : Bool) : iOr (zI a) (zI b) = zI (a || b) := by cases a <;> cases b <;> decide
theorem iOr_z0 (a : Bool) : iOr (zI a) 0 = zI a := by cases a <;> decide
theorem iOr_z1 (a : Bool) : iOr (zI a) 1 = zI true := by cases a <;> decide
theorem sgF_up (n m a k c : Nat) : sgF n m a (k + 1) c = (sgF n m a k (c + 1) || !(tst (lf n a) (c - lo n a - 1) == tst m (c - 2))) := rfl
theorem tkk_ok {n a : Nat} (h1 : 1 ≤ n) (h6 : n ≤ 6) (ha : a < NA n) : ((lc n a : Nat) : Int) = popN (lf n a) ∧ rc n a = hi n a - lo n a - 1 - lc n a ∧ ∀ m, m < 16 → sgF n m a (hi n a - lo n a - 1) (lo n a + 1) = tk n 4 m a := by
  have q := allB_of (all6_of tkk_c h1 h6) a ha
  simp only [Bool.and_eq_true, decide_eq_true_eq, beq_iff_eq] at q
  exact ⟨q.1, q.2.1, fun m hm => beq_iff_eq.mp (allB_of q.2.2 m hm)⟩
theorem TAx_of {hp : HP} {n : Nat} (h : MA hp n) : ∃ l1 l2 l3 l4, TAx hp n (NA n) l1 l2 l3 l4 := by
  obtain ⟨hK, hg, l1, l2, l3, l4, ha, hn, hv⟩ := h
  exact ⟨l1, l2, l3, l4, hK, hg, ha, hn, fun k hk => ⟨(hv k hk).1, (hv k hk).2.1, (hv k hk).2.2.1⟩⟩
set_option maxHeartbeats 16000000 in
theorem m_isSigned (d : Nat) {hp : HP} {n a m : Nat} (h : MA hp n) (ha : a < NA n) (hm : m < 16) (R : PO) : callD (d + 3) 204 [mR 54, mI (m : Int), mI (a : Int)] hp R ↔ R (some (mI (zI (tk n 4 m a)))) hp := by
  obtain ⟨l1, l2, l3, l4, hT⟩ := TAx_of h
  have hT0 := hT
  obtain ⟨hK, ⟨g13, g14, g15, g16, g17⟩, ⟨a1, a2, a3, a4⟩, ⟨n1, n2, n3, n4⟩, hv⟩ := hT
  have h1 := hK.1.1
  have h6 := hK.1.2
  have fN := NA_le n
  have a57 : a < 57 := by omega
  have ba : a < 2147483648 := by omega
  have ia : inB (a : Int) 57 := inB_n a57 (by decide)
  obtain ⟨v1, v2, v3⟩ := hv a ha
  obtain ⟨t1, t2, t3⟩ := lo_hi_31 h1 h6 ha
  obtain ⟨k1, k2, k3, -, -⟩ := arc_ok h1 h6 ha
  have bm : m < 2147483648 := by omega
  have e1 : ((lo n a : Nat) : Int) + 1 = ((lo n a + 1 : Nat) : Int) := by omega
  rw [← (tkk_ok h1 h6 ha).2.2 m hm]
  have key : ∀ (k c : Nat) (acc : Bool), c + k = hi n a → lo n a < c → (AWh (d + 2) [] 204 R 9 [some (mR 54), some (mI (m : Int)), some (mI (a : Int)), some (mI (zI acc)), some (mI (c : Int))] [] hp (0, 0) ↔ R (some (mI (zI (acc || sgF n m a k c)))) hp) := by
    intro k
    induction k with
    | zero =>
      intro c acc hc hc2
      have e : c = hi n a := by omega
      subst e
      rw [AWh_k, k_X11_isSigned_9]
      simp only [AW_k, AWk_1, x_iload_4, x_aload_0, x_aloads_0, x_getf, x_iload_2, x_iald, x_ialds, x_icmp_ge, x_iload_3, x_callv_3, x_iload_1, x_i2l, x_push_i, x_push_l, x_isub, x_call_2, x_icmp_eq, x_goto, x_ior, x_istore_3, x_iinc_4, x_ret, x_ret_i, x_ret_z, x_ret_l, x_ret_c, unl_i, unl_l, unl_q, unl_r, unl_s, unl_n, k_X11_isSigned_9, k_X11_isSigned_10, k_X11_isSigned_11, k_X11_isSigned_12, k_X11_isSigned_13, k_X11_isSigned_14, k_X11_isSigned_15, k_X11_isSigned_16, k_X11_isSigned_17, k_X11_isSigned_18, k_X11_isSigned_19, k_X11_isSigned_20, k_X11_isSigned_21, k_X11_isSigned_22, k_X11_isSigned_23, k_X11_isSigned_24, k_X11_isSigned_25, k_X11_isSigned_26, k_X11_isSigned_27, k_X11_isSigned_28, k_X11_isSigned_29, k_X11_isSigned_30, k_X11_isSigned_31, k_X11_isSigned_32, k_X11_isSigned_33, k_X11_isSigned_34, k_X11_isSigned_35, oE_some, Int.reduceToNat, Nat.reduceAdd, true_and, and_true, List.length_cons, List.length_nil, Option.toList_some, Option.toList_none, List.cons_append, List.nil_append, Nat.reduceLeDiff, Nat.le_refl, wdS_nil, wdS_i, wdS_l, wdS_r, wdS_n, wdS_s, g14, a2, n2, ia, w32_tn ba, v2]
      rw [if_neg (Int.lt_irrefl _), show sgF n m a 0 (hi n a) = false from rfl, Bool.or_false]
      exact ⟨fun q => q.2, fun q => ⟨zI_or acc, q⟩⟩
    | succ k ih =>
      intro c acc hc hc2
      have bc : c < 2147483648 := by omega
      have f1 : ((c : Int) < ((hi n a : Nat) : Int)) = True := eq_true (by omega)
      have e2 : (c : Int) + 1 = ((c + 1 : Nat) : Int) := by omega
      have e3 : (c : Int) - 2 = ((c - 2 : Nat) : Int) := by omega
      have c64 : c - 2 < 64 := by omega
      have il := fun R => m_isLeft d hT0 ha hc2 (show c ≤ 6 by omega) R
      have ob := ofI_bit bm c64
      rw [sgF_up]
      rw [AWh_k, k_X11_isSigned_9]
      cases z1 : tst (lf n a) (c - lo n a - 1) with
      | true =>
        rw [z1] at il
        cases z2 : tst m (c - 2) with
        | true =>
          rw [z2] at ob
          have hnx := ih (c + 1) acc (by omega) (by omega)
          simp only [AW_k, AWk_1, x_iload_4, x_aload_0, x_aloads_0, x_getf, x_iload_2, x_iald, x_ialds, x_icmp_ge, x_iload_3, x_callv_3, x_iload_1, x_i2l, x_push_i, x_push_l, x_isub, x_call_2, x_icmp_eq, x_goto, x_ior, x_istore_3, x_iinc_4, unl_i, unl_l, unl_q, unl_r, unl_s, unl_n, k_X11_isSigned_9, k_X11_isSigned_10, k_X11_isSigned_11, k_X11_isSigned_12, k_X11_isSigned_13, k_X11_isSigned_14, k_X11_isSigned_15, k_X11_isSigned_16, k_X11_isSigned_17, k_X11_isSigned_18, k_X11_isSigned_19, k_X11_isSigned_20, k_X11_isSigned_21, k_X11_isSigned_22, k_X11_isSigned_23, k_X11_isSigned_24, k_X11_isSigned_25, k_X11_isSigned_26, k_X11_isSigned_27, k_X11_isSigned_28, k_X11_isSigned_29, k_X11_isSigned_30, k_X11_isSigned_31, k_X11_isSigned_32, k_X11_isSigned_33, oE_some, Int.reduceToNat, Nat.reduceAdd, true_and, and_true, List.length_cons, List.length_nil, Option.toList_some, Option.toList_none, List.cons_append, List.nil_append, Nat.reduceLeDiff, Nat.le_refl, wdS_nil, wdS_i, wdS_l, wdS_r, wdS_n, wdS_s, g14, a2, n2, ia, w32_tn ba, v2, w32_nat bc, w32_nat t2, f1, cM hK, il, e3, m_hasK (d + 1) c64, ob, zI_t, iOr_z0, e2, ↓reduceIte]
          rw [show (true == true) = true from rfl, Bool.not_true, Bool.or_false]
          exact hnx
        | false =>
          rw [z2] at ob
          have hnx := ih (c + 1) true (by omega) (by omega)
          simp only [AW_k, AWk_1, x_iload_4, x_aload_0, x_aloads_0, x_getf, x_iload_2, x_iald, x_ialds, x_icmp_ge, x_iload_3, x_callv_3, x_iload_1, x_i2l, x_push_i, x_push_l, x_isub, x_call_2, x_icmp_eq, x_goto, x_ior, x_istore_3, x_iinc_4, unl_i, unl_l, unl_q, unl_r, unl_s, unl_n, k_X11_isSigned_9, k_X11_isSigned_10, k_X11_isSigned_11, k_X11_isSigned_12, k_X11_isSigned_13, k_X11_isSigned_14, k_X11_isSigned_15, k_X11_isSigned_16, k_X11_isSigned_17, k_X11_isSigned_18, k_X11_isSigned_19, k_X11_isSigned_20, k_X11_isSigned_21, k_X11_isSigned_22, k_X11_isSigned_23, k_X11_isSigned_24, k_X11_isSigned_25, k_X11_isSigned_26, k_X11_isSigned_27, k_X11_isSigned_28, k_X11_isSigned_29, k_X11_isSigned_30, k_X11_isSigned_31, k_X11_isSigned_32, k_X11_isSigned_33, oE_some, Int.reduceToNat, Nat.reduceAdd, true_and, and_true, List.length_cons, List.length_nil, Option.toList_some, Option.toList_none, List.cons_append, List.nil_append, Nat.reduceLeDiff, Nat.le_refl, wdS_nil, wdS_i, wdS_l, wdS_r, wdS_n, wdS_s, g14, a2, n2, ia, w32_tn ba, v2, w32_nat bc, w32_nat t2, f1, cM hK, il, e3, m_hasK (d + 1) c64, ob, zI_t, zI_f, wz0, wz1, Int.reduceEq, iOr_z1, e2, ↓reduceIte]
          rw [show (true == false) = false from rfl, Bool.not_false, Bool.or_true, Bool.or_true]
          rw [Bool.true_or] at hnx
          exact hnx
      | false =>
        rw [z1] at il
        cases z2 : tst m (c - 2) with
        | true =>
          rw [z2] at ob
          have hnx := ih (c + 1) true (by omega) (by omega)
          simp only [AW_k, AWk_1, x_iload_4, x_aload_0, x_aloads_0, x_getf, x_iload_2, x_iald, x_ialds, x_icmp_ge, x_iload_3, x_callv_3, x_iload_1, x_i2l, x_push_i, x_push_l, x_isub, x_call_2, x_icmp_eq, x_goto, x_ior, x_istore_3, x_iinc_4, unl_i, unl_l, unl_q, unl_r, unl_s, unl_n, k_X11_isSigned_9, k_X11_isSigned_10, k_X11_isSigned_11, k_X11_isSigned_12, k_X11_isSigned_13, k_X11_isSigned_14, k_X11_isSigned_15, k_X11_isSigned_16, k_X11_isSigned_17, k_X11_isSigned_18, k_X11_isSigned_19, k_X11_isSigned_20, k_X11_isSigned_21, k_X11_isSigned_22, k_X11_isSigned_23, k_X11_isSigned_24, k_X11_isSigned_25, k_X11_isSigned_26, k_X11_isSigned_27, k_X11_isSigned_28, k_X11_isSigned_29, k_X11_isSigned_30, k_X11_isSigned_31, k_X11_isSigned_32, k_X11_isSigned_33, oE_some, Int.reduceToNat, Nat.reduceAdd, true_and, and_true, List.length_cons, List.length_nil, Option.toList_some, Option.toList_none, List.cons_append, List.nil_append, Nat.reduceLeDiff, Nat.le_refl, wdS_nil, wdS_i, wdS_l, wdS_r, wdS_n, wdS_s, g14, a2, n2, ia, w32_tn ba, v2, w32_nat bc, w32_nat t2, f1, cM hK, il, e3, m_hasK (d + 1) c64, ob, zI_t, zI_f, wz0, wz1, Int.reduceEq, iOr_z1, e2, ↓reduceIte]
          rw [show (false == true) = false from rfl, Bool.not_false, Bool.or_true, Bool.or_true]
          rw [Bool.true_or] at hnx
          exact hnx
        | false =>
          rw [z2] at ob
          have hnx := ih (c + 1) acc (by omega) (by omega)
          simp only [AW_k, AWk_1, x_iload_4, x_aload_0, x_aloads_0, x_getf, x_iload_2, x_iald, x_ialds, x_icmp_ge, x_iload_3, x_callv_3, x_iload_1, x_i2l, x_push_i, x_push_l, x_isub, x_call_2, x_icmp_eq, x_goto, x_ior, x_istore_3, x_iinc_4, unl_i, unl_l, unl_q, unl_r, unl_s, unl_n, k_X11_isSigned_9, k_X11_isSigned_10, k_X11_isSigned_11, k_X11_isSigned_12, k_X11_isSigned_13, k_X11_isSigned_14, k_X11_isSigned_15, k_X11_isSigned_16, k_X11_isSigned_17, k_X11_isSigned_18, k_X11_isSigned_19, k_X11_isSigned_20, k_X11_isSigned_21, k_X11_isSigned_22, k_X11_isSigned_23, k_X11_isSigned_24, k_X11_isSigned_25, k_X11_isSigned_26, k_X11_isSigned_27, k_X11_isSigned_28, k_X11_isSigned_29, k_X11_isSigned_30, k_X11_isSigned_31, k_X11_isSigned_32, k_X11_isSigned_33, oE_some, Int.reduceToNat, Nat.reduceAdd, true_and, and_true, List.length_cons, List.length_nil, Option.toList_some, Option.toList_none, List.cons_append, List.nil_append, Nat.reduceLeDiff, Nat.le_refl, wdS_nil, wdS_i, wdS_l, wdS_r, wdS_n, wdS_s, g14, a2, n2, ia, w32_tn ba, v2, w32_nat bc, w32_nat t2, f1, cM hK, il, e3, m_hasK (d + 1) c64, ob, zI_f, iOr_z0, e2, ↓reduceIte]
          rw [show (false == false) = true from rfl, Bool.not_true, Bool.or_false]
          exact hnx
  have k0 := key (hi n a - lo n a - 1) (lo n a + 1) false (by omega) (by omega)
  rw [Bool.false_or] at k0
  rw [callD_k]; simp only [entL_i, entL_l, entL_q, entL_s, entL_nil, n_X11_isSigned, u_X11_isSigned, m_X11_isSigned, rep_2, List.cons_append, List.nil_append, List.append_nil, List.length_cons, List.length_nil, Nat.reduceAdd, true_and]
  simp only [AW_k, AWk_1, x_push_i, x_push_l, x_istore_3, x_aload_0, x_aloads_0, x_getf, x_iload_2, x_iald, x_ialds, x_iadd, x_istore_4, x_iload_4, unl_i, unl_l, unl_q, unl_r, unl_s, unl_n, k_X11_isSigned_0, k_X11_isSigned_1, k_X11_isSigned_2, k_X11_isSigned_3, k_X11_isSigned_4, k_X11_isSigned_5, k_X11_isSigned_6, k_X11_isSigned_7, k_X11_isSigned_8, k_X11_isSigned_9, oE_some, Int.reduceToNat, Nat.reduceAdd, true_and, and_true, List.length_cons, List.length_nil, Option.toList_some, Option.toList_none, List.cons_append, List.nil_append, Nat.reduceLeDiff, Nat.le_refl, wdS_nil, wdS_i, wdS_l, wdS_r, wdS_n, wdS_s, g13, a1, n1, ia, w32_tn ba, v1, e1]
  exact k0
set_option maxHeartbeats 16000000 in
theorem m_takes (d : Nat) {hp : HP} {n a k m : Nat} (h : MA hp n) (ha : a < NA n) (hk : k < 6) (hm : m < 16) (R : PO) : callD (d + 4) 203 [mR 54, mI (k : Int), mI (m : Int), mI (a : Int)] hp R ↔ R (some (mI (zI (tk n k m a)))) hp := by
  obtain ⟨l1, l2, l3, l4, hT⟩ := TAx_of h
  obtain ⟨hK, ⟨g13, g14, g15, g16, g17⟩, ⟨a1, a2, a3, a4⟩, ⟨n1, n2, n3, n4⟩, hv⟩ := hT
  have h1 := hK.1.1
  have h6 := hK.1.2
  have fN := NA_le n
  have a57 : a < 57 := by omega
  have ba : a < 2147483648 := by omega
  have ia : inB (a : Int) 57 := inB_n a57 (by decide)
  obtain ⟨v1, v2, v3⟩ := hv a ha
  obtain ⟨t1, t2, t3⟩ := lo_hi_31 h1 h6 ha
  obtain ⟨k1, k2, k3, k4, k5⟩ := arc_ok h1 h6 ha
  obtain ⟨p1, p2, -⟩ := tkk_ok h1 h6 ha
  have lc8 := lc_8 n a
  have rc8 := rc_8 n a
  have bm : m < 2147483648 := by omega
  have e1 : ((hi n a : Nat) : Int) - ((lo n a : Nat) : Int) - 1 = ((hi n a - lo n a - 1 : Nat) : Int) := by omega
  have e2 : ((hi n a - lo n a - 1 : Nat) : Int) - ((lc n a : Nat) : Int) = ((rc n a : Nat) : Int) := by omega
  have e3 : ((hi n a - lo n a - 1 : Nat) : Int) + 1 = ((hi n a - lo n a : Nat) : Int) := by omega
  have bl : lc n a < 2147483648 := by omega
  have br : rc n a < 2147483648 := by omega
  have bh : hi n a - lo n a < 2147483648 := by omega
  have pl : ((0 : Int) < ((lc n a : Nat) : Int)) = (0 < lc n a) := by apply propext; omega
  have pr : ((0 : Int) < ((rc n a : Nat) : Int)) = (0 < rc n a) := by apply propext; omega
  have ph : ((m : Int) < ((hi n a - lo n a : Nat) : Int)) = (m < hi n a - lo n a) := by apply propext; omega
  have plr : (((rc n a : Nat) : Int) < ((lc n a : Nat) : Int)) = (rc n a < lc n a) := by apply propext; omega
  rw [callD_k]; simp only [entL_i, entL_l, entL_q, entL_s, entL_nil, n_X11_takes, u_X11_takes, m_X11_takes, rep_3, List.cons_append, List.nil_append, List.append_nil, List.length_cons, List.length_nil, Nat.reduceAdd, true_and]
  rcases (show k = 0 ∨ k = 1 ∨ k = 2 ∨ k = 3 ∨ k = 4 ∨ k = 5 by omega) with e | e | e | e | e | e <;> subst e
  · simp only [AW_k, AWk_1, x_aload_0, x_aloads_0, x_getf, x_iload_3, x_iald, x_ialds, x_isub, x_push_i, x_push_l, x_istore_4, x_i2l, x_call_1, x_istore_5, x_iload_4, x_iload_5, x_istore_6, x_iload_1, x_switch, AW_sw, AW_sw0, x_if_le, x_goto, x_ret, x_ret_i, x_ret_z, x_ret_l, x_ret_c, x_iadd, x_iload_2, x_icmp_le, x_iload_6, x_callv_3, x_icmp_gt, unl_i, unl_l, unl_q, unl_r, unl_s, unl_n, k_X11_takes_0, k_X11_takes_1, k_X11_takes_2, k_X11_takes_3, k_X11_takes_4, k_X11_takes_5, k_X11_takes_6, k_X11_takes_7, k_X11_takes_8, k_X11_takes_9, k_X11_takes_10, k_X11_takes_11, k_X11_takes_12, k_X11_takes_13, k_X11_takes_14, k_X11_takes_15, k_X11_takes_16, k_X11_takes_17, k_X11_takes_18, k_X11_takes_19, k_X11_takes_20, k_X11_takes_21, k_X11_takes_22, k_X11_takes_23, k_X11_takes_24, k_X11_takes_25, k_X11_takes_26, k_X11_takes_27, k_X11_takes_28, k_X11_takes_29, k_X11_takes_30, k_X11_takes_31, k_X11_takes_32, k_X11_takes_33, k_X11_takes_34, k_X11_takes_35, k_X11_takes_36, k_X11_takes_37, k_X11_takes_38, k_X11_takes_39, k_X11_takes_40, k_X11_takes_41, k_X11_takes_42, k_X11_takes_43, k_X11_takes_44, k_X11_takes_45, k_X11_takes_46, k_X11_takes_47, k_X11_takes_48, k_X11_takes_49, k_X11_takes_50, k_X11_takes_51, k_X11_takes_52, k_X11_takes_53, k_X11_takes_54, k_X11_takes_55, k_X11_takes_56, k_X11_takes_57, k_X11_takes_58, k_X11_takes_59, k_X11_takes_60, k_X11_takes_61, k_X11_takes_62, k_X11_takes_63, k_X11_takes_64, k_X11_takes_65, k_X11_takes_66, oE_some, Int.reduceToNat, Nat.reduceAdd, true_and, and_true, List.length_cons, List.length_nil, Option.toList_some, Option.toList_none, List.cons_append, List.nil_append, Nat.reduceLeDiff, Nat.le_refl, wdS_nil, wdS_i, wdS_l, wdS_r, wdS_n, wdS_s, g13, g14, g15, a1, a2, a3, n1, n2, n3, ia, w32_tn ba, v1, v2, v3, e1, m_ones (d + 1), pop_NI t3, ← p1, e2, z0, swT_cons, swT_nil, Int.reduceEq, ↓reduceIte]
    exact ⟨fun q => q.2, fun q => ⟨Or.inl trivial, q⟩⟩
  · show _ ↔ R (some (mI (zI (decide (0 < lc n a))))) hp
    simp only [AW_k, AWk_1, x_aload_0, x_aloads_0, x_getf, x_iload_3, x_iald, x_ialds, x_isub, x_push_i, x_push_l, x_istore_4, x_i2l, x_call_1, x_istore_5, x_iload_4, x_iload_5, x_istore_6, x_iload_1, x_switch, AW_sw, AW_sw0, x_if_le, x_goto, x_ret, x_ret_i, x_ret_z, x_ret_l, x_ret_c, x_iadd, x_iload_2, x_icmp_le, x_iload_6, x_callv_3, x_icmp_gt, unl_i, unl_l, unl_q, unl_r, unl_s, unl_n, k_X11_takes_0, k_X11_takes_1, k_X11_takes_2, k_X11_takes_3, k_X11_takes_4, k_X11_takes_5, k_X11_takes_6, k_X11_takes_7, k_X11_takes_8, k_X11_takes_9, k_X11_takes_10, k_X11_takes_11, k_X11_takes_12, k_X11_takes_13, k_X11_takes_14, k_X11_takes_15, k_X11_takes_16, k_X11_takes_17, k_X11_takes_18, k_X11_takes_19, k_X11_takes_20, k_X11_takes_21, k_X11_takes_22, k_X11_takes_23, k_X11_takes_24, k_X11_takes_25, k_X11_takes_26, k_X11_takes_27, k_X11_takes_28, k_X11_takes_29, k_X11_takes_30, k_X11_takes_31, k_X11_takes_32, k_X11_takes_33, k_X11_takes_34, k_X11_takes_35, k_X11_takes_36, k_X11_takes_37, k_X11_takes_38, k_X11_takes_39, k_X11_takes_40, k_X11_takes_41, k_X11_takes_42, k_X11_takes_43, k_X11_takes_44, k_X11_takes_45, k_X11_takes_46, k_X11_takes_47, k_X11_takes_48, k_X11_takes_49, k_X11_takes_50, k_X11_takes_51, k_X11_takes_52, k_X11_takes_53, k_X11_takes_54, k_X11_takes_55, k_X11_takes_56, k_X11_takes_57, k_X11_takes_58, k_X11_takes_59, k_X11_takes_60, k_X11_takes_61, k_X11_takes_62, k_X11_takes_63, k_X11_takes_64, k_X11_takes_65, k_X11_takes_66, oE_some, Int.reduceToNat, Nat.reduceAdd, true_and, and_true, List.length_cons, List.length_nil, Option.toList_some, Option.toList_none, List.cons_append, List.nil_append, Nat.reduceLeDiff, Nat.le_refl, wdS_nil, wdS_i, wdS_l, wdS_r, wdS_n, wdS_s, g13, g14, g15, a1, a2, a3, n1, n2, n3, ia, w32_tn ba, v1, v2, v3, e1, m_ones (d + 1), pop_NI t3, ← p1, e2, z1, swT_cons, swT_nil, Int.reduceEq, w32_nat bl, pl, ↓reduceIte]
    by_cases c : 0 < lc n a
    · rw [if_pos c, decide_eq_true c]; exact ⟨fun q => q.2, fun q => ⟨Or.inr trivial, q⟩⟩
    · rw [if_neg c, decide_eq_false c]; exact ⟨fun q => q.2, fun q => ⟨Or.inl trivial, q⟩⟩
  · show _ ↔ R (some (mI (zI (decide (m < hi n a - lo n a))))) hp
    simp only [AW_k, AWk_1, x_aload_0, x_aloads_0, x_getf, x_iload_3, x_iald, x_ialds, x_isub, x_push_i, x_push_l, x_istore_4, x_i2l, x_call_1, x_istore_5, x_iload_4, x_iload_5, x_istore_6, x_iload_1, x_switch, AW_sw, AW_sw0, x_if_le, x_goto, x_ret, x_ret_i, x_ret_z, x_ret_l, x_ret_c, x_iadd, x_iload_2, x_icmp_le, x_iload_6, x_callv_3, x_icmp_gt, unl_i, unl_l, unl_q, unl_r, unl_s, unl_n, k_X11_takes_0, k_X11_takes_1, k_X11_takes_2, k_X11_takes_3, k_X11_takes_4, k_X11_takes_5, k_X11_takes_6, k_X11_takes_7, k_X11_takes_8, k_X11_takes_9, k_X11_takes_10, k_X11_takes_11, k_X11_takes_12, k_X11_takes_13, k_X11_takes_14, k_X11_takes_15, k_X11_takes_16, k_X11_takes_17, k_X11_takes_18, k_X11_takes_19, k_X11_takes_20, k_X11_takes_21, k_X11_takes_22, k_X11_takes_23, k_X11_takes_24, k_X11_takes_25, k_X11_takes_26, k_X11_takes_27, k_X11_takes_28, k_X11_takes_29, k_X11_takes_30, k_X11_takes_31, k_X11_takes_32, k_X11_takes_33, k_X11_takes_34, k_X11_takes_35, k_X11_takes_36, k_X11_takes_37, k_X11_takes_38, k_X11_takes_39, k_X11_takes_40, k_X11_takes_41, k_X11_takes_42, k_X11_takes_43, k_X11_takes_44, k_X11_takes_45, k_X11_takes_46, k_X11_takes_47, k_X11_takes_48, k_X11_takes_49, k_X11_takes_50, k_X11_takes_51, k_X11_takes_52, k_X11_takes_53, k_X11_takes_54, k_X11_takes_55, k_X11_takes_56, k_X11_takes_57, k_X11_takes_58, k_X11_takes_59, k_X11_takes_60, k_X11_takes_61, k_X11_takes_62, k_X11_takes_63, k_X11_takes_64, k_X11_takes_65, k_X11_takes_66, oE_some, Int.reduceToNat, Nat.reduceAdd, true_and, and_true, List.length_cons, List.length_nil, Option.toList_some, Option.toList_none, List.cons_append, List.nil_append, Nat.reduceLeDiff, Nat.le_refl, wdS_nil, wdS_i, wdS_l, wdS_r, wdS_n, wdS_s, g13, g14, g15, a1, a2, a3, n1, n2, n3, ia, w32_tn ba, v1, v2, v3, e1, m_ones (d + 1), pop_NI t3, ← p1, e2, z2, swT_cons, swT_nil, Int.reduceEq, e3, w32_nat bh, w32_nat bm, ph, ↓reduceIte]
    by_cases c : m < hi n a - lo n a
    · rw [if_pos c, decide_eq_true c]; exact ⟨fun q => q.2, fun q => ⟨Or.inr trivial, q⟩⟩
    · rw [if_neg c, decide_eq_false c]; exact ⟨fun q => q.2, fun q => ⟨Or.inl trivial, q⟩⟩
  · show _ ↔ R (some (mI (zI (decide (0 < lc n a) && decide (0 < rc n a))))) hp
    simp only [AW_k, AWk_1, x_aload_0, x_aloads_0, x_getf, x_iload_3, x_iald, x_ialds, x_isub, x_push_i, x_push_l, x_istore_4, x_i2l, x_call_1, x_istore_5, x_iload_4, x_iload_5, x_istore_6, x_iload_1, x_switch, AW_sw, AW_sw0, x_if_le, x_goto, x_ret, x_ret_i, x_ret_z, x_ret_l, x_ret_c, x_iadd, x_iload_2, x_icmp_le, x_iload_6, x_callv_3, x_icmp_gt, unl_i, unl_l, unl_q, unl_r, unl_s, unl_n, k_X11_takes_0, k_X11_takes_1, k_X11_takes_2, k_X11_takes_3, k_X11_takes_4, k_X11_takes_5, k_X11_takes_6, k_X11_takes_7, k_X11_takes_8, k_X11_takes_9, k_X11_takes_10, k_X11_takes_11, k_X11_takes_12, k_X11_takes_13, k_X11_takes_14, k_X11_takes_15, k_X11_takes_16, k_X11_takes_17, k_X11_takes_18, k_X11_takes_19, k_X11_takes_20, k_X11_takes_21, k_X11_takes_22, k_X11_takes_23, k_X11_takes_24, k_X11_takes_25, k_X11_takes_26, k_X11_takes_27, k_X11_takes_28, k_X11_takes_29, k_X11_takes_30, k_X11_takes_31, k_X11_takes_32, k_X11_takes_33, k_X11_takes_34, k_X11_takes_35, k_X11_takes_36, k_X11_takes_37, k_X11_takes_38, k_X11_takes_39, k_X11_takes_40, k_X11_takes_41, k_X11_takes_42, k_X11_takes_43, k_X11_takes_44, k_X11_takes_45, k_X11_takes_46, k_X11_takes_47, k_X11_takes_48, k_X11_takes_49, k_X11_takes_50, k_X11_takes_51, k_X11_takes_52, k_X11_takes_53, k_X11_takes_54, k_X11_takes_55, k_X11_takes_56, k_X11_takes_57, k_X11_takes_58, k_X11_takes_59, k_X11_takes_60, k_X11_takes_61, k_X11_takes_62, k_X11_takes_63, k_X11_takes_64, k_X11_takes_65, k_X11_takes_66, oE_some, Int.reduceToNat, Nat.reduceAdd, true_and, and_true, List.length_cons, List.length_nil, Option.toList_some, Option.toList_none, List.cons_append, List.nil_append, Nat.reduceLeDiff, Nat.le_refl, wdS_nil, wdS_i, wdS_l, wdS_r, wdS_n, wdS_s, g13, g14, g15, a1, a2, a3, n1, n2, n3, ia, w32_tn ba, v1, v2, v3, e1, m_ones (d + 1), pop_NI t3, ← p1, e2, z3, swT_cons, swT_nil, Int.reduceEq, w32_nat bl, w32_nat br, pl, pr, ↓reduceIte]
    by_cases c : 0 < lc n a
    · rw [if_pos c, decide_eq_true c]
      by_cases c2 : 0 < rc n a
      · rw [if_pos c2, decide_eq_true c2]; exact ⟨fun q => q.2, fun q => ⟨Or.inr trivial, q⟩⟩
      · rw [if_neg c2, decide_eq_false c2]; exact ⟨fun q => q.2, fun q => ⟨Or.inl trivial, q⟩⟩
    · rw [if_neg c, decide_eq_false c]; exact ⟨fun q => q.2, fun q => ⟨Or.inl trivial, q⟩⟩
  · have ms := fun R => m_isSigned (d + 0) h ha hm R
    simp only [AW_k, AWk_1, x_aload_0, x_aloads_0, x_getf, x_iload_3, x_iald, x_ialds, x_isub, x_push_i, x_push_l, x_istore_4, x_i2l, x_call_1, x_istore_5, x_iload_4, x_iload_5, x_istore_6, x_iload_1, x_switch, AW_sw, AW_sw0, x_if_le, x_goto, x_ret, x_ret_i, x_ret_z, x_ret_l, x_ret_c, x_iadd, x_iload_2, x_icmp_le, x_iload_6, x_callv_3, x_icmp_gt, unl_i, unl_l, unl_q, unl_r, unl_s, unl_n, k_X11_takes_0, k_X11_takes_1, k_X11_takes_2, k_X11_takes_3, k_X11_takes_4, k_X11_takes_5, k_X11_takes_6, k_X11_takes_7, k_X11_takes_8, k_X11_takes_9, k_X11_takes_10, k_X11_takes_11, k_X11_takes_12, k_X11_takes_13, k_X11_takes_14, k_X11_takes_15, k_X11_takes_16, k_X11_takes_17, k_X11_takes_18, k_X11_takes_19, k_X11_takes_20, k_X11_takes_21, k_X11_takes_22, k_X11_takes_23, k_X11_takes_24, k_X11_takes_25, k_X11_takes_26, k_X11_takes_27, k_X11_takes_28, k_X11_takes_29, k_X11_takes_30, k_X11_takes_31, k_X11_takes_32, k_X11_takes_33, k_X11_takes_34, k_X11_takes_35, k_X11_takes_36, k_X11_takes_37, k_X11_takes_38, k_X11_takes_39, k_X11_takes_40, k_X11_takes_41, k_X11_takes_42, k_X11_takes_43, k_X11_takes_44, k_X11_takes_45, k_X11_takes_46, k_X11_takes_47, k_X11_takes_48, k_X11_takes_49, k_X11_takes_50, k_X11_takes_51, k_X11_takes_52, k_X11_takes_53, k_X11_takes_54, k_X11_takes_55, k_X11_takes_56, k_X11_takes_57, k_X11_takes_58, k_X11_takes_59, k_X11_takes_60, k_X11_takes_61, k_X11_takes_62, k_X11_takes_63, k_X11_takes_64, k_X11_takes_65, k_X11_takes_66, oE_some, Int.reduceToNat, Nat.reduceAdd, true_and, and_true, List.length_cons, List.length_nil, Option.toList_some, Option.toList_none, List.cons_append, List.nil_append, Nat.reduceLeDiff, Nat.le_refl, wdS_nil, wdS_i, wdS_l, wdS_r, wdS_n, wdS_s, g13, g14, g15, a1, a2, a3, n1, n2, n3, ia, w32_tn ba, v1, v2, v3, e1, m_ones (d + 1), pop_NI t3, ← p1, e2, z4, swT_cons, swT_nil, Int.reduceEq, cM hK, ms, ↓reduceIte]
    exact ⟨fun q => q.2, fun q => ⟨zI_or _, q⟩⟩
  · show _ ↔ R (some (mI (zI (decide (m < hi n a - lo n a) || decide (rc n a < lc n a))))) hp
    simp only [AW_k, AWk_1, x_aload_0, x_aloads_0, x_getf, x_iload_3, x_iald, x_ialds, x_isub, x_push_i, x_push_l, x_istore_4, x_i2l, x_call_1, x_istore_5, x_iload_4, x_iload_5, x_istore_6, x_iload_1, x_switch, AW_sw, AW_sw0, x_if_le, x_goto, x_ret, x_ret_i, x_ret_z, x_ret_l, x_ret_c, x_iadd, x_iload_2, x_icmp_le, x_iload_6, x_callv_3, x_icmp_gt, unl_i, unl_l, unl_q, unl_r, unl_s, unl_n, k_X11_takes_0, k_X11_takes_1, k_X11_takes_2, k_X11_takes_3, k_X11_takes_4, k_X11_takes_5, k_X11_takes_6, k_X11_takes_7, k_X11_takes_8, k_X11_takes_9, k_X11_takes_10, k_X11_takes_11, k_X11_takes_12, k_X11_takes_13, k_X11_takes_14, k_X11_takes_15, k_X11_takes_16, k_X11_takes_17, k_X11_takes_18, k_X11_takes_19, k_X11_takes_20, k_X11_takes_21, k_X11_takes_22, k_X11_takes_23, k_X11_takes_24, k_X11_takes_25, k_X11_takes_26, k_X11_takes_27, k_X11_takes_28, k_X11_takes_29, k_X11_takes_30, k_X11_takes_31, k_X11_takes_32, k_X11_takes_33, k_X11_takes_34, k_X11_takes_35, k_X11_takes_36, k_X11_takes_37, k_X11_takes_38, k_X11_takes_39, k_X11_takes_40, k_X11_takes_41, k_X11_takes_42, k_X11_takes_43, k_X11_takes_44, k_X11_takes_45, k_X11_takes_46, k_X11_takes_47, k_X11_takes_48, k_X11_takes_49, k_X11_takes_50, k_X11_takes_51, k_X11_takes_52, k_X11_takes_53, k_X11_takes_54, k_X11_takes_55, k_X11_takes_56, k_X11_takes_57, k_X11_takes_58, k_X11_takes_59, k_X11_takes_60, k_X11_takes_61, k_X11_takes_62, k_X11_takes_63, k_X11_takes_64, k_X11_takes_65, k_X11_takes_66, oE_some, Int.reduceToNat, Nat.reduceAdd, true_and, and_true, List.length_cons, List.length_nil, Option.toList_some, Option.toList_none, List.cons_append, List.nil_append, Nat.reduceLeDiff, Nat.le_refl, wdS_nil, wdS_i, wdS_l, wdS_r, wdS_n, wdS_s, g13, g14, g15, a1, a2, a3, n1, n2, n3, ia, w32_tn ba, v1, v2, v3, e1, m_ones (d + 1), pop_NI t3, ← p1, e2, z5, swT_cons, swT_nil, Int.reduceEq, e3, w32_nat bh, w32_nat bm, w32_nat bl, w32_nat br, ph, plr, ↓reduceIte]
    by_cases c : m < hi n a - lo n a
    · rw [if_pos c, decide_eq_true c]; exact ⟨fun q => q.2, fun q => ⟨Or.inr trivial, q⟩⟩
    · rw [if_neg c, decide_eq_false c]
      by_cases c2 : rc n a < lc n a
      · rw [if_pos c2, decide_eq_true c2]; exact ⟨fun q => q.2, fun q => ⟨Or.inr trivial, q⟩⟩
      · rw [if_neg c2, decide_eq_false c2]; exact ⟨fun q => q.2, fun q => ⟨Or.inl trivial, q⟩⟩
set_option maxHeartbeats 16000000 in
theorem m_takenBy (d : Nat) {hp : HP} {n k m : Nat} (h : MA hp n) (hk : k < 6) (hm : m < 16) (R : PO) : callD (d + 5) 205 [mR 54, mI (k : Int), mI (m : Int)] hp R ↔ R (some (mL (stB (tk n k m) (NA n)))) hp := by
  have hM := h
  obtain ⟨hK, ⟨g13, g14, g15, g16, g17⟩, -⟩ := h
  have fN := NA_le n
  have bN := NA_31 n
  have key : ∀ (f x : Nat), x + f = NA n → (AWh (d + 4) [] 205 R 4 [some (mR 54), some (mI (k : Int)), some (mI (m : Int)), some (mL (stB (tk n k m) x)), none, some (mI (x : Int))] [] hp (0, 0) ↔ R (some (mL (stB (tk n k m) (NA n)))) hp) := by
    intro f
    induction f with
    | zero =>
      intro x hx
      have e : x = NA n := by omega
      subst e
      rw [AWh_k, k_X11_takenBy_4]
      simp only [AW_k, AWk_1, x_iload_5, x_aload_0, x_aloads_0, x_getf, x_icmp_ge, x_lload_3, x_iload_1, x_iload_2, x_callv_4, x_if_eq, x_push_i, x_push_l, x_lshl, x_goto, x_lor, x_lstore_3, x_iinc_5, x_ret, x_ret_i, x_ret_z, x_ret_l, x_ret_c, unl_i, unl_l, unl_q, unl_r, unl_s, unl_n, k_X11_takenBy_4, k_X11_takenBy_5, k_X11_takenBy_6, k_X11_takenBy_7, k_X11_takenBy_8, k_X11_takenBy_9, k_X11_takenBy_10, k_X11_takenBy_11, k_X11_takenBy_12, k_X11_takenBy_13, k_X11_takenBy_14, k_X11_takenBy_15, k_X11_takenBy_16, k_X11_takenBy_17, k_X11_takenBy_18, k_X11_takenBy_19, k_X11_takenBy_20, k_X11_takenBy_21, k_X11_takenBy_22, k_X11_takenBy_23, k_X11_takenBy_24, k_X11_takenBy_25, oE_some, Int.reduceToNat, Nat.reduceAdd, true_and, and_true, List.length_cons, List.length_nil, Option.toList_some, Option.toList_none, List.cons_append, List.nil_append, Nat.reduceLeDiff, Nat.le_refl, wdS_nil, wdS_i, wdS_l, wdS_r, wdS_n, wdS_s, g17]
      rw [if_neg (Int.lt_irrefl _)]
    | succ f ih =>
      intro x hx
      have hxN : x < NA n := by omega
      have bx : x < 2147483648 := by omega
      have x64 : x < 64 := by omega
      have f1 : ((x : Int) < ((NA n : Nat) : Int)) = True := eq_true (by omega)
      have e1 : (x : Int) + 1 = ((x + 1 : Nat) : Int) := by omega
      have hnx := ih (x + 1) (by omega)
      rw [stB_succ] at hnx
      have sk := sh_k x64
      rw [w32_nat bx] at sk
      rw [AWh_k, k_X11_takenBy_4]
      cases c : tk n k m x with
      | true =>
        rw [if_pos c] at hnx
        simp only [AW_k, AWk_1, x_iload_5, x_aload_0, x_aloads_0, x_getf, x_icmp_ge, x_lload_3, x_iload_1, x_iload_2, x_callv_4, x_if_eq, x_push_i, x_push_l, x_lshl, x_goto, x_lor, x_lstore_3, x_iinc_5, unl_i, unl_l, unl_q, unl_r, unl_s, unl_n, k_X11_takenBy_4, k_X11_takenBy_5, k_X11_takenBy_6, k_X11_takenBy_7, k_X11_takenBy_8, k_X11_takenBy_9, k_X11_takenBy_10, k_X11_takenBy_11, k_X11_takenBy_12, k_X11_takenBy_13, k_X11_takenBy_14, k_X11_takenBy_15, k_X11_takenBy_16, k_X11_takenBy_17, k_X11_takenBy_18, k_X11_takenBy_19, k_X11_takenBy_20, k_X11_takenBy_21, k_X11_takenBy_22, k_X11_takenBy_23, oE_some, Int.reduceToNat, Nat.reduceAdd, true_and, and_true, List.length_cons, List.length_nil, Option.toList_some, Option.toList_none, List.cons_append, List.nil_append, Nat.reduceLeDiff, Nat.le_refl, wdS_nil, wdS_i, wdS_l, wdS_r, wdS_n, wdS_s, g17, w32_nat bx, w32_nat bN, f1, cM hK, m_takes d hM hxN hk hm, c, zI_t, w10, sk, e1, ↓reduceIte]
        exact hnx
      | false =>
        rw [if_neg (by rw [c]; decide)] at hnx
        simp only [AW_k, AWk_1, x_iload_5, x_aload_0, x_aloads_0, x_getf, x_icmp_ge, x_lload_3, x_iload_1, x_iload_2, x_callv_4, x_if_eq, x_push_i, x_push_l, x_lshl, x_goto, x_lor, x_lstore_3, x_iinc_5, unl_i, unl_l, unl_q, unl_r, unl_s, unl_n, k_X11_takenBy_4, k_X11_takenBy_5, k_X11_takenBy_6, k_X11_takenBy_7, k_X11_takenBy_8, k_X11_takenBy_9, k_X11_takenBy_10, k_X11_takenBy_11, k_X11_takenBy_12, k_X11_takenBy_13, k_X11_takenBy_14, k_X11_takenBy_15, k_X11_takenBy_16, k_X11_takenBy_17, k_X11_takenBy_18, k_X11_takenBy_19, k_X11_takenBy_20, k_X11_takenBy_21, k_X11_takenBy_22, k_X11_takenBy_23, oE_some, Int.reduceToNat, Nat.reduceAdd, true_and, and_true, List.length_cons, List.length_nil, Option.toList_some, Option.toList_none, List.cons_append, List.nil_append, Nat.reduceLeDiff, Nat.le_refl, wdS_nil, wdS_i, wdS_l, wdS_r, wdS_n, wdS_s, g17, w32_nat bx, w32_nat bN, f1, cM hK, m_takes d hM hxN hk hm, c, zI_f, w00, e1, ↓reduceIte]
        exact hnx
  rw [callD_k]; simp only [entL_i, entL_l, entL_q, entL_s, entL_nil, n_X11_takenBy, u_X11_takenBy, m_X11_takenBy, rep_3, List.cons_append, List.nil_append, List.append_nil, List.length_cons, List.length_nil, Nat.reduceAdd, true_and]
  simp only [AW_k, AWk_1, x_push_i, x_push_l, x_lstore_3, x_istore_5, x_iload_5, unl_i, unl_l, unl_q, unl_r, unl_s, unl_n, k_X11_takenBy_0, k_X11_takenBy_1, k_X11_takenBy_2, k_X11_takenBy_3, k_X11_takenBy_4, oE_some, Int.reduceToNat, Nat.reduceAdd, true_and, and_true, List.length_cons, List.length_nil, Option.toList_some, Option.toList_none, List.cons_append, List.nil_append, Nat.reduceLeDiff, Nat.le_refl, wdS_nil, wdS_i, wdS_l, wdS_r, wdS_n, wdS_s]
  exact key (NA n) 0 (Nat.zero_add _)
