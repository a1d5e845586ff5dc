/-! ===== the reference: sets of arcs ===== -/
theorem m_isArc (d : Nat) {hp : HP} {n : Nat} {x : Int} (h : MA hp n) (hx : w32 x = x) (R : PO) : callD (d + 2) 186 [mR 54, mI x] hp R ↔ R (some (mI (zI (axo n x).isSome))) hp := by
  obtain ⟨hK, ⟨g13, g14, g15, g16, g17⟩, -⟩ := h
  have h1 := hK.1.1
  have fN := NA_le n
  have wr := w32_in (((NA n : Nat) : Int) - 1)
  have er : w32 (((NA n : Nat) : Int) - 1) = ((NA n : Nat) : Int) - 1 := w32_id (by omega) (by omega)
  have ei : inI x 0 (((NA n : Nat) : Int) - 1) = (axo n x).isSome := by
    clear er wr hx
    unfold axo inI
    by_cases c : 0 ≤ x ∧ x < ((NA n : Nat) : Int)
    · rw [if_pos c, decide_eq_true (by omega)]; rfl
    · rw [if_neg c, decide_eq_false (by omega)]; rfl
  rw [callD_k]; simp only [entL_i, entL_l, entL_q, entL_s, entL_nil, n_X11_isArc, u_X11_isArc, m_X11_isArc, rep_0, List.cons_append, List.nil_append, List.append_nil, List.length_cons, List.length_nil, Nat.reduceAdd, true_and]
  simp only [AW_k, AWk_1, x_iload_1, x_i2l, x_push_i, x_push_l, x_aload_0, x_aloads_0, x_getf, x_isub, x_call_3, x_ret, x_ret_i, x_ret_z, x_ret_l, x_ret_c, k_X11_isArc_0, k_X11_isArc_1, k_X11_isArc_2, k_X11_isArc_3, k_X11_isArc_4, k_X11_isArc_5, k_X11_isArc_6, k_X11_isArc_7, k_X11_isArc_8, k_X11_isArc_9, oE_some, Int.reduceToNat, Nat.reduceAdd, true_and, and_true, List.length_cons, List.length_nil, Option.toList_some, Option.toList_none, List.cons_append, List.nil_append, Nat.reduceLeDiff, Nat.le_refl, wdS_nil, wdS_i, wdS_l, wdS_r, wdS_n, wdS_s, g17, m_in d, tI_id hx, tI_id er, q0_I, ei]
  cases (axo n x).isSome
  · exact ⟨fun q => q.2, fun q => ⟨Or.inl rfl, q⟩⟩
  · exact ⟨fun q => q.2, fun q => ⟨Or.inr rfl, q⟩⟩
theorem mArc_n (d : Nat) {hp : HP} {n : Nat} {x : Int} (h : MA hp n) (hx : w32 x = x) (e : axo n x = none) (R : PO) : callD (d + 2) 186 [mR 54, mI x] hp R ↔ R (some (mI 0)) hp := by
  rw [m_isArc d h hx R, e]; exact Iff.rfl
theorem mArc_s (d : Nat) {hp : HP} {n a : Nat} {x : Int} (h : MA hp n) (hx : w32 x = x) (e : axo n x = some a) (R : PO) : callD (d + 2) 186 [mR 54, mI x] hp R ↔ R (some (mI 1)) hp := by
  rw [m_isArc d h hx R, e]; exact Iff.rfl
set_option maxHeartbeats 8000000 in
theorem m_diagramOf (d : Nat) {hp : HP} {n i : Nat} (h : MA hp n) (hi2 : i < FC n) (R : PO) : callD (d + 3) 189 [mR 54, mI ((num n i : Nat) : Int)] hp R ↔ R (some (mL (BitVec.ofNat 64 (dgm n i)))) hp := by
  have hK := h.1
  have h1 := hK.1.1
  have h6 := hK.1.2
  have g1 := hK.2.1
  have fN := NA_le n
  have en : (n : Int) - 1 = ((n - 1 : Nat) : Int) := by omega
  have bn : n - 1 < 2147483648 := by omega
  have key : ∀ (m p : Nat), p + m = n - 1 → (AWh (d + 2) [] 189 R 4 [some (mR 54), some (mI ((num n i : Nat) : Int)), some (mL (ddA n i p)), none, some (mI (p : Int))] [] hp (0, 0) ↔ R (some (mL (BitVec.ofNat 64 (dgm n i)))) hp) := by
    intro m
    induction m with
    | zero =>
      intro p hp1
      have e : p = n - 1 := by omega
      subst e
      rw [(rd_ok h1 h6 hi2).2]
      rw [AWh_k, k_X11_diagramOf_4]
      simp only [AW_k, AWk_1, x_iload_4, x_aload_0, x_aloads_0, x_getf, x_push_i, x_push_l, x_isub, x_icmp_ge, x_lload_2, x_iload_1, x_callv_3, x_if_eq, x_lshl, x_goto, x_lor, x_lstore_2, x_iinc_4, x_ret, x_ret_i, x_ret_z, x_ret_l, x_ret_c, unl_i, unl_l, unl_q, unl_r, unl_s, unl_n, k_X11_diagramOf_4, k_X11_diagramOf_5, k_X11_diagramOf_6, k_X11_diagramOf_7, k_X11_diagramOf_8, k_X11_diagramOf_9, k_X11_diagramOf_10, k_X11_diagramOf_11, k_X11_diagramOf_12, k_X11_diagramOf_13, k_X11_diagramOf_14, k_X11_diagramOf_15, k_X11_diagramOf_16, k_X11_diagramOf_17, k_X11_diagramOf_18, k_X11_diagramOf_19, k_X11_diagramOf_20, k_X11_diagramOf_21, k_X11_diagramOf_22, k_X11_diagramOf_23, k_X11_diagramOf_24, k_X11_diagramOf_25, k_X11_diagramOf_26, k_X11_diagramOf_27, k_X11_diagramOf_28, k_X11_diagramOf_29, oE_some, Int.reduceToNat, Nat.reduceAdd, true_and, and_true, List.length_cons, List.length_nil, Option.toList_some, Option.toList_none, List.cons_append, List.nil_append, Nat.reduceLeDiff, Nat.le_refl, wdS_nil, wdS_i, wdS_l, wdS_r, wdS_n, wdS_s, g1, en]
      rw [if_neg (Int.lt_irrefl _)]
    | succ m ih =>
      intro p hp1
      have hpn : p < n - 1 := by omega
      have bp : p < 2147483648 := by omega
      have f1 : ((p : Int) < ((n - 1 : Nat) : Int)) = True := eq_true (by omega)
      have e1 : (p : Int) + 1 = ((p + 1 : Nat) : Int) := by omega
      have har := ar_lt h1 h6 hi2 hpn
      have a64 : ar n i p < 64 := by omega
      have hnx := ih (p + 1) (by omega)
      rw [ddA_succ] at hnx
      rw [AWh_k, k_X11_diagramOf_4]
      cases c : dn n i p with
      | true =>
        rw [if_pos c] at hnx
        simp only [AW_k, AWk_1, x_iload_4, x_aload_0, x_aloads_0, x_getf, x_push_i, x_push_l, x_isub, x_icmp_ge, x_lload_2, x_iload_1, x_callv_3, x_if_eq, x_lshl, x_goto, x_lor, x_lstore_2, x_iinc_4, unl_i, unl_l, unl_q, unl_r, unl_s, unl_n, k_X11_diagramOf_4, k_X11_diagramOf_5, k_X11_diagramOf_6, k_X11_diagramOf_7, k_X11_diagramOf_8, k_X11_diagramOf_9, k_X11_diagramOf_10, k_X11_diagramOf_11, k_X11_diagramOf_12, k_X11_diagramOf_13, k_X11_diagramOf_14, k_X11_diagramOf_15, k_X11_diagramOf_16, k_X11_diagramOf_17, k_X11_diagramOf_18, k_X11_diagramOf_19, k_X11_diagramOf_20, k_X11_diagramOf_21, k_X11_diagramOf_22, k_X11_diagramOf_23, k_X11_diagramOf_24, k_X11_diagramOf_25, k_X11_diagramOf_26, k_X11_diagramOf_27, oE_some, Int.reduceToNat, Nat.reduceAdd, true_and, and_true, List.length_cons, List.length_nil, Option.toList_some, Option.toList_none, List.cons_append, List.nil_append, Nat.reduceLeDiff, Nat.le_refl, wdS_nil, wdS_i, wdS_l, wdS_r, wdS_n, wdS_s, g1, en, w32_nat bp, w32_nat bn, f1, cM hK, m_isDrop d hK hi2 hpn, c, zI_t, w10, m_arcAt d h hi2 hpn, sh_k a64, e1, ↓reduceIte]
        exact hnx
      | false =>
        rw [if_neg (by rw [c]; decide)] at hnx
        simp only [AW_k, AWk_1, x_iload_4, x_aload_0, x_aloads_0, x_getf, x_push_i, x_push_l, x_isub, x_icmp_ge, x_lload_2, x_iload_1, x_callv_3, x_if_eq, x_lshl, x_goto, x_lor, x_lstore_2, x_iinc_4, unl_i, unl_l, unl_q, unl_r, unl_s, unl_n, k_X11_diagramOf_4, k_X11_diagramOf_5, k_X11_diagramOf_6, k_X11_diagramOf_7, k_X11_diagramOf_8, k_X11_diagramOf_9, k_X11_diagramOf_10, k_X11_diagramOf_11, k_X11_diagramOf_12, k_X11_diagramOf_13, k_X11_diagramOf_14, k_X11_diagramOf_15, k_X11_diagramOf_16, k_X11_diagramOf_17, k_X11_diagramOf_18, k_X11_diagramOf_19, k_X11_diagramOf_20, k_X11_diagramOf_21, k_X11_diagramOf_22, k_X11_diagramOf_23, k_X11_diagramOf_24, k_X11_diagramOf_25, k_X11_diagramOf_26, k_X11_diagramOf_27, oE_some, Int.reduceToNat, Nat.reduceAdd, true_and, and_true, List.length_cons, List.length_nil, Option.toList_some, Option.toList_none, List.cons_append, List.nil_append, Nat.reduceLeDiff, Nat.le_refl, wdS_nil, wdS_i, wdS_l, wdS_r, wdS_n, wdS_s, g1, en, w32_nat bp, w32_nat bn, f1, cM hK, m_isDrop d hK hi2 hpn, c, zI_f, w00, or0, e1, ↓reduceIte]
        exact hnx
  rw [callD_k]; simp only [entL_i, entL_l, entL_q, entL_s, entL_nil, n_X11_diagramOf, u_X11_diagramOf, m_X11_diagramOf, rep_3, List.cons_append, List.nil_append, List.append_nil, List.length_cons, List.length_nil, Nat.reduceAdd, true_and]
  simp only [AW_k, AWk_1, x_push_i, x_push_l, x_lstore_2, x_istore_4, x_iload_4, unl_i, unl_l, unl_q, unl_r, unl_s, unl_n, k_X11_diagramOf_0, k_X11_diagramOf_1, k_X11_diagramOf_2, k_X11_diagramOf_3, k_X11_diagramOf_4, oE_some, Int.reduceToNat, Nat.reduceAdd, true_and, and_true, List.length_cons, List.length_nil, Option.toList_some, Option.toList_none, List.cons_append, List.nil_append, Nat.reduceLeDiff, Nat.le_refl, wdS_nil, wdS_i, wdS_l, wdS_r, wdS_n, wdS_s]
  exact key (n - 1) 0 (Nat.zero_add _)
/-- what these force -/
def cbF (n : Nat) (s : BitVec 64) : Nat → BitVec 64
  | 0 => 0#64
  | k + 1 => cbF n s k ||| (if s.getLsbD k = true then FO n k else 0#64)
theorem cbF_up (n : Nat) (s : BitVec 64) (k : Nat) : cbF n s (k + 1) = cbF n s k ||| (if s.getLsbD k = true then FO n k else 0#64) := rfl
theorem clF_or (n : Nat) (s : BitVec 64) : ∀ k, clF n s k = s ||| cbF n s k := by
  intro k
  induction k with
  | zero => show s = s ||| 0#64; rw [or0]
  | succ k ih =>
    rw [clF_up, cbF_up, ih]
    split
    · rw [orA]; rfl
    · rw [or0]
theorem cbF_has {n : Nat} {s : BitVec 64} (h1 : 1 ≤ n) (h6 : n ≤ 6) : ∀ k, k ≤ NA n → ∀ j, j < k → s.getLsbD j = true → (cbF n s k).getLsbD j = true := by
  intro k
  induction k with
  | zero => intro _ j hj; omega
  | succ k ih =>
    intro hk j hj hs
    rw [cbF_up, BitVec.getLsbD_or]
    by_cases e : j = k
    · subst e
      rw [if_pos hs, FO_get h1 h6 (by omega), fr_self h1 h6 (by omega), Bool.or_true]
    · rw [ih (by omega) j (by omega) hs, Bool.true_or]
theorem cl_cb {n : Nat} {s : BitVec 64} (h1 : 1 ≤ n) (h6 : n ≤ 6) (hs : okS n s) : cbF n s (NA n) = cl n s := by
  have e : cl n s = s ||| cbF n s (NA n) := clF_or n s (NA n)
  rw [e]
  apply BitVec.eq_of_getLsbD_eq
  intro j hj
  rw [BitVec.getLsbD_or]
  cases q : s.getLsbD j with
  | false => rw [Bool.false_or]
  | true => rw [Bool.true_or]; exact cbF_has h1 h6 (NA n) (Nat.le_refl _) j (hs j q) q
set_option maxHeartbeats 8000000 in
theorem m_closedBy (d : Nat) {hp : HP} {n : Nat} {s : BitVec 64} (h : MA hp n) (hs : okS n s) (R : PO) : callD (d + 2) 190 [mR 54, mL s] hp R ↔ R (some (mL (cl n s))) hp := by
  obtain ⟨hK, ⟨g13, g14, g15, g16, g17⟩, l1, l2, l3, l4, ⟨a1, a2, a3, a4⟩, ⟨n1, n2, n3, n4⟩, hv⟩ := h
  have h1 := hK.1.1
  have h6 := hK.1.2
  have fN := NA_le n
  have bN := NA_31 n
  rw [← cl_cb h1 h6 hs]
  have key : ∀ (m k : Nat), k + m = NA n → (AWh (d + 1) [] 190 R 4 [some (mR 54), some (mL s), none, some (mL (cbF n s k)), none, some (mI (k : Int))] [] hp (0, 0) ↔ R (some (mL (cbF n s (NA n)))) hp) := by
    intro m
    induction m with
    | zero =>
      intro k hk
      have e : k = NA n := by omega
      subst e
      rw [AWh_k, k_X11_closedBy_4]
      simp only [AW_k, AWk_1, x_iload_5, x_aload_0, x_aloads_0, x_getf, x_icmp_ge, x_lload_3, x_lload_1, x_call_2, x_if_eq, x_lald, x_goto, x_push_i, x_push_l, x_lor, x_lstore_3, x_iinc_5, x_ret, x_ret_i, x_ret_z, x_ret_l, x_ret_c, unl_i, unl_l, unl_q, unl_r, unl_s, unl_n, k_X11_closedBy_4, k_X11_closedBy_5, k_X11_closedBy_6, k_X11_closedBy_7, k_X11_closedBy_8, k_X11_closedBy_9, k_X11_closedBy_10, k_X11_closedBy_11, k_X11_closedBy_12, k_X11_closedBy_13, k_X11_closedBy_14, k_X11_closedBy_15, k_X11_closedBy_16, k_X11_closedBy_17, k_X11_closedBy_18, k_X11_closedBy_19, k_X11_closedBy_20, k_X11_closedBy_21, k_X11_closedBy_22, k_X11_closedBy_23, k_X11_closedBy_24, oE_some, Int.reduceToNat, Nat.reduceAdd, true_and, and_true, List.length_cons, List.length_nil, Option.toList_some, Option.toList_none, List.cons_append, List.nil_append, Nat.reduceLeDiff, Nat.le_refl, wdS_nil, wdS_i, wdS_l, wdS_r, wdS_n, wdS_s, g17]
      rw [if_neg (Int.lt_irrefl _)]
    | succ m ih =>
      intro k hk
      have hkN : k < NA n := by omega
      have bk : k < 2147483648 := by omega
      have k64 : k < 64 := by omega
      have k57 : k < 57 := by omega
      have f1 : ((k : Int) < ((NA n : Nat) : Int)) = True := eq_true (by omega)
      have e1 : (k : Int) + 1 = ((k + 1 : Nat) : Int) := by omega
      have i1 : inB (k : Int) 57 := inB_n k57 (by decide)
      have w4 := (hv k hkN).2.2.2
      have hnx := ih (k + 1) (by omega)
      rw [cbF_up] at hnx
      rw [AWh_k, k_X11_closedBy_4]
      cases c : s.getLsbD k with
      | true =>
        rw [if_pos c] at hnx
        simp only [AW_k, AWk_1, x_iload_5, x_aload_0, x_aloads_0, x_getf, x_icmp_ge, x_lload_3, x_lload_1, x_call_2, x_if_eq, x_lald, x_goto, x_push_i, x_push_l, x_lor, x_lstore_3, x_iinc_5, unl_i, unl_l, unl_q, unl_r, unl_s, unl_n, k_X11_closedBy_4, k_X11_closedBy_5, k_X11_closedBy_6, k_X11_closedBy_7, k_X11_closedBy_8, k_X11_closedBy_9, k_X11_closedBy_10, k_X11_closedBy_11, k_X11_closedBy_12, k_X11_closedBy_13, k_X11_closedBy_14, k_X11_closedBy_15, k_X11_closedBy_16, k_X11_closedBy_17, k_X11_closedBy_18, k_X11_closedBy_19, k_X11_closedBy_20, k_X11_closedBy_21, k_X11_closedBy_22, oE_some, Int.reduceToNat, Nat.reduceAdd, true_and, and_true, List.length_cons, List.length_nil, Option.toList_some, Option.toList_none, List.cons_append, List.nil_append, Nat.reduceLeDiff, Nat.le_refl, wdS_nil, wdS_i, wdS_l, wdS_r, wdS_n, wdS_s, g17, w32_nat bk, w32_nat bN, f1, m_hasK d k64, c, zI_t, w10, g16, a4, n4, i1, w4, Int.toNat_natCast, e1, ↓reduceIte]
        exact hnx
      | false =>
        rw [if_neg (by rw [c]; decide)] at hnx
        simp only [AW_k, AWk_1, x_iload_5, x_aload_0, x_aloads_0, x_getf, x_icmp_ge, x_lload_3, x_lload_1, x_call_2, x_if_eq, x_lald, x_goto, x_push_i, x_push_l, x_lor, x_lstore_3, x_iinc_5, unl_i, unl_l, unl_q, unl_r, unl_s, unl_n, k_X11_closedBy_4, k_X11_closedBy_5, k_X11_closedBy_6, k_X11_closedBy_7, k_X11_closedBy_8, k_X11_closedBy_9, k_X11_closedBy_10, k_X11_closedBy_11, k_X11_closedBy_12, k_X11_closedBy_13, k_X11_closedBy_14, k_X11_closedBy_15, k_X11_closedBy_16, k_X11_closedBy_17, k_X11_closedBy_18, k_X11_closedBy_19, k_X11_closedBy_20, k_X11_closedBy_21, k_X11_closedBy_22, oE_some, Int.reduceToNat, Nat.reduceAdd, true_and, and_true, List.length_cons, List.length_nil, Option.toList_some, Option.toList_none, List.cons_append, List.nil_append, Nat.reduceLeDiff, Nat.le_refl, wdS_nil, wdS_i, wdS_l, wdS_r, wdS_n, wdS_s, g17, w32_nat bk, w32_nat bN, f1, m_hasK d k64, c, zI_f, w00, e1, ↓reduceIte]
        exact hnx
  rw [callD_k]; simp only [entL_i, entL_l, entL_q, entL_s, entL_nil, n_X11_closedBy, u_X11_closedBy, m_X11_closedBy, rep_3, List.cons_append, List.nil_append, List.append_nil, List.length_cons, List.length_nil, Nat.reduceAdd, true_and]
  simp only [AW_k, AWk_1, x_push_i, x_push_l, x_lstore_3, x_istore_5, x_iload_5, unl_i, unl_l, unl_q, unl_r, unl_s, unl_n, k_X11_closedBy_0, k_X11_closedBy_1, k_X11_closedBy_2, k_X11_closedBy_3, k_X11_closedBy_4, oE_some, Int.reduceToNat, Nat.reduceAdd, true_and, and_true, List.length_cons, List.length_nil, Option.toList_some, Option.toList_none, List.cons_append, List.nil_append, Nat.reduceLeDiff, Nat.le_refl, wdS_nil, wdS_i, wdS_l, wdS_r, wdS_n, wdS_s]
  exact key (NA n) 0 (Nat.zero_add _)
def fgs_b (n : Nat) : Bool := allB (fun a => decide (stB (fun k => fr n k a) (NA n) = FG n a)) (NA n)
theorem fgs_c : all6 fgs_b = true := by decide +kernel
theorem fgs_ok {n a : Nat} (h1 : 1 ≤ n) (h6 : n ≤ 6) (ha : a < NA n) : stB (fun k => fr n k a) (NA n) = FG n a := of_decide_eq_true (allB_of (all6_of fgs_c h1 h6) a ha)
set_option maxHeartbeats 8000000 in
theorem m_forcers (d : Nat) {hp : HP} {n a : Nat} (h : MA hp n) (ha : a < NA n) (R : PO) : callD (d + 2) 191 [mR 54, mI (a : Int)] hp R ↔ R (some (mL (FG n a))) hp := by
  obtain ⟨hK, ⟨g13, g14, g15, g16, g17⟩, l1, l2, l3, l4, ⟨a1, a2, a3, a4⟩, ⟨n1, n2, n3, n4⟩, hv⟩ := h
  have h1 := hK.1.1
  have h6 := hK.1.2
  have fN := NA_le n
  have bN := NA_31 n
  have a64 : a < 64 := by omega
  rw [← fgs_ok h1 h6 ha]
  have key : ∀ (m k : Nat), k + m = NA n → (AWh (d + 1) [] 191 R 4 [some (mR 54), some (mI (a : Int)), some (mL (stB (fun k => fr n k a) k)), none, some (mI (k : Int))] [] hp (0, 0) ↔ R (some (mL (stB (fun k => fr n k a) (NA n)))) hp) := by
    intro m
    induction m with
    | zero =>
      intro k hk
      have e : k = NA n := by omega
      subst e
      rw [AWh_k, k_X11_forcers_4]
      simp only [AW_k, AWk_1, x_iload_4, x_aload_0, x_aloads_0, x_getf, x_icmp_ge, x_lload_2, x_lald, x_iload_1, x_call_2, x_if_eq, x_push_i, x_push_l, x_lshl, x_goto, x_lor, x_lstore_2, x_iinc_4, x_ret, x_ret_i, x_ret_z, x_ret_l, x_ret_c, unl_i, unl_l, unl_q, unl_r, unl_s, unl_n, k_X11_forcers_4, k_X11_forcers_5, k_X11_forcers_6, k_X11_forcers_7, k_X11_forcers_8, k_X11_forcers_9, k_X11_forcers_10, k_X11_forcers_11, k_X11_forcers_12, k_X11_forcers_13, k_X11_forcers_14, k_X11_forcers_15, k_X11_forcers_16, k_X11_forcers_17, k_X11_forcers_18, k_X11_forcers_19, k_X11_forcers_20, k_X11_forcers_21, k_X11_forcers_22, k_X11_forcers_23, k_X11_forcers_24, k_X11_forcers_25, k_X11_forcers_26, oE_some, Int.reduceToNat, Nat.reduceAdd, true_and, and_true, List.length_cons, List.length_nil, Option.toList_some, Option.toList_none, List.cons_append, List.nil_append, Nat.reduceLeDiff, Nat.le_refl, wdS_nil, wdS_i, wdS_l, wdS_r, wdS_n, wdS_s, g17]
      rw [if_neg (Int.lt_irrefl _)]
    | succ m ih =>
      intro k hk
      have hkN : k < NA n := by omega
      have bk : k < 2147483648 := by omega
      have k64 : k < 64 := by omega
      have k57 : k < 57 := by omega
      have f1 : ((k : Int) < ((NA n : Nat) : Int)) = True := eq_true (by omega)
      have e1 : (k : Int) + 1 = ((k + 1 : Nat) : Int) := by omega
      have i1 : inB (k : Int) 57 := inB_n k57 (by decide)
      have w4 := (hv k hkN).2.2.2
      have ef := FO_get h1 h6 hkN a
      have hnx := ih (k + 1) (by omega)
      rw [stB_succ] at hnx
      have sk := sh_k k64
      rw [w32_nat bk] at sk
      rw [AWh_k, k_X11_forcers_4]
      cases c : fr n k a with
      | true =>
        rw [if_pos c] at hnx
        rw [c] at ef
        simp only [AW_k, AWk_1, x_iload_4, x_aload_0, x_aloads_0, x_getf, x_icmp_ge, x_lload_2, x_lald, x_iload_1, x_call_2, x_if_eq, x_push_i, x_push_l, x_lshl, x_goto, x_lor, x_lstore_2, x_iinc_4, unl_i, unl_l, unl_q, unl_r, unl_s, unl_n, k_X11_forcers_4, k_X11_forcers_5, k_X11_forcers_6, k_X11_forcers_7, k_X11_forcers_8, k_X11_forcers_9, k_X11_forcers_10, k_X11_forcers_11, k_X11_forcers_12, k_X11_forcers_13, k_X11_forcers_14, k_X11_forcers_15, k_X11_forcers_16, k_X11_forcers_17, k_X11_forcers_18, k_X11_forcers_19, k_X11_forcers_20, k_X11_forcers_21, k_X11_forcers_22, k_X11_forcers_23, k_X11_forcers_24, oE_some, Int.reduceToNat, Nat.reduceAdd, true_and, and_true, List.length_cons, List.length_nil, Option.toList_some, Option.toList_none, List.cons_append, List.nil_append, Nat.reduceLeDiff, Nat.le_refl, wdS_nil, wdS_i, wdS_l, wdS_r, wdS_n, wdS_s, g17, w32_nat bk, w32_nat bN, f1, g16, a4, n4, i1, w4, Int.toNat_natCast, m_hasK d a64, ef, zI_t, w10, sk, e1, ↓reduceIte]
        exact hnx
      | false =>
        rw [if_neg (by rw [c]; decide)] at hnx
        rw [c] at ef
        simp only [AW_k, AWk_1, x_iload_4, x_aload_0, x_aloads_0, x_getf, x_icmp_ge, x_lload_2, x_lald, x_iload_1, x_call_2, x_if_eq, x_push_i, x_push_l, x_lshl, x_goto, x_lor, x_lstore_2, x_iinc_4, unl_i, unl_l, unl_q, unl_r, unl_s, unl_n, k_X11_forcers_4, k_X11_forcers_5, k_X11_forcers_6, k_X11_forcers_7, k_X11_forcers_8, k_X11_forcers_9, k_X11_forcers_10, k_X11_forcers_11, k_X11_forcers_12, k_X11_forcers_13, k_X11_forcers_14, k_X11_forcers_15, k_X11_forcers_16, k_X11_forcers_17, k_X11_forcers_18, k_X11_forcers_19, k_X11_forcers_20, k_X11_forcers_21, k_X11_forcers_22, k_X11_forcers_23, k_X11_forcers_24, oE_some, Int.reduceToNat, Nat.reduceAdd, true_and, and_true, List.length_cons, List.length_nil, Option.toList_some, Option.toList_none, List.cons_append, List.nil_append, Nat.reduceLeDiff, Nat.le_refl, wdS_nil, wdS_i, wdS_l, wdS_r, wdS_n, wdS_s, g17, w32_nat bk, w32_nat bN, f1, g16, a4, n4, i1, w4, Int.toNat_natCast, m_hasK d a64, ef, zI_f, w00, e1, ↓reduceIte]
        exact hnx
  rw [callD_k]; simp only [entL_i, entL_l, entL_q, entL_s, entL_nil, n_X11_forcers, u_X11_forcers, m_X11_forcers, rep_3, List.cons_append, List.nil_append, List.append_nil, List.length_cons, List.length_nil, Nat.reduceAdd, true_and]
  simp only [AW_k, AWk_1, x_push_i, x_push_l, x_lstore_2, x_istore_4, x_iload_4, unl_i, unl_l, unl_q, unl_r, unl_s, unl_n, k_X11_forcers_0, k_X11_forcers_1, k_X11_forcers_2, k_X11_forcers_3, k_X11_forcers_4, oE_some, Int.reduceToNat, Nat.reduceAdd, true_and, and_true, List.length_cons, List.length_nil, Option.toList_some, Option.toList_none, List.cons_append, List.nil_append, Nat.reduceLeDiff, Nat.le_refl, wdS_nil, wdS_i, wdS_l, wdS_r, wdS_n, wdS_s]
  exact key (NA n) 0 (Nat.zero_add _)
