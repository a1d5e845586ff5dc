/-! ===== the reference tells the arcs (2) ===== -/
set_option maxHeartbeats 32000000 in
theorem ta_b (d : Nat) {n a : Nat} {R : PO} (h1 : 1 ≤ n) (h6 : n ≤ 6) (a1 : 1 ≤ a) (an : a ≤ n) : ∀ (m b : Nat) (h : HP) (l1 l2 l3 : List Int) (l4 : List (BitVec 64)) (y3 : Option AV), b + m = n + 1 → a < b → TAx h n (oF n a b) l1 l2 l3 l4 → ∃ h' l1' l2' l3' y3', TAx h' n (oF n a (n + 1)) l1' l2' l3' l4 ∧ TFr h h' ∧ (AWh (d + 4) [] 183 R 13 [some (mR 54), some (mI (a : Int)), some (mI (b : Int)), y3] [] h (0, 0) ↔ AWk (d + 4) [] 183 R 56 (cd 183 56) [some (mR 54), some (mI (a : Int)), some (mI ((n + 1 : Nat) : Int)), y3'] [] h' (0, 0)) := by
  intro m
  induction m with
  | zero =>
    intro b h l1 l2 l3 l4 y3 hb hab hT
    have e : b = n + 1 := by omega
    subst e
    have bn : n < 2147483648 := by omega
    have bn1 : n + 1 < 2147483648 := by omega
    have f1 : ((n : Int) < ((n + 1 : Nat) : Int)) = True := eq_true (by omega)
    have g1 := hT.1.2.1
    refine ⟨h, l1, l2, l3, y3, hT, TFr_refl' hT.2.1.2.2.2.2, ?_⟩
    rw [AWh_k, k_X11_tellsArcs_13]
    simp only [AW_k, AWk_1, x_iload_2, x_aload_0, x_aloads_0, x_getf, x_icmp_gt, k_X11_tellsArcs_13, k_X11_tellsArcs_14, k_X11_tellsArcs_15, k_X11_tellsArcs_16, oE_some, Int.reduceToNat, Nat.reduceAdd, true_and, and_true, List.length_cons, List.length_nil, Option.toList_some, Option.toList_none, List.cons_append, List.nil_append, Nat.reduceLeDiff, Nat.le_refl, wdS_nil, wdS_i, wdS_l, wdS_r, wdS_n, wdS_s, g1, w32_nat bn, w32_nat bn1, f1, ↓reduceIte]
  | succ m ih =>
    intro b h l1 l2 l3 l4 y3 hb hab hT
    have bn : b ≤ n := by omega
    have bb : b < 2147483648 := by omega
    have bN : n < 2147483648 := by omega
    have f1 : ((n : Int) < (b : Int)) = False := eq_false (by omega)
    have e1 : (b : Int) + 1 = ((b + 1 : Nat) : Int) := by omega
    have g1 := hT.1.2.1
    obtain ⟨h2, m1, m2, m3, t1, t2, t3⟩ := ta_l d (R := R) h1 h6 a1 hab bn (2 ^ (b - a - 1)) 0 h l1 l2 l3 l4 (Nat.zero_add _) hT
    obtain ⟨h', l1', l2', l3', y3', u1, u2, u3⟩ := ih (b + 1) h2 m1 m2 m3 l4 (some (mI ((2 ^ (b - a - 1) : Nat) : Int))) (by omega) (by omega) t1
    refine ⟨h', l1', l2', l3', y3', u1, TFr_trans t2 u2, ?_⟩
    have p1 : AWh (d + 4) [] 183 R 13 [some (mR 54), some (mI (a : Int)), some (mI (b : Int)), y3] [] h (0, 0) ↔ AWh (d + 4) [] 183 R 19 [some (mR 54), some (mI (a : Int)), some (mI (b : Int)), some (mI ((0 : Nat) : Int))] [] h (0, 0) := by
      rw [AWh_k, k_X11_tellsArcs_13]
      simp only [AW_k, AWk_1, x_iload_2, x_aload_0, x_aloads_0, x_getf, x_icmp_gt, x_push_i, x_push_l, x_istore_3, x_iload_3, unl_i, unl_l, unl_q, unl_r, unl_s, unl_n, k_X11_tellsArcs_13, k_X11_tellsArcs_14, k_X11_tellsArcs_15, k_X11_tellsArcs_16, k_X11_tellsArcs_17, k_X11_tellsArcs_18, k_X11_tellsArcs_19, oE_some, Int.reduceToNat, Nat.reduceAdd, true_and, and_true, List.length_cons, List.length_nil, Option.toList_some, Option.toList_none, List.cons_append, List.nil_append, Nat.reduceLeDiff, Nat.le_refl, wdS_nil, wdS_i, wdS_l, wdS_r, wdS_n, wdS_s, g1, w32_nat bb, w32_nat bN, f1, ↓reduceIte]
      all_goals exact Iff.rfl
    refine p1.trans (t3.trans (Iff.trans ?_ u3))
    simp only [AW_k, AWk_1, x_iinc_2, x_goto, unl_i, unl_l, unl_q, unl_r, unl_s, unl_n, k_X11_tellsArcs_54, k_X11_tellsArcs_55, oE_some, Int.reduceToNat, Nat.reduceAdd, true_and, and_true, List.length_cons, List.length_nil, Option.toList_some, Option.toList_none, List.cons_append, List.nil_append, Nat.reduceLeDiff, Nat.le_refl, wdS_nil, wdS_i, wdS_l, wdS_r, wdS_n, wdS_s, e1]
    all_goals exact Iff.rfl
set_option maxHeartbeats 32000000 in
theorem ta_a (d : Nat) {n : Nat} {R : PO} (h1 : 1 ≤ n) (h6 : n ≤ 6) : ∀ (m a : Nat) (h : HP) (l1 l2 l3 : List Int) (l4 : List (BitVec 64)) (y2 y3 : Option AV), a + m = n + 1 → 1 ≤ a → TAx h n (oA n a) l1 l2 l3 l4 → ∃ h' l1' l2' l3' y1' y2' y3', TAx h' n (NA n) l1' l2' l3' l4 ∧ TFr h h' ∧ (AWh (d + 4) [] 183 R 5 [some (mR 54), some (mI (a : Int)), y2, y3] [] h (0, 0) ↔ AWk (d + 4) [] 183 R 58 (cd 183 58) [some (mR 54), y1', y2', y3'] [] h' (0, 0)) := by
  obtain ⟨o1, o2, o3⟩ := oe_ok h1 h6
  intro m
  induction m with
  | zero =>
    intro a h l1 l2 l3 l4 y2 y3 ha a1 hT
    have e : a = n + 1 := by omega
    subst e
    rw [o2] at hT
    have bn : n < 2147483648 := by omega
    have bn1 : n + 1 < 2147483648 := by omega
    have f1 : ((n : Int) < ((n + 1 : Nat) : Int)) = True := eq_true (by omega)
    have g1 := hT.1.2.1
    refine ⟨h, l1, l2, l3, some (mI ((n + 1 : Nat) : Int)), y2, y3, hT, TFr_refl' hT.2.1.2.2.2.2, ?_⟩
    rw [AWh_k, k_X11_tellsArcs_5]
    simp only [AW_k, AWk_1, x_iload_1, x_aload_0, x_aloads_0, x_getf, x_icmp_gt, k_X11_tellsArcs_5, k_X11_tellsArcs_6, k_X11_tellsArcs_7, k_X11_tellsArcs_8, oE_some, Int.reduceToNat, Nat.reduceAdd, true_and, and_true, List.length_cons, List.length_nil, Option.toList_some, Option.toList_none, List.cons_append, List.nil_append, Nat.reduceLeDiff, Nat.le_refl, wdS_nil, wdS_i, wdS_l, wdS_r, wdS_n, wdS_s, g1, w32_nat bn, w32_nat bn1, f1, ↓reduceIte]
  | succ m ih =>
    intro a h l1 l2 l3 l4 y2 y3 ha a1 hT
    have an : a ≤ n := by omega
    have ba : a < 2147483648 := by omega
    have bN : n < 2147483648 := by omega
    have f1 : ((n : Int) < (a : Int)) = False := eq_false (by omega)
    have e1 : (a : Int) + 1 = ((a + 1 : Nat) : Int) := by omega
    have g1 := hT.1.2.1
    obtain ⟨q1, q2⟩ := o3 a a1 an
    rw [← q2] at hT
    obtain ⟨h2, m1, m2, m3, z3, t1, t2, t3⟩ := ta_b d (R := R) h1 h6 a1 an (n - a) (a + 1) h l1 l2 l3 l4 y3 (by omega) (Nat.lt_succ_self a) hT
    rw [q1] at t1
    obtain ⟨h', l1', l2', l3', y1', y2', y3', u1, u2, u3⟩ := ih (a + 1) h2 m1 m2 m3 l4 (some (mI ((n + 1 : Nat) : Int))) z3 (by omega) (by omega) t1
    refine ⟨h', l1', l2', l3', y1', y2', y3', u1, TFr_trans t2 u2, ?_⟩
    have p1 : AWh (d + 4) [] 183 R 5 [some (mR 54), some (mI (a : Int)), y2, y3] [] h (0, 0) ↔ AWh (d + 4) [] 183 R 13 [some (mR 54), some (mI (a : Int)), some (mI ((a + 1 : Nat) : Int)), y3] [] h (0, 0) := by
      rw [AWh_k, k_X11_tellsArcs_5]
      simp only [AW_k, AWk_1, x_iload_1, x_aload_0, x_aloads_0, x_getf, x_icmp_gt, x_push_i, x_push_l, x_iadd, x_istore_2, x_iload_2, unl_i, unl_l, unl_q, unl_r, unl_s, unl_n, k_X11_tellsArcs_5, k_X11_tellsArcs_6, k_X11_tellsArcs_7, k_X11_tellsArcs_8, k_X11_tellsArcs_9, k_X11_tellsArcs_10, k_X11_tellsArcs_11, k_X11_tellsArcs_12, k_X11_tellsArcs_13, oE_some, Int.reduceToNat, Nat.reduceAdd, true_and, and_true, List.length_cons, List.length_nil, Option.toList_some, Option.toList_none, List.cons_append, List.nil_append, Nat.reduceLeDiff, Nat.le_refl, wdS_nil, wdS_i, wdS_l, wdS_r, wdS_n, wdS_s, g1, w32_nat ba, w32_nat bN, f1, e1, ↓reduceIte]
    refine p1.trans (t3.trans (Iff.trans ?_ u3))
    simp only [AW_k, AWk_1, x_iinc_1, x_goto, unl_i, unl_l, unl_q, unl_r, unl_s, unl_n, k_X11_tellsArcs_56, k_X11_tellsArcs_57, oE_some, Int.reduceToNat, Nat.reduceAdd, true_and, and_true, List.length_cons, List.length_nil, Option.toList_some, Option.toList_none, List.cons_append, List.nil_append, Nat.reduceLeDiff, Nat.le_refl, wdS_nil, wdS_i, wdS_l, wdS_r, wdS_n, wdS_s, e1]
    all_goals exact Iff.rfl
/-- whether all between are told alike -/
def ilF (n x y : Nat) : Nat → Nat → Bool
  | 0, _ => true
  | m + 1, c => (tst (lf n x) (c - lo n x - 1) == tst (lf n y) (c - lo n y - 1)) && ilF n x y m (c + 1)
theorem ilF_up (n x y m c : Nat) : ilF n x y (m + 1) c = ((tst (lf n x) (c - lo n x - 1) == tst (lf n y) (c - lo n y - 1)) && ilF n x y m (c + 1)) := rfl
def if_b (n : Nat) : Bool := allB (fun x => allB (fun y => (Nat.ble (lo n y) (lo n x) && (Nat.ble (hi n x) (hi n y) && ilF n x y (hi n x - lo n x - 1) (lo n x + 1))) == fr n x y) (NA n) && decide (stB (fun y => fr n x y) (NA n) = FO n x)) (NA n)
theorem if_c : all6 if_b = true := by decide +kernel
theorem if_ok {n x y : Nat} (h1 : 1 ≤ n) (h6 : n ≤ 6) (hx : x < NA n) (hy : y < NA n) : (Nat.ble (lo n y) (lo n x) && (Nat.ble (hi n x) (hi n y) && ilF n x y (hi n x - lo n x - 1) (lo n x + 1))) = fr n x y := by
  have := allB_of (all6_of if_c h1 h6) x hx
  rw [Bool.and_eq_true] at this
  exact beq_iff_eq.mp (allB_of this.1 y hy)
theorem fos_ok {n x : Nat} (h1 : 1 ≤ n) (h6 : n ≤ 6) (hx : x < NA n) : stB (fun y => fr n x y) (NA n) = FO n x := by
  have := allB_of (all6_of if_c h1 h6) x hx
  rw [Bool.and_eq_true] at this
  exact of_decide_eq_true this.2
set_option maxHeartbeats 8000000 in
theorem m_isLeft (d : Nat) {hp : HP} {n x c : Nat} {l1 l2 l3 : List Int} {l4 : List (BitVec 64)} (h : TAx hp n (NA n) l1 l2 l3 l4) (hx : x < NA n) (hc : lo n x < c) (hc2 : c ≤ 6) (R : PO) : callD (d + 2) 184 [mR 54, mI (x : Int), mI (c : Int)] hp R ↔ R (some (mI (zI (tst (lf n x) (c - lo n x - 1))))) hp := by
  obtain ⟨hK, ⟨g13, g14, g15, g16, g17⟩, ⟨a1, a2, a3, a4⟩, ⟨n1, n2, n3, n4⟩, hv⟩ := h
  have h1 := hK.1.1
  have h6 := hK.1.2
  have fN := NA_le n
  have x57 : x < 57 := by omega
  have bx : x < 2147483648 := by omega
  have ix : inB (x : Int) 57 := inB_n x57 (by decide)
  obtain ⟨v1, v2, v3⟩ := hv x hx
  obtain ⟨t1, t2, t3⟩ := lo_hi_31 h1 h6 hx
  have e1 : (c : Int) - ((lo n x : Nat) : Int) - 1 = ((c - lo n x - 1 : Nat) : Int) := by omega
  have k64 : c - lo n x - 1 < 64 := by omega
  rw [callD_k]; simp only [entL_i, entL_l, entL_q, entL_s, entL_nil, n_X11_isLeft, u_X11_isLeft, m_X11_isLeft, rep_0, List.cons_append, List.nil_append, List.append_nil, List.length_cons, List.length_nil, Nat.reduceAdd, true_and]
  simp only [AW_k, AWk_1, x_aload_0, x_aloads_0, x_getf, x_iload_1, x_iald, x_ialds, x_i2l, x_iload_2, x_isub, x_push_i, x_push_l, x_call_2, x_ret, x_ret_i, x_ret_z, x_ret_l, x_ret_c, k_X11_isLeft_0, k_X11_isLeft_1, k_X11_isLeft_2, k_X11_isLeft_3, k_X11_isLeft_4, k_X11_isLeft_5, k_X11_isLeft_6, k_X11_isLeft_7, k_X11_isLeft_8, k_X11_isLeft_9, k_X11_isLeft_10, k_X11_isLeft_11, k_X11_isLeft_12, k_X11_isLeft_13, k_X11_isLeft_14, oE_some, Int.reduceToNat, Nat.reduceAdd, true_and, and_true, List.length_cons, List.length_nil, Option.toList_some, Option.toList_none, List.cons_append, List.nil_append, Nat.reduceLeDiff, Nat.le_refl, wdS_nil, wdS_i, wdS_l, wdS_r, wdS_n, wdS_s, g15, a3, n3, ix, w32_tn bx, v3, g13, a1, n1, v1, e1, m_hasK d k64, ofI_bit t3 k64]
  cases tst (lf n x) (c - lo n x - 1)
  · exact ⟨fun q => q.2, fun q => ⟨Or.inl rfl, q⟩⟩
  · exact ⟨fun q => q.2, fun q => ⟨Or.inr rfl, q⟩⟩
set_option maxHeartbeats 16000000 in
theorem m_isForcing (d : Nat) {hp : HP} {n x y : Nat} {l1 l2 l3 : List Int} {l4 : List (BitVec 64)} (h : TAx hp n (NA n) l1 l2 l3 l4) (hx : x < NA n) (hy : y < NA n) (R : PO) : callD (d + 3) 185 [mR 54, mI (x : Int), mI (y : Int)] hp R ↔ R (some (mI (zI (fr n x y)))) hp := by
  have hT := h
  obtain ⟨hK, ⟨g13, g14, g15, g16, g17⟩, ⟨a1, a2, a3, a4⟩, ⟨n1, n2, n3, n4⟩, hv⟩ := h
  have h1 := hK.1.1
  have h6 := hK.1.2
  have fN := NA_le n
  have x57 : x < 57 := by omega
  have bx : x < 2147483648 := by omega
  have ix : inB (x : Int) 57 := inB_n x57 (by decide)
  have y57 : y < 57 := by omega
  have by_ : y < 2147483648 := by omega
  have iy : inB (y : Int) 57 := inB_n y57 (by decide)
  obtain ⟨v1, v2, v3⟩ := hv x hx
  obtain ⟨w1, w2, w3⟩ := hv y hy
  obtain ⟨t1, t2, t3⟩ := lo_hi_31 h1 h6 hx
  obtain ⟨s1, s2, s3⟩ := lo_hi_31 h1 h6 hy
  obtain ⟨k1, k2, k3, -, -⟩ := arc_ok h1 h6 hx
  have ef := if_ok h1 h6 hx hy
  have e1 : ((lo n x : Nat) : Int) + 1 = ((lo n x + 1 : Nat) : Int) := by omega
  -- the loop where it is so still
  have key : ∀ (m c : Nat), c + m = hi n x → lo n x < c → lo n y ≤ lo n x → (AWh (d + 2) [] 185 R 29 [some (mR 54), some (mI (x : Int)), some (mI (y : Int)), some (mI 1), some (mI (c : Int))] [] hp (0, 0) ↔ R (some (mI (zI (ilF n x y m c)))) hp) := by
    intro m
    induction m with
    | zero =>
      intro c hc hc2 hly
      have e : c = hi n x := by omega
      subst e
      rw [AWh_k, k_X11_isForcing_29]
      simp only [AW_k, AWk_1, x_iload_4, x_aload_0, x_aloads_0, x_getf, x_iload_1, x_iald, x_ialds, x_icmp_ge, x_iload_3, x_if_eq, x_callv_3, x_iload_2, x_icmp_ne, x_push_i, x_push_l, x_goto, x_istore_3, x_iinc_4, x_ret, x_ret_i, x_ret_z, x_ret_l, x_ret_c, unl_i, unl_l, unl_q, unl_r, unl_s, unl_n, k_X11_isForcing_29, k_X11_isForcing_30, k_X11_isForcing_31, k_X11_isForcing_32, k_X11_isForcing_33, k_X11_isForcing_34, k_X11_isForcing_35, k_X11_isForcing_36, k_X11_isForcing_37, k_X11_isForcing_38, k_X11_isForcing_39, k_X11_isForcing_40, k_X11_isForcing_41, k_X11_isForcing_42, k_X11_isForcing_43, k_X11_isForcing_44, k_X11_isForcing_45, k_X11_isForcing_46, k_X11_isForcing_47, k_X11_isForcing_48, k_X11_isForcing_49, k_X11_isForcing_50, k_X11_isForcing_51, k_X11_isForcing_52, k_X11_isForcing_53, oE_some, Int.reduceToNat, Nat.reduceAdd, true_and, and_true, List.length_cons, List.length_nil, Option.toList_some, Option.toList_none, List.cons_append, List.nil_append, Nat.reduceLeDiff, Nat.le_refl, wdS_nil, wdS_i, wdS_l, wdS_r, wdS_n, wdS_s, g14, a2, n2, ix, w32_tn bx, v2]
      rw [if_neg (Int.lt_irrefl _)]
      exact ⟨fun q => q.2, fun q => ⟨Or.inr trivial, q⟩⟩
    | succ m ih =>
      intro c hc hc2 hly
      have bc : c < 2147483648 := by omega
      have f1 : ((c : Int) < ((hi n x : Nat) : Int)) = True := eq_true (by omega)
      have e2 : (c : Int) + 1 = ((c + 1 : Nat) : Int) := by omega
      have il1 := fun R => m_isLeft d hT hx hc2 (show c ≤ 6 by omega) R
      have il2 := fun R => m_isLeft d hT hy (show lo n y < c by omega) (show c ≤ 6 by omega) R
      have hnx := ih (c + 1) (by omega) (by omega) hly
      have hend : ∀ y4 : Option AV, AWh (d + 2) [] 185 R 29 [some (mR 54), some (mI (x : Int)), some (mI (y : Int)), some (mI 0), some (mI ((c + 1 : Nat) : Int))] [] hp (0, 0) ↔ R (some (mI 0)) hp := by
        intro _
        have bc1 : c + 1 < 2147483648 := by omega
        rw [AWh_k, k_X11_isForcing_29]
        simp only [AW_k, AWk_1, x_iload_4, x_aload_0, x_aloads_0, x_getf, x_iload_1, x_iald, x_ialds, x_icmp_ge, x_iload_3, x_if_eq, x_callv_3, x_iload_2, x_icmp_ne, x_push_i, x_push_l, x_goto, x_istore_3, x_iinc_4, x_ret, x_ret_i, x_ret_z, x_ret_l, x_ret_c, unl_i, unl_l, unl_q, unl_r, unl_s, unl_n, k_X11_isForcing_29, k_X11_isForcing_30, k_X11_isForcing_31, k_X11_isForcing_32, k_X11_isForcing_33, k_X11_isForcing_34, k_X11_isForcing_35, k_X11_isForcing_36, k_X11_isForcing_37, k_X11_isForcing_38, k_X11_isForcing_39, k_X11_isForcing_40, k_X11_isForcing_41, k_X11_isForcing_42, k_X11_isForcing_43, k_X11_isForcing_44, k_X11_isForcing_45, k_X11_isForcing_46, k_X11_isForcing_47, k_X11_isForcing_48, k_X11_isForcing_49, k_X11_isForcing_50, k_X11_isForcing_51, k_X11_isForcing_52, k_X11_isForcing_53, oE_some, Int.reduceToNat, Nat.reduceAdd, true_and, and_true, List.length_cons, List.length_nil, Option.toList_some, Option.toList_none, List.cons_append, List.nil_append, Nat.reduceLeDiff, Nat.le_refl, wdS_nil, wdS_i, wdS_l, wdS_r, wdS_n, wdS_s, g14, a2, n2, ix, w32_tn bx, v2, w00, w32_nat bc1, w32_nat t2, ↓reduceIte]
        by_cases q : ((c + 1 : Nat) : Int) < ((hi n x : Nat) : Int)
        · rw [if_pos q]; exact ⟨fun q => q.2, fun q => ⟨Or.inl trivial, q⟩⟩
        · rw [if_neg q]; exact ⟨fun q => q.2, fun q => ⟨Or.inl trivial, q⟩⟩
      rw [ilF_up]
      rw [AWh_k, k_X11_isForcing_29]
      cases z1 : tst (lf n x) (c - lo n x - 1) with
      | true =>
        rw [z1] at il1
        cases z2 : tst (lf n y) (c - lo n y - 1) with
        | true =>
          rw [z2] at il2
          simp only [AW_k, AWk_1, x_iload_4, x_aload_0, x_aloads_0, x_getf, x_iload_1, x_iald, x_ialds, x_icmp_ge, x_iload_3, x_if_eq, x_callv_3, x_iload_2, x_icmp_ne, x_push_i, x_push_l, x_goto, x_istore_3, x_iinc_4, unl_i, unl_l, unl_q, unl_r, unl_s, unl_n, k_X11_isForcing_29, k_X11_isForcing_30, k_X11_isForcing_31, k_X11_isForcing_32, k_X11_isForcing_33, k_X11_isForcing_34, k_X11_isForcing_35, k_X11_isForcing_36, k_X11_isForcing_37, k_X11_isForcing_38, k_X11_isForcing_39, k_X11_isForcing_40, k_X11_isForcing_41, k_X11_isForcing_42, k_X11_isForcing_43, k_X11_isForcing_44, k_X11_isForcing_45, k_X11_isForcing_46, k_X11_isForcing_47, k_X11_isForcing_48, k_X11_isForcing_49, k_X11_isForcing_50, k_X11_isForcing_51, oE_some, Int.reduceToNat, Nat.reduceAdd, true_and, and_true, List.length_cons, List.length_nil, Option.toList_some, Option.toList_none, List.cons_append, List.nil_append, Nat.reduceLeDiff, Nat.le_refl, wdS_nil, wdS_i, wdS_l, wdS_r, wdS_n, wdS_s, g14, a2, n2, ix, w32_tn bx, v2, w32_nat bc, w32_nat t2, f1, w10, cM hK, il1, il2, zI_t, e2, ↓reduceIte]
          exact hnx
        | false =>
          rw [z2] at il2
          simp only [AW_k, AWk_1, x_iload_4, x_aload_0, x_aloads_0, x_getf, x_iload_1, x_iald, x_ialds, x_icmp_ge, x_iload_3, x_if_eq, x_callv_3, x_iload_2, x_icmp_ne, x_push_i, x_push_l, x_goto, x_istore_3, x_iinc_4, unl_i, unl_l, unl_q, unl_r, unl_s, unl_n, k_X11_isForcing_29, k_X11_isForcing_30, k_X11_isForcing_31, k_X11_isForcing_32, k_X11_isForcing_33, k_X11_isForcing_34, k_X11_isForcing_35, k_X11_isForcing_36, k_X11_isForcing_37, k_X11_isForcing_38, k_X11_isForcing_39, k_X11_isForcing_40, k_X11_isForcing_41, k_X11_isForcing_42, k_X11_isForcing_43, k_X11_isForcing_44, k_X11_isForcing_45, k_X11_isForcing_46, k_X11_isForcing_47, k_X11_isForcing_48, k_X11_isForcing_49, k_X11_isForcing_50, k_X11_isForcing_51, oE_some, Int.reduceToNat, Nat.reduceAdd, true_and, and_true, List.length_cons, List.length_nil, Option.toList_some, Option.toList_none, List.cons_append, List.nil_append, Nat.reduceLeDiff, Nat.le_refl, wdS_nil, wdS_i, wdS_l, wdS_r, wdS_n, wdS_s, g14, a2, n2, ix, w32_tn bx, v2, w32_nat bc, w32_nat t2, f1, w10, cM hK, il1, il2, zI_t, zI_f, wz0, wz1, Int.reduceEq, e2, ↓reduceIte]
          exact hend none
      | false =>
        rw [z1] at il1
        cases z2 : tst (lf n y) (c - lo n y - 1) with
        | true =>
          rw [z2] at il2
          simp only [AW_k, AWk_1, x_iload_4, x_aload_0, x_aloads_0, x_getf, x_iload_1, x_iald, x_ialds, x_icmp_ge, x_iload_3, x_if_eq, x_callv_3, x_iload_2, x_icmp_ne, x_push_i, x_push_l, x_goto, x_istore_3, x_iinc_4, unl_i, unl_l, unl_q, unl_r, unl_s, unl_n, k_X11_isForcing_29, k_X11_isForcing_30, k_X11_isForcing_31, k_X11_isForcing_32, k_X11_isForcing_33, k_X11_isForcing_34, k_X11_isForcing_35, k_X11_isForcing_36, k_X11_isForcing_37, k_X11_isForcing_38, k_X11_isForcing_39, k_X11_isForcing_40, k_X11_isForcing_41, k_X11_isForcing_42, k_X11_isForcing_43, k_X11_isForcing_44, k_X11_isForcing_45, k_X11_isForcing_46, k_X11_isForcing_47, k_X11_isForcing_48, k_X11_isForcing_49, k_X11_isForcing_50, k_X11_isForcing_51, oE_some, Int.reduceToNat, Nat.reduceAdd, true_and, and_true, List.length_cons, List.length_nil, Option.toList_some, Option.toList_none, List.cons_append, List.nil_append, Nat.reduceLeDiff, Nat.le_refl, wdS_nil, wdS_i, wdS_l, wdS_r, wdS_n, wdS_s, g14, a2, n2, ix, w32_tn bx, v2, w32_nat bc, w32_nat t2, f1, w10, cM hK, il1, il2, zI_t, zI_f, wz0, wz1, Int.reduceEq, e2, ↓reduceIte]
          exact hend none
        | false =>
          rw [z2] at il2
          simp only [AW_k, AWk_1, x_iload_4, x_aload_0, x_aloads_0, x_getf, x_iload_1, x_iald, x_ialds, x_icmp_ge, x_iload_3, x_if_eq, x_callv_3, x_iload_2, x_icmp_ne, x_push_i, x_push_l, x_goto, x_istore_3, x_iinc_4, unl_i, unl_l, unl_q, unl_r, unl_s, unl_n, k_X11_isForcing_29, k_X11_isForcing_30, k_X11_isForcing_31, k_X11_isForcing_32, k_X11_isForcing_33, k_X11_isForcing_34, k_X11_isForcing_35, k_X11_isForcing_36, k_X11_isForcing_37, k_X11_isForcing_38, k_X11_isForcing_39, k_X11_isForcing_40, k_X11_isForcing_41, k_X11_isForcing_42, k_X11_isForcing_43, k_X11_isForcing_44, k_X11_isForcing_45, k_X11_isForcing_46, k_X11_isForcing_47, k_X11_isForcing_48, k_X11_isForcing_49, k_X11_isForcing_50, k_X11_isForcing_51, oE_some, Int.reduceToNat, Nat.reduceAdd, true_and, and_true, List.length_cons, List.length_nil, Option.toList_some, Option.toList_none, List.cons_append, List.nil_append, Nat.reduceLeDiff, Nat.le_refl, wdS_nil, wdS_i, wdS_l, wdS_r, wdS_n, wdS_s, g14, a2, n2, ix, w32_tn bx, v2, w32_nat bc, w32_nat t2, f1, w10, cM hK, il1, il2, zI_f, e2, ↓reduceIte]
          exact hnx
  have hend : AWh (d + 2) [] 185 R 29 [some (mR 54), some (mI (x : Int)), some (mI (y : Int)), some (mI 0), some (mI ((lo n x + 1 : Nat) : Int))] [] hp (0, 0) ↔ R (some (mI 0)) hp := by
    have bc1 : lo n x + 1 < 2147483648 := by omega
    rw [AWh_k, k_X11_isForcing_29]
    simp only [AW_k, AWk_1, x_iload_4, x_aload_0, x_aloads_0, x_getf, x_iload_1, x_iald, x_ialds, x_icmp_ge, x_iload_3, x_if_eq, x_callv_3, x_iload_2, x_icmp_ne, x_push_i, x_push_l, x_goto, x_istore_3, x_iinc_4, x_ret, x_ret_i, x_ret_z, x_ret_l, x_ret_c, unl_i, unl_l, unl_q, unl_r, unl_s, unl_n, k_X11_isForcing_29, k_X11_isForcing_30, k_X11_isForcing_31, k_X11_isForcing_32, k_X11_isForcing_33, k_X11_isForcing_34, k_X11_isForcing_35, k_X11_isForcing_36, k_X11_isForcing_37, k_X11_isForcing_38, k_X11_isForcing_39, k_X11_isForcing_40, k_X11_isForcing_41, k_X11_isForcing_42, k_X11_isForcing_43, k_X11_isForcing_44, k_X11_isForcing_45, k_X11_isForcing_46, k_X11_isForcing_47, k_X11_isForcing_48, k_X11_isForcing_49, k_X11_isForcing_50, k_X11_isForcing_51, k_X11_isForcing_52, k_X11_isForcing_53, oE_some, Int.reduceToNat, Nat.reduceAdd, true_and, and_true, List.length_cons, List.length_nil, Option.toList_some, Option.toList_none, List.cons_append, List.nil_append, Nat.reduceLeDiff, Nat.le_refl, wdS_nil, wdS_i, wdS_l, wdS_r, wdS_n, wdS_s, g14, a2, n2, ix, w32_tn bx, v2, w00, w32_nat bc1, w32_nat t2, ↓reduceIte]
    by_cases q : ((lo n x + 1 : Nat) : Int) < ((hi n x : Nat) : Int)
    · rw [if_pos q]; exact ⟨fun q => q.2, fun q => ⟨Or.inl trivial, q⟩⟩
    · rw [if_neg q]; exact ⟨fun q => q.2, fun q => ⟨Or.inl trivial, q⟩⟩
  rw [callD_k]; simp only [entL_i, entL_l, entL_q, entL_s, entL_nil, n_X11_isForcing, u_X11_isForcing, m_X11_isForcing, rep_2, List.cons_append, List.nil_append, List.append_nil, List.length_cons, List.length_nil, Nat.reduceAdd, true_and]
  by_cases c1 : lo n y ≤ lo n x
  · have f1 : (((lo n x : Nat) : Int) < ((lo n y : Nat) : Int)) = False := eq_false (by omega)
    by_cases c2 : hi n x ≤ hi n y
    · have f2 : (((hi n y : Nat) : Int) < ((hi n x : Nat) : Int)) = False := eq_false (by omega)
      rw [Nat.ble_eq.mpr c1, Nat.ble_eq.mpr c2, Bool.true_and, Bool.true_and] at ef
      rw [← ef]
      simp only [AW_k, AWk_1, x_aload_0, x_aloads_0, x_getf, x_iload_2, x_iald, x_ialds, x_iload_1, x_icmp_gt, x_icmp_lt, x_push_i, x_push_l, x_goto, x_istore_3, x_iadd, x_istore_4, x_iload_4, unl_i, unl_l, unl_q, unl_r, unl_s, unl_n, k_X11_isForcing_0, k_X11_isForcing_1, k_X11_isForcing_2, k_X11_isForcing_3, k_X11_isForcing_4, k_X11_isForcing_5, k_X11_isForcing_6, k_X11_isForcing_7, k_X11_isForcing_8, k_X11_isForcing_9, k_X11_isForcing_10, k_X11_isForcing_11, k_X11_isForcing_12, k_X11_isForcing_13, k_X11_isForcing_14, k_X11_isForcing_15, k_X11_isForcing_16, k_X11_isForcing_17, k_X11_isForcing_18, k_X11_isForcing_19, k_X11_isForcing_20, k_X11_isForcing_21, k_X11_isForcing_22, k_X11_isForcing_23, k_X11_isForcing_24, k_X11_isForcing_25, k_X11_isForcing_26, k_X11_isForcing_27, k_X11_isForcing_28, k_X11_isForcing_29, oE_some, Int.reduceToNat, Nat.reduceAdd, true_and, and_true, List.length_cons, List.length_nil, Option.toList_some, Option.toList_none, List.cons_append, List.nil_append, Nat.reduceLeDiff, Nat.le_refl, wdS_nil, wdS_i, wdS_l, wdS_r, wdS_n, wdS_s, g13, g14, a1, a2, n1, n2, ix, iy, w32_tn bx, w32_tn by_, v1, v2, w1, w2, w32_nat t1, w32_nat s1, w32_nat t2, w32_nat s2, f1, f2, e1, ↓reduceIte]
      exact key (hi n x - lo n x - 1) (lo n x + 1) (by omega) (by omega) c1
    · have f2 : (((hi n y : Nat) : Int) < ((hi n x : Nat) : Int)) = True := eq_true (by omega)
      have ee : fr n x y = false := by
        rw [← ef]
        cases q : Nat.ble (hi n x) (hi n y) with
        | true => exact absurd (Nat.ble_eq.mp q) c2
        | false => rw [Bool.false_and, Bool.and_false]
      rw [ee]
      simp only [AW_k, AWk_1, x_aload_0, x_aloads_0, x_getf, x_iload_2, x_iald, x_ialds, x_iload_1, x_icmp_gt, x_icmp_lt, x_push_i, x_push_l, x_goto, x_istore_3, x_iadd, x_istore_4, x_iload_4, unl_i, unl_l, unl_q, unl_r, unl_s, unl_n, k_X11_isForcing_0, k_X11_isForcing_1, k_X11_isForcing_2, k_X11_isForcing_3, k_X11_isForcing_4, k_X11_isForcing_5, k_X11_isForcing_6, k_X11_isForcing_7, k_X11_isForcing_8, k_X11_isForcing_9, k_X11_isForcing_10, k_X11_isForcing_11, k_X11_isForcing_12, k_X11_isForcing_13, k_X11_isForcing_14, k_X11_isForcing_15, k_X11_isForcing_16, k_X11_isForcing_17, k_X11_isForcing_18, k_X11_isForcing_19, k_X11_isForcing_20, k_X11_isForcing_21, k_X11_isForcing_22, k_X11_isForcing_23, k_X11_isForcing_24, k_X11_isForcing_25, k_X11_isForcing_26, k_X11_isForcing_27, k_X11_isForcing_28, k_X11_isForcing_29, oE_some, Int.reduceToNat, Nat.reduceAdd, true_and, and_true, List.length_cons, List.length_nil, Option.toList_some, Option.toList_none, List.cons_append, List.nil_append, Nat.reduceLeDiff, Nat.le_refl, wdS_nil, wdS_i, wdS_l, wdS_r, wdS_n, wdS_s, g13, g14, a1, a2, n1, n2, ix, iy, w32_tn bx, w32_tn by_, v1, v2, w1, w2, w32_nat t1, w32_nat s1, w32_nat t2, w32_nat s2, f1, f2, e1, ↓reduceIte]
      exact hend
  · have f1 : (((lo n x : Nat) : Int) < ((lo n y : Nat) : Int)) = True := eq_true (by omega)
    have ee : fr n x y = false := by
      rw [← ef]
      cases q : Nat.ble (lo n y) (lo n x) with
      | true => exact absurd (Nat.ble_eq.mp q) c1
      | false => rw [Bool.false_and]
    rw [ee]
    simp only [AW_k, AWk_1, x_aload_0, x_aloads_0, x_getf, x_iload_2, x_iald, x_ialds, x_iload_1, x_icmp_gt, x_icmp_lt, x_push_i, x_push_l, x_goto, x_istore_3, x_iadd, x_istore_4, x_iload_4, unl_i, unl_l, unl_q, unl_r, unl_s, unl_n, k_X11_isForcing_0, k_X11_isForcing_1, k_X11_isForcing_2, k_X11_isForcing_3, k_X11_isForcing_4, k_X11_isForcing_5, k_X11_isForcing_6, k_X11_isForcing_7, k_X11_isForcing_8, k_X11_isForcing_9, k_X11_isForcing_10, k_X11_isForcing_11, k_X11_isForcing_12, k_X11_isForcing_13, k_X11_isForcing_14, k_X11_isForcing_15, k_X11_isForcing_16, k_X11_isForcing_17, k_X11_isForcing_18, k_X11_isForcing_19, k_X11_isForcing_20, k_X11_isForcing_21, k_X11_isForcing_22, k_X11_isForcing_23, k_X11_isForcing_24, k_X11_isForcing_25, k_X11_isForcing_26, k_X11_isForcing_27, k_X11_isForcing_28, k_X11_isForcing_29, oE_some, Int.reduceToNat, Nat.reduceAdd, true_and, and_true, List.length_cons, List.length_nil, Option.toList_some, Option.toList_none, List.cons_append, List.nil_append, Nat.reduceLeDiff, Nat.le_refl, wdS_nil, wdS_i, wdS_l, wdS_r, wdS_n, wdS_s, g13, g14, a1, a2, n1, n2, ix, iy, w32_tn bx, w32_tn by_, v1, v2, w1, w2, w32_nat t1, w32_nat s1, f1, e1, ↓reduceIte]
    exact hend
