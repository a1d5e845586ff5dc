/-! ===== the class's arcs are made: what forces what ===== -/
def lsI (n x y : Nat) : Bool := decide (lo n y ≤ lo n x) && (decide (hi n x ≤ hi n y) && decide (lf n y / 2 ^ (lo n x - lo n y) % 2 ^ (hi n x - lo n x - 1) = lf n x))
def ls_b (n : Nat) : Bool := allB (fun x => allB (fun y => lsI n x y == fr n x y) (NA n)) (NA n)
theorem ls_c : all6 ls_b = true := by decide +kernel
theorem ls_fr {n x y : Nat} (h1 : 1 ≤ n) (h6 : n ≤ 6) (hx : x < NA n) (hy : y < NA n) : lsI n x y = fr n x y := by
  have := allB_of (allB_of (all6_of ls_c h1 h6) x hx) y hy
  exact beq_iff_eq.mp this
/-- the arcs' cells from a on, while they are related -/
def RAP (h : HP) (a n : Nat) (A B : List (BitVec 64)) : Prop := (gF h a 1 1 = some (mI (NA n : Int)) ∧ gF h a 1 3 = some (mR (a + 2)) ∧ gF h a 1 4 = some (mR (a + 3)) ∧ gF h a 1 5 = some (mR (a + 4)) ∧ gF h a 1 8 = some (mR (a + 7)) ∧ gF h a 1 9 = some (mR (a + 8))) ∧ gA h (a + 2) = some (tI (lo n) (NA n)) ∧ gA h (a + 3) = some (tI (hi n) (NA n)) ∧ gA h (a + 4) = some (tI (lf n) (NA n)) ∧ gJ h (a + 7) = some A ∧ gJ h (a + 8) = some B
theorem RAP_7 {h : HP} {a n : Nat} {A B l : List (BitVec 64)} (m : RAP h a n A B) : RAP (pJ h (a + 7) l) a n l B := by
  obtain ⟨⟨a1, a2, a3, a4, a5, a6⟩, b1, b2, b3, b4, b5⟩ := m
  exact ⟨⟨by rw [gF_pJ, a1], by rw [gF_pJ, a2], by rw [gF_pJ, a3], by rw [gF_pJ, a4], by rw [gF_pJ, a5], by rw [gF_pJ, a6]⟩, by rw [gA_pJ, b1], by rw [gA_pJ, b2], by rw [gA_pJ, b3], gJ_pJ_same b4, by rw [gJ_pJ (by omega), b5]⟩
theorem RAP_8 {h : HP} {a n : Nat} {A B l : List (BitVec 64)} (m : RAP h a n A B) : RAP (pJ h (a + 8) l) a n A l := by
  obtain ⟨⟨a1, a2, a3, a4, a5, a6⟩, b1, b2, b3, b4, b5⟩ := m
  exact ⟨⟨by rw [gF_pJ, a1], by rw [gF_pJ, a2], by rw [gF_pJ, a3], by rw [gF_pJ, a4], by rw [gF_pJ, a5], by rw [gF_pJ, a6]⟩, by rw [gA_pJ, b1], by rw [gA_pJ, b2], by rw [gA_pJ, b3], by rw [gJ_pJ (by omega), b4], gJ_pJ_same b5⟩
set_option maxHeartbeats 16000000 in
theorem c1_lastsIn (d : Nat) {a n x y : Nat} {h : HP} {A B : List (BitVec 64)} (h1 : 1 ≤ n) (h6 : n ≤ 6) (m : RAP h a n A B) (hx : x < NA n) (hy : y < NA n) (R : PO) : callD (d + 1) 11 [mR a, mI (x : Int), mI (y : Int)] h R ↔ R (some (mI (zI (fr n x y)))) h := by
  obtain ⟨⟨a1, a2, a3, a4, a5, a6⟩, b1, b2, b3, b4, b5⟩ := m
  obtain ⟨x1, x2, x3, x4, -⟩ := arc_ok h1 h6 hx
  obtain ⟨y1, y2, y3, y4, -⟩ := arc_ok h1 h6 hy
  rw [← ls_fr h1 h6 hx hy]
  unfold lsI
  have fx := lf_16 n x
  have fy := lf_16 n y
  clear x4 y4
  obtain ⟨p, hp⟩ : ∃ p, lo n x = p := ⟨_, rfl⟩
  obtain ⟨q, hq⟩ : ∃ p, hi n x = p := ⟨_, rfl⟩
  obtain ⟨r, hr⟩ : ∃ p, lf n x = p := ⟨_, rfl⟩
  obtain ⟨p2, hp2⟩ : ∃ p, lo n y = p := ⟨_, rfl⟩
  obtain ⟨q2, hq2⟩ : ∃ p, hi n y = p := ⟨_, rfl⟩
  obtain ⟨r2, hr2⟩ : ∃ p, lf n y = p := ⟨_, rfl⟩
  rw [hp, hq] at x2
  rw [hp] at x1
  rw [hq] at x3
  rw [hp2, hq2] at y2
  rw [hp2] at y1
  rw [hq2] at y3
  rw [hr] at fx
  rw [hr2] at fy
  rw [hp, hq, hr, hp2, hq2, hr2]
  have bp : p < 2147483648 := by omega
  have bq : q < 2147483648 := by omega
  have bp2 : p2 < 2147483648 := by omega
  have bq2 : q2 < 2147483648 := by omega
  have br : r < 2147483648 := by omega
  have br2 : r2 < 2147483648 := by omega
  by_cases c1 : p2 ≤ p
  · have c1' : ¬ (p : Int) < (p2 : Int) := by omega
    rw [decide_eq_true c1, Bool.true_and]
    by_cases c2 : q ≤ q2
    · have c2' : ¬ (q2 : Int) < (q : Int) := by omega
      rw [decide_eq_true c2, Bool.true_and]
      have e0 : (p : Int) - (p2 : Int) = ((p - p2 : Nat) : Int) := by omega
      have l1 : p - p2 < 32 := by omega
      have l2 : q - p - 1 < 31 := by omega
      have e1 : (q : Int) - (p : Int) - 1 = ((q - p - 1 : Nat) : Int) := by omega
      have es : iShl 1 ((q : Int) - (p : Int) - 1) = ((2 ^ (q - p - 1) : Nat) : Int) := iShl_1I e1 l2
      have hpos := Nat.two_pow_pos (q - p - 1)
      have hlt : 2 ^ (q - p - 1) < 2147483648 := pow31 l2
      have em : ((2 ^ (q - p - 1) : Nat) : Int) - 1 = ((2 ^ (q - p - 1) - 1 : Nat) : Int) := by
        generalize 2 ^ (q - p - 1) = P at hpos
        omega
      have b6 : r2 / 2 ^ (p - p2) < 2147483648 := Nat.lt_of_le_of_lt (Nat.div_le_self _ _) br2
      have b7 : 2 ^ (q - p - 1) - 1 < 2147483648 := Nat.lt_of_le_of_lt (Nat.sub_le _ _) hlt
      have ea : iAnd (iShr (r2 : Int) ((p : Int) - (p2 : Int))) (((2 ^ (q - p - 1) : Nat) : Int) - 1) = ((r2 / 2 ^ (p - p2) % 2 ^ (q - p - 1) : Nat) : Int) := by
        rw [e0, em, iShr_nat br2 l1, iAnd_nat b6 b7, Nat.and_two_pow_sub_one_eq_mod]
      have b8 : r2 / 2 ^ (p - p2) % 2 ^ (q - p - 1) < 2147483648 := Nat.lt_of_le_of_lt (Nat.mod_le _ _) b6
      have ed : decide (r2 / 2 ^ (p - p2) % 2 ^ (q - p - 1) = r) = decide (((r2 / 2 ^ (p - p2) % 2 ^ (q - p - 1) : Nat) : Int) = (r : Int)) := dec_nat _ _
      rw [ed]
      have gx1 := @gI (lo n) (NA n) _ x rfl hx (NA_31 n)
      have gx2 := @gI (hi n) (NA n) _ x rfl hx (NA_31 n)
      have gx3 := @gI (lf n) (NA n) _ x rfl hx (NA_31 n)
      have gy1 := @gI (lo n) (NA n) _ y rfl hy (NA_31 n)
      have gy2 := @gI (hi n) (NA n) _ y rfl hy (NA_31 n)
      have gy3 := @gI (lf n) (NA n) _ y rfl hy (NA_31 n)
      have ix := fun f : Nat → Nat => @bI f (NA n) _ x rfl hx (NA_31 n)
      have iy := fun f : Nat → Nat => @bI f (NA n) _ y rfl hy (NA_31 n)
      rw [hp] at gx1
      rw [hq] at gx2
      rw [hr] at gx3
      rw [hp2] at gy1
      rw [hq2] at gy2
      rw [hr2] at gy3
      rw [callD_k]; simp only [entL_i, entL_l, entL_q, entL_s, entL_nil, n_X1_lastsIn, u_X1_lastsIn, m_X1_lastsIn, rep_1, List.cons_append, List.nil_append, List.append_nil, List.length_cons, List.length_nil, Nat.reduceAdd, true_and]
      simp only [AW_k, AWk_1, x_aload_0, x_aloads_0, x_getf, x_iload_2, x_iald, x_ialds, x_iload_1, x_icmp_gt, x_icmp_ge, x_push_i, x_push_l, x_ret, x_ret_i, x_ret_z, x_ret_l, x_ret_c, x_isub, x_ishl, x_istore_3, x_ishr, x_iload_3, x_iand, x_icmp_ne, x_goto, unl_i, unl_l, unl_q, unl_r, unl_s, unl_n, k_X1_lastsIn_0, k_X1_lastsIn_1, k_X1_lastsIn_2, k_X1_lastsIn_3, k_X1_lastsIn_4, k_X1_lastsIn_5, k_X1_lastsIn_6, k_X1_lastsIn_7, k_X1_lastsIn_8, k_X1_lastsIn_9, k_X1_lastsIn_10, k_X1_lastsIn_11, k_X1_lastsIn_12, k_X1_lastsIn_13, k_X1_lastsIn_14, k_X1_lastsIn_15, k_X1_lastsIn_16, k_X1_lastsIn_17, k_X1_lastsIn_18, k_X1_lastsIn_19, k_X1_lastsIn_20, k_X1_lastsIn_21, k_X1_lastsIn_22, k_X1_lastsIn_23, k_X1_lastsIn_24, k_X1_lastsIn_25, k_X1_lastsIn_26, k_X1_lastsIn_27, k_X1_lastsIn_28, k_X1_lastsIn_29, k_X1_lastsIn_30, k_X1_lastsIn_31, k_X1_lastsIn_32, k_X1_lastsIn_33, k_X1_lastsIn_34, k_X1_lastsIn_35, k_X1_lastsIn_36, k_X1_lastsIn_37, k_X1_lastsIn_38, k_X1_lastsIn_39, k_X1_lastsIn_40, k_X1_lastsIn_41, k_X1_lastsIn_42, k_X1_lastsIn_43, k_X1_lastsIn_44, k_X1_lastsIn_45, k_X1_lastsIn_46, k_X1_lastsIn_47, k_X1_lastsIn_48, k_X1_lastsIn_49, k_X1_lastsIn_50, k_X1_lastsIn_51, k_X1_lastsIn_52, k_X1_lastsIn_53, k_X1_lastsIn_54, k_X1_lastsIn_55, k_X1_lastsIn_56, k_X1_lastsIn_57, k_X1_lastsIn_58, k_X1_lastsIn_59, k_X1_lastsIn_60, oE_some, Int.reduceToNat, Nat.reduceAdd, true_and, and_true, List.length_cons, List.length_nil, Option.toList_some, Option.toList_none, List.cons_append, List.nil_append, Nat.reduceLeDiff, Nat.le_refl, wdS_nil, wdS_i, wdS_l, wdS_r, wdS_n, wdS_s, a2, a3, a4, b1, b2, b3, ix, iy, gx1, gx2, gx3, gy1, gy2, gy3, es, ea, or_true, true_or, R_ite, ite_zI3]
      rw [w32_nat bp, w32_nat bp2, if_neg c1', w32_nat bq, w32_nat bq2, w32_nat br, w32_nat b8]
      by_cases c3 : (q2 : Int) < (q : Int)
      · exact absurd c3 c2'
      · rw [if_neg c3]
    · have c2' : (q2 : Int) < (q : Int) := by omega
      rw [decide_eq_false c2, Bool.false_and]
      have gx1 := @gI (lo n) (NA n) _ x rfl hx (NA_31 n)
      have gx2 := @gI (hi n) (NA n) _ x rfl hx (NA_31 n)
      have gx3 := @gI (lf n) (NA n) _ x rfl hx (NA_31 n)
      have gy1 := @gI (lo n) (NA n) _ y rfl hy (NA_31 n)
      have gy2 := @gI (hi n) (NA n) _ y rfl hy (NA_31 n)
      have gy3 := @gI (lf n) (NA n) _ y rfl hy (NA_31 n)
      have ix := fun f : Nat → Nat => @bI f (NA n) _ x rfl hx (NA_31 n)
      have iy := fun f : Nat → Nat => @bI f (NA n) _ y rfl hy (NA_31 n)
      rw [hp] at gx1
      rw [hq] at gx2
      rw [hr] at gx3
      rw [hp2] at gy1
      rw [hq2] at gy2
      rw [hr2] at gy3
      rw [callD_k]; simp only [entL_i, entL_l, entL_q, entL_s, entL_nil, n_X1_lastsIn, u_X1_lastsIn, m_X1_lastsIn, rep_1, List.cons_append, List.nil_append, List.append_nil, List.length_cons, List.length_nil, Nat.reduceAdd, true_and]
      simp only [AW_k, AWk_1, x_aload_0, x_aloads_0, x_getf, x_iload_2, x_iald, x_ialds, x_iload_1, x_icmp_gt, x_icmp_ge, x_push_i, x_push_l, x_ret, x_ret_i, x_ret_z, x_ret_l, x_ret_c, k_X1_lastsIn_0, k_X1_lastsIn_1, k_X1_lastsIn_2, k_X1_lastsIn_3, k_X1_lastsIn_4, k_X1_lastsIn_5, k_X1_lastsIn_6, k_X1_lastsIn_7, k_X1_lastsIn_8, k_X1_lastsIn_9, k_X1_lastsIn_10, k_X1_lastsIn_11, k_X1_lastsIn_12, k_X1_lastsIn_13, k_X1_lastsIn_14, k_X1_lastsIn_15, k_X1_lastsIn_16, k_X1_lastsIn_17, k_X1_lastsIn_18, k_X1_lastsIn_19, oE_some, Int.reduceToNat, Nat.reduceAdd, true_and, and_true, List.length_cons, List.length_nil, Option.toList_some, Option.toList_none, List.cons_append, List.nil_append, Nat.reduceLeDiff, Nat.le_refl, wdS_nil, wdS_i, wdS_l, wdS_r, wdS_n, wdS_s, a2, a3, b1, b2, ix, iy, gx1, gx2, gy1, gy2, or_true, true_or]
      rw [w32_nat bp, w32_nat bp2, if_neg c1', w32_nat bq, w32_nat bq2, if_pos c2']
      exact Iff.rfl
  · have c1' : (p : Int) < (p2 : Int) := by omega
    rw [decide_eq_false c1, Bool.false_and]
    have gx1 := @gI (lo n) (NA n) _ x rfl hx (NA_31 n)
    have gx2 := @gI (hi n) (NA n) _ x rfl hx (NA_31 n)
    have gx3 := @gI (lf n) (NA n) _ x rfl hx (NA_31 n)
    have gy1 := @gI (lo n) (NA n) _ y rfl hy (NA_31 n)
    have gy2 := @gI (hi n) (NA n) _ y rfl hy (NA_31 n)
    have gy3 := @gI (lf n) (NA n) _ y rfl hy (NA_31 n)
    have ix := fun f : Nat → Nat => @bI f (NA n) _ x rfl hx (NA_31 n)
    have iy := fun f : Nat → Nat => @bI f (NA n) _ y rfl hy (NA_31 n)
    rw [hp] at gx1
    rw [hq] at gx2
    rw [hr] at gx3
    rw [hp2] at gy1
    rw [hq2] at gy2
    rw [hr2] at gy3
    rw [callD_k]; simp only [entL_i, entL_l, entL_q, entL_s, entL_nil, n_X1_lastsIn, u_X1_lastsIn, m_X1_lastsIn, rep_1, List.cons_append, List.nil_append, List.append_nil, List.length_cons, List.length_nil, Nat.reduceAdd, true_and]
    simp only [AW_k, AWk_1, x_aload_0, x_aloads_0, x_getf, x_iload_2, x_iald, x_ialds, x_iload_1, x_icmp_gt, x_icmp_ge, x_push_i, x_push_l, x_ret, x_ret_i, x_ret_z, x_ret_l, x_ret_c, k_X1_lastsIn_0, k_X1_lastsIn_1, k_X1_lastsIn_2, k_X1_lastsIn_3, k_X1_lastsIn_4, k_X1_lastsIn_5, k_X1_lastsIn_6, k_X1_lastsIn_7, k_X1_lastsIn_8, k_X1_lastsIn_9, k_X1_lastsIn_10, k_X1_lastsIn_11, k_X1_lastsIn_12, k_X1_lastsIn_13, k_X1_lastsIn_14, k_X1_lastsIn_15, k_X1_lastsIn_16, k_X1_lastsIn_17, k_X1_lastsIn_18, k_X1_lastsIn_19, oE_some, Int.reduceToNat, Nat.reduceAdd, true_and, and_true, List.length_cons, List.length_nil, Option.toList_some, Option.toList_none, List.cons_append, List.nil_append, Nat.reduceLeDiff, Nat.le_refl, wdS_nil, wdS_i, wdS_l, wdS_r, wdS_n, wdS_s, a2, a3, b1, b2, ix, iy, gx1, gx2, gy1, gy2, or_true, true_or]
    rw [w32_nat bp, w32_nat bp2, if_pos c1']
    exact Iff.rfl
