/-! ===== the reference tells the arcs (3) ===== -/
theorem TA_J {h : HP} {n x : Nat} {l1 l2 l3 : List Int} {l4 m : List (BitVec 64)} (hT : TAx h n x l1 l2 l3 l4) (hm : m.length = 57) : TAx (pJ h 62 m) n x l1 l2 l3 m ∧ TFr h (pJ h 62 m) := by
  obtain ⟨hK, ⟨g13, g14, g15, g16, g17⟩, ⟨a1, a2, a3, a4⟩, ⟨n1, n2, n3, n4⟩, hv⟩ := hT
  exact ⟨⟨MK_pJ hK, ⟨by rw [gF_pJ, g13], by rw [gF_pJ, g14], by rw [gF_pJ, g15], by rw [gF_pJ, g16], by rw [gF_pJ, g17]⟩, ⟨by rw [gA_pJ, a1], by rw [gA_pJ, a2], by rw [gA_pJ, a3], gJ_pJ_same a4⟩, ⟨n1, n2, n3, hm⟩, hv⟩, TFr_Fr g17 (Fr_pJ (a := 62) (b := 63) (by omega) (by omega)) (by omega)⟩
set_option maxHeartbeats 32000000 in
theorem tb_y (d : Nat) {n x : Nat} {R : PO} (hx : x < NA n) : ∀ (m y : Nat) (h : HP) (l1 l2 l3 : List Int) (l4 : List (BitVec 64)) (y3 : Option AV), y + m = NA n → TAx h n (NA n) l1 l2 l3 l4 → l4.getD x 0 = stB (fun y => fr n x y) y → (∀ k, k < x → l4.getD k 0 = FO n k) → ∃ h' l4', TAx h' n (NA n) l1 l2 l3 l4' ∧ (∀ k, k < x + 1 → l4'.getD k 0 = FO n k) ∧ TFr h h' ∧ (AWh (d + 4) [] 183 R 71 [some (mR 54), some (mI (x : Int)), some (mI (y : Int)), y3] [] h (0, 0) ↔ AWk (d + 4) [] 183 R 94 (cd 183 94) [some (mR 54), some (mI (x : Int)), some (mI ((NA n : Nat) : Int)), y3] [] h' (0, 0)) := by
  intro m
  induction m with
  | zero =>
    intro y h l1 l2 l3 l4 y3 hy hT hp hk
    have e : y = NA n := by omega
    subst e
    have h1 := hT.1.1.1
    have h6 := hT.1.1.2
    rw [fos_ok h1 h6 hx] at hp
    have g17 := hT.2.1.2.2.2.2
    refine ⟨h, l4, hT, fun k hk2 => ?_, TFr_refl' g17, ?_⟩
    · by_cases e : k = x
      · subst e; exact hp
      · exact hk k (by omega)
    · rw [AWh_k, k_X11_tellsArcs_71]
      simp only [AW_k, AWk_1, x_iload_2, x_aload_0, x_aloads_0, x_getf, x_icmp_ge, k_X11_tellsArcs_71, k_X11_tellsArcs_72, k_X11_tellsArcs_73, k_X11_tellsArcs_74, oE_some, Int.reduceToNat, Nat.reduceAdd, true_and, and_true, List.length_cons, List.length_nil, Option.toList_some, Option.toList_none, List.cons_append, List.nil_append, Nat.reduceLeDiff, Nat.le_refl, wdS_nil, wdS_i, wdS_l, wdS_r, wdS_n, wdS_s, g17]
      rw [if_neg (Int.lt_irrefl _)]
  | succ m ih =>
    intro y h l1 l2 l3 l4 y3 hy hT hp hk
    have hyN : y < NA n := by omega
    have h1 := hT.1.1.1
    have h6 := hT.1.1.2
    have fN := NA_le n
    have bN := NA_31 n
    have x57 : x < 57 := by omega
    have bx : x < 2147483648 := by omega
    have by_ : y < 2147483648 := by omega
    have y64 : y < 64 := by omega
    have ix : inB (x : Int) 57 := inB_n x57 (by decide)
    have f1 : ((y : Int) < ((NA n : Nat) : Int)) = True := eq_true (by omega)
    have e1 : (y : Int) + 1 = ((y + 1 : Nat) : Int) := by omega
    have g16 := hT.2.1.2.2.2.1
    have g17 := hT.2.1.2.2.2.2
    have a4 := hT.2.2.1.2.2.2
    have n4 := hT.2.2.2.1.2.2.2
    have cK := cM hT.1
    have mf := fun R => m_isForcing (d + 1) hT hx hyN R
    have sk := sh_k y64
    rw [w32_nat by_] at sk
    obtain ⟨t1, t2⟩ := TA_J (m := l4.set x (stB (fun y => fr n x y) (y + 1))) hT (by rw [List.length_set]; exact n4)
    obtain ⟨h', l4', u1, u2, u3, u4⟩ := ih (y + 1) _ l1 l2 l3 _ y3 (by omega) t1 (by rw [getD_set (by omega), if_pos rfl]) (fun k hk2 => by rw [getD_set (by omega), if_neg (by omega)]; exact hk k hk2)
    refine ⟨h', l4', u1, u2, TFr_trans t2 u3, Iff.trans ?_ u4⟩
    rw [stB_succ]
    rw [AWh_k, k_X11_tellsArcs_71]
    cases c : fr n x y with
    | true =>
      rw [c] at mf
      rw [if_pos rfl]
      simp only [AW_k, AWk_1, x_iload_2, x_aload_0, x_aloads_0, x_getf, x_icmp_ge, x_iload_1, x_dup2_ir, x_lald, x_callv_3, x_if_eq, x_push_i, x_push_l, x_lshl, x_goto, x_lor, x_last, x_iinc_2, unl_i, unl_l, unl_q, unl_r, unl_s, unl_n, k_X11_tellsArcs_71, k_X11_tellsArcs_72, k_X11_tellsArcs_73, k_X11_tellsArcs_74, k_X11_tellsArcs_75, k_X11_tellsArcs_76, k_X11_tellsArcs_77, k_X11_tellsArcs_78, k_X11_tellsArcs_79, k_X11_tellsArcs_80, k_X11_tellsArcs_81, k_X11_tellsArcs_82, k_X11_tellsArcs_83, k_X11_tellsArcs_84, k_X11_tellsArcs_85, k_X11_tellsArcs_86, k_X11_tellsArcs_87, k_X11_tellsArcs_88, k_X11_tellsArcs_89, k_X11_tellsArcs_90, k_X11_tellsArcs_91, k_X11_tellsArcs_92, k_X11_tellsArcs_93, oE_some, Int.reduceToNat, Nat.reduceAdd, true_and, and_true, List.length_cons, List.length_nil, Option.toList_some, Option.toList_none, List.cons_append, List.nil_append, Nat.reduceLeDiff, Nat.le_refl, wdS_nil, wdS_i, wdS_l, wdS_r, wdS_n, wdS_s, g17, w32_nat by_, w32_nat bN, f1, g16, a4, n4, ix, w32_tn bx, Int.toNat_natCast, hp, cK, mf, zI_t, w10, sk, e1, ↓reduceIte]
      all_goals exact Iff.rfl
    | false =>
      rw [c] at mf
      rw [if_neg (by decide)]
      simp only [AW_k, AWk_1, x_iload_2, x_aload_0, x_aloads_0, x_getf, x_icmp_ge, x_iload_1, x_dup2_ir, x_lald, x_callv_3, x_if_eq, x_push_i, x_push_l, x_lshl, x_goto, x_lor, x_last, x_iinc_2, unl_i, unl_l, unl_q, unl_r, unl_s, unl_n, k_X11_tellsArcs_71, k_X11_tellsArcs_72, k_X11_tellsArcs_73, k_X11_tellsArcs_74, k_X11_tellsArcs_75, k_X11_tellsArcs_76, k_X11_tellsArcs_77, k_X11_tellsArcs_78, k_X11_tellsArcs_79, k_X11_tellsArcs_80, k_X11_tellsArcs_81, k_X11_tellsArcs_82, k_X11_tellsArcs_83, k_X11_tellsArcs_84, k_X11_tellsArcs_85, k_X11_tellsArcs_86, k_X11_tellsArcs_87, k_X11_tellsArcs_88, k_X11_tellsArcs_89, k_X11_tellsArcs_90, k_X11_tellsArcs_91, k_X11_tellsArcs_92, k_X11_tellsArcs_93, oE_some, Int.reduceToNat, Nat.reduceAdd, true_and, and_true, List.length_cons, List.length_nil, Option.toList_some, Option.toList_none, List.cons_append, List.nil_append, Nat.reduceLeDiff, Nat.le_refl, wdS_nil, wdS_i, wdS_l, wdS_r, wdS_n, wdS_s, g17, w32_nat by_, w32_nat bN, f1, g16, a4, n4, ix, w32_tn bx, Int.toNat_natCast, hp, cK, mf, zI_f, w00, e1, ↓reduceIte]
      all_goals exact Iff.rfl
set_option maxHeartbeats 32000000 in
theorem tb_x (d : Nat) {n : Nat} {R : PO} : ∀ (m x : Nat) (h : HP) (l1 l2 l3 : List Int) (l4 : List (BitVec 64)) (y2 y3 : Option AV), x + m = NA n → TAx h n (NA n) l1 l2 l3 l4 → (∀ k, k < x → l4.getD k 0 = FO n k) → ∃ h' l4', TAx h' n (NA n) l1 l2 l3 l4' ∧ (∀ k, k < NA n → l4'.getD k 0 = FO n k) ∧ TFr h h' ∧ (AWh (d + 4) [] 183 R 60 [some (mR 54), some (mI (x : Int)), y2, y3] [] h (0, 0) ↔ R none h') := by
  intro m
  induction m with
  | zero =>
    intro x h l1 l2 l3 l4 y2 y3 hx hT hk
    have e : x = NA n := by omega
    subst e
    have g17 := hT.2.1.2.2.2.2
    refine ⟨h, l4, hT, hk, TFr_refl' g17, ?_⟩
    rw [AWh_k, k_X11_tellsArcs_60]
    simp only [AW_k, AWk_1, x_iload_1, x_aload_0, x_aloads_0, x_getf, x_icmp_ge, x_push_i, x_push_l, x_last, x_istore_2, x_iload_2, x_dup2_ir, x_lald, x_callv_3, x_if_eq, x_lshl, x_goto, x_lor, x_iinc_2, x_iinc_1, x_ret, x_ret_i, x_ret_z, x_ret_l, x_ret_c, unl_i, unl_l, unl_q, unl_r, unl_s, unl_n, k_X11_tellsArcs_60, k_X11_tellsArcs_61, k_X11_tellsArcs_62, k_X11_tellsArcs_63, k_X11_tellsArcs_64, k_X11_tellsArcs_65, k_X11_tellsArcs_66, k_X11_tellsArcs_67, k_X11_tellsArcs_68, k_X11_tellsArcs_69, k_X11_tellsArcs_70, k_X11_tellsArcs_71, k_X11_tellsArcs_72, k_X11_tellsArcs_73, k_X11_tellsArcs_74, k_X11_tellsArcs_75, k_X11_tellsArcs_76, k_X11_tellsArcs_77, k_X11_tellsArcs_78, k_X11_tellsArcs_79, k_X11_tellsArcs_80, k_X11_tellsArcs_81, k_X11_tellsArcs_82, k_X11_tellsArcs_83, k_X11_tellsArcs_84, k_X11_tellsArcs_85, k_X11_tellsArcs_86, k_X11_tellsArcs_87, k_X11_tellsArcs_88, k_X11_tellsArcs_89, k_X11_tellsArcs_90, k_X11_tellsArcs_91, k_X11_tellsArcs_92, k_X11_tellsArcs_93, k_X11_tellsArcs_94, k_X11_tellsArcs_95, k_X11_tellsArcs_96, oE_some, Int.reduceToNat, Nat.reduceAdd, true_and, and_true, List.length_cons, List.length_nil, Option.toList_some, Option.toList_none, List.cons_append, List.nil_append, Nat.reduceLeDiff, Nat.le_refl, wdS_nil, wdS_i, wdS_l, wdS_r, wdS_n, wdS_s, g17]
    rw [if_neg (Int.lt_irrefl _)]
  | succ m ih =>
    intro x h l1 l2 l3 l4 y2 y3 hx hT hk
    have hxN : x < NA n := by omega
    have fN := NA_le n
    have bN := NA_31 n
    have x57 : x < 57 := by omega
    have bx : x < 2147483648 := by omega
    have ix : inB (x : Int) 57 := inB_n x57 (by decide)
    have f1 : ((x : Int) < ((NA n : Nat) : Int)) = True := eq_true (by omega)
    have e1 : (x : Int) + 1 = ((x + 1 : Nat) : Int) := by omega
    have g16 := hT.2.1.2.2.2.1
    have g17 := hT.2.1.2.2.2.2
    have a4 := hT.2.2.1.2.2.2
    have n4 := hT.2.2.2.1.2.2.2
    obtain ⟨t1, t2⟩ := TA_J (m := l4.set x 0#64) hT (by rw [List.length_set]; exact n4)
    obtain ⟨h2, m4, v1, v2, v3, v4⟩ := tb_y d (R := R) hxN (NA n) 0 _ l1 l2 l3 (l4.set x 0#64) y3 (Nat.zero_add _) t1 (by rw [getD_set (by omega), if_pos rfl]; rfl) (fun k hk2 => by rw [getD_set (by omega), if_neg (by omega)]; exact hk k hk2)
    obtain ⟨h', l4', u1, u2, u3, u4⟩ := ih (x + 1) h2 l1 l2 l3 m4 (some (mI ((NA n : Nat) : Int))) y3 (by omega) v1 v2
    refine ⟨h', l4', u1, u2, TFr_trans t2 (TFr_trans v3 u3), ?_⟩
    have p1 : AWh (d + 4) [] 183 R 60 [some (mR 54), some (mI (x : Int)), y2, y3] [] h (0, 0) ↔ AWh (d + 4) [] 183 R 71 [some (mR 54), some (mI (x : Int)), some (mI ((0 : Nat) : Int)), y3] [] (pJ h 62 (l4.set x 0#64)) (0, 0) := by
      rw [AWh_k, k_X11_tellsArcs_60]
      simp only [AW_k, AWk_1, x_iload_1, x_aload_0, x_aloads_0, x_getf, x_icmp_ge, x_push_i, x_push_l, x_last, x_istore_2, x_iload_2, unl_i, unl_l, unl_q, unl_r, unl_s, unl_n, k_X11_tellsArcs_60, k_X11_tellsArcs_61, k_X11_tellsArcs_62, k_X11_tellsArcs_63, k_X11_tellsArcs_64, k_X11_tellsArcs_65, k_X11_tellsArcs_66, k_X11_tellsArcs_67, k_X11_tellsArcs_68, k_X11_tellsArcs_69, k_X11_tellsArcs_70, k_X11_tellsArcs_71, oE_some, Int.reduceToNat, Nat.reduceAdd, true_and, and_true, List.length_cons, List.length_nil, Option.toList_some, Option.toList_none, List.cons_append, List.nil_append, Nat.reduceLeDiff, Nat.le_refl, wdS_nil, wdS_i, wdS_l, wdS_r, wdS_n, wdS_s, g17, w32_nat bx, w32_nat bN, f1, g16, a4, n4, ix, w32_tn bx, Int.toNat_natCast, ↓reduceIte]
      all_goals exact Iff.rfl
    refine p1.trans (v4.trans (Iff.trans ?_ u4))
    simp only [AW_k, AWk_1, x_iinc_1, x_goto, unl_i, unl_l, unl_q, unl_r, unl_s, unl_n, k_X11_tellsArcs_94, k_X11_tellsArcs_95, oE_some, Int.reduceToNat, Nat.reduceAdd, true_and, and_true, List.length_cons, List.length_nil, Option.toList_some, Option.toList_none, List.cons_append, List.nil_append, Nat.reduceLeDiff, Nat.le_refl, wdS_nil, wdS_i, wdS_l, wdS_r, wdS_n, wdS_s, e1]
    all_goals exact Iff.rfl
set_option maxHeartbeats 32000000 in
theorem m_tellsArcs (d : Nat) {hp : HP} {n : Nat} {v17 : Int} {l1 l2 l3 : List Int} {l4 : List (BitVec 64)} (hK : MK hp n) (hg : gF hp 54 11 13 = some (mR 59) ∧ gF hp 54 11 14 = some (mR 60) ∧ gF hp 54 11 15 = some (mR 61) ∧ gF hp 54 11 16 = some (mR 62) ∧ gF hp 54 11 17 = some (mI v17)) (ha : gA hp 59 = some l1 ∧ gA hp 60 = some l2 ∧ gA hp 61 = some l3 ∧ gJ hp 62 = some l4) (hn : l1.length = 57 ∧ l2.length = 57 ∧ l3.length = 57 ∧ l4.length = 57) (R : PO) : ∃ h', MA h' n ∧ TFr hp h' ∧ (callD (d + 5) 183 [mR 54] hp R ↔ R none h') := by
  have h1 := hK.1.1
  have h6 := hK.1.2
  obtain ⟨g13, g14, g15, g16, g17⟩ := hg
  obtain ⟨a1, a2, a3, a4⟩ := ha
  obtain ⟨o1, o2, o3⟩ := oe_ok h1 h6
  have hT0 : TAx (pF hp 54 11 17 (mI ((0 : Nat) : Int))) n 0 l1 l2 l3 l4 := ⟨MK_pF hK (by omega), ⟨by rw [gF_pF (by omega), g13], by rw [gF_pF (by omega), g14], by rw [gF_pF (by omega), g15], by rw [gF_pF (by omega), g16], gF_pF_same g17⟩, ⟨by rw [gA_pF, a1], by rw [gA_pF, a2], by rw [gA_pF, a3], by rw [gJ_pF, a4]⟩, hn, fun k hk => absurd hk (Nat.not_lt_zero k)⟩
  rw [← o1] at hT0
  obtain ⟨h2, m1, m2, m3, y1, y2, y3, t1, t2, t3⟩ := ta_a d (R := R) h1 h6 n 1 _ l1 l2 l3 l4 none none (by omega) (Nat.le_refl 1) hT0
  obtain ⟨h', l4', u1, u2, u3, u4⟩ := tb_x d (R := R) (NA n) 0 h2 m1 m2 m3 l4 y2 y3 (Nat.zero_add _) t1 (fun k hk => absurd hk (Nat.not_lt_zero k))
  rw [o1] at t2 t3
  refine ⟨h', ⟨u1.1, u1.2.1, m1, m2, m3, l4', u1.2.2.1, u1.2.2.2.1, fun k hk => ⟨(u1.2.2.2.2 k hk).1, (u1.2.2.2.2 k hk).2.1, (u1.2.2.2.2 k hk).2.2, u2 k hk⟩⟩, TFr_trans TFr_pF (TFr_trans t2 u3), ?_⟩
  have p1 : callD (d + 5) 183 [mR 54] hp R ↔ AWh (d + 4) [] 183 R 5 [some (mR 54), some (mI ((1 : Nat) : Int)), none, none] [] (pF hp 54 11 17 (mI ((0 : Nat) : Int))) (0, 0) := by
    rw [callD_k]; simp only [entL_i, entL_l, entL_q, entL_s, entL_nil, n_X11_tellsArcs, u_X11_tellsArcs, m_X11_tellsArcs, rep_3, List.cons_append, List.nil_append, List.append_nil, List.length_cons, List.length_nil, Nat.reduceAdd, true_and]
    simp only [AW_k, AWk_1, x_aload_0, x_aloads_0, x_push_i, x_push_l, x_putf_i, x_istore_1, x_iload_1, unl_i, unl_l, unl_q, unl_r, unl_s, unl_n, k_X11_tellsArcs_0, k_X11_tellsArcs_1, k_X11_tellsArcs_2, k_X11_tellsArcs_3, k_X11_tellsArcs_4, k_X11_tellsArcs_5, oE_some, Int.reduceToNat, Nat.reduceAdd, true_and, and_true, List.length_cons, List.length_nil, Option.toList_some, Option.toList_none, List.cons_append, List.nil_append, Nat.reduceLeDiff, Nat.le_refl, wdS_nil, wdS_i, wdS_l, wdS_r, wdS_n, wdS_s, g17]
    all_goals exact Iff.rfl
  have p2 : AWk (d + 4) [] 183 R 58 (cd 183 58) [some (mR 54), y1, y2, y3] [] h2 (0, 0) ↔ AWh (d + 4) [] 183 R 60 [some (mR 54), some (mI ((0 : Nat) : Int)), y2, y3] [] h2 (0, 0) := by
    simp only [AW_k, AWk_1, x_push_i, x_push_l, x_istore_1, x_iload_1, unl_i, unl_l, unl_q, unl_r, unl_s, unl_n, k_X11_tellsArcs_58, k_X11_tellsArcs_59, k_X11_tellsArcs_60, oE_some, Int.reduceToNat, Nat.reduceAdd, true_and, and_true, List.length_cons, List.length_nil, Option.toList_some, Option.toList_none, List.cons_append, List.nil_append, Nat.reduceLeDiff, Nat.le_refl, wdS_nil, wdS_i, wdS_l, wdS_r, wdS_n, wdS_s]
    all_goals exact Iff.rfl
  exact p1.trans (t3.trans (p2.trans u4))
