/-! ===== the reference's ways up (3) ===== -/
set_option maxHeartbeats 32000000 in
theorem m_cbS (d : Nat) {n : Nat} {G : BitVec 64} {qu : List Int} (h1 : 1 ≤ n) (h5 : n ≤ 5) (hG : clo n G) : ∀ (m s : Nat) (li fa fe : List Int) (h : HP) (y2 y3 y4 y5 y6 : Option AV), s + m = n * (n - 1) / 2 + 1 → BW h n G li fa fe qu → JW n G s 0 0 true fa → JW n G s 0 0 false fe → ∃ h' li' fa' fe', BW h' n G li' fa' fe' qu ∧ Fr 68 72 h h' ∧ JW n G (n * (n - 1) / 2 + 1) 0 0 true fa' ∧ JW n G (n * (n - 1) / 2 + 1) 0 0 false fe' ∧ ∀ R : PO, AWh (d + 6) [] 242 R 14 [some (mR 54), some (mI (s : Int)), y2, y3, y4, y5, y6] [] h (0, 0) ↔ R none h' := by
  have h6 : n ≤ 6 := by omega
  have hN : n * (n - 1) ≤ 20 := by
    rcases (show n = 1 ∨ n = 2 ∨ n = 3 ∨ n = 4 ∨ n = 5 by omega) with e | e | e | e | e <;> subst e <;> decide
  have eN : (n : Int) * ((n : Int) - 1) = ((n * (n - 1) : Nat) : Int) := by
    rw [Int.natCast_mul]
    congr 1
    omega
  have w2 : (w32 2 = 0) = False := eq_false (by decide)
  have bD : n * (n - 1) / 2 < 2147483648 := by omega
  intro m
  induction m with
  | zero =>
    intro s li fa fe h y2 y3 y4 y5 y6 hs w ja jb
    have e : s = n * (n - 1) / 2 + 1 := by omega
    subst e
    have bs : n * (n - 1) / 2 + 1 < 2147483648 := by omega
    refine ⟨h, li, fa, fe, w, Fr_refl h, ja, jb, fun R => ?_⟩
    have g0 := w.1.1.2.1
    have n1 : (((n * (n - 1) / 2 : Nat) : Int) < ((n * (n - 1) / 2 + 1 : Nat) : Int)) = True := eq_true (by omega)
    rw [AWh_k, k_X11_climbs_14]
    simp only [AW_k, AWk_1, x_iload_1, x_aload_0, x_aloads_0, x_getf, x_push_i, x_push_l, x_isub, x_imul, x_idiv, x_icmp_gt, x_ret, x_ret_i, x_ret_z, x_ret_l, x_ret_c, k_X11_climbs_14, k_X11_climbs_15, k_X11_climbs_16, k_X11_climbs_17, k_X11_climbs_18, k_X11_climbs_19, k_X11_climbs_20, k_X11_climbs_21, k_X11_climbs_22, k_X11_climbs_23, k_X11_climbs_24, k_X11_climbs_131, oE_some, Int.reduceToNat, Nat.reduceAdd, true_and, and_true, List.length_cons, List.length_nil, Option.toList_some, Option.toList_none, List.cons_append, List.nil_append, Nat.reduceLeDiff, Nat.le_refl, wdS_nil, wdS_i, wdS_l, wdS_r, wdS_n, wdS_s, g0, eN, tri_ed h5, w2, not_false_eq_true, w32_nat bD, w32_nat bs, n1, ↓reduceIte]
  | succ m ih =>
    intro s li fa fe h y2 y3 y4 y5 y6 hs w ja jb
    have g0 := w.1.1.2.1
    have bs : s < 2147483648 := by omega
    have n1 : (((n * (n - 1) / 2 : Nat) : Int) < (s : Int)) = False := eq_false (by omega)
    have es : (s : Int) + 1 = ((s + 1 : Nat) : Int) := by omega
    obtain ⟨h1', li1, fa1, fe1, z3, z4, z5, z6, v1, v2, v3, v4, v5⟩ := m_cbI d (s := s) h1 h5 hG (by omega) (FC n) 0 li fa fe h y3 y4 y5 y6 (Nat.zero_add _) w ja jb
    obtain ⟨h', li', fa', fe', r1, r2, r3, r4, r5⟩ := ih (s + 1) li1 fa1 fe1 h1' (some (mI ((FC n : Nat) : Int))) z3 z4 z5 z6 (by omega) v1 v3 v4
    refine ⟨h', li', fa', fe', r1, Fr_trans v2 r2, r3, r4, fun R => Iff.trans ?_ (r5 R)⟩
    have v5 := v5 R
    have st : AWh (d + 6) [] 242 R 14 [some (mR 54), some (mI (s : Int)), y2, y3, y4, y5, y6] [] h (0, 0) ↔ AWh (d + 6) [] 242 R 27 [some (mR 54), some (mI (s : Int)), some (mI 0), y3, y4, y5, y6] [] h (0, 0) := by
      refine Iff.trans AWh_k ?_
      rw [k_X11_climbs_14]
      simp only [AW_k, AWk_1, x_iload_1, x_aload_0, x_aloads_0, x_getf, x_push_i, x_push_l, x_isub, x_imul, x_idiv, x_icmp_gt, x_istore_2, x_iload_2, unl_i, unl_l, unl_q, unl_r, unl_s, unl_n, k_X11_climbs_14, k_X11_climbs_15, k_X11_climbs_16, k_X11_climbs_17, k_X11_climbs_18, k_X11_climbs_19, k_X11_climbs_20, k_X11_climbs_21, k_X11_climbs_22, k_X11_climbs_23, k_X11_climbs_24, k_X11_climbs_25, k_X11_climbs_26, k_X11_climbs_27, oE_some, Int.reduceToNat, Nat.reduceAdd, true_and, and_true, List.length_cons, List.length_nil, Option.toList_some, Option.toList_none, List.cons_append, List.nil_append, Nat.reduceLeDiff, Nat.le_refl, wdS_nil, wdS_i, wdS_l, wdS_r, wdS_n, wdS_s, g0, eN, tri_ed h5, w2, not_false_eq_true, w32_nat bD, w32_nat bs, n1, ↓reduceIte]
    refine st.trans (v5.trans ?_)
    simp only [AW_k, AWk_1, x_iload_1, x_iinc_1, x_goto, unl_i, unl_l, unl_q, unl_r, unl_s, unl_n, k_X11_climbs_14, k_X11_climbs_129, k_X11_climbs_130, oE_some, Int.reduceToNat, Nat.reduceAdd, true_and, and_true, List.length_cons, List.length_nil, Option.toList_some, Option.toList_none, List.cons_append, List.nil_append, Nat.reduceLeDiff, Nat.le_refl, wdS_nil, wdS_i, wdS_l, wdS_r, wdS_n, wdS_s, es]
