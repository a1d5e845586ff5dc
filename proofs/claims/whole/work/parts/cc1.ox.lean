/-! ===== the reference's ways up (2) ===== -/
set_option maxHeartbeats 32000000 in
theorem m_cbI (d : Nat) {n s : Nat} {G : BitVec 64} {qu : List Int} (h1 : 1 ≤ n) (h5 : n ≤ 5) (hG : clo n G) (hs20 : s ≤ 20) : ∀ (m i : Nat) (li fa fe : List Int) (h : HP) (y3 y4 y5 y6 : Option AV), i + m = FC n → BW h n G li fa fe qu → JW n G s i 0 true fa → JW n G s i 0 false fe → ∃ h' li' fa' fe' y3' y4' y5' y6', BW h' n G li' fa' fe' qu ∧ Fr 68 72 h h' ∧ JW n G (s + 1) 0 0 true fa' ∧ JW n G (s + 1) 0 0 false fe' ∧ ∀ R : PO, AWh (d + 6) [] 242 R 27 [some (mR 54), some (mI (s : Int)), some (mI (i : Int)), y3, y4, y5, y6] [] h (0, 0) ↔ AWk (d + 6) [] 242 R 129 (cd 242 129) [some (mR 54), some (mI (s : Int)), some (mI ((FC n : Nat) : Int)), y3', y4', y5', y6'] [] h' (0, 0) := by
  have h6 : n ≤ 6 := by omega
  have f := FC_120 h1 h5
  have bF : FC n < 2147483648 := by omega
  have bn : n < 2147483648 := by omega
  have iw : inB (n : Int) FW.length := inB_n (show n < FW.length by rw [FW_7]; omega) (by decide)
  have fw := FW_get (show n < 7 by omega)
  intro m
  induction m with
  | zero =>
    intro i li fa fe h y3 y4 y5 y6 hi w ja jb
    have e : i = FC n := by omega
    subst e
    refine ⟨h, li, fa, fe, y3, y4, y5, y6, w, Fr_refl h, JW_cg (fun y c => EW_all y c) ja, JW_cg (fun y c => EW_all y c) jb, fun R => ?_⟩
    have hK := w.1.1
    rw [AWh_k, k_X11_climbs_27]
    simp only [AW_k, AWk_1, x_iload_2, x_aload_0, x_aloads_0, x_getf, x_iald, x_ialds, x_icmp_ge, k_X11_climbs_27, k_X11_climbs_28, k_X11_climbs_29, k_X11_climbs_30, k_X11_climbs_31, k_X11_climbs_32, k_X11_climbs_33, oE_some, Int.reduceToNat, Nat.reduceAdd, true_and, and_true, List.length_cons, List.length_nil, Option.toList_some, Option.toList_none, List.cons_append, List.nil_append, Nat.reduceLeDiff, Nat.le_refl, wdS_nil, wdS_i, wdS_l, wdS_r, wdS_n, wdS_s, hK.2.2.2.1, hK.2.2.2.2.2, hK.2.1, w32_tn bn, iw, fw, Int.lt_irrefl, ↓reduceIte]
    all_goals exact Iff.rfl
  | succ m ih =>
    intro i li fa fe h y3 y4 y5 y6 hi w ja jb
    have hiF : i < FC n := by omega
    have bi : i < 2147483648 := by omega
    have c0 : ((i : Int) < ((FC n : Nat) : Int)) = True := eq_true (by omega)
    have ei : (i : Int) + 1 = ((i + 1 : Nat) : Int) := by omega
    have hA := w.1
    have hK := hA.1
    have hK' := hK
    have cK := cM hK
    obtain ⟨⟨k1, k6⟩, g0, g18, g19, a63, a64⟩ := hK
    have hpc := (st_ok h1 h6 hiF).1
    have bpc : pc15 (sw n i) < 2147483648 := by omega
    have bs : s < 2147483648 := by omega
    by_cases cc : pc15 (sw n i) = s ∧ isL n G i = true
    · obtain ⟨cs, cL⟩ := cc
      have n1 : (((pc15 (sw n i) : Nat) : Int) = (s : Int)) = True := eq_true (by omega)
      obtain ⟨l', p1, p2, p3⟩ := m_turnsTo d (b := false) hA w.2.1 hiF
      have p3 : ∀ R : PO, callD (d + 6) 236 [mR 54, mI ((num n i : Nat) : Int), mI 1] h R ↔ R (some (mI ((nr1 n G i).length : Int))) (pA h 68 l') := p3
      have w1 := BW_68 w p2
      have hn6 : (nr1 n G i).length ≤ 6 := by
        have := nrF_len (n := n) (G := G) (i := gst n G i) (m := mU n (gst n G i)) (n - 1)
        unfold nr1
        omega
      obtain ⟨h1', fa1, fe1, z6, v1, v2, v3, v4, v5⟩ := m_cbK d h1 h5 hG hiF cL cs p1 hn6 (s : Int) ((num n i : Nat) : Int) (nr1 n G i).length 0 fa fe (pA h 68 l') y6 (Nat.zero_add _) w1 ja jb
      obtain ⟨h', li', fa', fe', z3', z4', z5', z6', r1, r2, r3, r4, r5⟩ := ih (i + 1) l' fa1 fe1 h1' (some (mI ((num n i : Nat) : Int))) (some (mI ((nr1 n G i).length : Int))) (some (mI ((nr1 n G i).length : Int))) z6 (by omega) v1 (JW_cg (fun y c => EW_next y c) v3) (JW_cg (fun y c => EW_next y c) v4)
      refine ⟨h', li', fa', fe', z3', z4', z5', z6', r1, Fr_trans (Fr_trans (Fr_pA (by omega) (by omega)) v2) r2, r3, r4, fun R => Iff.trans ?_ (r5 R)⟩
      have v5 := v5 R
      have st : AWh (d + 6) [] 242 R 27 [some (mR 54), some (mI (s : Int)), some (mI (i : Int)), y3, y4, y5, y6] [] h (0, 0) ↔ AWh (d + 6) [] 242 R 58 [some (mR 54), some (mI (s : Int)), some (mI (i : Int)), some (mI ((num n i : Nat) : Int)), some (mI ((nr1 n G i).length : Int)), some (mI 0), y6] [] (pA h 68 l') (0, 0) := by
        refine Iff.trans AWh_k ?_
        rw [k_X11_climbs_27]
        simp only [AW_k, AWk_1, x_iload_2, x_aload_0, x_aloads_0, x_getf, x_iald, x_ialds, x_icmp_ge, x_callv_2, x_istore_3, x_iload_3, x_i2l, x_call_1, x_iload_1, x_icmp_ne, x_if_eq, x_push_i, x_push_l, x_callv_3, x_goto, x_istore_4, x_istore_5, x_iload_5, unl_i, unl_l, unl_q, unl_r, unl_s, unl_n, k_X11_climbs_27, k_X11_climbs_28, k_X11_climbs_29, k_X11_climbs_30, k_X11_climbs_31, k_X11_climbs_32, k_X11_climbs_33, k_X11_climbs_34, k_X11_climbs_35, k_X11_climbs_36, k_X11_climbs_37, k_X11_climbs_38, k_X11_climbs_39, k_X11_climbs_40, k_X11_climbs_41, k_X11_climbs_42, k_X11_climbs_43, k_X11_climbs_44, k_X11_climbs_45, k_X11_climbs_46, k_X11_climbs_47, k_X11_climbs_48, k_X11_climbs_49, k_X11_climbs_50, k_X11_climbs_51, k_X11_climbs_52, k_X11_climbs_53, k_X11_climbs_54, k_X11_climbs_55, k_X11_climbs_56, k_X11_climbs_57, k_X11_climbs_58, oE_some, Int.reduceToNat, Nat.reduceAdd, true_and, and_true, List.length_cons, List.length_nil, Option.toList_some, Option.toList_none, List.cons_append, List.nil_append, Nat.reduceLeDiff, Nat.le_refl, wdS_nil, wdS_i, wdS_l, wdS_r, wdS_n, wdS_s, g19, a64, g0, w32_tn bn, iw, fw, w32_nat bi, w32_nat bF, c0, cK, m_rowBy (d + 4) hK' hiF, m_swapped (d + 4) hK' hiF, m_ones (d + 4), pc_epc, w32_nat bpc, w32_nat bs, n1, m_isLeast (d + 2) hA w.2.1.1 hiF, cL, zI_t, w10, p3, ↓reduceIte]
      refine st.trans (v5.trans ?_)
      simp only [AW_k, AWk_1, x_iload_2, x_iinc_2, x_goto, unl_i, unl_l, unl_q, unl_r, unl_s, unl_n, k_X11_climbs_27, k_X11_climbs_127, k_X11_climbs_128, oE_some, Int.reduceToNat, Nat.reduceAdd, true_and, and_true, List.length_cons, List.length_nil, Option.toList_some, Option.toList_none, List.cons_append, List.nil_append, Nat.reduceLeDiff, Nat.le_refl, wdS_nil, wdS_i, wdS_l, wdS_r, wdS_n, wdS_s, ei]
    · obtain ⟨h', li', fa', fe', z3', z4', z5', z6', r1, r2, r3, r4, r5⟩ := ih (i + 1) li fa fe h (some (mI ((num n i : Nat) : Int))) (some (mI 0)) (some (mI 0)) y6 (by omega) w (JW_cg (fun y c => EW_skip cc y c) ja) (JW_cg (fun y c => EW_skip cc y c) jb)
      refine ⟨h', li', fa', fe', z3', z4', z5', z6', r1, r2, r3, r4, fun R => Iff.trans ?_ (r5 R)⟩
      have st : AWh (d + 6) [] 242 R 27 [some (mR 54), some (mI (s : Int)), some (mI (i : Int)), y3, y4, y5, y6] [] h (0, 0) ↔ AWh (d + 6) [] 242 R 58 [some (mR 54), some (mI (s : Int)), some (mI (i : Int)), some (mI ((num n i : Nat) : Int)), some (mI 0), some (mI 0), y6] [] h (0, 0) := by
        refine Iff.trans AWh_k ?_
        rw [k_X11_climbs_27]
        by_cases cs : pc15 (sw n i) = s
        · have n1 : (((pc15 (sw n i) : Nat) : Int) = (s : Int)) = True := eq_true (by omega)
          have cL : isL n G i = false := by
            cases q : isL n G i with
            | false => rfl
            | true => exact absurd ⟨cs, q⟩ cc
          simp only [AW_k, AWk_1, x_iload_2, x_aload_0, x_aloads_0, x_getf, x_iald, x_ialds, x_icmp_ge, x_callv_2, x_istore_3, x_iload_3, x_i2l, x_call_1, x_iload_1, x_icmp_ne, x_if_eq, x_push_i, x_push_l, x_callv_3, x_goto, x_istore_4, x_istore_5, x_iload_5, unl_i, unl_l, unl_q, unl_r, unl_s, unl_n, k_X11_climbs_27, k_X11_climbs_28, k_X11_climbs_29, k_X11_climbs_30, k_X11_climbs_31, k_X11_climbs_32, k_X11_climbs_33, k_X11_climbs_34, k_X11_climbs_35, k_X11_climbs_36, k_X11_climbs_37, k_X11_climbs_38, k_X11_climbs_39, k_X11_climbs_40, k_X11_climbs_41, k_X11_climbs_42, k_X11_climbs_43, k_X11_climbs_44, k_X11_climbs_45, k_X11_climbs_46, k_X11_climbs_47, k_X11_climbs_48, k_X11_climbs_49, k_X11_climbs_50, k_X11_climbs_51, k_X11_climbs_52, k_X11_climbs_53, k_X11_climbs_54, k_X11_climbs_55, k_X11_climbs_56, k_X11_climbs_57, k_X11_climbs_58, oE_some, Int.reduceToNat, Nat.reduceAdd, true_and, and_true, List.length_cons, List.length_nil, Option.toList_some, Option.toList_none, List.cons_append, List.nil_append, Nat.reduceLeDiff, Nat.le_refl, wdS_nil, wdS_i, wdS_l, wdS_r, wdS_n, wdS_s, g19, a64, g0, w32_tn bn, iw, fw, w32_nat bi, w32_nat bF, c0, cK, m_rowBy (d + 4) hK' hiF, m_swapped (d + 4) hK' hiF, m_ones (d + 4), pc_epc, w32_nat bpc, w32_nat bs, n1, m_isLeast (d + 2) hA w.2.1.1 hiF, cL, zI_f, w00, ↓reduceIte]
        · have n1 : (((pc15 (sw n i) : Nat) : Int) = (s : Int)) = False := eq_false (by omega)
          simp only [AW_k, AWk_1, x_iload_2, x_aload_0, x_aloads_0, x_getf, x_iald, x_ialds, x_icmp_ge, x_callv_2, x_istore_3, x_iload_3, x_i2l, x_call_1, x_iload_1, x_icmp_ne, x_if_eq, x_push_i, x_push_l, x_callv_3, x_goto, x_istore_4, x_istore_5, x_iload_5, unl_i, unl_l, unl_q, unl_r, unl_s, unl_n, k_X11_climbs_27, k_X11_climbs_28, k_X11_climbs_29, k_X11_climbs_30, k_X11_climbs_31, k_X11_climbs_32, k_X11_climbs_33, k_X11_climbs_34, k_X11_climbs_35, k_X11_climbs_36, k_X11_climbs_37, k_X11_climbs_38, k_X11_climbs_39, k_X11_climbs_40, k_X11_climbs_41, k_X11_climbs_42, k_X11_climbs_43, k_X11_climbs_44, k_X11_climbs_45, k_X11_climbs_46, k_X11_climbs_47, k_X11_climbs_48, k_X11_climbs_49, k_X11_climbs_50, k_X11_climbs_51, k_X11_climbs_52, k_X11_climbs_53, k_X11_climbs_54, k_X11_climbs_55, k_X11_climbs_56, k_X11_climbs_57, k_X11_climbs_58, oE_some, Int.reduceToNat, Nat.reduceAdd, true_and, and_true, List.length_cons, List.length_nil, Option.toList_some, Option.toList_none, List.cons_append, List.nil_append, Nat.reduceLeDiff, Nat.le_refl, wdS_nil, wdS_i, wdS_l, wdS_r, wdS_n, wdS_s, g19, a64, g0, w32_tn bn, iw, fw, w32_nat bi, w32_nat bF, c0, cK, m_rowBy (d + 4) hK' hiF, m_swapped (d + 4) hK' hiF, m_ones (d + 4), pc_epc, w32_nat bpc, w32_nat bs, n1, ↓reduceIte]
      refine st.trans (Iff.trans AWh_k ?_)
      rw [k_X11_climbs_58]
      simp only [AW_k, AWk_1, x_iload_2, x_iload_5, x_iload_4, x_icmp_ge, x_iinc_2, x_goto, unl_i, unl_l, unl_q, unl_r, unl_s, unl_n, k_X11_climbs_27, k_X11_climbs_58, k_X11_climbs_59, k_X11_climbs_60, k_X11_climbs_127, k_X11_climbs_128, oE_some, Int.reduceToNat, Nat.reduceAdd, true_and, and_true, List.length_cons, List.length_nil, Option.toList_some, Option.toList_none, List.cons_append, List.nil_append, Nat.reduceLeDiff, Nat.le_refl, wdS_nil, wdS_i, wdS_l, wdS_r, wdS_n, wdS_s, show w32 0 = 0 from rfl, Int.lt_irrefl, ei, ↓reduceIte]
