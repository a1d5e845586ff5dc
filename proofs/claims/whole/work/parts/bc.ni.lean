/-! ===== the reference's search: one row's steps ===== -/
theorem preN_app {n : Nat} {q : List Int} {qs : List Nat} {x N : Nat} (h : preN n q qs) (hq : q.length = N) (hl : qs.length < N) : preN n (q.set qs.length ((num n x : Nat) : Int)) (qs ++ [x]) := by
  intro k hk
  rw [List.length_append, List.length_singleton] at hk
  rw [getD_set (by omega)]
  by_cases e : qs.length = k
  · rw [if_pos e, List.getD_eq_getElem?_getD, List.getElem?_append_right (by omega), ← e, Nat.sub_self]; rfl
  · rw [if_neg e, List.getD_eq_getElem?_getD (l := qs ++ [x]), List.getElem?_append_left (by omega), ← List.getD_eq_getElem?_getD]
    exact h k (by omega)
set_option maxHeartbeats 16000000 in
theorem m_rchLoop (d : Nat) {n i0 : Nat} {G : BitVec 64} {ns : List Nat} {li fe : List Int} {fr : Nat} (h5 : n ≤ 5) (hp1 : preN n li ns) (hn6 : ns.length ≤ 6) (hb : ∀ y ∈ ns, y < FC n) (y1 y2 wy : Int) : ∀ (m k : Nat) (st qu : List Int) (qs : List Nat) (h : HP), k + m = ns.length → BW h n G li st fe qu → preN n qu qs → bInv st qs → (∀ y ∈ qs, y < FC n) → i0 < qs.length → qs.getD i0 0 = fr → ∃ h' qu', BW h' n G li (rch fr (ns.drop k) st qs).1 fe qu' ∧ Fr 68 72 h h' ∧ preN n qu' (rch fr (ns.drop k) st qs).2 ∧ ∀ R : PO, AWh (d + 6) [] 240 R 40 [some (mR 54), some (mI y1), some (mI y2), some (mI (qs.length : Int)), some (mI (i0 : Int)), some (mI wy), some (mI (ns.length : Int)), some (mI (k : Int))] [] h (0, 0) ↔ AWh (d + 6) [] 240 R 27 [some (mR 54), some (mI y1), some (mI y2), some (mI ((rch fr (ns.drop k) st qs).2.length : Int)), some (mI (i0 : Int)), some (mI (wy + 1)), some (mI (ns.length : Int)), some (mI (ns.length : Int))] [] h' (0, 0) := by
  have b1 := FC_5 h5
  intro m
  induction m with
  | zero =>
    intro k st qu qs h hk w hq hI hbq hi0 hfr
    have ek : k = ns.length := by omega
    subst ek
    have bn : ns.length < 2147483648 := by omega
    rw [List.drop_eq_nil_of_le (Nat.le_refl _)]
    refine ⟨h, qu, w, Fr_refl h, hq, fun R => ?_⟩
    rw [AWh_k, k_X11_apartOf_40]
    simp only [AW_k, AWk_1, x_iload_5, x_push_i, x_push_l, x_icmp_ge, x_aload_0, x_aloads_0, x_getf, x_iload_4, x_iald, x_ialds, x_callv_3, x_istore_6, x_istore_7, x_iload_7, x_iload_6, x_callv_2, x_if_ge, x_iadd, x_iast, x_iload_3, x_iinc_3, x_iinc_7, x_goto, x_iinc_5, x_iinc_4, unl_i, unl_l, unl_q, unl_r, unl_s, unl_n, k_X11_apartOf_27, k_X11_apartOf_28, k_X11_apartOf_29, k_X11_apartOf_30, k_X11_apartOf_31, k_X11_apartOf_32, k_X11_apartOf_33, k_X11_apartOf_34, k_X11_apartOf_35, k_X11_apartOf_36, k_X11_apartOf_37, k_X11_apartOf_38, k_X11_apartOf_39, k_X11_apartOf_40, k_X11_apartOf_41, k_X11_apartOf_42, k_X11_apartOf_43, k_X11_apartOf_44, k_X11_apartOf_45, k_X11_apartOf_46, k_X11_apartOf_47, k_X11_apartOf_48, k_X11_apartOf_49, k_X11_apartOf_50, k_X11_apartOf_51, k_X11_apartOf_52, k_X11_apartOf_53, k_X11_apartOf_54, k_X11_apartOf_55, k_X11_apartOf_56, k_X11_apartOf_57, k_X11_apartOf_58, k_X11_apartOf_59, k_X11_apartOf_60, k_X11_apartOf_61, k_X11_apartOf_62, k_X11_apartOf_63, k_X11_apartOf_64, k_X11_apartOf_65, k_X11_apartOf_66, k_X11_apartOf_67, k_X11_apartOf_68, k_X11_apartOf_69, k_X11_apartOf_70, k_X11_apartOf_71, k_X11_apartOf_72, k_X11_apartOf_73, k_X11_apartOf_74, k_X11_apartOf_75, k_X11_apartOf_76, k_X11_apartOf_77, k_X11_apartOf_78, k_X11_apartOf_79, k_X11_apartOf_80, k_X11_apartOf_81, k_X11_apartOf_82, k_X11_apartOf_83, k_X11_apartOf_84, k_X11_apartOf_85, k_X11_apartOf_86, oE_some, Int.reduceToNat, Nat.reduceAdd, true_and, and_true, List.length_cons, List.length_nil, Option.toList_some, Option.toList_none, List.cons_append, List.nil_append, Nat.reduceLeDiff, Nat.le_refl, wdS_nil, wdS_i, wdS_l, wdS_r, wdS_n, wdS_s, w32_nat bn, Int.lt_irrefl, ↓reduceIte]
    all_goals exact Iff.rfl
  | succ m ih =>
    intro k st qu qs h hk w hq hI hbq hi0 hfr
    have hkl : k < ns.length := by omega
    have hxF : ns.getD k 0 < FC n := hb _ (getD_mem hkl)
    have hx : ns.getD k 0 < 120 := by omega
    have hfm : fr ∈ qs := by rw [← hfr]; exact getD_mem hi0
    have hfF : fr < FC n := hbq _ hfm
    have hst := hI.2.2.2 (ns.getD k 0) hx
    have hql := bInv_len hI
    have n1 := w.2.2.2.2.1
    have n3 := w.2.2.2.2.2.2
    have n6 := w.2.1.2.2.2
    have bk : k < 2147483648 := by omega
    have bn : ns.length < 2147483648 := by omega
    have ck : ((k : Int) < (ns.length : Int)) = True := eq_true (by omega)
    have ek : (k : Int) + 1 = ((k + 1 : Nat) : Int) := by omega
    have eq1 : (qs.length : Int) + 1 = ((qs.length + 1 : Nat) : Int) := by omega
    have r1 : -2147483648 ≤ st.getD (ns.getD k 0) 0 := by omega
    have r2 : st.getD (ns.getD k 0) 0 < 2147483648 := by omega
    have j1 : inB (k : Int) li.length := by rw [n6]; exact inB_n (by omega) (by decide)
    have j2 : inB ((ns.getD k 0 : Nat) : Int) st.length := by rw [n1]; exact inB_n hx (by decide)
    have j3 : inB ((fr : Nat) : Int) st.length := by rw [n1]; exact inB_n (by omega) (by decide)
    have j5 : inB (i0 : Int) qu.length := by rw [n3]; exact inB_n (by omega) (by decide)
    have bi0 : i0 < 2147483648 := by omega
    have bfr : fr < 2147483648 := by omega
    have bx : ns.getD k 0 < 2147483648 := by omega
    have g1 : li.getD k 0 = ((num n (ns.getD k 0) : Nat) : Int) := hp1 k hkl
    have g5 : qu.getD i0 0 = ((num n fr : Nat) : Int) := by rw [← hfr]; exact hq i0 hi0
    have rk : ∀ (h : HP) (hK : MK h n) (R : PO), callD (d + 6) 169 [mR 54, mI ((num n (ns.getD k 0) : Nat) : Int)] h R ↔ R (some (mI ((ns.getD k 0 : Nat) : Int))) h := fun h hK R => m_rank (d + 4) hK hxF R
    have rf : ∀ (h : HP) (hK : MK h n) (R : PO), callD (d + 6) 169 [mR 54, mI ((num n fr : Nat) : Int)] h R ↔ R (some (mI ((fr : Nat) : Int))) h := fun h hK R => m_rank (d + 4) hK hfF R
    have w32i := w32_id r1 r2
    rw [drop_getD hkl, rch_cons]
    by_cases hn : st.getD (ns.getD k 0) 0 < 0
    · rw [if_pos hn]
      have hlt : qs.length < 120 := by
        have := hI.2.2.1
        have := cnt_full (f := fun x => decide (0 ≤ st.getD x 0)) hx (by simp only [decide_eq_false_iff_not]; omega)
        omega
      have j4 : inB (qs.length : Int) qu.length := by rw [n3]; exact inB_n hlt (by decide)
      have bq : qs.length < 2147483648 := by omega
      have w1 := BW_69 (l := st.set (ns.getD k 0) (st.getD fr 0 + 1)) w (by rw [List.length_set]; exact n1)
      have w2 := BW_71 (l := qu.set qs.length ((num n (ns.getD k 0) : Nat) : Int)) w1 (by rw [List.length_set]; exact n3)
      obtain ⟨h', q', a1, a2, a3, a4⟩ := ih (k + 1) _ _ _ _ (by omega) w2 (preN_app hq n3 hlt) (bInv_add hI hx hn hfm) (fun y hy => by
        rcases List.mem_append.mp hy with e | e
        · exact hbq y e
        · rw [List.mem_singleton] at e; rw [e]; exact hxF) (by rw [List.length_append]; omega) (by rw [getD_app hi0]; exact hfr)
      refine ⟨h', q', a1, Fr_trans (Fr_trans (Fr_pA (by omega) (by omega)) (Fr_pA (by omega) (by omega))) a2, a3, fun R => ?_⟩
      have a4 := a4 R
      rw [List.length_append, List.length_singleton] at a4
      refine Iff.trans ?_ a4
      have cn : (st.getD (ns.getD k 0) 0 < 0) = True := eq_true hn
      rw [AWh_k, k_X11_apartOf_40]
      simp only [AW_k, AWk_1, x_iload_7, x_iload_6, x_icmp_ge, x_aload_0, x_aloads_0, x_getf, x_iald, x_ialds, x_callv_2, x_if_ge, x_iload_4, x_push_i, x_push_l, x_iadd, x_iast, x_iload_3, x_iinc_3, x_iinc_7, x_goto, unl_i, unl_l, unl_q, unl_r, unl_s, unl_n, k_X11_apartOf_40, k_X11_apartOf_41, k_X11_apartOf_42, k_X11_apartOf_43, k_X11_apartOf_44, k_X11_apartOf_45, k_X11_apartOf_46, k_X11_apartOf_47, k_X11_apartOf_48, k_X11_apartOf_49, k_X11_apartOf_50, k_X11_apartOf_51, k_X11_apartOf_52, k_X11_apartOf_53, k_X11_apartOf_54, k_X11_apartOf_55, k_X11_apartOf_56, k_X11_apartOf_57, k_X11_apartOf_58, k_X11_apartOf_59, k_X11_apartOf_60, k_X11_apartOf_61, k_X11_apartOf_62, k_X11_apartOf_63, k_X11_apartOf_64, k_X11_apartOf_65, k_X11_apartOf_66, k_X11_apartOf_67, k_X11_apartOf_68, k_X11_apartOf_69, k_X11_apartOf_70, k_X11_apartOf_71, k_X11_apartOf_72, k_X11_apartOf_73, k_X11_apartOf_74, k_X11_apartOf_75, k_X11_apartOf_76, k_X11_apartOf_77, k_X11_apartOf_78, k_X11_apartOf_79, k_X11_apartOf_80, k_X11_apartOf_81, k_X11_apartOf_82, k_X11_apartOf_83, oE_some, Int.reduceToNat, Nat.reduceAdd, true_and, and_true, List.length_cons, List.length_nil, Option.toList_some, Option.toList_none, List.cons_append, List.nil_append, Nat.reduceLeDiff, Nat.le_refl, wdS_nil, wdS_i, wdS_l, wdS_r, wdS_n, wdS_s, cM w.1.1, w.2.1.2.1, w.2.1.2.2.1, w.2.2.1.1, w.2.2.1.2.2, w.2.2.2.1.1, w.2.2.2.1.2.2, cM w1.1.1, w1.2.1.2.1, w1.2.1.2.2.1, w1.2.2.1.1, w1.2.2.1.2.2, w1.2.2.2.1.1, w1.2.2.2.1.2.2, w32_nat bn, w32_nat bk, Int.toNat_natCast, ck, j1, j2, j3, j4, j5, g1, g5, rk h w.1.1, rf h w.1.1, w32_nat bx, w32_nat bi0, w32_nat bfr, w32_nat bq, w32i, cn, ek, eq1, ↓reduceIte]
    · rw [if_neg hn]
      obtain ⟨h', q', a1, a2, a3, a4⟩ := ih (k + 1) _ _ _ _ (by omega) w hq hI hbq hi0 hfr
      refine ⟨h', q', a1, a2, a3, fun R => ?_⟩
      refine Iff.trans ?_ (a4 R)
      have cn : (st.getD (ns.getD k 0) 0 < 0) = False := eq_false hn
      rw [AWh_k, k_X11_apartOf_40]
      simp only [AW_k, AWk_1, x_iload_7, x_iload_6, x_icmp_ge, x_aload_0, x_aloads_0, x_getf, x_iald, x_ialds, x_callv_2, x_if_ge, x_iload_4, x_push_i, x_push_l, x_iadd, x_iast, x_iload_3, x_iinc_3, x_iinc_7, x_goto, unl_i, unl_l, unl_q, unl_r, unl_s, unl_n, k_X11_apartOf_40, k_X11_apartOf_41, k_X11_apartOf_42, k_X11_apartOf_43, k_X11_apartOf_44, k_X11_apartOf_45, k_X11_apartOf_46, k_X11_apartOf_47, k_X11_apartOf_48, k_X11_apartOf_49, k_X11_apartOf_50, k_X11_apartOf_51, k_X11_apartOf_52, k_X11_apartOf_53, k_X11_apartOf_54, k_X11_apartOf_55, k_X11_apartOf_56, k_X11_apartOf_57, k_X11_apartOf_58, k_X11_apartOf_59, k_X11_apartOf_60, k_X11_apartOf_61, k_X11_apartOf_62, k_X11_apartOf_63, k_X11_apartOf_64, k_X11_apartOf_65, k_X11_apartOf_66, k_X11_apartOf_67, k_X11_apartOf_68, k_X11_apartOf_69, k_X11_apartOf_70, k_X11_apartOf_71, k_X11_apartOf_72, k_X11_apartOf_73, k_X11_apartOf_74, k_X11_apartOf_75, k_X11_apartOf_76, k_X11_apartOf_77, k_X11_apartOf_78, k_X11_apartOf_79, k_X11_apartOf_80, k_X11_apartOf_81, k_X11_apartOf_82, k_X11_apartOf_83, oE_some, Int.reduceToNat, Nat.reduceAdd, true_and, and_true, List.length_cons, List.length_nil, Option.toList_some, Option.toList_none, List.cons_append, List.nil_append, Nat.reduceLeDiff, Nat.le_refl, wdS_nil, wdS_i, wdS_l, wdS_r, wdS_n, wdS_s, cM w.1.1, w.2.1.2.1, w.2.1.2.2.1, w.2.2.1.1, w.2.2.1.2.2, w.2.2.2.1.1, w.2.2.2.1.2.2, w32_nat bn, w32_nat bk, Int.toNat_natCast, ck, j1, j2, g1, rk h w.1.1, w32_nat bx, w32i, cn, ek, ↓reduceIte]
