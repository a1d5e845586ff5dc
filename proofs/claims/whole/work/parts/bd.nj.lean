/-! ===== the reference's search: all of it ===== -/
/-- what has been reached holds the steps of the first i -/
def bClo (n : Nat) (G : BitVec 64) (i : Nat) (st : List Int) (qs : List Nat) : Prop := (∀ y, y < 120 → 0 ≤ st.getD y 0 → y ∈ qs) ∧ (∀ y ∈ qs, y < FC n ∧ isL n G y = true) ∧ (∀ j, j < i → ∀ y, y ∈ nr0 n G (qs.getD j 0) ∨ y ∈ nr1 n G (qs.getD j 0) → 0 ≤ st.getD y 0) ∧ 0 < qs.length
theorem rch_more {fr : Nat} : ∀ {ns : List Nat} {st : List Int} {qs : List Nat}, bInv st qs → (∀ y ∈ ns, y < 120) → fr ∈ qs → (∀ y, y < 120 → 0 ≤ st.getD y 0 → y ∈ qs) → (∀ y, y < 120 → 0 ≤ st.getD y 0 → 0 ≤ (rch fr ns st qs).1.getD y 0) ∧ (∀ y ∈ ns, 0 ≤ (rch fr ns st qs).1.getD y 0) ∧ (∀ y, y < 120 → 0 ≤ (rch fr ns st qs).1.getD y 0 → y ∈ (rch fr ns st qs).2) ∧ (∀ y ∈ (rch fr ns st qs).2, y ∈ qs ∨ y ∈ ns) := by
  intro ns
  induction ns with
  | nil => intro st qs h _ _ hv; exact ⟨fun _ _ h => h, fun y hy => (by cases hy), hv, fun y hy => Or.inl hy⟩
  | cons x ns ih =>
    intro st qs h hb hf hv
    have hx := hb x (List.mem_cons_self ..)
    have h120 := h.1
    have hf2 := h.2.1 fr hf
    rw [rch_cons]
    split
    · next hn =>
      have hi := bInv_add h hx hn hf
      have hv2 : ∀ y, y < 120 → 0 ≤ (st.set x (st.getD fr 0 + 1)).getD y 0 → y ∈ qs ++ [x] := by
        intro y hy h0
        rw [getD_set (by omega)] at h0
        by_cases e : x = y
        · rw [e]; exact List.mem_append_right _ (List.mem_cons_self ..)
        · rw [if_neg e] at h0; exact List.mem_append_left _ (hv y hy h0)
      obtain ⟨i1, i2, i3, i4⟩ := ih hi (fun y hy => hb y (List.mem_cons_of_mem _ hy)) (List.mem_append_left _ hf) hv2
      have keep : ∀ y, y < 120 → 0 ≤ st.getD y 0 → 0 ≤ (st.set x (st.getD fr 0 + 1)).getD y 0 := by
        intro y hy h0
        rw [getD_set (by omega)]
        split
        · omega
        · exact h0
      refine ⟨fun y hy h0 => i1 y hy (keep y hy h0), ?_, i3, ?_⟩
      · intro y hy
        rcases List.mem_cons.mp hy with e | e
        · rw [e]
          apply i1 x hx
          rw [getD_set (by omega), if_pos rfl]
          omega
        · exact i2 y e
      · intro y hy
        rcases i4 y hy with e | e
        · rcases List.mem_append.mp e with e | e
          · exact Or.inl e
          · rw [List.mem_singleton] at e; rw [e]; exact Or.inr (List.mem_cons_self ..)
        · exact Or.inr (List.mem_cons_of_mem _ e)
    · next hn =>
      obtain ⟨i1, i2, i3, i4⟩ := ih h (fun y hy => hb y (List.mem_cons_of_mem _ hy)) hf hv
      refine ⟨i1, ?_, i3, ?_⟩
      · intro y hy
        rcases List.mem_cons.mp hy with e | e
        · rw [e]; exact i1 x hx (by omega)
        · exact i2 y e
      · intro y hy
        rcases i4 y hy with e | e
        · exact Or.inl e
        · exact Or.inr (List.mem_cons_of_mem _ e)
theorem nr_isL {n c y : Nat} {G : BitVec 64} (h1 : 1 ≤ n) (h6 : n ≤ 6) (hc : c < FC n) (hl : isL n G c = true) (h : y ∈ nr0 n G c ∨ y ∈ nr1 n G c) : isL n G y = true := by
  rcases h with h | h
  · obtain ⟨p, a, b, e⟩ := (nr0_mem (isL_lst h1 h6 hc hl)).mp h
    rw [e]; exact lst_isL h1 h6 (bs_ok h1 h6 hc a)
  · obtain ⟨p, a, b, e⟩ := nr1_mem.mp h
    rw [e]; exact lst_isL h1 h6 (bs_ok h1 h6 (gst_ok h1 h6 hc) a)
theorem bClo_end {n i to : Nat} {G : BitVec 64} {st : List Int} {qs : List Nat} (h1 : 1 ≤ n) (h5 : n ≤ 5) (hG : clo n G) (h : bClo n G i st qs) (hI : bInv st qs) (hi : i ≤ qs.length) (hto : to < FC n) (hL : isL n G to = true) (hs : st.getD to 0 < 0) : i < qs.length := by
  have h6 : n ≤ 6 := by omega
  have b1 := FC_5 h5
  apply Decidable.byContradiction
  intro hni
  have ei : i = qs.length := by omega
  subst ei
  obtain ⟨a1, a2, a3, a4⟩ := h
  have hm : qs.getD 0 0 ∈ qs := getD_mem a4
  have hv := cls_conn h1 h6 hG (V := fun y => 0 ≤ st.getD y 0) (s := qs.getD 0 0) (a2 _ hm).1 (a2 _ hm).2 (hI.2.1 _ hm).2 (fun x hx _ hvx y hy => by
    have hxm := a1 x (by omega) hvx
    obtain ⟨j, hj, ej⟩ := List.getElem_of_mem hxm
    have : qs.getD j 0 = x := by rw [List.getD_eq_getElem?_getD, List.getElem?_eq_getElem hj, ej]; rfl
    exact a3 j hj y (by rw [this]; exact hy)) to hto hL
  omega
theorem bClo_step {n i : Nat} {G : BitVec 64} {st : List Int} {qs : List Nat} (h1 : 1 ≤ n) (h5 : n ≤ 5) (h : bClo n G i st qs) (hI : bInv st qs) (hi : i < qs.length) : bClo n G (i + 1) (rch (qs.getD i 0) (nr1 n G (qs.getD i 0)) (rch (qs.getD i 0) (nr0 n G (qs.getD i 0)) st qs).1 (rch (qs.getD i 0) (nr0 n G (qs.getD i 0)) st qs).2).1 (rch (qs.getD i 0) (nr1 n G (qs.getD i 0)) (rch (qs.getD i 0) (nr0 n G (qs.getD i 0)) st qs).1 (rch (qs.getD i 0) (nr0 n G (qs.getD i 0)) st qs).2).2 := by
  have h6 : n ≤ 6 := by omega
  have b1 := FC_5 h5
  obtain ⟨a1, a2, a3, a4⟩ := h
  have hm : qs.getD i 0 ∈ qs := getD_mem hi
  obtain ⟨xF, xL⟩ := a2 _ hm
  generalize hx : qs.getD i 0 = x at *
  have bd0 := nr0_bd (G := G) h1 h6 xF
  have bd1 := nr1_bd (G := G) h1 h6 xF
  obtain ⟨c1, c2, c3, c4⟩ := rch_more hI (bd_120 bd0 b1) hm a1
  obtain ⟨hI2, t2, ht2⟩ := rch_inv (fr := x) hI (bd_120 bd0 b1) hm
  have hm2 : x ∈ (rch x (nr0 n G x) st qs).2 := by rw [ht2]; exact List.mem_append_left _ hm
  obtain ⟨e1, e2, e3, e4⟩ := rch_more hI2 (bd_120 bd1 b1) hm2 c3
  obtain ⟨hI4, t4, ht4⟩ := rch_inv (fr := x) hI2 (bd_120 bd1 b1) hm2
  refine ⟨e3, ?_, ?_, ?_⟩
  · intro y hy
    rcases e4 y hy with q | q
    · rcases c4 y q with q | q
      · exact a2 y q
      · exact ⟨bd0 y q, nr_isL h1 h6 xF xL (Or.inl q)⟩
    · exact ⟨bd1 y q, nr_isL h1 h6 xF xL (Or.inr q)⟩
  · intro j hj y hy
    have ej : (rch x (nr1 n G x) (rch x (nr0 n G x) st qs).1 (rch x (nr0 n G x) st qs).2).2.getD j 0 = qs.getD j 0 := by
      rw [ht4, getD_app (by rw [ht2, List.length_append]; omega), ht2, getD_app (by omega)]
    rw [ej] at hy
    by_cases e : j = i
    · rw [e, hx] at hy
      rcases hy with q | q
      · have := bd0 y q
        exact e1 y (by omega) (c2 y q)
      · exact e2 y q
    · have hjl : j < qs.length := by omega
      have hjm : qs.getD j 0 ∈ qs := getD_mem hjl
      have yF : y < FC n := by
        rcases hy with q | q
        · exact nr0_bd h1 h6 (a2 _ hjm).1 y q
        · exact nr1_bd h1 h6 (a2 _ hjm).1 y q
      exact e1 y (by omega) (c1 y (by omega) (a3 j (by omega) y hy))
  · rw [ht4, ht2, List.length_append, List.length_append]; omega
set_option maxHeartbeats 16000000 in
theorem m_apLoop (d : Nat) {n to : Nat} {G : BitVec 64} {fe : List Int} (h1 : 1 ≤ n) (h5 : n ≤ 5) (hG : clo n G) (hto : to < FC n) (hL : isL n G to = true) (y1 : Int) : ∀ (f i : Nat) (li st qu : List Int) (qs : List Nat) (h : HP) (o5 o6 o7 : Option AV), i + f = 121 → BW h n G li st fe qu → preN n qu qs → bInv st qs → bClo n G i st qs → i ≤ qs.length → ∃ h' li' st' qu', BW h' n G li' st' fe qu' ∧ Fr 68 72 h h' ∧ ∀ R : PO, AWh (d + 6) [] 240 R 18 [some (mR 54), some (mI y1), some (mI ((num n to : Nat) : Int)), some (mI (qs.length : Int)), some (mI (i : Int)), o5, o6, o7] [] h (0, 0) ↔ R (some (mI (bfs n G to f i st qs))) h' := by
  have h6 : n ≤ 6 := by omega
  have b1 := FC_5 h5
  have t120 : to < 120 := by omega
  have bt : to < 2147483648 := by omega
  intro f
  induction f with
  | zero =>
    intro i li st qu qs h o5 o6 o7 hf w hq hI hC hi
    have b2 := bInv_len hI
    omega
  | succ f ih =>
    intro i li st qu qs h o5 o6 o7 hf w hq hI hC hi
    have b2 := bInv_len hI
    have n1 := w.2.2.2.2.1
    have n3 := w.2.2.2.2.2.2
    have hst := hI.2.2.2 to t120
    have r1 : -2147483648 ≤ st.getD to 0 := by omega
    have r2 : st.getD to 0 < 2147483648 := by omega
    have j2 : inB ((to : Nat) : Int) st.length := by rw [n1]; exact inB_n t120 (by decide)
    have rk : ∀ R : PO, callD (d + 6) 169 [mR 54, mI ((num n to : Nat) : Int)] h R ↔ R (some (mI ((to : Nat) : Int))) h := fun R => m_rank (d + 4) w.1.1 hto R
    by_cases c : st.getD to 0 < 0
    · have hil := bClo_end h1 h5 hG hC hI hi hto hL c
      rw [bfs_succ, if_pos ⟨hil, c⟩]
      have hCs := bClo_step h1 h5 hC hI hil
      have hm : qs.getD i 0 ∈ qs := getD_mem hil
      have hbq : ∀ y ∈ qs, y < FC n := fun y hy => (hC.2.1 y hy).1
      have hxF := hbq _ hm
      have bi : i < 2147483648 := by omega
      have j5 : inB (i : Int) qu.length := by rw [n3]; exact inB_n (by omega) (by decide)
      have g5 : qu.getD i 0 = ((num n (qs.getD i 0) : Nat) : Int) := hq i hil
      obtain ⟨x, hx⟩ : ∃ x, x = qs.getD i 0 := ⟨_, rfl⟩
      rw [← hx] at hm hxF g5 hCs ⊢
      have len0 : (nr0 n G x).length < 6 := nr0_len h6
      have len1 : (nr1 n G x).length < 6 := nr1_len h6
      have bd0 := nr0_bd (G := G) h1 h6 hxF
      have bd1 := nr1_bd (G := G) h1 h6 hxF
      obtain ⟨l0, p1, p2, p3⟩ := m_turnsTo d (b := true) w.1 w.2.1 hxF
      have w1 := BW_68 (l := l0) w p2
      obtain ⟨h2, qu2, a1, a2, a3, a4⟩ := m_rchLoop d (i0 := i) (ns := nr0 n G x) h5 p1 (by omega) bd0 y1 ((num n to : Nat) : Int) 0 (nr0 n G x).length 0 st qu qs (pA h 68 l0) (Nat.zero_add _) w1 hq hI hbq hil hx.symm
      rw [List.drop_zero] at a1 a3 a4
      obtain ⟨hI2, t2, ht2⟩ := rch_inv (fr := x) hI (bd_120 bd0 b1) hm
      have hm2 : x ∈ (rch x (nr0 n G x) st qs).2 := by rw [ht2]; exact List.mem_append_left _ hm
      have hbq2 := rch_bd (fr := x) (st := st) bd0 hbq
      have hil2 : i < (rch x (nr0 n G x) st qs).2.length := by rw [ht2, List.length_append]; omega
      have hx2 : (rch x (nr0 n G x) st qs).2.getD i 0 = x := by rw [ht2, getD_app hil]; exact hx.symm
      have g6 : qu2.getD i 0 = ((num n x : Nat) : Int) := by rw [a3 i hil2, hx2]
      have n3b := a1.2.2.2.2.2.2
      have j6 : inB (i : Int) qu2.length := by rw [n3b]; exact inB_n (by omega) (by decide)
      generalize hst2 : (rch x (nr0 n G x) st qs).1 = st2 at *
      generalize hqs2 : (rch x (nr0 n G x) st qs).2 = qs2 at *
      obtain ⟨l2, p4, p5, p6⟩ := m_turnsTo d (b := false) a1.1 a1.2.1 hxF
      have w3 := BW_68 (l := l2) a1 p5
      obtain ⟨h4, qu4, c1, c2, c3, c4⟩ := m_rchLoop d (i0 := i) (ns := nr1 n G x) h5 p4 (by omega) bd1 y1 ((num n to : Nat) : Int) 1 (nr1 n G x).length 0 st2 qu2 qs2 (pA h2 68 l2) (Nat.zero_add _) w3 a3 hI2 hbq2 hil2 hx2
      rw [List.drop_zero] at c1 c3 c4
      obtain ⟨hI4, t4, ht4⟩ := rch_inv (fr := x) hI2 (bd_120 bd1 b1) hm2
      have hil4 : i + 1 ≤ (rch x (nr1 n G x) st2 qs2).2.length := by rw [ht4, List.length_append]; omega
      generalize hst4 : (rch x (nr1 n G x) st2 qs2).1 = st4 at *
      generalize hqs4 : (rch x (nr1 n G x) st2 qs2).2 = qs4 at *
      obtain ⟨h', li', st', qu', v1, v2, v3⟩ := ih (i + 1) l2 st4 qu4 qs4 h4 (some (mI 2)) (some (mI ((nr1 n G x).length : Int))) (some (mI ((nr1 n G x).length : Int))) (by omega) c1 c3 hI4 hCs hil4
      have f1 : Fr 68 72 h (pA h 68 l0) := Fr_pA (by omega) (by omega)
      have f3 : Fr 68 72 h2 (pA h2 68 l2) := Fr_pA (by omega) (by omega)
      refine ⟨h', li', st', qu', v1, Fr_trans (Fr_trans (Fr_trans (Fr_trans f1 a2) f3) c2) v2, fun R => ?_⟩
      have cc : (st.getD to 0 < 0) = True := eq_true c
      have k1 : ((1 : Int) < 2) = True := by decide
      have k2 : ((0 : Int) < 2) = True := by decide
      have p3 := fun R => p3 R
      have p6 := fun R => p6 R
      rw [show nrB n G true x = nr0 n G x from rfl, show wyB true = 0 from rfl] at p3
      rw [show nrB n G false x = nr1 n G x from rfl, show wyB false = 1 from rfl] at p6
      have ei : (i : Int) + 1 = ((i + 1 : Nat) : Int) := by omega
      have c4 := c4 R
      have a4 := a4 R
      have v3 := v3 R
      rw [show (1 : Int) + 1 = 2 from rfl, show ((0 : Nat) : Int) = 0 from rfl] at c4
      rw [show (0 : Int) + 1 = 1 from rfl, show ((0 : Nat) : Int) = 0 from rfl] at a4
      rw [AWh_k, k_X11_apartOf_18]
      simp only [AW_k, AWk_1, x_aload_0, x_aloads_0, x_getf, x_iload_2, x_callv_2, x_iald, x_ialds, x_if_ge, x_push_i, x_push_l, x_istore_5, x_iload_5, unl_i, unl_l, unl_q, unl_r, unl_s, unl_n, k_X11_apartOf_18, k_X11_apartOf_19, k_X11_apartOf_20, k_X11_apartOf_21, k_X11_apartOf_22, k_X11_apartOf_23, k_X11_apartOf_24, k_X11_apartOf_25, k_X11_apartOf_26, k_X11_apartOf_27, oE_some, Int.reduceToNat, Nat.reduceAdd, true_and, and_true, List.length_cons, List.length_nil, Option.toList_some, Option.toList_none, List.cons_append, List.nil_append, Nat.reduceLeDiff, Nat.le_refl, wdS_nil, wdS_i, wdS_l, wdS_r, wdS_n, wdS_s, cM w.1.1, w.2.2.1.1, w.2.2.2.1.1, j2, rk, w32_nat bt, Int.toNat_natCast, w32_id r1 r2, cc, ↓reduceIte]
      rw [AWh_k, k_X11_apartOf_27]
      simp only [AW_k, AWk_1, x_push_i, x_push_l, x_icmp_ge, x_aload_0, x_aloads_0, x_getf, x_iload_4, x_iald, x_ialds, x_iload_5, x_callv_3, x_istore_6, x_istore_7, x_iload_7, unl_i, unl_l, unl_q, unl_r, unl_s, unl_n, k_X11_apartOf_28, k_X11_apartOf_29, k_X11_apartOf_30, k_X11_apartOf_31, k_X11_apartOf_32, k_X11_apartOf_33, k_X11_apartOf_34, k_X11_apartOf_35, k_X11_apartOf_36, k_X11_apartOf_37, k_X11_apartOf_38, k_X11_apartOf_39, k_X11_apartOf_40, oE_some, Int.reduceToNat, Nat.reduceAdd, true_and, and_true, List.length_cons, List.length_nil, Option.toList_some, Option.toList_none, List.cons_append, List.nil_append, Nat.reduceLeDiff, Nat.le_refl, wdS_nil, wdS_i, wdS_l, wdS_r, wdS_n, wdS_s, cM w.1.1, w.2.2.1.2.2, w.2.2.2.1.2.2, j5, g5, w32_nat bi, Int.toNat_natCast, show w32 0 = 0 from rfl, show w32 2 = 2 from rfl, k2, p3, ↓reduceIte]
      refine a4.trans ?_
      rw [AWh_k, k_X11_apartOf_27]
      simp only [AW_k, AWk_1, x_push_i, x_push_l, x_icmp_ge, x_aload_0, x_aloads_0, x_getf, x_iload_4, x_iald, x_ialds, x_iload_5, x_callv_3, x_istore_6, x_istore_7, x_iload_7, unl_i, unl_l, unl_q, unl_r, unl_s, unl_n, k_X11_apartOf_28, k_X11_apartOf_29, k_X11_apartOf_30, k_X11_apartOf_31, k_X11_apartOf_32, k_X11_apartOf_33, k_X11_apartOf_34, k_X11_apartOf_35, k_X11_apartOf_36, k_X11_apartOf_37, k_X11_apartOf_38, k_X11_apartOf_39, k_X11_apartOf_40, oE_some, Int.reduceToNat, Nat.reduceAdd, true_and, and_true, List.length_cons, List.length_nil, Option.toList_some, Option.toList_none, List.cons_append, List.nil_append, Nat.reduceLeDiff, Nat.le_refl, wdS_nil, wdS_i, wdS_l, wdS_r, wdS_n, wdS_s, cM a1.1.1, a1.2.2.1.2.2, a1.2.2.2.1.2.2, j6, g6, w32_nat bi, Int.toNat_natCast, show w32 1 = 1 from rfl, show w32 2 = 2 from rfl, k1, p6, ↓reduceIte]
      refine c4.trans ?_
      refine Iff.trans ?_ v3
      rw [AWh_k, k_X11_apartOf_27]
      simp only [AW_k, AWk_1, x_aload_0, x_aloads_0, x_push_i, x_push_l, x_icmp_ge, x_getf, x_iload_4, x_iald, x_ialds, x_iload_5, x_callv_3, x_istore_6, x_istore_7, x_iload_7, x_iload_6, x_callv_2, x_if_ge, x_iadd, x_iast, x_iload_3, x_iinc_3, x_iinc_7, x_goto, x_iinc_5, x_iinc_4, unl_i, unl_l, unl_q, unl_r, unl_s, unl_n, k_X11_apartOf_18, k_X11_apartOf_28, k_X11_apartOf_29, k_X11_apartOf_30, k_X11_apartOf_31, k_X11_apartOf_32, k_X11_apartOf_33, k_X11_apartOf_34, k_X11_apartOf_35, k_X11_apartOf_36, k_X11_apartOf_37, k_X11_apartOf_38, k_X11_apartOf_39, k_X11_apartOf_40, k_X11_apartOf_41, k_X11_apartOf_42, k_X11_apartOf_43, k_X11_apartOf_44, k_X11_apartOf_45, k_X11_apartOf_46, k_X11_apartOf_47, k_X11_apartOf_48, k_X11_apartOf_49, k_X11_apartOf_50, k_X11_apartOf_51, k_X11_apartOf_52, k_X11_apartOf_53, k_X11_apartOf_54, k_X11_apartOf_55, k_X11_apartOf_56, k_X11_apartOf_57, k_X11_apartOf_58, k_X11_apartOf_59, k_X11_apartOf_60, k_X11_apartOf_61, k_X11_apartOf_62, k_X11_apartOf_63, k_X11_apartOf_64, k_X11_apartOf_65, k_X11_apartOf_66, k_X11_apartOf_67, k_X11_apartOf_68, k_X11_apartOf_69, k_X11_apartOf_70, k_X11_apartOf_71, k_X11_apartOf_72, k_X11_apartOf_73, k_X11_apartOf_74, k_X11_apartOf_75, k_X11_apartOf_76, k_X11_apartOf_77, k_X11_apartOf_78, k_X11_apartOf_79, k_X11_apartOf_80, k_X11_apartOf_81, k_X11_apartOf_82, k_X11_apartOf_83, k_X11_apartOf_84, k_X11_apartOf_85, k_X11_apartOf_86, k_X11_apartOf_87, k_X11_apartOf_88, oE_some, Int.reduceToNat, Nat.reduceAdd, true_and, and_true, List.length_cons, List.length_nil, Option.toList_some, Option.toList_none, List.cons_append, List.nil_append, Nat.reduceLeDiff, Nat.le_refl, wdS_nil, wdS_i, wdS_l, wdS_r, wdS_n, wdS_s, show w32 2 = 2 from rfl, Int.lt_irrefl, ei, ↓reduceIte]
    · rw [bfs_stop (fun q => c q.2)]
      have cc : (st.getD to 0 < 0) = False := eq_false c
      refine ⟨h, li, st, qu, w, Fr_refl h, fun R => ?_⟩
      rw [AWh_k, k_X11_apartOf_18]
      simp only [AW_k, AWk_1, x_aload_0, x_aloads_0, x_getf, x_iload_2, x_callv_2, x_iald, x_ialds, x_if_ge, x_push_i, x_push_l, x_istore_5, x_ret, x_ret_i, x_ret_z, x_ret_l, x_ret_c, unl_i, unl_l, unl_q, unl_r, unl_s, unl_n, k_X11_apartOf_18, k_X11_apartOf_19, k_X11_apartOf_20, k_X11_apartOf_21, k_X11_apartOf_22, k_X11_apartOf_23, k_X11_apartOf_24, k_X11_apartOf_25, k_X11_apartOf_26, k_X11_apartOf_88, k_X11_apartOf_89, k_X11_apartOf_90, k_X11_apartOf_91, k_X11_apartOf_92, k_X11_apartOf_93, k_X11_apartOf_94, oE_some, Int.reduceToNat, Nat.reduceAdd, true_and, and_true, List.length_cons, List.length_nil, Option.toList_some, Option.toList_none, List.cons_append, List.nil_append, Nat.reduceLeDiff, Nat.le_refl, wdS_nil, wdS_i, wdS_l, wdS_r, wdS_n, wdS_s, cM w.1.1, w.2.2.1.1, w.2.2.2.1.1, j2, rk, w32_nat bt, Int.toNat_natCast, w32_id r1 r2, cc, ↓reduceIte]
