/-! ===== the search, the ways up ===== -/
theorem w32_tn {n : Nat} (h : n < 2147483648) : (w32 (n : Int)).toNat = n := by rw [w32_nat h, Int.toNat_natCast]
theorem inB_n {k n : Nat} (hk : k < n) (hn : n < 2147483648) : inB (k : Int) n := inB_of rfl hk hn
theorem drop_getD {ns : List Nat} {k : Nat} (h : k < ns.length) : ns.drop k = ns.getD k 0 :: ns.drop (k + 1) := by
  rw [List.drop_eq_getElem_cons h, List.getD_eq_getElem?_getD, List.getElem?_eq_getElem h]
  rfl
theorem bInv_add {st : List Int} {qs : List Nat} {x fr : Nat} (h : bInv st qs) (hx : x < 120) (hn : st.getD x 0 < 0) (hf : fr ∈ qs) : bInv (st.set x (st.getD fr 0 + 1)) (qs ++ [x]) := by
  obtain ⟨a1, a2, a3, a4⟩ := h
  have hf2 := a2 fr hf
  have hf3 := a4 fr hf2.1
  have hne : fr ≠ x := fun e => by rw [e] at hf2; omega
  refine ⟨by rw [List.length_set]; exact a1, ?_, ?_, ?_⟩
  · intro y hy
    rw [getD_set (by omega)]
    rcases List.mem_append.mp hy with e | e
    · have := a2 y e
      refine ⟨this.1, ?_⟩
      split
      · omega
      · exact this.2
    · rw [List.mem_singleton] at e
      subst e
      rw [if_pos rfl]
      exact ⟨hx, by omega⟩
  · rw [List.length_append, List.length_singleton]
    have := cnt_one (f := fun y => decide (0 ≤ st.getD y 0)) (g := fun y => decide (0 ≤ (st.set x (st.getD fr 0 + 1)).getD y 0)) hx (by simp only [decide_eq_false_iff_not]; omega) (by
      show decide (0 ≤ (st.set x (st.getD fr 0 + 1)).getD x 0) = true
      rw [getD_set (by omega), if_pos rfl, decide_eq_true_iff]; omega) (fun y hy => by
      show _ = decide (0 ≤ (st.set x (st.getD fr 0 + 1)).getD y 0)
      rw [getD_set (by omega), if_neg (fun e => hy e.symm)])
    omega
  · intro y hy
    rw [getD_set (by omega), List.length_append, List.length_singleton]
    have := a4 y hy
    split <;> omega
theorem rch_cons (fr x : Nat) (ns : List Nat) (st : List Int) (qs : List Nat) : rch fr (x :: ns) st qs = if st.getD x 0 < 0 then rch fr ns (st.set x (st.getD fr 0 + 1)) (qs ++ [x]) else rch fr ns st qs := rfl
theorem rch_inv {fr : Nat} : ∀ {ns : List Nat} {st : List Int} {qs : List Nat}, bInv st qs → (∀ y ∈ ns, y < 120) → fr ∈ qs → bInv (rch fr ns st qs).1 (rch fr ns st qs).2 ∧ (∃ t, (rch fr ns st qs).2 = qs ++ t) := by
  intro ns
  induction ns with
  | nil => intro st qs h _ _; exact ⟨h, [], by simp [rch]⟩
  | cons x ns ih =>
    intro st qs h hb hf
    rw [rch_cons]
    split
    · next hn =>
      obtain ⟨i1, t, i2⟩ := ih (bInv_add h (hb x (List.mem_cons_self ..)) hn hf) (fun y hy => hb y (List.mem_cons_of_mem _ hy)) (List.mem_append_left _ hf)
      exact ⟨i1, [x] ++ t, by rw [i2, List.append_assoc]⟩
    · exact ih h (fun y hy => hb y (List.mem_cons_of_mem _ hy)) hf
theorem pre_app {q : List Int} {qs : List Nat} {x N : Nat} (h : pre q qs) (hq : q.length = N) (hl : qs.length < N) : pre (q.set qs.length (x : Int)) (qs ++ [x]) := by
  intro k hk
  rw [List.length_append, List.length_singleton] at hk
  rw [getD_set (by omega)]
  by_cases e : qs.length = k
  · rw [if_pos e, List.getD_eq_getElem?_getD, List.getElem?_append_right (by omega), ← e, Nat.sub_self]; rfl
  · rw [if_neg e, List.getD_eq_getElem?_getD (l := qs ++ [x]), List.getElem?_append_left (by omega), ← List.getD_eq_getElem?_getD]
    exact h k (by omega)
theorem cnt_full {f : Nat → Bool} {x n : Nat} (hx : x < n) (h : f x = false) : cnt f n < n := by
  have := cnt_lt (f := f) (g := fun _ => true) (n := n) (fun _ _ _ => rfl) hx h rfl
  have h2 := (cnt_in (fun _ => true) n).2
  omega
set_option maxHeartbeats 16000000 in
theorem c9_reach (d : Nat) {hp : HP} {w fr : Nat} {l st q : List Int} {ns qs : List Nat} (hW : WK hp w l st q) (hp1 : pre l ns) (hn6 : ns.length ≤ 6) (hb : ∀ y ∈ ns, y < 120) (hq : pre q qs) (hI : bInv st qs) (hf : fr ∈ qs) : ∃ h' q', WK h' w l (rch fr ns st qs).1 q' ∧ Fr w (w + 4) hp h' ∧ pre q' (rch fr ns st qs).2 ∧ ∀ R : PO, callD (d + 1) 96 [mR w, mI (fr : Int), mI (ns.length : Int), mI (qs.length : Int)] hp R ↔ R (some (mI ((rch fr ns st qs).2.length : Int))) h' := by
  have key : ∀ (m k : Nat) (st q : List Int) (qs : List Nat) (h : HP) (q0 : Nat), k + m = ns.length → WK h w l st q → pre q qs → bInv st qs → fr ∈ qs → ∃ h' q', WK h' w l (rch fr (ns.drop k) st qs).1 q' ∧ Fr w (w + 4) h h' ∧ pre q' (rch fr (ns.drop k) st qs).2 ∧ ∀ R : PO, AWh d [] 96 R 4 [some (mR w), some (mI (fr : Int)), some (mI (ns.length : Int)), some (mI (q0 : Int)), some (mI (qs.length : Int)), some (mI (k : Int))] [] h (0, 0) ↔ R (some (mI ((rch fr (ns.drop k) st qs).2.length : Int))) h' := by
    intro m
    induction m with
    | zero =>
      intro k st q qs h q0 hk hW hq hI hf
      rw [List.drop_eq_nil_of_le (by omega)]
      refine ⟨h, q, hW, Fr_refl h, hq, fun R => ?_⟩
      rw [AWh_k, k_X9_reach_4]
      simp only [AW_k, AWk_1, x_iload_3, x_istore_4, x_push_i, x_push_l, x_istore_5, x_iload_5, x_iload_2, x_icmp_ge, x_aload_0, x_aloads_0, x_getf, x_iald, x_ialds, x_if_ge, x_iload_1, x_iadd, x_iast, x_iload_4, x_iinc_4, x_iinc_5, x_goto, x_ret, x_ret_i, x_ret_z, x_ret_l, x_ret_c, unl_i, unl_l, unl_q, unl_r, unl_s, unl_n, k_X9_reach_0, k_X9_reach_1, k_X9_reach_2, k_X9_reach_3, k_X9_reach_4, k_X9_reach_5, k_X9_reach_6, k_X9_reach_7, k_X9_reach_8, k_X9_reach_9, k_X9_reach_10, k_X9_reach_11, k_X9_reach_12, k_X9_reach_13, k_X9_reach_14, k_X9_reach_15, k_X9_reach_16, k_X9_reach_17, k_X9_reach_18, k_X9_reach_19, k_X9_reach_20, k_X9_reach_21, k_X9_reach_22, k_X9_reach_23, k_X9_reach_24, k_X9_reach_25, k_X9_reach_26, k_X9_reach_27, k_X9_reach_28, k_X9_reach_29, k_X9_reach_30, k_X9_reach_31, k_X9_reach_32, k_X9_reach_33, k_X9_reach_34, k_X9_reach_35, k_X9_reach_36, k_X9_reach_37, k_X9_reach_38, k_X9_reach_39, k_X9_reach_40, oE_some, Int.reduceToNat, Nat.reduceAdd, true_and, and_true, List.length_cons, List.length_nil, Option.toList_some, Option.toList_none, List.cons_append, List.nil_append, Nat.reduceLeDiff, Nat.le_refl, wdS_nil, wdS_i, wdS_l, wdS_r, wdS_n, wdS_s]
      rw [w32_nat (show k < 2147483648 by omega), w32_nat (show ns.length < 2147483648 by omega), if_neg (by omega)]
      exact Iff.rfl
    | succ m ih =>
      intro k st q qs h q0 hk hW hq hI hf
      have hkl : k < ns.length := by omega
      have hx : ns.getD k 0 < 120 := hb _ (getD_mem hkl)
      have hst := hI.2.2.2 (ns.getD k 0) hx
      have hql := bInv_len hI
      have hfr := (hI.2.1 fr hf).1
      have hl6 := hW.2.2.2.2.1
      have hl120 := hW.2.2.2.2.2.1
      have hq120 := hW.2.2.2.2.2.2
      have bk : k < 2147483648 := by omega
      have bn : ns.length < 2147483648 := by omega
      have bx : ns.getD k 0 < 2147483648 := by omega
      have hf120 := (hI.2.1 fr hf).1
      have bf : fr < 2147483648 := by omega
      have bq : qs.length < 2147483648 := by omega
      have ck : (k : Int) < (ns.length : Int) := by omega
      have j1 : k < l.length := by omega
      have j2 : ns.getD k 0 < st.length := by omega
      have j3 : fr < st.length := by omega
      have L1 : l.length < 2147483648 := by omega
      have L2 : st.length < 2147483648 := by omega
      have L3 : q.length < 2147483648 := by omega
      have r1 : -2147483648 ≤ st.getD (ns.getD k 0) 0 := by omega
      have r2 : st.getD (ns.getD k 0) 0 < 2147483648 := by omega
      have em : k + 1 + m = ns.length := by omega
      rw [drop_getD hkl, rch_cons]
      by_cases hn : st.getD (ns.getD k 0) 0 < 0
      · rw [if_pos hn]
        have hlt : qs.length < 120 := by
          have := hI.2.2.1
          have := cnt_full (f := fun x => decide (0 ≤ st.getD x 0)) hx (by simp only [decide_eq_false_iff_not]; omega)
          omega
        have hW2 := WK_3 (l' := q.set qs.length ((ns.getD k 0 : Nat) : Int)) (WK_2 (l' := st.set (ns.getD k 0) (st.getD fr 0 + 1)) hW (by rw [List.length_set]; exact hl120)) (by rw [List.length_set]; exact hq120)
        obtain ⟨h', q', i1, i2, i3, i4⟩ := ih (k + 1) _ _ _ _ q0 em hW2 (pre_app hq hq120 hlt) (bInv_add hI hx hn hf) (List.mem_append_left _ hf)
        refine ⟨h', q', i1, Fr_trans (Fr_trans (Fr_pA (by omega) (by omega)) (Fr_pA (by omega) (by omega))) i2, i3, fun R => ?_⟩
        have i4 := i4 R
        rw [List.length_append, List.length_singleton] at i4
        have j4 : qs.length < q.length := by omega
        have nn : ¬ (0 ≤ st.getD (ns.getD k 0) 0) := by omega
        have g1 : l.getD (w32 (k : Int)).toNat 0 = ((ns.getD k 0 : Nat) : Int) := by rw [w32_tn bk]; exact hp1 k hkl
        have hWa := WK_2 (l' := st.set (ns.getD k 0) (st.getD fr 0 + 1)) hW (by rw [List.length_set]; exact hl120)
        rw [AWh_k, k_X9_reach_4]
        simp only [AW_k, AWk_1, x_iload_3, x_istore_4, x_push_i, x_push_l, x_istore_5, x_iload_5, x_iload_2, x_icmp_ge, x_aload_0, x_aloads_0, x_getf, x_iald, x_ialds, x_if_ge, x_iload_1, x_iadd, x_iast, x_iload_4, x_iinc_4, x_iinc_5, x_goto, x_ret, x_ret_i, x_ret_z, x_ret_l, x_ret_c, unl_i, unl_l, unl_q, unl_r, unl_s, unl_n, k_X9_reach_0, k_X9_reach_1, k_X9_reach_2, k_X9_reach_3, k_X9_reach_4, k_X9_reach_5, k_X9_reach_6, k_X9_reach_7, k_X9_reach_8, k_X9_reach_9, k_X9_reach_10, k_X9_reach_11, k_X9_reach_12, k_X9_reach_13, k_X9_reach_14, k_X9_reach_15, k_X9_reach_16, k_X9_reach_17, k_X9_reach_18, k_X9_reach_19, k_X9_reach_20, k_X9_reach_21, k_X9_reach_22, k_X9_reach_23, k_X9_reach_24, k_X9_reach_25, k_X9_reach_26, k_X9_reach_27, k_X9_reach_28, k_X9_reach_29, k_X9_reach_30, k_X9_reach_31, k_X9_reach_32, k_X9_reach_33, k_X9_reach_34, k_X9_reach_35, k_X9_reach_36, k_X9_reach_37, k_X9_reach_38, k_X9_reach_39, k_X9_reach_40, oE_some, Int.reduceToNat, Nat.reduceAdd, true_and, and_true, List.length_cons, List.length_nil, Option.toList_some, Option.toList_none, List.cons_append, List.nil_append, Nat.reduceLeDiff, Nat.le_refl, wdS_nil, wdS_i, wdS_l, wdS_r, wdS_n, wdS_s, hW.1.1, hW.1.2.1, hW.1.2.2, hW.2.1, hW.2.2.1, hW.2.2.2.1, hWa.1.1, hWa.1.2.1, hWa.1.2.2, hWa.2.1, hWa.2.2.1, hWa.2.2.2.1, inB_n j1 L1, g1, inB_n j2 L2, w32_tn bx, inB_n j3 L2, w32_tn bf, inB_n j4 L3, w32_tn bq]
        rw [w32_nat bk, w32_nat bn, if_pos ck, w32_id r1 r2, if_pos hn]
        exact i4
      · rw [if_neg hn]
        obtain ⟨h', q', i1, i2, i3, i4⟩ := ih (k + 1) _ _ _ _ q0 em hW hq hI hf
        refine ⟨h', q', i1, i2, i3, fun R => ?_⟩
        have i4 := i4 R
        have nn : 0 ≤ st.getD (ns.getD k 0) 0 := by omega
        have g1 : l.getD (w32 (k : Int)).toNat 0 = ((ns.getD k 0 : Nat) : Int) := by rw [w32_tn bk]; exact hp1 k hkl
        rw [AWh_k, k_X9_reach_4]
        simp only [AW_k, AWk_1, x_iload_3, x_istore_4, x_push_i, x_push_l, x_istore_5, x_iload_5, x_iload_2, x_icmp_ge, x_aload_0, x_aloads_0, x_getf, x_iald, x_ialds, x_if_ge, x_iload_1, x_iadd, x_iast, x_iload_4, x_iinc_4, x_iinc_5, x_goto, x_ret, x_ret_i, x_ret_z, x_ret_l, x_ret_c, unl_i, unl_l, unl_q, unl_r, unl_s, unl_n, k_X9_reach_0, k_X9_reach_1, k_X9_reach_2, k_X9_reach_3, k_X9_reach_4, k_X9_reach_5, k_X9_reach_6, k_X9_reach_7, k_X9_reach_8, k_X9_reach_9, k_X9_reach_10, k_X9_reach_11, k_X9_reach_12, k_X9_reach_13, k_X9_reach_14, k_X9_reach_15, k_X9_reach_16, k_X9_reach_17, k_X9_reach_18, k_X9_reach_19, k_X9_reach_20, k_X9_reach_21, k_X9_reach_22, k_X9_reach_23, k_X9_reach_24, k_X9_reach_25, k_X9_reach_26, k_X9_reach_27, k_X9_reach_28, k_X9_reach_29, k_X9_reach_30, k_X9_reach_31, k_X9_reach_32, k_X9_reach_33, k_X9_reach_34, k_X9_reach_35, k_X9_reach_36, k_X9_reach_37, k_X9_reach_38, k_X9_reach_39, k_X9_reach_40, oE_some, Int.reduceToNat, Nat.reduceAdd, true_and, and_true, List.length_cons, List.length_nil, Option.toList_some, Option.toList_none, List.cons_append, List.nil_append, Nat.reduceLeDiff, Nat.le_refl, wdS_nil, wdS_i, wdS_l, wdS_r, wdS_n, wdS_s, hW.1.1, hW.1.2.1, hW.1.2.2, hW.2.1, hW.2.2.1, hW.2.2.2.1, inB_n j1 L1, g1, inB_n j2 L2, w32_tn bx]
        rw [w32_nat bk, w32_nat bn, if_pos ck, w32_id r1 r2, if_neg hn]
        exact i4
  obtain ⟨h', q', i1, i2, i3, i4⟩ := key ns.length 0 st q qs hp qs.length (by omega) hW hq hI hf
  rw [List.drop_zero] at i1 i3 i4
  refine ⟨h', q', i1, i2, i3, fun R => ?_⟩
  rw [callD_k]; simp only [entL_i, entL_l, entL_q, entL_s, entL_nil, n_X9_reach, u_X9_reach, m_X9_reach, rep_2, List.cons_append, List.nil_append, List.append_nil, List.length_cons, List.length_nil, Nat.reduceAdd, true_and]
  simp only [AW_k, AWk_1, x_iload_3, x_istore_4, x_push_i, x_push_l, x_istore_5, x_iload_5, x_iload_2, x_icmp_ge, x_aload_0, x_aloads_0, x_getf, x_iald, x_ialds, x_if_ge, x_iload_1, x_iadd, x_iast, x_iload_4, x_iinc_4, x_iinc_5, x_goto, x_ret, x_ret_i, x_ret_z, x_ret_l, x_ret_c, unl_i, unl_l, unl_q, unl_r, unl_s, unl_n, k_X9_reach_0, k_X9_reach_1, k_X9_reach_2, k_X9_reach_3, k_X9_reach_4, k_X9_reach_5, k_X9_reach_6, k_X9_reach_7, k_X9_reach_8, k_X9_reach_9, k_X9_reach_10, k_X9_reach_11, k_X9_reach_12, k_X9_reach_13, k_X9_reach_14, k_X9_reach_15, k_X9_reach_16, k_X9_reach_17, k_X9_reach_18, k_X9_reach_19, k_X9_reach_20, k_X9_reach_21, k_X9_reach_22, k_X9_reach_23, k_X9_reach_24, k_X9_reach_25, k_X9_reach_26, k_X9_reach_27, k_X9_reach_28, k_X9_reach_29, k_X9_reach_30, k_X9_reach_31, k_X9_reach_32, k_X9_reach_33, k_X9_reach_34, k_X9_reach_35, k_X9_reach_36, k_X9_reach_37, k_X9_reach_38, k_X9_reach_39, k_X9_reach_40, oE_some, Int.reduceToNat, Nat.reduceAdd, true_and, and_true, List.length_cons, List.length_nil, Option.toList_some, Option.toList_none, List.cons_append, List.nil_append, Nat.reduceLeDiff, Nat.le_refl, wdS_nil, wdS_i, wdS_l, wdS_r, wdS_n, wdS_s]
  exact i4 R
theorem bfs_succ (n : Nat) (G : BitVec 64) (to f i : Nat) (st : List Int) (qs : List Nat) : bfs n G to (f + 1) i st qs = if i < qs.length ∧ st.getD to 0 < 0 then
      bfs n G to f (i + 1) (rch (qs.getD i 0) (nr1 n G (qs.getD i 0)) (rch (qs.getD i 0) (nr0 n G (qs.getD i 0)) st qs).1 (rch (qs.getD i 0) (nr0 n G (qs.getD i 0)) st qs).2).1 (rch (qs.getD i 0) (nr1 n G (qs.getD i 0)) (rch (qs.getD i 0) (nr0 n G (qs.getD i 0)) st qs).1 (rch (qs.getD i 0) (nr0 n G (qs.getD i 0)) st qs).2).2
    else st.getD to 0 := rfl
theorem FC_5 {n : Nat} (h : n ≤ 5) : FC n ≤ 120 := by
  have : ∀ n, n ≤ 5 → FC n ≤ 120 := by decide
  exact this n h
theorem bfs_stop {n to f i : Nat} {G : BitVec 64} {st : List Int} {qs : List Nat} (h : ¬ (i < qs.length ∧ st.getD to 0 < 0)) : bfs n G to f i st qs = st.getD to 0 := by
  cases f with
  | zero => rfl
  | succ f => rw [bfs_succ, if_neg h]
theorem rch_bd {fr N : Nat} : ∀ {ns : List Nat} {st : List Int} {qs : List Nat}, (∀ y ∈ ns, y < N) → (∀ y ∈ qs, y < N) → ∀ y ∈ (rch fr ns st qs).2, y < N := by
  intro ns
  induction ns with
  | nil => intro st qs _ h; exact h
  | cons x ns ih =>
    intro st qs hb h
    rw [rch_cons]
    split
    · apply ih (fun y hy => hb y (List.mem_cons_of_mem _ hy))
      intro y hy
      rcases List.mem_append.mp hy with e | e
      · exact h y e
      · rw [List.mem_singleton] at e; rw [e]; exact hb x (List.mem_cons_self ..)
    · exact ih (fun y hy => hb y (List.mem_cons_of_mem _ hy)) h
theorem getD_app {qs t : List Nat} {i : Nat} (h : i < qs.length) : (qs ++ t).getD i 0 = qs.getD i 0 := by
  rw [List.getD_eq_getElem?_getD, List.getElem?_append_left h, ← List.getD_eq_getElem?_getD]
theorem bd_120 {N : Nat} {ns : List Nat} (h : ∀ y ∈ ns, y < N) (hN : N ≤ 120) : ∀ y ∈ ns, y < 120 := fun y hy => Nat.lt_of_lt_of_le (h y hy) hN
set_option maxHeartbeats 16000000 in
theorem c9_loop (d : Nat) {w ra n to : Nat} {G : BitVec 64} {i0 o0 : Int} (h5 : n ≤ 5) (hto : to < FC n) (ho : w + 4 ≤ ra ∨ ra + 16 ≤ w) : ∀ (f i : Nat) (l st q : List Int) (qs : List Nat) (h : HP), i + f = 121 → RWS h ra n → WK h w l st q → pre q qs → bInv st qs → (∀ y ∈ qs, y < FC n) → ∃ h' l' st' q', WK h' w l' st' q' ∧ Fr w (w + 4) h h' ∧ ∀ R : PO, AWh (d + 3) [] 95 R 29 [some (mR w), some (mR ra), some (mL G), none, some (mI i0), some (mI o0), some (mI (to : Int)), some (mI (qs.length : Int)), some (mI (i : Int))] [] h (0, 0) ↔ R (some (mI (bfs n G to f i st qs))) h' := by
  intro f
  induction f with
  | zero =>
    intro i l st q qs h hf hR hW hq hI hb
    have b1 := FC_5 h5
    have b2 := bInv_len hI
    have b3 := hI.1
    have bi : i < 2147483648 := by omega
    have bq : qs.length < 2147483648 := by omega
    have bt : to < 2147483648 := by omega
    have j1 : to < st.length := by omega
    have L1 : st.length < 2147483648 := by omega
    have cc : ¬ (i : Int) < 120 := by omega
    refine ⟨h, l, st, q, hW, Fr_refl h, fun R => ?_⟩
    rw [AWh_k, k_X9_stepsBetween_29]
    simp only [AW_k, AWk_1, x_aload_1, x_aloads_1, x_iload_5, x_lload_2, x_callv_3, x_istore_6, x_aload_0, x_aloads_0, x_getf, x_push_i, x_push_l, x_call_2, x_iload_4, x_iast, x_iald, x_ialds, x_istore_7, x_istore_8, x_iload_8, x_icmp_ge, x_iload_7, x_iload_6, x_if_ge, x_callv_5, x_callv_4, x_iinc_8, x_goto, x_ret, x_ret_i, x_ret_z, x_ret_l, x_ret_c, unl_i, unl_l, unl_q, unl_r, unl_s, unl_n, k_X9_stepsBetween_0, k_X9_stepsBetween_1, k_X9_stepsBetween_2, k_X9_stepsBetween_3, k_X9_stepsBetween_4, k_X9_stepsBetween_5, k_X9_stepsBetween_6, k_X9_stepsBetween_7, k_X9_stepsBetween_8, k_X9_stepsBetween_9, k_X9_stepsBetween_10, k_X9_stepsBetween_11, k_X9_stepsBetween_12, k_X9_stepsBetween_13, k_X9_stepsBetween_14, k_X9_stepsBetween_15, k_X9_stepsBetween_16, k_X9_stepsBetween_17, k_X9_stepsBetween_18, k_X9_stepsBetween_19, k_X9_stepsBetween_20, k_X9_stepsBetween_21, k_X9_stepsBetween_22, k_X9_stepsBetween_23, k_X9_stepsBetween_24, k_X9_stepsBetween_25, k_X9_stepsBetween_26, k_X9_stepsBetween_27, k_X9_stepsBetween_28, k_X9_stepsBetween_29, k_X9_stepsBetween_30, k_X9_stepsBetween_31, k_X9_stepsBetween_32, k_X9_stepsBetween_33, k_X9_stepsBetween_34, k_X9_stepsBetween_35, k_X9_stepsBetween_36, k_X9_stepsBetween_37, k_X9_stepsBetween_38, k_X9_stepsBetween_39, k_X9_stepsBetween_40, k_X9_stepsBetween_41, k_X9_stepsBetween_42, k_X9_stepsBetween_43, k_X9_stepsBetween_44, k_X9_stepsBetween_45, k_X9_stepsBetween_46, k_X9_stepsBetween_47, k_X9_stepsBetween_48, k_X9_stepsBetween_49, k_X9_stepsBetween_50, k_X9_stepsBetween_51, k_X9_stepsBetween_52, k_X9_stepsBetween_53, k_X9_stepsBetween_54, k_X9_stepsBetween_55, k_X9_stepsBetween_56, k_X9_stepsBetween_57, k_X9_stepsBetween_58, k_X9_stepsBetween_59, k_X9_stepsBetween_60, k_X9_stepsBetween_61, k_X9_stepsBetween_62, k_X9_stepsBetween_63, k_X9_stepsBetween_64, k_X9_stepsBetween_65, k_X9_stepsBetween_66, k_X9_stepsBetween_67, k_X9_stepsBetween_68, k_X9_stepsBetween_69, k_X9_stepsBetween_70, k_X9_stepsBetween_71, k_X9_stepsBetween_72, k_X9_stepsBetween_73, k_X9_stepsBetween_74, k_X9_stepsBetween_75, k_X9_stepsBetween_76, k_X9_stepsBetween_77, k_X9_stepsBetween_78, k_X9_stepsBetween_79, k_X9_stepsBetween_80, oE_some, Int.reduceToNat, Nat.reduceAdd, true_and, and_true, List.length_cons, List.length_nil, Option.toList_some, Option.toList_none, List.cons_append, List.nil_append, Nat.reduceLeDiff, Nat.le_refl, wdS_nil, wdS_i, wdS_l, wdS_r, wdS_n, wdS_s, hW.1.2.1, hW.2.2.1, inB_n j1 L1, w32_tn bt]
    rw [w32_nat bi, show w32 120 = 120 from rfl, if_neg cc]
    exact Iff.rfl
  | succ f ih =>
    intro i l st q qs h hf hR hW hq hI hb
    have h1 := rw_1 hR
    have h6 := rw_6 hR
    have b1 := FC_5 h5
    have b2 := bInv_len hI
    have b3 := hI.1
    have bi : i < 2147483648 := by omega
    have bq : qs.length < 2147483648 := by omega
    have bt : to < 2147483648 := by omega
    have j1 : to < st.length := by omega
    have L1 : st.length < 2147483648 := by omega
    have hst := hI.2.2.2 to (by omega)
    have r1 : -2147483648 ≤ st.getD to 0 := by omega
    have r2 : st.getD to 0 < 2147483648 := by omega
    by_cases hc : i < qs.length ∧ st.getD to 0 < 0
    · rw [bfs_succ, if_pos hc]
      have cc : (i : Int) < (qs.length : Int) := by omega
      have c120 : (i : Int) < 120 := by omega
      have hm : qs.getD i 0 ∈ qs := getD_mem hc.1
      have hbf := hb _ hm
      have hq120 := hW.2.2.2.2.2.2
      have j2 : i < q.length := by omega
      have L2 : q.length < 2147483648 := by omega
      have eq1 : q.getD i 0 = ((qs.getD i 0 : Nat) : Int) := hq i hc.1
      generalize hx : qs.getD i 0 = x at hm hbf eq1
      obtain ⟨l1, p1, p2, p3⟩ := c9_findNear0 (G := G) d hR hW hbf ho
      have hW1 := WK_1 (l' := l1) hW p2
      have fr1 : Fr w (w + 4) h (pA h (w + 1) l1) := Fr_pA (by omega) (by omega)
      have hR1 := RWS_Fr hR fr1 (by omega)
      have hn0 : (nr0 n G x).length < 6 := nr0_len h6
      have hn1 : (nr1 n G x).length < 6 := nr1_len h6
      obtain ⟨h2, q2, s1, s2, s3, s4⟩ := c9_reach (d + 2) hW1 p1 (by omega) (bd_120 (nr0_bd h1 h6 hbf) b1) hq hI hm
      obtain ⟨hI2, t2, ht2⟩ := rch_inv (fr := x) hI (bd_120 (nr0_bd (G := G) h1 h6 hbf) b1) hm
      have hb2 := rch_bd (fr := x) (st := st) (nr0_bd (G := G) h1 h6 hbf) hb
      have hm2 : x ∈ (rch x (nr0 n G x) st qs).2 := by rw [ht2]; exact List.mem_append_left _ hm
      have hR2 := RWS_Fr hR1 s2 (by omega)
      have eq2 : q2.getD i 0 = ((x : Nat) : Int) := by
        rw [s3 i (by rw [ht2, List.length_append]; omega), ht2, getD_app hc.1, hx]
      have hq2l := s1.2.2.2.2.2.2
      have j3 : i < q2.length := by omega
      have L3 : q2.length < 2147483648 := by omega
      generalize hst2 : (rch x (nr0 n G x) st qs).1 = st2 at s1 hI2
      generalize hqs2 : (rch x (nr0 n G x) st qs).2 = qs2 at s3 s4 hI2 hb2 hm2
      obtain ⟨l3, p4, p5, p6⟩ := c9_findNear1 (G := G) d hR2 s1 hbf ho
      have hW3 := WK_1 (l' := l3) s1 p5
      have fr3 : Fr w (w + 4) h2 (pA h2 (w + 1) l3) := Fr_pA (by omega) (by omega)
      have hR3 := RWS_Fr hR2 fr3 (by omega)
      obtain ⟨h4, q4, s5, s6, s7, s8⟩ := c9_reach (d + 2) hW3 p4 (by omega) (bd_120 (nr1_bd h1 h6 hbf) b1) s3 hI2 hm2
      obtain ⟨hI4, t4, ht4⟩ := rch_inv (fr := x) hI2 (bd_120 (nr1_bd (G := G) h1 h6 hbf) b1) hm2
      have hb4 := rch_bd (fr := x) (st := st2) (nr1_bd (G := G) h1 h6 hbf) hb2
      have hR4 := RWS_Fr hR3 s6 (by omega)
      generalize hst4 : (rch x (nr1 n G x) st2 qs2).1 = st4 at s5 hI4
      generalize hqs4 : (rch x (nr1 n G x) st2 qs2).2 = qs4 at s7 s8 hI4 hb4
      obtain ⟨h', l', st', q', u1, u2, u3⟩ := ih (i + 1) l3 st4 q4 qs4 h4 (by omega) hR4 s5 s7 hI4 hb4
      refine ⟨h', l', st', q', u1, Fr_trans (Fr_trans (Fr_trans (Fr_trans fr1 s2) fr3) s6) u2, fun R => ?_⟩
      have g1 : q.getD (w32 (i : Int)).toNat 0 = (x : Int) := by rw [w32_tn bi]; exact eq1
      have g2 : q2.getD (w32 (i : Int)).toNat 0 = (x : Int) := by rw [w32_tn bi]; exact eq2
      have g3 : (pA h2 (w + 1) l3) = (pA h2 (w + 1) l3) := rfl
      rw [AWh_k, k_X9_stepsBetween_29]
      simp only [AW_k, AWk_1, x_aload_1, x_aloads_1, x_iload_5, x_lload_2, x_callv_3, x_istore_6, x_aload_0, x_aloads_0, x_getf, x_push_i, x_push_l, x_call_2, x_iload_4, x_iast, x_iald, x_ialds, x_istore_7, x_istore_8, x_iload_8, x_icmp_ge, x_iload_7, x_iload_6, x_if_ge, x_callv_5, x_callv_4, x_iinc_8, x_goto, x_ret, x_ret_i, x_ret_z, x_ret_l, x_ret_c, unl_i, unl_l, unl_q, unl_r, unl_s, unl_n, k_X9_stepsBetween_0, k_X9_stepsBetween_1, k_X9_stepsBetween_2, k_X9_stepsBetween_3, k_X9_stepsBetween_4, k_X9_stepsBetween_5, k_X9_stepsBetween_6, k_X9_stepsBetween_7, k_X9_stepsBetween_8, k_X9_stepsBetween_9, k_X9_stepsBetween_10, k_X9_stepsBetween_11, k_X9_stepsBetween_12, k_X9_stepsBetween_13, k_X9_stepsBetween_14, k_X9_stepsBetween_15, k_X9_stepsBetween_16, k_X9_stepsBetween_17, k_X9_stepsBetween_18, k_X9_stepsBetween_19, k_X9_stepsBetween_20, k_X9_stepsBetween_21, k_X9_stepsBetween_22, k_X9_stepsBetween_23, k_X9_stepsBetween_24, k_X9_stepsBetween_25, k_X9_stepsBetween_26, k_X9_stepsBetween_27, k_X9_stepsBetween_28, k_X9_stepsBetween_29, k_X9_stepsBetween_30, k_X9_stepsBetween_31, k_X9_stepsBetween_32, k_X9_stepsBetween_33, k_X9_stepsBetween_34, k_X9_stepsBetween_35, k_X9_stepsBetween_36, k_X9_stepsBetween_37, k_X9_stepsBetween_38, k_X9_stepsBetween_39, k_X9_stepsBetween_40, k_X9_stepsBetween_41, k_X9_stepsBetween_42, k_X9_stepsBetween_43, k_X9_stepsBetween_44, k_X9_stepsBetween_45, k_X9_stepsBetween_46, k_X9_stepsBetween_47, k_X9_stepsBetween_48, k_X9_stepsBetween_49, k_X9_stepsBetween_50, k_X9_stepsBetween_51, k_X9_stepsBetween_52, k_X9_stepsBetween_53, k_X9_stepsBetween_54, k_X9_stepsBetween_55, k_X9_stepsBetween_56, k_X9_stepsBetween_57, k_X9_stepsBetween_58, k_X9_stepsBetween_59, k_X9_stepsBetween_60, k_X9_stepsBetween_61, k_X9_stepsBetween_62, k_X9_stepsBetween_63, k_X9_stepsBetween_64, k_X9_stepsBetween_65, k_X9_stepsBetween_66, k_X9_stepsBetween_67, k_X9_stepsBetween_68, k_X9_stepsBetween_69, k_X9_stepsBetween_70, k_X9_stepsBetween_71, k_X9_stepsBetween_72, k_X9_stepsBetween_73, k_X9_stepsBetween_74, k_X9_stepsBetween_75, k_X9_stepsBetween_76, k_X9_stepsBetween_77, k_X9_stepsBetween_78, k_X9_stepsBetween_79, k_X9_stepsBetween_80, oE_some, Int.reduceToNat, Nat.reduceAdd, true_and, and_true, List.length_cons, List.length_nil, Option.toList_some, Option.toList_none, List.cons_append, List.nil_append, Nat.reduceLeDiff, Nat.le_refl, wdS_nil, wdS_i, wdS_l, wdS_r, wdS_n, wdS_s, hW.1.1, hW.1.2.1, hW.1.2.2, hW.2.2.1, hW.2.2.2.1, inB_n j1 L1, w32_tn bt, inB_n j2 L2, g1, gC_of hW.1.1, p3, gC_of hW1.1.1, s4, s1.1.2.2, s1.2.2.2.1, inB_n j3 L3, g2, gC_of s1.1.1, p6, gC_of hW3.1.1, s8]
      rw [w32_nat bi, w32_nat bq, show w32 120 = 120 from rfl, if_pos c120, if_pos cc, w32_id r1 r2, if_pos hc.2]
      exact u3 R
    · rw [bfs_stop hc]
      refine ⟨h, l, st, q, hW, Fr_refl h, fun R => ?_⟩
      rw [AWh_k, k_X9_stepsBetween_29]
      simp only [AW_k, AWk_1, x_aload_1, x_aloads_1, x_iload_5, x_lload_2, x_callv_3, x_istore_6, x_aload_0, x_aloads_0, x_getf, x_push_i, x_push_l, x_call_2, x_iload_4, x_iast, x_iald, x_ialds, x_istore_7, x_istore_8, x_iload_8, x_icmp_ge, x_iload_7, x_iload_6, x_if_ge, x_callv_5, x_callv_4, x_iinc_8, x_goto, x_ret, x_ret_i, x_ret_z, x_ret_l, x_ret_c, unl_i, unl_l, unl_q, unl_r, unl_s, unl_n, k_X9_stepsBetween_0, k_X9_stepsBetween_1, k_X9_stepsBetween_2, k_X9_stepsBetween_3, k_X9_stepsBetween_4, k_X9_stepsBetween_5, k_X9_stepsBetween_6, k_X9_stepsBetween_7, k_X9_stepsBetween_8, k_X9_stepsBetween_9, k_X9_stepsBetween_10, k_X9_stepsBetween_11, k_X9_stepsBetween_12, k_X9_stepsBetween_13, k_X9_stepsBetween_14, k_X9_stepsBetween_15, k_X9_stepsBetween_16, k_X9_stepsBetween_17, k_X9_stepsBetween_18, k_X9_stepsBetween_19, k_X9_stepsBetween_20, k_X9_stepsBetween_21, k_X9_stepsBetween_22, k_X9_stepsBetween_23, k_X9_stepsBetween_24, k_X9_stepsBetween_25, k_X9_stepsBetween_26, k_X9_stepsBetween_27, k_X9_stepsBetween_28, k_X9_stepsBetween_29, k_X9_stepsBetween_30, k_X9_stepsBetween_31, k_X9_stepsBetween_32, k_X9_stepsBetween_33, k_X9_stepsBetween_34, k_X9_stepsBetween_35, k_X9_stepsBetween_36, k_X9_stepsBetween_37, k_X9_stepsBetween_38, k_X9_stepsBetween_39, k_X9_stepsBetween_40, k_X9_stepsBetween_41, k_X9_stepsBetween_42, k_X9_stepsBetween_43, k_X9_stepsBetween_44, k_X9_stepsBetween_45, k_X9_stepsBetween_46, k_X9_stepsBetween_47, k_X9_stepsBetween_48, k_X9_stepsBetween_49, k_X9_stepsBetween_50, k_X9_stepsBetween_51, k_X9_stepsBetween_52, k_X9_stepsBetween_53, k_X9_stepsBetween_54, k_X9_stepsBetween_55, k_X9_stepsBetween_56, k_X9_stepsBetween_57, k_X9_stepsBetween_58, k_X9_stepsBetween_59, k_X9_stepsBetween_60, k_X9_stepsBetween_61, k_X9_stepsBetween_62, k_X9_stepsBetween_63, k_X9_stepsBetween_64, k_X9_stepsBetween_65, k_X9_stepsBetween_66, k_X9_stepsBetween_67, k_X9_stepsBetween_68, k_X9_stepsBetween_69, k_X9_stepsBetween_70, k_X9_stepsBetween_71, k_X9_stepsBetween_72, k_X9_stepsBetween_73, k_X9_stepsBetween_74, k_X9_stepsBetween_75, k_X9_stepsBetween_76, k_X9_stepsBetween_77, k_X9_stepsBetween_78, k_X9_stepsBetween_79, k_X9_stepsBetween_80, oE_some, Int.reduceToNat, Nat.reduceAdd, true_and, and_true, List.length_cons, List.length_nil, Option.toList_some, Option.toList_none, List.cons_append, List.nil_append, Nat.reduceLeDiff, Nat.le_refl, wdS_nil, wdS_i, wdS_l, wdS_r, wdS_n, wdS_s, hW.1.2.1, hW.2.2.1, inB_n j1 L1, w32_tn bt]
      rw [w32_nat bi, w32_nat bq, w32_id r1 r2, show w32 120 = 120 from rfl]
      by_cases e1 : i < qs.length
      · rw [if_pos (show (i : Int) < 120 by omega), if_pos (Int.ofNat_lt.mpr e1), if_neg (fun e2 => hc ⟨e1, e2⟩)]
      · rw [if_neg (fun e2 => e1 (Int.ofNat_lt.mp e2)), ite_self]
def apt (n : Nat) (G : BitVec 64) (i j : Nat) : Int := bfs n G (lst n G j) 121 0 ((List.replicate 120 (-1)).set (lst n G i) 0) [lst n G i]
theorem bInv_0 {x : Nat} (hx : x < 120) : bInv ((List.replicate 120 (-1 : Int)).set x 0) [x] := by
  have hg : ∀ y, ((List.replicate 120 (-1 : Int)).set x 0).getD y 0 = if x = y then 0 else (List.replicate 120 (-1 : Int)).getD y 0 := fun y => getD_set (by rw [List.length_replicate]; exact hx)
  have hr : ∀ y, y < 120 → (List.replicate 120 (-1 : Int)).getD y 0 = -1 := by
    intro y hy
    rw [List.getD_eq_getElem?_getD, List.getElem?_replicate, if_pos hy]; rfl
  refine ⟨by rw [List.length_set, List.length_replicate], ?_, ?_, ?_⟩
  · intro y hy
    rw [List.mem_singleton] at hy
    subst hy
    rw [hg, if_pos rfl]
    exact ⟨hx, Int.le_refl _⟩
  · have := cnt_one (f := fun _ => false) (g := fun y => decide (0 ≤ ((List.replicate 120 (-1 : Int)).set x 0).getD y 0) && decide (y < 120)) hx rfl (by
      show (decide _ && decide _) = true
      rw [hg, if_pos rfl, decide_eq_true hx]; rfl) (fun y hy => by
      show false = (decide _ && decide _)
      rw [hg, if_neg (fun e => hy e.symm)]
      by_cases h : y < 120
      · rw [hr y h]; rfl
      · rw [decide_eq_false h, Bool.and_false])
    rw [cnt_zero (fun _ _ => rfl)] at this
    rw [show ([x].length : Int) = 0 + 1 from rfl, ← this]
    apply cnt_congr
    intro k hk
    show (decide _ && decide _) = decide _
    rw [decide_eq_true hk, Bool.and_true]
  · intro y hy
    rw [hg]
    split
    · exact ⟨by decide, by show (0 : Int) < 1; decide⟩
    · rw [hr y hy]; exact ⟨by decide, by show (-1 : Int) < 1; decide⟩
set_option maxHeartbeats 16000000 in
theorem c9_stepsBetween (d : Nat) {hp : HP} {w ra n i j : Nat} {G : BitVec 64} {l st q : List Int} (hR : RWS hp ra n) (hW : WK hp w l st q) (h5 : n ≤ 5) (hi : i < FC n) (hj : j < FC n) (ho : w + 4 ≤ ra ∨ ra + 16 ≤ w) : ∃ h' l' st' q', WK h' w l' st' q' ∧ Fr w (w + 4) hp h' ∧ ∀ R : PO, callD (d + 4) 95 [mR w, mR ra, mL G, mI (i : Int), mI (j : Int)] hp R ↔ R (some (mI (apt n G i j))) h' := by
  have h1 := rw_1 hR
  have h6 := rw_6 hR
  have b1 := FC_5 h5
  have hl := lst_ok (G := G) h1 h6 hi
  have ht := lst_ok (G := G) h1 h6 hj
  have hst := hW.2.2.2.2.2.1
  have hqq := hW.2.2.2.2.2.2
  have hWa := WK_2 (l' := List.replicate 120 (-1)) hW (by rw [List.length_replicate])
  have hRa : RWS (pA hp (w + 2) (List.replicate 120 (-1))) ra n := RWS_Fr hR (Fr_pA (a := w) (b := w + 4) (by omega) (by omega)) (by omega)
  have hWb := WK_3 (l' := q.set 0 (lst n G i : Int)) hWa (by rw [List.length_set]; exact hqq)
  have hRb : RWS (pA (pA hp (w + 2) (List.replicate 120 (-1))) (w + 3) (q.set 0 (lst n G i : Int))) ra n := RWS_Fr hRa (Fr_pA (a := w) (b := w + 4) (by omega) (by omega)) (by omega)
  have hWc := WK_2 (l' := (List.replicate 120 (-1 : Int)).set (lst n G i) 0) hWb (by rw [List.length_set, List.length_replicate])
  have hRc : RWS (pA (pA (pA hp (w + 2) (List.replicate 120 (-1))) (w + 3) (q.set 0 (lst n G i : Int))) (w + 2) ((List.replicate 120 (-1 : Int)).set (lst n G i) 0)) ra n := RWS_Fr hRb (Fr_pA (a := w) (b := w + 4) (by omega) (by omega)) (by omega)
  have bl : lst n G i < 2147483648 := by omega
  have jl : lst n G i < (List.replicate 120 (-1 : Int)).length := by rw [List.length_replicate]; omega
  have Ll : (List.replicate 120 (-1 : Int)).length < 2147483648 := by rw [List.length_replicate]; decide
  have j0 : 0 < q.length := by omega
  have L0 : q.length < 2147483648 := by omega
  have j0' : 0 < (q.set 0 (lst n G i : Int)).length := by rw [List.length_set]; omega
  have L0' : (q.set 0 (lst n G i : Int)).length < 2147483648 := by rw [List.length_set]; omega
  have eg : (q.set 0 (lst n G i : Int)).getD 0 0 = (lst n G i : Int) := by rw [getD_set j0, if_pos rfl]
  obtain ⟨h', l', st', q', u1, u2, u3⟩ := c9_loop d (i0 := i) (o0 := j) h5 ht ho 121 0 l _ _ [lst n G i] _ (by omega) hRc hWc (by
    intro k hk
    have : k = 0 := by simpa using hk
    subst this
    exact eg) (bInv_0 (by omega)) (by intro y hy; rw [List.mem_singleton] at hy; rw [hy]; exact hl)
  refine ⟨h', l', st', q', u1, Fr_trans (Fr_trans (Fr_trans (Fr_pA (by omega) (by omega)) (Fr_pA (by omega) (by omega))) (Fr_pA (by omega) (by omega))) u2, fun R => ?_⟩
  have z : (w32 0).toNat = 0 := rfl
  have i0 : inB 0 q.length := inB_n (k := 0) j0 L0
  have i0' : inB 0 (q.set 0 (lst n G i : Int)).length := inB_n (k := 0) j0' L0'
  rw [callD_k]; simp only [entL_i, entL_l, entL_q, entL_s, entL_nil, n_X9_stepsBetween, u_X9_stepsBetween, m_X9_stepsBetween, rep_3, List.cons_append, List.nil_append, List.append_nil, List.length_cons, List.length_nil, Nat.reduceAdd, true_and]
  simp only [AW_k, AWk_1, x_aload_1, x_aloads_1, x_iload_5, x_lload_2, x_callv_3, x_istore_6, x_aload_0, x_aloads_0, x_getf, x_push_i, x_push_l, x_call_2, x_iload_4, x_iast, x_iald, x_ialds, x_istore_7, x_istore_8, x_iload_8, x_icmp_ge, x_iload_7, x_iload_6, x_if_ge, x_callv_5, x_callv_4, x_iinc_8, x_goto, x_ret, x_ret_i, x_ret_z, x_ret_l, x_ret_c, unl_i, unl_l, unl_q, unl_r, unl_s, unl_n, k_X9_stepsBetween_0, k_X9_stepsBetween_1, k_X9_stepsBetween_2, k_X9_stepsBetween_3, k_X9_stepsBetween_4, k_X9_stepsBetween_5, k_X9_stepsBetween_6, k_X9_stepsBetween_7, k_X9_stepsBetween_8, k_X9_stepsBetween_9, k_X9_stepsBetween_10, k_X9_stepsBetween_11, k_X9_stepsBetween_12, k_X9_stepsBetween_13, k_X9_stepsBetween_14, k_X9_stepsBetween_15, k_X9_stepsBetween_16, k_X9_stepsBetween_17, k_X9_stepsBetween_18, k_X9_stepsBetween_19, k_X9_stepsBetween_20, k_X9_stepsBetween_21, k_X9_stepsBetween_22, k_X9_stepsBetween_23, k_X9_stepsBetween_24, k_X9_stepsBetween_25, k_X9_stepsBetween_26, k_X9_stepsBetween_27, k_X9_stepsBetween_28, k_X9_stepsBetween_29, k_X9_stepsBetween_30, k_X9_stepsBetween_31, k_X9_stepsBetween_32, k_X9_stepsBetween_33, k_X9_stepsBetween_34, k_X9_stepsBetween_35, k_X9_stepsBetween_36, k_X9_stepsBetween_37, k_X9_stepsBetween_38, k_X9_stepsBetween_39, k_X9_stepsBetween_40, k_X9_stepsBetween_41, k_X9_stepsBetween_42, k_X9_stepsBetween_43, k_X9_stepsBetween_44, k_X9_stepsBetween_45, k_X9_stepsBetween_46, k_X9_stepsBetween_47, k_X9_stepsBetween_48, k_X9_stepsBetween_49, k_X9_stepsBetween_50, k_X9_stepsBetween_51, k_X9_stepsBetween_52, k_X9_stepsBetween_53, k_X9_stepsBetween_54, k_X9_stepsBetween_55, k_X9_stepsBetween_56, k_X9_stepsBetween_57, k_X9_stepsBetween_58, k_X9_stepsBetween_59, k_X9_stepsBetween_60, k_X9_stepsBetween_61, k_X9_stepsBetween_62, k_X9_stepsBetween_63, k_X9_stepsBetween_64, k_X9_stepsBetween_65, k_X9_stepsBetween_66, k_X9_stepsBetween_67, k_X9_stepsBetween_68, k_X9_stepsBetween_69, k_X9_stepsBetween_70, k_X9_stepsBetween_71, k_X9_stepsBetween_72, k_X9_stepsBetween_73, k_X9_stepsBetween_74, k_X9_stepsBetween_75, k_X9_stepsBetween_76, k_X9_stepsBetween_77, k_X9_stepsBetween_78, k_X9_stepsBetween_79, k_X9_stepsBetween_80, oE_some, Int.reduceToNat, Nat.reduceAdd, true_and, and_true, List.length_cons, List.length_nil, Option.toList_some, Option.toList_none, List.cons_append, List.nil_append, Nat.reduceLeDiff, Nat.le_refl, wdS_nil, wdS_i, wdS_l, wdS_r, wdS_n, wdS_s, rC0 hR, c4_leastOf (d + 1) hR hj, hW.1.2.1, c_fillI (d + 2) hW.2.2.1 hst (by decide), hWa.1.2.2, hWa.2.2.2.1, rC0 hRa, c4_leastOf (d + 1) hRa hi, i0, i0', z, hWb.1.2.1, hWb.1.2.2, hWb.2.2.2.1, hWb.2.2.1, eg, inB_n jl Ll, w32_tn bl]
  exact u3 R
