/-! ===== the search, the ways up ===== -/
theorem w32_tn {n : Nat} (h : n < 2147483648) : (w32 (n : Int)).toNat = n := by rw [w32_nat h, Int.toNat_natCast]
theorem inB_n {k n : Nat} (hk : k < n) (hn : n < 2147483648) : inB (k : Int) n := inB_of rfl hk hn
theorem drop_getD {ns : List Nat} {k : Nat} (h : k < ns.length) : ns.drop k = ns.getD k 0 :: ns.drop (k + 1) := by
  rw [List.drop_eq_getElem_cons h, List.getD_eq_getElem?_getD, List.getElem?_eq_getElem h]
  rfl
theorem bInv_add {st : List Int} {qs : List Nat} {x fr : Nat} (h : bInv st qs) (hx : x < 120) (hn : st.getD x 0 < 0) (hf : fr ∈ qs) : bInv (st.set x (st.getD fr 0 + 1)) (qs ++ [x]) := by
  obtain ⟨a1, a2, a3, a4⟩ := h
  have hf2 := a2 fr hf
  have hf3 := a4 fr hf2.1
  have hne : fr ≠ x := fun e => by rw [e] at hf2; omega
  refine ⟨by rw [List.length_set]; exact a1, ?_, ?_, ?_⟩
  · intro y hy
    rw [getD_set (by omega)]
    rcases List.mem_append.mp hy with e | e
    · have := a2 y e
      refine ⟨this.1, ?_⟩
      split
      · omega
      · exact this.2
    · rw [List.mem_singleton] at e
      subst e
      rw [if_pos rfl]
      exact ⟨hx, by omega⟩
  · rw [List.length_append, List.length_singleton]
    have := cnt_one (f := fun y => decide (0 ≤ st.getD y 0)) (g := fun y => decide (0 ≤ (st.set x (st.getD fr 0 + 1)).getD y 0)) hx (by simp only [decide_eq_false_iff_not]; omega) (by
      show decide (0 ≤ (st.set x (st.getD fr 0 + 1)).getD x 0) = true
      rw [getD_set (by omega), if_pos rfl, decide_eq_true_iff]; omega) (fun y hy => by
      show _ = decide (0 ≤ (st.set x (st.getD fr 0 + 1)).getD y 0)
      rw [getD_set (by omega), if_neg (fun e => hy e.symm)])
    omega
  · intro y hy
    rw [getD_set (by omega), List.length_append, List.length_singleton]
    have := a4 y hy
    split <;> omega
theorem rch_cons (fr x : Nat) (ns : List Nat) (st : List Int) (qs : List Nat) : rch fr (x :: ns) st qs = if st.getD x 0 < 0 then rch fr ns (st.set x (st.getD fr 0 + 1)) (qs ++ [x]) else rch fr ns st qs := rfl
theorem rch_inv {fr : Nat} : ∀ {ns : List Nat} {st : List Int} {qs : List Nat}, bInv st qs → (∀ y ∈ ns, y < 120) → fr ∈ qs → bInv (rch fr ns st qs).1 (rch fr ns st qs).2 ∧ (∃ t, (rch fr ns st qs).2 = qs ++ t) := by
  intro ns
  induction ns with
  | nil => intro st qs h _ _; exact ⟨h, [], by simp [rch]⟩
  | cons x ns ih =>
    intro st qs h hb hf
    rw [rch_cons]
    split
    · next hn =>
      obtain ⟨i1, t, i2⟩ := ih (bInv_add h (hb x (List.mem_cons_self ..)) hn hf) (fun y hy => hb y (List.mem_cons_of_mem _ hy)) (List.mem_append_left _ hf)
      exact ⟨i1, [x] ++ t, by rw [i2, List.append_assoc]⟩
    · exact ih h (fun y hy => hb y (List.mem_cons_of_mem _ hy)) hf
theorem pre_app {q : List Int} {qs : List Nat} {x N : Nat} (h : pre q qs) (hq : q.length = N) (hl : qs.length < N) : pre (q.set qs.length (x : Int)) (qs ++ [x]) := by
  intro k hk
  rw [List.length_append, List.length_singleton] at hk
  rw [getD_set (by omega)]
  by_cases e : qs.length = k
  · rw [if_pos e, List.getD_eq_getElem?_getD, List.getElem?_append_right (by omega), ← e, Nat.sub_self]; rfl
  · rw [if_neg e, List.getD_eq_getElem?_getD (l := qs ++ [x]), List.getElem?_append_left (by omega), ← List.getD_eq_getElem?_getD]
    exact h k (by omega)
theorem cnt_full {f : Nat → Bool} {x n : Nat} (hx : x < n) (h : f x = false) : cnt f n < n := by
  have := cnt_lt (f := f) (g := fun _ => true) (n := n) (fun _ _ _ => rfl) hx h rfl
  have h2 := (cnt_in (fun _ => true) n).2
  omega
set_option maxHeartbeats 16000000 in
theorem c9_reach (d : Nat) {hp : HP} {w fr : Nat} {l st q : List Int} {ns qs : List Nat} (hW : WK hp w l st q) (hp1 : pre l ns) (hn6 : ns.length ≤ 6) (hb : ∀ y ∈ ns, y < 120) (hq : pre q qs) (hI : bInv st qs) (hf : fr ∈ qs) : ∃ h' q', WK h' w l (rch fr ns st qs).1 q' ∧ Fr w (w + 4) hp h' ∧ pre q' (rch fr ns st qs).2 ∧ ∀ R : PO, callD (d + 1) 96 [mR w, mI (fr : Int), mI (ns.length : Int), mI (qs.length : Int)] hp R ↔ R (some (mI ((rch fr ns st qs).2.length : Int))) h' := by
  have key : ∀ (m k : Nat) (st q : List Int) (qs : List Nat) (h : HP) (q0 : Nat), k + m = ns.length → WK h w l st q → pre q qs → bInv st qs → fr ∈ qs → ∃ h' q', WK h' w l (rch fr (ns.drop k) st qs).1 q' ∧ Fr w (w + 4) h h' ∧ pre q' (rch fr (ns.drop k) st qs).2 ∧ ∀ R : PO, AWh d [] 96 R 4 [some (mR w), some (mI (fr : Int)), some (mI (ns.length : Int)), some (mI (q0 : Int)), some (mI (qs.length : Int)), some (mI (k : Int))] [] h (0, 0) ↔ R (some (mI ((rch fr (ns.drop k) st qs).2.length : Int))) h' := by
    intro m
    induction m with
    | zero =>
      intro k st q qs h q0 hk hW hq hI hf
      rw [List.drop_eq_nil_of_le (by omega)]
      refine ⟨h, q, hW, Fr_refl h, hq, fun R => ?_⟩
      rw [AWh_k, k_X9_reach_4]
      simp only [AW_k, AWk_1, x_iload_3, x_istore_4, x_push_i, x_push_l, x_istore_5, x_iload_5, x_iload_2, x_icmp_ge, x_aload_0, x_aloads_0, x_getf, x_iald, x_ialds, x_if_ge, x_iload_1, x_iadd, x_iast, x_iload_4, x_iinc_4, x_iinc_5, x_goto, x_ret, x_ret_i, x_ret_z, x_ret_l, x_ret_c, unl_i, unl_l, unl_q, unl_r, unl_s, unl_n, k_X9_reach_0, k_X9_reach_1, k_X9_reach_2, k_X9_reach_3, k_X9_reach_4, k_X9_reach_5, k_X9_reach_6, k_X9_reach_7, k_X9_reach_8, k_X9_reach_9, k_X9_reach_10, k_X9_reach_11, k_X9_reach_12, k_X9_reach_13, k_X9_reach_14, k_X9_reach_15, k_X9_reach_16, k_X9_reach_17, k_X9_reach_18, k_X9_reach_19, k_X9_reach_20, k_X9_reach_21, k_X9_reach_22, k_X9_reach_23, k_X9_reach_24, k_X9_reach_25, k_X9_reach_26, k_X9_reach_27, k_X9_reach_28, k_X9_reach_29, k_X9_reach_30, k_X9_reach_31, k_X9_reach_32, k_X9_reach_33, k_X9_reach_34, k_X9_reach_35, k_X9_reach_36, k_X9_reach_37, k_X9_reach_38, k_X9_reach_39, k_X9_reach_40, oE_some, Int.reduceToNat, Nat.reduceAdd, true_and, and_true, List.length_cons, List.length_nil, Option.toList_some, Option.toList_none, List.cons_append, List.nil_append, Nat.reduceLeDiff, Nat.le_refl]
      rw [w32_nat (show k < 2147483648 by omega), w32_nat (show ns.length < 2147483648 by omega), if_neg (by omega)]
      exact Iff.rfl
    | succ m ih =>
      intro k st q qs h q0 hk hW hq hI hf
      have hkl : k < ns.length := by omega
      have hx : ns.getD k 0 < 120 := hb _ (getD_mem hkl)
      have hst := hI.2.2.2 (ns.getD k 0) hx
      have hql := bInv_len hI
      have hfr := (hI.2.1 fr hf).1
      have hl6 := hW.2.2.2.2.1
      have hl120 := hW.2.2.2.2.2.1
      have hq120 := hW.2.2.2.2.2.2
      have bk : k < 2147483648 := by omega
      have bn : ns.length < 2147483648 := by omega
      have bx : ns.getD k 0 < 2147483648 := by omega
      have hf120 := (hI.2.1 fr hf).1
      have bf : fr < 2147483648 := by omega
      have bq : qs.length < 2147483648 := by omega
      have ck : (k : Int) < (ns.length : Int) := by omega
      have j1 : k < l.length := by omega
      have j2 : ns.getD k 0 < st.length := by omega
      have j3 : fr < st.length := by omega
      have L1 : l.length < 2147483648 := by omega
      have L2 : st.length < 2147483648 := by omega
      have L3 : q.length < 2147483648 := by omega
      have r1 : -2147483648 ≤ st.getD (ns.getD k 0) 0 := by omega
      have r2 : st.getD (ns.getD k 0) 0 < 2147483648 := by omega
      have em : k + 1 + m = ns.length := by omega
      rw [drop_getD hkl, rch_cons]
      by_cases hn : st.getD (ns.getD k 0) 0 < 0
      · rw [if_pos hn]
        have hlt : qs.length < 120 := by
          have := hI.2.2.1
          have := cnt_full (f := fun x => decide (0 ≤ st.getD x 0)) hx (by simp only [decide_eq_false_iff_not]; omega)
          omega
        have hW2 := WK_3 (l' := q.set qs.length ((ns.getD k 0 : Nat) : Int)) (WK_2 (l' := st.set (ns.getD k 0) (st.getD fr 0 + 1)) hW (by rw [List.length_set]; exact hl120)) (by rw [List.length_set]; exact hq120)
        obtain ⟨h', q', i1, i2, i3, i4⟩ := ih (k + 1) _ _ _ _ q0 em hW2 (pre_app hq hq120 hlt) (bInv_add hI hx hn hf) (List.mem_append_left _ hf)
        refine ⟨h', q', i1, Fr_trans (Fr_trans (Fr_pA (by omega) (by omega)) (Fr_pA (by omega) (by omega))) i2, i3, fun R => ?_⟩
        have i4 := i4 R
        rw [List.length_append, List.length_singleton] at i4
        have j4 : qs.length < q.length := by omega
        have nn : ¬ (0 ≤ st.getD (ns.getD k 0) 0) := by omega
        have g1 : l.getD (w32 (k : Int)).toNat 0 = ((ns.getD k 0 : Nat) : Int) := by rw [w32_tn bk]; exact hp1 k hkl
        have hWa := WK_2 (l' := st.set (ns.getD k 0) (st.getD fr 0 + 1)) hW (by rw [List.length_set]; exact hl120)
        rw [AWh_k, k_X9_reach_4]
        simp only [AW_k, AWk_1, x_iload_3, x_istore_4, x_push_i, x_push_l, x_istore_5, x_iload_5, x_iload_2, x_icmp_ge, x_aload_0, x_aloads_0, x_getf, x_iald, x_ialds, x_if_ge, x_iload_1, x_iadd, x_iast, x_iload_4, x_iinc_4, x_iinc_5, x_goto, x_ret, x_ret_i, x_ret_z, x_ret_l, x_ret_c, unl_i, unl_l, unl_q, unl_r, unl_s, unl_n, k_X9_reach_0, k_X9_reach_1, k_X9_reach_2, k_X9_reach_3, k_X9_reach_4, k_X9_reach_5, k_X9_reach_6, k_X9_reach_7, k_X9_reach_8, k_X9_reach_9, k_X9_reach_10, k_X9_reach_11, k_X9_reach_12, k_X9_reach_13, k_X9_reach_14, k_X9_reach_15, k_X9_reach_16, k_X9_reach_17, k_X9_reach_18, k_X9_reach_19, k_X9_reach_20, k_X9_reach_21, k_X9_reach_22, k_X9_reach_23, k_X9_reach_24, k_X9_reach_25, k_X9_reach_26, k_X9_reach_27, k_X9_reach_28, k_X9_reach_29, k_X9_reach_30, k_X9_reach_31, k_X9_reach_32, k_X9_reach_33, k_X9_reach_34, k_X9_reach_35, k_X9_reach_36, k_X9_reach_37, k_X9_reach_38, k_X9_reach_39, k_X9_reach_40, oE_some, Int.reduceToNat, Nat.reduceAdd, true_and, and_true, List.length_cons, List.length_nil, Option.toList_some, Option.toList_none, List.cons_append, List.nil_append, Nat.reduceLeDiff, Nat.le_refl, hW.1.1, hW.1.2.1, hW.1.2.2, hW.2.1, hW.2.2.1, hW.2.2.2.1, hWa.1.1, hWa.1.2.1, hWa.1.2.2, hWa.2.1, hWa.2.2.1, hWa.2.2.2.1, inB_n j1 L1, g1, inB_n j2 L2, w32_tn bx, inB_n j3 L2, w32_tn bf, inB_n j4 L3, w32_tn bq]
        rw [w32_nat bk, w32_nat bn, if_pos ck, w32_id r1 r2, if_pos hn]
        exact i4
      · rw [if_neg hn]
        obtain ⟨h', q', i1, i2, i3, i4⟩ := ih (k + 1) _ _ _ _ q0 em hW hq hI hf
        refine ⟨h', q', i1, i2, i3, fun R => ?_⟩
        have i4 := i4 R
        have nn : 0 ≤ st.getD (ns.getD k 0) 0 := by omega
        have g1 : l.getD (w32 (k : Int)).toNat 0 = ((ns.getD k 0 : Nat) : Int) := by rw [w32_tn bk]; exact hp1 k hkl
        rw [AWh_k, k_X9_reach_4]
        simp only [AW_k, AWk_1, x_iload_3, x_istore_4, x_push_i, x_push_l, x_istore_5, x_iload_5, x_iload_2, x_icmp_ge, x_aload_0, x_aloads_0, x_getf, x_iald, x_ialds, x_if_ge, x_iload_1, x_iadd, x_iast, x_iload_4, x_iinc_4, x_iinc_5, x_goto, x_ret, x_ret_i, x_ret_z, x_ret_l, x_ret_c, unl_i, unl_l, unl_q, unl_r, unl_s, unl_n, k_X9_reach_0, k_X9_reach_1, k_X9_reach_2, k_X9_reach_3, k_X9_reach_4, k_X9_reach_5, k_X9_reach_6, k_X9_reach_7, k_X9_reach_8, k_X9_reach_9, k_X9_reach_10, k_X9_reach_11, k_X9_reach_12, k_X9_reach_13, k_X9_reach_14, k_X9_reach_15, k_X9_reach_16, k_X9_reach_17, k_X9_reach_18, k_X9_reach_19, k_X9_reach_20, k_X9_reach_21, k_X9_reach_22, k_X9_reach_23, k_X9_reach_24, k_X9_reach_25, k_X9_reach_26, k_X9_reach_27, k_X9_reach_28, k_X9_reach_29, k_X9_reach_30, k_X9_reach_31, k_X9_reach_32, k_X9_reach_33, k_X9_reach_34, k_X9_reach_35, k_X9_reach_36, k_X9_reach_37, k_X9_reach_38, k_X9_reach_39, k_X9_reach_40, oE_some, Int.reduceToNat, Nat.reduceAdd, true_and, and_true, List.length_cons, List.length_nil, Option.toList_some, Option.toList_none, List.cons_append, List.nil_append, Nat.reduceLeDiff, Nat.le_refl, hW.1.1, hW.1.2.1, hW.1.2.2, hW.2.1, hW.2.2.1, hW.2.2.2.1, inB_n j1 L1, g1, inB_n j2 L2, w32_tn bx]
        rw [w32_nat bk, w32_nat bn, if_pos ck, w32_id r1 r2, if_neg hn]
        exact i4
  obtain ⟨h', q', i1, i2, i3, i4⟩ := key ns.length 0 st q qs hp qs.length (by omega) hW hq hI hf
  rw [List.drop_zero] at i1 i3 i4
  refine ⟨h', q', i1, i2, i3, fun R => ?_⟩
  rw [callD_k]; simp only [entL_i, entL_l, entL_q, entL_s, entL_nil, n_X9_reach, u_X9_reach, m_X9_reach, rep_2, List.cons_append, List.nil_append, List.append_nil, List.length_cons, List.length_nil, Nat.reduceAdd, true_and]
  simp only [AW_k, AWk_1, x_iload_3, x_istore_4, x_push_i, x_push_l, x_istore_5, x_iload_5, x_iload_2, x_icmp_ge, x_aload_0, x_aloads_0, x_getf, x_iald, x_ialds, x_if_ge, x_iload_1, x_iadd, x_iast, x_iload_4, x_iinc_4, x_iinc_5, x_goto, x_ret, x_ret_i, x_ret_z, x_ret_l, x_ret_c, unl_i, unl_l, unl_q, unl_r, unl_s, unl_n, k_X9_reach_0, k_X9_reach_1, k_X9_reach_2, k_X9_reach_3, k_X9_reach_4, k_X9_reach_5, k_X9_reach_6, k_X9_reach_7, k_X9_reach_8, k_X9_reach_9, k_X9_reach_10, k_X9_reach_11, k_X9_reach_12, k_X9_reach_13, k_X9_reach_14, k_X9_reach_15, k_X9_reach_16, k_X9_reach_17, k_X9_reach_18, k_X9_reach_19, k_X9_reach_20, k_X9_reach_21, k_X9_reach_22, k_X9_reach_23, k_X9_reach_24, k_X9_reach_25, k_X9_reach_26, k_X9_reach_27, k_X9_reach_28, k_X9_reach_29, k_X9_reach_30, k_X9_reach_31, k_X9_reach_32, k_X9_reach_33, k_X9_reach_34, k_X9_reach_35, k_X9_reach_36, k_X9_reach_37, k_X9_reach_38, k_X9_reach_39, k_X9_reach_40, oE_some, Int.reduceToNat, Nat.reduceAdd, true_and, and_true, List.length_cons, List.length_nil, Option.toList_some, Option.toList_none, List.cons_append, List.nil_append, Nat.reduceLeDiff, Nat.le_refl]
  exact i4 R
theorem bfs_succ (n : Nat) (G : BitVec 64) (to f i : Nat) (st : List Int) (qs : List Nat) : bfs n G to (f + 1) i st qs = if i < qs.length ∧ st.getD to 0 < 0 then
      bfs n G to f (i + 1) (rch (qs.getD i 0) (nr1 n G (qs.getD i 0)) (rch (qs.getD i 0) (nr0 n G (qs.getD i 0)) st qs).1 (rch (qs.getD i 0) (nr0 n G (qs.getD i 0)) st qs).2).1 (rch (qs.getD i 0) (nr1 n G (qs.getD i 0)) (rch (qs.getD i 0) (nr0 n G (qs.getD i 0)) st qs).1 (rch (qs.getD i 0) (nr0 n G (qs.getD i 0)) st qs).2).2
    else st.getD to 0 := rfl
theorem FC_5 {n : Nat} (h : n ≤ 5) : FC n ≤ 120 := by
  have : ∀ n, n ≤ 5 → FC n ≤ 120 := by decide
  exact this n h
theorem bfs_stop {n to f i : Nat} {G : BitVec 64} {st : List Int} {qs : List Nat} (h : ¬ (i < qs.length ∧ st.getD to 0 < 0)) : bfs n G to f i st qs = st.getD to 0 := by
  cases f with
  | zero => rfl
  | succ f => rw [bfs_succ, if_neg h]
set_option maxHeartbeats 16000000 in
theorem c9_loop (d : Nat) {w ra n to : Nat} {G : BitVec 64} {i0 o0 : Int} (h5 : n ≤ 5) (hto : to < FC n) (ho : w + 4 ≤ ra ∨ ra + 16 ≤ w) : ∀ (f i : Nat) (l st q : List Int) (qs : List Nat) (h : HP), 121 ≤ i + f → RWS h ra n → WK h w l st q → pre q qs → bInv st qs → (∀ y ∈ qs, y < FC n) → ∃ h' l' st' q', WK h' w l' st' q' ∧ Fr w (w + 4) h h' ∧ ∀ R : PO, AWh (d + 3) [] 95 R 29 [some (mR w), some (mR ra), some (mL G), none, some (mI i0), some (mI o0), some (mI (to : Int)), some (mI (qs.length : Int)), some (mI (i : Int))] [] h (0, 0) ↔ R (some (mI (bfs n G to f i st qs))) h' := by
  intro f
  induction f with
  | zero =>
    intro i l st q qs h hf hR hW hq hI hb
    have b1 := FC_5 h5
    have b2 := bInv_len hI
    have b3 := hI.1
    have b4 : i < 2147483648 ∨ 2147483648 ≤ i := by omega
    refine ⟨h, l, st, q, hW, Fr_refl h, fun R => ?_⟩
    sorry
  | succ f ih =>
    intro i l st q qs h hf hR hW hq hI hb
    sorry
