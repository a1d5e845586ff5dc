/-! ===== the tape is read ===== -/
theorem sgnB_lt {x : Nat} (h : sgnB x = true) : x < 63 := by
  unfold sgnB at h
  simp only [Bool.or_eq_true, decide_eq_true_eq] at h
  omega
theorem nmC_lt (b : Nat → Nat) (p e : Nat) : nmC b p e < 11 := by
  unfold nmC
  repeat (first | (split; decide) | decide)
theorem wcd_lt (b : Nat → Nat) (p e : Nat) : wcd b p e < 63 := by
  unfold wcd
  split
  · split <;> decide
  · split
    · exact Nat.lt_trans (nmC_lt b p e) (by decide)
    · split
      · next h => exact sgnB_lt h
      · decide
theorem tks_mem {b : Nat → Nat} {tc : Nat} : ∀ (f p : Nat), ∀ x ∈ tks b tc f p, p ≤ x.1 ∧ x.1 < tc ∧ x.1 < x.2 ∧ x.2 ≤ tc ∧ x.2 = eow b tc x.1 := by
  intro f
  induction f with
  | zero => intro p x hx; cases hx
  | succ f ih =>
    intro p x hx
    have e : tks b tc (f + 1) p = if p < tc then (if b p = 32 then tks b tc f (eow b tc p) else (p, eow b tc p) :: tks b tc f (eow b tc p)) else [] := rfl
    rw [e] at hx
    split at hx
    · next h =>
      have he := eow_in (b := b) h
      split at hx
      · have := ih _ x hx; exact ⟨by omega, this.2⟩
      · rcases List.mem_cons.mp hx with q | q
        · subst q; exact ⟨Nat.le_refl _, h, he.1, he.2, rfl⟩
        · have := ih _ x q; exact ⟨by omega, this.2⟩
    · cases hx
theorem tks_len {b : Nat → Nat} {tc : Nat} : ∀ (f p : Nat), (tks b tc f p).length ≤ f := by
  intro f
  induction f with
  | zero => intro p; exact Nat.le_refl _
  | succ f ih =>
    intro p
    have e : tks b tc (f + 1) p = if p < tc then (if b p = 32 then tks b tc f (eow b tc p) else (p, eow b tc p) :: tks b tc f (eow b tc p)) else [] := rfl
    rw [e]
    split
    · split
      · have := ih (eow b tc p); omega
      · rw [List.length_cons]; have := ih (eow b tc p); omega
    · exact Nat.zero_le _
theorem getD_mem2 {T : List (Nat × Nat)} {k : Nat} (h : k < T.length) : T.getD k (0, 0) ∈ T := by
  rw [List.getD_eq_getElem?_getD, List.getElem?_eq_getElem h]
  exact List.getElem_mem h
theorem tB_le {b : Nat → Nat} {tc k : Nat} (hc : tc ≤ 200) : tB tc (TT b tc) k ≤ 200 := by
  unfold tB
  split
  · next h =>
    have m := tks_mem 200 0 _ (getD_mem2 h)
    exact Nat.le_trans (Nat.le_of_lt m.2.1) hc
  · exact hc
theorem wtb_of {b : Nat → Nat} {tc : Nat} {ws bg wo : List Int} (hc : tc ≤ 200) (h : tpA b tc (TT b tc) ws bg wo) : wtb (tW b (TT b tc)) (tB tc (TT b tc)) (fun k => wo.getD k 0) (TT b tc).length ws bg wo ∧ ∀ k, k < (TT b tc).length → wo.getD k 0 = tV b (TT b tc) k := by
  obtain ⟨h1, h2, h3⟩ := h
  refine ⟨⟨h1, h2, fun k hk => ⟨(h3 k hk).1, (h3 k hk).2.1, rfl⟩, fun k hk => ⟨?_, tB_le hc⟩, ?_⟩, fun k hk => (h3 k (Nat.le_of_lt hk)).2.2 hk⟩
  · unfold tW
    split
    · exact Nat.lt_trans (wcd_lt _ _ _) (by decide)
    · decide
  · unfold tW; rw [if_neg (Nat.lt_irrefl _)]
set_option maxHeartbeats 32000000 in
theorem c8_read (d : Nat) {hp : HP} {a ra n tc : Nat} {ft : Int} {tb ws bg wo : List Int} {at_ : Int} {av : AV} {b : Nat → Nat} (hR : RWS hp ra n) (h : TPS hp a tc ft tb ws bg wo at_ av) (hb : byOK tb b) (hc : tc ≤ 200) (hl : ws.length = 201 ∧ bg.length = 201 ∧ wo.length = 201) (ho : a + 5 ≤ ra ∨ ra + 16 ≤ a) : ∃ h' at' ws' bg' wo' V, TPS h' a 0 (rdP n (tW b (TT b tc)) (tB tc (TT b tc)) V).2 tb ws' bg' wo' at' (mR (ra + 1)) ∧ (ws'.length = 201 ∧ bg'.length = 201 ∧ wo'.length = 201) ∧ (∀ k, k < (TT b tc).length → V k = tV b (TT b tc) k) ∧ -1 ≤ (rdP n (tW b (TT b tc)) (tB tc (TT b tc)) V).2 ∧ (rdP n (tW b (TT b tc)) (tB tc (TT b tc)) V).2 ≤ 200 ∧ Fr a (a + 5) hp h' ∧ ∀ R : PO, callD (d + 15) 75 [mR a, mR (ra + 1)] hp R ↔ R (some (mL (rdP n (tW b (TT b tc)) (tB tc (TT b tc)) V).1)) h' := by
  obtain ⟨h1, ws', bg', wo', u1, u2, u3, u4⟩ := c8_split (d + 5) h hb hc hl
  obtain ⟨w1, w2⟩ := wtb_of hc u2
  have t2 : TPS (pF h1 a 8 0 (mI 0)) a 0 ft tb ws' bg' wo' at_ av := TPS_f0 (x := 0) u1
  have g2 : Fr a (a + 5) h1 (pF h1 a 8 0 (mI 0)) := Fr_pF (by omega) (by omega)
  have t3 := TPS_f7 (x := mR (ra + 1)) t2
  have g3 : Fr a (a + 5) (pF h1 a 8 0 (mI 0)) (pF (pF h1 a 8 0 (mI 0)) a 8 7 (mR (ra + 1))) := Fr_pF (by omega) (by omega)
  have t4 := TPS_f1 (x := -1) t3
  have g4 : Fr a (a + 5) (pF (pF h1 a 8 0 (mI 0)) a 8 7 (mR (ra + 1))) (pF (pF (pF h1 a 8 0 (mI 0)) a 8 7 (mR (ra + 1))) a 8 1 (mI (-1))) := Fr_pF (by omega) (by omega)
  have t5 : TPS (pF (pF (pF (pF h1 a 8 0 (mI 0)) a 8 7 (mR (ra + 1))) a 8 1 (mI (-1))) a 8 6 (mI 0)) a 0 (-1) tb ws' bg' wo' ((0 : Nat) : Int) (mR (ra + 1)) := TPS_f6 (x := 0) t4
  have g5 : Fr a (a + 5) (pF (pF (pF h1 a 8 0 (mI 0)) a 8 7 (mR (ra + 1))) a 8 1 (mI (-1))) (pF (pF (pF (pF h1 a 8 0 (mI 0)) a 8 7 (mR (ra + 1))) a 8 1 (mI (-1))) a 8 6 (mI 0)) := Fr_pF (by omega) (by omega)
  have fr := Fr_trans (Fr_trans (Fr_trans (Fr_trans u3 g2) g3) g4) g5
  have hX : PX a ra n (TT b tc).length (tW b (TT b tc)) (tB tc (TT b tc)) (fun k => wo'.getD k 0) tb ws' bg' wo' _ (-1, 0) := ⟨RWS_Fr hR fr ho.symm, t5, w1, ⟨Nat.zero_le _, Int.le_refl _, by decide⟩, ho⟩
  obtain ⟨h2, y2, f2, p2⟩ := c8_anyL 3 d (Nat.le_refl _) _ _ hX
  have hz : ((3 - 3 : Nat) : Int) = 0 := rfl
  rw [hz] at p2
  generalize hV : (fun k => wo'.getD k 0) = V at w1 hX y2 p2
  have w2' : ∀ k, k < (TT b tc).length → V k = tV b (TT b tc) k := fun k hk => by rw [← hV]; exact w2 k hk
  generalize tW b (TT b tc) = W at w1 hX y2 p2 ⊢
  generalize tB tc (TT b tc) = B at w1 hX y2 p2 ⊢
  generalize hs2 : anyL n W B V 3 (-1, 0) = r at y2 p2
  obtain ⟨x, s⟩ := r
  have hrd : rdP n W B V = (x, (psP W B (decide (W s.2 = 0)) s).1) := by unfold rdP; rw [hs2]
  dsimp only at y2 p2
  have y2' := y2
  obtain ⟨v1, v2, v3, v4, v5⟩ := y2'
  obtain ⟨⟨l1, l2, l3⟩, L2, hw, hbb, h0⟩ := v3
  have hs := v4.1
  have q := hw s.2 hs
  have hWb := (hbb s.2 hs).1
  have s200 : s.2 ≤ 200 := by omega
  have bs2 : s.2 < 2147483648 := by omega
  have bW : W s.2 < 2147483648 := by omega
  obtain ⟨h3, y3, f3, p3⟩ := c8_pass (d + 13) (c := decide (W s.2 = 0)) y2
  refine ⟨h3, _, ws', bg', wo', V, by rw [hrd]; exact y3.2.1, ⟨l1, l2, l3⟩, w2', by rw [hrd]; exact y3.2.2.2.1.2.1, by rw [hrd]; exact y3.2.2.2.1.2.2, Fr_trans (Fr_trans fr f2) f3, fun R => ?_⟩
  rw [hrd]
  by_cases c : W s.2 = 0
  · have c' : (W s.2 : Int) = 0 := by omega
    rw [decide_eq_true c, zI_t] at p3
    rw [callD_k]; simp only [entL_i, entL_l, entL_q, entL_s, entL_nil, n_X8_read, u_X8_read, m_X8_read, rep_2, List.cons_append, List.nil_append, List.append_nil, List.length_cons, List.length_nil, Nat.reduceAdd, true_and]
    simp only [AW_k, AWk_1, x_aload_0, x_aloads_0, x_callv_1, x_push_i, x_push_l, x_putf_i, x_aload_1, x_aloads_1, x_putf_r, x_callv_2, x_lstore_2, x_getf, x_iald, x_ialds, x_if_ne, x_goto, x_lload_2, x_ret, x_ret_i, x_ret_z, x_ret_l, x_ret_c, unl_i, unl_l, unl_q, unl_r, unl_s, unl_n, k_X8_read_0, k_X8_read_1, k_X8_read_2, k_X8_read_3, k_X8_read_4, k_X8_read_5, k_X8_read_6, k_X8_read_7, k_X8_read_8, k_X8_read_9, k_X8_read_10, k_X8_read_11, k_X8_read_12, k_X8_read_13, k_X8_read_14, k_X8_read_15, k_X8_read_16, k_X8_read_17, k_X8_read_18, k_X8_read_19, k_X8_read_20, k_X8_read_21, k_X8_read_22, k_X8_read_23, k_X8_read_24, k_X8_read_25, k_X8_read_26, k_X8_read_27, k_X8_read_28, k_X8_read_29, k_X8_read_30, oE_some, Int.reduceToNat, Nat.reduceAdd, true_and, and_true, List.length_cons, List.length_nil, Option.toList_some, Option.toList_none, List.cons_append, List.nil_append, Nat.reduceLeDiff, Nat.le_refl, wdS_nil, wdS_i, wdS_l, wdS_r, wdS_n, wdS_s, gC_of h.1.1, u4, u1.1.1, t2.1.2.2.2.2.2.2.2, u1.1.2.2.2.2.2.2.2, t3.1.2.1, t4.1.2.2.2.2.2.2.1, gC_of t5.1.1, p2, v2.1.2.2.2.1, v2.1.2.2.2.2.2.2.1, v2.2.2.1, w201 l1 s200, gtW bs2 q.1, w32_nat bW, c', show w32 0 = 0 from rfl, if_true, gC_of v2.1.1, p3]
  · have c' : ¬ (W s.2 : Int) = 0 := by omega
    rw [decide_eq_false c, zI_f] at p3
    rw [callD_k]; simp only [entL_i, entL_l, entL_q, entL_s, entL_nil, n_X8_read, u_X8_read, m_X8_read, rep_2, List.cons_append, List.nil_append, List.append_nil, List.length_cons, List.length_nil, Nat.reduceAdd, true_and]
    simp only [AW_k, AWk_1, x_aload_0, x_aloads_0, x_callv_1, x_push_i, x_push_l, x_putf_i, x_aload_1, x_aloads_1, x_putf_r, x_callv_2, x_lstore_2, x_getf, x_iald, x_ialds, x_if_ne, x_goto, x_lload_2, x_ret, x_ret_i, x_ret_z, x_ret_l, x_ret_c, unl_i, unl_l, unl_q, unl_r, unl_s, unl_n, k_X8_read_0, k_X8_read_1, k_X8_read_2, k_X8_read_3, k_X8_read_4, k_X8_read_5, k_X8_read_6, k_X8_read_7, k_X8_read_8, k_X8_read_9, k_X8_read_10, k_X8_read_11, k_X8_read_12, k_X8_read_13, k_X8_read_14, k_X8_read_15, k_X8_read_16, k_X8_read_17, k_X8_read_18, k_X8_read_19, k_X8_read_20, k_X8_read_21, k_X8_read_22, k_X8_read_23, k_X8_read_24, k_X8_read_25, k_X8_read_26, k_X8_read_27, k_X8_read_28, k_X8_read_29, k_X8_read_30, oE_some, Int.reduceToNat, Nat.reduceAdd, true_and, and_true, List.length_cons, List.length_nil, Option.toList_some, Option.toList_none, List.cons_append, List.nil_append, Nat.reduceLeDiff, Nat.le_refl, wdS_nil, wdS_i, wdS_l, wdS_r, wdS_n, wdS_s, gC_of h.1.1, u4, u1.1.1, t2.1.2.2.2.2.2.2.2, u1.1.2.2.2.2.2.2.2, t3.1.2.1, t4.1.2.2.2.2.2.2.1, gC_of t5.1.1, p2, v2.1.2.2.2.1, v2.1.2.2.2.2.2.2.1, v2.2.2.1, w201 l1 s200, gtW bs2 q.1, w32_nat bW, c', if_false, gC_of v2.1.1, p3]
