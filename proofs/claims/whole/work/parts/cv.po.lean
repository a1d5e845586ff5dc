/-! ===== the law: its run ===== -/
theorem XI_low {hp h : HP} {n : Nat} {G : BitVec 64} {z : Int} {c : Nat} {ks : List Int} {es : List Int} {ik : Bool} {kn : Nat} {kG : BitVec 64} {kz : Int} {kc : Nat} {kks : List Int} {kes : List Int} {tc : Nat} {tb : List Int} {sc : Nat} {tl : List Int} {so : List Int} {le : List Int} {it : Nat → List (BitVec 64)} {he : List Int} {th : List Int} {sl : List Int} {tr : Nat} {bo : List Int} (hX : XI hp n G z c ks es ik kn kG kz kc kks kes tc tb sc tl so le it he th sl tr bo) (hl : hp.length = 54) (s : ∀ k, k < 54 → h[k]? = hp[k]?) : XI h n G z c ks es ik kn kG kz kc kks kes tc tb sc tl so le it he th sl tr bo := by
  obtain ⟨ra, ts, q0, q1, q2, q3, q4, q5, q6, q7, q8, q9, q10, q11, qk⟩ := hX
  have S : ∀ a b, b ≤ 54 → Sm a b hp h := fun a b hb k h1 h2 => s k (by omega)
  have T : ∀ x m, RWS hp x m → tbAt x → RWS h x m := by
    intro x m hR ht
    have c := rC0 hR
    have x37 : x = 37 := by
      rcases ht with q | q
      · exact q
      · unfold gC at c
        rw [List.getElem?_eq_none (by omega)] at c
        cases c
    subst x37
    exact RWS_eq hR (fun k h1 h2 => s k (by omega))
  have q1' : XT h ra n ts := ⟨T _ _ q1.1 q1.2.1, q1.2.1, by rw [gQ_S (s 1 (by omega)), q1.2.2.1], q1.2.2.2.1, fun k y hk hy => ⟨T _ _ (q1.2.2.2.2 k y hk hy).1 (q1.2.2.2.2 k y hk hy).2, (q1.2.2.2.2 k y hk hy).2⟩⟩
  exact ⟨ra, ts, XO_S q0 (S _ _ (by omega)), q1', XM_S q2 (S _ _ (by omega)), XP_S q3 (S _ _ (by omega)), XW_S q4 (S _ _ (by omega)), XL_S q5 (S _ _ (by omega)), XS_S q6 (S _ _ (by omega)), XH_S q7 (S _ _ (by omega)), XV_S q8 (S _ _ (by omega)), XA_S q9 (S _ _ (by omega)), XQ_S q10 (S _ _ (by omega)), XM_S q11 (S _ _ (by omega)), qk⟩
set_option maxHeartbeats 16000000 in
theorem lw_case {scr : List Int} {R : PO} {i : Nat} {B : BU} {hp : HP} (H : WSI hp) (hs : WSC scr i) (hB : 17 ≤ B.1 ∧ 10556 ≤ B.2) (nx : WNX scr R (i + 6) B) (nx2 : WNX scr R (i + 6) (B.1 - 17, B.2 - 10556)) (v : Int) : AW 1000 scr 302 R (swT [(0, 22), (1, 39), (2, 66), (3, 93), (4, 120), (5, 147), (6, 164), (7, 201), (8, 228), (9, 255), (10, 282), (11, 300), (12, 341), (13, 349), (14, 366), (15, 383), (16, 410), (17, 437), (18, 464), (19, 491), (20, 542), (21, 559), (22, 566), (23, 593), (24, 610), (25, 647), (26, 674), (27, 711), (28, 738), (29, 755), (30, 772), (31, 789), (32, 816), (33, 833), (34, 850), (35, 867), (36, 894), (37, 931), (38, 948), (39, 985), (40, 1046), (41, 1083), (42, 1140), (43, 1167), (44, 1204), (45, 1231), (46, 1268), (47, 1285), (48, 1302), (49, 1309)] 1316 v) [some (mS 9), some (mR 0), some (mR 54), some (mI (i : Int))] [] hp B := by
  have H0 := H
  obtain ⟨n, G, z, c, ks, es, ik, kn, kG, kz, kc, kks, kes, tc, tb, sc, tl, so, le, it, he, th, sl, tr, bo, h⟩ := H
  rw [swT_cons]
  split
  · exact lw_0 h hs hB nx2
  rw [swT_cons]
  split
  · exact lw_1 h hs nx
  rw [swT_cons]
  split
  · exact lw_2 h hs nx
  rw [swT_cons]
  split
  · exact lw_3 h hs nx
  rw [swT_cons]
  split
  · exact lw_4 h hs nx
  rw [swT_cons]
  split
  · exact lw_5 h hs nx
  rw [swT_cons]
  split
  · exact lw_6 h hs nx
  rw [swT_cons]
  split
  · exact lw_7 h hs nx
  rw [swT_cons]
  split
  · exact lw_8 h hs nx
  rw [swT_cons]
  split
  · exact lw_9 h hs nx
  rw [swT_cons]
  split
  · exact lw_10 h hs nx
  rw [swT_cons]
  split
  · exact lw_11 h hs nx
  rw [swT_cons]
  split
  · exact lw_12 h hs nx
  rw [swT_cons]
  split
  · exact lw_13 h hs nx
  rw [swT_cons]
  split
  · exact lw_14 h hs nx
  rw [swT_cons]
  split
  · exact lw_15 h hs nx
  rw [swT_cons]
  split
  · exact lw_16 h hs nx
  rw [swT_cons]
  split
  · exact lw_17 h hs nx
  rw [swT_cons]
  split
  · exact lw_18 h hs nx
  rw [swT_cons]
  split
  · exact lw_19 h hs nx
  rw [swT_cons]
  split
  · exact lw_20 h hs nx
  rw [swT_cons]
  split
  · exact lw_21 h hs nx
  rw [swT_cons]
  split
  · exact lw_22 h hs nx
  rw [swT_cons]
  split
  · exact lw_23 h hs nx
  rw [swT_cons]
  split
  · exact lw_24 h hs nx
  rw [swT_cons]
  split
  · exact lw_25 h hs nx
  rw [swT_cons]
  split
  · exact lw_26 h hs nx
  rw [swT_cons]
  split
  · exact lw_27 h hs nx
  rw [swT_cons]
  split
  · exact lw_28 h hs nx
  rw [swT_cons]
  split
  · exact lw_29 h hs nx
  rw [swT_cons]
  split
  · exact lw_30 h hs nx
  rw [swT_cons]
  split
  · exact lw_31 h hs nx
  rw [swT_cons]
  split
  · exact lw_32 h hs nx
  rw [swT_cons]
  split
  · exact lw_33 h hs nx
  rw [swT_cons]
  split
  · exact lw_34 h hs nx
  rw [swT_cons]
  split
  · exact lw_35 h hs nx
  rw [swT_cons]
  split
  · exact lw_36 h hs nx
  rw [swT_cons]
  split
  · exact lw_37 h hs nx
  rw [swT_cons]
  split
  · exact lw_38 h hs nx
  rw [swT_cons]
  split
  · exact lw_39 h hs nx
  rw [swT_cons]
  split
  · exact lw_40 h hs nx
  rw [swT_cons]
  split
  · exact lw_41 h hs nx
  rw [swT_cons]
  split
  · exact lw_42 h hs nx
  rw [swT_cons]
  split
  · exact lw_43 h hs nx
  rw [swT_cons]
  split
  · exact lw_44 h hs nx
  rw [swT_cons]
  split
  · exact lw_45 h hs nx
  rw [swT_cons]
  split
  · exact lw_46 h hs nx
  rw [swT_cons]
  split
  · exact lw_47 h hs nx
  rw [swT_cons]
  split
  · exact lw_48 h hs nx
  rw [swT_cons]
  split
  · exact lw_49 h hs hB nx2
  rw [swT_nil]
  have e6 : (i : Int) + 6 = ((i + 6 : Nat) : Int) := rfl
  simp only [AW_k, AWk_1, x_iinc_3, x_goto, unl_i, unl_l, unl_q, unl_r, unl_s, unl_n, k_L_law_1316, k_L_law_1317, oE_some, Int.reduceToNat, Nat.reduceAdd, true_and, and_true, List.length_cons, List.length_nil, Option.toList_some, Option.toList_none, List.cons_append, List.nil_append, Nat.reduceLeDiff, Nat.le_refl, wdS_nil, wdS_i, wdS_l, wdS_r, wdS_n, wdS_s, e6]
  exact nx hp H0
set_option maxHeartbeats 16000000 in
theorem lw_loop {scr : List Int} (hL : scr.length ≤ 3072) (hw : ∀ k, w32 (scr.getD k 0) = scr.getD k 0) : ∀ (t i : Nat) (hp : HP) (B : BU), WSI hp → i ≤ 3072 → scr.length < i + 6 * t + 6 → 17 * t ≤ B.1 → 10556 * t ≤ B.2 → AWh 1000 scr 302 (fun v _ => v = some (mI 1)) 10 [some (mS 9), some (mR 0), some (mR 54), some (mI (i : Int))] [] hp B := by
  have six : w32 6 = 6 := rfl
  have exit : ∀ (i : Nat) (hp : HP) (B : BU), i ≤ 3072 → scr.length < i + 6 → AWh 1000 scr 302 (fun v _ => v = some (mI 1)) 10 [some (mS 9), some (mR 0), some (mR 54), some (mI (i : Int))] [] hp B := by
    intro i hp B hi hl
    have bi : i < 2147483648 := by omega
    have c : ((scr.length : Nat) : Int) - 6 < (i : Int) := by omega
    have b1 : -2147483648 ≤ ((scr.length : Nat) : Int) - 6 := by omega
    have b2 : ((scr.length : Nat) : Int) - 6 < 2147483648 := by omega
    rw [AWh_k, k_L_law_10]
    simp only [AW_k, AWk_1, x_iload_3, x_aload_0, x_aloads_0, x_slen, x_push_i, x_push_l, x_isub, x_icmp_gt, x_ret, x_ret_i, x_ret_z, x_ret_l, x_ret_c, k_L_law_10, k_L_law_11, k_L_law_12, k_L_law_13, k_L_law_14, k_L_law_15, k_L_law_1318, k_L_law_1319, oE_some, Int.reduceToNat, Nat.reduceAdd, true_and, and_true, List.length_cons, List.length_nil, Option.toList_some, Option.toList_none, List.cons_append, List.nil_append, Nat.reduceLeDiff, Nat.le_refl, wdS_nil, wdS_i, wdS_l, wdS_r, wdS_n, wdS_s, w32_nat bi, w32_id b1 b2, c, or_true, ↓reduceIte]
  intro t
  induction t with
  | zero => intro i hp B _ hi hl _ _; exact exit i hp B hi (by omega)
  | succ t ih =>
    intro i hp B H hi hl h1 h2
    by_cases hc : scr.length < i + 6
    · exact exit i hp B hi hc
    · have hs : WSC scr i := ⟨by omega, hL, hw⟩
      have bi : i < 2147483648 := by omega
      have c : ¬ ((scr.length : Nat) : Int) - 6 < (i : Int) := by omega
      have b1 : -2147483648 ≤ ((scr.length : Nat) : Int) - 6 := by omega
      have b2 : ((scr.length : Nat) : Int) - 6 < 2147483648 := by omega
      have k1 : inB (i : Int) scr.length := inB_n (by omega) (by omega)
      have nx : WNX scr (fun v _ => v = some (mI 1)) (i + 6) B := fun hp H => ih (i + 6) hp B H (by omega) (by omega) (by omega) (by omega)
      have nx2 : WNX scr (fun v _ => v = some (mI 1)) (i + 6) (B.1 - 17, B.2 - 10556) := fun hp H => ih (i + 6) hp _ H (by omega) (by omega) (by show _ ≤ B.1 - 17; omega) (by show _ ≤ B.2 - 10556; omega)
      have go := fun v => lw_case H hs (B := B) ⟨by omega, by omega⟩ nx nx2 v
      have st9 : stab scr 9 = scr := rfl
      rw [AWh_k, k_L_law_10]
      simp only [AW_k, AWk_1, x_iload_3, x_aload_0, x_aloads_0, x_slen, x_push_i, x_push_l, x_isub, x_icmp_gt, x_iald, x_ialds, x_iand, x_switch, AW_sw, AW_sw0, k_L_law_10, k_L_law_11, k_L_law_12, k_L_law_13, k_L_law_14, k_L_law_15, k_L_law_16, k_L_law_17, k_L_law_18, k_L_law_19, k_L_law_20, k_L_law_21, oE_some, Int.reduceToNat, Nat.reduceAdd, true_and, and_true, List.length_cons, List.length_nil, Option.toList_some, Option.toList_none, List.cons_append, List.nil_append, Nat.reduceLeDiff, Nat.le_refl, wdS_nil, wdS_i, wdS_l, wdS_r, wdS_n, wdS_s, w32_nat bi, w32_id b1 b2, c, st9, k1, w32_tn bi, ↓reduceIte]
      exact AW_k.mp (go _)
set_option maxHeartbeats 16000000 in
theorem lw_run {scr : List Int} (hL : scr.length ≤ 3072) (hw : ∀ k, w32 (scr.getD k 0) = scr.getD k 0) {b1 b2 : Nat} (hb1 : 9000 ≤ b1) (hb2 : 5500000 ≤ b2) : AW 1000 scr 302 (fun v _ => v = some (mI 1)) 0 [some (mS 9), none, none, none] [] [] (b1, b2) := by
  obtain ⟨h0, X0, l0, P0⟩ := x10_init 990
  obtain ⟨h1, M1, s1, l1, P1⟩ := m_init 990 (h0 := h0) l0
  have X1 := XI_low X0 l0 s1
  have I4 : itOK [-1, -1, -1, -1] (fun _ => List.replicate 40 0#64) := by
    intro s hs hq j
    rcases (show s = 0 ∨ s = 1 ∨ s = 2 ∨ s = 3 by omega) with e | e | e | e <;> subst e <;> exact absurd hq (by decide)
  have H : WSI h1 := WSI_of ⟨X1, M1, clo_0 _, fun _ => clo_0 _, I4, by omega⟩
  have c1 : 1 ≤ b1 := by omega
  have c2 : 18 ≤ b2 := by omega
  have c3 : 80 ≤ b1 - 1 := by omega
  have c4 : 20000 ≤ b2 - 18 := by omega
  have c5 : 1 ≤ b1 - 1 - 80 := by omega
  have c6 : 50 ≤ b2 - 18 - 20000 := by omega
  have c7 : 40 ≤ b1 - 1 - 80 - 1 := by omega
  have c8 : 4000 ≤ b2 - 18 - 20000 - 50 := by omega
  have lp := lw_loop hL hw 512 0 h1 (b1 - 1 - 80 - 1 - 40, b2 - 18 - 20000 - 50 - 4000) H (by omega) (by omega) (by show _ ≤ b1 - 1 - 80 - 1 - 40; omega) (by show _ ≤ b2 - 18 - 20000 - 50 - 4000; omega)
  simp only [AW_k, AWk_1, x_new, x_dup_i, x_dup_r, x_dup_q, x_calliB_1, x_astore_1, x_astore_2, x_push_i, x_push_l, x_istore_3, unl_i, unl_l, unl_q, unl_r, unl_s, unl_n, k_L_law_0, k_L_law_1, k_L_law_2, k_L_law_3, k_L_law_4, k_L_law_5, k_L_law_6, k_L_law_7, k_L_law_8, k_L_law_9, oE_some, Int.reduceToNat, Nat.reduceAdd, true_and, and_true, List.length_cons, List.length_nil, Option.toList_some, Option.toList_none, List.cons_append, List.nil_append, Nat.reduceLeDiff, Nat.le_refl, wdS_nil, wdS_i, wdS_l, wdS_r, wdS_n, wdS_s, List.length_nil, List.nil_append, P0, l0, P1, show (fKs.getD 10 []).length = 18 from rfl, show (fKs.getD 11 []).length = 50 from rfl, c1, c2, c3, c4, c5, c6, c7, c8, show (80 : Int).toNat = 80 from rfl, show (40 : Int).toNat = 40 from rfl, Nat.zero_le, Nat.reduceLT]
  exact lp
