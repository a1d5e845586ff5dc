/-! ===== the class's rows are made: numbers, places ===== -/
set_option maxHeartbeats 32000000 in
theorem c4_init_b (d : Nat) {h : HP} {a n : Nat} {B : BU} (h1 : 1 ≤ n) (h6 : n ≤ 6) (hb : 1 ≤ B.1 ∧ n ≤ B.2) (hl : h.length = a + 16) (g0 : gF h a 4 0 = some (mI (n : Int))) (g1 : gF h a 4 1 = some (mI ((FC n : Nat) : Int))) (g4 : gF h a 4 4 = some (mR (a + 10))) (gz : gA h (a + 10) = some (List.replicate (FC n) 0)) : ∃ B2 : BU, ∀ R : PO, AW (d + 4) [] 29 R 59 [some (mR a), some (mI (n : Int)), some (mI 0), none, none] [] h B ↔ AWh (d + 4) [] 29 R 77 [some (mR a), some (mI (n : Int)), some (mR (a + 16)), some (mI 0), none] [] (pA h (a + 10) (tP (num n) (FC n) (FC n)) ++ [.inr (.inl (0, List.replicate n 0))]) B2 := by
  have fN := FC_le n
  have i0 : (0 : Int) ≤ (n : Int) := by omega
  have i5 : (n : Int) ≤ 5000 := by omega
  have b31 : FC n < 2147483648 := by omega
  have n31 : n < 2147483648 := by omega
  have cn : ∀ (x : Nat), x < FC n → ∀ R : PO, callD (d + 4) 30 [mR a, mI (x : Int)] (pA h (a + 10) (tP (num n) x (FC n))) R ↔ R (some (mI ((num n x : Nat) : Int))) (pA h (a + 10) (tP (num n) x (FC n))) := fun x hx R => c4_numberAt (d + 2) h1 h6 (by rw [gF_pA]; exact g0) hx R
  have ez : pA h (a + 10) (tP (num n) 0 (FC n)) = h := pA_self (by rw [gz, tP_0])
  have el : (pA h (a + 10) (tP (num n) (FC n) (FC n))).length = a + 16 := by rw [len_pA, hl]
  refine ⟨(B.1 - 1, B.2 - n), fun R => ?_⟩
  have e59 : AW (d + 4) [] 29 R 59 [some (mR a), some (mI (n : Int)), some (mI 0), none, none] [] h B ↔ AWh (d + 4) [] 29 R 59 [some (mR a), some (mI (n : Int)), some (mI ((0 : Nat) : Int)), none, none] [] (pA h (a + 10) (tP (num n) 0 (FC n))) B := by
    rw [ez, AW_k, k_X4_init_59]; exact Iff.rfl
  refine e59.trans ((loop_to (P := fun x => AWh (d + 4) [] 29 R 59 [some (mR a), some (mI (n : Int)), some (mI (x : Int)), none, none] [] (pA h (a + 10) (tP (num n) x (FC n))) B) (a := 0) (b := FC n) (Nat.zero_le _) ?_).trans ?_)
  · intro x _ hx
    have bx : x < 2147483648 := by omega
    have cx : (x : Int) < ((FC n : Nat) : Int) := by omega
    have ga : gA (pA h (a + 10) (tP (num n) x (FC n))) (a + 10) = some (tP (num n) x (FC n)) := gA_pA_same gz
    have gf1 : gF (pA h (a + 10) (tP (num n) x (FC n))) a 4 1 = some (mI ((FC n : Nat) : Int)) := by rw [gF_pA, g1]
    have gf4 : gF (pA h (a + 10) (tP (num n) x (FC n))) a 4 4 = some (mR (a + 10)) := by rw [gF_pA, g4]
    have ib : inB (x : Int) (tP (num n) x (FC n)).length := by rw [tP_len]; exact inB_n hx b31
    rw [AWh_k, k_X4_init_59]
    simp only [AW_k, AWk_1, x_iload_2, x_aload_0, x_aloads_0, x_getf, x_icmp_ge, x_callv_2, x_iast, x_iinc_2, x_goto, unl_i, unl_l, unl_q, unl_r, unl_s, unl_n, k_X4_init_59, k_X4_init_60, k_X4_init_61, k_X4_init_62, k_X4_init_63, k_X4_init_64, k_X4_init_65, k_X4_init_66, k_X4_init_67, k_X4_init_68, k_X4_init_69, k_X4_init_70, k_X4_init_71, oE_some, Int.reduceToNat, Nat.reduceAdd, true_and, and_true, List.length_cons, List.length_nil, Option.toList_some, Option.toList_none, List.cons_append, List.nil_append, Nat.reduceLeDiff, Nat.le_refl, wdS_nil, wdS_i, wdS_l, wdS_r, wdS_n, wdS_s, gf1, gf4, gC_of gf1, ga, cn x hx, ib, pA_pA]
    rw [w32_nat bx, w32_nat b31, if_pos cx, Int.toNat_natCast, tP_set hx rfl]
    exact Iff.rfl
  · have gf1 : gF (pA h (a + 10) (tP (num n) (FC n) (FC n))) a 4 1 = some (mI ((FC n : Nat) : Int)) := by rw [gF_pA, g1]
    rw [AWh_k, k_X4_init_59]
    simp only [AW_k, AWk_1, x_iload_2, x_aload_0, x_aloads_0, x_getf, x_icmp_ge, x_callv_2, x_iast, x_iinc_2, x_goto, x_iload_1, x_newa_i, x_newa_z, x_newa_l, x_astore_2, x_push_i, x_push_l, x_istore_3, x_iload_3, unl_i, unl_l, unl_q, unl_r, unl_s, unl_n, k_X4_init_59, k_X4_init_60, k_X4_init_61, k_X4_init_62, k_X4_init_63, k_X4_init_64, k_X4_init_65, k_X4_init_66, k_X4_init_67, k_X4_init_68, k_X4_init_69, k_X4_init_70, k_X4_init_71, k_X4_init_72, k_X4_init_73, k_X4_init_74, k_X4_init_75, k_X4_init_76, k_X4_init_77, oE_some, Int.reduceToNat, Nat.reduceAdd, true_and, and_true, List.length_cons, List.length_nil, Option.toList_some, Option.toList_none, List.cons_append, List.nil_append, Nat.reduceLeDiff, Nat.le_refl, wdS_nil, wdS_i, wdS_l, wdS_r, wdS_n, wdS_s, gf1, w32_nat n31, Int.toNat_natCast, i0, i5, hb, el]
    rw [if_neg (Int.lt_irrefl _)]
set_option maxHeartbeats 32000000 in
/-- a row's places -/
theorem c4_places (d : Nat) {a n i : Nat} {S D : List Int} {G : List (BitVec 64)} {A B : List Int} {bu : BU} (h1 : 1 ≤ n) (h6 : n ≤ 6) (hi : i < FC n) : ∀ (m k : Nat) (h : HP) (P : List Int), k + m = n → RIP h a n S D G A B P → P.length = n → (∀ p, p < k → P.getD p 0 = ((dg n (num n i) p : Nat) : Int)) → ∃ h' P', RIP h' a n S D G A B P' ∧ plI n i P' ∧ Fr (a + 16) (a + 17) h h' ∧ ∀ R : PO, AWh (d + 4) [] 29 R 83 [some (mR a), some (mI (n : Int)), some (mR (a + 16)), some (mI (i : Int)), some (mI (k : Int))] [] h bu ↔ AWk (d + 4) [] 29 R 95 (cd 29 95) [some (mR a), some (mI (n : Int)), some (mR (a + 16)), some (mI (i : Int)), some (mI (n : Int))] [] h' bu := by
  intro m
  induction m with
  | zero =>
    intro k h P hk hR hP hQ
    have e : k = n := by omega
    subst e
    refine ⟨h, P, hR, ⟨hP, hQ⟩, Fr_refl h, fun R => ?_⟩
    rw [AWh_k, k_X4_init_83]
    simp only [AW_k, AWk_1, x_iload_4, x_iload_1, x_icmp_ge, k_X4_init_83, k_X4_init_84, k_X4_init_85, oE_some, Int.reduceToNat, Nat.reduceAdd, true_and, and_true, List.length_cons, List.length_nil, Option.toList_some, Option.toList_none, List.cons_append, List.nil_append, Nat.reduceLeDiff, Nat.le_refl, wdS_nil, wdS_i, wdS_l, wdS_r, wdS_n, wdS_s]
    rw [if_neg (Int.lt_irrefl _)]
  | succ m ih =>
    intro k h P hk hR hP hQ
    have hkn : k < n := by omega
    have bk : k < 2147483648 := by omega
    have bn : n < 2147483648 := by omega
    have ck : (k : Int) < (n : Int) := by omega
    have g16 := hR.2.2.2.2.2.2.2
    obtain ⟨h', P', u1, u2, u3, u4⟩ := ih (k + 1) (pA h (a + 16) (P.set k ((dg n (num n i) k : Nat) : Int))) (P.set k ((dg n (num n i) k : Nat) : Int)) (by omega) (RIP_16 hR) (by rw [List.length_set]; exact hP) (by
      intro p hp
      rw [getD_set (by omega)]
      by_cases e : k = p
      · subst e; rw [if_pos rfl]
      · rw [if_neg e]; exact hQ p (by omega))
    refine ⟨h', P', u1, u2, Fr_trans (Fr_pA (Nat.le_refl _) (Nat.lt_succ_self _)) u3, fun R => Iff.trans ?_ (u4 R)⟩
    have cv : ∀ R : PO, callD (d + 4) 36 [mR a, mI (i : Int), mI (k : Int)] h R ↔ R (some (mI ((dg n (num n i) k : Nat) : Int))) h := fun R => c4v_valueAt (d + 3) hR.1 hi hkn R
    have gc := gC_of hR.1.2.1
    have ib : inB (k : Int) P.length := by rw [hP]; exact inB_n hkn bn
    rw [AWh_k, k_X4_init_83]
    simp only [AW_k, AWk_1, x_iload_4, x_iload_1, x_icmp_ge, x_aload_2, x_aloads_2, x_aload_0, x_aloads_0, x_iload_3, x_callv_3, x_iast, x_iinc_4, x_goto, unl_i, unl_l, unl_q, unl_r, unl_s, unl_n, k_X4_init_83, k_X4_init_84, k_X4_init_85, k_X4_init_86, k_X4_init_87, k_X4_init_88, k_X4_init_89, k_X4_init_90, k_X4_init_91, k_X4_init_92, k_X4_init_93, k_X4_init_94, oE_some, Int.reduceToNat, Nat.reduceAdd, true_and, and_true, List.length_cons, List.length_nil, Option.toList_some, Option.toList_none, List.cons_append, List.nil_append, Nat.reduceLeDiff, Nat.le_refl, wdS_nil, wdS_i, wdS_l, wdS_r, wdS_n, wdS_s, cv, gc, g16, ib]
    rw [w32_nat bk, w32_nat bn, if_pos ck, Int.toNat_natCast]
    exact Iff.rfl
set_option maxHeartbeats 32000000 in
theorem c4_init_c (d : Nat) {a n : Nat} {bu : BU} (h1 : 1 ≤ n) (h6 : n ≤ 6) : ∀ (m i : Nat) (h : HP) (P : List Int) (y4 : Option AV), i + m = FC n → P.length = n → RIP h a n (tP (sw n) i (FC n)) (tP (dr n) i (FC n)) (dgT n i) (tP (arK n) (i * (n - 1)) (FC n * (n - 1))) (tP (bsK n) (i * (n - 1)) (FC n * (n - 1))) P → ∃ h' P', RIP h' a n (tP (sw n) (FC n) (FC n)) (tP (dr n) (FC n) (FC n)) (dgT n (FC n)) (tP (arK n) (FC n * (n - 1)) (FC n * (n - 1))) (tP (bsK n) (FC n * (n - 1)) (FC n * (n - 1))) P' ∧ Fr (a + 11) (a + 17) h h' ∧ ∀ R : PO, AWh (d + 4) [] 29 R 77 [some (mR a), some (mI (n : Int)), some (mR (a + 16)), some (mI (i : Int)), y4] [] h bu ↔ R none h' := by
  intro m
  induction m with
  | zero =>
    intro i h P y4 hi hP hR
    have e : i = FC n := by omega
    subst e
    refine ⟨h, P, hR, Fr_refl h, fun R => ?_⟩
    have g1 := hR.1.2.2.1
    rw [AWh_k, k_X4_init_77]
    simp only [AW_k, AWk_1, x_iload_3, x_aload_0, x_aloads_0, x_getf, x_icmp_ge, k_X4_init_77, k_X4_init_78, k_X4_init_79, k_X4_init_80, oE_some, Int.reduceToNat, Nat.reduceAdd, true_and, and_true, List.length_cons, List.length_nil, Option.toList_some, Option.toList_none, List.cons_append, List.nil_append, Nat.reduceLeDiff, Nat.le_refl, wdS_nil, wdS_i, wdS_l, wdS_r, wdS_n, wdS_s, g1]
    rw [if_neg (Int.lt_irrefl _)]
    simp only [AW_k, AWk_1, x_ret, x_ret_i, x_ret_z, x_ret_l, x_ret_c, k_X4_init_105, oE_some, Int.reduceToNat, Nat.reduceAdd, true_and, and_true, List.length_cons, List.length_nil, Option.toList_some, Option.toList_none, List.cons_append, List.nil_append, Nat.reduceLeDiff, Nat.le_refl, wdS_nil, wdS_i, wdS_l, wdS_r, wdS_n, wdS_s]
  | succ m ih =>
    intro i h P y4 hi hP hR
    have fN := FC_le n
    have hin : i < FC n := by omega
    have bi : i < 2147483648 := by omega
    have bF : FC n < 2147483648 := by omega
    have ci : (i : Int) < ((FC n : Nat) : Int) := by omega
    have g1 := hR.1.2.2.1
    obtain ⟨h2, P2, u1, u2, u3, u4⟩ := c4_places d (bu := bu) h1 h6 hin n 0 h P (Nat.zero_add n) hR hP (fun p hp => absurd hp (Nat.not_lt_zero p))
    obtain ⟨h3, v1, v2, v3⟩ := c4_fillSwapped (d + 3) h1 h6 hin u2 u1
    obtain ⟨h4, w1, w2, w3⟩ := c4_fillGaps (d + 1) h1 h6 hin u2 v1
    obtain ⟨h', P', x1, x2, x3⟩ := ih (i + 1) h4 P2 (some (mI (n : Int))) (by omega) u2.1 w1
    refine ⟨h', P', x1, Fr_trans (Fr_mono u3 (by omega) (by omega)) (Fr_trans (Fr_mono v2 (by omega) (by omega)) (Fr_trans (Fr_mono w2 (by omega) (by omega)) x2)), fun R => Iff.trans ?_ (x3 R)⟩
    have gc2 := gC_of u1.1.2.1
    have gc3 := gC_of v1.1.2.1
    rw [AWh_k, k_X4_init_77]
    simp only [AW_k, AWk_1, x_iload_3, x_aload_0, x_aloads_0, x_getf, x_icmp_ge, x_push_i, x_push_l, x_istore_4, unl_i, unl_l, unl_q, unl_r, unl_s, unl_n, k_X4_init_77, k_X4_init_78, k_X4_init_79, k_X4_init_80, k_X4_init_81, k_X4_init_82, oE_some, Int.reduceToNat, Nat.reduceAdd, true_and, and_true, List.length_cons, List.length_nil, Option.toList_some, Option.toList_none, List.cons_append, List.nil_append, Nat.reduceLeDiff, Nat.le_refl, wdS_nil, wdS_i, wdS_l, wdS_r, wdS_n, wdS_s, g1]
    rw [w32_nat bi, w32_nat bF, if_pos ci]
    refine (u4 R).trans ?_
    simp only [AW_k, AWk_1, x_aload_0, x_aloads_0, x_iload_3, x_aload_2, x_aloads_2, x_callv_3, x_iinc_3, x_goto, unl_i, unl_l, unl_q, unl_r, unl_s, unl_n, k_X4_init_95, k_X4_init_96, k_X4_init_97, k_X4_init_98, k_X4_init_99, k_X4_init_100, k_X4_init_101, k_X4_init_102, k_X4_init_103, k_X4_init_104, oE_some, Int.reduceToNat, Nat.reduceAdd, true_and, and_true, List.length_cons, List.length_nil, Option.toList_some, Option.toList_none, List.cons_append, List.nil_append, Nat.reduceLeDiff, Nat.le_refl, wdS_nil, wdS_i, wdS_l, wdS_r, wdS_n, wdS_s, gc2, gc3, show ∀ R : PO, callD (d + 4) 32 [mR a, mI (i : Int), mR (a + 16)] h2 R ↔ R none h3 from v3, show ∀ R : PO, callD (d + 4) 33 [mR a, mI (i : Int), mR (a + 16)] h3 R ↔ R none h4 from w3]
    exact Iff.rfl
set_option maxHeartbeats 32000000 in
theorem c4_init (d : Nat) {h0 : HP} {n : Nat} (h1 : 1 ≤ n) (h6 : n ≤ 6) : ∃ h', Kp h0 h' ∧ h'.length = h0.length + 17 ∧ RWS h' h0.length n ∧ ∀ R : PO, callD (d + 5) 29 [mR h0.length, mI (n : Int)] (h0 ++ [.inl (4, (fKs.getD 4 []).map born1)]) R ↔ R none h' := by
  obtain ⟨B, hB, p0⟩ := c4_init_a d (h0 := h0) h1 h6
  have g0 : ∀ k, gF (h0 ++ rwT n h0.length) h0.length 4 k = ([mI (n : Int), mI ((FC n : Nat) : Int), mI ((n - 1 : Nat) : Int), mR (h0.length + 1), mR (h0.length + 10), mR (h0.length + 11), mR (h0.length + 12), mR (h0.length + 13), mR (h0.length + 14), mR (h0.length + 15)] : List AV)[k]? := fun k => by rw [gF_pre0]; rfl
  have g1 : gF (h0 ++ rwT n h0.length) (h0.length + 1) 1 10 = some (mR (h0.length + 2)) := by rw [gF_pre]; rfl
  have g2 : gA (h0 ++ rwT n h0.length) (h0.length + 2) = some (tI (fi n) 49) := by rw [gA_pre]; rfl
  have a10 : gA (h0 ++ rwT n h0.length) (h0.length + 10) = some (List.replicate (FC n) 0) := by rw [gA_pre]; rfl
  have a11 : gA (h0 ++ rwT n h0.length) (h0.length + 11) = some (List.replicate (FC n) 0) := by rw [gA_pre]; rfl
  have a12 : gA (h0 ++ rwT n h0.length) (h0.length + 12) = some (List.replicate (FC n) 0) := by rw [gA_pre]; rfl
  have a13 : gJ (h0 ++ rwT n h0.length) (h0.length + 13) = some (List.replicate (FC n) 0#64) := by rw [gJ_pre]; rfl
  have a14 : gA (h0 ++ rwT n h0.length) (h0.length + 14) = some (List.replicate (FC n * (n - 1)) 0) := by rw [gA_pre]; rfl
  have a15 : gA (h0 ++ rwT n h0.length) (h0.length + 15) = some (List.replicate (FC n * (n - 1)) 0) := by rw [gA_pre]; rfl
  have hlen : (h0 ++ rwT n h0.length).length = h0.length + 16 := by rw [List.length_append]; rfl
  have hk0 : ∀ k, k < h0.length → (h0 ++ rwT n h0.length)[k]? = h0[k]? := fun k hk => List.getElem?_append_left hk
  have hcell : ∀ k, k < 10 → (h0 ++ rwT n h0.length)[h0.length + k]? = (RC n h0.length)[k]? := by
    intro k hk
    rw [get_pre]
    rcases (show k = 0 ∨ k = 1 ∨ k = 2 ∨ k = 3 ∨ k = 4 ∨ k = 5 ∨ k = 6 ∨ k = 7 ∨ k = 8 ∨ k = 9 by omega) with e | e | e | e | e | e | e | e | e | e <;> subst e <;> rfl
  generalize h0 ++ rwT n h0.length = h at *
  generalize ha : h0.length = a at *
  obtain ⟨B2, p1⟩ := c4_init_b d h1 h6 hB hlen (g0 0) (g0 1) (g0 4) a10
  obtain ⟨h2, hd2⟩ : ∃ h2, h2 = pA h (a + 10) (tP (num n) (FC n) (FC n)) := ⟨_, rfl⟩
  rw [← hd2] at p1
  have l2 : h2.length = a + 16 := by rw [hd2, len_pA, hlen]
  have f2 : Fr (a + 10) (a + 11) h h2 := by rw [hd2]; exact Fr_pA (Nat.le_refl _) (Nat.lt_succ_self _)
  have b10 : gA h2 (a + 10) = some (tI (num n) (FC n)) := by rw [hd2, gA_pA_same a10, tP_N]
  have q0 : ∀ k, gF (h2 ++ [.inr (.inl (0, List.replicate n 0))]) a 4 k = ([mI (n : Int), mI ((FC n : Nat) : Int), mI ((n - 1 : Nat) : Int), mR (a + 1), mR (a + 10), mR (a + 11), mR (a + 12), mR (a + 13), mR (a + 14), mR (a + 15)] : List AV)[k]? := fun k => by rw [gF_app (by omega), gF_Fr f2 (by omega), g0 k]
  have hrip : RIP (h2 ++ [.inr (.inl (0, List.replicate n 0))]) a n (tP (sw n) 0 (FC n)) (tP (dr n) 0 (FC n)) (dgT n 0) (tP (arK n) (0 * (n - 1)) (FC n * (n - 1))) (tP (bsK n) (0 * (n - 1)) (FC n * (n - 1))) (List.replicate n 0) := by
    have ed : dgT n 0 = List.replicate (FC n) 0#64 := by
      apply list_extJ (N := FC n) dgT_len (by rw [List.length_replicate])
      intro j hj
      rw [dgT_get hj, if_neg (Nat.not_lt_zero j), List.getD_eq_getElem?_getD, List.getElem?_replicate, if_pos hj]
      rfl
    rw [Nat.zero_mul, tP_0, tP_0, tP_0, tP_0, ed]
    refine ⟨⟨⟨h1, h6⟩, q0 0, q0 1, q0 4, by rw [gA_app (by omega), b10]⟩, ⟨q0 2, q0 3, q0 5, q0 6, q0 7, q0 8, q0 9, by rw [gF_app (by omega), gF_Fr f2 (by omega), g1], by rw [gA_app (by omega), gA_Fr f2 (by omega), g2]⟩, by rw [gA_app (by omega), gA_Fr f2 (by omega), a11], by rw [gA_app (by omega), gA_Fr f2 (by omega), a12], by rw [gJ_app (by omega), gJ_Fr f2 (by omega), a13], by rw [gA_app (by omega), gA_Fr f2 (by omega), a14], by rw [gA_app (by omega), gA_Fr f2 (by omega), a15], ?_⟩
    rw [show a + 16 = h2.length + 0 by omega, gA_pre]; rfl
  obtain ⟨h3, P3, r3, f3, p3⟩ := c4_init_c d (bu := B2) h1 h6 (FC n) 0 _ _ none (Nat.zero_add _) List.length_replicate hrip
  rw [tP_N, tP_N, tP_N, tP_N] at r3
  have edj : dgT n (FC n) = tJ (dgm n) (FC n) := by
    apply list_extJ (N := FC n) dgT_len (by unfold tJ; rw [List.length_map, List.length_range])
    intro j hj
    rw [dgT_get hj, if_pos hj, tJ_get hj]
  rw [edj] at r3
  obtain ⟨m0, ⟨-, -, -, -, -, -, -, -, -⟩, m11, m12, m13, m14, m15, -⟩ := r3
  have low : ∀ k, k < a + 10 → h3[k]? = h[k]? := fun k hk => by rw [f3.2 k (by omega), List.getElem?_append_left (by omega), f2.2 k (by omega)]
  refine ⟨h3, fun k hk => by rw [low k (by omega), hk0 k (by omega)], by rw [f3.1, List.length_append, l2]; rfl, ⟨⟨h1, h6⟩, ?_⟩, fun R => (p0 R).trans ((p1 R).trans (p3 R))⟩
  intro k hk
  by_cases hk10 : k < 10
  · rw [low _ (by omega), hcell k hk10]
  · rcases (show k = 10 ∨ k = 11 ∨ k = 12 ∨ k = 13 ∨ k = 14 ∨ k = 15 by omega) with e | e | e | e | e | e <;> subst e
    · rw [cell_A m0.2.2.2.2]; rfl
    · rw [cell_A m11]; rfl
    · rw [cell_A m12]; rfl
    · rw [cell_J m13]; rfl
    · rw [cell_A m14]; rfl
    · rw [cell_A m15]; rfl
