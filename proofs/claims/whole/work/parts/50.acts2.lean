/-! ===== acts: the class's bodies ===== -/
def okB (b : Nat) : Bool := [10, 11, 12, 13, 20, 30, 31, 40, 50, 60, 61].contains b
theorem bfr_ok : ∀ k, k < 6 → ∀ c, c < 4 → okB (bfr k c) = true ∧ bfr k c < 100 := by decide +kernel
theorem KAB_v : KAB.getD 1 0 = 0 ∧ KAB.getD 2 0 = 0 ∧ KAB.getD 3 0 = 1 ∧ KAB.getD 4 0 = 1 ∧ KAB.getD 5 0 = 2 := by decide
/-- the trace behind a body's begin -/
def beg (bo : Nat) (s : ASt) : ASt := if s.1 < 30 then (s.1 + 1, s.2.1.set s.1 (bo : Int), s.2.2) else s
theorem rnA_stop {k f bo e : Nat} {m nu x : Int} {s : ASt} (h : s.2.2 = true ∨ 20 < e) : rnA k m nu (f + 1) bo x e s = (0, s) := by
  show (if _ then _ else _) = _
  rw [if_pos h]
/-- run, at f: what it owes -/
def RNC (d a : Nat) (k : Nat) (m nu : Int) (f : Nat) : Prop := ∀ (bo : Nat) (x : Int) (e : Nat) (s : ASt) (h : HP), okB bo = true → e + f = 22 → ATS h a s (k : Int) m nu → ∃ h', ATS h' a (rnA k m nu f bo x e s).2 (k : Int) m nu ∧ Fr a (a + 2) h h' ∧ ∀ R : PO, callD (d + 2 * f) 6 [mR a, mI (bo : Int), mI x, mI (e : Int)] h R ↔ R (some (mI (rnA k m nu f bo x e s).1)) h'
set_option maxHeartbeats 16000000 in
theorem c0_own (d : Nat) {a k f c e : Nat} {m nu x : Int} {s : ASt} {h : HP} (hk : k < 6) (hc : c < 4) (he : e + 1 + f = 22) (hR : RNC (d + 2) a k m nu f) (hA : ATS h a s (k : Int) m nu) : ∃ h', ATS h' a (rnA k m nu f (bfr k c) x (e + 1) s).2 (k : Int) m nu ∧ Fr a (a + 2) h h' ∧ ∀ R : PO, callD (d + 2 * f + 3) 4 [mR a, mI (c : Int), mI x, mI (e : Int)] h R ↔ R (some (mI (rnA k m nu f (bfr k c) x (e + 1) s).1)) h' := by
  obtain ⟨h', u1, u2, u3⟩ := hR (bfr k c) x (e + 1) s h (bfr_ok k hk c hc).1 he hA
  refine ⟨h', u1, u2, fun R => ?_⟩
  have e1 : (e : Int) + 1 = ((e + 1 : Nat) : Int) := by omega
  have ed : d + 2 + 2 * f = d + 2 * f + 2 := by omega
  rw [ed] at u3
  rw [callD_k]; simp only [entL_i, entL_l, entL_q, entL_s, entL_nil, n_X0_own, u_X0_own, m_X0_own, rep_0, List.cons_append, List.nil_append, List.append_nil, List.length_cons, List.length_nil, Nat.reduceAdd, true_and]
  simp only [AW_k, AWk_1, x_aload_0, x_aloads_0, x_getf, x_iload_1, x_call_2, x_iload_2, x_iload_3, x_push_i, x_push_l, x_iadd, x_callv_4, x_ret, x_ret_i, x_ret_z, x_ret_l, x_ret_c, k_X0_own_0, k_X0_own_1, k_X0_own_2, k_X0_own_3, k_X0_own_4, k_X0_own_5, k_X0_own_6, k_X0_own_7, k_X0_own_8, k_X0_own_9, k_X0_own_10, oE_some, Int.reduceToNat, Nat.reduceAdd, true_and, and_true, List.length_cons, List.length_nil, Option.toList_some, Option.toList_none, List.cons_append, List.nil_append, Nat.reduceLeDiff, Nat.le_refl, wdS_nil, wdS_i, wdS_l, wdS_r, wdS_n, wdS_s, hA.1.2.2.1, c0_bodyFrom (d + 2 * f + 1) hk hc, gC_of hA.1.1, e1, u3]
set_option maxHeartbeats 16000000 in
theorem c0_above (d : Nat) {a k f b c e : Nat} {m nu x : Int} {s : ASt} {h : HP} (hb : b < 6) (hc : c < 4) (he : e + 1 + f = 22) (hR : RNC (d + 2) a k m nu f) (hA : ATS h a s (k : Int) m nu) : ∃ h', ATS h' a (rnA k m nu f (bfr (KAB.getD b 0) c) x (e + 1) s).2 (k : Int) m nu ∧ Fr a (a + 2) h h' ∧ ∀ R : PO, callD (d + 2 * f + 3) 5 [mR a, mI (b : Int), mI (c : Int), mI x, mI (e : Int)] h R ↔ R (some (mI (rnA k m nu f (bfr (KAB.getD b 0) c) x (e + 1) s).1)) h' := by
  have hk := KAB_lt b hb
  obtain ⟨h', u1, u2, u3⟩ := hR (bfr (KAB.getD b 0) c) x (e + 1) s h (bfr_ok _ hk c hc).1 he hA
  refine ⟨h', u1, u2, fun R => ?_⟩
  have e1 : (e : Int) + 1 = ((e + 1 : Nat) : Int) := by omega
  have ed : d + 2 + 2 * f = d + 2 * f + 2 := by omega
  rw [ed] at u3
  obtain ⟨g1, g2⟩ := KB_get hb
  rw [callD_k]; simp only [entL_i, entL_l, entL_q, entL_s, entL_nil, n_X0_above, u_X0_above, m_X0_above, rep_0, List.cons_append, List.nil_append, List.append_nil, List.length_cons, List.length_nil, Nat.reduceAdd, true_and]
  simp only [AW_k, AWk_1, x_aload_0, x_aloads_0, x_gets, x_iload_1, x_iald, x_ialds, x_iload_2, x_call_2, x_iload_3, x_iload_4, x_push_i, x_push_l, x_iadd, x_callv_4, x_ret, x_ret_i, x_ret_z, x_ret_l, x_ret_c, k_X0_above_0, k_X0_above_1, k_X0_above_2, k_X0_above_3, k_X0_above_4, k_X0_above_5, k_X0_above_6, k_X0_above_7, k_X0_above_8, k_X0_above_9, k_X0_above_10, k_X0_above_11, oE_some, Int.reduceToNat, Nat.reduceAdd, true_and, and_true, List.length_cons, List.length_nil, Option.toList_some, Option.toList_none, List.cons_append, List.nil_append, Nat.reduceLeDiff, Nat.le_refl, wdS_nil, wdS_i, wdS_l, wdS_r, wdS_n, wdS_s, g1, g2, c0_bodyFrom (d + 2 * f + 1) hk hc, gC_of hA.1.1, e1, u3]

theorem rnA_10 {k f e : Nat} {m nu x : Int} {s : ASt} (h : ¬ (s.2.2 = true ∨ 20 < e)) : rnA k m nu (f + 1) 10 x e s = (x * 5 + nu, beg 10 s) := by
  show (if _ then _ else _) = _
  rw [if_neg h]
  dsimp only

  rw [if_pos rfl]
  rfl
theorem rnA_11 {k f e : Nat} {m nu x : Int} {s : ASt} (h : ¬ (s.2.2 = true ∨ 20 < e)) : rnA k m nu (f + 1) 11 x e s = ((rnA k m nu f (bfr k 0) x (e + 1) (beg 11 s)).1 - m, (rnA k m nu f (bfr k 0) x (e + 1) (beg 11 s)).2) := by
  show (if _ then _ else _) = _
  rw [if_neg h]
  dsimp only
  rw [if_neg (show ¬ (11 : Nat) = 10 by decide)]
  rw [if_pos rfl]
  rfl
theorem rnA_12 {k f e : Nat} {m nu x : Int} {s : ASt} (h : ¬ (s.2.2 = true ∨ 20 < e)) : rnA k m nu (f + 1) 12 x e s = (if w32 (m - nu) = 0 then (0, ((beg 12 s).1, (beg 12 s).2.1, true)) else (Int.tdiv (w32 x) (w32 (m - nu)), beg 12 s)) := by
  show (if _ then _ else _) = _
  rw [if_neg h]
  dsimp only
  rw [if_neg (show ¬ (12 : Nat) = 10 by decide)]
  rw [if_neg (show ¬ (12 : Nat) = 11 by decide)]
  rw [if_pos rfl]
  rfl
theorem rnA_13 {k f e : Nat} {m nu x : Int} {s : ASt} (h : ¬ (s.2.2 = true ∨ 20 < e)) : rnA k m nu (f + 1) 13 x e s = (iXor (rnA k m nu f (bfr k 1) x (e + 1) (beg 13 s)).1 (rnA k m nu f (bfr k 2) (x + 1) (e + 1) (rnA k m nu f (bfr k 1) x (e + 1) (beg 13 s)).2).1, (rnA k m nu f (bfr k 2) (x + 1) (e + 1) (rnA k m nu f (bfr k 1) x (e + 1) (beg 13 s)).2).2) := by
  show (if _ then _ else _) = _
  rw [if_neg h]
  dsimp only
  rw [if_neg (show ¬ (13 : Nat) = 10 by decide)]
  rw [if_neg (show ¬ (13 : Nat) = 11 by decide)]
  rw [if_neg (show ¬ (13 : Nat) = 12 by decide)]
  rw [if_pos rfl]
  rfl
theorem rnA_20 {k f e : Nat} {m nu x : Int} {s : ASt} (h : ¬ (s.2.2 = true ∨ 20 < e)) : rnA k m nu (f + 1) 20 x e s = (iXor (rnA k m nu f (bfr 0 0) x (e + 1) (beg 20 s)).1 9, (rnA k m nu f (bfr 0 0) x (e + 1) (beg 20 s)).2) := by
  show (if _ then _ else _) = _
  rw [if_neg h]
  dsimp only
  rw [if_neg (show ¬ (20 : Nat) = 10 by decide)]
  rw [if_neg (show ¬ (20 : Nat) = 11 by decide)]
  rw [if_neg (show ¬ (20 : Nat) = 12 by decide)]
  rw [if_neg (show ¬ (20 : Nat) = 13 by decide)]
  rw [if_pos rfl]
  rfl
theorem rnA_30 {k f e : Nat} {m nu x : Int} {s : ASt} (h : ¬ (s.2.2 = true ∨ 20 < e)) : rnA k m nu (f + 1) 30 x e s = ((rnA k m nu f (bfr 0 1) x (e + 1) (beg 30 s)).1 * 3, (rnA k m nu f (bfr 0 1) x (e + 1) (beg 30 s)).2) := by
  show (if _ then _ else _) = _
  rw [if_neg h]
  dsimp only
  rw [if_neg (show ¬ (30 : Nat) = 10 by decide)]
  rw [if_neg (show ¬ (30 : Nat) = 11 by decide)]
  rw [if_neg (show ¬ (30 : Nat) = 12 by decide)]
  rw [if_neg (show ¬ (30 : Nat) = 13 by decide)]
  rw [if_neg (show ¬ (30 : Nat) = 20 by decide)]
  rw [if_pos rfl]
  rfl
theorem rnA_31 {k f e : Nat} {m nu x : Int} {s : ASt} (h : ¬ (s.2.2 = true ∨ 20 < e)) : rnA k m nu (f + 1) 31 x e s = ((rnA k m nu f (bfr 0 2) x (e + 1) (beg 31 s)).1 + (rnA k m nu f (bfr k 0) nu (e + 1) (rnA k m nu f (bfr 0 2) x (e + 1) (beg 31 s)).2).1, (rnA k m nu f (bfr k 0) nu (e + 1) (rnA k m nu f (bfr 0 2) x (e + 1) (beg 31 s)).2).2) := by
  show (if _ then _ else _) = _
  rw [if_neg h]
  dsimp only
  rw [if_neg (show ¬ (31 : Nat) = 10 by decide)]
  rw [if_neg (show ¬ (31 : Nat) = 11 by decide)]
  rw [if_neg (show ¬ (31 : Nat) = 12 by decide)]
  rw [if_neg (show ¬ (31 : Nat) = 13 by decide)]
  rw [if_neg (show ¬ (31 : Nat) = 20 by decide)]
  rw [if_neg (show ¬ (31 : Nat) = 30 by decide)]
  rw [if_pos rfl]
  rfl
theorem rnA_40 {k f e : Nat} {m nu x : Int} {s : ASt} (h : ¬ (s.2.2 = true ∨ 20 < e)) : rnA k m nu (f + 1) 40 x e s = (0 - (rnA k m nu f (bfr 1 0) (x + 2) (e + 1) (beg 40 s)).1, (rnA k m nu f (bfr 1 0) (x + 2) (e + 1) (beg 40 s)).2) := by
  show (if _ then _ else _) = _
  rw [if_neg h]
  dsimp only
  rw [if_neg (show ¬ (40 : Nat) = 10 by decide)]
  rw [if_neg (show ¬ (40 : Nat) = 11 by decide)]
  rw [if_neg (show ¬ (40 : Nat) = 12 by decide)]
  rw [if_neg (show ¬ (40 : Nat) = 13 by decide)]
  rw [if_neg (show ¬ (40 : Nat) = 20 by decide)]
  rw [if_neg (show ¬ (40 : Nat) = 30 by decide)]
  rw [if_neg (show ¬ (40 : Nat) = 31 by decide)]
  rw [if_pos rfl]
  rfl
theorem rnA_50 {k f e : Nat} {m nu x : Int} {s : ASt} (h : ¬ (s.2.2 = true ∨ 20 < e)) : rnA k m nu (f + 1) 50 x e s = ((rnA k m nu f (bfr 1 3) x (e + 1) (beg 50 s)).1 - (rnA k m nu f (bfr k 1) m (e + 1) (rnA k m nu f (bfr 1 3) x (e + 1) (beg 50 s)).2).1, (rnA k m nu f (bfr k 1) m (e + 1) (rnA k m nu f (bfr 1 3) x (e + 1) (beg 50 s)).2).2) := by
  show (if _ then _ else _) = _
  rw [if_neg h]
  dsimp only
  rw [if_neg (show ¬ (50 : Nat) = 10 by decide)]
  rw [if_neg (show ¬ (50 : Nat) = 11 by decide)]
  rw [if_neg (show ¬ (50 : Nat) = 12 by decide)]
  rw [if_neg (show ¬ (50 : Nat) = 13 by decide)]
  rw [if_neg (show ¬ (50 : Nat) = 20 by decide)]
  rw [if_neg (show ¬ (50 : Nat) = 30 by decide)]
  rw [if_neg (show ¬ (50 : Nat) = 31 by decide)]
  rw [if_neg (show ¬ (50 : Nat) = 40 by decide)]
  rw [if_pos rfl]
  rfl
theorem rnA_60 {k f e : Nat} {m nu x : Int} {s : ASt} (h : ¬ (s.2.2 = true ∨ 20 < e)) : rnA k m nu (f + 1) 60 x e s = (iXor (rnA k m nu f (bfr 2 2) (x - m) (e + 1) (beg 60 s)).1 5, (rnA k m nu f (bfr 2 2) (x - m) (e + 1) (beg 60 s)).2) := by
  show (if _ then _ else _) = _
  rw [if_neg h]
  dsimp only
  rw [if_neg (show ¬ (60 : Nat) = 10 by decide)]
  rw [if_neg (show ¬ (60 : Nat) = 11 by decide)]
  rw [if_neg (show ¬ (60 : Nat) = 12 by decide)]
  rw [if_neg (show ¬ (60 : Nat) = 13 by decide)]
  rw [if_neg (show ¬ (60 : Nat) = 20 by decide)]
  rw [if_neg (show ¬ (60 : Nat) = 30 by decide)]
  rw [if_neg (show ¬ (60 : Nat) = 31 by decide)]
  rw [if_neg (show ¬ (60 : Nat) = 40 by decide)]
  rw [if_neg (show ¬ (60 : Nat) = 50 by decide)]
  rw [if_pos rfl]
  rfl
theorem rnA_61 {k f e : Nat} {m nu x : Int} {s : ASt} (h : ¬ (s.2.2 = true ∨ 20 < e)) : rnA k m nu (f + 1) 61 x e s = ((rnA k m nu f (bfr 2 3) x (e + 1) (beg 61 s)).1 + (rnA k m nu f (bfr k 1) 1 (e + 1) (rnA k m nu f (bfr 2 3) x (e + 1) (beg 61 s)).2).1, (rnA k m nu f (bfr k 1) 1 (e + 1) (rnA k m nu f (bfr 2 3) x (e + 1) (beg 61 s)).2).2) := by
  show (if _ then _ else _) = _
  rw [if_neg h]
  dsimp only
  rw [if_neg (show ¬ (61 : Nat) = 10 by decide)]
  rw [if_neg (show ¬ (61 : Nat) = 11 by decide)]
  rw [if_neg (show ¬ (61 : Nat) = 12 by decide)]
  rw [if_neg (show ¬ (61 : Nat) = 13 by decide)]
  rw [if_neg (show ¬ (61 : Nat) = 20 by decide)]
  rw [if_neg (show ¬ (61 : Nat) = 30 by decide)]
  rw [if_neg (show ¬ (61 : Nat) = 31 by decide)]
  rw [if_neg (show ¬ (61 : Nat) = 40 by decide)]
  rw [if_neg (show ¬ (61 : Nat) = 50 by decide)]
  rw [if_neg (show ¬ (61 : Nat) = 60 by decide)]
  rw [if_pos rfl]
  rfl
