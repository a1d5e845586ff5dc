/-! ===== acts ===== -/
abbrev ASt : Type := Nat × List Int × Bool
def ATS (hp : HP) (a : Nat) (s : ASt) (k m nu : Int) : Prop := (gF hp a 0 0 = some (mI (s.1 : Int)) ∧ gF hp a 0 1 = some (mR (a + 1)) ∧ gF hp a 0 2 = some (mI k) ∧ gF hp a 0 3 = some (mI m) ∧ gF hp a 0 4 = some (mI nu) ∧ gF hp a 0 5 = some (mI (zI s.2.2))) ∧ gA hp (a + 1) = some s.2.1 ∧ s.2.1.length = 30 ∧ s.1 ≤ 30
theorem ATS_Fr {hp h : HP} {a x y : Nat} {s : ASt} {k m nu : Int} (t : ATS hp a s k m nu) (f : Fr x y hp h) (o : a + 2 ≤ x ∨ y ≤ a) : ATS h a s k m nu := by
  obtain ⟨⟨a1, a2, a3, a4, a5, a6⟩, b1, b2⟩ := t
  exact ⟨⟨by rw [gF_Fr f (by omega), a1], by rw [gF_Fr f (by omega), a2], by rw [gF_Fr f (by omega), a3], by rw [gF_Fr f (by omega), a4], by rw [gF_Fr f (by omega), a5], by rw [gF_Fr f (by omega), a6]⟩, by rw [gA_Fr f (by omega), b1], b2⟩
theorem ATS_0 {hp : HP} {a t tr : Nat} {bd : List Int} {pt : Bool} {k m nu : Int} (h : ATS hp a (tr, bd, pt) k m nu) (ht : t ≤ 30) : ATS (pF hp a 0 0 (mI (t : Int))) a (t, bd, pt) k m nu := by
  obtain ⟨⟨a1, a2, a3, a4, a5, a6⟩, b1, b2, b3⟩ := h
  exact ⟨⟨gF_pF_same a1, by rw [gF_pF (by omega), a2], by rw [gF_pF (by omega), a3], by rw [gF_pF (by omega), a4], by rw [gF_pF (by omega), a5], by rw [gF_pF (by omega), a6]⟩, by rw [gA_pF, b1], b2, ht⟩
theorem ATS_2 {hp : HP} {a : Nat} {s : ASt} {k k' m nu : Int} (h : ATS hp a s k m nu) : ATS (pF hp a 0 2 (mI k')) a s k' m nu := by
  obtain ⟨⟨a1, a2, a3, a4, a5, a6⟩, b1, b2, b3⟩ := h
  exact ⟨⟨by rw [gF_pF (by omega), a1], by rw [gF_pF (by omega), a2], gF_pF_same a3, by rw [gF_pF (by omega), a4], by rw [gF_pF (by omega), a5], by rw [gF_pF (by omega), a6]⟩, by rw [gA_pF, b1], b2, b3⟩
theorem ATS_3 {hp : HP} {a : Nat} {s : ASt} {k m m' nu : Int} (h : ATS hp a s k m nu) : ATS (pF hp a 0 3 (mI m')) a s k m' nu := by
  obtain ⟨⟨a1, a2, a3, a4, a5, a6⟩, b1, b2, b3⟩ := h
  exact ⟨⟨by rw [gF_pF (by omega), a1], by rw [gF_pF (by omega), a2], by rw [gF_pF (by omega), a3], gF_pF_same a4, by rw [gF_pF (by omega), a5], by rw [gF_pF (by omega), a6]⟩, by rw [gA_pF, b1], b2, b3⟩
theorem ATS_4 {hp : HP} {a : Nat} {s : ASt} {k m nu nu' : Int} (h : ATS hp a s k m nu) : ATS (pF hp a 0 4 (mI nu')) a s k m nu' := by
  obtain ⟨⟨a1, a2, a3, a4, a5, a6⟩, b1, b2, b3⟩ := h
  exact ⟨⟨by rw [gF_pF (by omega), a1], by rw [gF_pF (by omega), a2], by rw [gF_pF (by omega), a3], by rw [gF_pF (by omega), a4], gF_pF_same a5, by rw [gF_pF (by omega), a6]⟩, by rw [gA_pF, b1], b2, b3⟩
theorem ATS_5 {hp : HP} {a tr : Nat} {bd : List Int} {pt q : Bool} {k m nu : Int} (h : ATS hp a (tr, bd, pt) k m nu) : ATS (pF hp a 0 5 (mI (zI q))) a (tr, bd, q) k m nu := by
  obtain ⟨⟨a1, a2, a3, a4, a5, a6⟩, b1, b2, b3⟩ := h
  exact ⟨⟨by rw [gF_pF (by omega), a1], by rw [gF_pF (by omega), a2], by rw [gF_pF (by omega), a3], by rw [gF_pF (by omega), a4], by rw [gF_pF (by omega), a5], gF_pF_same a6⟩, by rw [gA_pF, b1], b2, b3⟩
theorem ATS_1 {hp : HP} {a tr : Nat} {bd l : List Int} {pt : Bool} {k m nu : Int} (h : ATS hp a (tr, bd, pt) k m nu) (hl : l.length = 30) : ATS (pA hp (a + 1) l) a (tr, l, pt) k m nu := by
  obtain ⟨⟨a1, a2, a3, a4, a5, a6⟩, b1, b2, b3⟩ := h
  exact ⟨⟨by rw [gF_pA, a1], by rw [gF_pA, a2], by rw [gF_pA, a3], by rw [gF_pA, a4], by rw [gF_pA, a5], by rw [gF_pA, a6]⟩, gA_pA_same b1, hl, b3⟩
def OWN : List Nat := [10, 11, 12, 13, 20, 0, 0, 0, 0, 30, 31, 0, 40, 0, 0, 0, 0, 0, 0, 50, 0, 0, 60, 61]
def KAB : List Nat := [0, 0, 0, 1, 1, 2]
def bfU (c : Nat) : Nat → Nat → Nat
  | 0, now => now
  | f + 1, now => if OWN.getD (now * 4 + c) 0 = 0 then bfU c f (KAB.getD now 0) else now
/-- the body of a kind for an act -/
def bfr (k c : Nat) : Nat := OWN.getD (bfU c 6 k * 4 + c) 0
theorem O_get {i : Nat} (hi : i < 24) : inB (i : Int) (stab [] 3).length ∧ (stab [] 3).getD (w32 (i : Int)).toNat 0 = ((OWN.getD i 0 : Nat) : Int) := by
  refine ⟨inB_n hi (by decide), ?_⟩
  rw [w32_tn (by omega)]
  have : ∀ i, i < 24 → (stab [] 3).getD i 0 = ((OWN.getD i 0 : Nat) : Int) := by decide +kernel
  exact this i hi
theorem O_lt : ∀ i, i < 24 → OWN.getD i 0 < 100 := by decide
theorem KAB_lt : ∀ k, k < 6 → KAB.getD k 0 < 6 := by decide
theorem KB_get {k : Nat} (hk : k < 6) : inB (k : Int) (stab [] 2).length ∧ (stab [] 2).getD (w32 (k : Int)).toNat 0 = ((KAB.getD k 0 : Nat) : Int) := ⟨inB_n hk (by decide), K_get hk⟩
set_option maxHeartbeats 16000000 in
theorem c0_bodyFrom (d : Nat) {hp : HP} {k c : Nat} (hk : k < 6) (hc : c < 4) (R : PO) : callD (d + 1) 3 [mI (k : Int), mI (c : Int)] hp R ↔ R (some (mI (bfr k c : Int))) hp := by
  have key : ∀ (f i now : Nat), i + f = 6 → now < 6 → (AWh d [] 3 R 4 [some (mI (k : Int)), some (mI (c : Int)), some (mI (now : Int)), some (mI (i : Int))] [] hp (0, 0) ↔ R (some (mI ((OWN.getD (bfU c f now * 4 + c) 0 : Nat) : Int))) hp) := by
    intro f
    induction f with
    | zero =>
      intro i now hi hn
      have bi : i < 2147483648 := by omega
      have ci : ¬ (i : Int) < 6 := by omega
      have e : (now : Int) * 4 + (c : Int) = ((now * 4 + c : Nat) : Int) := by omega
      have hlt : now * 4 + c < 24 := by omega
      obtain ⟨g1, g2⟩ := O_get hlt
      rw [AWh_k, k_X0_bodyFrom_4]
      simp only [AW_k, AWk_1, x_iload_0, x_istore_2, x_push_i, x_push_l, x_istore_3, x_iload_3, x_icmp_ge, x_gets, x_iload_2, x_imul, x_iload_1, x_iadd, x_iald, x_ialds, x_if_ne, x_iinc_3, x_goto, x_ret, x_ret_i, x_ret_z, x_ret_l, x_ret_c, unl_i, unl_l, unl_q, unl_r, unl_s, unl_n, k_X0_bodyFrom_0, k_X0_bodyFrom_1, k_X0_bodyFrom_2, k_X0_bodyFrom_3, k_X0_bodyFrom_4, k_X0_bodyFrom_5, k_X0_bodyFrom_6, k_X0_bodyFrom_7, k_X0_bodyFrom_8, k_X0_bodyFrom_9, k_X0_bodyFrom_10, k_X0_bodyFrom_11, k_X0_bodyFrom_12, k_X0_bodyFrom_13, k_X0_bodyFrom_14, k_X0_bodyFrom_15, k_X0_bodyFrom_16, k_X0_bodyFrom_17, k_X0_bodyFrom_18, k_X0_bodyFrom_19, k_X0_bodyFrom_20, k_X0_bodyFrom_21, k_X0_bodyFrom_22, k_X0_bodyFrom_23, k_X0_bodyFrom_24, k_X0_bodyFrom_25, k_X0_bodyFrom_26, k_X0_bodyFrom_27, k_X0_bodyFrom_28, oE_some, Int.reduceToNat, Nat.reduceAdd, true_and, and_true, List.length_cons, List.length_nil, Option.toList_some, Option.toList_none, List.cons_append, List.nil_append, Nat.reduceLeDiff, Nat.le_refl, wdS_nil, wdS_i, wdS_l, wdS_r, wdS_n, wdS_s, e, g1, g2]
      rw [w32_nat bi, show w32 6 = 6 from rfl, if_neg ci]
      exact Iff.rfl
    | succ f ih =>
      intro i now hi hn
      have bi : i < 2147483648 := by omega
      have ci : (i : Int) < 6 := by omega
      have e : (now : Int) * 4 + (c : Int) = ((now * 4 + c : Nat) : Int) := by omega
      have hlt : now * 4 + c < 24 := by omega
      have bo : OWN.getD (now * 4 + c) 0 < 2147483648 := by have := O_lt _ hlt; omega
      have i1 := ih (i + 1) (KAB.getD now 0) (by omega) (KAB_lt now hn)
      have eu : bfU c (f + 1) now = if OWN.getD (now * 4 + c) 0 = 0 then bfU c f (KAB.getD now 0) else now := rfl
      have eo : ((OWN.getD (now * 4 + c) 0 : Nat) : Int) = 0 ↔ OWN.getD (now * 4 + c) 0 = 0 := by omega
      obtain ⟨g1, g2⟩ := O_get hlt
      obtain ⟨g3, g4⟩ := KB_get hn
      rw [eu]
      rw [AWh_k, k_X0_bodyFrom_4]
      simp only [AW_k, AWk_1, x_iload_0, x_istore_2, x_push_i, x_push_l, x_istore_3, x_iload_3, x_icmp_ge, x_gets, x_iload_2, x_imul, x_iload_1, x_iadd, x_iald, x_ialds, x_if_ne, x_iinc_3, x_goto, x_ret, x_ret_i, x_ret_z, x_ret_l, x_ret_c, unl_i, unl_l, unl_q, unl_r, unl_s, unl_n, k_X0_bodyFrom_0, k_X0_bodyFrom_1, k_X0_bodyFrom_2, k_X0_bodyFrom_3, k_X0_bodyFrom_4, k_X0_bodyFrom_5, k_X0_bodyFrom_6, k_X0_bodyFrom_7, k_X0_bodyFrom_8, k_X0_bodyFrom_9, k_X0_bodyFrom_10, k_X0_bodyFrom_11, k_X0_bodyFrom_12, k_X0_bodyFrom_13, k_X0_bodyFrom_14, k_X0_bodyFrom_15, k_X0_bodyFrom_16, k_X0_bodyFrom_17, k_X0_bodyFrom_18, k_X0_bodyFrom_19, k_X0_bodyFrom_20, k_X0_bodyFrom_21, k_X0_bodyFrom_22, k_X0_bodyFrom_23, k_X0_bodyFrom_24, k_X0_bodyFrom_25, k_X0_bodyFrom_26, k_X0_bodyFrom_27, k_X0_bodyFrom_28, oE_some, Int.reduceToNat, Nat.reduceAdd, true_and, and_true, List.length_cons, List.length_nil, Option.toList_some, Option.toList_none, List.cons_append, List.nil_append, Nat.reduceLeDiff, Nat.le_refl, wdS_nil, wdS_i, wdS_l, wdS_r, wdS_n, wdS_s, e, g1, g2, g3, g4]
      rw [w32_nat bi, show w32 6 = 6 from rfl, if_pos ci, w32_nat bo]
      by_cases q : OWN.getD (now * 4 + c) 0 = 0
      · rw [if_pos (eo.mpr q), if_pos q]
        exact i1
      · rw [if_neg (fun z => q (eo.mp z)), if_neg q]
  rw [callD_k]; simp only [entL_i, entL_l, entL_q, entL_s, entL_nil, n_X0_bodyFrom, u_X0_bodyFrom, m_X0_bodyFrom, rep_2, List.cons_append, List.nil_append, List.append_nil, List.length_cons, List.length_nil, Nat.reduceAdd, true_and]
  simp only [AW_k, AWk_1, x_iload_0, x_istore_2, x_push_i, x_push_l, x_istore_3, x_iload_3, x_icmp_ge, x_gets, x_iload_2, x_imul, x_iload_1, x_iadd, x_iald, x_ialds, x_if_ne, x_iinc_3, x_goto, x_ret, x_ret_i, x_ret_z, x_ret_l, x_ret_c, unl_i, unl_l, unl_q, unl_r, unl_s, unl_n, k_X0_bodyFrom_0, k_X0_bodyFrom_1, k_X0_bodyFrom_2, k_X0_bodyFrom_3, k_X0_bodyFrom_4, k_X0_bodyFrom_5, k_X0_bodyFrom_6, k_X0_bodyFrom_7, k_X0_bodyFrom_8, k_X0_bodyFrom_9, k_X0_bodyFrom_10, k_X0_bodyFrom_11, k_X0_bodyFrom_12, k_X0_bodyFrom_13, k_X0_bodyFrom_14, k_X0_bodyFrom_15, k_X0_bodyFrom_16, k_X0_bodyFrom_17, k_X0_bodyFrom_18, k_X0_bodyFrom_19, k_X0_bodyFrom_20, k_X0_bodyFrom_21, k_X0_bodyFrom_22, k_X0_bodyFrom_23, k_X0_bodyFrom_24, k_X0_bodyFrom_25, k_X0_bodyFrom_26, k_X0_bodyFrom_27, k_X0_bodyFrom_28, oE_some, Int.reduceToNat, Nat.reduceAdd, true_and, and_true, List.length_cons, List.length_nil, Option.toList_some, Option.toList_none, List.cons_append, List.nil_append, Nat.reduceLeDiff, Nat.le_refl, wdS_nil, wdS_i, wdS_l, wdS_r, wdS_n, wdS_s]
  exact key 6 0 k rfl hk
/-- a body runs: what it answers, the trace -/
def rnA (k : Nat) (m nu : Int) : Nat → Nat → Int → Nat → ASt → Int × ASt
  | 0, _, _, _, s => (0, s)
  | f + 1, bo, x, e, s => if s.2.2 = true ∨ 20 < e then (0, s) else
    let s1 : ASt := if s.1 < 30 then (s.1 + 1, s.2.1.set s.1 (bo : Int), s.2.2) else s
    if bo = 10 then (x * 5 + nu, s1)
    else if bo = 11 then ((rnA k m nu f (bfr k 0) x (e + 1) s1).1 - m, (rnA k m nu f (bfr k 0) x (e + 1) s1).2)
    else if bo = 12 then (if w32 (m - nu) = 0 then (0, (s1.1, s1.2.1, true)) else (Int.tdiv (w32 x) (w32 (m - nu)), s1))
    else if bo = 13 then (iXor (rnA k m nu f (bfr k 1) x (e + 1) s1).1 (rnA k m nu f (bfr k 2) (x + 1) (e + 1) (rnA k m nu f (bfr k 1) x (e + 1) s1).2).1, (rnA k m nu f (bfr k 2) (x + 1) (e + 1) (rnA k m nu f (bfr k 1) x (e + 1) s1).2).2)
    else if bo = 20 then (iXor (rnA k m nu f (bfr 0 0) x (e + 1) s1).1 9, (rnA k m nu f (bfr 0 0) x (e + 1) s1).2)
    else if bo = 30 then ((rnA k m nu f (bfr 0 1) x (e + 1) s1).1 * 3, (rnA k m nu f (bfr 0 1) x (e + 1) s1).2)
    else if bo = 31 then ((rnA k m nu f (bfr 0 2) x (e + 1) s1).1 + (rnA k m nu f (bfr k 0) nu (e + 1) (rnA k m nu f (bfr 0 2) x (e + 1) s1).2).1, (rnA k m nu f (bfr k 0) nu (e + 1) (rnA k m nu f (bfr 0 2) x (e + 1) s1).2).2)
    else if bo = 40 then (0 - (rnA k m nu f (bfr 1 0) (x + 2) (e + 1) s1).1, (rnA k m nu f (bfr 1 0) (x + 2) (e + 1) s1).2)
    else if bo = 50 then ((rnA k m nu f (bfr 1 3) x (e + 1) s1).1 - (rnA k m nu f (bfr k 1) m (e + 1) (rnA k m nu f (bfr 1 3) x (e + 1) s1).2).1, (rnA k m nu f (bfr k 1) m (e + 1) (rnA k m nu f (bfr 1 3) x (e + 1) s1).2).2)
    else if bo = 60 then (iXor (rnA k m nu f (bfr 2 2) (x - m) (e + 1) s1).1 5, (rnA k m nu f (bfr 2 2) (x - m) (e + 1) s1).2)
    else if bo = 61 then ((rnA k m nu f (bfr 2 3) x (e + 1) s1).1 + (rnA k m nu f (bfr k 1) 1 (e + 1) (rnA k m nu f (bfr 2 3) x (e + 1) s1).2).1, (rnA k m nu f (bfr k 1) 1 (e + 1) (rnA k m nu f (bfr 2 3) x (e + 1) s1).2).2)
    else (0, s1)
