/-! ===== sheets, shelves ===== -/
/-- the sheets' cells from a on; it k: the row of the k-th -/
def SHS (hp : HP) (a : Nat) (so le : List Int) (it : Nat → List (BitVec 64)) : Prop := (gF hp a 5 0 = some (mR (a + 1)) ∧ gF hp a 5 1 = some (mR (a + 2)) ∧ gF hp a 5 2 = some (mR (a + 3))) ∧ gA hp (a + 1) = some so ∧ gA hp (a + 2) = some le ∧ gQ hp (a + 3) 1 = some [some (a + 4), some (a + 5), some (a + 6), some (a + 7)] ∧ ∀ k, k < 4 → gJ hp (a + 4 + k) = some (it k)
def shOK (so le : List Int) (it : Nat → List (BitVec 64)) : Prop := so.length = 4 ∧ le.length = 4 ∧ (∀ k, k < 4 → (it k).length = 40) ∧ ∀ k, k < 4 → ∃ n : Nat, le.getD k 0 = (n : Int) ∧ n ≤ 40 ∧ -1 ≤ so.getD k 0 ∧ so.getD k 0 ≤ 3
theorem SHS_Fr {hp h : HP} {a x y : Nat} {so le : List Int} {it : Nat → List (BitVec 64)} (m : SHS hp a so le it) (f : Fr x y hp h) (o : a + 8 ≤ x ∨ y ≤ a) : SHS h a so le it := by
  obtain ⟨⟨a1, a2, a3⟩, b1, b2, b3, b4⟩ := m
  exact ⟨⟨by rw [gF_Fr f (by omega), a1], by rw [gF_Fr f (by omega), a2], by rw [gF_Fr f (by omega), a3]⟩, by rw [gA_Fr f (by omega), b1], by rw [gA_Fr f (by omega), b2], by rw [gQ_Fr f (by omega), b3], fun k hk => by rw [gJ_Fr f (by omega), b4 k hk]⟩
theorem SHS_1 {hp : HP} {a : Nat} {so le l : List Int} {it : Nat → List (BitVec 64)} (m : SHS hp a so le it) : SHS (pA hp (a + 1) l) a l le it := by
  obtain ⟨⟨a1, a2, a3⟩, b1, b2, b3, b4⟩ := m
  exact ⟨⟨by rw [gF_pA, a1], by rw [gF_pA, a2], by rw [gF_pA, a3]⟩, gA_pA_same b1, by rw [gA_pA (by omega), b2], by rw [gQ_pA, b3], fun k hk => by rw [gJ_pA, b4 k hk]⟩
theorem SHS_2 {hp : HP} {a : Nat} {so le l : List Int} {it : Nat → List (BitVec 64)} (m : SHS hp a so le it) : SHS (pA hp (a + 2) l) a so l it := by
  obtain ⟨⟨a1, a2, a3⟩, b1, b2, b3, b4⟩ := m
  exact ⟨⟨by rw [gF_pA, a1], by rw [gF_pA, a2], by rw [gF_pA, a3]⟩, by rw [gA_pA (by omega), b1], gA_pA_same b2, by rw [gQ_pA, b3], fun k hk => by rw [gJ_pA, b4 k hk]⟩
def updF {α : Type} (f : Nat → α) (k : Nat) (x : α) : Nat → α := fun j => if j = k then x else f j
theorem SHS_4 {hp : HP} {a k : Nat} {so le : List Int} {it : Nat → List (BitVec 64)} {l : List (BitVec 64)} (m : SHS hp a so le it) (hk : k < 4) : SHS (pJ hp (a + 4 + k) l) a so le (updF it k l) := by
  obtain ⟨⟨a1, a2, a3⟩, b1, b2, b3, b4⟩ := m
  refine ⟨⟨by rw [gF_pJ, a1], by rw [gF_pJ, a2], by rw [gF_pJ, a3]⟩, by rw [gA_pJ, b1], by rw [gA_pJ, b2], by rw [gQ_pJ, b3], fun j hj => ?_⟩
  unfold updF
  by_cases e : j = k
  · subst e; rw [if_pos rfl]; exact gJ_pJ_same (b4 j hj)
  · rw [if_neg e, gJ_pJ (by omega), b4 j hj]
theorem fillJ {N k : Nat} {l : List (BitVec 64)} {v : BitVec 64} (hl : l.length = N) (hk : k < N) : (List.replicate k v ++ l.drop k).set k v = List.replicate (k + 1) v ++ l.drop (k + 1) := by
  apply List.ext_getElem?
  intro j
  rw [List.getElem?_set]
  by_cases e : k = j
  · subst e
    rw [if_pos rfl, if_pos (by rw [List.length_append, List.length_replicate, List.length_drop]; omega), List.getElem?_append_left (by rw [List.length_replicate]; omega), List.getElem?_replicate, if_pos (by omega)]
  · rw [if_neg e]
    by_cases h : j < k
    · rw [List.getElem?_append_left (by rw [List.length_replicate]; omega), List.getElem?_append_left (by rw [List.length_replicate]; omega), List.getElem?_replicate, List.getElem?_replicate, if_pos h, if_pos (by omega)]
    · rw [List.getElem?_append_right (by rw [List.length_replicate]; omega), List.getElem?_append_right (by rw [List.length_replicate]; omega), List.length_replicate, List.length_replicate, List.getElem?_drop, List.getElem?_drop]
      congr 1; omega
theorem pJ_self {hp : HP} {a : Nat} {l : List (BitVec 64)} (h : gJ hp a = some l) : pJ hp a l = hp := by
  rw [pJ_is h]
  unfold gJ at h
  split at h
  · next l2 e =>
    cases h
    exact set_self e
  · cases h
set_option maxHeartbeats 8000000 in
theorem c_fillJ (d : Nat) {hp : HP} {a N : Nat} {l : List (BitVec 64)} {v : BitVec 64} (h : gJ hp a = some l) (hl : l.length = N) (hN : N < 100000) (R : PO) : callD (d + 1) 299 [mR a, mL v] hp R ↔ R none (pJ hp a (List.replicate N v)) := by
  rw [callD_k]; simp only [entL_i, entL_l, entL_q, entL_s, entL_nil, n_J7_fill_d0a16, u_J7_fill_d0a16, m_J7_fill_d0a16, rep_2, List.cons_append, List.nil_append, List.append_nil, List.length_cons, List.length_nil, Nat.reduceAdd, true_and]
  simp only [AW_k, AWk_1, x_push_i, x_push_l, x_istore_3, x_aload_0, x_aloads_0, x_alen_i, x_alen_l, x_istore_4, x_iload_3, x_iload_4, x_icmp_ge, x_lload_1, x_last, x_iinc_3, x_goto, x_ret, x_ret_i, x_ret_z, x_ret_l, x_ret_c, unl_i, unl_l, unl_q, unl_r, unl_s, unl_n, k_J7_fill_d0a16_0, k_J7_fill_d0a16_1, k_J7_fill_d0a16_2, k_J7_fill_d0a16_3, k_J7_fill_d0a16_4, k_J7_fill_d0a16_5, k_J7_fill_d0a16_6, k_J7_fill_d0a16_7, k_J7_fill_d0a16_8, k_J7_fill_d0a16_9, k_J7_fill_d0a16_10, k_J7_fill_d0a16_11, k_J7_fill_d0a16_12, k_J7_fill_d0a16_13, k_J7_fill_d0a16_14, oE_some, Int.reduceToNat, Nat.reduceAdd, true_and, and_true, List.length_cons, List.length_nil, Option.toList_some, Option.toList_none, List.cons_append, List.nil_append, Nat.reduceLeDiff, Nat.le_refl, wdS_nil, wdS_i, wdS_l, wdS_r, wdS_n, wdS_s, h]
  have key : ∀ (k : Nat), k ≤ N → (AWh d [] 299 R 5 [some (mR a), some (mL v), none, some (mI ((N - k : Nat) : Int)), some (mI (l.length : Int))] [] (pJ hp a (List.replicate (N - k) v ++ l.drop (N - k))) (0, 0) ↔ R none (pJ hp a (List.replicate N v))) := by
    intro k
    induction k with
    | zero =>
      intro hk
      rw [AWh_k, k_J7_fill_d0a16_5]
      simp only [AW_k, AWk_1, x_push_i, x_push_l, x_istore_3, x_aload_0, x_aloads_0, x_alen_i, x_alen_l, x_istore_4, x_iload_3, x_iload_4, x_icmp_ge, x_lload_1, x_last, x_iinc_3, x_goto, x_ret, x_ret_i, x_ret_z, x_ret_l, x_ret_c, unl_i, unl_l, unl_q, unl_r, unl_s, unl_n, k_J7_fill_d0a16_0, k_J7_fill_d0a16_1, k_J7_fill_d0a16_2, k_J7_fill_d0a16_3, k_J7_fill_d0a16_4, k_J7_fill_d0a16_5, k_J7_fill_d0a16_6, k_J7_fill_d0a16_7, k_J7_fill_d0a16_8, k_J7_fill_d0a16_9, k_J7_fill_d0a16_10, k_J7_fill_d0a16_11, k_J7_fill_d0a16_12, k_J7_fill_d0a16_13, k_J7_fill_d0a16_14, oE_some, Int.reduceToNat, Nat.reduceAdd, true_and, and_true, List.length_cons, List.length_nil, Option.toList_some, Option.toList_none, List.cons_append, List.nil_append, Nat.reduceLeDiff, Nat.le_refl, wdS_nil, wdS_i, wdS_l, wdS_r, wdS_n, wdS_s]
      rw [w32_nat (show N - 0 < 2147483648 by omega), w32_nat (show l.length < 2147483648 by omega), if_neg (by omega), Nat.sub_zero, List.drop_eq_nil_of_le (by omega), List.append_nil]
    | succ k ih =>
      intro hk
      have hlen : (List.replicate (N - (k + 1)) v ++ l.drop (N - (k + 1))).length = N := by rw [List.length_append, List.length_replicate, List.length_drop]; omega
      have j1 : N - (k + 1) < (List.replicate (N - (k + 1)) v ++ l.drop (N - (k + 1))).length := by omega
      have L1 : (List.replicate (N - (k + 1)) v ++ l.drop (N - (k + 1))).length < 2147483648 := by omega
      have bk : N - (k + 1) < 2147483648 := by omega
      rw [AWh_k, k_J7_fill_d0a16_5]
      simp only [AW_k, AWk_1, x_push_i, x_push_l, x_istore_3, x_aload_0, x_aloads_0, x_alen_i, x_alen_l, x_istore_4, x_iload_3, x_iload_4, x_icmp_ge, x_lload_1, x_last, x_iinc_3, x_goto, x_ret, x_ret_i, x_ret_z, x_ret_l, x_ret_c, unl_i, unl_l, unl_q, unl_r, unl_s, unl_n, k_J7_fill_d0a16_0, k_J7_fill_d0a16_1, k_J7_fill_d0a16_2, k_J7_fill_d0a16_3, k_J7_fill_d0a16_4, k_J7_fill_d0a16_5, k_J7_fill_d0a16_6, k_J7_fill_d0a16_7, k_J7_fill_d0a16_8, k_J7_fill_d0a16_9, k_J7_fill_d0a16_10, k_J7_fill_d0a16_11, k_J7_fill_d0a16_12, k_J7_fill_d0a16_13, k_J7_fill_d0a16_14, oE_some, Int.reduceToNat, Nat.reduceAdd, true_and, and_true, List.length_cons, List.length_nil, Option.toList_some, Option.toList_none, List.cons_append, List.nil_append, Nat.reduceLeDiff, Nat.le_refl, wdS_nil, wdS_i, wdS_l, wdS_r, wdS_n, wdS_s, gJ_pJ_same h, inB_n j1 L1, w32_tn bk, pJ_pJ, fillJ hl (show N - (k + 1) < N by omega)]
      rw [w32_nat (show N - (k + 1) < 2147483648 by omega), w32_nat (show l.length < 2147483648 by omega), if_pos (by omega)]
      have i1 := ih (by omega)
      rw [show N - k = N - (k + 1) + 1 by omega] at i1
      exact i1
  have := key N (Nat.le_refl _)
  rw [Nat.sub_self] at this
  rw [show (List.replicate 0 v ++ l.drop 0) = l from rfl, pJ_self h] at this
  exact this
theorem Q4 {a k : Nat} (hk : k < 4) : ([some (a + 4), some (a + 5), some (a + 6), some (a + 7)] : List (Option Nat)).getD k none = some (a + 4 + k) := by
  rcases (show k = 0 ∨ k = 1 ∨ k = 2 ∨ k = 3 by omega) with e | e | e | e <;> subst e <;> rfl
theorem has4 (x : Int) : (if x < 0 then (some (mI 0) : Option AV) else if x < 4 then some (mI 1) else some (mI 0)) = some (mI (zI (decide (0 ≤ x) && decide (x < 4)))) := by
  by_cases h : x < 0
  · rw [if_pos h, decide_eq_false (show ¬ 0 ≤ x by omega)]; rfl
  · rw [if_neg h, decide_eq_true (show 0 ≤ x by omega), ite_zI3]; rfl
set_option maxHeartbeats 8000000 in
theorem c5_has (d : Nat) {hp : HP} {a : Nat} {x : Int} (hx : w32 x = x) (R : PO) : callD (d + 1) 57 [mR a, mI x] hp R ↔ R (some (mI (zI (decide (0 ≤ x) && decide (x < 4))))) hp := by
  rw [callD_k]; simp only [entL_i, entL_l, entL_q, entL_s, entL_nil, n_X5_has, u_X5_has, m_X5_has, rep_0, List.cons_append, List.nil_append, List.append_nil, List.length_cons, List.length_nil, Nat.reduceAdd, true_and]
  simp only [AW_k, AWk_1, x_iload_1, x_if_lt, x_push_i, x_push_l, x_icmp_ge, x_goto, x_ret, x_ret_i, x_ret_z, x_ret_l, x_ret_c, k_X5_has_0, k_X5_has_1, k_X5_has_2, k_X5_has_3, k_X5_has_4, k_X5_has_5, k_X5_has_6, k_X5_has_7, k_X5_has_8, oE_some, Int.reduceToNat, Nat.reduceAdd, true_and, and_true, List.length_cons, List.length_nil, Option.toList_some, Option.toList_none, List.cons_append, List.nil_append, Nat.reduceLeDiff, Nat.le_refl, wdS_nil, wdS_i, wdS_l, wdS_r, wdS_n, wdS_s, or_true, true_or, R_ite, hx, show w32 4 = 4 from rfl, has4]
set_option maxHeartbeats 8000000 in
theorem c6_has (d : Nat) {hp : HP} {a : Nat} {x : Int} (hx : w32 x = x) (R : PO) : callD (d + 1) 63 [mR a, mI x] hp R ↔ R (some (mI (zI (decide (0 ≤ x) && decide (x < 4))))) hp := by
  rw [callD_k]; simp only [entL_i, entL_l, entL_q, entL_s, entL_nil, n_X6_has, u_X6_has, m_X6_has, rep_0, List.cons_append, List.nil_append, List.append_nil, List.length_cons, List.length_nil, Nat.reduceAdd, true_and]
  simp only [AW_k, AWk_1, x_iload_1, x_if_lt, x_push_i, x_push_l, x_icmp_ge, x_goto, x_ret, x_ret_i, x_ret_z, x_ret_l, x_ret_c, k_X6_has_0, k_X6_has_1, k_X6_has_2, k_X6_has_3, k_X6_has_4, k_X6_has_5, k_X6_has_6, k_X6_has_7, k_X6_has_8, oE_some, Int.reduceToNat, Nat.reduceAdd, true_and, and_true, List.length_cons, List.length_nil, Option.toList_some, Option.toList_none, List.cons_append, List.nil_append, Nat.reduceLeDiff, Nat.le_refl, wdS_nil, wdS_i, wdS_l, wdS_r, wdS_n, wdS_s, or_true, true_or, R_ite, hx, show w32 4 = 4 from rfl, has4]
set_option maxHeartbeats 8000000 in
theorem c5_renew (d : Nat) {hp : HP} {a k : Nat} {s n : Int} {so le : List Int} {it : Nat → List (BitVec 64)} (h : SHS hp a so le it) (hs : so.length = 4) (hl : le.length = 4) (hi : ∀ k, k < 4 → (it k).length = 40) (hk : k < 4) : ∃ h', SHS h' a (so.set k s) (le.set k n) (updF it k (List.replicate 40 0#64)) ∧ Fr a (a + 8) hp h' ∧ ∀ R : PO, callD (d + 2) 58 [mR a, mI (k : Int), mI s, mI n] hp R ↔ R (some (mI 1)) h' := by
  have h1 := SHS_1 (l := so.set k s) h
  have h2 := SHS_2 (l := le.set k n) h1
  have h3 := SHS_4 (k := k) (l := List.replicate 40 0#64) h2 hk
  refine ⟨_, h3, Fr_trans (Fr_trans (Fr_pA (by omega) (by omega)) (Fr_pA (by omega) (by omega))) (Fr_pJ (by omega) (by omega)), fun R => ?_⟩
  have bk : k < 2147483648 := by omega
  have j1 : k < so.length := by omega
  have j2 : k < le.length := by omega
  have L1 : so.length < 2147483648 := by omega
  have L2 : le.length < 2147483648 := by omega
  have j4 : inB (k : Int) (4 : Nat) := inB_n hk (by decide)
  have c := c_fillJ d (v := 0#64) (h2.2.2.2.2 k hk) (hi k hk) (by decide)
  rw [callD_k]; simp only [entL_i, entL_l, entL_q, entL_s, entL_nil, n_X5_renew, u_X5_renew, m_X5_renew, rep_0, List.cons_append, List.nil_append, List.append_nil, List.length_cons, List.length_nil, Nat.reduceAdd, true_and]
  simp only [AW_k, AWk_1, x_aload_0, x_aloads_0, x_getf, x_iload_1, x_iload_2, x_iast, x_iload_3, x_aald, x_push_i, x_push_l, x_call_2, x_ret, x_ret_i, x_ret_z, x_ret_l, x_ret_c, k_X5_renew_0, k_X5_renew_1, k_X5_renew_2, k_X5_renew_3, k_X5_renew_4, k_X5_renew_5, k_X5_renew_6, k_X5_renew_7, k_X5_renew_8, k_X5_renew_9, k_X5_renew_10, k_X5_renew_11, k_X5_renew_12, k_X5_renew_13, k_X5_renew_14, k_X5_renew_15, k_X5_renew_16, k_X5_renew_17, oE_some, Int.reduceToNat, Nat.reduceAdd, true_and, and_true, List.length_cons, List.length_nil, Option.toList_some, Option.toList_none, List.cons_append, List.nil_append, Nat.reduceLeDiff, Nat.le_refl, wdS_nil, wdS_i, wdS_l, wdS_r, wdS_n, wdS_s, h.1.1, h.2.1, inB_n j1 L1, w32_tn bk, h1.1.2.1, h1.2.2.1, inB_n j2 L2, h2.1.2.2, h2.2.2.2.1, j4, Q4 hk, c]
set_option maxHeartbeats 8000000 in
theorem c5_refusal (d : Nat) {hp : HP} {a k : Nat} {s : Int} {so le : List Int} {it : Nat → List (BitVec 64)} (h : SHS hp a so le it) (ho : shOK so le it) (hk : k < 4) (hs : w32 s = s) (R : PO) : callD (d + 1) 59 [mR a, mI (k : Int), mI s] hp R ↔ R (some (mI (if so.getD k 0 = -1 then -11 else if so.getD k 0 = s then 0 else -13))) hp := by
  obtain ⟨o1, o2, o3, o4⟩ := ho
  obtain ⟨n, q1, q2, q3, q4⟩ := o4 k hk
  have bk : k < 2147483648 := by omega
  have j1 : k < so.length := by omega
  have L1 : so.length < 2147483648 := by omega
  have r1 : -2147483648 ≤ so.getD k 0 := by omega
  have r2 : so.getD k 0 < 2147483648 := by omega
  rw [callD_k]; simp only [entL_i, entL_l, entL_q, entL_s, entL_nil, n_X5_refusal, u_X5_refusal, m_X5_refusal, rep_0, List.cons_append, List.nil_append, List.append_nil, List.length_cons, List.length_nil, Nat.reduceAdd, true_and]
  simp only [AW_k, AWk_1, x_aload_0, x_aloads_0, x_getf, x_iload_1, x_iald, x_ialds, x_push_i, x_push_l, x_icmp_ne, x_ret, x_ret_i, x_ret_z, x_ret_l, x_ret_c, x_iload_2, x_goto, k_X5_refusal_0, k_X5_refusal_1, k_X5_refusal_2, k_X5_refusal_3, k_X5_refusal_4, k_X5_refusal_5, k_X5_refusal_6, k_X5_refusal_7, k_X5_refusal_8, k_X5_refusal_9, k_X5_refusal_10, k_X5_refusal_11, k_X5_refusal_12, k_X5_refusal_13, k_X5_refusal_14, k_X5_refusal_15, k_X5_refusal_16, k_X5_refusal_17, oE_some, Int.reduceToNat, Nat.reduceAdd, true_and, and_true, List.length_cons, List.length_nil, Option.toList_some, Option.toList_none, List.cons_append, List.nil_append, Nat.reduceLeDiff, Nat.le_refl, wdS_nil, wdS_i, wdS_l, wdS_r, wdS_n, wdS_s, h.1.1, h.2.1, inB_n j1 L1, w32_tn bk, hs, w32_id r1 r2, show w32 (-1) = -1 from rfl]
  by_cases e : so.getD k 0 = -1
  · rw [if_pos e, if_pos e]
  · rw [if_neg e, if_neg e]
    by_cases e2 : so.getD k 0 = s
    · rw [if_pos e2, if_pos e2]
    · rw [if_neg e2, if_neg e2]
/-- do n items from i on lie in a row of le items -/
def rchs (le i n : Int) : Bool := decide (0 ≤ n) && (decide (0 ≤ i) && (decide (n ≤ le) && decide (i ≤ le - n)))
set_option maxHeartbeats 8000000 in
theorem c5_reaches (d : Nat) {hp : HP} {a k : Nat} {i n : Int} {so le : List Int} {it : Nat → List (BitVec 64)} (h : SHS hp a so le it) (ho : shOK so le it) (hk : k < 4) (hi : w32 i = i) (hn : w32 n = n) (R : PO) : callD (d + 1) 60 [mR a, mI (k : Int), mI i, mI n] hp R ↔ R (some (mI (zI (rchs (le.getD k 0) i n)))) hp := by
  obtain ⟨o1, o2, o3, o4⟩ := ho
  obtain ⟨m, q1, q2, q3, q4⟩ := o4 k hk
  have bk : k < 2147483648 := by omega
  have j1 : k < le.length := by omega
  have L1 : le.length < 2147483648 := by omega
  have r1 : -2147483648 ≤ le.getD k 0 := by omega
  have r2 : le.getD k 0 < 2147483648 := by omega
  have wr := w32_in n
  rw [hn] at wr
  unfold rchs
  generalize hle : le.getD k 0 = e at r1 r2 q1
  by_cases c1 : n < 0
  · rw [decide_eq_false (show ¬ 0 ≤ n by omega), Bool.false_and]
    rw [callD_k]; simp only [entL_i, entL_l, entL_q, entL_s, entL_nil, n_X5_reaches, u_X5_reaches, m_X5_reaches, rep_0, List.cons_append, List.nil_append, List.append_nil, List.length_cons, List.length_nil, Nat.reduceAdd, true_and]
    simp only [AW_k, AWk_1, x_iload_3, x_if_lt, x_iload_2, x_aload_0, x_aloads_0, x_getf, x_iload_1, x_iald, x_ialds, x_icmp_gt, x_isub, x_push_i, x_push_l, x_goto, x_ret, x_ret_i, x_ret_z, x_ret_l, x_ret_c, k_X5_reaches_0, k_X5_reaches_1, k_X5_reaches_2, k_X5_reaches_3, k_X5_reaches_4, k_X5_reaches_5, k_X5_reaches_6, k_X5_reaches_7, k_X5_reaches_8, k_X5_reaches_9, k_X5_reaches_10, k_X5_reaches_11, k_X5_reaches_12, k_X5_reaches_13, k_X5_reaches_14, k_X5_reaches_15, k_X5_reaches_16, k_X5_reaches_17, k_X5_reaches_18, k_X5_reaches_19, k_X5_reaches_20, k_X5_reaches_21, oE_some, Int.reduceToNat, Nat.reduceAdd, true_and, and_true, List.length_cons, List.length_nil, Option.toList_some, Option.toList_none, List.cons_append, List.nil_append, Nat.reduceLeDiff, Nat.le_refl, wdS_nil, wdS_i, wdS_l, wdS_r, wdS_n, wdS_s, or_true, true_or, hn]
    rw [if_pos c1]
    exact Iff.rfl
  · have c1' : 0 ≤ n := by omega
    rw [decide_eq_true c1', Bool.true_and]
    have r3 : -2147483648 ≤ e - n := by omega
    have r4 : e - n < 2147483648 := by omega
    rw [callD_k]; simp only [entL_i, entL_l, entL_q, entL_s, entL_nil, n_X5_reaches, u_X5_reaches, m_X5_reaches, rep_0, List.cons_append, List.nil_append, List.append_nil, List.length_cons, List.length_nil, Nat.reduceAdd, true_and]
    simp only [AW_k, AWk_1, x_iload_3, x_if_lt, x_iload_2, x_aload_0, x_aloads_0, x_getf, x_iload_1, x_iald, x_ialds, x_icmp_gt, x_isub, x_push_i, x_push_l, x_goto, x_ret, x_ret_i, x_ret_z, x_ret_l, x_ret_c, k_X5_reaches_0, k_X5_reaches_1, k_X5_reaches_2, k_X5_reaches_3, k_X5_reaches_4, k_X5_reaches_5, k_X5_reaches_6, k_X5_reaches_7, k_X5_reaches_8, k_X5_reaches_9, k_X5_reaches_10, k_X5_reaches_11, k_X5_reaches_12, k_X5_reaches_13, k_X5_reaches_14, k_X5_reaches_15, k_X5_reaches_16, k_X5_reaches_17, k_X5_reaches_18, k_X5_reaches_19, k_X5_reaches_20, k_X5_reaches_21, oE_some, Int.reduceToNat, Nat.reduceAdd, true_and, and_true, List.length_cons, List.length_nil, Option.toList_some, Option.toList_none, List.cons_append, List.nil_append, Nat.reduceLeDiff, Nat.le_refl, wdS_nil, wdS_i, wdS_l, wdS_r, wdS_n, wdS_s, or_true, true_or, hn, hi, h.1.2.1, h.2.2.1, inB_n j1 L1, w32_tn bk, hle, w32_id r1 r2, w32_id r3 r4]
    rw [if_neg c1]
    by_cases c2 : i < 0
    · rw [if_pos c2, decide_eq_false (show ¬ 0 ≤ i by omega)]; exact Iff.rfl
    · rw [if_neg c2, decide_eq_true (show 0 ≤ i by omega), Bool.true_and]
      by_cases c3 : e < n
      · rw [if_pos c3, decide_eq_false (show ¬ n ≤ e by omega)]; exact Iff.rfl
      · rw [if_neg c3, decide_eq_true (show n ≤ e by omega), Bool.true_and]
        by_cases c4 : e - n < i
        · rw [if_pos c4, decide_eq_false (show ¬ i ≤ e - n by omega)]; exact Iff.rfl
        · rw [if_neg c4, decide_eq_true (show i ≤ e - n by omega)]; exact Iff.rfl
/-- an item, narrowed to a sort -/
def nrw (v : BitVec 64) (s : Int) : BitVec 64 := if s = 0 then BitVec.ofInt 64 (w32 (i2b v.toInt)) else if s = 1 then BitVec.ofInt 64 (w32 (i2s v.toInt)) else if s = 2 then BitVec.ofInt 64 (w32 v.toInt) else v
set_option maxHeartbeats 8000000 in
theorem c5_narrowed (d : Nat) {hp : HP} {v : BitVec 64} {s : Int} (hs : w32 s = s) (R : PO) : callD (d + 1) 61 [mL v, mI s] hp R ↔ R (some (mL (nrw v s))) hp := by
  unfold nrw
  by_cases e0 : s = 0
  · subst e0
    rw [callD_k]; simp only [entL_i, entL_l, entL_q, entL_s, entL_nil, n_X5_narrowed, u_X5_narrowed, m_X5_narrowed, rep_0, List.cons_append, List.nil_append, List.append_nil, List.length_cons, List.length_nil, Nat.reduceAdd, true_and]
    simp only [AW_k, AWk_1, x_iload_2, x_switch, AW_sw, AW_sw0, x_lload_0, x_l2i, x_i2b, x_i2l, x_ret, x_ret_i, x_ret_z, x_ret_l, x_ret_c, x_i2s, k_X5_narrowed_0, k_X5_narrowed_1, k_X5_narrowed_2, k_X5_narrowed_3, k_X5_narrowed_4, k_X5_narrowed_5, k_X5_narrowed_6, k_X5_narrowed_7, k_X5_narrowed_8, k_X5_narrowed_9, k_X5_narrowed_10, k_X5_narrowed_11, k_X5_narrowed_12, k_X5_narrowed_13, k_X5_narrowed_14, k_X5_narrowed_15, k_X5_narrowed_16, k_X5_narrowed_17, oE_some, Int.reduceToNat, Nat.reduceAdd, true_and, and_true, List.length_cons, List.length_nil, Option.toList_some, Option.toList_none, List.cons_append, List.nil_append, Nat.reduceLeDiff, Nat.le_refl, wdS_nil, wdS_i, wdS_l, wdS_r, wdS_n, wdS_s, swT_cons, swT_nil, show w32 0 = 0 from rfl, if_true]
  by_cases e1 : s = 1
  · subst e1
    rw [callD_k]; simp only [entL_i, entL_l, entL_q, entL_s, entL_nil, n_X5_narrowed, u_X5_narrowed, m_X5_narrowed, rep_0, List.cons_append, List.nil_append, List.append_nil, List.length_cons, List.length_nil, Nat.reduceAdd, true_and]
    simp only [AW_k, AWk_1, x_iload_2, x_switch, AW_sw, AW_sw0, x_lload_0, x_l2i, x_i2b, x_i2l, x_ret, x_ret_i, x_ret_z, x_ret_l, x_ret_c, x_i2s, k_X5_narrowed_0, k_X5_narrowed_1, k_X5_narrowed_2, k_X5_narrowed_3, k_X5_narrowed_4, k_X5_narrowed_5, k_X5_narrowed_6, k_X5_narrowed_7, k_X5_narrowed_8, k_X5_narrowed_9, k_X5_narrowed_10, k_X5_narrowed_11, k_X5_narrowed_12, k_X5_narrowed_13, k_X5_narrowed_14, k_X5_narrowed_15, k_X5_narrowed_16, k_X5_narrowed_17, oE_some, Int.reduceToNat, Nat.reduceAdd, true_and, and_true, List.length_cons, List.length_nil, Option.toList_some, Option.toList_none, List.cons_append, List.nil_append, Nat.reduceLeDiff, Nat.le_refl, wdS_nil, wdS_i, wdS_l, wdS_r, wdS_n, wdS_s, swT_cons, swT_nil, show w32 1 = 1 from rfl, if_true, Int.reduceEq, if_false]
  by_cases e2 : s = 2
  · subst e2
    rw [callD_k]; simp only [entL_i, entL_l, entL_q, entL_s, entL_nil, n_X5_narrowed, u_X5_narrowed, m_X5_narrowed, rep_0, List.cons_append, List.nil_append, List.append_nil, List.length_cons, List.length_nil, Nat.reduceAdd, true_and]
    simp only [AW_k, AWk_1, x_iload_2, x_switch, AW_sw, AW_sw0, x_lload_0, x_l2i, x_i2b, x_i2l, x_ret, x_ret_i, x_ret_z, x_ret_l, x_ret_c, x_i2s, k_X5_narrowed_0, k_X5_narrowed_1, k_X5_narrowed_2, k_X5_narrowed_3, k_X5_narrowed_4, k_X5_narrowed_5, k_X5_narrowed_6, k_X5_narrowed_7, k_X5_narrowed_8, k_X5_narrowed_9, k_X5_narrowed_10, k_X5_narrowed_11, k_X5_narrowed_12, k_X5_narrowed_13, k_X5_narrowed_14, k_X5_narrowed_15, k_X5_narrowed_16, k_X5_narrowed_17, oE_some, Int.reduceToNat, Nat.reduceAdd, true_and, and_true, List.length_cons, List.length_nil, Option.toList_some, Option.toList_none, List.cons_append, List.nil_append, Nat.reduceLeDiff, Nat.le_refl, wdS_nil, wdS_i, wdS_l, wdS_r, wdS_n, wdS_s, swT_cons, swT_nil, show w32 2 = 2 from rfl, if_true, Int.reduceEq, if_false]
  · rw [callD_k]; simp only [entL_i, entL_l, entL_q, entL_s, entL_nil, n_X5_narrowed, u_X5_narrowed, m_X5_narrowed, rep_0, List.cons_append, List.nil_append, List.append_nil, List.length_cons, List.length_nil, Nat.reduceAdd, true_and]
    simp only [AW_k, AWk_1, x_iload_2, x_switch, AW_sw, AW_sw0, x_lload_0, x_l2i, x_i2b, x_i2l, x_ret, x_ret_i, x_ret_z, x_ret_l, x_ret_c, x_i2s, k_X5_narrowed_0, k_X5_narrowed_1, k_X5_narrowed_2, k_X5_narrowed_3, k_X5_narrowed_4, k_X5_narrowed_5, k_X5_narrowed_6, k_X5_narrowed_7, k_X5_narrowed_8, k_X5_narrowed_9, k_X5_narrowed_10, k_X5_narrowed_11, k_X5_narrowed_12, k_X5_narrowed_13, k_X5_narrowed_14, k_X5_narrowed_15, k_X5_narrowed_16, k_X5_narrowed_17, oE_some, Int.reduceToNat, Nat.reduceAdd, true_and, and_true, List.length_cons, List.length_nil, Option.toList_some, Option.toList_none, List.cons_append, List.nil_append, Nat.reduceLeDiff, Nat.le_refl, wdS_nil, wdS_i, wdS_l, wdS_r, wdS_n, wdS_s, swT_cons, swT_nil, hs, if_true, e0, e1, e2, if_false]
/-- the shelves' cells from a on -/
def SLS (hp : HP) (a : Nat) (he th le : List Int) : Prop := (gF hp a 6 0 = some (mR (a + 1)) ∧ gF hp a 6 1 = some (mR (a + 2)) ∧ gF hp a 6 2 = some (mR (a + 3))) ∧ gA hp (a + 1) = some he ∧ gA hp (a + 2) = some th ∧ gA hp (a + 3) = some le
theorem SLS_Fr {hp h : HP} {a x y : Nat} {he th le : List Int} (m : SLS hp a he th le) (f : Fr x y hp h) (o : a + 4 ≤ x ∨ y ≤ a) : SLS h a he th le := by
  obtain ⟨⟨a1, a2, a3⟩, b1, b2, b3⟩ := m
  exact ⟨⟨by rw [gF_Fr f (by omega), a1], by rw [gF_Fr f (by omega), a2], by rw [gF_Fr f (by omega), a3]⟩, by rw [gA_Fr f (by omega), b1], by rw [gA_Fr f (by omega), b2], by rw [gA_Fr f (by omega), b3]⟩
theorem SLS_1 {hp : HP} {a : Nat} {he th le l : List Int} (m : SLS hp a he th le) : SLS (pA hp (a + 1) l) a l th le := by
  obtain ⟨⟨a1, a2, a3⟩, b1, b2, b3⟩ := m
  exact ⟨⟨by rw [gF_pA, a1], by rw [gF_pA, a2], by rw [gF_pA, a3]⟩, gA_pA_same b1, by rw [gA_pA (by omega), b2], by rw [gA_pA (by omega), b3]⟩
theorem SLS_2 {hp : HP} {a : Nat} {he th le l : List Int} (m : SLS hp a he th le) : SLS (pA hp (a + 2) l) a he l le := by
  obtain ⟨⟨a1, a2, a3⟩, b1, b2, b3⟩ := m
  exact ⟨⟨by rw [gF_pA, a1], by rw [gF_pA, a2], by rw [gF_pA, a3]⟩, by rw [gA_pA (by omega), b1], gA_pA_same b2, by rw [gA_pA (by omega), b3]⟩
theorem SLS_3 {hp : HP} {a : Nat} {he th le l : List Int} (m : SLS hp a he th le) : SLS (pA hp (a + 3) l) a he th l := by
  obtain ⟨⟨a1, a2, a3⟩, b1, b2, b3⟩ := m
  exact ⟨⟨by rw [gF_pA, a1], by rw [gF_pA, a2], by rw [gF_pA, a3]⟩, by rw [gA_pA (by omega), b1], by rw [gA_pA (by omega), b2], gA_pA_same b3⟩
set_option maxHeartbeats 8000000 in
theorem c6_holdMaker (d : Nat) {hp : HP} {a k : Nat} {n : Int} {he th le : List Int} (h : SLS hp a he th le) (h1 : he.length = 4) (h2 : th.length = 4) (hk : k < 4) : ∃ h', SLS h' a (he.set k 1) (th.set k n) le ∧ Fr a (a + 4) hp h' ∧ ∀ R : PO, callD (d + 1) 64 [mR a, mI (k : Int), mI n] hp R ↔ R (some (mI 1)) h' := by
  have s1 := SLS_1 (l := he.set k 1) h
  have s2 := SLS_2 (l := th.set k n) s1
  refine ⟨_, s2, Fr_trans (Fr_pA (by omega) (by omega)) (Fr_pA (by omega) (by omega)), fun R => ?_⟩
  have bk : k < 2147483648 := by omega
  have j1 : k < he.length := by omega
  have j2 : k < th.length := by omega
  have L1 : he.length < 2147483648 := by omega
  have L2 : th.length < 2147483648 := by omega
  rw [callD_k]; simp only [entL_i, entL_l, entL_q, entL_s, entL_nil, n_X6_holdMaker, u_X6_holdMaker, m_X6_holdMaker, rep_0, List.cons_append, List.nil_append, List.append_nil, List.length_cons, List.length_nil, Nat.reduceAdd, true_and]
  simp only [AW_k, AWk_1, x_aload_0, x_aloads_0, x_getf, x_iload_1, x_push_i, x_push_l, x_iast, x_iload_2, x_ret, x_ret_i, x_ret_z, x_ret_l, x_ret_c, k_X6_holdMaker_0, k_X6_holdMaker_1, k_X6_holdMaker_2, k_X6_holdMaker_3, k_X6_holdMaker_4, k_X6_holdMaker_5, k_X6_holdMaker_6, k_X6_holdMaker_7, k_X6_holdMaker_8, k_X6_holdMaker_9, k_X6_holdMaker_10, k_X6_holdMaker_11, oE_some, Int.reduceToNat, Nat.reduceAdd, true_and, and_true, List.length_cons, List.length_nil, Option.toList_some, Option.toList_none, List.cons_append, List.nil_append, Nat.reduceLeDiff, Nat.le_refl, wdS_nil, wdS_i, wdS_l, wdS_r, wdS_n, wdS_s, h.1.1, h.2.1, inB_n j1 L1, w32_tn bk, s1.1.2.1, s1.2.2.1, inB_n j2 L2]
set_option maxHeartbeats 8000000 in
theorem c6_holdNothing (d : Nat) {hp : HP} {a k : Nat} {he th le : List Int} (h : SLS hp a he th le) (h1 : he.length = 4) (hk : k < 4) : ∃ h', SLS h' a (he.set k 0) th le ∧ Fr a (a + 4) hp h' ∧ ∀ R : PO, callD (d + 1) 66 [mR a, mI (k : Int)] hp R ↔ R (some (mI 1)) h' := by
  have s1 := SLS_1 (l := he.set k 0) h
  refine ⟨_, s1, Fr_pA (by omega) (by omega), fun R => ?_⟩
  have bk : k < 2147483648 := by omega
  have j1 : k < he.length := by omega
  have L1 : he.length < 2147483648 := by omega
  rw [callD_k]; simp only [entL_i, entL_l, entL_q, entL_s, entL_nil, n_X6_holdNothing, u_X6_holdNothing, m_X6_holdNothing, rep_0, List.cons_append, List.nil_append, List.append_nil, List.length_cons, List.length_nil, Nat.reduceAdd, true_and]
  simp only [AW_k, AWk_1, x_aload_0, x_aloads_0, x_getf, x_iload_1, x_push_i, x_push_l, x_iast, x_ret, x_ret_i, x_ret_z, x_ret_l, x_ret_c, k_X6_holdNothing_0, k_X6_holdNothing_1, k_X6_holdNothing_2, k_X6_holdNothing_3, k_X6_holdNothing_4, k_X6_holdNothing_5, k_X6_holdNothing_6, oE_some, Int.reduceToNat, Nat.reduceAdd, true_and, and_true, List.length_cons, List.length_nil, Option.toList_some, Option.toList_none, List.cons_append, List.nil_append, Nat.reduceLeDiff, Nat.le_refl, wdS_nil, wdS_i, wdS_l, wdS_r, wdS_n, wdS_s, h.1.1, h.2.1, inB_n j1 L1, w32_tn bk]
set_option maxHeartbeats 8000000 in
theorem c6_holdRow (d : Nat) {hp : HP} {a k : Nat} {s n : Int} {he th le : List Int} (h : SLS hp a he th le) (h1 : he.length = 4) (h2 : th.length = 4) (h3 : le.length = 4) (hk : k < 4) (hs : w32 s = s) : ∃ h', SLS h' a (he.set k (if s = -1 then 0 else 2)) (th.set k s) (le.set k n) ∧ Fr a (a + 4) hp h' ∧ ∀ R : PO, callD (d + 1) 65 [mR a, mI (k : Int), mI s, mI n] hp R ↔ R (some (mI 1)) h' := by
  have s1 := SLS_1 (l := he.set k (if s = -1 then 0 else 2)) h
  have s2 := SLS_2 (l := th.set k s) s1
  have s3 := SLS_3 (l := le.set k n) s2
  refine ⟨_, s3, Fr_trans (Fr_trans (Fr_pA (by omega) (by omega)) (Fr_pA (by omega) (by omega))) (Fr_pA (by omega) (by omega)), fun R => ?_⟩
  have bk : k < 2147483648 := by omega
  have j1 : k < he.length := by omega
  have j2 : k < th.length := by omega
  have j3 : k < le.length := by omega
  have L1 : he.length < 2147483648 := by omega
  have L2 : th.length < 2147483648 := by omega
  have L3 : le.length < 2147483648 := by omega
  by_cases e : s = -1
  · subst e
    rw [if_pos rfl] at s1 s2 ⊢
    rw [callD_k]; simp only [entL_i, entL_l, entL_q, entL_s, entL_nil, n_X6_holdRow, u_X6_holdRow, m_X6_holdRow, rep_0, List.cons_append, List.nil_append, List.append_nil, List.length_cons, List.length_nil, Nat.reduceAdd, true_and]
    simp only [AW_k, AWk_1, x_aload_0, x_aloads_0, x_getf, x_iload_1, x_iload_2, x_push_i, x_push_l, x_icmp_ne, x_goto, x_iast, x_iload_3, x_ret, x_ret_i, x_ret_z, x_ret_l, x_ret_c, k_X6_holdRow_0, k_X6_holdRow_1, k_X6_holdRow_2, k_X6_holdRow_3, k_X6_holdRow_4, k_X6_holdRow_5, k_X6_holdRow_6, k_X6_holdRow_7, k_X6_holdRow_8, k_X6_holdRow_9, k_X6_holdRow_10, k_X6_holdRow_11, k_X6_holdRow_12, k_X6_holdRow_13, k_X6_holdRow_14, k_X6_holdRow_15, k_X6_holdRow_16, k_X6_holdRow_17, k_X6_holdRow_18, k_X6_holdRow_19, k_X6_holdRow_20, k_X6_holdRow_21, oE_some, Int.reduceToNat, Nat.reduceAdd, true_and, and_true, List.length_cons, List.length_nil, Option.toList_some, Option.toList_none, List.cons_append, List.nil_append, Nat.reduceLeDiff, Nat.le_refl, wdS_nil, wdS_i, wdS_l, wdS_r, wdS_n, wdS_s, h.1.1, h.2.1, inB_n j1 L1, w32_tn bk, s1.1.2.1, s1.2.2.1, inB_n j2 L2, s2.1.2.2, s2.2.2.2, inB_n j3 L3, show w32 (-1) = -1 from rfl, if_true]
  · rw [if_neg e] at s1 s2 ⊢
    rw [callD_k]; simp only [entL_i, entL_l, entL_q, entL_s, entL_nil, n_X6_holdRow, u_X6_holdRow, m_X6_holdRow, rep_0, List.cons_append, List.nil_append, List.append_nil, List.length_cons, List.length_nil, Nat.reduceAdd, true_and]
    simp only [AW_k, AWk_1, x_aload_0, x_aloads_0, x_getf, x_iload_1, x_iload_2, x_push_i, x_push_l, x_icmp_ne, x_goto, x_iast, x_iload_3, x_ret, x_ret_i, x_ret_z, x_ret_l, x_ret_c, k_X6_holdRow_0, k_X6_holdRow_1, k_X6_holdRow_2, k_X6_holdRow_3, k_X6_holdRow_4, k_X6_holdRow_5, k_X6_holdRow_6, k_X6_holdRow_7, k_X6_holdRow_8, k_X6_holdRow_9, k_X6_holdRow_10, k_X6_holdRow_11, k_X6_holdRow_12, k_X6_holdRow_13, k_X6_holdRow_14, k_X6_holdRow_15, k_X6_holdRow_16, k_X6_holdRow_17, k_X6_holdRow_18, k_X6_holdRow_19, k_X6_holdRow_20, k_X6_holdRow_21, oE_some, Int.reduceToNat, Nat.reduceAdd, true_and, and_true, List.length_cons, List.length_nil, Option.toList_some, Option.toList_none, List.cons_append, List.nil_append, Nat.reduceLeDiff, Nat.le_refl, wdS_nil, wdS_i, wdS_l, wdS_r, wdS_n, wdS_s, h.1.1, h.2.1, inB_n j1 L1, w32_tn bk, s1.1.2.1, s1.2.2.1, inB_n j2 L2, s2.1.2.2, s2.2.2.2, inB_n j3 L3, hs, show w32 (-1) = -1 from rfl, e, if_false]
