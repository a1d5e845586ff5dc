/-! ===== the reference's search ===== -/
theorem cls_conn {n : Nat} {G : BitVec 64} (h1 : 1 ≤ n) (h6 : n ≤ 6) (hG : clo n G) {V : Nat → Prop} {s : Nat} (hs : s < FC n) (hsL : isL n G s = true) (hV : V s) (hc : ∀ x, x < FC n → isL n G x = true → V x → ∀ y, y ∈ nr0 n G x ∨ y ∈ nr1 n G x → V y) : ∀ c, c < FC n → isL n G c = true → V c := by
  have hok := nr_ok h1 h6 hG
  have down : ∀ m x, x ≤ m → x < FC n → isL n G x = true → V x → V 0 := by
    intro m
    induction m with
    | zero =>
      intro x hx _ _ hv
      rw [show x = 0 by omega] at hv
      exact hv
    | succ m ih =>
      intro x hx hxF hxL hv
      by_cases e : x = 0
      · rw [e] at hv; exact hv
      · obtain ⟨a, b⟩ := hok x hxF hxL
        have hne := b (by omega)
        cases hn : nr0 n G x with
        | nil => exact absurd hn hne
        | cons y ns =>
          have hy : y ∈ nr0 n G x := by rw [hn]; exact List.mem_cons_self ..
          obtain ⟨y1, y2⟩ := a y hy
          exact ih y (by omega) (by omega) y2 (hc x hxF hxL hv y (Or.inl hy))
  have h0 := down s s (Nat.le_refl _) hs hsL hV
  have up : ∀ m c, c ≤ m → c < FC n → isL n G c = true → V c := by
    intro m
    induction m with
    | zero =>
      intro c hc0 _ _
      rw [show c = 0 by omega]
      exact h0
    | succ m ih =>
      intro c hc0 hcF hcL
      by_cases e : c = 0
      · rw [e]; exact h0
      · obtain ⟨a, b⟩ := hok c hcF hcL
        have hne := b (by omega)
        cases hn : nr0 n G c with
        | nil => exact absurd hn hne
        | cons y ns =>
          have hy : y ∈ nr0 n G c := by rw [hn]; exact List.mem_cons_self ..
          obtain ⟨y1, y2⟩ := a y hy
          have hVy := ih y (by omega) (by omega) y2
          exact hc y (by omega) y2 hVy c (Or.inr (nr_dual h1 h6 hG hcF (isL_lst h1 h6 hcF hcL) hy))
  exact fun c => up c c (Nat.le_refl _)
/-- the reference's arrays of the walks -/
def BW (h : HP) (n : Nat) (G : BitVec 64) (li st fe qu : List Int) : Prop := MA h n ∧ ML h G li ∧ (gF h 54 11 30 = some (mR 69) ∧ gF h 54 11 31 = some (mR 70) ∧ gF h 54 11 32 = some (mR 71)) ∧ (gA h 69 = some st ∧ gA h 70 = some fe ∧ gA h 71 = some qu) ∧ st.length = 120 ∧ fe.length = 120 ∧ qu.length = 120
theorem BW_68 {h : HP} {n : Nat} {G : BitVec 64} {li st fe qu l : List Int} (w : BW h n G li st fe qu) (hl : l.length = 6) : BW (pA h 68 l) n G l st fe qu := by
  obtain ⟨a, b, ⟨c1, c2, c3⟩, ⟨d1, d2, d3⟩, r⟩ := w
  exact ⟨MA_pA a (by omega), ML_pA b hl, ⟨by rw [gF_pA, c1], by rw [gF_pA, c2], by rw [gF_pA, c3]⟩, ⟨by rw [gA_pA (by omega), d1], by rw [gA_pA (by omega), d2], by rw [gA_pA (by omega), d3]⟩, r⟩
theorem BW_69 {h : HP} {n : Nat} {G : BitVec 64} {li st fe qu l : List Int} (w : BW h n G li st fe qu) (hl : l.length = 120) : BW (pA h 69 l) n G li l fe qu := by
  obtain ⟨a, ⟨b1, b2, b3, b4⟩, ⟨c1, c2, c3⟩, ⟨d1, d2, d3⟩, r1, r2, r3⟩ := w
  exact ⟨MA_pA a (by omega), ⟨by rw [gF_pA, b1], by rw [gF_pA, b2], by rw [gA_pA (by omega), b3], b4⟩, ⟨by rw [gF_pA, c1], by rw [gF_pA, c2], by rw [gF_pA, c3]⟩, ⟨gA_pA_same d1, by rw [gA_pA (by omega), d2], by rw [gA_pA (by omega), d3]⟩, hl, r2, r3⟩
theorem BW_70 {h : HP} {n : Nat} {G : BitVec 64} {li st fe qu l : List Int} (w : BW h n G li st fe qu) (hl : l.length = 120) : BW (pA h 70 l) n G li st l qu := by
  obtain ⟨a, ⟨b1, b2, b3, b4⟩, ⟨c1, c2, c3⟩, ⟨d1, d2, d3⟩, r1, r2, r3⟩ := w
  exact ⟨MA_pA a (by omega), ⟨by rw [gF_pA, b1], by rw [gF_pA, b2], by rw [gA_pA (by omega), b3], b4⟩, ⟨by rw [gF_pA, c1], by rw [gF_pA, c2], by rw [gF_pA, c3]⟩, ⟨by rw [gA_pA (by omega), d1], gA_pA_same d2, by rw [gA_pA (by omega), d3]⟩, r1, hl, r3⟩
theorem BW_71 {h : HP} {n : Nat} {G : BitVec 64} {li st fe qu l : List Int} (w : BW h n G li st fe qu) (hl : l.length = 120) : BW (pA h 71 l) n G li st fe l := by
  obtain ⟨a, ⟨b1, b2, b3, b4⟩, ⟨c1, c2, c3⟩, ⟨d1, d2, d3⟩, r1, r2, r3⟩ := w
  exact ⟨MA_pA a (by omega), ⟨by rw [gF_pA, b1], by rw [gF_pA, b2], by rw [gA_pA (by omega), b3], b4⟩, ⟨by rw [gF_pA, c1], by rw [gF_pA, c2], by rw [gF_pA, c3]⟩, ⟨by rw [gA_pA (by omega), d1], by rw [gA_pA (by omega), d2], gA_pA_same d3⟩, r1, r2, hl⟩
theorem set_fill {l : List Int} {k : Nat} (hk : k < 120) (hl : l.length = 120) (h : ∀ j, j < k → l.getD j 0 = -1) : ∀ j, j < k + 1 → (l.set k (-1)).getD j 0 = -1 := by
  intro j hj
  rw [getD_set (by omega)]
  by_cases e : k = j
  · rw [if_pos e]
  · rw [if_neg e]; exact h j (by omega)
theorem rep_of {l : List Int} (hl : l.length = 120) (h : ∀ j, j < 120 → l.getD j 0 = -1) : l = List.replicate 120 (-1) := by
  apply List.ext_getElem
  · rw [hl, List.length_replicate]
  · intro j a b
    rw [List.getElem_replicate]
    have := h j (by omega)
    rw [List.getD_eq_getElem?_getD, List.getElem?_eq_getElem a] at this
    exact this
set_option maxHeartbeats 16000000 in
theorem m_begins (d : Nat) {hp : HP} {n : Nat} {G : BitVec 64} {li st fe qu : List Int} (w : BW hp n G li st fe qu) : ∃ h', BW h' n G li (List.replicate 120 (-1)) (List.replicate 120 (-1)) qu ∧ Fr 68 72 hp h' ∧ ∀ R : PO, callD (d + 1) 239 [mR 54] hp R ↔ R none h' := by
  have key : ∀ (m k : Nat) (st fe : List Int) (h : HP), k + m = 120 → BW h n G li st fe qu → (∀ j, j < k → st.getD j 0 = -1) → (∀ j, j < k → fe.getD j 0 = -1) → ∃ h', BW h' n G li (List.replicate 120 (-1)) (List.replicate 120 (-1)) qu ∧ Fr 68 72 h h' ∧ ∀ R : PO, AWh d [] 239 R 2 [some (mR 54), some (mI (k : Int))] [] h (0, 0) ↔ R none h' := by
    intro m
    induction m with
    | zero =>
      intro k st fe h hk w x y
      have e : k = 120 := by omega
      subst e
      rw [rep_of w.2.2.2.2.1 x, rep_of w.2.2.2.2.2.1 y] at w
      refine ⟨h, w, Fr_refl h, fun R => ?_⟩
      rw [AWh_k, k_X11_begins_2]
      simp only [AW_k, AWk_1, x_iload_1, x_push_i, x_push_l, x_icmp_ge, x_aload_0, x_aloads_0, x_getf, x_iast, x_iinc_1, x_goto, x_ret, x_ret_i, x_ret_z, x_ret_l, x_ret_c, unl_i, unl_l, unl_q, unl_r, unl_s, unl_n, k_X11_begins_2, k_X11_begins_3, k_X11_begins_4, k_X11_begins_5, k_X11_begins_6, k_X11_begins_7, k_X11_begins_8, k_X11_begins_9, k_X11_begins_10, k_X11_begins_11, k_X11_begins_12, k_X11_begins_13, k_X11_begins_14, k_X11_begins_15, k_X11_begins_16, k_X11_begins_17, oE_some, Int.reduceToNat, Nat.reduceAdd, true_and, and_true, List.length_cons, List.length_nil, Option.toList_some, Option.toList_none, List.cons_append, List.nil_append, Nat.reduceLeDiff, Nat.le_refl, wdS_nil, wdS_i, wdS_l, wdS_r, wdS_n, wdS_s, show w32 ((120 : Nat) : Int) = 120 from rfl, show w32 120 = 120 from rfl, Int.lt_irrefl, ↓reduceIte]
    | succ m ih =>
      intro k st fe h hk w x y
      have hk2 : k < 120 := by omega
      have n1 := w.2.2.2.2.1
      have n2 := w.2.2.2.2.2.1
      have w1 := BW_69 (l := st.set k (-1)) w (by rw [List.length_set]; exact n1)
      have w2 := BW_70 (l := fe.set k (-1)) w1 (by rw [List.length_set]; exact n2)
      obtain ⟨h', a, b, c⟩ := ih (k + 1) _ _ _ (by omega) w2 (set_fill hk2 n1 x) (set_fill hk2 n2 y)
      refine ⟨h', a, Fr_trans (Fr_trans (Fr_pA (by omega) (by omega)) (Fr_pA (by omega) (by omega))) b, fun R => ?_⟩
      have i1 : inB (k : Int) st.length := by rw [n1]; exact inB_n hk2 (by decide)
      have i2 : inB (k : Int) fe.length := by rw [n2]; exact inB_n hk2 (by decide)
      have bk : k < 2147483648 := by omega
      have c1 : ((k : Int) < 120) = True := eq_true (by omega)
      have ek : (k : Int) + 1 = ((k + 1 : Nat) : Int) := by omega
      refine Iff.trans ?_ (c R)
      rw [AWh_k, k_X11_begins_2]
      simp only [AW_k, AWk_1, x_iload_1, x_push_i, x_push_l, x_icmp_ge, x_aload_0, x_aloads_0, x_getf, x_iast, x_iinc_1, x_goto, x_ret, x_ret_i, x_ret_z, x_ret_l, x_ret_c, unl_i, unl_l, unl_q, unl_r, unl_s, unl_n, k_X11_begins_2, k_X11_begins_3, k_X11_begins_4, k_X11_begins_5, k_X11_begins_6, k_X11_begins_7, k_X11_begins_8, k_X11_begins_9, k_X11_begins_10, k_X11_begins_11, k_X11_begins_12, k_X11_begins_13, k_X11_begins_14, k_X11_begins_15, k_X11_begins_16, k_X11_begins_17, oE_some, Int.reduceToNat, Nat.reduceAdd, true_and, and_true, List.length_cons, List.length_nil, Option.toList_some, Option.toList_none, List.cons_append, List.nil_append, Nat.reduceLeDiff, Nat.le_refl, wdS_nil, wdS_i, wdS_l, wdS_r, wdS_n, wdS_s, w.2.2.1.1, w.2.2.1.2.1, w.2.2.2.1.1, w1.2.2.2.1.2.1, w1.2.2.1.2.1, i1, i2, w32_nat bk, Int.toNat_natCast, show w32 120 = 120 from rfl, c1, ek, ↓reduceIte]
  obtain ⟨h', a, b, c⟩ := key 120 0 st fe hp (by omega) w (fun j hj => absurd hj (Nat.not_lt_zero j)) (fun j hj => absurd hj (Nat.not_lt_zero j))
  refine ⟨h', a, b, fun R => ?_⟩
  refine Iff.trans ?_ (c R)
  rw [callD_k]; simp only [entL_i, entL_l, entL_q, entL_s, entL_nil, n_X11_begins, u_X11_begins, m_X11_begins, rep_1, List.cons_append, List.nil_append, List.append_nil, List.length_cons, List.length_nil, Nat.reduceAdd, true_and]
  simp only [AW_k, AWk_1, x_push_i, x_push_l, x_istore_1, x_iload_1, unl_i, unl_l, unl_q, unl_r, unl_s, unl_n, k_X11_begins_0, k_X11_begins_1, k_X11_begins_2, oE_some, Int.reduceToNat, Nat.reduceAdd, true_and, and_true, List.length_cons, List.length_nil, Option.toList_some, Option.toList_none, List.cons_append, List.nil_append, Nat.reduceLeDiff, Nat.le_refl, wdS_nil, wdS_i, wdS_l, wdS_r, wdS_n, wdS_s]
  all_goals exact Iff.rfl
