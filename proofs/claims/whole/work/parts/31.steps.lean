/-! ===== frames: what lies outside [a, b) is as it was ===== -/
def Fr (a b : Nat) (hp h : HP) : Prop := h.length = hp.length ∧ ∀ k, k < a ∨ b ≤ k → h[k]? = hp[k]?
theorem Fr_refl {a b : Nat} (hp : HP) : Fr a b hp hp := ⟨rfl, fun _ _ => rfl⟩
theorem Fr_trans {a b : Nat} {h1 h2 h3 : HP} (x : Fr a b h1 h2) (y : Fr a b h2 h3) : Fr a b h1 h3 := ⟨y.1.trans x.1, fun k hk => (y.2 k hk).trans (x.2 k hk)⟩
theorem Fr_mono {a b c e : Nat} {h1 h2 : HP} (x : Fr a b h1 h2) (ha : c ≤ a) (hb : b ≤ e) : Fr c e h1 h2 := ⟨x.1, fun k hk => x.2 k (by omega)⟩
theorem Fr_pA {a b x : Nat} {hp : HP} {l : List Int} (h1 : a ≤ x) (h2 : x < b) : Fr a b hp (pA hp x l) := by
  refine ⟨len_pA, fun k hk => ?_⟩
  unfold pA
  split
  · rw [List.getElem?_set_ne (by omega)]
  · rfl
theorem Fr_pB {a b x : Nat} {hp : HP} {l : List Int} (h1 : a ≤ x) (h2 : x < b) : Fr a b hp (pB hp x l) := by
  refine ⟨len_pB, fun k hk => ?_⟩
  unfold pB
  split
  · rw [List.getElem?_set_ne (by omega)]
  · rfl
theorem Fr_pJ {a b x : Nat} {hp : HP} {l : List (BitVec 64)} (h1 : a ≤ x) (h2 : x < b) : Fr a b hp (pJ hp x l) := by
  refine ⟨len_pJ, fun k hk => ?_⟩
  unfold pJ
  split
  · rw [List.getElem?_set_ne (by omega)]
  · rfl
theorem Fr_pF {a b x ci f : Nat} {hp : HP} {v : AV} (h1 : a ≤ x) (h2 : x < b) : Fr a b hp (pF hp x ci f v) := by
  refine ⟨len_pF, fun k hk => ?_⟩
  unfold pF
  split
  · split
    · rw [List.getElem?_set_ne (by omega)]
    · rfl
  · rfl
theorem Fr_pQ {a b x t : Nat} {hp : HP} {l : List (Option Nat)} (h1 : a ≤ x) (h2 : x < b) : Fr a b hp (pQ hp x t l) := by
  refine ⟨len_pQ, fun k hk => ?_⟩
  unfold pQ
  split
  · split
    · rw [List.getElem?_set_ne (by omega)]
    · rfl
  · rfl
theorem gF_Fr {a b k c f : Nat} {hp h : HP} (x : Fr a b hp h) (hk : k < a ∨ b ≤ k) : gF h k c f = gF hp k c f := by unfold gF; rw [x.2 k hk]
theorem gC_Fr {a b k : Nat} {hp h : HP} (x : Fr a b hp h) (hk : k < a ∨ b ≤ k) : gC h k = gC hp k := by unfold gC; rw [x.2 k hk]
theorem gA_Fr {a b k : Nat} {hp h : HP} (x : Fr a b hp h) (hk : k < a ∨ b ≤ k) : gA h k = gA hp k := by unfold gA; rw [x.2 k hk]
theorem gB_Fr {a b k : Nat} {hp h : HP} (x : Fr a b hp h) (hk : k < a ∨ b ≤ k) : gB h k = gB hp k := by unfold gB; rw [x.2 k hk]
theorem gJ_Fr {a b k : Nat} {hp h : HP} (x : Fr a b hp h) (hk : k < a ∨ b ≤ k) : gJ h k = gJ hp k := by unfold gJ; rw [x.2 k hk]
theorem gQ_Fr {a b k t : Nat} {hp h : HP} (x : Fr a b hp h) (hk : k < a ∨ b ≤ k) : gQ h k t = gQ hp k t := by unfold gQ; rw [x.2 k hk]
theorem RWS_Fr {a b ra n : Nat} {hp h : HP} (r : RWS hp ra n) (x : Fr a b hp h) (hk : ra + 16 ≤ a ∨ b ≤ ra) : RWS h ra n := RWS_eq r (fun k h1 h2 => x.2 k (by omega))
theorem gC_of {hp : HP} {a ci k : Nat} {v : AV} (h : gF hp a ci k = some v) : gC hp a = some ci := by
  unfold gF at h
  unfold gC
  split at h
  · next c fs e =>
    split at h
    · next hc => rw [hc]
    · cases h
  · cases h
/-! ===== steps from class to class ===== -/
/-- the walks' cells from w on -/
def WK (hp : HP) (w : Nat) (l st q : List Int) : Prop := (gF hp w 9 0 = some (mR (w + 1)) ∧ gF hp w 9 1 = some (mR (w + 2)) ∧ gF hp w 9 2 = some (mR (w + 3))) ∧ gA hp (w + 1) = some l ∧ gA hp (w + 2) = some st ∧ gA hp (w + 3) = some q ∧ l.length = 6 ∧ st.length = 120 ∧ q.length = 120
theorem WK_1 {hp : HP} {w : Nat} {l st q l' : List Int} (h : WK hp w l st q) (hl : l'.length = 6) : WK (pA hp (w + 1) l') w l' st q := by
  obtain ⟨⟨a1, a2, a3⟩, b1, b2, b3, c1, c2, c3⟩ := h
  exact ⟨⟨by rw [gF_pA, a1], by rw [gF_pA, a2], by rw [gF_pA, a3]⟩, gA_pA_same b1, by rw [gA_pA (by omega), b2], by rw [gA_pA (by omega), b3], hl, c2, c3⟩
theorem WK_2 {hp : HP} {w : Nat} {l st q l' : List Int} (h : WK hp w l st q) (hl : l'.length = 120) : WK (pA hp (w + 2) l') w l l' q := by
  obtain ⟨⟨a1, a2, a3⟩, b1, b2, b3, c1, c2, c3⟩ := h
  exact ⟨⟨by rw [gF_pA, a1], by rw [gF_pA, a2], by rw [gF_pA, a3]⟩, by rw [gA_pA (by omega), b1], gA_pA_same b2, by rw [gA_pA (by omega), b3], c1, hl, c3⟩
theorem WK_3 {hp : HP} {w : Nat} {l st q l' : List Int} (h : WK hp w l st q) (hl : l'.length = 120) : WK (pA hp (w + 3) l') w l st l' := by
  obtain ⟨⟨a1, a2, a3⟩, b1, b2, b3, c1, c2, c3⟩ := h
  exact ⟨⟨by rw [gF_pA, a1], by rw [gF_pA, a2], by rw [gF_pA, a3]⟩, by rw [gA_pA (by omega), b1], by rw [gA_pA (by omega), b2], gA_pA_same b3, c1, c2, hl⟩
/-- the first entries of l are those of ns -/
def pre (l : List Int) (ns : List Nat) : Prop := ∀ k, k < ns.length → l.getD k 0 = ((ns.getD k 0 : Nat) : Int)
theorem getD_set {α : Type} {l : List α} {i j : Nat} {x d : α} (hi : i < l.length) : (l.set i x).getD j d = if i = j then x else l.getD j d := by
  rw [List.getD_eq_getElem?_getD, List.getD_eq_getElem?_getD, List.getElem?_set]
  by_cases e : i = j
  · subst e; rw [if_pos rfl, if_pos rfl, if_pos hi]; rfl
  · rw [if_neg e, if_neg e]
/-- where x goes in a line of k that ascends -/
def posS (x : Nat) (ns : List Nat) : Nat → Nat
  | 0 => 0
  | k + 1 => if x < ns.getD k 0 then posS x ns k else k + 1
def insS (x : Nat) (ns : List Nat) : List Nat := ns.take (posS x ns ns.length) ++ x :: ns.drop (posS x ns ns.length)
theorem posS_le (x : Nat) (ns : List Nat) : ∀ k, posS x ns k ≤ k := by
  intro k
  induction k with
  | zero => exact Nat.le_refl _
  | succ k ih =>
    unfold posS
    split
    · omega
    · exact Nat.le_refl _
theorem insS_len (x : Nat) (ns : List Nat) : (insS x ns).length = ns.length + 1 := by
  unfold insS
  have := posS_le x ns ns.length
  rw [List.length_append, List.length_cons, List.length_take, List.length_drop]
  omega
theorem insS_get (x : Nat) (ns : List Nat) (k : Nat) : (insS x ns).getD k 0 = if k < posS x ns ns.length then ns.getD k 0 else if k = posS x ns ns.length then x else ns.getD (k - 1) 0 := by
  unfold insS
  have hp := posS_le x ns ns.length
  generalize posS x ns ns.length = p at hp
  simp only [List.getD_eq_getElem?_getD]
  by_cases h1 : k < p
  · rw [if_pos h1, List.getElem?_append_left (by rw [List.length_take]; omega), List.getElem?_take, if_pos h1]
  · rw [if_neg h1, List.getElem?_append_right (by rw [List.length_take]; omega), List.length_take, Nat.min_eq_left hp]
    by_cases h2 : k = p
    · subst h2; rw [if_pos rfl, Nat.sub_self]; rfl
    · rw [if_neg h2, show k - p = (k - p - 1) + 1 by omega, List.getElem?_cons_succ, List.getElem?_drop]
      congr 2; omega
theorem insS_mem {x y : Nat} {ns : List Nat} (h : y ∈ insS x ns) : y = x ∨ y ∈ ns := by
  unfold insS at h
  rcases List.mem_append.mp h with h | h
  · exact Or.inr (List.mem_of_mem_take h)
  · rcases List.mem_cons.mp h with h | h
    · exact Or.inl h
    · exact Or.inr (List.mem_of_mem_drop h)
theorem getD_mem {ns : List Nat} {k : Nat} (h : k < ns.length) : ns.getD k 0 ∈ ns := by
  rw [List.getD_eq_getElem?_getD, List.getElem?_eq_getElem h]
  exact List.getElem_mem h
theorem insS_bd {x N : Nat} {ns : List Nat} (hx : x < N) (h : ∀ y ∈ ns, y < N) : ∀ y ∈ insS x ns, y < N := by
  intro y hy
  rcases insS_mem hy with e | e
  · rw [e]; exact hx
  · exact h y e
set_option maxHeartbeats 8000000 in
theorem c9_insertNear (d : Nat) {hp : HP} {w x : Nat} {l st q : List Int} {ns : List Nat} (h : WK hp w l st q) (hx : x < 720) (hb : ∀ y ∈ ns, y < 720) (hn : ns.length < 6) (hp1 : pre l ns) : ∃ l', pre l' (insS x ns) ∧ l'.length = 6 ∧ ∀ R : PO, callD (d + 1) 94 [mR w, mI (x : Int), mI (ns.length : Int)] hp R ↔ R none (pA hp (w + 1) l') := by
  have key : ∀ (k : Nat) (l1 : List Int) (h1 : HP), WK h1 w l1 st q → k ≤ ns.length → (∀ j, j < k → l1.getD j 0 = ((ns.getD j 0 : Nat) : Int)) → (∀ j, k < j → j ≤ ns.length → l1.getD j 0 = ((ns.getD (j - 1) 0 : Nat) : Int)) → (posS x ns ns.length = posS x ns k) → ∃ l', pre l' (insS x ns) ∧ l'.length = 6 ∧ ∀ R : PO, AWh d [] 94 R 4 [some (mR w), some (mI (x : Int)), some (mI (ns.length : Int)), some (mI (k : Int)), some (mI ((ns.length - k : Nat) : Int))] [] h1 (0, 0) ↔ R none (pA h1 (w + 1) l') := by
    have fin : ∀ (k : Nat) (l1 : List Int) (h1 : HP), WK h1 w l1 st q → k ≤ ns.length → (∀ j, j < k → l1.getD j 0 = ((ns.getD j 0 : Nat) : Int)) → (∀ j, k < j → j ≤ ns.length → l1.getD j 0 = ((ns.getD (j - 1) 0 : Nat) : Int)) → posS x ns ns.length = k → pre (l1.set k (x : Int)) (insS x ns) := by
      intro k l1 h1 hW hk i1 i2 hpos j hj
      rw [insS_len] at hj
      have hl6 := hW.2.2.2.2.1
      rw [insS_get, hpos, getD_set (by omega)]
      by_cases e1 : j < k
      · rw [if_neg (by omega), if_pos e1, i1 j e1]
      · rw [if_neg e1]
        by_cases e2 : j = k
        · rw [if_pos e2.symm, if_pos e2]
        · rw [if_neg (fun q => e2 q.symm), if_neg e2, i2 j (by omega) (by omega)]
    intro k
    induction k with
    | zero =>
      intro l1 h1 hW hk i1 i2 hpos
      have hl6 := hW.2.2.2.2.1
      refine ⟨l1.set 0 (x : Int), fin 0 l1 h1 hW hk i1 i2 hpos, by rw [List.length_set]; exact hl6, fun R => ?_⟩
      rw [AWh_k, k_X9_insertNear_4]
      simp only [AW_k, AWk_1, x_iload_2, x_istore_3, x_push_i, x_push_l, x_istore_4, x_iload_4, x_icmp_ge, x_aload_0, x_aloads_0, x_getf, x_iload_3, x_isub, x_iald, x_ialds, x_iload_1, x_icmp_le, x_iast, x_iinc_3, x_iinc_4, x_goto, x_ret, x_ret_i, x_ret_z, x_ret_l, x_ret_c, unl_i, unl_l, unl_q, unl_r, unl_s, unl_n, k_X9_insertNear_0, k_X9_insertNear_1, k_X9_insertNear_2, k_X9_insertNear_3, k_X9_insertNear_4, k_X9_insertNear_5, k_X9_insertNear_6, k_X9_insertNear_7, k_X9_insertNear_8, k_X9_insertNear_9, k_X9_insertNear_10, k_X9_insertNear_11, k_X9_insertNear_12, k_X9_insertNear_13, k_X9_insertNear_14, k_X9_insertNear_15, k_X9_insertNear_16, k_X9_insertNear_17, k_X9_insertNear_18, k_X9_insertNear_19, k_X9_insertNear_20, k_X9_insertNear_21, k_X9_insertNear_22, k_X9_insertNear_23, k_X9_insertNear_24, k_X9_insertNear_25, k_X9_insertNear_26, k_X9_insertNear_27, k_X9_insertNear_28, k_X9_insertNear_29, k_X9_insertNear_30, k_X9_insertNear_31, k_X9_insertNear_32, k_X9_insertNear_33, oE_some, Int.reduceToNat, Nat.reduceAdd, true_and, and_true, List.length_cons, List.length_nil, Option.toList_some, Option.toList_none, List.cons_append, List.nil_append, Nat.reduceLeDiff, Nat.le_refl, wdS_nil, wdS_i, wdS_l, wdS_r, wdS_n, wdS_s, hW.1.1, hW.2.1, inB_of (x := ((0 : Nat) : Int)) (k := 0) rfl (show 0 < l1.length by omega) (by omega)]
      rw [w32_nat (show ns.length < 2147483648 by omega), w32_nat (show ns.length - 0 < 2147483648 by omega), if_neg (by omega)]
      exact Iff.rfl
    | succ k ih =>
      intro l1 h1 hW hk i1 i2 hpos
      have hl6 := hW.2.2.2.2.1
      have ek : ((k + 1 : Nat) : Int) - 1 = (k : Int) := by omega
      have hy : ns.getD k 0 < 720 := hb _ (getD_mem (by omega))
      have g1 : l1.getD (w32 (k : Int)).toNat 0 = ((ns.getD k 0 : Nat) : Int) := by rw [w32_nat (by omega), Int.toNat_natCast]; exact i1 k (by omega)
      have ekw : (w32 ((k + 1 : Nat) : Int)).toNat = k + 1 := by rw [w32_nat (by omega)]; omega
      by_cases hc : x < ns.getD k 0
      · have hpos2 : posS x ns ns.length = posS x ns k := by rw [hpos]; show (if _ then _ else _) = _; rw [if_pos hc]
        have hW2 := WK_1 (l' := l1.set (k + 1) ((ns.getD k 0 : Nat) : Int)) hW (by rw [List.length_set]; exact hl6)
        obtain ⟨l', p1, p2, p3⟩ := ih (l1.set (k + 1) ((ns.getD k 0 : Nat) : Int)) _ hW2 (by omega) (fun j hj => by rw [getD_set (by omega), if_neg (by omega)]; exact i1 j (by omega)) (fun j hj1 hj2 => by
          rw [getD_set (by omega)]
          by_cases e : k + 1 = j
          · rw [if_pos e, ← e]; rfl
          · rw [if_neg e]; exact i2 j (by omega) hj2) hpos2
        refine ⟨l', p1, p2, fun R => ?_⟩
        have p3 := p3 R
        rw [pA_pA] at p3
        rw [AWh_k, k_X9_insertNear_4]
        simp only [AW_k, AWk_1, x_iload_2, x_istore_3, x_push_i, x_push_l, x_istore_4, x_iload_4, x_icmp_ge, x_aload_0, x_aloads_0, x_getf, x_iload_3, x_isub, x_iald, x_ialds, x_iload_1, x_icmp_le, x_iast, x_iinc_3, x_iinc_4, x_goto, x_ret, x_ret_i, x_ret_z, x_ret_l, x_ret_c, unl_i, unl_l, unl_q, unl_r, unl_s, unl_n, k_X9_insertNear_0, k_X9_insertNear_1, k_X9_insertNear_2, k_X9_insertNear_3, k_X9_insertNear_4, k_X9_insertNear_5, k_X9_insertNear_6, k_X9_insertNear_7, k_X9_insertNear_8, k_X9_insertNear_9, k_X9_insertNear_10, k_X9_insertNear_11, k_X9_insertNear_12, k_X9_insertNear_13, k_X9_insertNear_14, k_X9_insertNear_15, k_X9_insertNear_16, k_X9_insertNear_17, k_X9_insertNear_18, k_X9_insertNear_19, k_X9_insertNear_20, k_X9_insertNear_21, k_X9_insertNear_22, k_X9_insertNear_23, k_X9_insertNear_24, k_X9_insertNear_25, k_X9_insertNear_26, k_X9_insertNear_27, k_X9_insertNear_28, k_X9_insertNear_29, k_X9_insertNear_30, k_X9_insertNear_31, k_X9_insertNear_32, k_X9_insertNear_33, oE_some, Int.reduceToNat, Nat.reduceAdd, true_and, and_true, List.length_cons, List.length_nil, Option.toList_some, Option.toList_none, List.cons_append, List.nil_append, Nat.reduceLeDiff, Nat.le_refl, wdS_nil, wdS_i, wdS_l, wdS_r, wdS_n, wdS_s, ek, hW.1.1, hW.2.1, inB_of (x := (k : Int)) rfl (show k < l1.length by omega) (by omega), inB_of (x := ((k + 1 : Nat) : Int)) rfl (show k + 1 < l1.length by omega) (by omega), g1, ekw]
        rw [w32_nat (show ns.length < 2147483648 by omega), w32_nat (show ns.length - (k + 1) < 2147483648 by omega), if_pos (by omega), w32_nat (show x < 2147483648 by omega), w32_nat (show ns.getD k 0 < 2147483648 by omega), if_pos (by omega)]
        rw [show ((k + 1 : Nat) : Int) + -1 = (k : Int) by omega, show ((ns.length - (k + 1) : Nat) : Int) + 1 = ((ns.length - k : Nat) : Int) by omega]
        exact p3
      · have hpos2 : posS x ns ns.length = k + 1 := by rw [hpos]; show (if _ then _ else _) = _; rw [if_neg hc]
        refine ⟨l1.set (k + 1) (x : Int), fin (k + 1) l1 h1 hW hk i1 i2 hpos2, by rw [List.length_set]; exact hl6, fun R => ?_⟩
        rw [AWh_k, k_X9_insertNear_4]
        simp only [AW_k, AWk_1, x_iload_2, x_istore_3, x_push_i, x_push_l, x_istore_4, x_iload_4, x_icmp_ge, x_aload_0, x_aloads_0, x_getf, x_iload_3, x_isub, x_iald, x_ialds, x_iload_1, x_icmp_le, x_iast, x_iinc_3, x_iinc_4, x_goto, x_ret, x_ret_i, x_ret_z, x_ret_l, x_ret_c, unl_i, unl_l, unl_q, unl_r, unl_s, unl_n, k_X9_insertNear_0, k_X9_insertNear_1, k_X9_insertNear_2, k_X9_insertNear_3, k_X9_insertNear_4, k_X9_insertNear_5, k_X9_insertNear_6, k_X9_insertNear_7, k_X9_insertNear_8, k_X9_insertNear_9, k_X9_insertNear_10, k_X9_insertNear_11, k_X9_insertNear_12, k_X9_insertNear_13, k_X9_insertNear_14, k_X9_insertNear_15, k_X9_insertNear_16, k_X9_insertNear_17, k_X9_insertNear_18, k_X9_insertNear_19, k_X9_insertNear_20, k_X9_insertNear_21, k_X9_insertNear_22, k_X9_insertNear_23, k_X9_insertNear_24, k_X9_insertNear_25, k_X9_insertNear_26, k_X9_insertNear_27, k_X9_insertNear_28, k_X9_insertNear_29, k_X9_insertNear_30, k_X9_insertNear_31, k_X9_insertNear_32, k_X9_insertNear_33, oE_some, Int.reduceToNat, Nat.reduceAdd, true_and, and_true, List.length_cons, List.length_nil, Option.toList_some, Option.toList_none, List.cons_append, List.nil_append, Nat.reduceLeDiff, Nat.le_refl, wdS_nil, wdS_i, wdS_l, wdS_r, wdS_n, wdS_s, ek, hW.1.1, hW.2.1, inB_of (x := (k : Int)) rfl (show k < l1.length by omega) (by omega), inB_of (x := ((k + 1 : Nat) : Int)) rfl (show k + 1 < l1.length by omega) (by omega), g1, ekw]
        rw [w32_nat (show ns.length < 2147483648 by omega), w32_nat (show ns.length - (k + 1) < 2147483648 by omega), w32_nat (show x < 2147483648 by omega), w32_nat (show ns.getD k 0 < 2147483648 by omega)]
        by_cases e : ((ns.length - (k + 1) : Nat) : Int) < (ns.length : Int)
        · rw [if_pos e, if_neg (by omega)]
        · rw [if_neg e]
  obtain ⟨l', p1, p2, p3⟩ := key ns.length l hp h (Nat.le_refl _) hp1 (fun j h1 h2 => by omega) rfl
  refine ⟨l', p1, p2, fun R => ?_⟩
  have p3 := p3 R
  rw [Nat.sub_self] at p3
  rw [callD_k]; simp only [entL_i, entL_l, entL_q, entL_s, entL_nil, n_X9_insertNear, u_X9_insertNear, m_X9_insertNear, rep_2, List.cons_append, List.nil_append, List.append_nil, List.length_cons, List.length_nil, Nat.reduceAdd, true_and]
  simp only [AW_k, AWk_1, x_iload_2, x_istore_3, x_push_i, x_push_l, x_istore_4, x_iload_4, x_icmp_ge, x_aload_0, x_aloads_0, x_getf, x_iload_3, x_isub, x_iald, x_ialds, x_iload_1, x_icmp_le, x_iast, x_iinc_3, x_iinc_4, x_goto, x_ret, x_ret_i, x_ret_z, x_ret_l, x_ret_c, unl_i, unl_l, unl_q, unl_r, unl_s, unl_n, k_X9_insertNear_0, k_X9_insertNear_1, k_X9_insertNear_2, k_X9_insertNear_3, k_X9_insertNear_4, k_X9_insertNear_5, k_X9_insertNear_6, k_X9_insertNear_7, k_X9_insertNear_8, k_X9_insertNear_9, k_X9_insertNear_10, k_X9_insertNear_11, k_X9_insertNear_12, k_X9_insertNear_13, k_X9_insertNear_14, k_X9_insertNear_15, k_X9_insertNear_16, k_X9_insertNear_17, k_X9_insertNear_18, k_X9_insertNear_19, k_X9_insertNear_20, k_X9_insertNear_21, k_X9_insertNear_22, k_X9_insertNear_23, k_X9_insertNear_24, k_X9_insertNear_25, k_X9_insertNear_26, k_X9_insertNear_27, k_X9_insertNear_28, k_X9_insertNear_29, k_X9_insertNear_30, k_X9_insertNear_31, k_X9_insertNear_32, k_X9_insertNear_33, oE_some, Int.reduceToNat, Nat.reduceAdd, true_and, and_true, List.length_cons, List.length_nil, Option.toList_some, Option.toList_none, List.cons_append, List.nil_append, Nat.reduceLeDiff, Nat.le_refl, wdS_nil, wdS_i, wdS_l, wdS_r, wdS_n, wdS_s]
  exact p3
