/-! ===== the list ===== -/
def LSS (hp : HP) (a c : Nat) (ca se : List Int) (fn : Int) (fg : BitVec 64) : Prop := (gF hp a 2 0 = some (mI (c : Int)) ∧ gF hp a 2 1 = some (mR (a + 1)) ∧ gF hp a 2 2 = some (mR (a + 2)) ∧ gF hp a 2 3 = some (mI fn) ∧ gF hp a 2 4 = some (mL fg)) ∧ gA hp (a + 1) = some ca ∧ gA hp (a + 2) = some se
theorem LSS_Fr {hp h : HP} {a c x y : Nat} {ca se : List Int} {fn : Int} {fg : BitVec 64} (m : LSS hp a c ca se fn fg) (f : Fr x y hp h) (o : a + 3 ≤ x ∨ y ≤ a) : LSS h a c ca se fn fg := by
  obtain ⟨⟨a1, a2, a3, a4, a5⟩, b1, b2⟩ := m
  exact ⟨⟨by rw [gF_Fr f (by omega), a1], by rw [gF_Fr f (by omega), a2], by rw [gF_Fr f (by omega), a3], by rw [gF_Fr f (by omega), a4], by rw [gF_Fr f (by omega), a5]⟩, by rw [gA_Fr f (by omega), b1], by rw [gA_Fr f (by omega), b2]⟩
theorem LSS_0 {hp : HP} {a c e : Nat} {ca se : List Int} {fn : Int} {fg : BitVec 64} (m : LSS hp a c ca se fn fg) : LSS (pF hp a 2 0 (mI (e : Int))) a e ca se fn fg := by
  obtain ⟨⟨a1, a2, a3, a4, a5⟩, b1, b2⟩ := m
  exact ⟨⟨gF_pF_same a1, by rw [gF_pF (by omega), a2], by rw [gF_pF (by omega), a3], by rw [gF_pF (by omega), a4], by rw [gF_pF (by omega), a5]⟩, by rw [gA_pF, b1], by rw [gA_pF, b2]⟩
theorem LSS_3 {hp : HP} {a c : Nat} {ca se : List Int} {fn x : Int} {fg : BitVec 64} (m : LSS hp a c ca se fn fg) : LSS (pF hp a 2 3 (mI x)) a c ca se x fg := by
  obtain ⟨⟨a1, a2, a3, a4, a5⟩, b1, b2⟩ := m
  exact ⟨⟨by rw [gF_pF (by omega), a1], by rw [gF_pF (by omega), a2], by rw [gF_pF (by omega), a3], gF_pF_same a4, by rw [gF_pF (by omega), a5]⟩, by rw [gA_pF, b1], by rw [gA_pF, b2]⟩
theorem LSS_4 {hp : HP} {a c : Nat} {ca se : List Int} {fn : Int} {fg x : BitVec 64} (m : LSS hp a c ca se fn fg) : LSS (pF hp a 2 4 (mL x)) a c ca se fn x := by
  obtain ⟨⟨a1, a2, a3, a4, a5⟩, b1, b2⟩ := m
  exact ⟨⟨by rw [gF_pF (by omega), a1], by rw [gF_pF (by omega), a2], by rw [gF_pF (by omega), a3], by rw [gF_pF (by omega), a4], gF_pF_same a5⟩, by rw [gA_pF, b1], by rw [gA_pF, b2]⟩
theorem LSS_1 {hp : HP} {a c : Nat} {ca se l : List Int} {fn : Int} {fg : BitVec 64} (m : LSS hp a c ca se fn fg) : LSS (pA hp (a + 1) l) a c l se fn fg := by
  obtain ⟨⟨a1, a2, a3, a4, a5⟩, b1, b2⟩ := m
  exact ⟨⟨by rw [gF_pA, a1], by rw [gF_pA, a2], by rw [gF_pA, a3], by rw [gF_pA, a4], by rw [gF_pA, a5]⟩, gA_pA_same b1, by rw [gA_pA (by omega), b2]⟩
theorem LSS_2 {hp : HP} {a c : Nat} {ca se l : List Int} {fn : Int} {fg : BitVec 64} (m : LSS hp a c ca se fn fg) : LSS (pA hp (a + 2) l) a c ca l fn fg := by
  obtain ⟨⟨a1, a2, a3, a4, a5⟩, b1, b2⟩ := m
  exact ⟨⟨by rw [gF_pA, a1], by rw [gF_pA, a2], by rw [gF_pA, a3], by rw [gF_pA, a4], by rw [gF_pA, a5]⟩, by rw [gA_pA (by omega), b1], gA_pA_same b2⟩
def pick (s : Nat → Bool) (o : Option Nat) : Option Nat := match o with
  | some x => if s x = true then none else some x
  | none => none
/-- what comes behind a row: k + 1, k, .. 2 are tried; s: has it come -/
def nbF (n : Nat) (G : BitVec 64) (i : Nat) (s : Nat → Bool) : Nat → Option Nat
  | 0 => none
  | k + 1 => match pick s (nlL n G n i (plc n i (k + 2))) with
    | some x => some x
    | none => match pick s (nlR n G n i (plc n i (k + 2))) with
      | some x => some x
      | none => nbF n G i s k
theorem nbF_succ (n : Nat) (G : BitVec 64) (i : Nat) (s : Nat → Bool) (k : Nat) : nbF n G i s (k + 1) = match pick s (nlL n G n i (plc n i (k + 2))) with
    | some x => some x
    | none => match pick s (nlR n G n i (plc n i (k + 2))) with
      | some x => some x
      | none => nbF n G i s k := rfl
theorem nlR_ok {n : Nat} {G : BitVec 64} (h1 : 1 ≤ n) (h6 : n ≤ 6) : ∀ {k i p x : Nat}, i < FC n → nlR n G k i p = some x → x < FC n ∧ isL n G x = true := by
  intro k
  induction k with
  | zero => intro i p x hi h; cases h
  | succ k ih =>
    intro i p x hi h
    unfold nlR at h
    cases e : psR n i p with
    | none => rw [e] at h; cases h
    | some q =>
      rw [e] at h
      have hq := (psR_ok h1 h6 hi e).1
      dsimp only at h
      split at h
      · next hL => cases h; exact ⟨hq, hL⟩
      · exact ih hq h
theorem nlL_ok {n : Nat} {G : BitVec 64} (h1 : 1 ≤ n) (h6 : n ≤ 6) : ∀ {k i p x : Nat}, i < FC n → p < n → nlL n G k i p = some x → x < FC n ∧ isL n G x = true := by
  intro k
  induction k with
  | zero => intro i p x hi hp h; cases h
  | succ k ih =>
    intro i p x hi hp h
    unfold nlL at h
    cases e : psL n i p with
    | none => rw [e] at h; cases h
    | some q =>
      rw [e] at h
      have hq := (psL_ok h1 h6 hi hp e)
      dsimp only at h
      split at h
      · next hL => cases h; exact ⟨hq.1, hL⟩
      · exact ih hq.1 (by omega) h
theorem pick_some {s : Nat → Bool} {o : Option Nat} {x : Nat} (h : pick s o = some x) : o = some x ∧ s x = false := by
  unfold pick at h
  cases o with
  | none => cases h
  | some y =>
    dsimp only at h
    split at h
    · cases h
    · next q => cases h; exact ⟨rfl, by simpa using q⟩
theorem nbF_ok {n i x : Nat} {G : BitVec 64} {s : Nat → Bool} (h1 : 1 ≤ n) (h6 : n ≤ 6) (hi : i < FC n) : ∀ {k}, nbF n G i s k = some x → x < FC n ∧ isL n G x = true ∧ s x = false := by
  intro k
  induction k with
  | zero => intro h; cases h
  | succ k ih =>
    intro h
    rw [nbF_succ] at h
    split at h
    · next y e =>
      cases h
      have := pick_some e
      have q := nlL_ok h1 h6 hi (plc_lt h1) this.1
      exact ⟨q.1, q.2, this.2⟩
    · split at h
      · next y e =>
        cases h
        have := pick_some e
        have q := nlR_ok h1 h6 hi this.1
        exact ⟨q.1, q.2, this.2⟩
      · exact ih h
def seI (se : List Int) (s : Nat → Bool) : Prop := ∀ y, y < 120 → se.getD y 0 = zI (s y)
set_option maxHeartbeats 16000000 in
theorem c2_nextBehind (d : Nat) {hp : HP} {a ra n c i : Nat} {G : BitVec 64} {ca se : List Int} {fn : Int} {fg : BitVec 64} {s : Nat → Bool} (hR : RWS hp ra n) (hL : LSS hp a c ca se fn fg) (h5 : n ≤ 5) (hse : se.length = 120) (hs : seI se s) (hi : i < FC n) (R : PO) : callD (d + 4) 20 [mR a, mR ra, mI (i : Int), mL G] hp R ↔ R (some (mI (oI (nbF n G i s (n - 1))))) hp := by
  have h1 := rw_1 hR
  have h6 := rw_6 hR
  have f1 := FC_5 h5
  have key : ∀ (k : Nat) (y6 y7 : Option AV), k + 1 ≤ n → (AWh (d + 3) [] 20 R 3 [some (mR a), some (mR ra), some (mI (i : Int)), some (mL G), none, some (mI ((k + 1 : Nat) : Int)), y6, y7] [] hp (0, 0) ↔ R (some (mI (oI (nbF n G i s k)))) hp) := by
    intro k
    induction k with
    | zero =>
      intro y6 y7 hk
      rw [AWh_k, k_X2_nextBehind_3]
      simp only [AW_k, AWk_1, x_aload_1, x_aloads_1, x_getf, x_istore_5, x_iload_5, x_push_i, x_push_l, x_icmp_lt, x_istore_6, x_iload_6, x_icmp_gt, x_iload_2, x_lload_3, x_callv_5, x_istore_7, x_iload_7, x_if_lt, x_aload_0, x_aloads_0, x_iald, x_ialds, x_if_ne, x_ret, x_ret_i, x_ret_z, x_ret_l, x_ret_c, x_iinc_6, x_goto, x_iinc_5, unl_i, unl_l, unl_q, unl_r, unl_s, unl_n, k_X2_nextBehind_0, k_X2_nextBehind_1, k_X2_nextBehind_2, k_X2_nextBehind_3, k_X2_nextBehind_4, k_X2_nextBehind_5, k_X2_nextBehind_6, k_X2_nextBehind_7, k_X2_nextBehind_8, k_X2_nextBehind_9, k_X2_nextBehind_10, k_X2_nextBehind_11, k_X2_nextBehind_12, k_X2_nextBehind_13, k_X2_nextBehind_14, k_X2_nextBehind_15, k_X2_nextBehind_16, k_X2_nextBehind_17, k_X2_nextBehind_18, k_X2_nextBehind_19, k_X2_nextBehind_20, k_X2_nextBehind_21, k_X2_nextBehind_22, k_X2_nextBehind_23, k_X2_nextBehind_24, k_X2_nextBehind_25, k_X2_nextBehind_26, k_X2_nextBehind_27, k_X2_nextBehind_28, k_X2_nextBehind_29, k_X2_nextBehind_30, k_X2_nextBehind_31, k_X2_nextBehind_32, oE_some, Int.reduceToNat, Nat.reduceAdd, true_and, and_true, List.length_cons, List.length_nil, Option.toList_some, Option.toList_none, List.cons_append, List.nil_append, Nat.reduceLeDiff, Nat.le_refl, wdS_nil, wdS_i, wdS_l, wdS_r, wdS_n, wdS_s]
      rw [if_pos (by decide)]
      exact Iff.rfl
    | succ k ih =>
      intro y6 y7 hk
      have bv : k + 2 < 2147483648 := by omega
      have cv : ¬ ((k + 1 + 1 : Nat) : Int) < 2 := by omega
      have ev : ((k + 1 + 1 : Nat) : Int) + -1 = ((k + 1 : Nat) : Int) := by omega
      have i1 := fun y6 y7 => ih y6 y7 (by omega)
      have cL := c4_nearestL d (v := k + 2) (G := G) hR hi bv
      have cR := c4_nearestR d (v := k + 2) (G := G) hR hi bv
      -- the second half: to the right
      have right : ∀ (y7 : Option AV), (AWh (d + 3) [] 20 R 8 [some (mR a), some (mR ra), some (mI (i : Int)), some (mL G), none, some (mI ((k + 1 + 1 : Nat) : Int)), some (mI 1), y7] [] hp (0, 0) ↔ R (some (mI (oI (match pick s (nlR n G n i (plc n i (k + 2))) with
        | some x => some x
        | none => nbF n G i s k)))) hp) := by
        intro y7
        cases e : nlR n G n i (plc n i (k + 2)) with
        | none =>
          have eo : oI (nlR n G n i (plc n i (k + 2))) = -1 := by rw [e]; rfl
          rw [AWh_k, k_X2_nextBehind_8]
          simp only [AW_k, AWk_1, x_aload_1, x_aloads_1, x_getf, x_istore_5, x_iload_5, x_push_i, x_push_l, x_icmp_lt, x_istore_6, x_iload_6, x_icmp_gt, x_iload_2, x_lload_3, x_callv_5, x_istore_7, x_iload_7, x_if_lt, x_aload_0, x_aloads_0, x_iald, x_ialds, x_if_ne, x_ret, x_ret_i, x_ret_z, x_ret_l, x_ret_c, x_iinc_6, x_goto, x_iinc_5, unl_i, unl_l, unl_q, unl_r, unl_s, unl_n, k_X2_nextBehind_0, k_X2_nextBehind_1, k_X2_nextBehind_2, k_X2_nextBehind_3, k_X2_nextBehind_4, k_X2_nextBehind_5, k_X2_nextBehind_6, k_X2_nextBehind_7, k_X2_nextBehind_8, k_X2_nextBehind_9, k_X2_nextBehind_10, k_X2_nextBehind_11, k_X2_nextBehind_12, k_X2_nextBehind_13, k_X2_nextBehind_14, k_X2_nextBehind_15, k_X2_nextBehind_16, k_X2_nextBehind_17, k_X2_nextBehind_18, k_X2_nextBehind_19, k_X2_nextBehind_20, k_X2_nextBehind_21, k_X2_nextBehind_22, k_X2_nextBehind_23, k_X2_nextBehind_24, k_X2_nextBehind_25, k_X2_nextBehind_26, k_X2_nextBehind_27, k_X2_nextBehind_28, k_X2_nextBehind_29, k_X2_nextBehind_30, k_X2_nextBehind_31, k_X2_nextBehind_32, oE_some, Int.reduceToNat, Nat.reduceAdd, true_and, and_true, List.length_cons, List.length_nil, Option.toList_some, Option.toList_none, List.cons_append, List.nil_append, Nat.reduceLeDiff, Nat.le_refl, wdS_nil, wdS_i, wdS_l, wdS_r, wdS_n, wdS_s, rC0 hR, cR, eo, Int.reduceAdd]
          rw [if_neg (by decide), if_pos (by decide)]
          rw [AWh_k, k_X2_nextBehind_8]
          simp only [AW_k, AWk_1, x_aload_1, x_aloads_1, x_getf, x_istore_5, x_iload_5, x_push_i, x_push_l, x_icmp_lt, x_istore_6, x_iload_6, x_icmp_gt, x_iload_2, x_lload_3, x_callv_5, x_istore_7, x_iload_7, x_if_lt, x_aload_0, x_aloads_0, x_iald, x_ialds, x_if_ne, x_ret, x_ret_i, x_ret_z, x_ret_l, x_ret_c, x_iinc_6, x_goto, x_iinc_5, unl_i, unl_l, unl_q, unl_r, unl_s, unl_n, k_X2_nextBehind_0, k_X2_nextBehind_1, k_X2_nextBehind_2, k_X2_nextBehind_3, k_X2_nextBehind_4, k_X2_nextBehind_5, k_X2_nextBehind_6, k_X2_nextBehind_7, k_X2_nextBehind_8, k_X2_nextBehind_9, k_X2_nextBehind_10, k_X2_nextBehind_11, k_X2_nextBehind_12, k_X2_nextBehind_13, k_X2_nextBehind_14, k_X2_nextBehind_15, k_X2_nextBehind_16, k_X2_nextBehind_17, k_X2_nextBehind_18, k_X2_nextBehind_19, k_X2_nextBehind_20, k_X2_nextBehind_21, k_X2_nextBehind_22, k_X2_nextBehind_23, k_X2_nextBehind_24, k_X2_nextBehind_25, k_X2_nextBehind_26, k_X2_nextBehind_27, k_X2_nextBehind_28, k_X2_nextBehind_29, k_X2_nextBehind_30, k_X2_nextBehind_31, k_X2_nextBehind_32, oE_some, Int.reduceToNat, Nat.reduceAdd, true_and, and_true, List.length_cons, List.length_nil, Option.toList_some, Option.toList_none, List.cons_append, List.nil_append, Nat.reduceLeDiff, Nat.le_refl, wdS_nil, wdS_i, wdS_l, wdS_r, wdS_n, wdS_s]
          rw [if_pos (by decide), ev]
          exact i1 _ _
        | some x =>
          have eo : oI (nlR n G n i (plc n i (k + 2))) = (x : Int) := by rw [e]; rfl
          have hx := (nlR_ok h1 h6 hi e).1
          have bx : x < 2147483648 := by omega
          have cx : ¬ (x : Int) < 0 := by omega
          have jx : x < se.length := by omega
          have L : se.length < 2147483648 := by omega
          have sx := hs x (by omega)
          rw [AWh_k, k_X2_nextBehind_8]
          simp only [AW_k, AWk_1, x_aload_1, x_aloads_1, x_getf, x_istore_5, x_iload_5, x_push_i, x_push_l, x_icmp_lt, x_istore_6, x_iload_6, x_icmp_gt, x_iload_2, x_lload_3, x_callv_5, x_istore_7, x_iload_7, x_if_lt, x_aload_0, x_aloads_0, x_iald, x_ialds, x_if_ne, x_ret, x_ret_i, x_ret_z, x_ret_l, x_ret_c, x_iinc_6, x_goto, x_iinc_5, unl_i, unl_l, unl_q, unl_r, unl_s, unl_n, k_X2_nextBehind_0, k_X2_nextBehind_1, k_X2_nextBehind_2, k_X2_nextBehind_3, k_X2_nextBehind_4, k_X2_nextBehind_5, k_X2_nextBehind_6, k_X2_nextBehind_7, k_X2_nextBehind_8, k_X2_nextBehind_9, k_X2_nextBehind_10, k_X2_nextBehind_11, k_X2_nextBehind_12, k_X2_nextBehind_13, k_X2_nextBehind_14, k_X2_nextBehind_15, k_X2_nextBehind_16, k_X2_nextBehind_17, k_X2_nextBehind_18, k_X2_nextBehind_19, k_X2_nextBehind_20, k_X2_nextBehind_21, k_X2_nextBehind_22, k_X2_nextBehind_23, k_X2_nextBehind_24, k_X2_nextBehind_25, k_X2_nextBehind_26, k_X2_nextBehind_27, k_X2_nextBehind_28, k_X2_nextBehind_29, k_X2_nextBehind_30, k_X2_nextBehind_31, k_X2_nextBehind_32, oE_some, Int.reduceToNat, Nat.reduceAdd, true_and, and_true, List.length_cons, List.length_nil, Option.toList_some, Option.toList_none, List.cons_append, List.nil_append, Nat.reduceLeDiff, Nat.le_refl, wdS_nil, wdS_i, wdS_l, wdS_r, wdS_n, wdS_s, rC0 hR, cR, eo, Int.reduceAdd, hL.1.2.2.1, hL.2.2, inB_n jx L, w32_tn bx, sx, w32_zI_0, ite_bf]
          rw [if_neg (by decide), w32_nat bx, if_neg cx]
          unfold pick
          dsimp only
          cases s x
          · rw [if_neg (by decide), if_neg (by decide)]
            exact Iff.rfl
          · rw [if_pos rfl, if_pos rfl]
            rw [AWh_k, k_X2_nextBehind_8]
            simp only [AW_k, AWk_1, x_aload_1, x_aloads_1, x_getf, x_istore_5, x_iload_5, x_push_i, x_push_l, x_icmp_lt, x_istore_6, x_iload_6, x_icmp_gt, x_iload_2, x_lload_3, x_callv_5, x_istore_7, x_iload_7, x_if_lt, x_aload_0, x_aloads_0, x_iald, x_ialds, x_if_ne, x_ret, x_ret_i, x_ret_z, x_ret_l, x_ret_c, x_iinc_6, x_goto, x_iinc_5, unl_i, unl_l, unl_q, unl_r, unl_s, unl_n, k_X2_nextBehind_0, k_X2_nextBehind_1, k_X2_nextBehind_2, k_X2_nextBehind_3, k_X2_nextBehind_4, k_X2_nextBehind_5, k_X2_nextBehind_6, k_X2_nextBehind_7, k_X2_nextBehind_8, k_X2_nextBehind_9, k_X2_nextBehind_10, k_X2_nextBehind_11, k_X2_nextBehind_12, k_X2_nextBehind_13, k_X2_nextBehind_14, k_X2_nextBehind_15, k_X2_nextBehind_16, k_X2_nextBehind_17, k_X2_nextBehind_18, k_X2_nextBehind_19, k_X2_nextBehind_20, k_X2_nextBehind_21, k_X2_nextBehind_22, k_X2_nextBehind_23, k_X2_nextBehind_24, k_X2_nextBehind_25, k_X2_nextBehind_26, k_X2_nextBehind_27, k_X2_nextBehind_28, k_X2_nextBehind_29, k_X2_nextBehind_30, k_X2_nextBehind_31, k_X2_nextBehind_32, oE_some, Int.reduceToNat, Nat.reduceAdd, true_and, and_true, List.length_cons, List.length_nil, Option.toList_some, Option.toList_none, List.cons_append, List.nil_append, Nat.reduceLeDiff, Nat.le_refl, wdS_nil, wdS_i, wdS_l, wdS_r, wdS_n, wdS_s]
            rw [if_pos (by decide), ev]
            exact i1 _ _
      rw [nbF_succ]
      cases e : nlL n G n i (plc n i (k + 2)) with
      | none =>
        have eo : oI (nlL n G n i (plc n i (k + 2))) = -1 := by rw [e]; rfl
        rw [AWh_k, k_X2_nextBehind_3]
        simp only [AW_k, AWk_1, x_aload_1, x_aloads_1, x_getf, x_istore_5, x_iload_5, x_push_i, x_push_l, x_icmp_lt, x_istore_6, x_iload_6, x_icmp_gt, x_iload_2, x_lload_3, x_callv_5, x_istore_7, x_iload_7, x_if_lt, x_aload_0, x_aloads_0, x_iald, x_ialds, x_if_ne, x_ret, x_ret_i, x_ret_z, x_ret_l, x_ret_c, x_iinc_6, x_goto, x_iinc_5, unl_i, unl_l, unl_q, unl_r, unl_s, unl_n, k_X2_nextBehind_0, k_X2_nextBehind_1, k_X2_nextBehind_2, k_X2_nextBehind_3, k_X2_nextBehind_4, k_X2_nextBehind_5, k_X2_nextBehind_6, k_X2_nextBehind_7, k_X2_nextBehind_8, k_X2_nextBehind_9, k_X2_nextBehind_10, k_X2_nextBehind_11, k_X2_nextBehind_12, k_X2_nextBehind_13, k_X2_nextBehind_14, k_X2_nextBehind_15, k_X2_nextBehind_16, k_X2_nextBehind_17, k_X2_nextBehind_18, k_X2_nextBehind_19, k_X2_nextBehind_20, k_X2_nextBehind_21, k_X2_nextBehind_22, k_X2_nextBehind_23, k_X2_nextBehind_24, k_X2_nextBehind_25, k_X2_nextBehind_26, k_X2_nextBehind_27, k_X2_nextBehind_28, k_X2_nextBehind_29, k_X2_nextBehind_30, k_X2_nextBehind_31, k_X2_nextBehind_32, oE_some, Int.reduceToNat, Nat.reduceAdd, true_and, and_true, List.length_cons, List.length_nil, Option.toList_some, Option.toList_none, List.cons_append, List.nil_append, Nat.reduceLeDiff, Nat.le_refl, wdS_nil, wdS_i, wdS_l, wdS_r, wdS_n, wdS_s]
        rw [w32_nat bv, show w32 2 = 2 from rfl, if_neg cv]
        rw [AWh_k, k_X2_nextBehind_8]
        simp only [AW_k, AWk_1, x_aload_1, x_aloads_1, x_getf, x_istore_5, x_iload_5, x_push_i, x_push_l, x_icmp_lt, x_istore_6, x_iload_6, x_icmp_gt, x_iload_2, x_lload_3, x_callv_5, x_istore_7, x_iload_7, x_if_lt, x_aload_0, x_aloads_0, x_iald, x_ialds, x_if_ne, x_ret, x_ret_i, x_ret_z, x_ret_l, x_ret_c, x_iinc_6, x_goto, x_iinc_5, unl_i, unl_l, unl_q, unl_r, unl_s, unl_n, k_X2_nextBehind_0, k_X2_nextBehind_1, k_X2_nextBehind_2, k_X2_nextBehind_3, k_X2_nextBehind_4, k_X2_nextBehind_5, k_X2_nextBehind_6, k_X2_nextBehind_7, k_X2_nextBehind_8, k_X2_nextBehind_9, k_X2_nextBehind_10, k_X2_nextBehind_11, k_X2_nextBehind_12, k_X2_nextBehind_13, k_X2_nextBehind_14, k_X2_nextBehind_15, k_X2_nextBehind_16, k_X2_nextBehind_17, k_X2_nextBehind_18, k_X2_nextBehind_19, k_X2_nextBehind_20, k_X2_nextBehind_21, k_X2_nextBehind_22, k_X2_nextBehind_23, k_X2_nextBehind_24, k_X2_nextBehind_25, k_X2_nextBehind_26, k_X2_nextBehind_27, k_X2_nextBehind_28, k_X2_nextBehind_29, k_X2_nextBehind_30, k_X2_nextBehind_31, k_X2_nextBehind_32, oE_some, Int.reduceToNat, Nat.reduceAdd, true_and, and_true, List.length_cons, List.length_nil, Option.toList_some, Option.toList_none, List.cons_append, List.nil_append, Nat.reduceLeDiff, Nat.le_refl, wdS_nil, wdS_i, wdS_l, wdS_r, wdS_n, wdS_s, rC0 hR, cL, eo, Int.reduceAdd]
        rw [if_neg (by decide), if_pos (by decide)]
        exact right _
      | some x =>
        have eo : oI (nlL n G n i (plc n i (k + 2))) = (x : Int) := by rw [e]; rfl
        have hx := (nlL_ok h1 h6 hi (plc_lt h1) e).1
        have bx : x < 2147483648 := by omega
        have cx : ¬ (x : Int) < 0 := by omega
        have jx : x < se.length := by omega
        have L : se.length < 2147483648 := by omega
        have sx := hs x (by omega)
        rw [AWh_k, k_X2_nextBehind_3]
        simp only [AW_k, AWk_1, x_aload_1, x_aloads_1, x_getf, x_istore_5, x_iload_5, x_push_i, x_push_l, x_icmp_lt, x_istore_6, x_iload_6, x_icmp_gt, x_iload_2, x_lload_3, x_callv_5, x_istore_7, x_iload_7, x_if_lt, x_aload_0, x_aloads_0, x_iald, x_ialds, x_if_ne, x_ret, x_ret_i, x_ret_z, x_ret_l, x_ret_c, x_iinc_6, x_goto, x_iinc_5, unl_i, unl_l, unl_q, unl_r, unl_s, unl_n, k_X2_nextBehind_0, k_X2_nextBehind_1, k_X2_nextBehind_2, k_X2_nextBehind_3, k_X2_nextBehind_4, k_X2_nextBehind_5, k_X2_nextBehind_6, k_X2_nextBehind_7, k_X2_nextBehind_8, k_X2_nextBehind_9, k_X2_nextBehind_10, k_X2_nextBehind_11, k_X2_nextBehind_12, k_X2_nextBehind_13, k_X2_nextBehind_14, k_X2_nextBehind_15, k_X2_nextBehind_16, k_X2_nextBehind_17, k_X2_nextBehind_18, k_X2_nextBehind_19, k_X2_nextBehind_20, k_X2_nextBehind_21, k_X2_nextBehind_22, k_X2_nextBehind_23, k_X2_nextBehind_24, k_X2_nextBehind_25, k_X2_nextBehind_26, k_X2_nextBehind_27, k_X2_nextBehind_28, k_X2_nextBehind_29, k_X2_nextBehind_30, k_X2_nextBehind_31, k_X2_nextBehind_32, oE_some, Int.reduceToNat, Nat.reduceAdd, true_and, and_true, List.length_cons, List.length_nil, Option.toList_some, Option.toList_none, List.cons_append, List.nil_append, Nat.reduceLeDiff, Nat.le_refl, wdS_nil, wdS_i, wdS_l, wdS_r, wdS_n, wdS_s]
        rw [w32_nat bv, show w32 2 = 2 from rfl, if_neg cv]
        rw [AWh_k, k_X2_nextBehind_8]
        simp only [AW_k, AWk_1, x_aload_1, x_aloads_1, x_getf, x_istore_5, x_iload_5, x_push_i, x_push_l, x_icmp_lt, x_istore_6, x_iload_6, x_icmp_gt, x_iload_2, x_lload_3, x_callv_5, x_istore_7, x_iload_7, x_if_lt, x_aload_0, x_aloads_0, x_iald, x_ialds, x_if_ne, x_ret, x_ret_i, x_ret_z, x_ret_l, x_ret_c, x_iinc_6, x_goto, x_iinc_5, unl_i, unl_l, unl_q, unl_r, unl_s, unl_n, k_X2_nextBehind_0, k_X2_nextBehind_1, k_X2_nextBehind_2, k_X2_nextBehind_3, k_X2_nextBehind_4, k_X2_nextBehind_5, k_X2_nextBehind_6, k_X2_nextBehind_7, k_X2_nextBehind_8, k_X2_nextBehind_9, k_X2_nextBehind_10, k_X2_nextBehind_11, k_X2_nextBehind_12, k_X2_nextBehind_13, k_X2_nextBehind_14, k_X2_nextBehind_15, k_X2_nextBehind_16, k_X2_nextBehind_17, k_X2_nextBehind_18, k_X2_nextBehind_19, k_X2_nextBehind_20, k_X2_nextBehind_21, k_X2_nextBehind_22, k_X2_nextBehind_23, k_X2_nextBehind_24, k_X2_nextBehind_25, k_X2_nextBehind_26, k_X2_nextBehind_27, k_X2_nextBehind_28, k_X2_nextBehind_29, k_X2_nextBehind_30, k_X2_nextBehind_31, k_X2_nextBehind_32, oE_some, Int.reduceToNat, Nat.reduceAdd, true_and, and_true, List.length_cons, List.length_nil, Option.toList_some, Option.toList_none, List.cons_append, List.nil_append, Nat.reduceLeDiff, Nat.le_refl, wdS_nil, wdS_i, wdS_l, wdS_r, wdS_n, wdS_s, rC0 hR, cL, eo, Int.reduceAdd, hL.1.2.2.1, hL.2.2, inB_n jx L, w32_tn bx, sx, w32_zI_0, ite_bf]
        rw [if_neg (by decide), w32_nat bx, if_neg cx]
        unfold pick
        dsimp only
        cases s x
        · rw [if_neg (by decide), if_neg (by decide)]
          exact Iff.rfl
        · rw [if_pos rfl, if_pos rfl]
          exact right _
  have en : (n : Int) = ((n - 1 + 1 : Nat) : Int) := by omega
  rw [callD_k]; simp only [entL_i, entL_l, entL_q, entL_s, entL_nil, n_X2_nextBehind, u_X2_nextBehind, m_X2_nextBehind, rep_3, List.cons_append, List.nil_append, List.append_nil, List.length_cons, List.length_nil, Nat.reduceAdd, true_and]
  simp only [AW_k, AWk_1, x_aload_1, x_aloads_1, x_getf, x_istore_5, x_iload_5, x_push_i, x_push_l, x_icmp_lt, x_istore_6, x_iload_6, x_icmp_gt, x_iload_2, x_lload_3, x_callv_5, x_istore_7, x_iload_7, x_if_lt, x_aload_0, x_aloads_0, x_iald, x_ialds, x_if_ne, x_ret, x_ret_i, x_ret_z, x_ret_l, x_ret_c, x_iinc_6, x_goto, x_iinc_5, unl_i, unl_l, unl_q, unl_r, unl_s, unl_n, k_X2_nextBehind_0, k_X2_nextBehind_1, k_X2_nextBehind_2, k_X2_nextBehind_3, k_X2_nextBehind_4, k_X2_nextBehind_5, k_X2_nextBehind_6, k_X2_nextBehind_7, k_X2_nextBehind_8, k_X2_nextBehind_9, k_X2_nextBehind_10, k_X2_nextBehind_11, k_X2_nextBehind_12, k_X2_nextBehind_13, k_X2_nextBehind_14, k_X2_nextBehind_15, k_X2_nextBehind_16, k_X2_nextBehind_17, k_X2_nextBehind_18, k_X2_nextBehind_19, k_X2_nextBehind_20, k_X2_nextBehind_21, k_X2_nextBehind_22, k_X2_nextBehind_23, k_X2_nextBehind_24, k_X2_nextBehind_25, k_X2_nextBehind_26, k_X2_nextBehind_27, k_X2_nextBehind_28, k_X2_nextBehind_29, k_X2_nextBehind_30, k_X2_nextBehind_31, k_X2_nextBehind_32, oE_some, Int.reduceToNat, Nat.reduceAdd, true_and, and_true, List.length_cons, List.length_nil, Option.toList_some, Option.toList_none, List.cons_append, List.nil_append, Nat.reduceLeDiff, Nat.le_refl, wdS_nil, wdS_i, wdS_l, wdS_r, wdS_n, wdS_s, rw_n hR]
  rw [en]
  exact key (n - 1) none none (by omega)
