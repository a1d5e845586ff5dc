/-! ===== the reference: rows alike ===== -/
theorem m_tells (d : Nat) {hp : HP} {n : Nat} {v17 : Int} {l1 l2 l3 : List Int} {l4 : List (BitVec 64)} (hK : MK hp n) (hg : gF hp 54 11 13 = some (mR 59) ∧ gF hp 54 11 14 = some (mR 60) ∧ gF hp 54 11 15 = some (mR 61) ∧ gF hp 54 11 16 = some (mR 62) ∧ gF hp 54 11 17 = some (mI v17)) (ha : gA hp 59 = some l1 ∧ gA hp 60 = some l2 ∧ gA hp 61 = some l3 ∧ gJ hp 62 = some l4) (hn : l1.length = 57 ∧ l2.length = 57 ∧ l3.length = 57 ∧ l4.length = 57) : ∃ h', MA h' n ∧ TFr hp h' ∧ ∀ R : PO, callD (d + 5) 183 [mR 54] hp R ↔ R none h' := by
  obtain ⟨h0, u1, u2, u3⟩ := m_tellsArcs d hK hg ha hn (fun v h => v = none ∧ MA h n ∧ TFr hp h)
  obtain ⟨v, h, ⟨w1, w2, w3⟩, w4⟩ := callD_one _ _ _ _ _ (u3.mpr ⟨rfl, u1, u2⟩)
  subst w1
  exact ⟨h, w2, w3, fun R => callD_iff w4 R⟩
def mDU (n : Nat) (b : Bool) : Nat → Nat → Bool := if b = true then mD n else mU n
def fgD (n : Nat) (G : BitVec 64) (i : Nat) (b : Bool) : Option Nat := fgo n G i (mDU n b i)
theorem mDU_eq (n i p : Nat) (b : Bool) : mDU n b i p = (dn n i p == b) := by
  unfold mDU
  cases b
  · show (!dn n i p) = _
    cases dn n i p <;> rfl
  · show dn n i p = _
    cases dn n i p <;> rfl
set_option maxHeartbeats 8000000 in
theorem m_placeIn (d : Nat) {hp : HP} {n i : Nat} {G : BitVec 64} {b : Bool} (h : MA hp n) (hi2 : i < FC n) (R : PO) : callD (d + 3) 227 [mR 54, mI ((num n i : Nat) : Int), mI (zI b), mL G] hp R ↔ R (some (mI (oI (fgD n G i b)))) hp := by
  have hK := h.1
  have h1 := hK.1.1
  have h6 := hK.1.2
  have g1 := hK.2.1
  have fN := NA_le n
  have en : (n : Int) - 1 = ((n - 1 : Nat) : Int) := by omega
  have bn : n - 1 < 2147483648 := by omega
  have key : ∀ (m p : Nat), p + m = n - 1 → (AWh (d + 2) [] 227 R 2 [some (mR 54), some (mI ((num n i : Nat) : Int)), some (mI (zI b)), some (mL G), none, some (mI (p : Int))] [] hp (0, 0) ↔ R (some (mI (oI (fst (fun p => mDU n b i p && G.getLsbD (ar n i p)) m p)))) hp) := by
    intro m
    induction m with
    | zero =>
      intro p hp1
      have e : p = n - 1 := by omega
      subst e
      rw [AWh_k, k_X11_placeIn_2]
      simp only [AW_k, AWk_1, x_iload_5, x_aload_0, x_aloads_0, x_getf, x_push_i, x_push_l, x_isub, x_icmp_ge, x_iload_1, x_callv_3, x_iload_2, x_icmp_ne, x_lload_3, x_call_2, x_if_eq, x_ret, x_ret_i, x_ret_z, x_ret_l, x_ret_c, x_iinc_5, x_goto, unl_i, unl_l, unl_q, unl_r, unl_s, unl_n, k_X11_placeIn_2, k_X11_placeIn_3, k_X11_placeIn_4, k_X11_placeIn_5, k_X11_placeIn_6, k_X11_placeIn_7, k_X11_placeIn_8, k_X11_placeIn_9, k_X11_placeIn_10, k_X11_placeIn_11, k_X11_placeIn_12, k_X11_placeIn_13, k_X11_placeIn_14, k_X11_placeIn_15, k_X11_placeIn_16, k_X11_placeIn_17, k_X11_placeIn_18, k_X11_placeIn_19, k_X11_placeIn_20, k_X11_placeIn_21, k_X11_placeIn_22, k_X11_placeIn_23, k_X11_placeIn_24, k_X11_placeIn_25, k_X11_placeIn_26, oE_some, Int.reduceToNat, Nat.reduceAdd, true_and, and_true, List.length_cons, List.length_nil, Option.toList_some, Option.toList_none, List.cons_append, List.nil_append, Nat.reduceLeDiff, Nat.le_refl, wdS_nil, wdS_i, wdS_l, wdS_r, wdS_n, wdS_s, g1, en]
      rw [if_neg (Int.lt_irrefl _)]
      all_goals exact Iff.rfl
    | succ m ih =>
      intro p hp1
      have hpn : p < n - 1 := by omega
      have bp : p < 2147483648 := by omega
      have f1 : ((p : Int) < ((n - 1 : Nat) : Int)) = True := eq_true (by omega)
      have e1 : (p : Int) + 1 = ((p + 1 : Nat) : Int) := by omega
      have har := ar_lt h1 h6 hi2 hpn
      have a64 : ar n i p < 64 := by omega
      have hnx := ih (p + 1) (by omega)
      unfold fst
      rw [mDU_eq]
      rw [AWh_k, k_X11_placeIn_2]
      by_cases c : dn n i p = b
      · have cz : (w32 (zI (dn n i p)) = w32 (zI b)) = True := eq_true (by rw [c])
        rw [show (dn n i p == b) = true from beq_iff_eq.mpr c, Bool.true_and]
        cases c2 : G.getLsbD (ar n i p) with
        | true =>
          rw [if_pos rfl]
          simp only [AW_k, AWk_1, x_iload_5, x_aload_0, x_aloads_0, x_getf, x_push_i, x_push_l, x_isub, x_icmp_ge, x_iload_1, x_callv_3, x_iload_2, x_icmp_ne, x_lload_3, x_call_2, x_if_eq, x_ret, x_ret_i, x_ret_z, x_ret_l, x_ret_c, x_iinc_5, x_goto, unl_i, unl_l, unl_q, unl_r, unl_s, unl_n, k_X11_placeIn_2, k_X11_placeIn_3, k_X11_placeIn_4, k_X11_placeIn_5, k_X11_placeIn_6, k_X11_placeIn_7, k_X11_placeIn_8, k_X11_placeIn_9, k_X11_placeIn_10, k_X11_placeIn_11, k_X11_placeIn_12, k_X11_placeIn_13, k_X11_placeIn_14, k_X11_placeIn_15, k_X11_placeIn_16, k_X11_placeIn_17, k_X11_placeIn_18, k_X11_placeIn_19, k_X11_placeIn_20, k_X11_placeIn_21, k_X11_placeIn_22, k_X11_placeIn_23, k_X11_placeIn_24, oE_some, Int.reduceToNat, Nat.reduceAdd, true_and, and_true, List.length_cons, List.length_nil, Option.toList_some, Option.toList_none, List.cons_append, List.nil_append, Nat.reduceLeDiff, Nat.le_refl, wdS_nil, wdS_i, wdS_l, wdS_r, wdS_n, wdS_s, g1, en, w32_nat bp, w32_nat bn, f1, cM hK, m_isDrop d hK hi2 hpn, cz, m_arcAt d h hi2 hpn, m_hasK (d + 1) a64, c2, zI_t, w10, ↓reduceIte]
          all_goals exact Iff.rfl
        | false =>
          rw [if_neg (by decide)]
          simp only [AW_k, AWk_1, x_iload_5, x_aload_0, x_aloads_0, x_getf, x_push_i, x_push_l, x_isub, x_icmp_ge, x_iload_1, x_callv_3, x_iload_2, x_icmp_ne, x_lload_3, x_call_2, x_if_eq, x_ret, x_ret_i, x_ret_z, x_ret_l, x_ret_c, x_iinc_5, x_goto, unl_i, unl_l, unl_q, unl_r, unl_s, unl_n, k_X11_placeIn_2, k_X11_placeIn_3, k_X11_placeIn_4, k_X11_placeIn_5, k_X11_placeIn_6, k_X11_placeIn_7, k_X11_placeIn_8, k_X11_placeIn_9, k_X11_placeIn_10, k_X11_placeIn_11, k_X11_placeIn_12, k_X11_placeIn_13, k_X11_placeIn_14, k_X11_placeIn_15, k_X11_placeIn_16, k_X11_placeIn_17, k_X11_placeIn_18, k_X11_placeIn_19, k_X11_placeIn_20, k_X11_placeIn_21, k_X11_placeIn_22, k_X11_placeIn_23, k_X11_placeIn_24, oE_some, Int.reduceToNat, Nat.reduceAdd, true_and, and_true, List.length_cons, List.length_nil, Option.toList_some, Option.toList_none, List.cons_append, List.nil_append, Nat.reduceLeDiff, Nat.le_refl, wdS_nil, wdS_i, wdS_l, wdS_r, wdS_n, wdS_s, g1, en, w32_nat bp, w32_nat bn, f1, cM hK, m_isDrop d hK hi2 hpn, cz, m_arcAt d h hi2 hpn, m_hasK (d + 1) a64, c2, zI_f, w00, e1, ↓reduceIte]
          exact hnx
      · have cz : (w32 (zI (dn n i p)) = w32 (zI b)) = False := by
          apply eq_false
          intro q
          apply c
          cases e1 : dn n i p <;> cases e2 : b <;> rw [e1, e2] at q <;> first | rfl | exact absurd q (by decide)
        rw [show (dn n i p == b) = false from beq_eq_false_iff_ne.mpr c, Bool.false_and, if_neg (by decide)]
        simp only [AW_k, AWk_1, x_iload_5, x_aload_0, x_aloads_0, x_getf, x_push_i, x_push_l, x_isub, x_icmp_ge, x_iload_1, x_callv_3, x_iload_2, x_icmp_ne, x_lload_3, x_call_2, x_if_eq, x_ret, x_ret_i, x_ret_z, x_ret_l, x_ret_c, x_iinc_5, x_goto, unl_i, unl_l, unl_q, unl_r, unl_s, unl_n, k_X11_placeIn_2, k_X11_placeIn_3, k_X11_placeIn_4, k_X11_placeIn_5, k_X11_placeIn_6, k_X11_placeIn_7, k_X11_placeIn_8, k_X11_placeIn_9, k_X11_placeIn_10, k_X11_placeIn_11, k_X11_placeIn_12, k_X11_placeIn_13, k_X11_placeIn_14, k_X11_placeIn_15, k_X11_placeIn_16, k_X11_placeIn_17, k_X11_placeIn_18, k_X11_placeIn_19, k_X11_placeIn_20, k_X11_placeIn_21, k_X11_placeIn_22, k_X11_placeIn_23, k_X11_placeIn_24, oE_some, Int.reduceToNat, Nat.reduceAdd, true_and, and_true, List.length_cons, List.length_nil, Option.toList_some, Option.toList_none, List.cons_append, List.nil_append, Nat.reduceLeDiff, Nat.le_refl, wdS_nil, wdS_i, wdS_l, wdS_r, wdS_n, wdS_s, g1, en, w32_nat bp, w32_nat bn, f1, cM hK, m_isDrop d hK hi2 hpn, cz, e1, ↓reduceIte]
        exact hnx
  rw [callD_k]; simp only [entL_i, entL_l, entL_q, entL_s, entL_nil, n_X11_placeIn, u_X11_placeIn, m_X11_placeIn, rep_1, List.cons_append, List.nil_append, List.append_nil, List.length_cons, List.length_nil, Nat.reduceAdd, true_and]
  simp only [AW_k, AWk_1, x_push_i, x_push_l, x_istore_5, x_iload_5, unl_i, unl_l, unl_q, unl_r, unl_s, unl_n, k_X11_placeIn_0, k_X11_placeIn_1, k_X11_placeIn_2, oE_some, Int.reduceToNat, Nat.reduceAdd, true_and, and_true, List.length_cons, List.length_nil, Option.toList_some, Option.toList_none, List.cons_append, List.nil_append, Nat.reduceLeDiff, Nat.le_refl, wdS_nil, wdS_i, wdS_l, wdS_r, wdS_n, wdS_s]
  exact key (n - 1) 0 (Nat.zero_add _)
/-- a step down has one swapped pair less, a step up one more -/
def st_b (n : Nat) : Bool := allB (fun i => Nat.ble (pc15 (sw n i)) 15 && allB (fun p => if dn n i p = true then pc15 (sw n (bs n i p)) + 1 == pc15 (sw n i) else pc15 (sw n (bs n i p)) == pc15 (sw n i) + 1) (n - 1)) (FC n)
theorem st_c : all6 st_b = true := by decide +kernel
theorem st_ok {n i : Nat} (h1 : 1 ≤ n) (h6 : n ≤ 6) (hi : i < FC n) : pc15 (sw n i) ≤ 15 ∧ ∀ p, p < n - 1 → (dn n i p = true → pc15 (sw n (bs n i p)) + 1 = pc15 (sw n i)) ∧ (dn n i p = false → pc15 (sw n (bs n i p)) = pc15 (sw n i) + 1) := by
  have q := allB_of (all6_of st_c h1 h6) i hi
  rw [Bool.and_eq_true, Nat.ble_eq] at q
  refine ⟨q.1, fun p hp => ?_⟩
  have r := allB_of q.2 p hp
  constructor
  · intro e; rw [if_pos e] at r; exact beq_iff_eq.mp r
  · intro e; rw [if_neg (by rw [e]; decide)] at r; exact beq_iff_eq.mp r
/-- how far it may still go that way -/
def gMs (n : Nat) (b : Bool) (i : Nat) : Nat := if b = true then pc15 (sw n i) else 15 - pc15 (sw n i)
theorem gMs_15 {n i : Nat} {b : Bool} (h1 : 1 ≤ n) (h6 : n ≤ 6) (hi : i < FC n) : gMs n b i ≤ 15 := by
  have := (st_ok h1 h6 hi).1
  unfold gMs
  split <;> omega
theorem gMs_step {n i p : Nat} {G : BitVec 64} {b : Bool} (h1 : 1 ≤ n) (h6 : n ≤ 6) (hi : i < FC n) (e : fgD n G i b = some p) : bs n i p < FC n ∧ p < n - 1 ∧ gMs n b (bs n i p) + 1 = gMs n b i := by
  have hp := fgo_lt e
  have hb := bs_ok h1 h6 hi hp
  have q := (fst_some e).2.2
  rw [Bool.and_eq_true, mDU_eq, beq_iff_eq] at q
  obtain ⟨s1, s2⟩ := (st_ok h1 h6 hi).2 p hp
  have s3 := (st_ok h1 h6 hb).1
  refine ⟨hb, hp, ?_⟩
  unfold gMs
  cases b with
  | true => rw [if_pos rfl, if_pos rfl]; exact s1 q.1
  | false => rw [if_neg (by decide), if_neg (by decide)]; have := s2 q.1; omega
theorem goM_up (n : Nat) (G : BitVec 64) (m : Nat → Nat → Bool) (k i : Nat) : goM n G m (k + 1) i = match fgo n G i (m i) with
  | some p => goM n G m k (bs n i p)
  | none => i := rfl
def goD (n : Nat) (G : BitVec 64) (b : Bool) (i : Nat) : Nat := goM n G (mDU n b) 15 i
theorem goM_more {n : Nat} {G : BitVec 64} {b : Bool} (h1 : 1 ≤ n) (h6 : n ≤ 6) : ∀ k i, i < FC n → gMs n b i ≤ k → fgD n G (goM n G (mDU n b) k i) b = none ∧ ∀ k2, k ≤ k2 → goM n G (mDU n b) k2 i = goM n G (mDU n b) k i := by
  intro k
  induction k with
  | zero =>
    intro i hi hm
    have e : fgD n G i b = none := by
      cases q : fgD n G i b with
      | none => rfl
      | some p => have := (gMs_step h1 h6 hi q).2.2; omega
    refine ⟨e, fun k2 _ => ?_⟩
    cases k2 with
    | zero => rfl
    | succ k2 => rw [goM_up, show fgo n G i (mDU n b i) = none from e]; rfl
  | succ k ih =>
    intro i hi hm
    cases q : fgD n G i b with
    | none =>
      have e0 : ∀ k2, goM n G (mDU n b) k2 i = i := by
        intro k2
        cases k2 with
        | zero => rfl
        | succ k2 => rw [goM_up, show fgo n G i (mDU n b i) = none from q]
      rw [e0]
      exact ⟨q, fun k2 _ => e0 k2⟩
    | some p =>
      obtain ⟨s1, s2, s3⟩ := gMs_step h1 h6 hi q
      have e0 : ∀ k2, goM n G (mDU n b) (k2 + 1) i = goM n G (mDU n b) k2 (bs n i p) := fun k2 => by rw [goM_up, show fgo n G i (mDU n b i) = some p from q]
      obtain ⟨i1, i2⟩ := ih (bs n i p) s1 (by omega)
      rw [e0]
      refine ⟨i1, fun k2 hk => ?_⟩
      obtain ⟨k3, e3⟩ : ∃ k3, k2 = k3 + 1 := ⟨k2 - 1, by omega⟩
      subst e3
      rw [e0]
      exact i2 k3 (by omega)
theorem goD_end {n i : Nat} {G : BitVec 64} {b : Bool} (h1 : 1 ≤ n) (h6 : n ≤ 6) (hi : i < FC n) : fgD n G (goD n G b i) b = none := (goM_more h1 h6 15 i hi (gMs_15 h1 h6 hi)).1
theorem goD_step {n i p : Nat} {G : BitVec 64} {b : Bool} (h1 : 1 ≤ n) (h6 : n ≤ 6) (hi : i < FC n) (e : fgD n G i b = some p) : goD n G b i = goD n G b (bs n i p) := by
  obtain ⟨s1, s2, s3⟩ := gMs_step h1 h6 hi e
  have l1 := gMs_15 (b := b) h1 h6 hi
  have l2 := gMs_15 (b := b) h1 h6 s1
  unfold goD
  have e0 : goM n G (mDU n b) 15 i = goM n G (mDU n b) 14 (bs n i p) := by rw [show (15 : Nat) = 14 + 1 from rfl, goM_up, show fgo n G i (mDU n b i) = some p from e]
  rw [e0, (goM_more (G := G) h1 h6 14 (bs n i p) s1 (by omega)).2 15 (by omega)]
theorem goD_stop {n i : Nat} {G : BitVec 64} {b : Bool} (e : fgD n G i b = none) : goD n G b i = i := by
  unfold goD
  rw [show (15 : Nat) = 14 + 1 from rfl, goM_up, show fgo n G i (mDU n b i) = none from e]
theorem goD_lst (n : Nat) (G : BitVec 64) (i : Nat) : goD n G true i = lst n G i ∧ goD n G false i = gst n G i := ⟨rfl, rfl⟩
set_option maxHeartbeats 16000000 in
theorem m_goes (d : Nat) {hp : HP} {n i : Nat} {G : BitVec 64} {b : Bool} (h : MA hp n) (hi2 : i < FC n) (R : PO) : callD (d + 4) 228 [mR 54, mI ((num n i : Nat) : Int), mI (zI b), mL G] hp R ↔ R (some (mI ((num n (goD n G b i) : Nat) : Int))) hp := by
  have hK := h.1
  have h1 := hK.1.1
  have h6 := hK.1.2
  have key : ∀ (m i : Nat) (y1 : Int), i < FC n → gMs n b i ≤ m → (AWh (d + 3) [] 228 R 8 [some (mR 54), some (mI y1), some (mI (zI b)), some (mL G), none, some (mI ((num n i : Nat) : Int)), some (mI (oI (fgD n G i b)))] [] hp (0, 0) ↔ R (some (mI ((num n (goD n G b i) : Nat) : Int))) hp) := by
    intro m
    induction m with
    | zero =>
      intro i y1 hi hm
      cases q : fgD n G i b with
      | none =>
        rw [goD_stop q]
        rw [AWh_k, k_X11_goes_8]
        simp only [AW_k, AWk_1, x_iload_6, x_if_lt, x_aload_0, x_aloads_0, x_iload_5, x_callv_3, x_istore_5, x_iload_2, x_lload_3, x_callv_4, x_istore_6, x_goto, x_ret, x_ret_i, x_ret_z, x_ret_l, x_ret_c, unl_i, unl_l, unl_q, unl_r, unl_s, unl_n, k_X11_goes_8, k_X11_goes_9, k_X11_goes_10, k_X11_goes_11, k_X11_goes_12, k_X11_goes_13, k_X11_goes_14, k_X11_goes_15, k_X11_goes_16, k_X11_goes_17, k_X11_goes_18, k_X11_goes_19, k_X11_goes_20, k_X11_goes_21, k_X11_goes_22, k_X11_goes_23, oE_some, Int.reduceToNat, Nat.reduceAdd, true_and, and_true, List.length_cons, List.length_nil, Option.toList_some, Option.toList_none, List.cons_append, List.nil_append, Nat.reduceLeDiff, Nat.le_refl, wdS_nil, wdS_i, wdS_l, wdS_r, wdS_n, wdS_s, show oI (none : Option Nat) = -1 from rfl, wN, ↓reduceIte]
      | some p => have := (gMs_step h1 h6 hi q).2.2; omega
    | succ m ih =>
      intro i y1 hi hm
      cases q : fgD n G i b with
      | none =>
        rw [goD_stop q]
        rw [AWh_k, k_X11_goes_8]
        simp only [AW_k, AWk_1, x_iload_6, x_if_lt, x_aload_0, x_aloads_0, x_iload_5, x_callv_3, x_istore_5, x_iload_2, x_lload_3, x_callv_4, x_istore_6, x_goto, x_ret, x_ret_i, x_ret_z, x_ret_l, x_ret_c, unl_i, unl_l, unl_q, unl_r, unl_s, unl_n, k_X11_goes_8, k_X11_goes_9, k_X11_goes_10, k_X11_goes_11, k_X11_goes_12, k_X11_goes_13, k_X11_goes_14, k_X11_goes_15, k_X11_goes_16, k_X11_goes_17, k_X11_goes_18, k_X11_goes_19, k_X11_goes_20, k_X11_goes_21, k_X11_goes_22, k_X11_goes_23, oE_some, Int.reduceToNat, Nat.reduceAdd, true_and, and_true, List.length_cons, List.length_nil, Option.toList_some, Option.toList_none, List.cons_append, List.nil_append, Nat.reduceLeDiff, Nat.le_refl, wdS_nil, wdS_i, wdS_l, wdS_r, wdS_n, wdS_s, show oI (none : Option Nat) = -1 from rfl, wN, ↓reduceIte]
      | some p =>
        obtain ⟨s1, s2, s3⟩ := gMs_step h1 h6 hi q
        have bp : p < 2147483648 := by omega
        have hnx := ih (bs n i p) y1 s1 (by omega)
        rw [goD_step h1 h6 hi q]
        rw [AWh_k, k_X11_goes_8]
        simp only [AW_k, AWk_1, x_iload_6, x_if_lt, x_aload_0, x_aloads_0, x_iload_5, x_callv_3, x_istore_5, x_iload_2, x_lload_3, x_callv_4, x_istore_6, x_goto, unl_i, unl_l, unl_q, unl_r, unl_s, unl_n, k_X11_goes_8, k_X11_goes_9, k_X11_goes_10, k_X11_goes_11, k_X11_goes_12, k_X11_goes_13, k_X11_goes_14, k_X11_goes_15, k_X11_goes_16, k_X11_goes_17, k_X11_goes_18, k_X11_goes_19, k_X11_goes_20, k_X11_goes_21, oE_some, Int.reduceToNat, Nat.reduceAdd, true_and, and_true, List.length_cons, List.length_nil, Option.toList_some, Option.toList_none, List.cons_append, List.nil_append, Nat.reduceLeDiff, Nat.le_refl, wdS_nil, wdS_i, wdS_l, wdS_r, wdS_n, wdS_s, show oI (some p) = (p : Int) from rfl, wI bp, cM hK, m_swapAt (d + 1) hK hi s2, m_placeIn d h s1, ↓reduceIte]
        exact hnx
  rw [callD_k]; simp only [entL_i, entL_l, entL_q, entL_s, entL_nil, n_X11_goes, u_X11_goes, m_X11_goes, rep_2, List.cons_append, List.nil_append, List.append_nil, List.length_cons, List.length_nil, Nat.reduceAdd, true_and]
  simp only [AW_k, AWk_1, x_iload_1, x_istore_5, x_aload_0, x_aloads_0, x_iload_5, x_iload_2, x_lload_3, x_callv_4, x_istore_6, x_iload_6, unl_i, unl_l, unl_q, unl_r, unl_s, unl_n, k_X11_goes_0, k_X11_goes_1, k_X11_goes_2, k_X11_goes_3, k_X11_goes_4, k_X11_goes_5, k_X11_goes_6, k_X11_goes_7, k_X11_goes_8, oE_some, Int.reduceToNat, Nat.reduceAdd, true_and, and_true, List.length_cons, List.length_nil, Option.toList_some, Option.toList_none, List.cons_append, List.nil_append, Nat.reduceLeDiff, Nat.le_refl, wdS_nil, wdS_i, wdS_l, wdS_r, wdS_n, wdS_s, cM hK, m_placeIn d h hi2]
  exact key 15 i _ hi2 (gMs_15 h1 h6 hi2)
theorem m_leastOf (d : Nat) {hp : HP} {n i : Nat} {G : BitVec 64} (h : MA hp n) (hG : gF hp 54 11 3 = some (mL G)) (hi2 : i < FC n) (R : PO) : callD (d + 5) 229 [mR 54, mI ((num n i : Nat) : Int)] hp R ↔ R (some (mI ((num n (lst n G i) : Nat) : Int))) hp := by
  have mg : ∀ R : PO, callD (d + 4) 228 [mR 54, mI ((num n i : Nat) : Int), mI 1, mL G] hp R ↔ R (some (mI ((num n (lst n G i) : Nat) : Int))) hp := fun R => m_goes d (b := true) h hi2 R
  rw [callD_k]; simp only [entL_i, entL_l, entL_q, entL_s, entL_nil, n_X11_leastOf, u_X11_leastOf, m_X11_leastOf, rep_0, List.cons_append, List.nil_append, List.append_nil, List.length_cons, List.length_nil, Nat.reduceAdd, true_and]
  simp only [AW_k, AWk_1, x_aload_0, x_aloads_0, x_iload_1, x_push_i, x_push_l, x_getf, x_callv_4, x_ret, x_ret_i, x_ret_z, x_ret_l, x_ret_c, k_X11_leastOf_0, k_X11_leastOf_1, k_X11_leastOf_2, k_X11_leastOf_3, k_X11_leastOf_4, k_X11_leastOf_5, k_X11_leastOf_6, oE_some, Int.reduceToNat, Nat.reduceAdd, true_and, and_true, List.length_cons, List.length_nil, Option.toList_some, Option.toList_none, List.cons_append, List.nil_append, Nat.reduceLeDiff, Nat.le_refl, wdS_nil, wdS_i, wdS_l, wdS_r, wdS_n, wdS_s, hG, cM h.1, mg]
theorem m_greatestOf (d : Nat) {hp : HP} {n i : Nat} {G : BitVec 64} (h : MA hp n) (hG : gF hp 54 11 3 = some (mL G)) (hi2 : i < FC n) (R : PO) : callD (d + 5) 230 [mR 54, mI ((num n i : Nat) : Int)] hp R ↔ R (some (mI ((num n (gst n G i) : Nat) : Int))) hp := by
  have mg : ∀ R : PO, callD (d + 4) 228 [mR 54, mI ((num n i : Nat) : Int), mI 0, mL G] hp R ↔ R (some (mI ((num n (gst n G i) : Nat) : Int))) hp := fun R => m_goes d (b := false) h hi2 R
  rw [callD_k]; simp only [entL_i, entL_l, entL_q, entL_s, entL_nil, n_X11_greatestOf, u_X11_greatestOf, m_X11_greatestOf, rep_0, List.cons_append, List.nil_append, List.append_nil, List.length_cons, List.length_nil, Nat.reduceAdd, true_and]
  simp only [AW_k, AWk_1, x_aload_0, x_aloads_0, x_iload_1, x_push_i, x_push_l, x_getf, x_callv_4, x_ret, x_ret_i, x_ret_z, x_ret_l, x_ret_c, k_X11_greatestOf_0, k_X11_greatestOf_1, k_X11_greatestOf_2, k_X11_greatestOf_3, k_X11_greatestOf_4, k_X11_greatestOf_5, k_X11_greatestOf_6, oE_some, Int.reduceToNat, Nat.reduceAdd, true_and, and_true, List.length_cons, List.length_nil, Option.toList_some, Option.toList_none, List.cons_append, List.nil_append, Nat.reduceLeDiff, Nat.le_refl, wdS_nil, wdS_i, wdS_l, wdS_r, wdS_n, wdS_s, hG, cM h.1, mg]
/-- no drop of what is gone -/
def isP (n : Nat) (G : BitVec 64) (i : Nat) : Bool := (fgD n G i true).isNone
theorem m_isLeastP (d : Nat) {hp : HP} {n i : Nat} {G : BitVec 64} (h : MA hp n) (hG : gF hp 54 11 3 = some (mL G)) (hi2 : i < FC n) (R : PO) : callD (d + 4) 231 [mR 54, mI ((num n i : Nat) : Int)] hp R ↔ R (some (mI (zI (isP n G i)))) hp := by
  have mg : ∀ R : PO, callD (d + 3) 227 [mR 54, mI ((num n i : Nat) : Int), mI 1, mL G] hp R ↔ R (some (mI (oI (fgD n G i true)))) hp := fun R => m_placeIn d (b := true) h hi2 R
  unfold isP
  rw [callD_k]; simp only [entL_i, entL_l, entL_q, entL_s, entL_nil, n_X11_isLeast, u_X11_isLeast, m_X11_isLeast, rep_0, List.cons_append, List.nil_append, List.append_nil, List.length_cons, List.length_nil, Nat.reduceAdd, true_and]
  cases q : fgD n G i true with
  | none =>
    rw [q] at mg
    simp only [AW_k, AWk_1, x_aload_0, x_aloads_0, x_iload_1, x_push_i, x_push_l, x_getf, x_callv_4, x_if_ge, x_goto, x_ret, x_ret_i, x_ret_z, x_ret_l, x_ret_c, k_X11_isLeast_0, k_X11_isLeast_1, k_X11_isLeast_2, k_X11_isLeast_3, k_X11_isLeast_4, k_X11_isLeast_5, k_X11_isLeast_6, k_X11_isLeast_7, k_X11_isLeast_8, k_X11_isLeast_9, k_X11_isLeast_10, oE_some, Int.reduceToNat, Nat.reduceAdd, true_and, and_true, List.length_cons, List.length_nil, Option.toList_some, Option.toList_none, List.cons_append, List.nil_append, Nat.reduceLeDiff, Nat.le_refl, wdS_nil, wdS_i, wdS_l, wdS_r, wdS_n, wdS_s, hG, cM h.1, mg, show oI (none : Option Nat) = -1 from rfl, wN, ↓reduceIte]
    exact ⟨fun q => q.2, fun q => ⟨Or.inr trivial, q⟩⟩
  | some p =>
    have hp1 := fgo_lt q
    have n6 := h.1.1.2
    have bp : p < 2147483648 := by omega
    rw [q] at mg
    simp only [AW_k, AWk_1, x_aload_0, x_aloads_0, x_iload_1, x_push_i, x_push_l, x_getf, x_callv_4, x_if_ge, x_goto, x_ret, x_ret_i, x_ret_z, x_ret_l, x_ret_c, k_X11_isLeast_0, k_X11_isLeast_1, k_X11_isLeast_2, k_X11_isLeast_3, k_X11_isLeast_4, k_X11_isLeast_5, k_X11_isLeast_6, k_X11_isLeast_7, k_X11_isLeast_8, k_X11_isLeast_9, k_X11_isLeast_10, oE_some, Int.reduceToNat, Nat.reduceAdd, true_and, and_true, List.length_cons, List.length_nil, Option.toList_some, Option.toList_none, List.cons_append, List.nil_append, Nat.reduceLeDiff, Nat.le_refl, wdS_nil, wdS_i, wdS_l, wdS_r, wdS_n, wdS_s, hG, cM h.1, mg, show oI (some p) = (p : Int) from rfl, wI bp, ↓reduceIte]
    exact ⟨fun q => q.2, fun q => ⟨Or.inl trivial, q⟩⟩
