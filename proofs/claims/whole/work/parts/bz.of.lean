/-! ===== the reference's list: the nearest ===== -/
theorem jmR_snoc (n : Nat) : ∀ k i p, jmR n (k + 1) i p = match jmR n k i p with
    | some q => psR n q (p + k)
    | none => none := by
  intro k
  induction k with
  | zero =>
    intro i p
    rw [jmR_up]
    show (match psR n i p with | some q => some q | none => none) = psR n i p
    cases psR n i p <;> rfl
  | succ k ih =>
    intro i p
    rw [jmR_up n (k + 1), jmR_up n k]
    cases e : psR n i p with
    | none => rfl
    | some q =>
      show jmR n (k + 1) q (p + 1) = match jmR n k q (p + 1) with
        | some q' => psR n q' (p + (k + 1))
        | none => none
      rw [ih q (p + 1), show p + 1 + k = p + (k + 1) by omega]
theorem jmL_snoc (n : Nat) : ∀ k i p, jmL n (k + 1) i p = match jmL n k i p with
    | some q => psL n q (p - k)
    | none => none := by
  intro k
  induction k with
  | zero =>
    intro i p
    rw [jmL_up]
    show (match psL n i p with | some q => some q | none => none) = psL n i p
    cases psL n i p <;> rfl
  | succ k ih =>
    intro i p
    rw [jmL_up n (k + 1), jmL_up n k]
    cases e : psL n i p with
    | none => rfl
    | some q =>
      show jmL n (k + 1) q (p - 1) = match jmL n k q (p - 1) with
        | some q' => psL n q' (p - (k + 1))
        | none => none
      rw [ih q (p - 1), show p - 1 - k = p - (k + 1) by omega]
theorem nlR_up (n : Nat) (G : BitVec 64) (m i p : Nat) : nlR n G (m + 1) i p = match psR n i p with
    | some q => if isL n G q = true then some q else nlR n G m q (p + 1)
    | none => none := rfl
theorem nlL_up (n : Nat) (G : BitVec 64) (m i p : Nat) : nlL n G (m + 1) i p = match psL n i p with
    | some q => if isL n G q = true then some q else nlL n G m q (p - 1)
    | none => none := rfl
theorem jmX_R {n v i k : Nat} (h1 : 1 ≤ n) : jmX n v (k : Int) i = nuO n (jmR n k i (plc n i v)) := by
  have hp := plc_lt (n := n) (i := i) (v := v) h1
  unfold jmX
  by_cases c : k < n
  · rw [if_pos (by omega)]
    unfold jmW
    rw [if_pos (by omega), Int.toNat_natCast]
  · rw [if_neg (by omega), jmR_out _ _ _ (by omega) hp]
    rfl
theorem jmX_L {n v i k : Nat} (h1 : 1 ≤ n) (hk : 1 ≤ k) : jmX n v (-(k : Int)) i = nuO n (jmL n k i (plc n i v)) := by
  have hp := plc_lt (n := n) (i := i) (v := v) h1
  unfold jmX
  by_cases c : k < n
  · rw [if_pos (by omega)]
    unfold jmW
    rw [if_neg (by omega), Int.neg_neg, Int.toNat_natCast]
  · rw [if_neg (by omega), jmL_out _ _ _ (by omega)]
    rfl
theorem num_3 (n j : Nat) : (((num n j : Nat) : Int) = -3) = False := eq_false (by omega)
set_option maxHeartbeats 16000000 in
theorem m_nearestR (d : Nat) {hp : HP} {n i v : Nat} {G : BitVec 64} (hA : MA hp n) (hG : gF hp 54 11 3 = some (mL G)) (hi : i < FC n) (v1 : 1 ≤ v) (vn : v ≤ n) (R : PO) : callD (d + 5) 244 [mR 54, mI ((num n i : Nat) : Int), mI (v : Int), mI 1] hp R ↔ R (some (mI (nuO n (nlR n G n i (plc n i v))))) hp := by
  have hK := hA.1
  have h1 := hK.1.1
  have h6 := hK.1.2
  have cK := cM hK
  have hp1 := plc_lt (n := n) (i := i) (v := v) h1
  have m3 : w32 (-3) = -3 := rfl
  have key : ∀ (m k q : Nat) (y5 : Option AV), k + m = n → jmR n k i (plc n i v) = some q → (AWh (d + 4) [] 244 R 2 [some (mR 54), some (mI ((num n i : Nat) : Int)), some (mI (v : Int)), some (mI 1), some (mI ((k + 1 : Nat) : Int)), y5] [] hp (0, 0) ↔ R (some (mI (nuO n (nlR n G m q (plc n i v + k))))) hp) := by
    intro m
    induction m with
    | zero =>
      intro k q y5 hk hq
      rw [jmR_out _ _ _ (by omega) hp1] at hq
      cases hq
    | succ m ih =>
      intro k q y5 hk hq
      have bk : k + 1 < 2147483648 := by omega
      have hqF := jmR_ok h1 h6 _ _ _ _ hi hq
      have ej : jmX n v ((k + 1 : Nat) : Int) i = nuO n (psR n q (plc n i v + k)) := by
        rw [jmX_R h1, jmR_snoc, hq]
      have cj := fun R => m_jumped (d + 1) (w := ((k + 1 : Nat) : Int)) hK hi v1 vn (w32_nat bk) R
      rw [ej] at cj
      rw [nlR_up]
      rw [AWh_k, k_X11_nearest_2]
      cases e : psR n q (plc n i v + k) with
      | none =>
        rw [e] at cj
        simp only [AW_k, AWk_1, x_aload_0, x_aloads_0, x_iload_1, x_iload_2, x_iload_4, x_callv_4, x_istore_5, x_iload_5, x_push_i, x_push_l, x_icmp_eq, x_callv_2, x_if_eq, x_ret, x_ret_i, x_ret_z, x_ret_l, x_ret_c, unl_i, unl_l, unl_q, unl_r, unl_s, unl_n, k_X11_nearest_2, k_X11_nearest_3, k_X11_nearest_4, k_X11_nearest_5, k_X11_nearest_6, k_X11_nearest_7, k_X11_nearest_8, k_X11_nearest_9, k_X11_nearest_10, k_X11_nearest_11, k_X11_nearest_12, k_X11_nearest_13, k_X11_nearest_14, k_X11_nearest_15, k_X11_nearest_16, oE_some, Int.reduceToNat, Nat.reduceAdd, true_and, and_true, List.length_cons, List.length_nil, Option.toList_some, Option.toList_none, List.cons_append, List.nil_append, Nat.reduceLeDiff, Nat.le_refl, wdS_nil, wdS_i, wdS_l, wdS_r, wdS_n, wdS_s, cK, cj, show nuO n none = -3 from rfl, m3, ↓reduceIte]
      | some q' =>
        rw [e] at cj
        have hq' := (psR_ok h1 h6 hqF e).1
        have wq := w32_nat (num_31 h1 h6 hq')
        have es : jmR n (k + 1) i (plc n i v) = some q' := by rw [jmR_snoc, hq]; exact e
        have hn := ih (k + 1) q' (some (mI ((num n q' : Nat) : Int))) (by omega) es
        have ek : ((k + 1 : Nat) : Int) + 1 = ((k + 1 + 1 : Nat) : Int) := by omega
        cases eL : isL n G q' with
        | true =>
          simp only [AW_k, AWk_1, x_aload_0, x_aloads_0, x_iload_1, x_iload_2, x_iload_4, x_callv_4, x_istore_5, x_iload_5, x_push_i, x_push_l, x_icmp_eq, x_callv_2, x_if_eq, x_ret, x_ret_i, x_ret_z, x_ret_l, x_ret_c, unl_i, unl_l, unl_q, unl_r, unl_s, unl_n, k_X11_nearest_2, k_X11_nearest_3, k_X11_nearest_4, k_X11_nearest_5, k_X11_nearest_6, k_X11_nearest_7, k_X11_nearest_8, k_X11_nearest_9, k_X11_nearest_10, k_X11_nearest_11, k_X11_nearest_12, k_X11_nearest_13, k_X11_nearest_14, k_X11_nearest_15, k_X11_nearest_16, oE_some, Int.reduceToNat, Nat.reduceAdd, true_and, and_true, List.length_cons, List.length_nil, Option.toList_some, Option.toList_none, List.cons_append, List.nil_append, Nat.reduceLeDiff, Nat.le_refl, wdS_nil, wdS_i, wdS_l, wdS_r, wdS_n, wdS_s, cK, cj, show nuO n (some q') = ((num n q' : Nat) : Int) from rfl, m3, wq, num_3, m_isLeast d hA hG hq', eL, zI_t, w10, ↓reduceIte]
        | false =>
          simp only [AW_k, AWk_1, x_aload_0, x_aloads_0, x_iload_1, x_iload_2, x_iload_4, x_callv_4, x_istore_5, x_iload_5, x_push_i, x_push_l, x_icmp_eq, x_callv_2, x_if_eq, x_ret, x_ret_i, x_ret_z, x_ret_l, x_ret_c, x_iload_3, x_iadd, x_istore_4, x_goto, unl_i, unl_l, unl_q, unl_r, unl_s, unl_n, k_X11_nearest_2, k_X11_nearest_3, k_X11_nearest_4, k_X11_nearest_5, k_X11_nearest_6, k_X11_nearest_7, k_X11_nearest_8, k_X11_nearest_9, k_X11_nearest_10, k_X11_nearest_11, k_X11_nearest_12, k_X11_nearest_13, k_X11_nearest_14, k_X11_nearest_15, k_X11_nearest_16, k_X11_nearest_17, k_X11_nearest_18, k_X11_nearest_19, k_X11_nearest_20, k_X11_nearest_21, oE_some, Int.reduceToNat, Nat.reduceAdd, true_and, and_true, List.length_cons, List.length_nil, Option.toList_some, Option.toList_none, List.cons_append, List.nil_append, Nat.reduceLeDiff, Nat.le_refl, wdS_nil, wdS_i, wdS_l, wdS_r, wdS_n, wdS_s, cK, cj, show nuO n (some q') = ((num n q' : Nat) : Int) from rfl, m3, wq, num_3, m_isLeast d hA hG hq', eL, zI_f, w00, ek, Bool.false_eq_true, ↓reduceIte]
          rw [show plc n i v + k + 1 = plc n i v + (k + 1) by omega]
          exact hn
  refine Iff.trans ?_ (key n 0 i none (Nat.zero_add n) rfl)
  rw [callD_k]; simp only [entL_i, entL_l, entL_q, entL_s, entL_nil, n_X11_nearest, u_X11_nearest, m_X11_nearest, rep_2, List.cons_append, List.nil_append, List.append_nil, List.length_cons, List.length_nil, Nat.reduceAdd, true_and]
  simp only [AW_k, AWk_1, x_iload_3, x_istore_4, x_aload_0, x_aloads_0, unl_i, unl_l, unl_q, unl_r, unl_s, unl_n, k_X11_nearest_0, k_X11_nearest_1, k_X11_nearest_2, oE_some, Int.reduceToNat, Nat.reduceAdd, true_and, and_true, List.length_cons, List.length_nil, Option.toList_some, Option.toList_none, List.cons_append, List.nil_append, Nat.reduceLeDiff, Nat.le_refl, wdS_nil, wdS_i, wdS_l, wdS_r, wdS_n, wdS_s]
  all_goals exact Iff.rfl
set_option maxHeartbeats 16000000 in
theorem m_nearestL (d : Nat) {hp : HP} {n i v : Nat} {G : BitVec 64} (hA : MA hp n) (hG : gF hp 54 11 3 = some (mL G)) (hi : i < FC n) (v1 : 1 ≤ v) (vn : v ≤ n) (R : PO) : callD (d + 5) 244 [mR 54, mI ((num n i : Nat) : Int), mI (v : Int), mI (-1)] hp R ↔ R (some (mI (nuO n (nlL n G n i (plc n i v))))) hp := by
  have hK := hA.1
  have h1 := hK.1.1
  have h6 := hK.1.2
  have cK := cM hK
  have hp1 := plc_lt (n := n) (i := i) (v := v) h1
  have m3 : w32 (-3) = -3 := rfl
  have key : ∀ (m k q : Nat) (y5 : Option AV), k + m = n → jmL n k i (plc n i v) = some q → k ≤ plc n i v → (AWh (d + 4) [] 244 R 2 [some (mR 54), some (mI ((num n i : Nat) : Int)), some (mI (v : Int)), some (mI (-1)), some (mI (-((k + 1 : Nat) : Int))), y5] [] hp (0, 0) ↔ R (some (mI (nuO n (nlL n G m q (plc n i v - k))))) hp) := by
    intro m
    induction m with
    | zero =>
      intro k q y5 hk hq hkp
      omega
    | succ m ih =>
      intro k q y5 hk hq hkp
      have hqF := jmL_ok h1 h6 _ _ _ _ hi hp1 hq
      have hlt : plc n i v - k < n := by omega
      have hkm : k + 1 + m = n := by omega
      have ek : -((k + 1 : Nat) : Int) + -1 = -((k + 1 + 1 : Nat) : Int) := by omega
      have ej : jmX n v (-((k + 1 : Nat) : Int)) i = nuO n (psL n q (plc n i v - k)) := by
        rw [jmX_L h1 (by omega), jmL_snoc, hq]
      have wk : w32 (-((k + 1 : Nat) : Int)) = -((k + 1 : Nat) : Int) := w32_id (by omega) (by omega)
      have cj := fun R => m_jumped (d + 1) (w := -((k + 1 : Nat) : Int)) hK hi v1 vn wk R
      rw [ej] at cj
      rw [nlL_up]
      rw [AWh_k, k_X11_nearest_2]
      cases e : psL n q (plc n i v - k) with
      | none =>
        rw [e] at cj
        simp only [AW_k, AWk_1, x_aload_0, x_aloads_0, x_iload_1, x_iload_2, x_iload_4, x_callv_4, x_istore_5, x_iload_5, x_push_i, x_push_l, x_icmp_eq, x_callv_2, x_if_eq, x_ret, x_ret_i, x_ret_z, x_ret_l, x_ret_c, unl_i, unl_l, unl_q, unl_r, unl_s, unl_n, k_X11_nearest_2, k_X11_nearest_3, k_X11_nearest_4, k_X11_nearest_5, k_X11_nearest_6, k_X11_nearest_7, k_X11_nearest_8, k_X11_nearest_9, k_X11_nearest_10, k_X11_nearest_11, k_X11_nearest_12, k_X11_nearest_13, k_X11_nearest_14, k_X11_nearest_15, k_X11_nearest_16, oE_some, Int.reduceToNat, Nat.reduceAdd, true_and, and_true, List.length_cons, List.length_nil, Option.toList_some, Option.toList_none, List.cons_append, List.nil_append, Nat.reduceLeDiff, Nat.le_refl, wdS_nil, wdS_i, wdS_l, wdS_r, wdS_n, wdS_s, cK, cj, show nuO n none = -3 from rfl, m3, ↓reduceIte]
      | some q' =>
        rw [e] at cj
        have hq' := psL_ok h1 h6 hqF hlt e
        have hq'1 := hq'.1
        have hkp2 : k + 1 ≤ plc n i v := by have := hq'.2; clear wk cj ej; omega
        have wq := w32_nat (num_31 h1 h6 hq'1)
        have es : jmL n (k + 1) i (plc n i v) = some q' := by rw [jmL_snoc, hq]; exact e
        have hn := ih (k + 1) q' (some (mI ((num n q' : Nat) : Int))) hkm es hkp2
        cases eL : isL n G q' with
        | true =>
          simp only [AW_k, AWk_1, x_aload_0, x_aloads_0, x_iload_1, x_iload_2, x_iload_4, x_callv_4, x_istore_5, x_iload_5, x_push_i, x_push_l, x_icmp_eq, x_callv_2, x_if_eq, x_ret, x_ret_i, x_ret_z, x_ret_l, x_ret_c, unl_i, unl_l, unl_q, unl_r, unl_s, unl_n, k_X11_nearest_2, k_X11_nearest_3, k_X11_nearest_4, k_X11_nearest_5, k_X11_nearest_6, k_X11_nearest_7, k_X11_nearest_8, k_X11_nearest_9, k_X11_nearest_10, k_X11_nearest_11, k_X11_nearest_12, k_X11_nearest_13, k_X11_nearest_14, k_X11_nearest_15, k_X11_nearest_16, oE_some, Int.reduceToNat, Nat.reduceAdd, true_and, and_true, List.length_cons, List.length_nil, Option.toList_some, Option.toList_none, List.cons_append, List.nil_append, Nat.reduceLeDiff, Nat.le_refl, wdS_nil, wdS_i, wdS_l, wdS_r, wdS_n, wdS_s, cK, cj, show nuO n (some q') = ((num n q' : Nat) : Int) from rfl, m3, wq, num_3, m_isLeast d hA hG hq'1, eL, zI_t, w10, ↓reduceIte]
        | false =>
          simp only [AW_k, AWk_1, x_aload_0, x_aloads_0, x_iload_1, x_iload_2, x_iload_4, x_callv_4, x_istore_5, x_iload_5, x_push_i, x_push_l, x_icmp_eq, x_callv_2, x_if_eq, x_ret, x_ret_i, x_ret_z, x_ret_l, x_ret_c, x_iload_3, x_iadd, x_istore_4, x_goto, unl_i, unl_l, unl_q, unl_r, unl_s, unl_n, k_X11_nearest_2, k_X11_nearest_3, k_X11_nearest_4, k_X11_nearest_5, k_X11_nearest_6, k_X11_nearest_7, k_X11_nearest_8, k_X11_nearest_9, k_X11_nearest_10, k_X11_nearest_11, k_X11_nearest_12, k_X11_nearest_13, k_X11_nearest_14, k_X11_nearest_15, k_X11_nearest_16, k_X11_nearest_17, k_X11_nearest_18, k_X11_nearest_19, k_X11_nearest_20, k_X11_nearest_21, oE_some, Int.reduceToNat, Nat.reduceAdd, true_and, and_true, List.length_cons, List.length_nil, Option.toList_some, Option.toList_none, List.cons_append, List.nil_append, Nat.reduceLeDiff, Nat.le_refl, wdS_nil, wdS_i, wdS_l, wdS_r, wdS_n, wdS_s, cK, cj, show nuO n (some q') = ((num n q' : Nat) : Int) from rfl, m3, wq, num_3, m_isLeast d hA hG hq'1, eL, zI_f, w00, ek, Bool.false_eq_true, ↓reduceIte]
          rw [show plc n i v - k - 1 = plc n i v - (k + 1) by omega]
          exact hn
  refine Iff.trans ?_ (key n 0 i none (Nat.zero_add n) rfl (Nat.zero_le _))
  rw [callD_k]; simp only [entL_i, entL_l, entL_q, entL_s, entL_nil, n_X11_nearest, u_X11_nearest, m_X11_nearest, rep_2, List.cons_append, List.nil_append, List.append_nil, List.length_cons, List.length_nil, Nat.reduceAdd, true_and]
  simp only [AW_k, AWk_1, x_iload_3, x_istore_4, x_aload_0, x_aloads_0, unl_i, unl_l, unl_q, unl_r, unl_s, unl_n, k_X11_nearest_0, k_X11_nearest_1, k_X11_nearest_2, oE_some, Int.reduceToNat, Nat.reduceAdd, true_and, and_true, List.length_cons, List.length_nil, Option.toList_some, Option.toList_none, List.cons_append, List.nil_append, Nat.reduceLeDiff, Nat.le_refl, wdS_nil, wdS_i, wdS_l, wdS_r, wdS_n, wdS_s]
  all_goals exact Iff.rfl
set_option maxHeartbeats 16000000 in
theorem m_nbTry (d : Nat) {hp : HP} {n i v : Nat} {b : Int} {il : List Int} {s : Nat → Bool} {o : Option Nat} {y4 : Option AV} (hA : MA hp n) (h5 : n ≤ 5) (g73 : gF hp 54 11 34 = some (mR 73)) (b73 : gB hp 73 = some il) (hl : il.length = 120) (hs : seI il s) (ho : ∀ x, o = some x → x < FC n) (hb : b = -1 ∨ b = 1) (mn : ∀ R : PO, callD (d + 5) 244 [mR 54, mI ((num n i : Nat) : Int), mI (v : Int), mI b] hp R ↔ R (some (mI (nuO n o))) hp) (R : PO) : AWh (d + 5) [] 245 R 8 [some (mR 54), some (mI ((num n i : Nat) : Int)), some (mI (v : Int)), some (mI b), y4] [] hp (0, 0) ↔ match pick s o with
    | some x => R (some (mI ((num n x : Nat) : Int))) hp
    | none => AWh (d + 5) [] 245 R 8 [some (mR 54), some (mI ((num n i : Nat) : Int)), some (mI (v : Int)), some (mI (b + 2)), some (mI (nuO n o))] [] hp (0, 0) := by
  have hK := hA.1
  have h1 := hK.1.1
  have h6 := hK.1.2
  have cK := cM hK
  have m3 : w32 (-3) = -3 := rfl
  have f5 := FC_120 h1 h5
  have n1 : (w32 b < w32 2) = True := by rcases hb with h | h <;> subst h <;> exact eq_true (by decide)
  unfold pick
  cases o with
  | none =>
    show _ ↔ AWh (d + 5) [] 245 R 8 [some (mR 54), some (mI ((num n i : Nat) : Int)), some (mI (v : Int)), some (mI (b + 2)), some (mI (nuO n none))] [] hp (0, 0)
    refine Iff.trans AWh_k ?_
    rw [k_X11_nextBehind_8]
    simp only [AW_k, AWk_1, x_iload_3, x_push_i, x_push_l, x_icmp_ge, x_aload_0, x_aloads_0, x_iload_1, x_iload_2, x_callv_4, x_istore_4, x_iload_4, x_icmp_eq, x_getf, x_callv_2, x_bald, x_if_ne, x_ret, x_ret_i, x_ret_z, x_ret_l, x_ret_c, x_iinc_3, x_goto, unl_i, unl_l, unl_q, unl_r, unl_s, unl_n, k_X11_nextBehind_8, k_X11_nextBehind_9, k_X11_nextBehind_10, k_X11_nextBehind_11, k_X11_nextBehind_12, k_X11_nextBehind_13, k_X11_nextBehind_14, k_X11_nextBehind_15, k_X11_nextBehind_16, k_X11_nextBehind_17, k_X11_nextBehind_18, k_X11_nextBehind_19, k_X11_nextBehind_20, k_X11_nextBehind_21, k_X11_nextBehind_22, k_X11_nextBehind_23, k_X11_nextBehind_24, k_X11_nextBehind_25, k_X11_nextBehind_26, k_X11_nextBehind_27, k_X11_nextBehind_28, k_X11_nextBehind_29, k_X11_nextBehind_30, oE_some, Int.reduceToNat, Nat.reduceAdd, true_and, and_true, List.length_cons, List.length_nil, Option.toList_some, Option.toList_none, List.cons_append, List.nil_append, Nat.reduceLeDiff, Nat.le_refl, wdS_nil, wdS_i, wdS_l, wdS_r, wdS_n, wdS_s, n1, cK, mn, show nuO n none = -3 from rfl, m3, ↓reduceIte]
  | some x =>
    have hx := ho x rfl
    have bx : x < 2147483648 := by omega
    have wx := w32_nat (num_31 h1 h6 hx)
    have ix : inB (x : Int) il.length := by rw [hl]; exact inB_n (by omega) (by decide)
    have hv : il.getD x 0 = zI (s x) := hs x (by omega)
    cases e : s x with
    | true =>
      rw [e] at hv
      show _ ↔ match (if s x = true then none else some x) with
        | some x => R (some (mI ((num n x : Nat) : Int))) hp
        | none => AWh (d + 5) [] 245 R 8 [some (mR 54), some (mI ((num n i : Nat) : Int)), some (mI (v : Int)), some (mI (b + 2)), some (mI (nuO n (some x)))] [] hp (0, 0)
      rw [if_pos e]
      refine Iff.trans AWh_k ?_
      rw [k_X11_nextBehind_8]
      simp only [AW_k, AWk_1, x_iload_3, x_push_i, x_push_l, x_icmp_ge, x_aload_0, x_aloads_0, x_iload_1, x_iload_2, x_callv_4, x_istore_4, x_iload_4, x_icmp_eq, x_getf, x_callv_2, x_bald, x_if_ne, x_ret, x_ret_i, x_ret_z, x_ret_l, x_ret_c, x_iinc_3, x_goto, unl_i, unl_l, unl_q, unl_r, unl_s, unl_n, k_X11_nextBehind_8, k_X11_nextBehind_9, k_X11_nextBehind_10, k_X11_nextBehind_11, k_X11_nextBehind_12, k_X11_nextBehind_13, k_X11_nextBehind_14, k_X11_nextBehind_15, k_X11_nextBehind_16, k_X11_nextBehind_17, k_X11_nextBehind_18, k_X11_nextBehind_19, k_X11_nextBehind_20, k_X11_nextBehind_21, k_X11_nextBehind_22, k_X11_nextBehind_23, k_X11_nextBehind_24, k_X11_nextBehind_25, k_X11_nextBehind_26, k_X11_nextBehind_27, k_X11_nextBehind_28, k_X11_nextBehind_29, k_X11_nextBehind_30, oE_some, Int.reduceToNat, Nat.reduceAdd, true_and, and_true, List.length_cons, List.length_nil, Option.toList_some, Option.toList_none, List.cons_append, List.nil_append, Nat.reduceLeDiff, Nat.le_refl, wdS_nil, wdS_i, wdS_l, wdS_r, wdS_n, wdS_s, n1, cK, mn, show nuO n (some x) = ((num n x : Nat) : Int) from rfl, m3, wx, num_3, g73, m_rank (d + 3) hK hx, b73, ix, w32_nat bx, Int.toNat_natCast, hv, zI_t, w10, ↓reduceIte]
    | false =>
      rw [e] at hv
      show _ ↔ match (if s x = true then none else some x) with
        | some x => R (some (mI ((num n x : Nat) : Int))) hp
        | none => AWh (d + 5) [] 245 R 8 [some (mR 54), some (mI ((num n i : Nat) : Int)), some (mI (v : Int)), some (mI (b + 2)), some (mI (nuO n (some x)))] [] hp (0, 0)
      rw [if_neg (by rw [e]; decide)]
      refine Iff.trans AWh_k ?_
      rw [k_X11_nextBehind_8]
      simp only [AW_k, AWk_1, x_iload_3, x_push_i, x_push_l, x_icmp_ge, x_aload_0, x_aloads_0, x_iload_1, x_iload_2, x_callv_4, x_istore_4, x_iload_4, x_icmp_eq, x_getf, x_callv_2, x_bald, x_if_ne, x_ret, x_ret_i, x_ret_z, x_ret_l, x_ret_c, unl_i, unl_l, unl_q, unl_r, unl_s, unl_n, k_X11_nextBehind_8, k_X11_nextBehind_9, k_X11_nextBehind_10, k_X11_nextBehind_11, k_X11_nextBehind_12, k_X11_nextBehind_13, k_X11_nextBehind_14, k_X11_nextBehind_15, k_X11_nextBehind_16, k_X11_nextBehind_17, k_X11_nextBehind_18, k_X11_nextBehind_19, k_X11_nextBehind_20, k_X11_nextBehind_21, k_X11_nextBehind_22, k_X11_nextBehind_23, k_X11_nextBehind_24, k_X11_nextBehind_25, k_X11_nextBehind_26, k_X11_nextBehind_27, k_X11_nextBehind_28, oE_some, Int.reduceToNat, Nat.reduceAdd, true_and, and_true, List.length_cons, List.length_nil, Option.toList_some, Option.toList_none, List.cons_append, List.nil_append, Nat.reduceLeDiff, Nat.le_refl, wdS_nil, wdS_i, wdS_l, wdS_r, wdS_n, wdS_s, n1, cK, mn, show nuO n (some x) = ((num n x : Nat) : Int) from rfl, m3, wx, num_3, g73, m_rank (d + 3) hK hx, b73, ix, w32_nat bx, Int.toNat_natCast, hv, zI_f, w00, ↓reduceIte]
set_option maxHeartbeats 16000000 in
theorem m_nextBehind (d : Nat) {hp : HP} {n i : Nat} {G : BitVec 64} {il : List Int} {s : Nat → Bool} (hA : MA hp n) (hG : gF hp 54 11 3 = some (mL G)) (h5 : n ≤ 5) (g73 : gF hp 54 11 34 = some (mR 73)) (b73 : gB hp 73 = some il) (hl : il.length = 120) (hs : seI il s) (hi : i < FC n) (R : PO) : callD (d + 6) 245 [mR 54, mI ((num n i : Nat) : Int)] hp R ↔ R (some (mI (nuO n (nbF n G i s (n - 1))))) hp := by
  have hK := hA.1
  have h1 := hK.1.1
  have h6 := hK.1.2
  have g0 := hK.2.1
  have key : ∀ (k : Nat) (y3 y4 : Option AV), k + 1 ≤ n → (AWh (d + 5) [] 245 R 3 [some (mR 54), some (mI ((num n i : Nat) : Int)), some (mI ((k + 1 : Nat) : Int)), y3, y4] [] hp (0, 0) ↔ R (some (mI (nuO n (nbF n G i s k)))) hp) := by
    intro k
    induction k with
    | zero =>
      intro y3 y4 hk
      rw [AWh_k, k_X11_nextBehind_3]
      simp only [AW_k, AWk_1, x_iload_2, x_push_i, x_push_l, x_icmp_le, x_ret, x_ret_i, x_ret_z, x_ret_l, x_ret_c, k_X11_nextBehind_3, k_X11_nextBehind_4, k_X11_nextBehind_5, k_X11_nextBehind_33, k_X11_nextBehind_34, oE_some, Int.reduceToNat, Nat.reduceAdd, true_and, and_true, List.length_cons, List.length_nil, Option.toList_some, Option.toList_none, List.cons_append, List.nil_append, Nat.reduceLeDiff, Nat.le_refl, wdS_nil, wdS_i, wdS_l, wdS_r, wdS_n, wdS_s, show w32 ((0 + 1 : Nat) : Int) = 1 from rfl, show w32 1 = 1 from rfl, Int.lt_irrefl, ↓reduceIte]
      all_goals exact Iff.rfl
    | succ k ih =>
      intro y3 y4 hk
      have bv : k + 1 + 1 < 2147483648 := by omega
      have cv : ((1 : Int) < ((k + 1 + 1 : Nat) : Int)) = True := eq_true (by omega)
      have ev : ((k + 1 + 1 : Nat) : Int) + -1 = ((k + 1 : Nat) : Int) := by omega
      have tL := fun y4 => m_nbTry d (i := i) (v := k + 1 + 1) (b := -1) (y4 := y4) hA h5 g73 b73 hl hs (fun x q => (nlL_ok h1 h6 hi (plc_lt h1) q).1) (Or.inl rfl) (fun R => m_nearestL d hA hG hi (by omega) hk R) R
      have tR := fun y4 => m_nbTry d (i := i) (v := k + 1 + 1) (b := 1) (y4 := y4) hA h5 g73 b73 hl hs (fun x q => (nlR_ok h1 h6 hi q).1) (Or.inr rfl) (fun R => m_nearestR d hA hG hi (by omega) hk R) R
      rw [nbF_succ]
      have st : AWh (d + 5) [] 245 R 3 [some (mR 54), some (mI ((num n i : Nat) : Int)), some (mI ((k + 1 + 1 : Nat) : Int)), y3, y4] [] hp (0, 0) ↔ AWh (d + 5) [] 245 R 8 [some (mR 54), some (mI ((num n i : Nat) : Int)), some (mI ((k + 1 + 1 : Nat) : Int)), some (mI (-1)), y4] [] hp (0, 0) := by
        refine Iff.trans AWh_k ?_
        rw [k_X11_nextBehind_3]
        simp only [AW_k, AWk_1, x_iload_2, x_push_i, x_push_l, x_icmp_le, x_istore_3, x_iload_3, unl_i, unl_l, unl_q, unl_r, unl_s, unl_n, k_X11_nextBehind_3, k_X11_nextBehind_4, k_X11_nextBehind_5, k_X11_nextBehind_6, k_X11_nextBehind_7, k_X11_nextBehind_8, oE_some, Int.reduceToNat, Nat.reduceAdd, true_and, and_true, List.length_cons, List.length_nil, Option.toList_some, Option.toList_none, List.cons_append, List.nil_append, Nat.reduceLeDiff, Nat.le_refl, wdS_nil, wdS_i, wdS_l, wdS_r, wdS_n, wdS_s, w32_nat bv, show w32 1 = 1 from rfl, cv, ↓reduceIte]
      refine st.trans ((tL y4).trans ?_)
      cases eL : pick s (nlL n G n i (plc n i (k + 2))) with
      | some x =>
        exact Iff.rfl
      | none =>
        refine (tR _).trans ?_
        cases eR : pick s (nlR n G n i (plc n i (k + 2))) with
        | some x =>
          exact Iff.rfl
        | none =>
          have hn := ih (some (mI (1 + 2))) (some (mI (nuO n (nlR n G n i (plc n i (k + 1 + 1)))))) (by omega)
          refine Iff.trans AWh_k ?_
          rw [k_X11_nextBehind_8]
          simp only [AW_k, AWk_1, x_iload_3, x_push_i, x_push_l, x_icmp_ge, x_iinc_2, x_goto, unl_i, unl_l, unl_q, unl_r, unl_s, unl_n, k_X11_nextBehind_8, k_X11_nextBehind_9, k_X11_nextBehind_10, k_X11_nextBehind_31, k_X11_nextBehind_32, oE_some, Int.reduceToNat, Nat.reduceAdd, true_and, and_true, List.length_cons, List.length_nil, Option.toList_some, Option.toList_none, List.cons_append, List.nil_append, Nat.reduceLeDiff, Nat.le_refl, wdS_nil, wdS_i, wdS_l, wdS_r, wdS_n, wdS_s, show (w32 (1 + 2) < w32 2) = False from eq_false (by decide), ev, ↓reduceIte]
          exact hn
  have e1 : (n : Int) = ((n - 1 + 1 : Nat) : Int) := by omega
  refine Iff.trans ?_ (key (n - 1) none none (by omega))
  rw [callD_k]; simp only [entL_i, entL_l, entL_q, entL_s, entL_nil, n_X11_nextBehind, u_X11_nextBehind, m_X11_nextBehind, rep_3, List.cons_append, List.nil_append, List.append_nil, List.length_cons, List.length_nil, Nat.reduceAdd, true_and]
  simp only [AW_k, AWk_1, x_aload_0, x_aloads_0, x_getf, x_istore_2, x_iload_2, unl_i, unl_l, unl_q, unl_r, unl_s, unl_n, k_X11_nextBehind_0, k_X11_nextBehind_1, k_X11_nextBehind_2, k_X11_nextBehind_3, oE_some, Int.reduceToNat, Nat.reduceAdd, true_and, and_true, List.length_cons, List.length_nil, Option.toList_some, Option.toList_none, List.cons_append, List.nil_append, Nat.reduceLeDiff, Nat.le_refl, wdS_nil, wdS_i, wdS_l, wdS_r, wdS_n, wdS_s, g0]
  rw [← e1]
