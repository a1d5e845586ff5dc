/-! ===== the class's own methods: which maker it was (2) ===== -/
theorem FO_63 {n a : Nat} (h1 : 1 ≤ n) (h6 : n ≤ 6) (ha : a < NA n) : (FO n a).getLsbD 63 = false := by
  have fN := NA_le n
  rw [FO_get h1 h6 ha]
  cases e : fr n a 63 with
  | false => rfl
  | true => have := fr_lt h1 h6 ha e; omega
theorem clF_up (n : Nat) (s : BitVec 64) (k : Nat) : clF n s (k + 1) = if s.getLsbD k = true then clF n s k ||| BitVec.ofNat 64 (fo n k) else clF n s k := rfl
theorem clF_63 {n : Nat} {s : BitVec 64} (h1 : 1 ≤ n) (h6 : n ≤ 6) (hs : s.getLsbD 63 = false) : ∀ k, k ≤ NA n → (clF n s k).getLsbD 63 = false := by
  intro k
  induction k with
  | zero => intro _; exact hs
  | succ k ih =>
    intro hk
    rw [clF_up]
    split
    · rw [BitVec.getLsbD_or, ih (by omega), show (BitVec.ofNat 64 (fo n k)).getLsbD 63 = false from FO_63 h1 h6 (by omega)]; rfl
    · exact ih (by omega)
theorem stB_63 {f : Nat → Bool} : ∀ k, k ≤ 63 → (stB f k).getLsbD 63 = false := by
  intro k
  induction k with
  | zero =>
    intro _
    show (0#64 : BitVec 64).getLsbD 63 = false
    rfl
  | succ k ih =>
    intro hk
    rw [stB_succ, BitVec.getLsbD_or, ih (by omega), Bool.false_or]
    split
    · rw [BitVec.getLsbD_shiftLeft]
      have : (1#64).getLsbD (63 - k) = false := by
        rw [BitVec.getLsbD_one]
        simp
        omega
      rw [this, Bool.and_false]
    · rfl
/-- what would be gone, and whether it fits -/
def wbG (n k : Nat) : BitVec 64 := cl n (stB (tk n (k / 16) (k % 16)) (NA n))
theorem wbG_63 {n k : Nat} (h1 : 1 ≤ n) (h6 : n ≤ 6) : wbG n k ≠ 18446744073709551615#64 := by
  intro e
  have fN := NA_le n
  have := clF_63 (s := stB (tk n (k / 16) (k % 16)) (NA n)) h1 h6 (stB_63 _ (by omega)) (NA n) (Nat.le_refl _)
  have e2 : (wbG n k).getLsbD 63 = false := this
  rw [e] at e2
  exact absurd e2 (by decide)
def wiF (n L : Nat) (l : List (BitVec 64)) (k : Nat) : Bool := ftW n (wbG n k) L l
theorem x10_fitsThrees (d : Nat) {hp : HP} {n : Nat} {G : BitVec 64} {z : Int} {c : Nat} {ks : List Int} {es : List Int} {ik : Bool} {kn : Nat} {kG : BitVec 64} {kz : Int} {kc : Nat} {kks : List Int} {kes : List Int} {tc : Nat} {tb : List Int} {sc : Nat} {tl : List Int} {so : List Int} {le : List Int} {it : Nat → List (BitVec 64)} {he : List Int} {th : List Int} {sl : List Int} {tr : Nat} {bo : List Int} {s L : Nat} {H : BitVec 64} (hX : XI hp n G z c ks es ik kn kG kz kc kks kes tc tb sc tl so le it he th sl tr bo) (hs : s < 4) (hl : le.getD s 0 = (L : Int)) (hL : L ≤ 40) (R : PO) : callD (d + 10) 136 [mR 0, mI (s : Int), mL H] hp R ↔ R (some (mI (zI (ftW n H L (it s))))) hp := by
  have hX0 := hX
  obtain ⟨ra, ts, q0, q1, q2, q3, q4, q5, q6, q7, q8, q9, q10, q11, qk⟩ := hX
  have hR := q1.1
  have h1 := rw_1 hR
  have h6 := rw_6 hR
  have f1 := FC_le n
  have cR := rC0 hR
  have cA := rC1 hR
  have o0 : gF hp 0 10 0 = some (mR 1) := XO_F q0 0
  have o1 : gF hp 0 10 1 = some (mR ra) := XO_F q0 1
  have o2 : gF hp 0 10 2 = some (mL G) := XO_F q0 2
  have o3 : gF hp 0 10 3 = some (mI z) := XO_F q0 3
  have o4 : gF hp 0 10 4 = some (mR 2) := XO_F q0 4
  have o5 : gF hp 0 10 5 = some (mR 5) := XO_F q0 5
  have o6 : gF hp 0 10 6 = some (mR 10) := XO_F q0 6
  have o7 : gF hp 0 10 7 = some (mR 14) := XO_F q0 7
  have o8 : gF hp 0 10 8 = some (mR 17) := XO_F q0 8
  have o9 : gF hp 0 10 9 = some (mR 19) := XO_F q0 9
  have o10 : gF hp 0 10 10 = some (mR 27) := XO_F q0 10
  have o11 : gF hp 0 10 11 = some (mR 31) := XO_F q0 11
  have o12 : gF hp 0 10 12 = some (mR 33) := XO_F q0 12
  have o13 : gF hp 0 10 13 = some (mI (zI ik)) := XO_F q0 13
  have o14 : gF hp 0 10 14 = some (mI (kn : Int)) := XO_F q0 14
  have o15 : gF hp 0 10 15 = some (mL kG) := XO_F q0 15
  have o16 : gF hp 0 10 16 = some (mI kz) := XO_F q0 16
  have o17 : gF hp 0 10 17 = some (mR 34) := XO_F q0 17
  have cO := gC_of o0
  have bs : s < 2147483648 := by omega
  have bL : L < 2147483648 := by omega
  have g1 : gF hp 19 5 1 = some (mR 21) := q7.1.1.2.1
  have a1 : gA hp 21 = some le := q7.1.2.2.1
  have il : inB (s : Int) le.length := by rw [q7.2.2.1]; exact inB_n hs (by decide)
  have b3 : L % 3 < 2147483648 := by omega
  have k1 : L % 3 = 0 → ((L % 3 : Nat) : Int) = 0 := by omega
  have k2 : ¬ L % 3 = 0 → ¬ ((L % 3 : Nat) : Int) = 0 := by omega
  have k3 : L % 3 = 0 → 0 + 3 * (L / 3) = L := by omega
  have em : Int.tmod (w32 (L : Int)) (w32 3) = ((L % 3 : Nat) : Int) := w_mod (b := 3) bL (by decide)
  have w3 : (w32 3 = 0) = False := eq_false (by decide)
  unfold ftW
  rw [callD_k]; simp only [entL_i, entL_l, entL_q, entL_s, entL_nil, n_X10_fitsThrees, u_X10_fitsThrees, m_X10_fitsThrees, rep_5, List.cons_append, List.nil_append, List.append_nil, List.length_cons, List.length_nil, Nat.reduceAdd, true_and]
  simp only [AW_k, AWk_1, x_aload_0, x_aloads_0, x_getf, x_iload_1, x_iald, x_ialds, x_istore_4, x_iload_4, x_push_i, x_push_l, x_irem, x_if_eq, unl_i, unl_l, unl_q, unl_r, unl_s, unl_n, k_X10_fitsThrees_0, k_X10_fitsThrees_1, k_X10_fitsThrees_2, k_X10_fitsThrees_3, k_X10_fitsThrees_4, k_X10_fitsThrees_5, k_X10_fitsThrees_6, k_X10_fitsThrees_7, k_X10_fitsThrees_8, k_X10_fitsThrees_9, oE_some, Int.reduceToNat, Nat.reduceAdd, true_and, and_true, List.length_cons, List.length_nil, Option.toList_some, Option.toList_none, List.cons_append, List.nil_append, Nat.reduceLeDiff, Nat.le_refl, wdS_nil, wdS_i, wdS_l, wdS_r, wdS_n, wdS_s, o9, g1, a1, il, w32_tn bs, hl, em, w3, w32_nat b3, not_false_eq_true]
  by_cases c : L % 3 = 0
  · rw [if_pos (k1 c), decide_eq_true c, Bool.true_and]
    simp only [AW_k, AWk_1, x_push_i, x_push_l, x_istore_5, x_iload_5, unl_i, unl_l, unl_q, unl_r, unl_s, unl_n, k_X10_fitsThrees_12, k_X10_fitsThrees_13, k_X10_fitsThrees_14, oE_some, Int.reduceToNat, Nat.reduceAdd, true_and, and_true, List.length_cons, List.length_nil, Option.toList_some, Option.toList_none, List.cons_append, List.nil_append, Nat.reduceLeDiff, Nat.le_refl, wdS_nil, wdS_i, wdS_l, wdS_r, wdS_n, wdS_s]
    exact ft_loop d (s := s) (H := H) (R := R) hX0 hs hL (L / 3) 0 none none none (k3 c)
  · rw [if_neg (k2 c), decide_eq_false c, Bool.false_and]
    simp only [AW_k, AWk_1, x_push_i, x_push_l, x_ret, x_ret_i, x_ret_z, x_ret_l, x_ret_c, k_X10_fitsThrees_10, k_X10_fitsThrees_11, oE_some, Int.reduceToNat, Nat.reduceAdd, true_and, and_true, List.length_cons, List.length_nil, Option.toList_some, Option.toList_none, List.cons_append, List.nil_append, Nat.reduceLeDiff, Nat.le_refl, wdS_nil, wdS_i, wdS_l, wdS_r, wdS_n, wdS_s]
    exact ⟨fun q => q.2, fun q => ⟨Or.inl trivial, q⟩⟩
def ffP (n L : Nat) (l : List (BitVec 64)) : Nat → Bool
  | 0 => false
  | k + 1 => wiF n L l k
def ltP (n : Nat) : Nat → BitVec 64
  | 0 => 18446744073709551615#64
  | k + 1 => wbG n k
/-- the answer from k on -/
def whR (n L : Nat) (l : List (BitVec 64)) (w : Int) (m k : Nat) : Int := if w = 1 then (match fst (wiF n L l) m k with
  | some j => (j : Int)
  | none => -3) else cnt (wiF n L l) 96
set_option maxHeartbeats 32000000 in
theorem wh_loop (d : Nat) {hp : HP} {n : Nat} {G : BitVec 64} {z : Int} {c : Nat} {ks : List Int} {es : List Int} {ik : Bool} {kn : Nat} {kG : BitVec 64} {kz : Int} {kc : Nat} {kks : List Int} {kes : List Int} {tc : Nat} {tb : List Int} {sc : Nat} {tl : List Int} {so : List Int} {le : List Int} {it : Nat → List (BitVec 64)} {he : List Int} {th : List Int} {sl : List Int} {tr : Nat} {bo : List Int} {s L : Nat} {w : Int} {R : PO} (hX : XI hp n G z c ks es ik kn kG kz kc kks kes tc tb sc tl so le it he th sl tr bo) (hs : s < 4) (hl : le.getD s 0 = (L : Int)) (hL : L ≤ 40) (hw : w32 w = w) (hin : 0 ≤ w ∧ w ≤ 1) : ∀ (m k : Nat) (y9 : Option AV), k + m = 96 → (AWh (d + 20) [] 135 R 30 [some (mR 0), some (mI (s : Int)), some (mI w), some (mI 0), some (mI (cnt (wiF n L (it s)) k)), some (mL (ltP n k)), none, some (mI (zI (ffP n L (it s) k))), some (mI (k : Int)), y9, none] [] hp (0, 0) ↔ R (some (mI (whR n L (it s) w m k))) hp) := by
  have hX0 := hX
  have hw01 : w = 0 ∨ w = 1 := by omega
  obtain ⟨ra, ts, q0, q1, q2, q3, q4, q5, q6, q7, q8, q9, q10, q11, qk⟩ := hX
  have hR := q1.1
  have h1 := rw_1 hR
  have h6 := rw_6 hR
  have f1 := FC_le n
  have cR := rC0 hR
  have cA := rC1 hR
  have o0 : gF hp 0 10 0 = some (mR 1) := XO_F q0 0
  have o1 : gF hp 0 10 1 = some (mR ra) := XO_F q0 1
  have o2 : gF hp 0 10 2 = some (mL G) := XO_F q0 2
  have o3 : gF hp 0 10 3 = some (mI z) := XO_F q0 3
  have o4 : gF hp 0 10 4 = some (mR 2) := XO_F q0 4
  have o5 : gF hp 0 10 5 = some (mR 5) := XO_F q0 5
  have o6 : gF hp 0 10 6 = some (mR 10) := XO_F q0 6
  have o7 : gF hp 0 10 7 = some (mR 14) := XO_F q0 7
  have o8 : gF hp 0 10 8 = some (mR 17) := XO_F q0 8
  have o9 : gF hp 0 10 9 = some (mR 19) := XO_F q0 9
  have o10 : gF hp 0 10 10 = some (mR 27) := XO_F q0 10
  have o11 : gF hp 0 10 11 = some (mR 31) := XO_F q0 11
  have o12 : gF hp 0 10 12 = some (mR 33) := XO_F q0 12
  have o13 : gF hp 0 10 13 = some (mI (zI ik)) := XO_F q0 13
  have o14 : gF hp 0 10 14 = some (mI (kn : Int)) := XO_F q0 14
  have o15 : gF hp 0 10 15 = some (mL kG) := XO_F q0 15
  have o16 : gF hp 0 10 16 = some (mI kz) := XO_F q0 16
  have o17 : gF hp 0 10 17 = some (mR 34) := XO_F q0 17
  have cO := gC_of o0
  intro m
  induction m with
  | zero =>
    intro k y9 hk
    have e : k = 96 := by omega
    subst e
    have n1 : (((96 : Nat) : Int) < 96) = False := eq_false (by decide)
    unfold whR fst
    rcases hw01 with e | e
    · subst e
      rw [if_neg (by decide)]
      rw [AWh_k, k_X10_whatIs_30]
      simp only [AW_k, AWk_1, x_iload_8, x_push_i, x_push_l, x_icmp_ge, x_aload_0, x_aloads_0, x_getf, x_idiv, x_irem, x_call_3, x_callv_2, x_lstore_9, x_lload_9, x_lload_5, x_lcmp, x_if_eq, x_iload_1, x_callv_3, x_istore_7, x_lstore_5, x_iload_7, x_iload_2, x_icmp_ne, x_ret, x_ret_i, x_ret_z, x_ret_l, x_ret_c, x_iload_4, x_goto, x_iadd, x_istore_4, x_iinc_8, x_if_ne, unl_i, unl_l, unl_q, unl_r, unl_s, unl_n, k_X10_whatIs_30, k_X10_whatIs_31, k_X10_whatIs_32, k_X10_whatIs_33, k_X10_whatIs_34, k_X10_whatIs_35, k_X10_whatIs_36, k_X10_whatIs_37, k_X10_whatIs_38, k_X10_whatIs_39, k_X10_whatIs_40, k_X10_whatIs_41, k_X10_whatIs_42, k_X10_whatIs_43, k_X10_whatIs_44, k_X10_whatIs_45, k_X10_whatIs_46, k_X10_whatIs_47, k_X10_whatIs_48, k_X10_whatIs_49, k_X10_whatIs_50, k_X10_whatIs_51, k_X10_whatIs_52, k_X10_whatIs_53, k_X10_whatIs_54, k_X10_whatIs_55, k_X10_whatIs_56, k_X10_whatIs_57, k_X10_whatIs_58, k_X10_whatIs_59, k_X10_whatIs_60, k_X10_whatIs_61, k_X10_whatIs_62, k_X10_whatIs_63, k_X10_whatIs_64, k_X10_whatIs_65, k_X10_whatIs_66, k_X10_whatIs_67, k_X10_whatIs_68, k_X10_whatIs_69, k_X10_whatIs_70, k_X10_whatIs_71, k_X10_whatIs_72, k_X10_whatIs_73, k_X10_whatIs_74, k_X10_whatIs_75, k_X10_whatIs_76, k_X10_whatIs_77, k_X10_whatIs_78, k_X10_whatIs_79, k_X10_whatIs_80, k_X10_whatIs_81, oE_some, Int.reduceToNat, Nat.reduceAdd, true_and, and_true, List.length_cons, List.length_nil, Option.toList_some, Option.toList_none, List.cons_append, List.nil_append, Nat.reduceLeDiff, Nat.le_refl, wdS_nil, wdS_i, wdS_l, wdS_r, wdS_n, wdS_s, show w32 ((96 : Nat) : Int) = ((96 : Nat) : Int) from rfl, show w32 96 = 96 from rfl, n1, wz0, ↓reduceIte]
    · subst e
      rw [if_pos rfl]
      rw [AWh_k, k_X10_whatIs_30]
      simp only [AW_k, AWk_1, x_iload_8, x_push_i, x_push_l, x_icmp_ge, x_aload_0, x_aloads_0, x_getf, x_idiv, x_irem, x_call_3, x_callv_2, x_lstore_9, x_lload_9, x_lload_5, x_lcmp, x_if_eq, x_iload_1, x_callv_3, x_istore_7, x_lstore_5, x_iload_7, x_iload_2, x_icmp_ne, x_ret, x_ret_i, x_ret_z, x_ret_l, x_ret_c, x_iload_4, x_goto, x_iadd, x_istore_4, x_iinc_8, x_if_ne, unl_i, unl_l, unl_q, unl_r, unl_s, unl_n, k_X10_whatIs_30, k_X10_whatIs_31, k_X10_whatIs_32, k_X10_whatIs_33, k_X10_whatIs_34, k_X10_whatIs_35, k_X10_whatIs_36, k_X10_whatIs_37, k_X10_whatIs_38, k_X10_whatIs_39, k_X10_whatIs_40, k_X10_whatIs_41, k_X10_whatIs_42, k_X10_whatIs_43, k_X10_whatIs_44, k_X10_whatIs_45, k_X10_whatIs_46, k_X10_whatIs_47, k_X10_whatIs_48, k_X10_whatIs_49, k_X10_whatIs_50, k_X10_whatIs_51, k_X10_whatIs_52, k_X10_whatIs_53, k_X10_whatIs_54, k_X10_whatIs_55, k_X10_whatIs_56, k_X10_whatIs_57, k_X10_whatIs_58, k_X10_whatIs_59, k_X10_whatIs_60, k_X10_whatIs_61, k_X10_whatIs_62, k_X10_whatIs_63, k_X10_whatIs_64, k_X10_whatIs_65, k_X10_whatIs_66, k_X10_whatIs_67, k_X10_whatIs_68, k_X10_whatIs_69, k_X10_whatIs_70, k_X10_whatIs_71, k_X10_whatIs_72, k_X10_whatIs_73, k_X10_whatIs_74, k_X10_whatIs_75, k_X10_whatIs_76, k_X10_whatIs_77, k_X10_whatIs_78, k_X10_whatIs_79, k_X10_whatIs_80, k_X10_whatIs_81, oE_some, Int.reduceToNat, Nat.reduceAdd, true_and, and_true, List.length_cons, List.length_nil, Option.toList_some, Option.toList_none, List.cons_append, List.nil_append, Nat.reduceLeDiff, Nat.le_refl, wdS_nil, wdS_i, wdS_l, wdS_r, wdS_n, wdS_s, show w32 ((96 : Nat) : Int) = ((96 : Nat) : Int) from rfl, show w32 96 = 96 from rfl, n1, w10, ↓reduceIte]
  | succ m ih =>
    intro k y9 hk
    have bk : k < 2147483648 := by omega
    have n1 : ((k : Int) < 96) = True := eq_true (by omega)
    have k6 : k / 16 < 6 := by omega
    have k16 : k % 16 < 16 := by omega
    have km : k + 1 + m = 96 := by omega
    have e1 : (k : Int) + 1 = ((k + 1 : Nat) : Int) := by omega
    have ct : ∀ R : PO, callD (d + 20) 26 [mI ((k / 16 : Nat) : Int), mI ((k % 16 : Nat) : Int), mR (ra + 1)] hp R ↔ R (some (mL (stB (tk n (k / 16) (k % 16)) (NA n)))) hp := fun R => c3_takenBy (d + 17) hR k6 k16 R
    have cw : ∀ R : PO, callD (d + 20) 13 [mR (ra + 1), mL (stB (tk n (k / 16) (k % 16)) (NA n))] hp R ↔ R (some (mL (wbG n k))) hp := fun R => c1_withForced (d + 19) hR R
    have cf : ∀ R : PO, callD (d + 20) 136 [mR 0, mI (s : Int), mL (wbG n k)] hp R ↔ R (some (mI (zI (wiF n L (it s) k)))) hp := fun R => x10_fitsThrees (d + 10) hX0 hs hl hL R
    -- from 59 on
    have rest : ∀ y9 : Option AV, (AW (d + 20) [] 135 R 59 [some (mR 0), some (mI (s : Int)), some (mI w), some (mI 0), some (mI (cnt (wiF n L (it s)) k)), some (mL (wbG n k)), none, some (mI (zI (wiF n L (it s) k))), some (mI (k : Int)), y9, none] [] hp (0, 0) ↔ R (some (mI (whR n L (it s) w (m + 1) k))) hp) := by
      intro y9
      have hi := ih (k + 1) y9 km
      unfold whR at hi ⊢
      unfold fst
      rw [cnt_succ] at hi
      have hi2 : AWh (d + 20) [] 135 R 30 [some (mR 0), some (mI (s : Int)), some (mI w), some (mI 0), some (mI (cnt (wiF n L (it s)) k + zI (wiF n L (it s) k))), some (mL (wbG n k)), none, some (mI (zI (wiF n L (it s) k))), some (mI ((k + 1 : Nat) : Int)), y9, none] [] hp (0, 0) ↔ R (some (mI (if w = 1 then (match fst (wiF n L (it s)) m (k + 1) with
        | some j => (j : Int)
        | none => -3) else cnt (wiF n L (it s)) 96))) hp := hi
      cases ef : wiF n L (it s) k with
      | false =>
        rw [ef] at hi2
        simp only [AW_k, AWk_1, x_iload_7, x_if_eq, x_iload_2, x_push_i, x_push_l, x_icmp_ne, x_iload_8, x_ret, x_ret_i, x_ret_z, x_ret_l, x_ret_c, x_iload_4, x_goto, x_iadd, x_istore_4, x_iinc_8, unl_i, unl_l, unl_q, unl_r, unl_s, unl_n, k_X10_whatIs_59, k_X10_whatIs_60, k_X10_whatIs_61, k_X10_whatIs_62, k_X10_whatIs_63, k_X10_whatIs_64, k_X10_whatIs_65, k_X10_whatIs_66, k_X10_whatIs_67, k_X10_whatIs_68, k_X10_whatIs_69, k_X10_whatIs_70, k_X10_whatIs_71, k_X10_whatIs_72, k_X10_whatIs_73, k_X10_whatIs_74, k_X10_whatIs_75, oE_some, Int.reduceToNat, Nat.reduceAdd, true_and, and_true, List.length_cons, List.length_nil, Option.toList_some, Option.toList_none, List.cons_append, List.nil_append, Nat.reduceLeDiff, Nat.le_refl, wdS_nil, wdS_i, wdS_l, wdS_r, wdS_n, wdS_s, zI_f, w00, e1, ↓reduceIte]
        exact hi2
      | true =>
        rw [ef] at hi2
        rcases hw01 with e | e
        · subst e
          rw [if_neg (by decide)] at hi2 ⊢
          simp only [AW_k, AWk_1, x_iload_7, x_if_eq, x_iload_2, x_push_i, x_push_l, x_icmp_ne, x_iload_8, x_ret, x_ret_i, x_ret_z, x_ret_l, x_ret_c, x_iload_4, x_goto, x_iadd, x_istore_4, x_iinc_8, unl_i, unl_l, unl_q, unl_r, unl_s, unl_n, k_X10_whatIs_59, k_X10_whatIs_60, k_X10_whatIs_61, k_X10_whatIs_62, k_X10_whatIs_63, k_X10_whatIs_64, k_X10_whatIs_65, k_X10_whatIs_66, k_X10_whatIs_67, k_X10_whatIs_68, k_X10_whatIs_69, k_X10_whatIs_70, k_X10_whatIs_71, k_X10_whatIs_72, k_X10_whatIs_73, k_X10_whatIs_74, k_X10_whatIs_75, oE_some, Int.reduceToNat, Nat.reduceAdd, true_and, and_true, List.length_cons, List.length_nil, Option.toList_some, Option.toList_none, List.cons_append, List.nil_append, Nat.reduceLeDiff, Nat.le_refl, wdS_nil, wdS_i, wdS_l, wdS_r, wdS_n, wdS_s, zI_t, w10, wz0, wz1, e1, Int.reduceEq, ↓reduceIte]
          exact hi2
        · subst e
          rw [if_pos rfl]
          simp only [AW_k, AWk_1, x_iload_7, x_if_eq, x_iload_2, x_push_i, x_push_l, x_icmp_ne, x_iload_8, x_ret, x_ret_i, x_ret_z, x_ret_l, x_ret_c, x_iload_4, x_goto, x_iadd, x_istore_4, x_iinc_8, unl_i, unl_l, unl_q, unl_r, unl_s, unl_n, k_X10_whatIs_59, k_X10_whatIs_60, k_X10_whatIs_61, k_X10_whatIs_62, k_X10_whatIs_63, k_X10_whatIs_64, k_X10_whatIs_65, k_X10_whatIs_66, k_X10_whatIs_67, k_X10_whatIs_68, k_X10_whatIs_69, k_X10_whatIs_70, k_X10_whatIs_71, k_X10_whatIs_72, k_X10_whatIs_73, k_X10_whatIs_74, k_X10_whatIs_75, oE_some, Int.reduceToNat, Nat.reduceAdd, true_and, and_true, List.length_cons, List.length_nil, Option.toList_some, Option.toList_none, List.cons_append, List.nil_append, Nat.reduceLeDiff, Nat.le_refl, wdS_nil, wdS_i, wdS_l, wdS_r, wdS_n, wdS_s, zI_t, w10, wz1, Int.reduceEq, ↓reduceIte]
    have w16 : (w32 16 = 0) = False := eq_false (by decide)
    have ed : Int.tdiv (w32 (k : Int)) (w32 16) = ((k / 16 : Nat) : Int) := w_div (b := 16) bk (by decide)
    have em : Int.tmod (w32 (k : Int)) (w32 16) = ((k % 16 : Nat) : Int) := w_mod (b := 16) bk (by decide)
    rw [w32_nat bk] at ed em
    rw [AWh_k, k_X10_whatIs_30]
    simp only [AW_k, AWk_1, x_iload_8, x_push_i, x_push_l, x_icmp_ge, x_aload_0, x_aloads_0, x_getf, x_idiv, x_irem, x_call_3, x_callv_2, x_lstore_9, x_lload_9, x_lload_5, x_lcmp, x_if_eq, unl_i, unl_l, unl_q, unl_r, unl_s, unl_n, k_X10_whatIs_30, k_X10_whatIs_31, k_X10_whatIs_32, k_X10_whatIs_33, k_X10_whatIs_34, k_X10_whatIs_35, k_X10_whatIs_36, k_X10_whatIs_37, k_X10_whatIs_38, k_X10_whatIs_39, k_X10_whatIs_40, k_X10_whatIs_41, k_X10_whatIs_42, k_X10_whatIs_43, k_X10_whatIs_44, k_X10_whatIs_45, k_X10_whatIs_46, k_X10_whatIs_47, k_X10_whatIs_48, k_X10_whatIs_49, k_X10_whatIs_50, k_X10_whatIs_51, oE_some, Int.reduceToNat, Nat.reduceAdd, true_and, and_true, List.length_cons, List.length_nil, Option.toList_some, Option.toList_none, List.cons_append, List.nil_append, Nat.reduceLeDiff, Nat.le_refl, wdS_nil, wdS_i, wdS_l, wdS_r, wdS_n, wdS_s, w32_nat bk, show w32 96 = 96 from rfl, n1, o1, rw_arcs hR, ed, em, w16, not_false_eq_true, ct, cA, cw, lCmp_eq, ↓reduceIte]
    by_cases c : wbG n k = ltP n k
    · rw [if_pos c]
      have eff : ffP n L (it s) k = wiF n L (it s) k := by
        cases k with
        | zero => exact absurd c (wbG_63 h1 h6)
        | succ j =>
          show wiF n L (it s) j = _
          unfold wiF
          rw [show wbG n (j + 1) = wbG n j from c]
      rw [eff, ← c]
      exact AW_k.symm.trans (rest _)
    · rw [if_neg c]
      simp only [AW_k, AWk_1, x_aload_0, x_aloads_0, x_iload_1, x_lload_9, x_callv_3, x_istore_7, x_lstore_5, unl_i, unl_l, unl_q, unl_r, unl_s, unl_n, k_X10_whatIs_52, k_X10_whatIs_53, k_X10_whatIs_54, k_X10_whatIs_55, k_X10_whatIs_56, k_X10_whatIs_57, k_X10_whatIs_58, oE_some, Int.reduceToNat, Nat.reduceAdd, true_and, and_true, List.length_cons, List.length_nil, Option.toList_some, Option.toList_none, List.cons_append, List.nil_append, Nat.reduceLeDiff, Nat.le_refl, wdS_nil, wdS_i, wdS_l, wdS_r, wdS_n, wdS_s, cO, cf]
      exact AW_k.symm.trans (rest _)
def shO (x : Int) : Option Nat := if 0 ≤ x ∧ x < 4 then some x.toNat else none
theorem shO_lt {i : Nat} {x : Int} (h : shO x = some i) : i < 4 ∧ x = (i : Int) := by
  unfold shO at h
  split at h
  · cases h; omega
  · cases h
theorem has5_n (d : Nat) {hp : HP} {a : Nat} {x : Int} (hx : w32 x = x) (h : shO x = none) (R : PO) : callD (d + 1) 57 [mR a, mI x] hp R ↔ R (some (mI 0)) hp := by
  have e : (decide (0 ≤ x) && decide (x < 4)) = false := by
    unfold shO at h
    split at h
    · cases h
    · next q =>
      by_cases c1 : 0 ≤ x
      · rw [decide_eq_true c1, decide_eq_false (by omega)]; rfl
      · rw [decide_eq_false c1]; rfl
  rw [c5_has d hx R, e]; exact Iff.rfl
theorem has5_s (d : Nat) {hp : HP} {a i : Nat} {x : Int} (hx : w32 x = x) (h : shO x = some i) (R : PO) : callD (d + 1) 57 [mR a, mI x] hp R ↔ R (some (mI 1)) hp := by
  obtain ⟨q1, q2⟩ := shO_lt h
  have e : (decide (0 ≤ x) && decide (x < 4)) = true := by rw [decide_eq_true (by omega), decide_eq_true (by omega)]; rfl
  rw [c5_has d hx R, e]; exact Iff.rfl
def whA (n : Nat) (so le : List Int) (it : Nat → List (BitVec 64)) (x w : Int) : Int := match shO x with
  | some s => if 0 ≤ w ∧ w ≤ 1 then (if so.getD s 0 = -1 then -11 else if so.getD s 0 = 2 then whR n (le.getD s 0).toNat (it s) w 96 0 else -13) else -1
  | none => -1
set_option maxHeartbeats 16000000 in
theorem x10_whatIs (d : Nat) {hp : HP} {n : Nat} {G : BitVec 64} {z : Int} {c : Nat} {ks : List Int} {es : List Int} {ik : Bool} {kn : Nat} {kG : BitVec 64} {kz : Int} {kc : Nat} {kks : List Int} {kes : List Int} {tc : Nat} {tb : List Int} {sc : Nat} {tl : List Int} {so : List Int} {le : List Int} {it : Nat → List (BitVec 64)} {he : List Int} {th : List Int} {sl : List Int} {tr : Nat} {bo : List Int} {x w : Int} (hX : XI hp n G z c ks es ik kn kG kz kc kks kes tc tb sc tl so le it he th sl tr bo) (hx : w32 x = x) (hw : w32 w = w) (R : PO) : callD (d + 100) 135 [mR 0, mI x, mI w] hp R ↔ R (some (mI (whA n so le it x w))) hp := by
  have hX0 := hX
  obtain ⟨ra, ts, q0, q1, q2, q3, q4, q5, q6, q7, q8, q9, q10, q11, qk⟩ := hX
  have hR := q1.1
  have h1 := rw_1 hR
  have h6 := rw_6 hR
  have f1 := FC_le n
  have cR := rC0 hR
  have cA := rC1 hR
  have o0 : gF hp 0 10 0 = some (mR 1) := XO_F q0 0
  have o1 : gF hp 0 10 1 = some (mR ra) := XO_F q0 1
  have o2 : gF hp 0 10 2 = some (mL G) := XO_F q0 2
  have o3 : gF hp 0 10 3 = some (mI z) := XO_F q0 3
  have o4 : gF hp 0 10 4 = some (mR 2) := XO_F q0 4
  have o5 : gF hp 0 10 5 = some (mR 5) := XO_F q0 5
  have o6 : gF hp 0 10 6 = some (mR 10) := XO_F q0 6
  have o7 : gF hp 0 10 7 = some (mR 14) := XO_F q0 7
  have o8 : gF hp 0 10 8 = some (mR 17) := XO_F q0 8
  have o9 : gF hp 0 10 9 = some (mR 19) := XO_F q0 9
  have o10 : gF hp 0 10 10 = some (mR 27) := XO_F q0 10
  have o11 : gF hp 0 10 11 = some (mR 31) := XO_F q0 11
  have o12 : gF hp 0 10 12 = some (mR 33) := XO_F q0 12
  have o13 : gF hp 0 10 13 = some (mI (zI ik)) := XO_F q0 13
  have o14 : gF hp 0 10 14 = some (mI (kn : Int)) := XO_F q0 14
  have o15 : gF hp 0 10 15 = some (mL kG) := XO_F q0 15
  have o16 : gF hp 0 10 16 = some (mI kz) := XO_F q0 16
  have o17 : gF hp 0 10 17 = some (mR 34) := XO_F q0 17
  have cO := gC_of o0
  have i1 : w32 1 = 1 := rfl
  have c19 := gC_of q7.1.1.1
  unfold whA
  cases ex : shO x with
  | none =>
    rw [callD_k]; simp only [entL_i, entL_l, entL_q, entL_s, entL_nil, n_X10_whatIs, u_X10_whatIs, m_X10_whatIs, rep_8, List.cons_append, List.nil_append, List.append_nil, List.length_cons, List.length_nil, Nat.reduceAdd, true_and]
    simp only [AW_k, AWk_1, x_aload_0, x_aloads_0, x_getf, x_iload_1, x_callv_2, x_if_eq, x_iload_2, x_if_lt, x_push_i, x_push_l, x_icmp_le, x_ret, x_ret_i, x_ret_z, x_ret_l, x_ret_c, k_X10_whatIs_0, k_X10_whatIs_1, k_X10_whatIs_2, k_X10_whatIs_3, k_X10_whatIs_4, k_X10_whatIs_5, k_X10_whatIs_6, k_X10_whatIs_7, k_X10_whatIs_8, k_X10_whatIs_9, k_X10_whatIs_10, k_X10_whatIs_11, oE_some, Int.reduceToNat, Nat.reduceAdd, true_and, and_true, List.length_cons, List.length_nil, Option.toList_some, Option.toList_none, List.cons_append, List.nil_append, Nat.reduceLeDiff, Nat.le_refl, wdS_nil, wdS_i, wdS_l, wdS_r, wdS_n, wdS_s, o9, c19, has5_n (d + 98) hx ex, w00, ↓reduceIte]
  | some s =>
    obtain ⟨hs, es'⟩ := shO_lt ex
    have hh := fun R => has5_s (d + 98) (hp := hp) (a := 19) hx ex R
    have cr := fun R => c5_refusal (d + 98) (s := 2) q7.1 q7.2 hs rfl R
    obtain ⟨L, l1, l2, -, -⟩ := q7.2.2.2.2 s hs
    by_cases hin : 0 ≤ w ∧ w ≤ 1
    · have n1 : (w < 0) = False := eq_false (by omega)
      have n2 : (1 < w) = False := eq_false (by omega)
      show _ ↔ R (some (mI (if 0 ≤ w ∧ w ≤ 1 then _ else _))) hp
      rw [if_pos hin, l1, Int.toNat_natCast]
      subst es'
      have m11 : (w32 (-11) < 0) = True := eq_true (by decide)
      have m13 : (w32 (-13) < 0) = True := eq_true (by decide)
      have m0 : (w32 0 < 0) = False := eq_false (by decide)
      by_cases c1 : so.getD s 0 = -1
      · rw [if_pos c1] at cr ⊢
        rw [callD_k]; simp only [entL_i, entL_l, entL_q, entL_s, entL_nil, n_X10_whatIs, u_X10_whatIs, m_X10_whatIs, rep_8, List.cons_append, List.nil_append, List.append_nil, List.length_cons, List.length_nil, Nat.reduceAdd, true_and]
        simp only [AW_k, AWk_1, x_aload_0, x_aloads_0, x_getf, x_iload_1, x_callv_2, x_if_eq, x_iload_2, x_if_lt, x_push_i, x_push_l, x_icmp_le, x_ret, x_ret_i, x_ret_z, x_ret_l, x_ret_c, x_callv_3, x_istore_3, x_iload_3, x_if_ge, unl_i, unl_l, unl_q, unl_r, unl_s, unl_n, k_X10_whatIs_0, k_X10_whatIs_1, k_X10_whatIs_2, k_X10_whatIs_3, k_X10_whatIs_4, k_X10_whatIs_5, k_X10_whatIs_6, k_X10_whatIs_7, k_X10_whatIs_8, k_X10_whatIs_9, k_X10_whatIs_10, k_X10_whatIs_11, k_X10_whatIs_12, k_X10_whatIs_13, k_X10_whatIs_14, k_X10_whatIs_15, k_X10_whatIs_16, k_X10_whatIs_17, k_X10_whatIs_18, k_X10_whatIs_19, k_X10_whatIs_20, k_X10_whatIs_21, oE_some, Int.reduceToNat, Nat.reduceAdd, true_and, and_true, List.length_cons, List.length_nil, Option.toList_some, Option.toList_none, List.cons_append, List.nil_append, Nat.reduceLeDiff, Nat.le_refl, wdS_nil, wdS_i, wdS_l, wdS_r, wdS_n, wdS_s, o9, c19, hh, w10, hw, i1, Int.reduceEq, n1, n2, cr, m11, ↓reduceIte]
      · rw [if_neg c1] at cr ⊢
        by_cases c2 : so.getD s 0 = 2
        · rw [if_pos c2] at cr ⊢
          rw [callD_k]; simp only [entL_i, entL_l, entL_q, entL_s, entL_nil, n_X10_whatIs, u_X10_whatIs, m_X10_whatIs, rep_8, List.cons_append, List.nil_append, List.append_nil, List.length_cons, List.length_nil, Nat.reduceAdd, true_and]
          simp only [AW_k, AWk_1, x_aload_0, x_aloads_0, x_getf, x_iload_1, x_callv_2, x_if_eq, x_iload_2, x_if_lt, x_push_i, x_push_l, x_icmp_le, x_ret, x_ret_i, x_ret_z, x_ret_l, x_ret_c, x_callv_3, x_istore_3, x_iload_3, x_if_ge, x_istore_4, x_lstore_5, x_istore_7, x_istore_8, x_iload_8, unl_i, unl_l, unl_q, unl_r, unl_s, unl_n, k_X10_whatIs_0, k_X10_whatIs_1, k_X10_whatIs_2, k_X10_whatIs_3, k_X10_whatIs_4, k_X10_whatIs_5, k_X10_whatIs_6, k_X10_whatIs_7, k_X10_whatIs_8, k_X10_whatIs_9, k_X10_whatIs_10, k_X10_whatIs_11, k_X10_whatIs_12, k_X10_whatIs_13, k_X10_whatIs_14, k_X10_whatIs_15, k_X10_whatIs_16, k_X10_whatIs_17, k_X10_whatIs_18, k_X10_whatIs_19, k_X10_whatIs_20, k_X10_whatIs_21, k_X10_whatIs_22, k_X10_whatIs_23, k_X10_whatIs_24, k_X10_whatIs_25, k_X10_whatIs_26, k_X10_whatIs_27, k_X10_whatIs_28, k_X10_whatIs_29, k_X10_whatIs_30, oE_some, Int.reduceToNat, Nat.reduceAdd, true_and, and_true, List.length_cons, List.length_nil, Option.toList_some, Option.toList_none, List.cons_append, List.nil_append, Nat.reduceLeDiff, Nat.le_refl, wdS_nil, wdS_i, wdS_l, wdS_r, wdS_n, wdS_s, o9, c19, hh, w10, hw, i1, Int.reduceEq, n1, n2, cr, m0, ↓reduceIte]
          exact wh_loop (d + 79) hX0 hs l1 l2 hw hin 96 0 none rfl
        · rw [if_neg c2] at cr ⊢
          rw [callD_k]; simp only [entL_i, entL_l, entL_q, entL_s, entL_nil, n_X10_whatIs, u_X10_whatIs, m_X10_whatIs, rep_8, List.cons_append, List.nil_append, List.append_nil, List.length_cons, List.length_nil, Nat.reduceAdd, true_and]
          simp only [AW_k, AWk_1, x_aload_0, x_aloads_0, x_getf, x_iload_1, x_callv_2, x_if_eq, x_iload_2, x_if_lt, x_push_i, x_push_l, x_icmp_le, x_ret, x_ret_i, x_ret_z, x_ret_l, x_ret_c, x_callv_3, x_istore_3, x_iload_3, x_if_ge, unl_i, unl_l, unl_q, unl_r, unl_s, unl_n, k_X10_whatIs_0, k_X10_whatIs_1, k_X10_whatIs_2, k_X10_whatIs_3, k_X10_whatIs_4, k_X10_whatIs_5, k_X10_whatIs_6, k_X10_whatIs_7, k_X10_whatIs_8, k_X10_whatIs_9, k_X10_whatIs_10, k_X10_whatIs_11, k_X10_whatIs_12, k_X10_whatIs_13, k_X10_whatIs_14, k_X10_whatIs_15, k_X10_whatIs_16, k_X10_whatIs_17, k_X10_whatIs_18, k_X10_whatIs_19, k_X10_whatIs_20, k_X10_whatIs_21, oE_some, Int.reduceToNat, Nat.reduceAdd, true_and, and_true, List.length_cons, List.length_nil, Option.toList_some, Option.toList_none, List.cons_append, List.nil_append, Nat.reduceLeDiff, Nat.le_refl, wdS_nil, wdS_i, wdS_l, wdS_r, wdS_n, wdS_s, o9, c19, hh, w10, hw, i1, Int.reduceEq, n1, n2, cr, m13, ↓reduceIte]
    · show _ ↔ R (some (mI (if 0 ≤ w ∧ w ≤ 1 then _ else _))) hp
      rw [if_neg hin]
      rw [callD_k]; simp only [entL_i, entL_l, entL_q, entL_s, entL_nil, n_X10_whatIs, u_X10_whatIs, m_X10_whatIs, rep_8, List.cons_append, List.nil_append, List.append_nil, List.length_cons, List.length_nil, Nat.reduceAdd, true_and]
      simp only [AW_k, AWk_1, x_aload_0, x_aloads_0, x_getf, x_iload_1, x_callv_2, x_if_eq, x_iload_2, x_if_lt, x_push_i, x_push_l, x_icmp_le, k_X10_whatIs_0, k_X10_whatIs_1, k_X10_whatIs_2, k_X10_whatIs_3, k_X10_whatIs_4, k_X10_whatIs_5, k_X10_whatIs_6, k_X10_whatIs_7, k_X10_whatIs_8, k_X10_whatIs_9, oE_some, Int.reduceToNat, Nat.reduceAdd, true_and, and_true, List.length_cons, List.length_nil, Option.toList_some, Option.toList_none, List.cons_append, List.nil_append, Nat.reduceLeDiff, Nat.le_refl, wdS_nil, wdS_i, wdS_l, wdS_r, wdS_n, wdS_s, o9, c19, hh, w10, hw, i1, Int.reduceEq, ↓reduceIte]
      by_cases a1 : w < 0
      · rw [if_pos a1]
        simp only [AW_k, AWk_1, x_push_i, x_push_l, x_ret, x_ret_i, x_ret_z, x_ret_l, x_ret_c, k_X10_whatIs_10, k_X10_whatIs_11, oE_some, Int.reduceToNat, Nat.reduceAdd, true_and, and_true, List.length_cons, List.length_nil, Option.toList_some, Option.toList_none, List.cons_append, List.nil_append, Nat.reduceLeDiff, Nat.le_refl, wdS_nil, wdS_i, wdS_l, wdS_r, wdS_n, wdS_s]
      · rw [if_neg a1, if_pos (by omega)]
        simp only [AW_k, AWk_1, x_push_i, x_push_l, x_ret, x_ret_i, x_ret_z, x_ret_l, x_ret_c, k_X10_whatIs_10, k_X10_whatIs_11, oE_some, Int.reduceToNat, Nat.reduceAdd, true_and, and_true, List.length_cons, List.length_nil, Option.toList_some, Option.toList_none, List.cons_append, List.nil_append, Nat.reduceLeDiff, Nat.le_refl, wdS_nil, wdS_i, wdS_l, wdS_r, wdS_n, wdS_s]
