/-! ===== the class's own methods: drawn, stairs ===== -/
def dwB (n : Nat) (G : BitVec 64) (z : Int) : Bool := match ixo n ((nuF (drT n z) n : Nat) : Int) with
  | some i => isL n G i
  | none => false
def dwF (n : Nat) (G : BitVec 64) (z : Int) : Nat → Int × Int
  | 0 => (0, z)
  | k + 1 => ((dwF n G z k).1 + zI (dwB n G (dwF n G z k).2), drZ n (dwF n G z k).2)
theorem dwF_succ (n : Nat) (G : BitVec 64) (z : Int) (k : Nat) : dwF n G z (k + 1) = ((dwF n G z k).1 + zI (dwB n G (dwF n G z k).2), drZ n (dwF n G z k).2) := rfl
theorem p10_le {n : Nat} (h6 : n ≤ 6) : 10 ^ n ≤ 1000000 := Nat.pow_le_pow_right (n := 10) (j := 6) (by decide) h6
set_option maxHeartbeats 16000000 in
theorem dw_loop (d : Nat) {n : Nat} {G : BitVec 64} {z : Int} {c : Nat} {ks : List Int} {es : List Int} {ik : Bool} {kn : Nat} {kG : BitVec 64} {kz : Int} {kc : Nat} {kks : List Int} {kes : List Int} {tc : Nat} {tb : List Int} {sc : Nat} {tl : List Int} {so : List Int} {le : List Int} {it : Nat → List (BitVec 64)} {he : List Int} {th : List Int} {sl : List Int} {tr : Nat} {bo : List Int} {X : Nat} (hX60 : X ≤ 60) : ∀ (m k : Nat) (h : HP) (y4 : Option AV), k + m = X → XI h n G ((dwF n G z k).2) c ks es ik kn kG kz kc kks kes tc tb sc tl so le it he th sl tr bo → ∃ h', XI h' n G ((dwF n G z X).2) c ks es ik kn kG kz kc kks kes tc tb sc tl so le it he th sl tr bo ∧ Fr 0 34 h h' ∧ ∀ R : PO, AWh (d + 99) [] 138 R 12 [some (mR 0), some (mI (X : Int)), some (mI (dwF n G z k).1), some (mI (k : Int)), y4] [] h (0, 0) ↔ R (some (mI (dwF n G z X).1)) h' := by
  intro m
  induction m with
  | zero =>
    intro k h y4 hk hX
    have e : k = X := by omega
    subst e
    refine ⟨h, hX, Fr_refl h, fun R => ?_⟩
    rw [AWh_k, k_X10_drawn_12]
    simp only [AW_k, AWk_1, x_iload_3, x_iload_1, x_icmp_ge, x_aload_0, x_aloads_0, x_getf, x_callv_1, x_callv_2, x_istore_4, x_iload_2, x_iload_4, x_if_lt, x_callv_3, x_if_eq, x_push_i, x_push_l, x_goto, x_iadd, x_istore_2, x_iinc_3, x_ret, x_ret_i, x_ret_z, x_ret_l, x_ret_c, unl_i, unl_l, unl_q, unl_r, unl_s, unl_n, k_X10_drawn_12, k_X10_drawn_13, k_X10_drawn_14, k_X10_drawn_15, k_X10_drawn_16, k_X10_drawn_17, k_X10_drawn_18, k_X10_drawn_19, k_X10_drawn_20, k_X10_drawn_21, k_X10_drawn_22, k_X10_drawn_23, k_X10_drawn_24, k_X10_drawn_25, k_X10_drawn_26, k_X10_drawn_27, k_X10_drawn_28, k_X10_drawn_29, k_X10_drawn_30, k_X10_drawn_31, k_X10_drawn_32, k_X10_drawn_33, k_X10_drawn_34, k_X10_drawn_35, k_X10_drawn_36, k_X10_drawn_37, k_X10_drawn_38, k_X10_drawn_39, oE_some, Int.reduceToNat, Nat.reduceAdd, true_and, and_true, List.length_cons, List.length_nil, Option.toList_some, Option.toList_none, List.cons_append, List.nil_append, Nat.reduceLeDiff, Nat.le_refl, wdS_nil, wdS_i, wdS_l, wdS_r, wdS_n, wdS_s]
    rw [if_neg (Int.lt_irrefl _)]
  | succ m ih =>
    intro k hp y4 hk hX
    obtain ⟨h1', u1, u2, u3⟩ := x10_drawRow (d + 94) hX
    obtain ⟨h', v1, v2, v3⟩ := ih (k + 1) h1' (some (mI (fnd n ((nuF (drT n (dwF n G z k).2) n : Nat) : Int)))) (by omega) u1
    refine ⟨h', v1, Fr_trans u2 v2, fun R => Iff.trans ?_ (v3 R)⟩
    have bk : k < 2147483648 := by omega
    have bX : X < 2147483648 := by omega
    have n1 : ((k : Int) < (X : Int)) = True := eq_true (by omega)
    have e1 : (k : Int) + 1 = ((k + 1 : Nat) : Int) := by omega
    obtain ⟨ra, ts, q0, q1, -⟩ := hX
    have hR := q1.1
    have h1 := rw_1 hR
    have h6 := rw_6 hR
    have f1 := FC_le n
    have o1 : gF hp 0 10 1 = some (mR ra) := XO_F q0 1
    have o2 : gF hp 0 10 2 = some (mL G) := XO_F q0 2
    have cO := gC_of o1
    have hR' : RWS h1' ra n := RWS_Fr hR u2 (by have := tb_w (a := 0) q1.2.1 (show 34 ≤ 37 by omega); omega)
    have cR' := rC0 hR'
    obtain ⟨ra2, ts2, w0, w1, -⟩ := u1
    have p1 : gF h1' 0 10 1 = some (mR ra2) := XO_F w0 1
    have p2 : gF h1' 0 10 2 = some (mL G) := XO_F w0 2
    have hR2 := w1.1
    have cR2 := rC0 hR2
    have b9 := nuF_bd (drS_9 (n - 1) (dwF n G z k).2 (l1n n) (l1n_9 h6)) n
    have bb : nuF (drT n (dwF n G z k).2) n < 2147483648 := Nat.lt_of_lt_of_le b9 (Nat.le_trans (p10_le h6) (by decide))
    have wx := w32_nat bb
    rw [dwF_succ]
    unfold dwB
    cases ex : ixo n ((nuF (drT n (dwF n G z k).2) n : Nat) : Int) with
    | none =>
      have ef : fnd n ((nuF (drT n (dwF n G z k).2) n : Nat) : Int) = -1 := by show oI (ixo n _) = -1; rw [ex]; rfl
      rw [ef]
      rw [AWh_k, k_X10_drawn_12]
      simp only [AW_k, AWk_1, x_iload_3, x_iload_1, x_icmp_ge, x_aload_0, x_aloads_0, x_getf, x_callv_1, x_callv_2, x_istore_4, x_iload_2, x_iload_4, x_if_lt, x_callv_3, x_if_eq, x_push_i, x_push_l, x_goto, x_iadd, x_istore_2, x_iinc_3, unl_i, unl_l, unl_q, unl_r, unl_s, unl_n, k_X10_drawn_12, k_X10_drawn_13, k_X10_drawn_14, k_X10_drawn_15, k_X10_drawn_16, k_X10_drawn_17, k_X10_drawn_18, k_X10_drawn_19, k_X10_drawn_20, k_X10_drawn_21, k_X10_drawn_22, k_X10_drawn_23, k_X10_drawn_24, k_X10_drawn_25, k_X10_drawn_26, k_X10_drawn_27, k_X10_drawn_28, k_X10_drawn_29, k_X10_drawn_30, k_X10_drawn_31, k_X10_drawn_32, k_X10_drawn_33, k_X10_drawn_34, k_X10_drawn_35, k_X10_drawn_36, k_X10_drawn_37, oE_some, Int.reduceToNat, Nat.reduceAdd, true_and, and_true, List.length_cons, List.length_nil, Option.toList_some, Option.toList_none, List.cons_append, List.nil_append, Nat.reduceLeDiff, Nat.le_refl, wdS_nil, wdS_i, wdS_l, wdS_r, wdS_n, wdS_s, w32_nat bk, w32_nat bX, n1, cO, o1, u3, cR', find_n (d + 98) hR' wx ex, wN, e1, ↓reduceIte]
      exact Iff.rfl
    | some i =>
      have hi := ixo_lt ex
      have bi : i < 2147483648 := by omega
      have ef : fnd n ((nuF (drT n (dwF n G z k).2) n : Nat) : Int) = (i : Int) := by show oI (ixo n _) = _; rw [ex]; rfl
      rw [ef]
      rw [AWh_k, k_X10_drawn_12]
      simp only [AW_k, AWk_1, x_iload_3, x_iload_1, x_icmp_ge, x_aload_0, x_aloads_0, x_getf, x_callv_1, x_callv_2, x_istore_4, x_iload_2, x_iload_4, x_if_lt, x_callv_3, x_if_eq, x_push_i, x_push_l, x_goto, x_iadd, x_istore_2, x_iinc_3, unl_i, unl_l, unl_q, unl_r, unl_s, unl_n, k_X10_drawn_12, k_X10_drawn_13, k_X10_drawn_14, k_X10_drawn_15, k_X10_drawn_16, k_X10_drawn_17, k_X10_drawn_18, k_X10_drawn_19, k_X10_drawn_20, k_X10_drawn_21, k_X10_drawn_22, k_X10_drawn_23, k_X10_drawn_24, k_X10_drawn_25, k_X10_drawn_26, k_X10_drawn_27, k_X10_drawn_28, k_X10_drawn_29, k_X10_drawn_30, k_X10_drawn_31, k_X10_drawn_32, k_X10_drawn_33, k_X10_drawn_34, k_X10_drawn_35, k_X10_drawn_36, k_X10_drawn_37, oE_some, Int.reduceToNat, Nat.reduceAdd, true_and, and_true, List.length_cons, List.length_nil, Option.toList_some, Option.toList_none, List.cons_append, List.nil_append, Nat.reduceLeDiff, Nat.le_refl, wdS_nil, wdS_i, wdS_l, wdS_r, wdS_n, wdS_s, w32_nat bk, w32_nat bX, n1, cO, o1, u3, cR', find_s (d + 98) hR' wx ex, wI bi, p1, p2, cR2, c4_isLeast (d + 98) hR2 hi, wB, e1, ↓reduceIte]
      cases isL n G i <;> exact Iff.rfl
def dnT (x : Int) : Bool := decide (1 ≤ x ∧ x ≤ 60)
set_option maxHeartbeats 16000000 in
theorem x10_drawn (d : Nat) {hp : HP} {n : Nat} {G : BitVec 64} {z : Int} {c : Nat} {ks : List Int} {es : List Int} {ik : Bool} {kn : Nat} {kG : BitVec 64} {kz : Int} {kc : Nat} {kks : List Int} {kes : List Int} {tc : Nat} {tb : List Int} {sc : Nat} {tl : List Int} {so : List Int} {le : List Int} {it : Nat → List (BitVec 64)} {he : List Int} {th : List Int} {sl : List Int} {tr : Nat} {bo : List Int} {x : Int} (hX : XI hp n G z c ks es ik kn kG kz kc kks kes tc tb sc tl so le it he th sl tr bo) (hx : w32 x = x) : ∃ h', XI h' n G (if 1 ≤ x ∧ x ≤ 60 then (dwF n G z x.toNat).2 else z) c ks es ik kn kG kz kc kks kes tc tb sc tl so le it he th sl tr bo ∧ Kx hp h' ∧ ∀ R : PO, callD (d + 100) 138 [mR 0, mI x] hp R ↔ R (some (mI (if 1 ≤ x ∧ x ≤ 60 then (dwF n G z x.toNat).1 else -1))) h' := by
  have i1 : w32 1 = 1 := rfl
  have i60 : w32 60 = 60 := rfl
  by_cases hin : 1 ≤ x ∧ x ≤ 60
  · rw [if_pos hin, if_pos hin]
    obtain ⟨X, eX⟩ : ∃ X : Nat, x = (X : Int) := ⟨x.toNat, by omega⟩
    subst eX
    have h60 : X ≤ 60 := by omega
    have n1 : ((X : Int) < 1) = False := eq_false (by omega)
    have n2 : ((60 : Int) < (X : Int)) = False := eq_false (by omega)
    rw [Int.toNat_natCast]
    obtain ⟨h', u1, u2, u3⟩ := dw_loop d (z := z) (G := G) (n := n) h60 X 0 hp none (Nat.zero_add X) hX
    refine ⟨h', u1, Kx_Fr u2 (by omega), fun R => ?_⟩
    rw [callD_k]; simp only [entL_i, entL_l, entL_q, entL_s, entL_nil, n_X10_drawn, u_X10_drawn, m_X10_drawn, rep_3, List.cons_append, List.nil_append, List.append_nil, List.length_cons, List.length_nil, Nat.reduceAdd, true_and]
    simp only [AW_k, AWk_1, x_iload_1, x_push_i, x_push_l, x_icmp_lt, x_icmp_le, x_ret, x_ret_i, x_ret_z, x_ret_l, x_ret_c, x_istore_2, x_istore_3, x_iload_3, unl_i, unl_l, unl_q, unl_r, unl_s, unl_n, k_X10_drawn_0, k_X10_drawn_1, k_X10_drawn_2, k_X10_drawn_3, k_X10_drawn_4, k_X10_drawn_5, k_X10_drawn_6, k_X10_drawn_7, k_X10_drawn_8, k_X10_drawn_9, k_X10_drawn_10, k_X10_drawn_11, k_X10_drawn_12, oE_some, Int.reduceToNat, Nat.reduceAdd, true_and, and_true, List.length_cons, List.length_nil, Option.toList_some, Option.toList_none, List.cons_append, List.nil_append, Nat.reduceLeDiff, Nat.le_refl, wdS_nil, wdS_i, wdS_l, wdS_r, wdS_n, wdS_s, hx, i1, i60, n1, n2, ↓reduceIte]
    exact u3 R
  · rw [if_neg hin, if_neg hin]
    refine ⟨hp, hX, Kx_refl hp, fun R => ?_⟩
    rw [callD_k]; simp only [entL_i, entL_l, entL_q, entL_s, entL_nil, n_X10_drawn, u_X10_drawn, m_X10_drawn, rep_3, List.cons_append, List.nil_append, List.append_nil, List.length_cons, List.length_nil, Nat.reduceAdd, true_and]
    simp only [AW_k, AWk_1, x_iload_1, x_push_i, x_push_l, x_icmp_lt, x_icmp_le, k_X10_drawn_0, k_X10_drawn_1, k_X10_drawn_2, k_X10_drawn_3, k_X10_drawn_4, k_X10_drawn_5, oE_some, Int.reduceToNat, Nat.reduceAdd, true_and, and_true, List.length_cons, List.length_nil, Option.toList_some, Option.toList_none, List.cons_append, List.nil_append, Nat.reduceLeDiff, Nat.le_refl, wdS_nil, wdS_i, wdS_l, wdS_r, wdS_n, wdS_s, hx, i1, i60]
    by_cases a1 : x < 1
    · rw [if_pos a1]
      simp only [AW_k, AWk_1, x_push_i, x_push_l, x_ret, x_ret_i, x_ret_z, x_ret_l, x_ret_c, k_X10_drawn_6, k_X10_drawn_7, oE_some, Int.reduceToNat, Nat.reduceAdd, true_and, and_true, List.length_cons, List.length_nil, Option.toList_some, Option.toList_none, List.cons_append, List.nil_append, Nat.reduceLeDiff, Nat.le_refl, wdS_nil, wdS_i, wdS_l, wdS_r, wdS_n, wdS_s]
    · rw [if_neg a1, if_pos (by omega)]
      simp only [AW_k, AWk_1, x_push_i, x_push_l, x_ret, x_ret_i, x_ret_z, x_ret_l, x_ret_c, k_X10_drawn_6, k_X10_drawn_7, oE_some, Int.reduceToNat, Nat.reduceAdd, true_and, and_true, List.length_cons, List.length_nil, Option.toList_some, Option.toList_none, List.cons_append, List.nil_append, Nat.reduceLeDiff, Nat.le_refl, wdS_nil, wdS_i, wdS_l, wdS_r, wdS_n, wdS_s]
theorem x10_seed (d : Nat) {hp : HP} {n : Nat} {G : BitVec 64} {z : Int} {c : Nat} {ks : List Int} {es : List Int} {ik : Bool} {kn : Nat} {kG : BitVec 64} {kz : Int} {kc : Nat} {kks : List Int} {kes : List Int} {tc : Nat} {tb : List Int} {sc : Nat} {tl : List Int} {so : List Int} {le : List Int} {it : Nat → List (BitVec 64)} {he : List Int} {th : List Int} {sl : List Int} {tr : Nat} {bo : List Int} {x : Int} (hX : XI hp n G z c ks es ik kn kG kz kc kks kes tc tb sc tl so le it he th sl tr bo) : ∃ h', XI h' n G x c ks es ik kn kG kz kc kks kes tc tb sc tl so le it he th sl tr bo ∧ Kx hp h' ∧ ∀ R : PO, callD (d + 100) 137 [mR 0, mI x] hp R ↔ R (some (mI z)) h' := by
  have hX0 := hX
  obtain ⟨ra, ts, q0, q1, q2, q3, q4, q5, q6, q7, q8, q9, q10, q11, qk⟩ := hX
  have hR := q1.1
  have h1 := rw_1 hR
  have h6 := rw_6 hR
  have f1 := FC_le n
  have cR := rC0 hR
  have cA := rC1 hR
  have o0 : gF hp 0 10 0 = some (mR 1) := XO_F q0 0
  have o1 : gF hp 0 10 1 = some (mR ra) := XO_F q0 1
  have o2 : gF hp 0 10 2 = some (mL G) := XO_F q0 2
  have o3 : gF hp 0 10 3 = some (mI z) := XO_F q0 3
  have o4 : gF hp 0 10 4 = some (mR 2) := XO_F q0 4
  have o5 : gF hp 0 10 5 = some (mR 5) := XO_F q0 5
  have o6 : gF hp 0 10 6 = some (mR 10) := XO_F q0 6
  have o7 : gF hp 0 10 7 = some (mR 14) := XO_F q0 7
  have o8 : gF hp 0 10 8 = some (mR 17) := XO_F q0 8
  have o9 : gF hp 0 10 9 = some (mR 19) := XO_F q0 9
  have o10 : gF hp 0 10 10 = some (mR 27) := XO_F q0 10
  have o11 : gF hp 0 10 11 = some (mR 31) := XO_F q0 11
  have o12 : gF hp 0 10 12 = some (mR 33) := XO_F q0 12
  have o13 : gF hp 0 10 13 = some (mI (zI ik)) := XO_F q0 13
  have o14 : gF hp 0 10 14 = some (mI (kn : Int)) := XO_F q0 14
  have o15 : gF hp 0 10 15 = some (mL kG) := XO_F q0 15
  have o16 : gF hp 0 10 16 = some (mI kz) := XO_F q0 16
  have o17 : gF hp 0 10 17 = some (mR 34) := XO_F q0 17
  have cO := gC_of o0
  refine ⟨pF hp 0 10 3 (mI x), XI_oz hX0, Kx_pF, fun R => ?_⟩
  rw [callD_k]; simp only [entL_i, entL_l, entL_q, entL_s, entL_nil, n_X10_seed, u_X10_seed, m_X10_seed, rep_1, List.cons_append, List.nil_append, List.append_nil, List.length_cons, List.length_nil, Nat.reduceAdd, true_and]
  simp only [AW_k, AWk_1, x_aload_0, x_aloads_0, x_getf, x_istore_2, x_iload_1, x_putf_i, x_iload_2, x_ret, x_ret_i, x_ret_z, x_ret_l, x_ret_c, unl_i, unl_l, unl_q, unl_r, unl_s, unl_n, k_X10_seed_0, k_X10_seed_1, k_X10_seed_2, k_X10_seed_3, k_X10_seed_4, k_X10_seed_5, k_X10_seed_6, k_X10_seed_7, oE_some, Int.reduceToNat, Nat.reduceAdd, true_and, and_true, List.length_cons, List.length_nil, Option.toList_some, Option.toList_none, List.cons_append, List.nil_append, Nat.reduceLeDiff, Nat.le_refl, wdS_nil, wdS_i, wdS_l, wdS_r, wdS_n, wdS_s, o3]
/-- steps and where they are kept, after a proving -/
def pvT (n : Nat) (G : BitVec 64) (tl : List Int) (x : Int) : List Int := match ixo n x with
  | some i => (gdF n G 15 0 i tl).1
  | none => tl
def pvC (n : Nat) (G : BitVec 64) (tl : List Int) (sc : Nat) (x : Int) : Nat := match ixo n x with
  | some i => (gdF n G 15 0 i tl).2
  | none => sc
theorem gdF_ok {n : Nat} {G : BitVec 64} (h1 : 1 ≤ n) (h6 : n ≤ 6) : ∀ (f c i : Nat) (tl : List Int), c + f = 15 → i < FC n → tl.length = 30 → (∀ k, w32 (tl.getD k 0) = tl.getD k 0) → stOK (gdF n G f c i tl).2 (gdF n G f c i tl).1 := by
  intro f
  induction f with
  | zero => intro c i tl hc hi hl hw; exact ⟨by show c ≤ 15; omega, hl, hw⟩
  | succ f ih =>
    intro c i tl hc hi hl hw
    cases e : fgo n G i (mD n i) with
    | none => rw [gdF_none e]; exact ⟨by show c ≤ 15; omega, hl, hw⟩
    | some p =>
      rw [gdF_some e]
      have hp := fgo_lt e
      have hb := bs_lt h1 h6 hi hp
      have hs : ∀ (t : List Int) (j x : Nat), x < 2147483648 → (∀ k, w32 (t.getD k 0) = t.getD k 0) → ∀ k, w32 ((t.set j (x : Int)).getD k 0) = (t.set j (x : Int)).getD k 0 := by
        intro t j x hx ht k
        by_cases c : j < t.length
        · rw [getD_set c]
          split
          · exact w32_nat hx
          · exact ht k
        · rw [List.set_eq_of_length_le (by omega)]; exact ht k
      refine ih (c + 1) (bs n i p) _ (by omega) hb (by rw [List.length_set, List.length_set]; exact hl) ?_
      refine hs _ _ _ (num_31 h1 h6 hb) (hs _ _ _ ?_ hw)
      have := ar_lt h1 h6 hi hp
      have := NA_le n
      omega
theorem gdF_len {n : Nat} {G : BitVec 64} : ∀ (f c i : Nat) (tl : List Int), c ≤ (gdF n G f c i tl).2 := by
  intro f
  induction f with
  | zero => intro c i tl; exact Nat.le_refl _
  | succ f ih =>
    intro c i tl
    cases e : fgo n G i (mD n i) with
    | none => rw [gdF_none e]; exact Nat.le_refl _
    | some p => rw [gdF_some e]; exact Nat.le_trans (Nat.le_succ c) (ih _ _ _)
set_option maxHeartbeats 16000000 in
theorem x10_prove (d : Nat) {hp : HP} {n : Nat} {G : BitVec 64} {z : Int} {c : Nat} {ks : List Int} {es : List Int} {ik : Bool} {kn : Nat} {kG : BitVec 64} {kz : Int} {kc : Nat} {kks : List Int} {kes : List Int} {tc : Nat} {tb : List Int} {sc : Nat} {tl : List Int} {so : List Int} {le : List Int} {it : Nat → List (BitVec 64)} {he : List Int} {th : List Int} {sl : List Int} {tr : Nat} {bo : List Int} {x : Int} (hX : XI hp n G z c ks es ik kn kG kz kc kks kes tc tb sc tl so le it he th sl tr bo) (hx : w32 x = x) : ∃ h', XI h' n G z c ks es ik kn kG kz kc kks kes tc tb (pvC n G tl sc x) (pvT n G tl x) so le it he th sl tr bo ∧ Kx hp h' ∧ ∀ R : PO, callD (d + 100) 140 [mR 0, mI x] hp R ↔ R (some (mI (an1 n x (fun _ => ((pvC n G tl sc x : Nat) : Int))))) h' := by
  have hX0 := hX
  obtain ⟨ra, ts, q0, q1, q2, q3, q4, q5, q6, q7, q8, q9, q10, q11, qk⟩ := hX
  have hR := q1.1
  have h1 := rw_1 hR
  have h6 := rw_6 hR
  have f1 := FC_le n
  have cR := rC0 hR
  have cA := rC1 hR
  have o0 : gF hp 0 10 0 = some (mR 1) := XO_F q0 0
  have o1 : gF hp 0 10 1 = some (mR ra) := XO_F q0 1
  have o2 : gF hp 0 10 2 = some (mL G) := XO_F q0 2
  have o3 : gF hp 0 10 3 = some (mI z) := XO_F q0 3
  have o4 : gF hp 0 10 4 = some (mR 2) := XO_F q0 4
  have o5 : gF hp 0 10 5 = some (mR 5) := XO_F q0 5
  have o6 : gF hp 0 10 6 = some (mR 10) := XO_F q0 6
  have o7 : gF hp 0 10 7 = some (mR 14) := XO_F q0 7
  have o8 : gF hp 0 10 8 = some (mR 17) := XO_F q0 8
  have o9 : gF hp 0 10 9 = some (mR 19) := XO_F q0 9
  have o10 : gF hp 0 10 10 = some (mR 27) := XO_F q0 10
  have o11 : gF hp 0 10 11 = some (mR 31) := XO_F q0 11
  have o12 : gF hp 0 10 12 = some (mR 33) := XO_F q0 12
  have o13 : gF hp 0 10 13 = some (mI (zI ik)) := XO_F q0 13
  have o14 : gF hp 0 10 14 = some (mI (kn : Int)) := XO_F q0 14
  have o15 : gF hp 0 10 15 = some (mL kG) := XO_F q0 15
  have o16 : gF hp 0 10 16 = some (mI kz) := XO_F q0 16
  have o17 : gF hp 0 10 17 = some (mR 34) := XO_F q0 17
  have cO := gC_of o0
  unfold pvC pvT
  cases ex : ixo n x with
  | none =>
    refine ⟨hp, hX0, Kx_refl hp, fun R => ?_⟩
    rw [an1_n ex]
    rw [callD_k]; simp only [entL_i, entL_l, entL_q, entL_s, entL_nil, n_X10_prove, u_X10_prove, m_X10_prove, rep_1, List.cons_append, List.nil_append, List.append_nil, List.length_cons, List.length_nil, Nat.reduceAdd, true_and]
    simp only [AW_k, AWk_1, x_aload_0, x_aloads_0, x_getf, x_iload_1, x_callv_2, x_istore_2, x_iload_2, x_if_ge, x_push_i, x_push_l, x_goto, x_callv_4, x_ret, x_ret_i, x_ret_z, x_ret_l, x_ret_c, unl_i, unl_l, unl_q, unl_r, unl_s, unl_n, k_X10_prove_0, k_X10_prove_1, k_X10_prove_2, k_X10_prove_3, k_X10_prove_4, k_X10_prove_5, k_X10_prove_6, k_X10_prove_7, k_X10_prove_8, k_X10_prove_9, k_X10_prove_10, k_X10_prove_11, k_X10_prove_12, k_X10_prove_13, k_X10_prove_14, k_X10_prove_15, k_X10_prove_16, k_X10_prove_17, oE_some, Int.reduceToNat, Nat.reduceAdd, true_and, and_true, List.length_cons, List.length_nil, Option.toList_some, Option.toList_none, List.cons_append, List.nil_append, Nat.reduceLeDiff, Nat.le_refl, wdS_nil, wdS_i, wdS_l, wdS_r, wdS_n, wdS_s, o1, cR, find_n (d + 98) hR hx ex, wN, ↓reduceIte]
  | some i =>
    have hi := ixo_lt ex
    have bi : i < 2147483648 := by omega
    rw [an1_s ex]
    obtain ⟨h', u1, u2, u3⟩ := c7_goDown (d + 97) (G := G) hR q6.1 q6.2.2.1 hi (tb_w q1.2.1 (by omega))
    have hok := gdF_ok (G := G) h1 h6 15 0 i tl rfl hi q6.2.2.1 q6.2.2.2
    have c17 := gC_of q6.1.1
    refine ⟨h', XI_S hX0 u2 ⟨u1, hok⟩, Kx_Fr u2 (by omega), fun R => ?_⟩
    rw [callD_k]; simp only [entL_i, entL_l, entL_q, entL_s, entL_nil, n_X10_prove, u_X10_prove, m_X10_prove, rep_1, List.cons_append, List.nil_append, List.append_nil, List.length_cons, List.length_nil, Nat.reduceAdd, true_and]
    simp only [AW_k, AWk_1, x_aload_0, x_aloads_0, x_getf, x_iload_1, x_callv_2, x_istore_2, x_iload_2, x_if_ge, x_push_i, x_push_l, x_goto, x_callv_4, x_ret, x_ret_i, x_ret_z, x_ret_l, x_ret_c, unl_i, unl_l, unl_q, unl_r, unl_s, unl_n, k_X10_prove_0, k_X10_prove_1, k_X10_prove_2, k_X10_prove_3, k_X10_prove_4, k_X10_prove_5, k_X10_prove_6, k_X10_prove_7, k_X10_prove_8, k_X10_prove_9, k_X10_prove_10, k_X10_prove_11, k_X10_prove_12, k_X10_prove_13, k_X10_prove_14, k_X10_prove_15, k_X10_prove_16, k_X10_prove_17, oE_some, Int.reduceToNat, Nat.reduceAdd, true_and, and_true, List.length_cons, List.length_nil, Option.toList_some, Option.toList_none, List.cons_append, List.nil_append, Nat.reduceLeDiff, Nat.le_refl, wdS_nil, wdS_i, wdS_l, wdS_r, wdS_n, wdS_s, o1, o2, o8, cR, c17, find_s (d + 98) hR hx ex, wI bi, u3, ↓reduceIte]
set_option maxHeartbeats 16000000 in
theorem x10_judge (d : Nat) {hp : HP} {n : Nat} {G : BitVec 64} {z : Int} {c : Nat} {ks : List Int} {es : List Int} {ik : Bool} {kn : Nat} {kG : BitVec 64} {kz : Int} {kc : Nat} {kks : List Int} {kes : List Int} {tc : Nat} {tb : List Int} {sc : Nat} {tl : List Int} {so : List Int} {le : List Int} {it : Nat → List (BitVec 64)} {he : List Int} {th : List Int} {sl : List Int} {tr : Nat} {bo : List Int} {x : Int} (hX : XI hp n G z c ks es ik kn kG kz kc kks kes tc tb sc tl so le it he th sl tr bo) (hx : w32 x = x) (R : PO) : callD (d + 100) 143 [mR 0, mI x] hp R ↔ R (some (mI (an1 n x (fun i => fwF n G tl sc 0 i)))) hp := by
  obtain ⟨ra, ts, q0, q1, q2, q3, q4, q5, q6, q7, q8, q9, q10, q11, qk⟩ := hX
  have hR := q1.1
  have h1 := rw_1 hR
  have h6 := rw_6 hR
  have f1 := FC_le n
  have cR := rC0 hR
  have cA := rC1 hR
  have o0 : gF hp 0 10 0 = some (mR 1) := XO_F q0 0
  have o1 : gF hp 0 10 1 = some (mR ra) := XO_F q0 1
  have o2 : gF hp 0 10 2 = some (mL G) := XO_F q0 2
  have o3 : gF hp 0 10 3 = some (mI z) := XO_F q0 3
  have o4 : gF hp 0 10 4 = some (mR 2) := XO_F q0 4
  have o5 : gF hp 0 10 5 = some (mR 5) := XO_F q0 5
  have o6 : gF hp 0 10 6 = some (mR 10) := XO_F q0 6
  have o7 : gF hp 0 10 7 = some (mR 14) := XO_F q0 7
  have o8 : gF hp 0 10 8 = some (mR 17) := XO_F q0 8
  have o9 : gF hp 0 10 9 = some (mR 19) := XO_F q0 9
  have o10 : gF hp 0 10 10 = some (mR 27) := XO_F q0 10
  have o11 : gF hp 0 10 11 = some (mR 31) := XO_F q0 11
  have o12 : gF hp 0 10 12 = some (mR 33) := XO_F q0 12
  have o13 : gF hp 0 10 13 = some (mI (zI ik)) := XO_F q0 13
  have o14 : gF hp 0 10 14 = some (mI (kn : Int)) := XO_F q0 14
  have o15 : gF hp 0 10 15 = some (mL kG) := XO_F q0 15
  have o16 : gF hp 0 10 16 = some (mI kz) := XO_F q0 16
  have o17 : gF hp 0 10 17 = some (mR 34) := XO_F q0 17
  have cO := gC_of o0
  cases ex : ixo n x with
  | none =>
    rw [an1_n ex]
    rw [callD_k]; simp only [entL_i, entL_l, entL_q, entL_s, entL_nil, n_X10_judge, u_X10_judge, m_X10_judge, rep_1, List.cons_append, List.nil_append, List.append_nil, List.length_cons, List.length_nil, Nat.reduceAdd, true_and]
    simp only [AW_k, AWk_1, x_aload_0, x_aloads_0, x_getf, x_iload_1, x_callv_2, x_istore_2, x_iload_2, x_if_ge, x_push_i, x_push_l, x_goto, x_callv_4, x_ret, x_ret_i, x_ret_z, x_ret_l, x_ret_c, unl_i, unl_l, unl_q, unl_r, unl_s, unl_n, k_X10_judge_0, k_X10_judge_1, k_X10_judge_2, k_X10_judge_3, k_X10_judge_4, k_X10_judge_5, k_X10_judge_6, k_X10_judge_7, k_X10_judge_8, k_X10_judge_9, k_X10_judge_10, k_X10_judge_11, k_X10_judge_12, k_X10_judge_13, k_X10_judge_14, k_X10_judge_15, k_X10_judge_16, k_X10_judge_17, oE_some, Int.reduceToNat, Nat.reduceAdd, true_and, and_true, List.length_cons, List.length_nil, Option.toList_some, Option.toList_none, List.cons_append, List.nil_append, Nat.reduceLeDiff, Nat.le_refl, wdS_nil, wdS_i, wdS_l, wdS_r, wdS_n, wdS_s, o1, cR, find_n (d + 98) hR hx ex, wN, ↓reduceIte]
  | some i =>
    have hi := ixo_lt ex
    have bi : i < 2147483648 := by omega
    rw [an1_s ex]
    have c17 := gC_of q6.1.1
    rw [callD_k]; simp only [entL_i, entL_l, entL_q, entL_s, entL_nil, n_X10_judge, u_X10_judge, m_X10_judge, rep_1, List.cons_append, List.nil_append, List.append_nil, List.length_cons, List.length_nil, Nat.reduceAdd, true_and]
    simp only [AW_k, AWk_1, x_aload_0, x_aloads_0, x_getf, x_iload_1, x_callv_2, x_istore_2, x_iload_2, x_if_ge, x_push_i, x_push_l, x_goto, x_callv_4, x_ret, x_ret_i, x_ret_z, x_ret_l, x_ret_c, unl_i, unl_l, unl_q, unl_r, unl_s, unl_n, k_X10_judge_0, k_X10_judge_1, k_X10_judge_2, k_X10_judge_3, k_X10_judge_4, k_X10_judge_5, k_X10_judge_6, k_X10_judge_7, k_X10_judge_8, k_X10_judge_9, k_X10_judge_10, k_X10_judge_11, k_X10_judge_12, k_X10_judge_13, k_X10_judge_14, k_X10_judge_15, k_X10_judge_16, k_X10_judge_17, oE_some, Int.reduceToNat, Nat.reduceAdd, true_and, and_true, List.length_cons, List.length_nil, Option.toList_some, Option.toList_none, List.cons_append, List.nil_append, Nat.reduceLeDiff, Nat.le_refl, wdS_nil, wdS_i, wdS_l, wdS_r, wdS_n, wdS_s, o1, o2, o8, cR, c17, find_s (d + 98) hR hx ex, wI bi, c7_firstWrong (d + 97) (G := G) hR q6.1 q6.2 hi, ↓reduceIte]
/-- the step that is told -/
def stO (sc : Nat) (i w : Int) : Option Nat := if 0 ≤ i ∧ i < (sc : Int) ∧ 0 ≤ w ∧ w ≤ 1 then some (i.toNat * 2 + w.toNat) else none
set_option maxHeartbeats 16000000 in
theorem c7_has (d : Nat) {hp : HP} {a c : Nat} {tl : List Int} {i w : Int} (m : STS hp a c tl) (hi : w32 i = i) (hw : w32 w = w) (hc : c ≤ 15) (R : PO) : callD (d + 1) 68 [mR a, mI i, mI w] hp R ↔ R (some (mI (zI (stO c i w).isSome))) hp := by
  have g := m.1
  have i1 : w32 1 = 1 := rfl
  have bc : c < 2147483648 := by omega
  rw [callD_k]; simp only [entL_i, entL_l, entL_q, entL_s, entL_nil, n_X7_has, u_X7_has, m_X7_has, rep_0, List.cons_append, List.nil_append, List.append_nil, List.length_cons, List.length_nil, Nat.reduceAdd, true_and]
  simp only [AW_k, AWk_1, x_iload_1, x_if_lt, x_aload_0, x_aloads_0, x_getf, x_icmp_ge, x_iload_2, x_push_i, x_push_l, x_icmp_gt, x_goto, x_ret, x_ret_i, x_ret_z, x_ret_l, x_ret_c, k_X7_has_0, k_X7_has_1, k_X7_has_2, k_X7_has_3, k_X7_has_4, k_X7_has_5, k_X7_has_6, k_X7_has_7, k_X7_has_8, k_X7_has_9, k_X7_has_10, k_X7_has_11, k_X7_has_12, k_X7_has_13, k_X7_has_14, oE_some, Int.reduceToNat, Nat.reduceAdd, true_and, and_true, List.length_cons, List.length_nil, Option.toList_some, Option.toList_none, List.cons_append, List.nil_append, Nat.reduceLeDiff, Nat.le_refl, wdS_nil, wdS_i, wdS_l, wdS_r, wdS_n, wdS_s, g, hi, hw, i1, w32_nat bc]
  unfold stO
  by_cases c0 : i < 0
  · rw [if_pos c0, if_neg (by omega)]; exact ⟨fun q => q.2, fun q => ⟨Or.inl trivial, q⟩⟩
  · rw [if_neg c0]
    by_cases c1 : i < (c : Int)
    · rw [if_pos c1]
      by_cases c2 : w < 0
      · rw [if_pos c2, if_neg (by omega)]; exact ⟨fun q => q.2, fun q => ⟨Or.inl trivial, q⟩⟩
      · rw [if_neg c2]
        by_cases c3 : (1 : Int) < w
        · rw [if_pos c3, if_neg (by omega)]; exact ⟨fun q => q.2, fun q => ⟨Or.inl trivial, q⟩⟩
        · rw [if_neg c3, if_pos (by omega)]; exact ⟨fun q => q.2, fun q => ⟨Or.inr trivial, q⟩⟩
    · rw [if_neg c1, if_neg (by omega)]; exact ⟨fun q => q.2, fun q => ⟨Or.inl trivial, q⟩⟩
def stA (sc : Nat) (tl : List Int) (i w : Int) : Int := match stO sc i w with
  | some k => tl.getD k 0
  | none => -9
theorem stO_lt {sc k : Nat} {i w : Int} (h : stO sc i w = some k) (hc : sc ≤ 15) : k < 30 ∧ i * 2 + w = (k : Int) := by
  unfold stO at h
  split at h
  · cases h; omega
  · cases h
set_option maxHeartbeats 16000000 in
theorem x10_step (d : Nat) {hp : HP} {n : Nat} {G : BitVec 64} {z : Int} {c : Nat} {ks : List Int} {es : List Int} {ik : Bool} {kn : Nat} {kG : BitVec 64} {kz : Int} {kc : Nat} {kks : List Int} {kes : List Int} {tc : Nat} {tb : List Int} {sc : Nat} {tl : List Int} {so : List Int} {le : List Int} {it : Nat → List (BitVec 64)} {he : List Int} {th : List Int} {sl : List Int} {tr : Nat} {bo : List Int} {i w : Int} (hX : XI hp n G z c ks es ik kn kG kz kc kks kes tc tb sc tl so le it he th sl tr bo) (hi : w32 i = i) (hw : w32 w = w) (R : PO) : callD (d + 100) 141 [mR 0, mI i, mI w] hp R ↔ R (some (mI (stA sc tl i w))) hp := by
  obtain ⟨ra, ts, q0, q1, q2, q3, q4, q5, q6, q7, q8, q9, q10, q11, qk⟩ := hX
  have hR := q1.1
  have h1 := rw_1 hR
  have h6 := rw_6 hR
  have f1 := FC_le n
  have cR := rC0 hR
  have cA := rC1 hR
  have o0 : gF hp 0 10 0 = some (mR 1) := XO_F q0 0
  have o1 : gF hp 0 10 1 = some (mR ra) := XO_F q0 1
  have o2 : gF hp 0 10 2 = some (mL G) := XO_F q0 2
  have o3 : gF hp 0 10 3 = some (mI z) := XO_F q0 3
  have o4 : gF hp 0 10 4 = some (mR 2) := XO_F q0 4
  have o5 : gF hp 0 10 5 = some (mR 5) := XO_F q0 5
  have o6 : gF hp 0 10 6 = some (mR 10) := XO_F q0 6
  have o7 : gF hp 0 10 7 = some (mR 14) := XO_F q0 7
  have o8 : gF hp 0 10 8 = some (mR 17) := XO_F q0 8
  have o9 : gF hp 0 10 9 = some (mR 19) := XO_F q0 9
  have o10 : gF hp 0 10 10 = some (mR 27) := XO_F q0 10
  have o11 : gF hp 0 10 11 = some (mR 31) := XO_F q0 11
  have o12 : gF hp 0 10 12 = some (mR 33) := XO_F q0 12
  have o13 : gF hp 0 10 13 = some (mI (zI ik)) := XO_F q0 13
  have o14 : gF hp 0 10 14 = some (mI (kn : Int)) := XO_F q0 14
  have o15 : gF hp 0 10 15 = some (mL kG) := XO_F q0 15
  have o16 : gF hp 0 10 16 = some (mI kz) := XO_F q0 16
  have o17 : gF hp 0 10 17 = some (mR 34) := XO_F q0 17
  have cO := gC_of o0
  have c17 := gC_of q6.1.1
  have g1 := q6.1.2.1
  have a1 := q6.1.2.2
  have hh := fun R => c7_has (d + 98) (i := i) (w := w) q6.1 hi hw q6.2.1 R
  have l30 := q6.2.2.1
  unfold stA
  cases ex : stO sc i w with
  | none =>
    rw [ex] at hh
    rw [callD_k]; simp only [entL_i, entL_l, entL_q, entL_s, entL_nil, n_X10_step, u_X10_step, m_X10_step, rep_0, List.cons_append, List.nil_append, List.append_nil, List.length_cons, List.length_nil, Nat.reduceAdd, true_and]
    simp only [AW_k, AWk_1, x_aload_0, x_aloads_0, x_getf, x_iload_1, x_iload_2, x_callv_3, x_if_eq, x_push_i, x_push_l, x_imul, x_iadd, x_iald, x_ialds, x_goto, x_ret, x_ret_i, x_ret_z, x_ret_l, x_ret_c, k_X10_step_0, k_X10_step_1, k_X10_step_2, k_X10_step_3, k_X10_step_4, k_X10_step_5, k_X10_step_6, k_X10_step_7, k_X10_step_8, k_X10_step_9, k_X10_step_10, k_X10_step_11, k_X10_step_12, k_X10_step_13, k_X10_step_14, k_X10_step_15, k_X10_step_16, k_X10_step_17, oE_some, Int.reduceToNat, Nat.reduceAdd, true_and, and_true, List.length_cons, List.length_nil, Option.toList_some, Option.toList_none, List.cons_append, List.nil_append, Nat.reduceLeDiff, Nat.le_refl, wdS_nil, wdS_i, wdS_l, wdS_r, wdS_n, wdS_s, o8, c17, hh, Option.isSome_none, zI_f, w00, ↓reduceIte]
  | some k =>
    rw [ex] at hh
    obtain ⟨k1, k2⟩ := stO_lt ex q6.2.1
    have bk : k < 2147483648 := by omega
    have ib : inB (k : Int) tl.length := by rw [l30]; exact inB_n k1 (by decide)
    rw [callD_k]; simp only [entL_i, entL_l, entL_q, entL_s, entL_nil, n_X10_step, u_X10_step, m_X10_step, rep_0, List.cons_append, List.nil_append, List.append_nil, List.length_cons, List.length_nil, Nat.reduceAdd, true_and]
    simp only [AW_k, AWk_1, x_aload_0, x_aloads_0, x_getf, x_iload_1, x_iload_2, x_callv_3, x_if_eq, x_push_i, x_push_l, x_imul, x_iadd, x_iald, x_ialds, x_goto, x_ret, x_ret_i, x_ret_z, x_ret_l, x_ret_c, k_X10_step_0, k_X10_step_1, k_X10_step_2, k_X10_step_3, k_X10_step_4, k_X10_step_5, k_X10_step_6, k_X10_step_7, k_X10_step_8, k_X10_step_9, k_X10_step_10, k_X10_step_11, k_X10_step_12, k_X10_step_13, k_X10_step_14, k_X10_step_15, k_X10_step_16, k_X10_step_17, oE_some, Int.reduceToNat, Nat.reduceAdd, true_and, and_true, List.length_cons, List.length_nil, Option.toList_some, Option.toList_none, List.cons_append, List.nil_append, Nat.reduceLeDiff, Nat.le_refl, wdS_nil, wdS_i, wdS_l, wdS_r, wdS_n, wdS_s, o8, c17, hh, Option.isSome_some, zI_t, w10, g1, a1, k2, ib, w32_tn bk, ↓reduceIte]
def stU (sc : Nat) (tl : List Int) (i w v : Int) : List Int := match stO sc i w with
  | some k => tl.set k v
  | none => tl
set_option maxHeartbeats 16000000 in
theorem x10_alterStep (d : Nat) {hp : HP} {n : Nat} {G : BitVec 64} {z : Int} {c : Nat} {ks : List Int} {es : List Int} {ik : Bool} {kn : Nat} {kG : BitVec 64} {kz : Int} {kc : Nat} {kks : List Int} {kes : List Int} {tc : Nat} {tb : List Int} {sc : Nat} {tl : List Int} {so : List Int} {le : List Int} {it : Nat → List (BitVec 64)} {he : List Int} {th : List Int} {sl : List Int} {tr : Nat} {bo : List Int} {i w v : Int} (hX : XI hp n G z c ks es ik kn kG kz kc kks kes tc tb sc tl so le it he th sl tr bo) (hi : w32 i = i) (hw : w32 w = w) (hv : w32 v = v) : ∃ h', XI h' n G z c ks es ik kn kG kz kc kks kes tc tb sc (stU sc tl i w v) so le it he th sl tr bo ∧ Kx hp h' ∧ ∀ R : PO, callD (d + 100) 142 [mR 0, mI i, mI w, mI v] hp R ↔ R (some (mI (stA sc tl i w))) h' := by
  have hX0 := hX
  obtain ⟨ra, ts, q0, q1, q2, q3, q4, q5, q6, q7, q8, q9, q10, q11, qk⟩ := hX
  have hR := q1.1
  have h1 := rw_1 hR
  have h6 := rw_6 hR
  have f1 := FC_le n
  have cR := rC0 hR
  have cA := rC1 hR
  have o0 : gF hp 0 10 0 = some (mR 1) := XO_F q0 0
  have o1 : gF hp 0 10 1 = some (mR ra) := XO_F q0 1
  have o2 : gF hp 0 10 2 = some (mL G) := XO_F q0 2
  have o3 : gF hp 0 10 3 = some (mI z) := XO_F q0 3
  have o4 : gF hp 0 10 4 = some (mR 2) := XO_F q0 4
  have o5 : gF hp 0 10 5 = some (mR 5) := XO_F q0 5
  have o6 : gF hp 0 10 6 = some (mR 10) := XO_F q0 6
  have o7 : gF hp 0 10 7 = some (mR 14) := XO_F q0 7
  have o8 : gF hp 0 10 8 = some (mR 17) := XO_F q0 8
  have o9 : gF hp 0 10 9 = some (mR 19) := XO_F q0 9
  have o10 : gF hp 0 10 10 = some (mR 27) := XO_F q0 10
  have o11 : gF hp 0 10 11 = some (mR 31) := XO_F q0 11
  have o12 : gF hp 0 10 12 = some (mR 33) := XO_F q0 12
  have o13 : gF hp 0 10 13 = some (mI (zI ik)) := XO_F q0 13
  have o14 : gF hp 0 10 14 = some (mI (kn : Int)) := XO_F q0 14
  have o15 : gF hp 0 10 15 = some (mL kG) := XO_F q0 15
  have o16 : gF hp 0 10 16 = some (mI kz) := XO_F q0 16
  have o17 : gF hp 0 10 17 = some (mR 34) := XO_F q0 17
  have cO := gC_of o0
  have c17 := gC_of q6.1.1
  have g0 := q6.1.1
  have g1 := q6.1.2.1
  have a1 := q6.1.2.2
  have hh := fun R => c7_has (d + 98) (i := i) (w := w) q6.1 hi hw q6.2.1 R
  have l30 := q6.2.2.1
  unfold stA stU
  cases ex : stO sc i w with
  | none =>
    rw [ex] at hh
    refine ⟨hp, hX0, Kx_refl hp, fun R => ?_⟩
    rw [callD_k]; simp only [entL_i, entL_l, entL_q, entL_s, entL_nil, n_X10_alterStep, u_X10_alterStep, m_X10_alterStep, rep_1, List.cons_append, List.nil_append, List.append_nil, List.length_cons, List.length_nil, Nat.reduceAdd, true_and]
    simp only [AW_k, AWk_1, x_aload_0, x_aloads_0, x_getf, x_iload_1, x_iload_2, x_callv_3, x_if_ne, x_push_i, x_push_l, x_ret, x_ret_i, x_ret_z, x_ret_l, x_ret_c, x_imul, x_iadd, x_iald, x_ialds, x_istore_4, x_iload_3, x_iast, x_iload_4, unl_i, unl_l, unl_q, unl_r, unl_s, unl_n, k_X10_alterStep_0, k_X10_alterStep_1, k_X10_alterStep_2, k_X10_alterStep_3, k_X10_alterStep_4, k_X10_alterStep_5, k_X10_alterStep_6, k_X10_alterStep_7, k_X10_alterStep_8, k_X10_alterStep_9, k_X10_alterStep_10, k_X10_alterStep_11, k_X10_alterStep_12, k_X10_alterStep_13, k_X10_alterStep_14, k_X10_alterStep_15, k_X10_alterStep_16, k_X10_alterStep_17, k_X10_alterStep_18, k_X10_alterStep_19, k_X10_alterStep_20, k_X10_alterStep_21, k_X10_alterStep_22, k_X10_alterStep_23, k_X10_alterStep_24, k_X10_alterStep_25, k_X10_alterStep_26, k_X10_alterStep_27, k_X10_alterStep_28, k_X10_alterStep_29, oE_some, Int.reduceToNat, Nat.reduceAdd, true_and, and_true, List.length_cons, List.length_nil, Option.toList_some, Option.toList_none, List.cons_append, List.nil_append, Nat.reduceLeDiff, Nat.le_refl, wdS_nil, wdS_i, wdS_l, wdS_r, wdS_n, wdS_s, o8, c17, hh, Option.isSome_none, zI_f, w00, ↓reduceIte]
  | some k =>
    rw [ex] at hh
    obtain ⟨k1, k2⟩ := stO_lt ex q6.2.1
    have bk : k < 2147483648 := by omega
    have ib : inB (k : Int) tl.length := by rw [l30]; exact inB_n k1 (by decide)
    have f : Fr 17 19 hp (pA hp 18 (tl.set k v)) := Fr_pA (by omega) (by omega)
    have s1 : STS (pA hp 18 (tl.set k v)) 17 sc (tl.set k v) := ⟨by rw [gF_pA, g0], by rw [gF_pA, g1], gA_pA_same a1⟩
    have s2 : stOK sc (tl.set k v) := by
      refine ⟨q6.2.1, by rw [List.length_set]; exact l30, fun j => ?_⟩
      rw [getD_set (by omega)]
      split
      · exact hv
      · exact q6.2.2.2 j
    refine ⟨pA hp 18 (tl.set k v), XI_S hX0 f ⟨s1, s2⟩, Kx_Fr f (by omega), fun R => ?_⟩
    rw [callD_k]; simp only [entL_i, entL_l, entL_q, entL_s, entL_nil, n_X10_alterStep, u_X10_alterStep, m_X10_alterStep, rep_1, List.cons_append, List.nil_append, List.append_nil, List.length_cons, List.length_nil, Nat.reduceAdd, true_and]
    simp only [AW_k, AWk_1, x_aload_0, x_aloads_0, x_getf, x_iload_1, x_iload_2, x_callv_3, x_if_ne, x_push_i, x_push_l, x_ret, x_ret_i, x_ret_z, x_ret_l, x_ret_c, x_imul, x_iadd, x_iald, x_ialds, x_istore_4, x_iload_3, x_iast, x_iload_4, unl_i, unl_l, unl_q, unl_r, unl_s, unl_n, k_X10_alterStep_0, k_X10_alterStep_1, k_X10_alterStep_2, k_X10_alterStep_3, k_X10_alterStep_4, k_X10_alterStep_5, k_X10_alterStep_6, k_X10_alterStep_7, k_X10_alterStep_8, k_X10_alterStep_9, k_X10_alterStep_10, k_X10_alterStep_11, k_X10_alterStep_12, k_X10_alterStep_13, k_X10_alterStep_14, k_X10_alterStep_15, k_X10_alterStep_16, k_X10_alterStep_17, k_X10_alterStep_18, k_X10_alterStep_19, k_X10_alterStep_20, k_X10_alterStep_21, k_X10_alterStep_22, k_X10_alterStep_23, k_X10_alterStep_24, k_X10_alterStep_25, k_X10_alterStep_26, k_X10_alterStep_27, k_X10_alterStep_28, k_X10_alterStep_29, oE_some, Int.reduceToNat, Nat.reduceAdd, true_and, and_true, List.length_cons, List.length_nil, Option.toList_some, Option.toList_none, List.cons_append, List.nil_append, Nat.reduceLeDiff, Nat.le_refl, wdS_nil, wdS_i, wdS_l, wdS_r, wdS_n, wdS_s, o8, c17, hh, Option.isSome_some, zI_t, w10, g1, a1, k2, ib, w32_tn bk, ↓reduceIte]
