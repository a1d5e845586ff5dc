/-! ===== the class's own methods: from class to class ===== -/
def nrW (n : Nat) (G : BitVec 64) (w : Int) (i : Nat) : List Nat := if w = 0 then nr0 n G i else nr1 n G i
theorem nrW_ok {n i : Nat} {G : BitVec 64} {w : Int} (h1 : 1 ≤ n) (h6 : n ≤ 6) (hi : i < FC n) : (nrW n G w i).length ≤ 6 ∧ ∀ y ∈ nrW n G w i, y < FC n := by
  unfold nrW
  by_cases e : w = 0
  · rw [if_pos e]; exact ⟨Nat.le_of_lt (nr0_len h6), nr0_bd h1 h6 hi⟩
  · rw [if_neg e]; exact ⟨Nat.le_of_lt (nr1_len h6), nr1_bd h1 h6 hi⟩
theorem findN (d : Nat) {hp : HP} {n : Nat} {G : BitVec 64} {z : Int} {c : Nat} {ks : List Int} {es : List Int} {ik : Bool} {kn : Nat} {kG : BitVec 64} {kz : Int} {kc : Nat} {kks : List Int} {kes : List Int} {tc : Nat} {tb : List Int} {sc : Nat} {tl : List Int} {so : List Int} {le : List Int} {it : Nat → List (BitVec 64)} {he : List Int} {th : List Int} {sl : List Int} {tr : Nat} {bo : List Int} {i : Nat} {w : Int} {ra : Nat} (hX : XI hp n G z c ks es ik kn kG kz kc kks kes tc tb sc tl so le it he th sl tr bo) (hR : RWS hp ra n) (ho : 10 + 4 ≤ ra ∨ ra + 16 ≤ 10) (hi : i < FC n) (hw : 0 ≤ w ∧ w ≤ 1) : ∃ h' l' st q, XI h' n G z c ks es ik kn kG kz kc kks kes tc tb sc tl so le it he th sl tr bo ∧ WK h' 10 l' st q ∧ Fr 10 14 hp h' ∧ pre l' (nrW n G w i) ∧ ∀ R : PO, callD (d + 3) 93 [mR 10, mR ra, mL G, mI (i : Int), mI w] hp R ↔ R (some (mI ((nrW n G w i).length : Int))) h' := by
  have hX0 := hX
  obtain ⟨ra', ts, q0, q1, q2, q3, ⟨l, st, q, hW⟩, q5, q6, q7, q8, q9, q10, q11, qk⟩ := hX
  have hl : l.length = 6 := hW.2.2.2.2.1
  have key : ∀ l' : List Int, l'.length = 6 → WK (pA hp (10 + 1) l') 10 l' st q ∧ Fr 10 14 hp (pA hp (10 + 1) l') := by
    intro l' e
    have f : Fr 10 14 hp (pA hp (10 + 1) l') := Fr_pA (by omega) (by omega)
    obtain ⟨⟨a1, a2, a3⟩, b1, b2, b3, c1, c2, c3⟩ := hW
    exact ⟨⟨⟨by rw [gF_pA, a1], by rw [gF_pA, a2], by rw [gF_pA, a3]⟩, gA_pA_same b1, by rw [gA_pA (by omega), b2], by rw [gA_pA (by omega), b3], e, c2, c3⟩, f⟩
  rcases (show w = 0 ∨ w = 1 by omega) with e | e
  · subst e
    obtain ⟨l', u1, u2, u3⟩ := c9_findNear0 d (G := G) hR hW hi ho
    obtain ⟨k1, k2⟩ := key l' u2
    exact ⟨_, l', st, q, XI_W hX0 k2 ⟨l', st, q, k1⟩, k1, k2, u1, u3⟩
  · subst e
    obtain ⟨l', u1, u2, u3⟩ := c9_findNear1 d (G := G) hR hW hi ho
    obtain ⟨k1, k2⟩ := key l' u2
    exact ⟨_, l', st, q, XI_W hX0 k2 ⟨l', st, q, k1⟩, k1, k2, u1, u3⟩
def rtA (n : Nat) (G : BitVec 64) (w : Int) (i : Nat) : Int := if 0 ≤ w ∧ w ≤ 1 then ((nrW n G w i).length : Int) else -1
set_option maxHeartbeats 16000000 in
theorem x10_rotations (d : Nat) {hp : HP} {n : Nat} {G : BitVec 64} {z : Int} {c : Nat} {ks : List Int} {es : List Int} {ik : Bool} {kn : Nat} {kG : BitVec 64} {kz : Int} {kc : Nat} {kks : List Int} {kes : List Int} {tc : Nat} {tb : List Int} {sc : Nat} {tl : List Int} {so : List Int} {le : List Int} {it : Nat → List (BitVec 64)} {he : List Int} {th : List Int} {sl : List Int} {tr : Nat} {bo : List Int} {x w : Int} (hX : XI hp n G z c ks es ik kn kG kz kc kks kes tc tb sc tl so le it he th sl tr bo) (hx : w32 x = x) (hw : w32 w = w) : ∃ h', XI h' n G z c ks es ik kn kG kz kc kks kes tc tb sc tl so le it he th sl tr bo ∧ Kx hp h' ∧ ∀ R : PO, callD (d + 100) 129 [mR 0, mI x, mI w] hp R ↔ R (some (mI (an1 n x (rtA n G w)))) h' := by
  have hX0 := hX
  obtain ⟨ra, ts, q0, q1, q2, q3, q4, q5, q6, q7, q8, q9, q10, q11, qk⟩ := hX
  have hR := q1.1
  have h1 := rw_1 hR
  have h6 := rw_6 hR
  have f1 := FC_le n
  have cR := rC0 hR
  have cA := rC1 hR
  have o0 : gF hp 0 10 0 = some (mR 1) := XO_F q0 0
  have o1 : gF hp 0 10 1 = some (mR ra) := XO_F q0 1
  have o2 : gF hp 0 10 2 = some (mL G) := XO_F q0 2
  have o3 : gF hp 0 10 3 = some (mI z) := XO_F q0 3
  have o4 : gF hp 0 10 4 = some (mR 2) := XO_F q0 4
  have o5 : gF hp 0 10 5 = some (mR 5) := XO_F q0 5
  have o6 : gF hp 0 10 6 = some (mR 10) := XO_F q0 6
  have o7 : gF hp 0 10 7 = some (mR 14) := XO_F q0 7
  have o8 : gF hp 0 10 8 = some (mR 17) := XO_F q0 8
  have o9 : gF hp 0 10 9 = some (mR 19) := XO_F q0 9
  have o10 : gF hp 0 10 10 = some (mR 27) := XO_F q0 10
  have o11 : gF hp 0 10 11 = some (mR 31) := XO_F q0 11
  have o12 : gF hp 0 10 12 = some (mR 33) := XO_F q0 12
  have o13 : gF hp 0 10 13 = some (mI (zI ik)) := XO_F q0 13
  have o14 : gF hp 0 10 14 = some (mI (kn : Int)) := XO_F q0 14
  have o15 : gF hp 0 10 15 = some (mL kG) := XO_F q0 15
  have o16 : gF hp 0 10 16 = some (mI kz) := XO_F q0 16
  have o17 : gF hp 0 10 17 = some (mR 34) := XO_F q0 17
  have cO := gC_of o0
  have i1 : w32 1 = 1 := rfl
  cases ex : ixo n x with
  | none =>
    refine ⟨hp, hX0, Kx_refl hp, fun R => ?_⟩
    rw [an1_n ex]
    rw [callD_k]; simp only [entL_i, entL_l, entL_q, entL_s, entL_nil, n_X10_rotations, u_X10_rotations, m_X10_rotations, rep_1, List.cons_append, List.nil_append, List.append_nil, List.length_cons, List.length_nil, Nat.reduceAdd, true_and]
    simp only [AW_k, AWk_1, x_aload_0, x_aloads_0, x_getf, x_iload_1, x_callv_2, x_istore_3, x_iload_3, x_if_lt, x_iload_2, x_push_i, x_push_l, x_icmp_le, x_ret, x_ret_i, x_ret_z, x_ret_l, x_ret_c, x_callv_5, unl_i, unl_l, unl_q, unl_r, unl_s, unl_n, k_X10_rotations_0, k_X10_rotations_1, k_X10_rotations_2, k_X10_rotations_3, k_X10_rotations_4, k_X10_rotations_5, k_X10_rotations_6, k_X10_rotations_7, k_X10_rotations_8, k_X10_rotations_9, k_X10_rotations_10, k_X10_rotations_11, k_X10_rotations_12, k_X10_rotations_13, k_X10_rotations_14, k_X10_rotations_15, k_X10_rotations_16, k_X10_rotations_17, k_X10_rotations_18, k_X10_rotations_19, k_X10_rotations_20, k_X10_rotations_21, k_X10_rotations_22, k_X10_rotations_23, oE_some, Int.reduceToNat, Nat.reduceAdd, true_and, and_true, List.length_cons, List.length_nil, Option.toList_some, Option.toList_none, List.cons_append, List.nil_append, Nat.reduceLeDiff, Nat.le_refl, wdS_nil, wdS_i, wdS_l, wdS_r, wdS_n, wdS_s, o1, cR, find_n (d + 98) hR hx ex, wN, ↓reduceIte]
  | some i =>
    have hi := ixo_lt ex
    have bi : i < 2147483648 := by omega
    rw [an1_s ex]
    unfold rtA
    by_cases hin : 0 ≤ w ∧ w ≤ 1
    · rw [if_pos hin]
      obtain ⟨h', l', st, q, u1, u2, u3, u4, u5⟩ := findN (d + 96) hX0 hR (tb_w q1.2.1 (by omega)) hi hin
      have n1 : (w < 0) = False := eq_false (by omega)
      have n2 : (1 < w) = False := eq_false (by omega)
      obtain ⟨l0, st0, q0', hW⟩ := q4
      have c10 := gC_of hW.1.1
      refine ⟨h', u1, Kx_Fr u3 (by omega), fun R => ?_⟩
      rw [callD_k]; simp only [entL_i, entL_l, entL_q, entL_s, entL_nil, n_X10_rotations, u_X10_rotations, m_X10_rotations, rep_1, List.cons_append, List.nil_append, List.append_nil, List.length_cons, List.length_nil, Nat.reduceAdd, true_and]
      simp only [AW_k, AWk_1, x_aload_0, x_aloads_0, x_getf, x_iload_1, x_callv_2, x_istore_3, x_iload_3, x_if_lt, x_iload_2, x_push_i, x_push_l, x_icmp_le, x_ret, x_ret_i, x_ret_z, x_ret_l, x_ret_c, x_callv_5, unl_i, unl_l, unl_q, unl_r, unl_s, unl_n, k_X10_rotations_0, k_X10_rotations_1, k_X10_rotations_2, k_X10_rotations_3, k_X10_rotations_4, k_X10_rotations_5, k_X10_rotations_6, k_X10_rotations_7, k_X10_rotations_8, k_X10_rotations_9, k_X10_rotations_10, k_X10_rotations_11, k_X10_rotations_12, k_X10_rotations_13, k_X10_rotations_14, k_X10_rotations_15, k_X10_rotations_16, k_X10_rotations_17, k_X10_rotations_18, k_X10_rotations_19, k_X10_rotations_20, k_X10_rotations_21, k_X10_rotations_22, k_X10_rotations_23, oE_some, Int.reduceToNat, Nat.reduceAdd, true_and, and_true, List.length_cons, List.length_nil, Option.toList_some, Option.toList_none, List.cons_append, List.nil_append, Nat.reduceLeDiff, Nat.le_refl, wdS_nil, wdS_i, wdS_l, wdS_r, wdS_n, wdS_s, o1, o2, o6, cR, c10, find_s (d + 98) hR hx ex, wI bi, hw, i1, n1, n2, u5, ↓reduceIte]
    · rw [if_neg hin]
      refine ⟨hp, hX0, Kx_refl hp, fun R => ?_⟩
      rw [callD_k]; simp only [entL_i, entL_l, entL_q, entL_s, entL_nil, n_X10_rotations, u_X10_rotations, m_X10_rotations, rep_1, List.cons_append, List.nil_append, List.append_nil, List.length_cons, List.length_nil, Nat.reduceAdd, true_and]
      simp only [AW_k, AWk_1, x_aload_0, x_aloads_0, x_getf, x_iload_1, x_callv_2, x_istore_3, x_iload_3, x_if_lt, x_iload_2, x_push_i, x_push_l, x_icmp_le, unl_i, unl_l, unl_q, unl_r, unl_s, unl_n, k_X10_rotations_0, k_X10_rotations_1, k_X10_rotations_2, k_X10_rotations_3, k_X10_rotations_4, k_X10_rotations_5, k_X10_rotations_6, k_X10_rotations_7, k_X10_rotations_8, k_X10_rotations_9, k_X10_rotations_10, k_X10_rotations_11, oE_some, Int.reduceToNat, Nat.reduceAdd, true_and, and_true, List.length_cons, List.length_nil, Option.toList_some, Option.toList_none, List.cons_append, List.nil_append, Nat.reduceLeDiff, Nat.le_refl, wdS_nil, wdS_i, wdS_l, wdS_r, wdS_n, wdS_s, o1, cR, find_s (d + 98) hR hx ex, wI bi, hw, i1, ↓reduceIte]
      by_cases a1 : w < 0
      · rw [if_pos a1]
        simp only [AW_k, AWk_1, x_push_i, x_push_l, x_ret, x_ret_i, x_ret_z, x_ret_l, x_ret_c, k_X10_rotations_12, k_X10_rotations_13, oE_some, Int.reduceToNat, Nat.reduceAdd, true_and, and_true, List.length_cons, List.length_nil, Option.toList_some, Option.toList_none, List.cons_append, List.nil_append, Nat.reduceLeDiff, Nat.le_refl, wdS_nil, wdS_i, wdS_l, wdS_r, wdS_n, wdS_s]
      · rw [if_neg a1, if_pos (by omega)]
        simp only [AW_k, AWk_1, x_push_i, x_push_l, x_ret, x_ret_i, x_ret_z, x_ret_l, x_ret_c, k_X10_rotations_12, k_X10_rotations_13, oE_some, Int.reduceToNat, Nat.reduceAdd, true_and, and_true, List.length_cons, List.length_nil, Option.toList_some, Option.toList_none, List.cons_append, List.nil_append, Nat.reduceLeDiff, Nat.le_refl, wdS_nil, wdS_i, wdS_l, wdS_r, wdS_n, wdS_s]
def roW (n : Nat) (G : BitVec 64) (k w : Int) (i : Nat) : Int := if 0 ≤ k ∧ 0 ≤ w ∧ w ≤ 1 then (if k < ((nrW n G w i).length : Int) then ((num n ((nrW n G w i).getD k.toNat 0) : Nat) : Int) else -3) else -1
set_option maxHeartbeats 16000000 in
theorem x10_rotate (d : Nat) {hp : HP} {n : Nat} {G : BitVec 64} {z : Int} {c : Nat} {ks : List Int} {es : List Int} {ik : Bool} {kn : Nat} {kG : BitVec 64} {kz : Int} {kc : Nat} {kks : List Int} {kes : List Int} {tc : Nat} {tb : List Int} {sc : Nat} {tl : List Int} {so : List Int} {le : List Int} {it : Nat → List (BitVec 64)} {he : List Int} {th : List Int} {sl : List Int} {tr : Nat} {bo : List Int} {x k w : Int} (hX : XI hp n G z c ks es ik kn kG kz kc kks kes tc tb sc tl so le it he th sl tr bo) (hx : w32 x = x) (hk : w32 k = k) (hw : w32 w = w) : ∃ h', XI h' n G z c ks es ik kn kG kz kc kks kes tc tb sc tl so le it he th sl tr bo ∧ Kx hp h' ∧ ∀ R : PO, callD (d + 100) 130 [mR 0, mI x, mI k, mI w] hp R ↔ R (some (mI (an1 n x (roW n G k w)))) h' := by
  have hX0 := hX
  obtain ⟨ra, ts, q0, q1, q2, q3, q4, q5, q6, q7, q8, q9, q10, q11, qk⟩ := hX
  have hR := q1.1
  have h1 := rw_1 hR
  have h6 := rw_6 hR
  have f1 := FC_le n
  have cR := rC0 hR
  have cA := rC1 hR
  have o0 : gF hp 0 10 0 = some (mR 1) := XO_F q0 0
  have o1 : gF hp 0 10 1 = some (mR ra) := XO_F q0 1
  have o2 : gF hp 0 10 2 = some (mL G) := XO_F q0 2
  have o3 : gF hp 0 10 3 = some (mI z) := XO_F q0 3
  have o4 : gF hp 0 10 4 = some (mR 2) := XO_F q0 4
  have o5 : gF hp 0 10 5 = some (mR 5) := XO_F q0 5
  have o6 : gF hp 0 10 6 = some (mR 10) := XO_F q0 6
  have o7 : gF hp 0 10 7 = some (mR 14) := XO_F q0 7
  have o8 : gF hp 0 10 8 = some (mR 17) := XO_F q0 8
  have o9 : gF hp 0 10 9 = some (mR 19) := XO_F q0 9
  have o10 : gF hp 0 10 10 = some (mR 27) := XO_F q0 10
  have o11 : gF hp 0 10 11 = some (mR 31) := XO_F q0 11
  have o12 : gF hp 0 10 12 = some (mR 33) := XO_F q0 12
  have o13 : gF hp 0 10 13 = some (mI (zI ik)) := XO_F q0 13
  have o14 : gF hp 0 10 14 = some (mI (kn : Int)) := XO_F q0 14
  have o15 : gF hp 0 10 15 = some (mL kG) := XO_F q0 15
  have o16 : gF hp 0 10 16 = some (mI kz) := XO_F q0 16
  have o17 : gF hp 0 10 17 = some (mR 34) := XO_F q0 17
  have cO := gC_of o0
  have i1 : w32 1 = 1 := rfl
  cases ex : ixo n x with
  | none =>
    refine ⟨hp, hX0, Kx_refl hp, fun R => ?_⟩
    rw [an1_n ex]
    rw [callD_k]; simp only [entL_i, entL_l, entL_q, entL_s, entL_nil, n_X10_rotate, u_X10_rotate, m_X10_rotate, rep_1, List.cons_append, List.nil_append, List.append_nil, List.length_cons, List.length_nil, Nat.reduceAdd, true_and]
    simp only [AW_k, AWk_1, x_aload_0, x_aloads_0, x_getf, x_iload_1, x_callv_2, x_istore_4, x_iload_4, x_if_lt, x_iload_2, x_iload_3, x_push_i, x_push_l, x_icmp_le, x_ret, x_ret_i, x_ret_z, x_ret_l, x_ret_c, x_callv_5, x_icmp_ge, x_iald, x_ialds, x_goto, unl_i, unl_l, unl_q, unl_r, unl_s, unl_n, k_X10_rotate_0, k_X10_rotate_1, k_X10_rotate_2, k_X10_rotate_3, k_X10_rotate_4, k_X10_rotate_5, k_X10_rotate_6, k_X10_rotate_7, k_X10_rotate_8, k_X10_rotate_9, k_X10_rotate_10, k_X10_rotate_11, k_X10_rotate_12, k_X10_rotate_13, k_X10_rotate_14, k_X10_rotate_15, k_X10_rotate_16, k_X10_rotate_17, k_X10_rotate_18, k_X10_rotate_19, k_X10_rotate_20, k_X10_rotate_21, k_X10_rotate_22, k_X10_rotate_23, k_X10_rotate_24, k_X10_rotate_25, k_X10_rotate_26, k_X10_rotate_27, k_X10_rotate_28, k_X10_rotate_29, k_X10_rotate_30, k_X10_rotate_31, k_X10_rotate_32, k_X10_rotate_33, k_X10_rotate_34, k_X10_rotate_35, k_X10_rotate_36, k_X10_rotate_37, k_X10_rotate_38, oE_some, Int.reduceToNat, Nat.reduceAdd, true_and, and_true, List.length_cons, List.length_nil, Option.toList_some, Option.toList_none, List.cons_append, List.nil_append, Nat.reduceLeDiff, Nat.le_refl, wdS_nil, wdS_i, wdS_l, wdS_r, wdS_n, wdS_s, o1, cR, find_n (d + 98) hR hx ex, wN, ↓reduceIte]
  | some i =>
    have hi := ixo_lt ex
    have bi : i < 2147483648 := by omega
    rw [an1_s ex]
    unfold roW
    by_cases hin : 0 ≤ k ∧ 0 ≤ w ∧ w ≤ 1
    · rw [if_pos hin]
      obtain ⟨h', l', st, q, u1, u2, u3, u4, u5⟩ := findN (d + 96) hX0 hR (tb_w q1.2.1 (by omega)) hi hin.2
      have n0 : (k < 0) = False := eq_false (by omega)
      have n1 : (w < 0) = False := eq_false (by omega)
      have n2 : (1 < w) = False := eq_false (by omega)
      obtain ⟨l0, st0, q0', hW⟩ := q4
      have c10 := gC_of hW.1.1
      have hb : (nrW n G w i).length ≤ 6 ∧ ∀ y ∈ nrW n G w i, y < FC n := nrW_ok h1 h6 hi
      have bl : (nrW n G w i).length < 2147483648 := by omega
      refine ⟨h', u1, Kx_Fr u3 (by omega), fun R => ?_⟩
      have hR' := RWS_Fr hR u3 (by have := tb_w (a := 10) q1.2.1 (show 14 ≤ 37 by omega); omega)
      have p1 : gF h' 0 10 1 = some (mR ra) := by rw [gF_Fr u3 (by omega), o1]
      have p6 : gF h' 0 10 6 = some (mR 10) := by rw [gF_Fr u3 (by omega), o6]
      have g0 := u2.1.1
      have a1 := u2.2.1
      rw [callD_k]; simp only [entL_i, entL_l, entL_q, entL_s, entL_nil, n_X10_rotate, u_X10_rotate, m_X10_rotate, rep_1, List.cons_append, List.nil_append, List.append_nil, List.length_cons, List.length_nil, Nat.reduceAdd, true_and]
      simp only [AW_k, AWk_1, x_aload_0, x_aloads_0, x_getf, x_iload_1, x_callv_2, x_istore_4, x_iload_4, x_if_lt, x_iload_2, x_iload_3, x_push_i, x_push_l, x_icmp_le, x_ret, x_ret_i, x_ret_z, x_ret_l, x_ret_c, x_callv_5, x_icmp_ge, unl_i, unl_l, unl_q, unl_r, unl_s, unl_n, k_X10_rotate_0, k_X10_rotate_1, k_X10_rotate_2, k_X10_rotate_3, k_X10_rotate_4, k_X10_rotate_5, k_X10_rotate_6, k_X10_rotate_7, k_X10_rotate_8, k_X10_rotate_9, k_X10_rotate_10, k_X10_rotate_11, k_X10_rotate_12, k_X10_rotate_13, k_X10_rotate_14, k_X10_rotate_15, k_X10_rotate_16, k_X10_rotate_17, k_X10_rotate_18, k_X10_rotate_19, k_X10_rotate_20, k_X10_rotate_21, k_X10_rotate_22, k_X10_rotate_23, k_X10_rotate_24, k_X10_rotate_25, k_X10_rotate_26, oE_some, Int.reduceToNat, Nat.reduceAdd, true_and, and_true, List.length_cons, List.length_nil, Option.toList_some, Option.toList_none, List.cons_append, List.nil_append, Nat.reduceLeDiff, Nat.le_refl, wdS_nil, wdS_i, wdS_l, wdS_r, wdS_n, wdS_s, o1, o2, o6, cR, c10, find_s (d + 98) hR hx ex, wI bi, hw, hk, i1, n0, n1, n2, u5, w32_nat bl, ↓reduceIte]
      by_cases c : k < ((nrW n G w i).length : Int)
      · obtain ⟨k2, ek⟩ : ∃ k2 : Nat, k = (k2 : Int) := ⟨k.toNat, by omega⟩
        subst ek
        have hk2 : k2 < (nrW n G w i).length := by omega
        have hm : (nrW n G w i).getD k2 0 ∈ nrW n G w i := by
          rw [List.getD_eq_getElem?_getD, List.getElem?_eq_getElem hk2]
          exact List.getElem_mem _
        have hj := hb.2 _ hm
        have eg : l'.getD k2 0 = (((nrW n G w i).getD k2 0 : Nat) : Int) := u4 k2 hk2
        have b2 : k2 < 2147483648 := by omega
        have l6 : inB (k2 : Int) l'.length := by rw [u2.2.2.2.2.1]; exact inB_n (by omega) (by decide)
        rw [if_pos c, if_pos c, Int.toNat_natCast]
        simp only [AW_k, AWk_1, x_aload_0, x_aloads_0, x_getf, x_iload_2, x_iald, x_ialds, x_goto, x_push_i, x_push_l, x_ret, x_ret_i, x_ret_z, x_ret_l, x_ret_c, k_X10_rotate_27, k_X10_rotate_28, k_X10_rotate_29, k_X10_rotate_30, k_X10_rotate_31, k_X10_rotate_32, k_X10_rotate_33, k_X10_rotate_34, k_X10_rotate_35, k_X10_rotate_36, k_X10_rotate_37, k_X10_rotate_38, oE_some, Int.reduceToNat, Nat.reduceAdd, true_and, and_true, List.length_cons, List.length_nil, Option.toList_some, Option.toList_none, List.cons_append, List.nil_append, Nat.reduceLeDiff, Nat.le_refl, wdS_nil, wdS_i, wdS_l, wdS_r, wdS_n, wdS_s, p1, p6, rw_nums hR', rA_10 hR', g0, a1, l6, w32_tn b2, eg, bI rfl hj (FC_31 n), gI rfl hj (FC_31 n)]
      · rw [if_neg c, if_neg c]
        simp only [AW_k, AWk_1, x_push_i, x_push_l, x_ret, x_ret_i, x_ret_z, x_ret_l, x_ret_c, k_X10_rotate_37, k_X10_rotate_38, oE_some, Int.reduceToNat, Nat.reduceAdd, true_and, and_true, List.length_cons, List.length_nil, Option.toList_some, Option.toList_none, List.cons_append, List.nil_append, Nat.reduceLeDiff, Nat.le_refl, wdS_nil, wdS_i, wdS_l, wdS_r, wdS_n, wdS_s]
    · rw [if_neg hin]
      refine ⟨hp, hX0, Kx_refl hp, fun R => ?_⟩
      rw [callD_k]; simp only [entL_i, entL_l, entL_q, entL_s, entL_nil, n_X10_rotate, u_X10_rotate, m_X10_rotate, rep_1, List.cons_append, List.nil_append, List.append_nil, List.length_cons, List.length_nil, Nat.reduceAdd, true_and]
      simp only [AW_k, AWk_1, x_aload_0, x_aloads_0, x_getf, x_iload_1, x_callv_2, x_istore_4, x_iload_4, x_if_lt, x_iload_2, x_iload_3, x_push_i, x_push_l, x_icmp_le, unl_i, unl_l, unl_q, unl_r, unl_s, unl_n, k_X10_rotate_0, k_X10_rotate_1, k_X10_rotate_2, k_X10_rotate_3, k_X10_rotate_4, k_X10_rotate_5, k_X10_rotate_6, k_X10_rotate_7, k_X10_rotate_8, k_X10_rotate_9, k_X10_rotate_10, k_X10_rotate_11, k_X10_rotate_12, k_X10_rotate_13, oE_some, Int.reduceToNat, Nat.reduceAdd, true_and, and_true, List.length_cons, List.length_nil, Option.toList_some, Option.toList_none, List.cons_append, List.nil_append, Nat.reduceLeDiff, Nat.le_refl, wdS_nil, wdS_i, wdS_l, wdS_r, wdS_n, wdS_s, o1, cR, find_s (d + 98) hR hx ex, wI bi, hw, hk, i1, ↓reduceIte]
      by_cases a0 : k < 0
      · rw [if_pos a0]
        simp only [AW_k, AWk_1, x_push_i, x_push_l, x_ret, x_ret_i, x_ret_z, x_ret_l, x_ret_c, k_X10_rotate_14, k_X10_rotate_15, oE_some, Int.reduceToNat, Nat.reduceAdd, true_and, and_true, List.length_cons, List.length_nil, Option.toList_some, Option.toList_none, List.cons_append, List.nil_append, Nat.reduceLeDiff, Nat.le_refl, wdS_nil, wdS_i, wdS_l, wdS_r, wdS_n, wdS_s]
      · rw [if_neg a0]
        by_cases a1 : w < 0
        · rw [if_pos a1]
          simp only [AW_k, AWk_1, x_push_i, x_push_l, x_ret, x_ret_i, x_ret_z, x_ret_l, x_ret_c, k_X10_rotate_14, k_X10_rotate_15, oE_some, Int.reduceToNat, Nat.reduceAdd, true_and, and_true, List.length_cons, List.length_nil, Option.toList_some, Option.toList_none, List.cons_append, List.nil_append, Nat.reduceLeDiff, Nat.le_refl, wdS_nil, wdS_i, wdS_l, wdS_r, wdS_n, wdS_s]
        · rw [if_neg a1, if_pos (by omega)]
          simp only [AW_k, AWk_1, x_push_i, x_push_l, x_ret, x_ret_i, x_ret_z, x_ret_l, x_ret_c, k_X10_rotate_14, k_X10_rotate_15, oE_some, Int.reduceToNat, Nat.reduceAdd, true_and, and_true, List.length_cons, List.length_nil, Option.toList_some, Option.toList_none, List.cons_append, List.nil_append, Nat.reduceLeDiff, Nat.le_refl, wdS_nil, wdS_i, wdS_l, wdS_r, wdS_n, wdS_s]
set_option maxHeartbeats 16000000 in
theorem x10_apart (d : Nat) {hp : HP} {n : Nat} {G : BitVec 64} {z : Int} {c : Nat} {ks : List Int} {es : List Int} {ik : Bool} {kn : Nat} {kG : BitVec 64} {kz : Int} {kc : Nat} {kks : List Int} {kes : List Int} {tc : Nat} {tb : List Int} {sc : Nat} {tl : List Int} {so : List Int} {le : List Int} {it : Nat → List (BitVec 64)} {he : List Int} {th : List Int} {sl : List Int} {tr : Nat} {bo : List Int} {x y : Int} (hX : XI hp n G z c ks es ik kn kG kz kc kks kes tc tb sc tl so le it he th sl tr bo) (hx : w32 x = x) (hy : w32 y = y) : ∃ h', XI h' n G z c ks es ik kn kG kz kc kks kes tc tb sc tl so le it he th sl tr bo ∧ Kx hp h' ∧ ∀ R : PO, callD (d + 100) 131 [mR 0, mI x, mI y] hp R ↔ R (some (mI (an2 n x y (fun i j => if n ≤ 5 then apt n G i j else -4)))) h' := by
  have hX0 := hX
  obtain ⟨ra, ts, q0, q1, q2, q3, q4, q5, q6, q7, q8, q9, q10, q11, qk⟩ := hX
  have hR := q1.1
  have h1 := rw_1 hR
  have h6 := rw_6 hR
  have f1 := FC_le n
  have cR := rC0 hR
  have cA := rC1 hR
  have o0 : gF hp 0 10 0 = some (mR 1) := XO_F q0 0
  have o1 : gF hp 0 10 1 = some (mR ra) := XO_F q0 1
  have o2 : gF hp 0 10 2 = some (mL G) := XO_F q0 2
  have o3 : gF hp 0 10 3 = some (mI z) := XO_F q0 3
  have o4 : gF hp 0 10 4 = some (mR 2) := XO_F q0 4
  have o5 : gF hp 0 10 5 = some (mR 5) := XO_F q0 5
  have o6 : gF hp 0 10 6 = some (mR 10) := XO_F q0 6
  have o7 : gF hp 0 10 7 = some (mR 14) := XO_F q0 7
  have o8 : gF hp 0 10 8 = some (mR 17) := XO_F q0 8
  have o9 : gF hp 0 10 9 = some (mR 19) := XO_F q0 9
  have o10 : gF hp 0 10 10 = some (mR 27) := XO_F q0 10
  have o11 : gF hp 0 10 11 = some (mR 31) := XO_F q0 11
  have o12 : gF hp 0 10 12 = some (mR 33) := XO_F q0 12
  have o13 : gF hp 0 10 13 = some (mI (zI ik)) := XO_F q0 13
  have o14 : gF hp 0 10 14 = some (mI (kn : Int)) := XO_F q0 14
  have o15 : gF hp 0 10 15 = some (mL kG) := XO_F q0 15
  have o16 : gF hp 0 10 16 = some (mI kz) := XO_F q0 16
  have o17 : gF hp 0 10 17 = some (mR 34) := XO_F q0 17
  have cO := gC_of o0
  have i5 : w32 5 = 5 := rfl
  have bn : n < 2147483648 := by omega
  cases ex : ixo n x with
  | none =>
    refine ⟨hp, hX0, Kx_refl hp, fun R => ?_⟩
    rw [an2_n ex]
    rw [callD_k]; simp only [entL_i, entL_l, entL_q, entL_s, entL_nil, n_X10_apart, u_X10_apart, m_X10_apart, rep_2, List.cons_append, List.nil_append, List.append_nil, List.length_cons, List.length_nil, Nat.reduceAdd, true_and]
    simp only [AW_k, AWk_1, x_aload_0, x_aloads_0, x_getf, x_iload_1, x_callv_2, x_istore_3, x_iload_2, x_istore_4, x_iload_3, x_if_lt, x_iload_4, x_if_ge, x_push_i, x_push_l, x_ret, x_ret_i, x_ret_z, x_ret_l, x_ret_c, x_icmp_le, x_callv_5, unl_i, unl_l, unl_q, unl_r, unl_s, unl_n, k_X10_apart_0, k_X10_apart_1, k_X10_apart_2, k_X10_apart_3, k_X10_apart_4, k_X10_apart_5, k_X10_apart_6, k_X10_apart_7, k_X10_apart_8, k_X10_apart_9, k_X10_apart_10, k_X10_apart_11, k_X10_apart_12, k_X10_apart_13, k_X10_apart_14, k_X10_apart_15, k_X10_apart_16, k_X10_apart_17, k_X10_apart_18, k_X10_apart_19, k_X10_apart_20, k_X10_apart_21, k_X10_apart_22, k_X10_apart_23, k_X10_apart_24, k_X10_apart_25, k_X10_apart_26, k_X10_apart_27, k_X10_apart_28, k_X10_apart_29, k_X10_apart_30, k_X10_apart_31, k_X10_apart_32, oE_some, Int.reduceToNat, Nat.reduceAdd, true_and, and_true, List.length_cons, List.length_nil, Option.toList_some, Option.toList_none, List.cons_append, List.nil_append, Nat.reduceLeDiff, Nat.le_refl, wdS_nil, wdS_i, wdS_l, wdS_r, wdS_n, wdS_s, o1, cR, find_n (d + 98) hR hx ex, c4_find (d + 98) hR hy, wN, ↓reduceIte]
  | some i =>
    have hi := ixo_lt ex
    have bi : i < 2147483648 := by omega
    cases ey : ixo n y with
    | none =>
      refine ⟨hp, hX0, Kx_refl hp, fun R => ?_⟩
      rw [an2_m ex ey]
      rw [callD_k]; simp only [entL_i, entL_l, entL_q, entL_s, entL_nil, n_X10_apart, u_X10_apart, m_X10_apart, rep_2, List.cons_append, List.nil_append, List.append_nil, List.length_cons, List.length_nil, Nat.reduceAdd, true_and]
      simp only [AW_k, AWk_1, x_aload_0, x_aloads_0, x_getf, x_iload_1, x_callv_2, x_istore_3, x_iload_2, x_istore_4, x_iload_3, x_if_lt, x_iload_4, x_if_ge, x_push_i, x_push_l, x_ret, x_ret_i, x_ret_z, x_ret_l, x_ret_c, x_icmp_le, x_callv_5, unl_i, unl_l, unl_q, unl_r, unl_s, unl_n, k_X10_apart_0, k_X10_apart_1, k_X10_apart_2, k_X10_apart_3, k_X10_apart_4, k_X10_apart_5, k_X10_apart_6, k_X10_apart_7, k_X10_apart_8, k_X10_apart_9, k_X10_apart_10, k_X10_apart_11, k_X10_apart_12, k_X10_apart_13, k_X10_apart_14, k_X10_apart_15, k_X10_apart_16, k_X10_apart_17, k_X10_apart_18, k_X10_apart_19, k_X10_apart_20, k_X10_apart_21, k_X10_apart_22, k_X10_apart_23, k_X10_apart_24, k_X10_apart_25, k_X10_apart_26, k_X10_apart_27, k_X10_apart_28, k_X10_apart_29, k_X10_apart_30, k_X10_apart_31, k_X10_apart_32, oE_some, Int.reduceToNat, Nat.reduceAdd, true_and, and_true, List.length_cons, List.length_nil, Option.toList_some, Option.toList_none, List.cons_append, List.nil_append, Nat.reduceLeDiff, Nat.le_refl, wdS_nil, wdS_i, wdS_l, wdS_r, wdS_n, wdS_s, o1, cR, find_s (d + 98) hR hx ex, find_n (d + 98) hR hy ey, wN, wI bi, ↓reduceIte]
    | some j =>
      have hj := ixo_lt ey
      have bj : j < 2147483648 := by omega
      rw [an2_s ex ey]
      obtain ⟨l0, st0, q0', hW⟩ := q4
      have c10 := gC_of hW.1.1
      by_cases h5 : n ≤ 5
      · rw [if_pos h5]
        have n1 : (5 < (n : Int)) = False := eq_false (by omega)
        obtain ⟨h', l', st', q', u1, u2, u3⟩ := c9_stepsBetween (d + 95) (G := G) hR hW h5 hi hj (tb_w q1.2.1 (by omega))
        refine ⟨h', XI_W hX0 u2 ⟨_, _, _, u1⟩, Kx_Fr u2 (by omega), fun R => ?_⟩
        rw [callD_k]; simp only [entL_i, entL_l, entL_q, entL_s, entL_nil, n_X10_apart, u_X10_apart, m_X10_apart, rep_2, List.cons_append, List.nil_append, List.append_nil, List.length_cons, List.length_nil, Nat.reduceAdd, true_and]
        simp only [AW_k, AWk_1, x_aload_0, x_aloads_0, x_getf, x_iload_1, x_callv_2, x_istore_3, x_iload_2, x_istore_4, x_iload_3, x_if_lt, x_iload_4, x_if_ge, x_push_i, x_push_l, x_ret, x_ret_i, x_ret_z, x_ret_l, x_ret_c, x_icmp_le, x_callv_5, unl_i, unl_l, unl_q, unl_r, unl_s, unl_n, k_X10_apart_0, k_X10_apart_1, k_X10_apart_2, k_X10_apart_3, k_X10_apart_4, k_X10_apart_5, k_X10_apart_6, k_X10_apart_7, k_X10_apart_8, k_X10_apart_9, k_X10_apart_10, k_X10_apart_11, k_X10_apart_12, k_X10_apart_13, k_X10_apart_14, k_X10_apart_15, k_X10_apart_16, k_X10_apart_17, k_X10_apart_18, k_X10_apart_19, k_X10_apart_20, k_X10_apart_21, k_X10_apart_22, k_X10_apart_23, k_X10_apart_24, k_X10_apart_25, k_X10_apart_26, k_X10_apart_27, k_X10_apart_28, k_X10_apart_29, k_X10_apart_30, k_X10_apart_31, k_X10_apart_32, oE_some, Int.reduceToNat, Nat.reduceAdd, true_and, and_true, List.length_cons, List.length_nil, Option.toList_some, Option.toList_none, List.cons_append, List.nil_append, Nat.reduceLeDiff, Nat.le_refl, wdS_nil, wdS_i, wdS_l, wdS_r, wdS_n, wdS_s, o1, o2, o6, cR, c10, rw_n hR, find_s (d + 98) hR hx ex, find_s (d + 98) hR hy ey, wI bi, wI bj, i5, w32_nat bn, n1, u3, ↓reduceIte]
      · rw [if_neg h5]
        have n1 : (5 < (n : Int)) = True := eq_true (by omega)
        refine ⟨hp, hX0, Kx_refl hp, fun R => ?_⟩
        rw [callD_k]; simp only [entL_i, entL_l, entL_q, entL_s, entL_nil, n_X10_apart, u_X10_apart, m_X10_apart, rep_2, List.cons_append, List.nil_append, List.append_nil, List.length_cons, List.length_nil, Nat.reduceAdd, true_and]
        simp only [AW_k, AWk_1, x_aload_0, x_aloads_0, x_getf, x_iload_1, x_callv_2, x_istore_3, x_iload_2, x_istore_4, x_iload_3, x_if_lt, x_iload_4, x_if_ge, x_push_i, x_push_l, x_ret, x_ret_i, x_ret_z, x_ret_l, x_ret_c, x_icmp_le, x_callv_5, unl_i, unl_l, unl_q, unl_r, unl_s, unl_n, k_X10_apart_0, k_X10_apart_1, k_X10_apart_2, k_X10_apart_3, k_X10_apart_4, k_X10_apart_5, k_X10_apart_6, k_X10_apart_7, k_X10_apart_8, k_X10_apart_9, k_X10_apart_10, k_X10_apart_11, k_X10_apart_12, k_X10_apart_13, k_X10_apart_14, k_X10_apart_15, k_X10_apart_16, k_X10_apart_17, k_X10_apart_18, k_X10_apart_19, k_X10_apart_20, k_X10_apart_21, k_X10_apart_22, k_X10_apart_23, k_X10_apart_24, k_X10_apart_25, k_X10_apart_26, k_X10_apart_27, k_X10_apart_28, k_X10_apart_29, k_X10_apart_30, k_X10_apart_31, k_X10_apart_32, oE_some, Int.reduceToNat, Nat.reduceAdd, true_and, and_true, List.length_cons, List.length_nil, Option.toList_some, Option.toList_none, List.cons_append, List.nil_append, Nat.reduceLeDiff, Nat.le_refl, wdS_nil, wdS_i, wdS_l, wdS_r, wdS_n, wdS_s, o1, o2, o6, cR, c10, rw_n hR, find_s (d + 98) hR hx ex, find_s (d + 98) hR hy ey, wI bi, wI bj, i5, w32_nat bn, n1, ↓reduceIte]
