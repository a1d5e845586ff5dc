/-! ===== the class's own methods: ways up, the list, closed sets ===== -/
theorem upB_congr {st s2 : List Int} {most : Bool} : ∀ {ns : List Nat} {b : Int}, (∀ y ∈ ns, st.getD y 0 = s2.getD y 0) → upB st most ns b = upB s2 most ns b := by
  intro ns
  induction ns with
  | nil => intro b _; rfl
  | cons x ns ih =>
    intro b h
    rw [upB_cons, upB_cons, h x (List.mem_cons_self ..)]
    exact ih (fun y hy => h y (List.mem_cons_of_mem _ hy))
theorem suL_ind {n : Nat} {G : BitVec 64} {most : Bool} {s0 s1 : List Int} (l0 : s0.length = 120) (l1 : s1.length = 120) (hN : nrOK n G) (h5 : FC n ≤ 120) : ∀ k, k < FC n → ∀ y, y ≤ k → isL n G y = true → (suL n G most s0 k).getD y 0 = (suL n G most s1 k).getD y 0 := by
  intro k
  induction k with
  | zero =>
    intro _ y hy _
    have e : y = 0 := by omega
    subst e
    show (s0.set 0 0).getD 0 0 = (s1.set 0 0).getD 0 0
    rw [getD_set (by omega), getD_set (by omega), if_pos rfl, if_pos rfl]
  | succ k ih =>
    intro hk y hy hyL
    rw [suL_succ, suL_succ]
    by_cases hL : isL n G (k + 1) = true
    · rw [if_pos hL, if_pos hL, getD_set (by rw [suL_len]; omega), getD_set (by rw [suL_len]; omega)]
      by_cases e : k + 1 = y
      · rw [if_pos e, if_pos e]
        exact upB_congr (fun x hx => by
          obtain ⟨a1, a2⟩ := (hN (k + 1) hk hL).1 x hx
          exact ih (by omega) x (by omega) a2)
      · rw [if_neg e, if_neg e]
        exact ih (by omega) y (by omega) hyL
    · rw [if_neg hL, if_neg hL]
      have : y ≠ k + 1 := fun e => hL (by rw [← e]; exact hyL)
      exact ih (by omega) y (by omega) hyL
/-- the ways up, told without what lay there -/
def wuV (n : Nat) (G : BitVec 64) (most : Bool) : Int := (suL n G most (List.replicate 120 0) (FC n - 1)).getD (lst n G (FC n - 1)) 0
def wuA (n : Nat) (G : BitVec 64) (w : Int) : Int := if 0 ≤ w ∧ w ≤ 1 then (if n ≤ 5 then wuV n G (decide (w = 0)) else -4) else -1
theorem FC_120 {n : Nat} (h1 : 1 ≤ n) (h5 : n ≤ 5) : FC n ≤ 120 := by
  rcases (show n = 1 ∨ n = 2 ∨ n = 3 ∨ n = 4 ∨ n = 5 by omega) with e | e | e | e | e <;> subst e <;> decide
set_option maxHeartbeats 16000000 in
theorem x10_wayUp (d : Nat) {hp : HP} {n : Nat} {G : BitVec 64} {z : Int} {c : Nat} {ks : List Int} {es : List Int} {ik : Bool} {kn : Nat} {kG : BitVec 64} {kz : Int} {kc : Nat} {kks : List Int} {kes : List Int} {tc : Nat} {tb : List Int} {sc : Nat} {tl : List Int} {so : List Int} {le : List Int} {it : Nat → List (BitVec 64)} {he : List Int} {th : List Int} {sl : List Int} {tr : Nat} {bo : List Int} {w : Int} (hX : XI hp n G z c ks es ik kn kG kz kc kks kes tc tb sc tl so le it he th sl tr bo) (hw : w32 w = w) (hN : n ≤ 5 → nrOK n G) (hL : isL n G (lst n G (FC n - 1)) = true) : ∃ h', XI h' n G z c ks es ik kn kG kz kc kks kes tc tb sc tl so le it he th sl tr bo ∧ Kx hp h' ∧ ∀ R : PO, callD (d + 100) 132 [mR 0, mI w] hp R ↔ R (some (mI (wuA n G w))) h' := by
  have hX0 := hX
  obtain ⟨ra, ts, q0, q1, q2, q3, q4, q5, q6, q7, q8, q9, q10, q11, qk⟩ := hX
  have hR := q1.1
  have h1 := rw_1 hR
  have h6 := rw_6 hR
  have f1 := FC_le n
  have cR := rC0 hR
  have cA := rC1 hR
  have o0 : gF hp 0 10 0 = some (mR 1) := XO_F q0 0
  have o1 : gF hp 0 10 1 = some (mR ra) := XO_F q0 1
  have o2 : gF hp 0 10 2 = some (mL G) := XO_F q0 2
  have o3 : gF hp 0 10 3 = some (mI z) := XO_F q0 3
  have o4 : gF hp 0 10 4 = some (mR 2) := XO_F q0 4
  have o5 : gF hp 0 10 5 = some (mR 5) := XO_F q0 5
  have o6 : gF hp 0 10 6 = some (mR 10) := XO_F q0 6
  have o7 : gF hp 0 10 7 = some (mR 14) := XO_F q0 7
  have o8 : gF hp 0 10 8 = some (mR 17) := XO_F q0 8
  have o9 : gF hp 0 10 9 = some (mR 19) := XO_F q0 9
  have o10 : gF hp 0 10 10 = some (mR 27) := XO_F q0 10
  have o11 : gF hp 0 10 11 = some (mR 31) := XO_F q0 11
  have o12 : gF hp 0 10 12 = some (mR 33) := XO_F q0 12
  have o13 : gF hp 0 10 13 = some (mI (zI ik)) := XO_F q0 13
  have o14 : gF hp 0 10 14 = some (mI (kn : Int)) := XO_F q0 14
  have o15 : gF hp 0 10 15 = some (mL kG) := XO_F q0 15
  have o16 : gF hp 0 10 16 = some (mI kz) := XO_F q0 16
  have o17 : gF hp 0 10 17 = some (mR 34) := XO_F q0 17
  have cO := gC_of o0
  have i1 : w32 1 = 1 := rfl
  have i5 : w32 5 = 5 := rfl
  have bn : n < 2147483648 := by omega
  unfold wuA
  by_cases hin : 0 ≤ w ∧ w ≤ 1
  · rw [if_pos hin]
    have n1 : (w < 0) = False := eq_false (by omega)
    have n2 : (1 < w) = False := eq_false (by omega)
    obtain ⟨l0, st0, q0', hW⟩ := q4
    have c10 := gC_of hW.1.1
    by_cases h5 : n ≤ 5
    · rw [if_pos h5]
      have n3 : (5 < (n : Int)) = False := eq_false (by omega)
      have hF := FC_120 h1 h5
      have hF0 := FC_pos h1 h6
      obtain ⟨h', l', st', q', u1, u2, u3⟩ := c9_stepsUp (d + 95) (G := G) (most := decide (w = 0)) hR hW h5 (hN h5) (tb_w q1.2.1 (by omega))
      have hl : lst n G (FC n - 1) < FC n := lst_ok h1 h6 (by omega)
      have ev : (suL n G (decide (w = 0)) st0 (FC n - 1)).getD (lst n G (FC n - 1)) 0 = wuV n G (decide (w = 0)) := suL_ind hW.2.2.2.2.2.1 List.length_replicate (hN h5) hF (FC n - 1) (by omega) _ (by omega) hL
      rw [ev] at u3
      refine ⟨h', XI_W hX0 u2 ⟨_, _, _, u1⟩, Kx_Fr u2 (by omega), fun R => ?_⟩
      rcases (show w = 0 ∨ w = 1 by omega) with e | e
      · subst e
        have u3' : ∀ R : PO, callD (d + 99) 97 [mR 10, mR ra, mL G, mI 1] hp R ↔ R (some (mI (wuV n G true))) h' := u3
        rw [callD_k]; simp only [entL_i, entL_l, entL_q, entL_s, entL_nil, n_X10_wayUp, u_X10_wayUp, m_X10_wayUp, rep_0, List.cons_append, List.nil_append, List.append_nil, List.length_cons, List.length_nil, Nat.reduceAdd, true_and]
        simp only [AW_k, AWk_1, x_iload_1, x_if_lt, x_push_i, x_push_l, x_icmp_le, x_ret, x_ret_i, x_ret_z, x_ret_l, x_ret_c, x_aload_0, x_aloads_0, x_getf, x_goto, x_if_ne, x_callv_4, k_X10_wayUp_0, k_X10_wayUp_1, k_X10_wayUp_2, k_X10_wayUp_3, k_X10_wayUp_4, k_X10_wayUp_5, k_X10_wayUp_6, k_X10_wayUp_7, k_X10_wayUp_8, k_X10_wayUp_9, k_X10_wayUp_10, k_X10_wayUp_11, k_X10_wayUp_12, k_X10_wayUp_13, k_X10_wayUp_14, k_X10_wayUp_15, k_X10_wayUp_16, k_X10_wayUp_17, k_X10_wayUp_18, k_X10_wayUp_19, k_X10_wayUp_20, k_X10_wayUp_21, k_X10_wayUp_22, k_X10_wayUp_23, k_X10_wayUp_24, k_X10_wayUp_25, k_X10_wayUp_26, oE_some, Int.reduceToNat, Nat.reduceAdd, true_and, and_true, List.length_cons, List.length_nil, Option.toList_some, Option.toList_none, List.cons_append, List.nil_append, Nat.reduceLeDiff, Nat.le_refl, wdS_nil, wdS_i, wdS_l, wdS_r, wdS_n, wdS_s, o1, o2, o6, rw_n hR, c10, hw, i1, i5, n1, n2, n3, w32_nat bn, u3', wz0, w00, w10, ↓reduceIte]
        exact Iff.rfl
      · subst e
        have u3' : ∀ R : PO, callD (d + 99) 97 [mR 10, mR ra, mL G, mI 0] hp R ↔ R (some (mI (wuV n G false))) h' := u3
        rw [callD_k]; simp only [entL_i, entL_l, entL_q, entL_s, entL_nil, n_X10_wayUp, u_X10_wayUp, m_X10_wayUp, rep_0, List.cons_append, List.nil_append, List.append_nil, List.length_cons, List.length_nil, Nat.reduceAdd, true_and]
        simp only [AW_k, AWk_1, x_iload_1, x_if_lt, x_push_i, x_push_l, x_icmp_le, x_ret, x_ret_i, x_ret_z, x_ret_l, x_ret_c, x_aload_0, x_aloads_0, x_getf, x_goto, x_if_ne, x_callv_4, k_X10_wayUp_0, k_X10_wayUp_1, k_X10_wayUp_2, k_X10_wayUp_3, k_X10_wayUp_4, k_X10_wayUp_5, k_X10_wayUp_6, k_X10_wayUp_7, k_X10_wayUp_8, k_X10_wayUp_9, k_X10_wayUp_10, k_X10_wayUp_11, k_X10_wayUp_12, k_X10_wayUp_13, k_X10_wayUp_14, k_X10_wayUp_15, k_X10_wayUp_16, k_X10_wayUp_17, k_X10_wayUp_18, k_X10_wayUp_19, k_X10_wayUp_20, k_X10_wayUp_21, k_X10_wayUp_22, k_X10_wayUp_23, k_X10_wayUp_24, k_X10_wayUp_25, k_X10_wayUp_26, oE_some, Int.reduceToNat, Nat.reduceAdd, true_and, and_true, List.length_cons, List.length_nil, Option.toList_some, Option.toList_none, List.cons_append, List.nil_append, Nat.reduceLeDiff, Nat.le_refl, wdS_nil, wdS_i, wdS_l, wdS_r, wdS_n, wdS_s, o1, o2, o6, rw_n hR, c10, hw, i1, i5, n1, n2, n3, w32_nat bn, u3', wz0, w00, w10, Int.reduceEq, ↓reduceIte]
        exact Iff.rfl
    · rw [if_neg h5]
      have n3 : (5 < (n : Int)) = True := eq_true (by omega)
      refine ⟨hp, hX0, Kx_refl hp, fun R => ?_⟩
      rw [callD_k]; simp only [entL_i, entL_l, entL_q, entL_s, entL_nil, n_X10_wayUp, u_X10_wayUp, m_X10_wayUp, rep_0, List.cons_append, List.nil_append, List.append_nil, List.length_cons, List.length_nil, Nat.reduceAdd, true_and]
      simp only [AW_k, AWk_1, x_iload_1, x_if_lt, x_push_i, x_push_l, x_icmp_le, x_ret, x_ret_i, x_ret_z, x_ret_l, x_ret_c, x_aload_0, x_aloads_0, x_getf, x_goto, x_if_ne, x_callv_4, k_X10_wayUp_0, k_X10_wayUp_1, k_X10_wayUp_2, k_X10_wayUp_3, k_X10_wayUp_4, k_X10_wayUp_5, k_X10_wayUp_6, k_X10_wayUp_7, k_X10_wayUp_8, k_X10_wayUp_9, k_X10_wayUp_10, k_X10_wayUp_11, k_X10_wayUp_12, k_X10_wayUp_13, k_X10_wayUp_14, k_X10_wayUp_15, k_X10_wayUp_16, k_X10_wayUp_17, k_X10_wayUp_18, k_X10_wayUp_19, k_X10_wayUp_20, k_X10_wayUp_21, k_X10_wayUp_22, k_X10_wayUp_23, k_X10_wayUp_24, k_X10_wayUp_25, k_X10_wayUp_26, oE_some, Int.reduceToNat, Nat.reduceAdd, true_and, and_true, List.length_cons, List.length_nil, Option.toList_some, Option.toList_none, List.cons_append, List.nil_append, Nat.reduceLeDiff, Nat.le_refl, wdS_nil, wdS_i, wdS_l, wdS_r, wdS_n, wdS_s, o1, rw_n hR, hw, i1, i5, n1, n2, n3, w32_nat bn, ↓reduceIte]
  · rw [if_neg hin]
    refine ⟨hp, hX0, Kx_refl hp, fun R => ?_⟩
    rw [callD_k]; simp only [entL_i, entL_l, entL_q, entL_s, entL_nil, n_X10_wayUp, u_X10_wayUp, m_X10_wayUp, rep_0, List.cons_append, List.nil_append, List.append_nil, List.length_cons, List.length_nil, Nat.reduceAdd, true_and]
    simp only [AW_k, AWk_1, x_iload_1, x_if_lt, x_push_i, x_push_l, x_icmp_le, k_X10_wayUp_0, k_X10_wayUp_1, k_X10_wayUp_2, k_X10_wayUp_3, k_X10_wayUp_4, oE_some, Int.reduceToNat, Nat.reduceAdd, true_and, and_true, List.length_cons, List.length_nil, Option.toList_some, Option.toList_none, List.cons_append, List.nil_append, Nat.reduceLeDiff, Nat.le_refl, wdS_nil, wdS_i, wdS_l, wdS_r, wdS_n, wdS_s, hw, i1]
    by_cases a1 : w < 0
    · rw [if_pos a1]
      simp only [AW_k, AWk_1, x_push_i, x_push_l, x_ret, x_ret_i, x_ret_z, x_ret_l, x_ret_c, k_X10_wayUp_5, k_X10_wayUp_6, oE_some, Int.reduceToNat, Nat.reduceAdd, true_and, and_true, List.length_cons, List.length_nil, Option.toList_some, Option.toList_none, List.cons_append, List.nil_append, Nat.reduceLeDiff, Nat.le_refl, wdS_nil, wdS_i, wdS_l, wdS_r, wdS_n, wdS_s]
    · rw [if_neg a1, if_pos (by omega)]
      simp only [AW_k, AWk_1, x_push_i, x_push_l, x_ret, x_ret_i, x_ret_z, x_ret_l, x_ret_c, k_X10_wayUp_5, k_X10_wayUp_6, oE_some, Int.reduceToNat, Nat.reduceAdd, true_and, and_true, List.length_cons, List.length_nil, Option.toList_some, Option.toList_none, List.cons_append, List.nil_append, Nat.reduceLeDiff, Nat.le_refl, wdS_nil, wdS_i, wdS_l, wdS_r, wdS_n, wdS_s]
theorem lsP_bd {n : Nat} {G : BitVec 64} (h1 : 1 ≤ n) (h6 : n ≤ 6) : ∀ f nx acc, (∀ x, nx = some x → x < FC n) → (∀ y ∈ acc, y < FC n) → (∀ y ∈ lsP n G f nx acc, y < FC n) ∧ (lsP n G f nx acc).length ≤ acc.length + f := by
  intro f
  induction f with
  | zero => intro nx acc _ ha; exact ⟨ha, Nat.le_refl _⟩
  | succ f ih =>
    intro nx acc hx ha
    cases nx with
    | none => rw [lsP_none]; exact ⟨ha, by omega⟩
    | some x =>
      rw [lsP_some]
      have hx2 := hx x rfl
      have := ih (nbF n G x (fun y => decide (y ∈ acc ++ [x])) (n - 1)) (acc ++ [x]) (fun y hy => (nbF_ok h1 h6 hx2 hy).1) (fun y hy => by
        rcases List.mem_append.mp hy with e | e
        · exact ha y e
        · rw [List.mem_singleton.mp e]; exact hx2)
      rw [List.length_append, List.length_singleton] at this
      exact ⟨this.1, by omega⟩
theorem LST_bd {n : Nat} {G : BitVec 64} (h1 : 1 ≤ n) (h6 : n ≤ 6) : (∀ y ∈ LST n G, y < FC n) ∧ (LST n G).length ≤ 120 := by
  have := lsP_bd (G := G) h1 h6 120 (some 0) [] (fun x hx => by cases hx; exact FC_pos h1 h6) (fun y hy => by cases hy)
  rw [List.length_nil, Nat.zero_add] at this
  exact this
def liA (n : Nat) (G : BitVec 64) (x : Int) : Int := if 0 ≤ x then (if n ≤ 5 then (if x < ((LST n G).length : Int) then ((num n ((LST n G).getD x.toNat 0) : Nat) : Int) else -3) else -4) else -1
set_option maxHeartbeats 16000000 in
theorem x10_listed (d : Nat) {hp : HP} {n : Nat} {G : BitVec 64} {z : Int} {c : Nat} {ks : List Int} {es : List Int} {ik : Bool} {kn : Nat} {kG : BitVec 64} {kz : Int} {kc : Nat} {kks : List Int} {kes : List Int} {tc : Nat} {tb : List Int} {sc : Nat} {tl : List Int} {so : List Int} {le : List Int} {it : Nat → List (BitVec 64)} {he : List Int} {th : List Int} {sl : List Int} {tr : Nat} {bo : List Int} {x : Int} (hX : XI hp n G z c ks es ik kn kG kz kc kks kes tc tb sc tl so le it he th sl tr bo) (hx : w32 x = x) : ∃ h', XI h' n G z c ks es ik kn kG kz kc kks kes tc tb sc tl so le it he th sl tr bo ∧ Kx hp h' ∧ ∀ R : PO, callD (d + 100) 133 [mR 0, mI x] hp R ↔ R (some (mI (liA n G x))) h' := by
  have hX0 := hX
  obtain ⟨ra, ts, q0, q1, q2, q3, q4, q5, q6, q7, q8, q9, q10, q11, qk⟩ := hX
  have hR := q1.1
  have h1 := rw_1 hR
  have h6 := rw_6 hR
  have f1 := FC_le n
  have cR := rC0 hR
  have cA := rC1 hR
  have o0 : gF hp 0 10 0 = some (mR 1) := XO_F q0 0
  have o1 : gF hp 0 10 1 = some (mR ra) := XO_F q0 1
  have o2 : gF hp 0 10 2 = some (mL G) := XO_F q0 2
  have o3 : gF hp 0 10 3 = some (mI z) := XO_F q0 3
  have o4 : gF hp 0 10 4 = some (mR 2) := XO_F q0 4
  have o5 : gF hp 0 10 5 = some (mR 5) := XO_F q0 5
  have o6 : gF hp 0 10 6 = some (mR 10) := XO_F q0 6
  have o7 : gF hp 0 10 7 = some (mR 14) := XO_F q0 7
  have o8 : gF hp 0 10 8 = some (mR 17) := XO_F q0 8
  have o9 : gF hp 0 10 9 = some (mR 19) := XO_F q0 9
  have o10 : gF hp 0 10 10 = some (mR 27) := XO_F q0 10
  have o11 : gF hp 0 10 11 = some (mR 31) := XO_F q0 11
  have o12 : gF hp 0 10 12 = some (mR 33) := XO_F q0 12
  have o13 : gF hp 0 10 13 = some (mI (zI ik)) := XO_F q0 13
  have o14 : gF hp 0 10 14 = some (mI (kn : Int)) := XO_F q0 14
  have o15 : gF hp 0 10 15 = some (mL kG) := XO_F q0 15
  have o16 : gF hp 0 10 16 = some (mI kz) := XO_F q0 16
  have o17 : gF hp 0 10 17 = some (mR 34) := XO_F q0 17
  have cO := gC_of o0
  have i5 : w32 5 = 5 := rfl
  have bn : n < 2147483648 := by omega
  unfold liA
  by_cases hin : 0 ≤ x
  · rw [if_pos hin]
    have n1 : (x < 0) = False := eq_false (by omega)
    obtain ⟨lc, ca, se, fn, fg, hL, hK⟩ := q5
    have c14 := gC_of hL.1.1
    by_cases h5 : n ≤ 5
    · rw [if_pos h5]
      have n3 : (5 < (n : Int)) = False := eq_false (by omega)
      obtain ⟨h', c', ca', se', u1, u2, u3, u4⟩ := c2_bringUpTo (d + 94) (G := G) hR hL hK h5 (tb_w q1.2.1 (by omega))
      obtain ⟨v1, v2, v3, v4⟩ := u2
      obtain ⟨w1, w2⟩ := v4 n h1 rfl
      obtain ⟨b1, b2⟩ := LST_bd (G := G) h1 h6
      subst w1
      refine ⟨h', XI_L hX0 u3 ⟨_, _, _, _, _, u1, v1, v2, v3, v4⟩, Kx_Fr u3 (by omega), fun R => ?_⟩
      have p1 : gF h' 0 10 1 = some (mR ra) := by rw [gF_Fr u3 (by omega), o1]
      have p7 : gF h' 0 10 7 = some (mR 14) := by rw [gF_Fr u3 (by omega), o7]
      have hR' := RWS_Fr hR u3 (by have := tb_w (a := 14) q1.2.1 (show 17 ≤ 37 by omega); omega)
      have g0 := u1.1.1
      have g1 := u1.1.2.1
      have a1 := u1.2.1
      have bl : (LST n G).length < 2147483648 := by omega
      rw [callD_k]; simp only [entL_i, entL_l, entL_q, entL_s, entL_nil, n_X10_listed, u_X10_listed, m_X10_listed, rep_0, List.cons_append, List.nil_append, List.append_nil, List.length_cons, List.length_nil, Nat.reduceAdd, true_and]
      simp only [AW_k, AWk_1, x_iload_1, x_if_ge, x_push_i, x_push_l, x_ret, x_ret_i, x_ret_z, x_ret_l, x_ret_c, x_aload_0, x_aloads_0, x_getf, x_icmp_le, x_callv_3, x_icmp_ge, k_X10_listed_0, k_X10_listed_1, k_X10_listed_2, k_X10_listed_3, k_X10_listed_4, k_X10_listed_5, k_X10_listed_6, k_X10_listed_7, k_X10_listed_8, k_X10_listed_9, k_X10_listed_10, k_X10_listed_11, k_X10_listed_12, k_X10_listed_13, k_X10_listed_14, k_X10_listed_15, k_X10_listed_16, k_X10_listed_17, k_X10_listed_18, k_X10_listed_19, k_X10_listed_20, k_X10_listed_21, k_X10_listed_22, oE_some, Int.reduceToNat, Nat.reduceAdd, true_and, and_true, List.length_cons, List.length_nil, Option.toList_some, Option.toList_none, List.cons_append, List.nil_append, Nat.reduceLeDiff, Nat.le_refl, wdS_nil, wdS_i, wdS_l, wdS_r, wdS_n, wdS_s, o1, o2, o7, rw_n hR, c14, hx, i5, n1, n3, w32_nat bn, u4, p7, g0, w32_nat bl, ↓reduceIte]
      by_cases c : x < ((LST n G).length : Int)
      · obtain ⟨k2, ek⟩ : ∃ k2 : Nat, x = (k2 : Int) := ⟨x.toNat, by omega⟩
        subst ek
        have hk2 : k2 < (LST n G).length := by omega
        have hm : (LST n G).getD k2 0 ∈ LST n G := by
          rw [List.getD_eq_getElem?_getD, List.getElem?_eq_getElem hk2]
          exact List.getElem_mem _
        have hj := b1 _ hm
        have eg : ca'.getD k2 0 = (((LST n G).getD k2 0 : Nat) : Int) := w2 k2 hk2
        have b2' : k2 < 2147483648 := by omega
        have l6 : inB (k2 : Int) ca'.length := by rw [v1]; exact inB_n (by omega) (by decide)
        rw [if_pos c, if_pos c, Int.toNat_natCast]
        simp only [AW_k, AWk_1, x_aload_0, x_aloads_0, x_getf, x_iload_1, x_iald, x_ialds, x_goto, x_push_i, x_push_l, x_ret, x_ret_i, x_ret_z, x_ret_l, x_ret_c, k_X10_listed_23, k_X10_listed_24, k_X10_listed_25, k_X10_listed_26, k_X10_listed_27, k_X10_listed_28, k_X10_listed_29, k_X10_listed_30, k_X10_listed_31, k_X10_listed_32, k_X10_listed_33, k_X10_listed_34, oE_some, Int.reduceToNat, Nat.reduceAdd, true_and, and_true, List.length_cons, List.length_nil, Option.toList_some, Option.toList_none, List.cons_append, List.nil_append, Nat.reduceLeDiff, Nat.le_refl, wdS_nil, wdS_i, wdS_l, wdS_r, wdS_n, wdS_s, p1, p7, rw_nums hR', rA_10 hR', g1, a1, l6, w32_tn b2', eg, bI rfl hj (FC_31 n), gI rfl hj (FC_31 n)]
      · rw [if_neg c, if_neg c]
        simp only [AW_k, AWk_1, x_push_i, x_push_l, x_ret, x_ret_i, x_ret_z, x_ret_l, x_ret_c, k_X10_listed_33, k_X10_listed_34, oE_some, Int.reduceToNat, Nat.reduceAdd, true_and, and_true, List.length_cons, List.length_nil, Option.toList_some, Option.toList_none, List.cons_append, List.nil_append, Nat.reduceLeDiff, Nat.le_refl, wdS_nil, wdS_i, wdS_l, wdS_r, wdS_n, wdS_s]
    · rw [if_neg h5]
      have n3 : (5 < (n : Int)) = True := eq_true (by omega)
      refine ⟨hp, hX0, Kx_refl hp, fun R => ?_⟩
      rw [callD_k]; simp only [entL_i, entL_l, entL_q, entL_s, entL_nil, n_X10_listed, u_X10_listed, m_X10_listed, rep_0, List.cons_append, List.nil_append, List.append_nil, List.length_cons, List.length_nil, Nat.reduceAdd, true_and]
      simp only [AW_k, AWk_1, x_iload_1, x_if_ge, x_push_i, x_push_l, x_ret, x_ret_i, x_ret_z, x_ret_l, x_ret_c, x_aload_0, x_aloads_0, x_getf, x_icmp_le, x_callv_3, x_icmp_ge, x_iald, x_ialds, x_goto, k_X10_listed_0, k_X10_listed_1, k_X10_listed_2, k_X10_listed_3, k_X10_listed_4, k_X10_listed_5, k_X10_listed_6, k_X10_listed_7, k_X10_listed_8, k_X10_listed_9, k_X10_listed_10, k_X10_listed_11, k_X10_listed_12, k_X10_listed_13, k_X10_listed_14, k_X10_listed_15, k_X10_listed_16, k_X10_listed_17, k_X10_listed_18, k_X10_listed_19, k_X10_listed_20, k_X10_listed_21, k_X10_listed_22, k_X10_listed_23, k_X10_listed_24, k_X10_listed_25, k_X10_listed_26, k_X10_listed_27, k_X10_listed_28, k_X10_listed_29, k_X10_listed_30, k_X10_listed_31, k_X10_listed_32, k_X10_listed_33, k_X10_listed_34, oE_some, Int.reduceToNat, Nat.reduceAdd, true_and, and_true, List.length_cons, List.length_nil, Option.toList_some, Option.toList_none, List.cons_append, List.nil_append, Nat.reduceLeDiff, Nat.le_refl, wdS_nil, wdS_i, wdS_l, wdS_r, wdS_n, wdS_s, o1, rw_n hR, hx, i5, n1, n3, w32_nat bn, ↓reduceIte]
  · rw [if_neg hin]
    have n1 : (x < 0) = True := eq_true (by omega)
    refine ⟨hp, hX0, Kx_refl hp, fun R => ?_⟩
    rw [callD_k]; simp only [entL_i, entL_l, entL_q, entL_s, entL_nil, n_X10_listed, u_X10_listed, m_X10_listed, rep_0, List.cons_append, List.nil_append, List.append_nil, List.length_cons, List.length_nil, Nat.reduceAdd, true_and]
    simp only [AW_k, AWk_1, x_iload_1, x_if_ge, x_push_i, x_push_l, x_ret, x_ret_i, x_ret_z, x_ret_l, x_ret_c, x_aload_0, x_aloads_0, x_getf, x_icmp_le, x_callv_3, x_icmp_ge, x_iald, x_ialds, x_goto, k_X10_listed_0, k_X10_listed_1, k_X10_listed_2, k_X10_listed_3, k_X10_listed_4, k_X10_listed_5, k_X10_listed_6, k_X10_listed_7, k_X10_listed_8, k_X10_listed_9, k_X10_listed_10, k_X10_listed_11, k_X10_listed_12, k_X10_listed_13, k_X10_listed_14, k_X10_listed_15, k_X10_listed_16, k_X10_listed_17, k_X10_listed_18, k_X10_listed_19, k_X10_listed_20, k_X10_listed_21, k_X10_listed_22, k_X10_listed_23, k_X10_listed_24, k_X10_listed_25, k_X10_listed_26, k_X10_listed_27, k_X10_listed_28, k_X10_listed_29, k_X10_listed_30, k_X10_listed_31, k_X10_listed_32, k_X10_listed_33, k_X10_listed_34, oE_some, Int.reduceToNat, Nat.reduceAdd, true_and, and_true, List.length_cons, List.length_nil, Option.toList_some, Option.toList_none, List.cons_append, List.nil_append, Nat.reduceLeDiff, Nat.le_refl, wdS_nil, wdS_i, wdS_l, wdS_r, wdS_n, wdS_s, hx, n1, ↓reduceIte]
theorem okS_aL (n : Nat) : okS n (aL n) := by
  intro j hj
  unfold aL at hj
  rw [BitVec.getLsbD_ofNat, Nat.testBit_two_pow_sub_one] at hj
  rw [Bool.and_eq_true, decide_eq_true_eq, decide_eq_true_eq] at hj
  exact hj.2
def cdA (n : Nat) (G : BitVec 64) (w : Int) : Int := if 0 ≤ w ∧ w ≤ 1 then (if n ≤ 5 then CFo n (if w = 0 then aL n else aL n &&& (G ^^^ 18446744073709551615#64)) else -4) else -1
set_option maxHeartbeats 16000000 in
theorem x10_closed (d : Nat) {hp : HP} {n : Nat} {G : BitVec 64} {z : Int} {c : Nat} {ks : List Int} {es : List Int} {ik : Bool} {kn : Nat} {kG : BitVec 64} {kz : Int} {kc : Nat} {kks : List Int} {kes : List Int} {tc : Nat} {tb : List Int} {sc : Nat} {tl : List Int} {so : List Int} {le : List Int} {it : Nat → List (BitVec 64)} {he : List Int} {th : List Int} {sl : List Int} {tr : Nat} {bo : List Int} {w : Int} (hX : XI hp n G z c ks es ik kn kG kz kc kks kes tc tb sc tl so le it he th sl tr bo) (hw : w32 w = w) (R : PO) : callD (d + 100) 134 [mR 0, mI w] hp R ↔ R (some (mI (cdA n G w))) hp := by
  obtain ⟨ra, ts, q0, q1, q2, q3, q4, q5, q6, q7, q8, q9, q10, q11, qk⟩ := hX
  have hR := q1.1
  have h1 := rw_1 hR
  have h6 := rw_6 hR
  have f1 := FC_le n
  have cR := rC0 hR
  have cA := rC1 hR
  have o0 : gF hp 0 10 0 = some (mR 1) := XO_F q0 0
  have o1 : gF hp 0 10 1 = some (mR ra) := XO_F q0 1
  have o2 : gF hp 0 10 2 = some (mL G) := XO_F q0 2
  have o3 : gF hp 0 10 3 = some (mI z) := XO_F q0 3
  have o4 : gF hp 0 10 4 = some (mR 2) := XO_F q0 4
  have o5 : gF hp 0 10 5 = some (mR 5) := XO_F q0 5
  have o6 : gF hp 0 10 6 = some (mR 10) := XO_F q0 6
  have o7 : gF hp 0 10 7 = some (mR 14) := XO_F q0 7
  have o8 : gF hp 0 10 8 = some (mR 17) := XO_F q0 8
  have o9 : gF hp 0 10 9 = some (mR 19) := XO_F q0 9
  have o10 : gF hp 0 10 10 = some (mR 27) := XO_F q0 10
  have o11 : gF hp 0 10 11 = some (mR 31) := XO_F q0 11
  have o12 : gF hp 0 10 12 = some (mR 33) := XO_F q0 12
  have o13 : gF hp 0 10 13 = some (mI (zI ik)) := XO_F q0 13
  have o14 : gF hp 0 10 14 = some (mI (kn : Int)) := XO_F q0 14
  have o15 : gF hp 0 10 15 = some (mL kG) := XO_F q0 15
  have o16 : gF hp 0 10 16 = some (mI kz) := XO_F q0 16
  have o17 : gF hp 0 10 17 = some (mR 34) := XO_F q0 17
  have cO := gC_of o0
  have i1 : w32 1 = 1 := rfl
  have i5 : w32 5 = 5 := rfl
  have bn : n < 2147483648 := by omega
  unfold cdA
  by_cases hin : 0 ≤ w ∧ w ≤ 1
  · rw [if_pos hin]
    have n1 : (w < 0) = False := eq_false (by omega)
    have n2 : (1 < w) = False := eq_false (by omega)
    by_cases h5 : n ≤ 5
    · rw [if_pos h5]
      have n3 : (5 < (n : Int)) = False := eq_false (by omega)
      rcases (show w = 0 ∨ w = 1 by omega) with e | e
      · subst e
        rw [if_pos rfl]
        rw [callD_k]; simp only [entL_i, entL_l, entL_q, entL_s, entL_nil, n_X10_closed, u_X10_closed, m_X10_closed, rep_0, List.cons_append, List.nil_append, List.append_nil, List.length_cons, List.length_nil, Nat.reduceAdd, true_and]
        simp only [AW_k, AWk_1, x_iload_1, x_if_lt, x_push_i, x_push_l, x_icmp_le, x_ret, x_ret_i, x_ret_z, x_ret_l, x_ret_c, x_aload_0, x_aloads_0, x_getf, x_if_ne, x_goto, x_lxor, x_land, x_callv_2, k_X10_closed_0, k_X10_closed_1, k_X10_closed_2, k_X10_closed_3, k_X10_closed_4, k_X10_closed_5, k_X10_closed_6, k_X10_closed_7, k_X10_closed_8, k_X10_closed_9, k_X10_closed_10, k_X10_closed_11, k_X10_closed_12, k_X10_closed_13, k_X10_closed_14, k_X10_closed_15, k_X10_closed_16, k_X10_closed_17, k_X10_closed_18, k_X10_closed_19, k_X10_closed_20, k_X10_closed_21, k_X10_closed_22, k_X10_closed_23, k_X10_closed_24, k_X10_closed_25, k_X10_closed_26, k_X10_closed_27, k_X10_closed_28, k_X10_closed_29, k_X10_closed_30, k_X10_closed_31, k_X10_closed_32, k_X10_closed_33, k_X10_closed_34, oE_some, Int.reduceToNat, Nat.reduceAdd, true_and, and_true, List.length_cons, List.length_nil, Option.toList_some, Option.toList_none, List.cons_append, List.nil_append, Nat.reduceLeDiff, Nat.le_refl, wdS_nil, wdS_i, wdS_l, wdS_r, wdS_n, wdS_s, o1, o2, rw_n hR, rw_arcs hR, rw_all hR, cA, hw, i1, i5, n1, n2, n3, w32_nat bn, c1_closedSets (d + 31) hR h5 (okS_aL n), wz0, w00, w10, ↓reduceIte]
      · subst e
        rw [if_neg (by decide)]
        rw [callD_k]; simp only [entL_i, entL_l, entL_q, entL_s, entL_nil, n_X10_closed, u_X10_closed, m_X10_closed, rep_0, List.cons_append, List.nil_append, List.append_nil, List.length_cons, List.length_nil, Nat.reduceAdd, true_and]
        simp only [AW_k, AWk_1, x_iload_1, x_if_lt, x_push_i, x_push_l, x_icmp_le, x_ret, x_ret_i, x_ret_z, x_ret_l, x_ret_c, x_aload_0, x_aloads_0, x_getf, x_if_ne, x_goto, x_lxor, x_land, x_callv_2, k_X10_closed_0, k_X10_closed_1, k_X10_closed_2, k_X10_closed_3, k_X10_closed_4, k_X10_closed_5, k_X10_closed_6, k_X10_closed_7, k_X10_closed_8, k_X10_closed_9, k_X10_closed_10, k_X10_closed_11, k_X10_closed_12, k_X10_closed_13, k_X10_closed_14, k_X10_closed_15, k_X10_closed_16, k_X10_closed_17, k_X10_closed_18, k_X10_closed_19, k_X10_closed_20, k_X10_closed_21, k_X10_closed_22, k_X10_closed_23, k_X10_closed_24, k_X10_closed_25, k_X10_closed_26, k_X10_closed_27, k_X10_closed_28, k_X10_closed_29, k_X10_closed_30, k_X10_closed_31, k_X10_closed_32, k_X10_closed_33, k_X10_closed_34, oE_some, Int.reduceToNat, Nat.reduceAdd, true_and, and_true, List.length_cons, List.length_nil, Option.toList_some, Option.toList_none, List.cons_append, List.nil_append, Nat.reduceLeDiff, Nat.le_refl, wdS_nil, wdS_i, wdS_l, wdS_r, wdS_n, wdS_s, o1, o2, rw_n hR, rw_arcs hR, rw_all hR, cA, hw, i1, i5, n1, n2, n3, w32_nat bn, c1_closedSets (d + 31) hR h5 (okS_and (okS_aL n)), wz0, w00, w10, Int.reduceEq, ↓reduceIte]
    · rw [if_neg h5]
      have n3 : (5 < (n : Int)) = True := eq_true (by omega)
      rw [callD_k]; simp only [entL_i, entL_l, entL_q, entL_s, entL_nil, n_X10_closed, u_X10_closed, m_X10_closed, rep_0, List.cons_append, List.nil_append, List.append_nil, List.length_cons, List.length_nil, Nat.reduceAdd, true_and]
      simp only [AW_k, AWk_1, x_iload_1, x_if_lt, x_push_i, x_push_l, x_icmp_le, x_ret, x_ret_i, x_ret_z, x_ret_l, x_ret_c, x_aload_0, x_aloads_0, x_getf, x_if_ne, x_goto, x_lxor, x_land, x_callv_2, k_X10_closed_0, k_X10_closed_1, k_X10_closed_2, k_X10_closed_3, k_X10_closed_4, k_X10_closed_5, k_X10_closed_6, k_X10_closed_7, k_X10_closed_8, k_X10_closed_9, k_X10_closed_10, k_X10_closed_11, k_X10_closed_12, k_X10_closed_13, k_X10_closed_14, k_X10_closed_15, k_X10_closed_16, k_X10_closed_17, k_X10_closed_18, k_X10_closed_19, k_X10_closed_20, k_X10_closed_21, k_X10_closed_22, k_X10_closed_23, k_X10_closed_24, k_X10_closed_25, k_X10_closed_26, k_X10_closed_27, k_X10_closed_28, k_X10_closed_29, k_X10_closed_30, k_X10_closed_31, k_X10_closed_32, k_X10_closed_33, k_X10_closed_34, oE_some, Int.reduceToNat, Nat.reduceAdd, true_and, and_true, List.length_cons, List.length_nil, Option.toList_some, Option.toList_none, List.cons_append, List.nil_append, Nat.reduceLeDiff, Nat.le_refl, wdS_nil, wdS_i, wdS_l, wdS_r, wdS_n, wdS_s, o1, rw_n hR, hw, i1, i5, n1, n2, n3, w32_nat bn, ↓reduceIte]
  · rw [if_neg hin]
    rw [callD_k]; simp only [entL_i, entL_l, entL_q, entL_s, entL_nil, n_X10_closed, u_X10_closed, m_X10_closed, rep_0, List.cons_append, List.nil_append, List.append_nil, List.length_cons, List.length_nil, Nat.reduceAdd, true_and]
    simp only [AW_k, AWk_1, x_iload_1, x_if_lt, x_push_i, x_push_l, x_icmp_le, k_X10_closed_0, k_X10_closed_1, k_X10_closed_2, k_X10_closed_3, k_X10_closed_4, oE_some, Int.reduceToNat, Nat.reduceAdd, true_and, and_true, List.length_cons, List.length_nil, Option.toList_some, Option.toList_none, List.cons_append, List.nil_append, Nat.reduceLeDiff, Nat.le_refl, wdS_nil, wdS_i, wdS_l, wdS_r, wdS_n, wdS_s, hw, i1]
    by_cases a1 : w < 0
    · rw [if_pos a1]
      simp only [AW_k, AWk_1, x_push_i, x_push_l, x_ret, x_ret_i, x_ret_z, x_ret_l, x_ret_c, k_X10_closed_5, k_X10_closed_6, oE_some, Int.reduceToNat, Nat.reduceAdd, true_and, and_true, List.length_cons, List.length_nil, Option.toList_some, Option.toList_none, List.cons_append, List.nil_append, Nat.reduceLeDiff, Nat.le_refl, wdS_nil, wdS_i, wdS_l, wdS_r, wdS_n, wdS_s]
    · rw [if_neg a1, if_pos (by omega)]
      simp only [AW_k, AWk_1, x_push_i, x_push_l, x_ret, x_ret_i, x_ret_z, x_ret_l, x_ret_c, k_X10_closed_5, k_X10_closed_6, oE_some, Int.reduceToNat, Nat.reduceAdd, true_and, and_true, List.length_cons, List.length_nil, Option.toList_some, Option.toList_none, List.cons_append, List.nil_append, Nat.reduceLeDiff, Nat.le_refl, wdS_nil, wdS_i, wdS_l, wdS_r, wdS_n, wdS_s]
