/-! ===== the reference's rows by lot ===== -/
theorem nuF_div {l : List Nat} (h : ∀ k, l.getD k 0 ≤ 9) : ∀ m k, nuF l (k + m) / 10 ^ m = nuF l k := by
  intro m
  induction m with
  | zero => intro k; rw [Nat.pow_zero, Nat.div_one]; rfl
  | succ m ih =>
    intro k
    have := h (k + m)
    rw [show k + (m + 1) = (k + m) + 1 from rfl, nuF_succ, Nat.pow_succ, Nat.mul_comm (10 ^ m) 10, ← Nat.div_div_eq_div_mul, show (nuF l (k + m) * 10 + l.getD (k + m) 0) / 10 = nuF l (k + m) by omega]
    exact ih k
theorem dg_nuF {l : List Nat} {n p : Nat} (h : ∀ k, l.getD k 0 ≤ 9) (hp : p < n) : dg n (nuF l n) p = l.getD p 0 := by
  unfold dg
  have e : n = (p + 1) + (n - 1 - p) := by omega
  have := nuF_div h (n - 1 - p) (p + 1)
  rw [← e] at this
  rw [this, nuF_succ]
  have := h p
  omega
theorem nuF_set {l : List Nat} {p v : Nat} (hp : p < l.length) : ∀ k, ((nuF (l.set p v) k : Nat) : Int) = ((nuF l k : Nat) : Int) + (if p < k then (((v : Nat) : Int) - ((l.getD p 0 : Nat) : Int)) * ((10 ^ (k - 1 - p) : Nat) : Int) else 0) := by
  intro k
  induction k with
  | zero => rw [if_neg (by omega)]; rfl
  | succ k ih =>
    rw [nuF_succ, nuF_succ, getD_set hp]
    by_cases c : p < k
    · rw [if_pos c] at ih
      rw [if_neg (show ¬ p = k by omega), if_pos (show p < k + 1 by omega), show k + 1 - 1 - p = (k - 1 - p) + 1 by omega, Nat.pow_succ]
      generalize 10 ^ (k - 1 - p) = t at ih ⊢
      have e : (((v : Nat) : Int) - ((l.getD p 0 : Nat) : Int)) * ((t * 10 : Nat) : Int) = (((v : Nat) : Int) - ((l.getD p 0 : Nat) : Int)) * ((t : Nat) : Int) * 10 := by
        rw [Int.natCast_mul, Int.mul_assoc]; rfl
      rw [e]
      generalize (((v : Nat) : Int) - ((l.getD p 0 : Nat) : Int)) * ((t : Nat) : Int) = u at ih ⊢
      omega
    · rw [if_neg c] at ih
      by_cases c2 : p = k
      · subst c2
        rw [if_pos rfl, if_pos (by omega), show p + 1 - 1 - p = 0 by omega, Nat.pow_zero]
        omega
      · rw [if_neg c2, if_neg (by omega)]
        omega
theorem nuF_sw {l : List Nat} {n p q : Nat} (hl : l.length = n) (hp : p < n) (hq : q < n) : ((nuF (swL l p q) n : Nat) : Int) = ((nuF l n : Nat) : Int) + (((l.getD q 0 : Nat) : Int) - ((l.getD p 0 : Nat) : Int)) * (((10 ^ (n - 1 - p) : Nat) : Int) - ((10 ^ (n - 1 - q) : Nat) : Int)) := by
  unfold swL
  rw [nuF_set (by rw [List.length_set]; omega), if_pos hq, nuF_set (by omega), if_pos hp, getD_set (by omega)]
  generalize ((10 ^ (n - 1 - q) : Nat) : Int) = B
  by_cases e : p = q
  · subst e
    rw [if_pos rfl, Int.sub_self]
    simp
  · rw [if_neg e]
    generalize ((10 ^ (n - 1 - p) : Nat) : Int) = A
    generalize ((l.getD q 0 : Nat) : Int) = x
    generalize ((l.getD p 0 : Nat) : Int) = y
    rw [Int.sub_mul, Int.sub_mul, Int.sub_mul, Int.mul_sub, Int.mul_sub]
    omega
/-- all numbers stand in it -/
def prm (n : Nat) (l : List Nat) : Prop := l.length = n ∧ (∀ k, l.getD k 0 ≤ 9) ∧ ∀ v, 1 ≤ v → v ≤ n → ∃ p, p < n ∧ l.getD p 0 = v
theorem prm_sw {n p q : Nat} {l : List Nat} (h : prm n l) (hp : p < n) (hq : q < n) : prm n (swL l p q) := by
  obtain ⟨h1, h2, h3⟩ := h
  refine ⟨(swL_len l p q).trans h1, swL_9 h2, fun v v1 v2 => ?_⟩
  obtain ⟨r, r1, r2⟩ := h3 v v1 v2
  have g : ∀ k, (swL l p q).getD k 0 = if q = k then l.getD p 0 else if p = k then l.getD q 0 else l.getD k 0 := by
    intro k
    unfold swL
    rw [getD_set (by rw [List.length_set]; omega), getD_set (by omega)]
  by_cases e1 : r = p
  · exact ⟨q, hq, by rw [g, if_pos rfl, ← e1]; exact r2⟩
  · by_cases e2 : r = q
    · refine ⟨p, hp, ?_⟩
      rw [g]
      by_cases e3 : q = p
      · exact absurd (e2.trans e3) e1
      · rw [if_neg e3, if_pos rfl, ← e2]; exact r2
    · exact ⟨r, r1, by rw [g, if_neg (fun z => e2 z.symm), if_neg (fun z => e1 z.symm)]; exact r2⟩
theorem irS_bit {n r b : Nat} : ∀ p q, q < p → dg n r q = b + 1 → b + 1 ≤ n → (irS n r p).testBit b = true := by
  intro p
  induction p with
  | zero => intro q hq; omega
  | succ p ih =>
    intro q hq hd hb
    rw [irS_up]
    by_cases e : q = p
    · subst e
      rw [if_pos (by omega), hd, Nat.testBit_or, Nat.add_sub_cancel, Nat.testBit_two_pow]
      simp
    · have := ih q (by omega) hd hb
      split
      · rw [Nat.testBit_or, this]; simp
      · exact this
theorem prm_row {n : Nat} {l : List Nat} (h1 : 1 ≤ n) (h6 : n ≤ 6) (h : prm n l) : ∃ i, i < FC n ∧ num n i = nuF l n := by
  obtain ⟨a1, a2, a3⟩ := h
  refine irS_row h1 h6 (nuF_bd a2 n) ?_
  apply Nat.eq_of_testBit_eq
  intro b
  by_cases c : b < n
  · obtain ⟨p, p1, p2⟩ := a3 (b + 1) (by omega) (by omega)
    rw [irS_bit n p p1 (by rw [dg_nuF a2 p1, p2]) (by omega), Nat.testBit_two_pow_sub_one, decide_eq_true c]
  · rw [Nat.testBit_lt_two_pow (Nat.lt_of_lt_of_le (irS_lt n (nuF l n) n) (Nat.pow_le_pow_right (by decide) (by omega))), Nat.testBit_two_pow_sub_one, decide_eq_false c]
theorem prm_1 {n : Nat} (h6 : n ≤ 6) : prm n (l1n n) := by
  refine ⟨by unfold l1n; rw [List.length_map, List.length_range], l1n_9 h6, fun v v1 v2 => ⟨v - 1, by omega, ?_⟩⟩
  unfold l1n
  rw [List.getD_eq_getElem?_getD, List.getElem?_map, List.getElem?_range (by omega)]
  show v - 1 + 1 = v
  omega
theorem prm_dr {n : Nat} : ∀ (p : Nat) (z : Int) (l : List Nat), p < n → prm n l → prm n (drS p z l).2 := by
  intro p
  induction p with
  | zero => intro z l _ h; exact h
  | succ p ih =>
    intro z l hp h
    rw [drS_succ]
    exact ih _ _ (by omega) (prm_sw h hp (Nat.lt_of_lt_of_le (Nat.mod_lt _ (by omega)) (by omega)))
theorem nu_1_c : all6 (fun n => num n 0 == nuF (l1n n) n) = true := by decide +kernel
theorem nu_1 {n : Nat} (h1 : 1 ≤ n) (h6 : n ≤ 6) : num n 0 = nuF (l1n n) n := beq_iff_eq.mp (all6_of nu_1_c h1 h6)
set_option maxHeartbeats 16000000 in
theorem m_rlLoop (d : Nat) {n : Nat} {G : BitVec 64} {c : Nat} {ks : List Int} {es : List Int} {ik : Bool} {kn : Nat} {kG : BitVec 64} {kz : Int} {kc : Nat} {kks : List Int} {kes : List Int} {tc : Nat} {tb : List Int} {sc : Nat} {tl : List Int} {so : List Int} {le : List Int} {it : Nat → List (BitVec 64)} {he : List Int} {th : List Int} {sl : List Int} {tr : Nat} {bo : List Int} : ∀ (p : Nat) (h : HP) (z : Int) (l : List Nat) (y3 : Option AV), p < n → MI (h) n G z c ks es ik kn kG kz kc kks kes tc tb sc tl so le it he th sl tr bo → prm n l → ∃ h', MI (h') n G ((drS p z l).1) c ks es ik kn kG kz kc kks kes tc tb sc tl so le it he th sl tr bo ∧ Fr 54 83 h h' ∧ ∀ R : PO, AWh (d + 2) [] 253 R 9 [some (mR 54), some (mI ((nuF l n : Nat) : Int)), some (mI (p : Int)), y3] [] h (0, 0) ↔ R (some (mI ((nuF (drS p z l).2 n : Nat) : Int))) h' := by
  intro p
  induction p with
  | zero =>
    intro h z l y3 hp hX hl
    refine ⟨h, hX, Fr_refl h, fun R => ?_⟩
    rw [AWh_k, k_X11_rowByLot_9]
    simp only [AW_k, AWk_1, x_iload_2, x_if_le, x_iload_1, x_ret, x_ret_i, x_ret_z, x_ret_l, x_ret_c, k_X11_rowByLot_9, k_X11_rowByLot_10, k_X11_rowByLot_62, k_X11_rowByLot_63, oE_some, Int.reduceToNat, Nat.reduceAdd, true_and, and_true, List.length_cons, List.length_nil, Option.toList_some, Option.toList_none, List.cons_append, List.nil_append, Nat.reduceLeDiff, Nat.le_refl, wdS_nil, wdS_i, wdS_l, wdS_r, wdS_n, wdS_s, z0, Int.lt_irrefl, ↓reduceIte]
    all_goals exact Iff.rfl
  | succ p ih =>
    intro hp z l y3 hpn hX hl
    have hX0 := hX
    obtain ⟨⟨u1, u2, u3⟩, kN, kZ, kM, kGm, l5, l6, qk, q0, q1, q2, q3, q4, q5, q6, q7, q8, q9⟩ := hX
    obtain ⟨fr_, to_, co_, op_, wr_, ki_, nu_, mm_, pa_, hF⟩ := YO_F q0
    have hA : MA hp n := ⟨⟨⟨u2, u3⟩, hF 0, hF 18, hF 19, q1.1.1, q1.1.2⟩, ⟨hF 13, hF 14, hF 15, hF 16, hF 17⟩, q1.2⟩
    have hK := hA.1
    have cK := cM hK
    have hG : gF hp 54 11 3 = some (mL G) := hF 3
    have g1 : gF hp 54 11 1 = some (mI z) := hF 1
    have bp : p + 1 < 2147483648 := by omega
    have bp2 : p + 2 < 2147483648 := by omega
    have n1 : ((0 : Int) < ((p + 1 : Nat) : Int)) = True := eq_true (by omega)
    have e1 : ((p + 1 : Nat) : Int) + 1 = ((p + 2 : Nat) : Int) := by omega
    have e2 : ((p + 1 : Nat) : Int) + -1 = (p : Int) := by omega
    obtain ⟨zk, zl⟩ := zq_eq (zN z)
    have zl2 : zq (zN z) < 2147483648 := by omega
    have hq : zq (zN z) % (p + 2) < p + 2 := Nat.mod_lt _ (by omega)
    obtain ⟨q, eq0⟩ : ∃ q, zq (zN z) % (p + 2) = q := ⟨_, rfl⟩
    rw [eq0] at hq
    have hqn : q < n := by omega
    have bq : q < 2147483648 := by omega
    have hpn2 : p < n := by omega
    have hl2 := prm_sw hl hpn hqn
    have X1 : MI ((pF hp 54 11 1 (mI (zN z)))) n G (zN z) c ks es ik kn kG kz kc kks kes tc tb sc tl so le it he th sl tr bo := MI_oz hX0
    obtain ⟨h', v1, v2, v3⟩ := ih (pF hp 54 11 1 (mI (zN z))) (zN z) (swL l (p + 1) q) (some (mI (q : Int))) hpn2 X1 hl2
    rw [drS_succ, eq0]
    refine ⟨h', v1, Fr_trans Fr_o54 v2, fun R => Iff.trans ?_ (v3 R)⟩
    obtain ⟨hA1, -⟩ := MI_G X1
    have hK1 := hA1.1
    have cK1 := cM hK1
    have w1 : gF (pF hp 54 11 1 (mI (zN z))) 54 11 1 = some (mI (zN z)) := gF_pF_same g1
    have w0 := hK1.2.1
    have w18 := hK1.2.2.1
    have w63 := hK1.2.2.2.2.1
    have a9 := nuF_bd hl.2.1 n
    have b9 : nuF l n < 2147483648 := Nat.lt_of_lt_of_le a9 (Nat.le_trans (p10_le u3) (by decide))
    have wne : (w32 ((p + 2 : Nat) : Int) = 0) = False := eq_false (by rw [w32_nat bp2]; omega)
    have em : Int.tmod (w32 ((zq (zN z) : Nat) : Int)) (w32 ((p + 2 : Nat) : Int)) = (q : Int) := by rw [← eq0]; exact w_mod zl2 bp2
    rw [w32_nat bp2] at wne em
    rw [w32_nat zl2] at em
    have dq := fun R => m_digit (d + 1) hK1 hqn b9 R
    have dp := fun R => m_digit (d + 1) hK1 hpn b9 R
    rw [dg_nuF hl.2.1 hqn] at dq
    rw [dg_nuF hl.2.1 hpn] at dp
    have k1 : n - 1 - (p + 1) < 7 := by omega
    have k2 : n - 1 - q < 7 := by omega
    have f1 : (n : Int) - 1 - ((p + 1 : Nat) : Int) = ((n - 1 - (p + 1) : Nat) : Int) := by omega
    have f2 : (n : Int) - 1 - (q : Int) = ((n - 1 - q : Nat) : Int) := by omega
    have b1 : n - 1 - (p + 1) < 2147483648 := by omega
    have b2 : n - 1 - q < 2147483648 := by omega
    have i1 : inB ((n - 1 - (p + 1) : Nat) : Int) PW.length := inB_n k1 (by decide)
    have i2 : inB ((n - 1 - q : Nat) : Int) PW.length := inB_n k2 (by decide)
    have eA := nuF_sw hl.1 hpn hqn
    rw [eA]
    rw [AWh_k, k_X11_rowByLot_9]
    simp only [AW_k, AWk_1, x_iload_2, x_if_le, x_aload_0, x_aloads_0, x_getf, x_push_i, x_push_l, x_imul, x_iadd, x_putf_i, x_iushr, x_irem, x_istore_3, x_iload_1, x_iload_3, x_callv_3, x_isub, x_iald, x_ialds, x_istore_1, x_iinc_2, x_goto, unl_i, unl_l, unl_q, unl_r, unl_s, unl_n, k_X11_rowByLot_9, k_X11_rowByLot_10, k_X11_rowByLot_11, k_X11_rowByLot_12, k_X11_rowByLot_13, k_X11_rowByLot_14, k_X11_rowByLot_15, k_X11_rowByLot_16, k_X11_rowByLot_17, k_X11_rowByLot_18, k_X11_rowByLot_19, k_X11_rowByLot_20, k_X11_rowByLot_21, k_X11_rowByLot_22, k_X11_rowByLot_23, k_X11_rowByLot_24, k_X11_rowByLot_25, k_X11_rowByLot_26, k_X11_rowByLot_27, k_X11_rowByLot_28, k_X11_rowByLot_29, k_X11_rowByLot_30, k_X11_rowByLot_31, k_X11_rowByLot_32, k_X11_rowByLot_33, k_X11_rowByLot_34, k_X11_rowByLot_35, k_X11_rowByLot_36, k_X11_rowByLot_37, k_X11_rowByLot_38, k_X11_rowByLot_39, k_X11_rowByLot_40, k_X11_rowByLot_41, k_X11_rowByLot_42, k_X11_rowByLot_43, k_X11_rowByLot_44, k_X11_rowByLot_45, k_X11_rowByLot_46, k_X11_rowByLot_47, k_X11_rowByLot_48, k_X11_rowByLot_49, k_X11_rowByLot_50, k_X11_rowByLot_51, k_X11_rowByLot_52, k_X11_rowByLot_53, k_X11_rowByLot_54, k_X11_rowByLot_55, k_X11_rowByLot_56, k_X11_rowByLot_57, k_X11_rowByLot_58, k_X11_rowByLot_59, k_X11_rowByLot_60, k_X11_rowByLot_61, oE_some, Int.reduceToNat, Nat.reduceAdd, true_and, and_true, List.length_cons, List.length_nil, Option.toList_some, Option.toList_none, List.cons_append, List.nil_append, Nat.reduceLeDiff, Nat.le_refl, wdS_nil, wdS_i, wdS_l, wdS_r, wdS_n, wdS_s, w32_nat bp, n1, g1, show z * 1103515245 + 12345 = zN z from rfl, w1, zk, e1, e2, w32_nat bp2, w32_nat zl2, em, wne, not_false_eq_true, cK1, dq, dp, w0, w18, w63, f1, f2, i1, i2, w32_tn b1, w32_tn b2, PW_get k1, PW_get k2, ↓reduceIte]
theorem m_rowByLot (d : Nat) {hp : HP} {n : Nat} {G : BitVec 64} {z : Int} {c : Nat} {ks : List Int} {es : List Int} {ik : Bool} {kn : Nat} {kG : BitVec 64} {kz : Int} {kc : Nat} {kks : List Int} {kes : List Int} {tc : Nat} {tb : List Int} {sc : Nat} {tl : List Int} {so : List Int} {le : List Int} {it : Nat → List (BitVec 64)} {he : List Int} {th : List Int} {sl : List Int} {tr : Nat} {bo : List Int} (hX : MI (hp) n G z c ks es ik kn kG kz kc kks kes tc tb sc tl so le it he th sl tr bo) : ∃ h', MI (h') n G (drZ n z) c ks es ik kn kG kz kc kks kes tc tb sc tl so le it he th sl tr bo ∧ Fr 54 83 hp h' ∧ ∀ R : PO, callD (d + 3) 253 [mR 54] hp R ↔ R (some (mI ((nuF (drT n z) n : Nat) : Int))) h' := by
  have hX0 := hX
  obtain ⟨⟨u1, u2, u3⟩, kN, kZ, kM, kGm, l5, l6, qk, q0, q1, q2, q3, q4, q5, q6, q7, q8, q9⟩ := hX
  obtain ⟨fr_, to_, co_, op_, wr_, ki_, nu_, mm_, pa_, hF⟩ := YO_F q0
  have hA : MA hp n := ⟨⟨⟨u2, u3⟩, hF 0, hF 18, hF 19, q1.1.1, q1.1.2⟩, ⟨hF 13, hF 14, hF 15, hF 16, hF 17⟩, q1.2⟩
  have hK := hA.1
  have cK := cM hK
  have hG : gF hp 54 11 3 = some (mL G) := hF 3
  have g0 : gF hp 54 11 0 = some (mI (n : Int)) := hF 0
  have f0 : 0 < FC n := FC_pos u2 u3
  have e1 : (n : Int) - 1 = ((n - 1 : Nat) : Int) := by omega
  obtain ⟨h', v1, v2, v3⟩ := m_rlLoop d (n - 1) hp z (l1n n) none (by omega) hX0 (prm_1 u3)
  refine ⟨h', v1, v2, fun R => Iff.trans ?_ (v3 R)⟩
  have r0 : ∀ R : PO, callD (d + 2) 168 [mR 54, mI 0] hp R ↔ R (some (mI ((nuF (l1n n) n : Nat) : Int))) hp := fun R => by
    rw [← nu_1 u2 u3]
    exact m_rowBy d hK f0 R
  rw [callD_k]; simp only [entL_i, entL_l, entL_q, entL_s, entL_nil, n_X11_rowByLot, u_X11_rowByLot, m_X11_rowByLot, rep_3, List.cons_append, List.nil_append, List.append_nil, List.length_cons, List.length_nil, Nat.reduceAdd, true_and]
  simp only [AW_k, AWk_1, x_aload_0, x_aloads_0, x_push_i, x_push_l, x_callv_2, x_istore_1, x_getf, x_isub, x_istore_2, x_iload_2, unl_i, unl_l, unl_q, unl_r, unl_s, unl_n, k_X11_rowByLot_0, k_X11_rowByLot_1, k_X11_rowByLot_2, k_X11_rowByLot_3, k_X11_rowByLot_4, k_X11_rowByLot_5, k_X11_rowByLot_6, k_X11_rowByLot_7, k_X11_rowByLot_8, k_X11_rowByLot_9, oE_some, Int.reduceToNat, Nat.reduceAdd, true_and, and_true, List.length_cons, List.length_nil, Option.toList_some, Option.toList_none, List.cons_append, List.nil_append, Nat.reduceLeDiff, Nat.le_refl, wdS_nil, wdS_i, wdS_l, wdS_r, wdS_n, wdS_s, cK, r0, g0, e1]
set_option maxHeartbeats 16000000 in
theorem m_dwLoop (d : Nat) {n : Nat} {G : BitVec 64} {z : Int} {c : Nat} {ks : List Int} {es : List Int} {ik : Bool} {kn : Nat} {kG : BitVec 64} {kz : Int} {kc : Nat} {kks : List Int} {kes : List Int} {tc : Nat} {tb : List Int} {sc : Nat} {tl : List Int} {so : List Int} {le : List Int} {it : Nat → List (BitVec 64)} {he : List Int} {th : List Int} {sl : List Int} {tr : Nat} {bo : List Int} {X : Nat} (hX60 : X ≤ 60) : ∀ (m k : Nat) (h : HP), k + m = X → MI (h) n G ((dwF n G z k).2) c ks es ik kn kG kz kc kks kes tc tb sc tl so le it he th sl tr bo → ∃ h', MI (h') n G ((dwF n G z X).2) c ks es ik kn kG kz kc kks kes tc tb sc tl so le it he th sl tr bo ∧ Fr 54 83 h h' ∧ ∀ R : PO, AWh (d + 99) [] 254 R 12 [some (mR 54), some (mI (X : Int)), some (mI (dwF n G z k).1), some (mI (k : Int))] [] h (0, 0) ↔ R (some (mI (dwF n G z X).1)) h' := by
  intro m
  induction m with
  | zero =>
    intro k h hk hX
    have e : k = X := by omega
    subst e
    have bk : k < 2147483648 := by omega
    refine ⟨h, hX, Fr_refl h, fun R => ?_⟩
    rw [AWh_k, k_X11_drawn_12]
    simp only [AW_k, AWk_1, x_iload_3, x_iload_1, x_icmp_ge, x_iload_2, x_ret, x_ret_i, x_ret_z, x_ret_l, x_ret_c, k_X11_drawn_12, k_X11_drawn_13, k_X11_drawn_14, k_X11_drawn_28, k_X11_drawn_29, oE_some, Int.reduceToNat, Nat.reduceAdd, true_and, and_true, List.length_cons, List.length_nil, Option.toList_some, Option.toList_none, List.cons_append, List.nil_append, Nat.reduceLeDiff, Nat.le_refl, wdS_nil, wdS_i, wdS_l, wdS_r, wdS_n, wdS_s, w32_nat bk, Int.lt_irrefl, ↓reduceIte]
  | succ m ih =>
    intro k hp hk hX
    obtain ⟨hA0, -⟩ := MI_G hX
    have h1 := hA0.1.1.1
    have h6 := hA0.1.1.2
    have cK := cM hA0.1
    obtain ⟨h1', w1, w2, w3⟩ := m_rowByLot (d + 96) hX
    obtain ⟨h', v1, v2, v3⟩ := ih (k + 1) h1' (by omega) w1
    refine ⟨h', v1, Fr_trans w2 v2, fun R => Iff.trans ?_ (v3 R)⟩
    obtain ⟨hA1, hG1⟩ := MI_G w1
    have bk : k < 2147483648 := by omega
    have bX : X < 2147483648 := by omega
    have n1 : ((k : Int) < (X : Int)) = True := eq_true (by omega)
    have e1 : (k : Int) + 1 = ((k + 1 : Nat) : Int) := by omega
    obtain ⟨i, hi, ei⟩ := prm_row h1 h6 (prm_dr (n - 1) (dwF n G z k).2 (l1n n) (by omega) (prm_1 h6))
    have ei : num n i = nuF (drT n (dwF n G z k).2) n := ei
    have ex := ixo_of h1 h6 hi
    rw [ei] at ex
    have eb : dwB n G (dwF n G z k).2 = isL n G i := by unfold dwB; rw [ex]
    have w3 : ∀ R : PO, callD (d + 99) 253 [mR 54] hp R ↔ R (some (mI ((num n i : Nat) : Int))) h1' := by rw [ei]; exact w3
    rw [dwF_succ, eb]
    rw [AWh_k, k_X11_drawn_12]
    cases e : isL n G i with
    | true =>
      simp only [AW_k, AWk_1, x_iload_3, x_iload_1, x_icmp_ge, x_iload_2, x_aload_0, x_aloads_0, x_callv_1, x_callv_2, x_if_eq, x_push_i, x_push_l, x_goto, x_iadd, x_istore_2, x_iinc_3, unl_i, unl_l, unl_q, unl_r, unl_s, unl_n, k_X11_drawn_12, k_X11_drawn_13, k_X11_drawn_14, k_X11_drawn_15, k_X11_drawn_16, k_X11_drawn_17, k_X11_drawn_18, k_X11_drawn_19, k_X11_drawn_20, k_X11_drawn_21, k_X11_drawn_22, k_X11_drawn_23, k_X11_drawn_24, k_X11_drawn_25, k_X11_drawn_26, k_X11_drawn_27, oE_some, Int.reduceToNat, Nat.reduceAdd, true_and, and_true, List.length_cons, List.length_nil, Option.toList_some, Option.toList_none, List.cons_append, List.nil_append, Nat.reduceLeDiff, Nat.le_refl, wdS_nil, wdS_i, wdS_l, wdS_r, wdS_n, wdS_s, w32_nat bk, w32_nat bX, n1, cK, cM hA1.1, w3, m_isLeast (d + 95) hA1 hG1 hi, e, zI_t, w10, e1, ↓reduceIte]
      all_goals exact Iff.rfl
    | false =>
      simp only [AW_k, AWk_1, x_iload_3, x_iload_1, x_icmp_ge, x_iload_2, x_aload_0, x_aloads_0, x_callv_1, x_callv_2, x_if_eq, x_push_i, x_push_l, x_goto, x_iadd, x_istore_2, x_iinc_3, unl_i, unl_l, unl_q, unl_r, unl_s, unl_n, k_X11_drawn_12, k_X11_drawn_13, k_X11_drawn_14, k_X11_drawn_15, k_X11_drawn_16, k_X11_drawn_17, k_X11_drawn_18, k_X11_drawn_19, k_X11_drawn_20, k_X11_drawn_21, k_X11_drawn_22, k_X11_drawn_23, k_X11_drawn_24, k_X11_drawn_25, k_X11_drawn_26, k_X11_drawn_27, oE_some, Int.reduceToNat, Nat.reduceAdd, true_and, and_true, List.length_cons, List.length_nil, Option.toList_some, Option.toList_none, List.cons_append, List.nil_append, Nat.reduceLeDiff, Nat.le_refl, wdS_nil, wdS_i, wdS_l, wdS_r, wdS_n, wdS_s, w32_nat bk, w32_nat bX, n1, cK, cM hA1.1, w3, m_isLeast (d + 95) hA1 hG1 hi, e, zI_f, w00, e1, ↓reduceIte]
      all_goals exact Iff.rfl
theorem qq60_I : (60#64).toInt = 60 := by decide
set_option maxHeartbeats 16000000 in
theorem x_drawn_m (d : Nat) {hp : HP} {n : Nat} {G : BitVec 64} {z : Int} {c : Nat} {ks : List Int} {es : List Int} {ik : Bool} {kn : Nat} {kG : BitVec 64} {kz : Int} {kc : Nat} {kks : List Int} {kes : List Int} {tc : Nat} {tb : List Int} {sc : Nat} {tl : List Int} {so : List Int} {le : List Int} {it : Nat → List (BitVec 64)} {he : List Int} {th : List Int} {sl : List Int} {tr : Nat} {bo : List Int} {x : Int} (hX : MI (hp) n G z c ks es ik kn kG kz kc kks kes tc tb sc tl so le it he th sl tr bo) (hx : w32 x = x) : ∃ h', MI (h') n G (if 1 ≤ x ∧ x ≤ 60 then (dwF n G z x.toNat).2 else z) c ks es ik kn kG kz kc kks kes tc tb sc tl so le it he th sl tr bo ∧ Fr 54 83 hp h' ∧ ∀ R : PO, callD (d + 100) 254 [mR 54, mI x] hp R ↔ R (some (mI (if 1 ≤ x ∧ x ≤ 60 then (dwF n G z x.toNat).1 else -1))) h' := by
  by_cases hin : 1 ≤ x ∧ x ≤ 60
  · have d1 : inI x 1 60 = true := decide_eq_true hin
    rw [if_pos hin, if_pos hin]
    obtain ⟨X, eX⟩ : ∃ X : Nat, x = (X : Int) := ⟨x.toNat, by clear hx; omega⟩
    subst eX
    have h60 : X ≤ 60 := by clear hx; omega
    rw [Int.toNat_natCast]
    obtain ⟨h', w1, w2, w3⟩ := m_dwLoop d (z := z) (G := G) (n := n) h60 X 0 hp (Nat.zero_add X) hX
    refine ⟨h', w1, w2, fun R => Iff.trans ?_ (w3 R)⟩
    rw [callD_k]; simp only [entL_i, entL_l, entL_q, entL_s, entL_nil, n_X11_drawn, u_X11_drawn, m_X11_drawn, rep_2, List.cons_append, List.nil_append, List.append_nil, List.length_cons, List.length_nil, Nat.reduceAdd, true_and]
    simp only [AW_k, AWk_1, x_iload_1, x_i2l, x_push_i, x_push_l, x_call_3, x_if_ne, x_ret, x_ret_i, x_ret_z, x_ret_l, x_ret_c, x_istore_2, x_istore_3, x_iload_3, unl_i, unl_l, unl_q, unl_r, unl_s, unl_n, k_X11_drawn_0, k_X11_drawn_1, k_X11_drawn_2, k_X11_drawn_3, k_X11_drawn_4, k_X11_drawn_5, k_X11_drawn_6, k_X11_drawn_7, k_X11_drawn_8, k_X11_drawn_9, k_X11_drawn_10, k_X11_drawn_11, k_X11_drawn_12, oE_some, Int.reduceToNat, Nat.reduceAdd, true_and, and_true, List.length_cons, List.length_nil, Option.toList_some, Option.toList_none, List.cons_append, List.nil_append, Nat.reduceLeDiff, Nat.le_refl, wdS_nil, wdS_i, wdS_l, wdS_r, wdS_n, wdS_s, m_in (d + 98), tI_id hx, one_long, qq60_I, d1, zI_t, w10, ↓reduceIte]
    all_goals exact Iff.rfl
  · have d1 : inI x 1 60 = false := decide_eq_false hin
    rw [if_neg hin, if_neg hin]
    refine ⟨hp, hX, Fr_refl hp, fun R => ?_⟩
    rw [callD_k]; simp only [entL_i, entL_l, entL_q, entL_s, entL_nil, n_X11_drawn, u_X11_drawn, m_X11_drawn, rep_2, List.cons_append, List.nil_append, List.append_nil, List.length_cons, List.length_nil, Nat.reduceAdd, true_and]
    simp only [AW_k, AWk_1, x_iload_1, x_i2l, x_push_i, x_push_l, x_call_3, x_if_ne, x_ret, x_ret_i, x_ret_z, x_ret_l, x_ret_c, k_X11_drawn_0, k_X11_drawn_1, k_X11_drawn_2, k_X11_drawn_3, k_X11_drawn_4, k_X11_drawn_5, k_X11_drawn_6, k_X11_drawn_7, oE_some, Int.reduceToNat, Nat.reduceAdd, true_and, and_true, List.length_cons, List.length_nil, Option.toList_some, Option.toList_none, List.cons_append, List.nil_append, Nat.reduceLeDiff, Nat.le_refl, wdS_nil, wdS_i, wdS_l, wdS_r, wdS_n, wdS_s, m_in (d + 98), tI_id hx, one_long, qq60_I, d1, zI_f, w00, ↓reduceIte]
