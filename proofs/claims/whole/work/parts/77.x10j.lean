/-! ===== the class's own methods: rows by lot ===== -/
def zN (z : Int) : Int := z * 1103515245 + 12345
def zq (z : Int) : Nat := ((z % 4294967296) / 65536).toNat
theorem zq_eq (z : Int) : iUshr z 16 = ((zq z : Nat) : Int) ∧ zq z < 65536 := by
  have e : iUshr z 16 = (z % 4294967296) / 65536 := rfl
  rw [e]
  unfold zq
  omega
/-- two change places -/
def swL (l : List Nat) (p q : Nat) : List Nat := (l.set p (l.getD q 0)).set q (l.getD p 0)
def drS : Nat → Int → List Nat → Int × List Nat
  | 0, z, l => (z, l)
  | p + 1, z, l => drS p (zN z) (swL l (p + 1) (zq (zN z) % (p + 2)))
theorem drS_succ (p : Nat) (z : Int) (l : List Nat) : drS (p + 1) z l = drS p (zN z) (swL l (p + 1) (zq (zN z) % (p + 2))) := rfl
def nuF (l : List Nat) : Nat → Nat
  | 0 => 0
  | k + 1 => nuF l k * 10 + l.getD k 0
theorem nuF_succ (l : List Nat) (k : Nat) : nuF l (k + 1) = nuF l k * 10 + l.getD k 0 := rfl
def l1n (n : Nat) : List Nat := (List.range n).map (fun k => k + 1)
def drZ (n : Nat) (z : Int) : Int := (drS (n - 1) z (l1n n)).1
def drT (n : Nat) (z : Int) : List Nat := (drS (n - 1) z (l1n n)).2
/-- the lots' array -/
def loR (a : List Int) (l : List Nat) (n : Nat) : Prop := a.length = 6 ∧ l.length = n ∧ ∀ k, k < n → a.getD k 0 = ((l.getD k 0 : Nat) : Int)
theorem swL_len (l : List Nat) (p q : Nat) : (swL l p q).length = l.length := by unfold swL; rw [List.length_set, List.length_set]
theorem loR_sw {a : List Int} {l : List Nat} {n p q : Nat} (h : loR a l n) (hp : p < n) (hq : q < n) (h6 : n ≤ 6) : loR ((a.set p (a.getD q 0)).set q (a.getD p 0)) (swL l p q) n := by
  obtain ⟨h1, h2, h3⟩ := h
  refine ⟨by rw [List.length_set, List.length_set]; exact h1, by rw [swL_len]; exact h2, fun k hk => ?_⟩
  unfold swL
  rw [getD_set (l := a.set p (a.getD q 0)) (by rw [List.length_set]; omega), getD_set (l := l.set p (l.getD q 0)) (by rw [List.length_set]; omega), getD_set (l := a) (by omega), getD_set (l := l) (by omega)]
  by_cases e : q = k
  · rw [if_pos e, if_pos e, h3 p hp]
  · rw [if_neg e, if_neg e]
    by_cases e2 : p = k
    · rw [if_pos e2, if_pos e2, h3 q hq]
    · rw [if_neg e2, if_neg e2, h3 k hk]
theorem XI_33 {hp : HP} {n : Nat} {G : BitVec 64} {z : Int} {c : Nat} {ks : List Int} {es : List Int} {ik : Bool} {kn : Nat} {kG : BitVec 64} {kz : Int} {kc : Nat} {kks : List Int} {kes : List Int} {tc : Nat} {tb : List Int} {sc : Nat} {tl : List Int} {so : List Int} {le : List Int} {it : Nat → List (BitVec 64)} {he : List Int} {th : List Int} {sl : List Int} {tr : Nat} {bo : List Int} {a b : List Int} (hX : XI hp n G z c ks es ik kn kG kz kc kks kes tc tb sc tl so le it he th sl tr bo) (ha : gA hp 33 = some a) (hb : b.length = 6) : XI ((pA hp 33 b)) n G z c ks es ik kn kG kz kc kks kes tc tb sc tl so le it he th sl tr bo ∧ gA (pA hp 33 b) 33 = some b ∧ Fr 0 34 hp (pA hp 33 b) := by
  have f : Fr 33 34 hp (pA hp 33 b) := Fr_pA (by omega) (by omega)
  exact ⟨XI_Q hX f ⟨b, gA_pA_same ha, hb⟩, gA_pA_same ha, Fr_mono f (by omega) (by omega)⟩
theorem XI_12 {hp : HP} {n : Nat} {G : BitVec 64} {z : Int} {c : Nat} {ks : List Int} {es : List Int} {ik : Bool} {kn : Nat} {kG : BitVec 64} {kz : Int} {kc : Nat} {kks : List Int} {kes : List Int} {tc : Nat} {tb : List Int} {sc : Nat} {tl : List Int} {so : List Int} {le : List Int} {it : Nat → List (BitVec 64)} {he : List Int} {th : List Int} {sl : List Int} {tr : Nat} {bo : List Int} (hX : XI hp n G z c ks es ik kn kG kz kc kks kes tc tb sc tl so le it he th sl tr bo) : gF hp 0 10 12 = some (mR 33) ∧ gF hp 0 10 3 = some (mI z) := by
  obtain ⟨ra, ts, q0, q1, q2, q3, q4, q5, q6, q7, q8, q9, q10, q11, qk⟩ := hX
  have hR := q1.1
  have h1 := rw_1 hR
  have h6 := rw_6 hR
  have f1 := FC_le n
  have cR := rC0 hR
  have cA := rC1 hR
  have o0 : gF hp 0 10 0 = some (mR 1) := XO_F q0 0
  have o1 : gF hp 0 10 1 = some (mR ra) := XO_F q0 1
  have o2 : gF hp 0 10 2 = some (mL G) := XO_F q0 2
  have o3 : gF hp 0 10 3 = some (mI z) := XO_F q0 3
  have o4 : gF hp 0 10 4 = some (mR 2) := XO_F q0 4
  have o5 : gF hp 0 10 5 = some (mR 5) := XO_F q0 5
  have o6 : gF hp 0 10 6 = some (mR 10) := XO_F q0 6
  have o7 : gF hp 0 10 7 = some (mR 14) := XO_F q0 7
  have o8 : gF hp 0 10 8 = some (mR 17) := XO_F q0 8
  have o9 : gF hp 0 10 9 = some (mR 19) := XO_F q0 9
  have o10 : gF hp 0 10 10 = some (mR 27) := XO_F q0 10
  have o11 : gF hp 0 10 11 = some (mR 31) := XO_F q0 11
  have o12 : gF hp 0 10 12 = some (mR 33) := XO_F q0 12
  have o13 : gF hp 0 10 13 = some (mI (zI ik)) := XO_F q0 13
  have o14 : gF hp 0 10 14 = some (mI (kn : Int)) := XO_F q0 14
  have o15 : gF hp 0 10 15 = some (mL kG) := XO_F q0 15
  have o16 : gF hp 0 10 16 = some (mI kz) := XO_F q0 16
  have o17 : gF hp 0 10 17 = some (mR 34) := XO_F q0 17
  have cO := gC_of o0
  exact ⟨o12, o3⟩
set_option maxHeartbeats 16000000 in
theorem dr_fill (d : Nat) {n : Nat} {G : BitVec 64} {z : Int} {c : Nat} {ks : List Int} {es : List Int} {ik : Bool} {kn : Nat} {kG : BitVec 64} {kz : Int} {kc : Nat} {kks : List Int} {kes : List Int} {tc : Nat} {tb : List Int} {sc : Nat} {tl : List Int} {so : List Int} {le : List Int} {it : Nat → List (BitVec 64)} {he : List Int} {th : List Int} {sl : List Int} {tr : Nat} {bo : List Int} (h6 : n ≤ 6) {y3 y4 : Option AV} : ∀ (m k : Nat) (h : HP) (a : List Int), k + m = n → XI h n G z c ks es ik kn kG kz kc kks kes tc tb sc tl so le it he th sl tr bo → gA h 33 = some a → a.length = 6 → (∀ p, p < k → a.getD p 0 = ((p + 1 : Nat) : Int)) → ∃ h' a', XI h' n G z c ks es ik kn kG kz kc kks kes tc tb sc tl so le it he th sl tr bo ∧ gA h' 33 = some a' ∧ loR a' (l1n n) n ∧ Fr 0 34 h h' ∧ ∀ R : PO, AWh (d + 4) [] 139 R 6 [some (mR 0), some (mI (n : Int)), some (mI (k : Int)), y3, y4] [] h (0, 0) ↔ AWk (d + 4) [] 139 R 18 (cd 139 18) [some (mR 0), some (mI (n : Int)), some (mI (n : Int)), y3, y4] [] h' (0, 0) := by
  intro m
  induction m with
  | zero =>
    intro k h a hk hX ha hl hp
    have e : k = n := by omega
    subst e
    refine ⟨h, a, hX, ha, ⟨hl, by unfold l1n; rw [List.length_map, List.length_range], fun p hp2 => ?_⟩, Fr_refl h, fun R => ?_⟩
    · unfold l1n
      rw [hp p hp2, List.getD_eq_getElem?_getD, List.getElem?_map, List.getElem?_range hp2]
      rfl
    · rw [AWh_k, k_X10_drawRow_6]
      simp only [AW_k, AWk_1, x_iload_2, x_iload_1, x_icmp_ge, k_X10_drawRow_6, k_X10_drawRow_7, k_X10_drawRow_8, oE_some, Int.reduceToNat, Nat.reduceAdd, true_and, and_true, List.length_cons, List.length_nil, Option.toList_some, Option.toList_none, List.cons_append, List.nil_append, Nat.reduceLeDiff, Nat.le_refl, wdS_nil, wdS_i, wdS_l, wdS_r, wdS_n, wdS_s]
      rw [if_neg (Int.lt_irrefl _)]
  | succ m ih =>
    intro k h a hk hX ha hl hp
    have bk : k < 2147483648 := by omega
    have bn : n < 2147483648 := by omega
    have hk6 : k < 6 := by omega
    have n1 : ((k : Int) < (n : Int)) = True := eq_true (by omega)
    have e1 : (k : Int) + 1 = ((k + 1 : Nat) : Int) := by omega
    obtain ⟨g12, -⟩ := XI_12 hX
    obtain ⟨u1, u2, u3⟩ := XI_33 (b := a.set k ((k + 1 : Nat) : Int)) hX ha (by rw [List.length_set]; exact hl)
    obtain ⟨h', a', v1, v2, v3, v4, v5⟩ := ih (k + 1) _ _ (by omega) u1 u2 (by rw [List.length_set]; exact hl) (by
      intro p hp2
      rw [getD_set (by omega)]
      by_cases e : k = p
      · rw [if_pos e, e]
      · rw [if_neg e]; exact hp p (by omega))
    refine ⟨h', a', v1, v2, v3, Fr_trans u3 v4, fun R => Iff.trans ?_ (v5 R)⟩
    have ib : inB (k : Int) a.length := by rw [hl]; exact inB_n hk6 (by decide)
    rw [AWh_k, k_X10_drawRow_6]
    simp only [AW_k, AWk_1, x_iload_2, x_iload_1, x_icmp_ge, x_aload_0, x_aloads_0, x_getf, x_push_i, x_push_l, x_iadd, x_iast, x_iinc_2, x_goto, unl_i, unl_l, unl_q, unl_r, unl_s, unl_n, k_X10_drawRow_6, k_X10_drawRow_7, k_X10_drawRow_8, k_X10_drawRow_9, k_X10_drawRow_10, k_X10_drawRow_11, k_X10_drawRow_12, k_X10_drawRow_13, k_X10_drawRow_14, k_X10_drawRow_15, k_X10_drawRow_16, k_X10_drawRow_17, oE_some, Int.reduceToNat, Nat.reduceAdd, true_and, and_true, List.length_cons, List.length_nil, Option.toList_some, Option.toList_none, List.cons_append, List.nil_append, Nat.reduceLeDiff, Nat.le_refl, wdS_nil, wdS_i, wdS_l, wdS_r, wdS_n, wdS_s, w32_nat bk, w32_nat bn, n1, g12, ha, ib, Int.toNat_natCast, e1, ↓reduceIte]
set_option maxHeartbeats 16000000 in
theorem dr_mix (d : Nat) {n : Nat} {G : BitVec 64} {z : Int} {c : Nat} {ks : List Int} {es : List Int} {ik : Bool} {kn : Nat} {kG : BitVec 64} {kz : Int} {kc : Nat} {kks : List Int} {kes : List Int} {tc : Nat} {tb : List Int} {sc : Nat} {tl : List Int} {so : List Int} {le : List Int} {it : Nat → List (BitVec 64)} {he : List Int} {th : List Int} {sl : List Int} {tr : Nat} {bo : List Int} (h6 : n ≤ 6) : ∀ (p : Nat) (h : HP) (z : Int) (a : List Int) (l : List Nat) (y3 y4 : Option AV), p < n → XI h n G z c ks es ik kn kG kz kc kks kes tc tb sc tl so le it he th sl tr bo → gA h 33 = some a → loR a l n → ∃ h' a' y3' y4', XI h' n G ((drS p z l).1) c ks es ik kn kG kz kc kks kes tc tb sc tl so le it he th sl tr bo ∧ gA h' 33 = some a' ∧ loR a' (drS p z l).2 n ∧ Fr 0 34 h h' ∧ ∀ R : PO, AWh (d + 4) [] 139 R 22 [some (mR 0), some (mI (n : Int)), some (mI (p : Int)), y3, y4] [] h (0, 0) ↔ AWk (d + 4) [] 139 R 61 (cd 139 61) [some (mR 0), some (mI (n : Int)), some (mI 0), y3', y4'] [] h' (0, 0) := by
  intro p
  induction p with
  | zero =>
    intro h z a l y3 y4 hp hX ha hl
    refine ⟨h, a, y3, y4, hX, ha, hl, Fr_refl h, fun R => ?_⟩
    rw [AWh_k, k_X10_drawRow_22]
    simp only [AW_k, AWk_1, x_iload_2, x_if_le, k_X10_drawRow_22, k_X10_drawRow_23, oE_some, Int.reduceToNat, Nat.reduceAdd, true_and, and_true, List.length_cons, List.length_nil, Option.toList_some, Option.toList_none, List.cons_append, List.nil_append, Nat.reduceLeDiff, Nat.le_refl, wdS_nil, wdS_i, wdS_l, wdS_r, wdS_n, wdS_s]
    rw [if_neg (by decide)]
    exact Iff.rfl
  | succ p ih =>
    intro h z a l y3 y4 hp hX ha hl
    obtain ⟨g12, g3⟩ := XI_12 hX
    have bp : p + 1 < 2147483648 := by omega
    have bp2 : p + 2 < 2147483648 := by omega
    have n1 : ((0 : Int) < ((p + 1 : Nat) : Int)) = True := eq_true (by omega)
    have e1 : ((p + 1 : Nat) : Int) + 1 = ((p + 2 : Nat) : Int) := by omega
    have e2 : ((p + 1 : Nat) : Int) + -1 = (p : Int) := by omega
    obtain ⟨zk, zl⟩ := zq_eq (zN z)
    have zl2 : zq (zN z) < 2147483648 := by omega
    have hq : zq (zN z) % (p + 2) < p + 2 := Nat.mod_lt _ (by omega)
    obtain ⟨q, eq0⟩ : ∃ q, zq (zN z) % (p + 2) = q := ⟨_, rfl⟩
    rw [eq0] at hq
    have hqn : q < n := by omega
    have bq : q < 2147483648 := by omega
    have hp6 : p + 1 < 6 := by omega
    have hq6 : q < 6 := by omega
    have hpn : p < n := by omega
    have hl2 := loR_sw hl hp hqn h6
    have X1 : XI ((pF h 0 10 3 (mI (zN z)))) n G (zN z) c ks es ik kn kG kz kc kks kes tc tb sc tl so le it he th sl tr bo := XI_oz hX
    obtain ⟨g12', g3'⟩ := XI_12 X1
    have ha1 : gA (pF h 0 10 3 (mI (zN z))) 33 = some a := by rw [gA_pF, ha]
    obtain ⟨u1, u2, u3⟩ := XI_33 (b := (a.set (p + 1) (a.getD q 0)).set q (a.getD (p + 1) 0)) X1 ha1 hl2.1
    obtain ⟨h', a', y3', y4', v1, v2, v3, v4, v5⟩ := ih _ (zN z) _ (swL l (p + 1) q) (some (mI (q : Int))) (some (mI (a.getD (p + 1) 0))) hpn u1 u2 hl2
    rw [drS_succ, eq0]
    refine ⟨h', a', y3', y4', v1, v2, v3, Fr_trans (Fr_pF (Nat.le_refl _) (by omega)) (Fr_trans u3 v4), fun R => Iff.trans ?_ (v5 R)⟩
    have ip : inB ((p + 1 : Nat) : Int) 6 := inB_n hp6 (by decide)
    have iq : inB (q : Int) 6 := inB_n hq6 (by decide)
    have la := hl.1
    have wne : (w32 ((p + 2 : Nat) : Int) = 0) = False := eq_false (by rw [w32_nat bp2]; omega)
    have em : Int.tmod (w32 ((zq (zN z) : Nat) : Int)) (w32 ((p + 2 : Nat) : Int)) = (q : Int) := by rw [← eq0]; exact w_mod zl2 bp2
    have ga2 : ∀ m : List Int, gA (pA (pF h 0 10 3 (mI (zN z))) 33 m) 33 = some m := fun m => gA_pA_same ha1
    have gf2 : ∀ m : List Int, gF (pA (pF h 0 10 3 (mI (zN z))) 33 m) 0 10 12 = some (mR 33) := fun m => by rw [gF_pA, g12']
    rw [w32_nat bp2] at wne em
    rw [w32_nat zl2] at em
    rw [AWh_k, k_X10_drawRow_22]
    simp only [AW_k, AWk_1, x_iload_2, x_if_le, x_aload_0, x_aloads_0, x_getf, x_push_i, x_push_l, x_imul, x_iadd, x_putf_i, x_iushr, x_irem, x_istore_3, x_iald, x_ialds, x_istore_4, x_iload_3, x_iast, x_iload_4, x_iinc_2, x_goto, unl_i, unl_l, unl_q, unl_r, unl_s, unl_n, k_X10_drawRow_22, k_X10_drawRow_23, k_X10_drawRow_24, k_X10_drawRow_25, k_X10_drawRow_26, k_X10_drawRow_27, k_X10_drawRow_28, k_X10_drawRow_29, k_X10_drawRow_30, k_X10_drawRow_31, k_X10_drawRow_32, k_X10_drawRow_33, k_X10_drawRow_34, k_X10_drawRow_35, k_X10_drawRow_36, k_X10_drawRow_37, k_X10_drawRow_38, k_X10_drawRow_39, k_X10_drawRow_40, k_X10_drawRow_41, k_X10_drawRow_42, k_X10_drawRow_43, k_X10_drawRow_44, k_X10_drawRow_45, k_X10_drawRow_46, k_X10_drawRow_47, k_X10_drawRow_48, k_X10_drawRow_49, k_X10_drawRow_50, k_X10_drawRow_51, k_X10_drawRow_52, k_X10_drawRow_53, k_X10_drawRow_54, k_X10_drawRow_55, k_X10_drawRow_56, k_X10_drawRow_57, k_X10_drawRow_58, k_X10_drawRow_59, k_X10_drawRow_60, oE_some, Int.reduceToNat, Nat.reduceAdd, true_and, and_true, List.length_cons, List.length_nil, Option.toList_some, Option.toList_none, List.cons_append, List.nil_append, Nat.reduceLeDiff, Nat.le_refl, wdS_nil, wdS_i, wdS_l, wdS_r, wdS_n, wdS_s, w32_nat bp, n1, g3, show z * 1103515245 + 12345 = zN z from rfl, g3', zk, e1, e2, w32_nat bp2, w32_nat zl2, em, wne, not_false_eq_true, g12', ha1, la, ip, iq, w32_nat bq, Int.toNat_natCast, ga2, gf2, List.length_set, pA_pA, ↓reduceIte]
theorem nuF_bd {l : List Nat} (h : ∀ k, l.getD k 0 ≤ 9) : ∀ k, nuF l k < 10 ^ k := by
  intro k
  induction k with
  | zero => exact Nat.one_pos
  | succ k ih =>
    rw [nuF_succ, Nat.pow_succ]
    have := h k
    omega
theorem swL_9 {l : List Nat} {p q : Nat} (h : ∀ k, l.getD k 0 ≤ 9) : ∀ k, (swL l p q).getD k 0 ≤ 9 := by
  intro k
  unfold swL
  have s1 : ∀ (m : List Nat) (j x : Nat), x ≤ 9 → (∀ k, m.getD k 0 ≤ 9) → ∀ k, (m.set j x).getD k 0 ≤ 9 := by
    intro m j x hx hm k
    by_cases c : j < m.length
    · rw [getD_set c]
      split
      · exact hx
      · exact hm k
    · rw [List.set_eq_of_length_le (by omega)]; exact hm k
  exact s1 _ _ _ (h p) (s1 _ _ _ (h q) h) k
theorem drS_9 : ∀ (p : Nat) (z : Int) (l : List Nat), (∀ k, l.getD k 0 ≤ 9) → ∀ k, (drS p z l).2.getD k 0 ≤ 9 := by
  intro p
  induction p with
  | zero => intro z l h; exact h
  | succ p ih => intro z l h; rw [drS_succ]; exact ih _ _ (swL_9 h)
theorem l1n_9 {n : Nat} (h6 : n ≤ 6) : ∀ k, (l1n n).getD k 0 ≤ 9 := by
  intro k
  unfold l1n
  rw [List.getD_eq_getElem?_getD, List.getElem?_map]
  by_cases c : k < n
  · rw [List.getElem?_range c]
    show k + 1 ≤ 9
    omega
  · rw [List.getElem?_eq_none (by rw [List.length_range]; omega)]
    exact Nat.zero_le _
set_option maxHeartbeats 16000000 in
theorem x10_drawRow (d : Nat) {hp : HP} {n : Nat} {G : BitVec 64} {z : Int} {c : Nat} {ks : List Int} {es : List Int} {ik : Bool} {kn : Nat} {kG : BitVec 64} {kz : Int} {kc : Nat} {kks : List Int} {kes : List Int} {tc : Nat} {tb : List Int} {sc : Nat} {tl : List Int} {so : List Int} {le : List Int} {it : Nat → List (BitVec 64)} {he : List Int} {th : List Int} {sl : List Int} {tr : Nat} {bo : List Int} (hX : XI hp n G z c ks es ik kn kG kz kc kks kes tc tb sc tl so le it he th sl tr bo) : ∃ h', XI h' n G (drZ n z) c ks es ik kn kG kz kc kks kes tc tb sc tl so le it he th sl tr bo ∧ Fr 0 34 hp h' ∧ ∀ R : PO, callD (d + 5) 139 [mR 0] hp R ↔ R (some (mI ((nuF (drT n z) n : Nat) : Int))) h' := by
  have hX0 := hX
  obtain ⟨ra, ts, q0, q1, q2, q3, q4, q5, q6, q7, q8, q9, q10, q11, qk⟩ := hX
  have hR := q1.1
  have h1 := rw_1 hR
  have h6 := rw_6 hR
  have f1 := FC_le n
  have cR := rC0 hR
  have cA := rC1 hR
  have o0 : gF hp 0 10 0 = some (mR 1) := XO_F q0 0
  have o1 : gF hp 0 10 1 = some (mR ra) := XO_F q0 1
  have o2 : gF hp 0 10 2 = some (mL G) := XO_F q0 2
  have o3 : gF hp 0 10 3 = some (mI z) := XO_F q0 3
  have o4 : gF hp 0 10 4 = some (mR 2) := XO_F q0 4
  have o5 : gF hp 0 10 5 = some (mR 5) := XO_F q0 5
  have o6 : gF hp 0 10 6 = some (mR 10) := XO_F q0 6
  have o7 : gF hp 0 10 7 = some (mR 14) := XO_F q0 7
  have o8 : gF hp 0 10 8 = some (mR 17) := XO_F q0 8
  have o9 : gF hp 0 10 9 = some (mR 19) := XO_F q0 9
  have o10 : gF hp 0 10 10 = some (mR 27) := XO_F q0 10
  have o11 : gF hp 0 10 11 = some (mR 31) := XO_F q0 11
  have o12 : gF hp 0 10 12 = some (mR 33) := XO_F q0 12
  have o13 : gF hp 0 10 13 = some (mI (zI ik)) := XO_F q0 13
  have o14 : gF hp 0 10 14 = some (mI (kn : Int)) := XO_F q0 14
  have o15 : gF hp 0 10 15 = some (mL kG) := XO_F q0 15
  have o16 : gF hp 0 10 16 = some (mI kz) := XO_F q0 16
  have o17 : gF hp 0 10 17 = some (mR 34) := XO_F q0 17
  have cO := gC_of o0
  obtain ⟨a, ha, hl⟩ := q10
  obtain ⟨h1', a1, u1, u2, u3, u4, u5⟩ := dr_fill d h6 (y3 := none) (y4 := none) n 0 hp a (Nat.zero_add n) hX0 ha hl (fun p hp2 => absurd hp2 (Nat.not_lt_zero p))
  have hn1 : n - 1 < n := by omega
  obtain ⟨h', a', y3', y4', v1, v2, v3, v4, v5⟩ := dr_mix d (z := z) h6 (n - 1) h1' z a1 (l1n n) none none hn1 u1 u2 u3
  refine ⟨h', v1, Fr_trans u4 v4, fun R => ?_⟩
  have e1 : (n : Int) - 1 = ((n - 1 : Nat) : Int) := by omega
  have ez : ((0 : Nat) : Int) = 0 := rfl
  have h18 : AWk (d + 4) [] 139 R 18 (cd 139 18) [some (mR 0), some (mI (n : Int)), some (mI (n : Int)), none, none] [] h1' (0, 0) ↔ AWh (d + 4) [] 139 R 22 [some (mR 0), some (mI (n : Int)), some (mI ((n - 1 : Nat) : Int)), none, none] [] h1' (0, 0) := by
    simp only [AW_k, AWk_1, x_iload_1, x_push_i, x_push_l, x_isub, x_istore_2, x_iload_2, unl_i, unl_l, unl_q, unl_r, unl_s, unl_n, k_X10_drawRow_18, k_X10_drawRow_19, k_X10_drawRow_20, k_X10_drawRow_21, k_X10_drawRow_22, oE_some, Int.reduceToNat, Nat.reduceAdd, true_and, and_true, List.length_cons, List.length_nil, Option.toList_some, Option.toList_none, List.cons_append, List.nil_append, Nat.reduceLeDiff, Nat.le_refl, wdS_nil, wdS_i, wdS_l, wdS_r, wdS_n, wdS_s, e1]
  have b9 := nuF_bd (drS_9 (n - 1) z (l1n n) (l1n_9 h6))
  have v3' : loR a' (drT n z) n := v3
  obtain ⟨g12, -⟩ := XI_12 v1
  have key : ∀ (m k : Nat), k + m = n → (AWh (d + 4) [] 139 R 65 [some (mR 0), some (mI (n : Int)), some (mI ((nuF (drT n z) k : Nat) : Int)), some (mI (k : Int)), y4'] [] h' (0, 0) ↔ R (some (mI ((nuF (drT n z) n : Nat) : Int))) h') := by
    intro m
    induction m with
    | zero =>
      intro k hk
      have e : k = n := by omega
      subst e
      rw [AWh_k, k_X10_drawRow_65]
      simp only [AW_k, AWk_1, x_iload_3, x_iload_1, x_icmp_ge, x_iload_2, x_push_i, x_push_l, x_imul, x_aload_0, x_aloads_0, x_getf, x_iald, x_ialds, x_iadd, x_istore_2, x_iinc_3, x_goto, x_ret, x_ret_i, x_ret_z, x_ret_l, x_ret_c, unl_i, unl_l, unl_q, unl_r, unl_s, unl_n, k_X10_drawRow_65, k_X10_drawRow_66, k_X10_drawRow_67, k_X10_drawRow_68, k_X10_drawRow_69, k_X10_drawRow_70, k_X10_drawRow_71, k_X10_drawRow_72, k_X10_drawRow_73, k_X10_drawRow_74, k_X10_drawRow_75, k_X10_drawRow_76, k_X10_drawRow_77, k_X10_drawRow_78, k_X10_drawRow_79, k_X10_drawRow_80, oE_some, Int.reduceToNat, Nat.reduceAdd, true_and, and_true, List.length_cons, List.length_nil, Option.toList_some, Option.toList_none, List.cons_append, List.nil_append, Nat.reduceLeDiff, Nat.le_refl, wdS_nil, wdS_i, wdS_l, wdS_r, wdS_n, wdS_s]
      rw [if_neg (Int.lt_irrefl _)]
    | succ m ih =>
      intro k hk
      have bk : k < 2147483648 := by omega
      have bn : n < 2147483648 := by omega
      have hk6 : k < 6 := by omega
      have hkn : k < n := by omega
      have n1 : ((k : Int) < (n : Int)) = True := eq_true (by omega)
      have e1 : (k : Int) + 1 = ((k + 1 : Nat) : Int) := by omega
      have e2 : ((nuF (drT n z) k : Nat) : Int) * 10 + (((drT n z).getD k 0 : Nat) : Int) = ((nuF (drT n z) (k + 1) : Nat) : Int) := by rw [nuF_succ]; omega
      have hi := ih (k + 1) (by omega)
      have ga := v3'.2.2 k hkn
      have ib : inB (k : Int) a'.length := by rw [v3'.1]; exact inB_n hk6 (by decide)
      rw [AWh_k, k_X10_drawRow_65]
      simp only [AW_k, AWk_1, x_iload_3, x_iload_1, x_icmp_ge, x_iload_2, x_push_i, x_push_l, x_imul, x_aload_0, x_aloads_0, x_getf, x_iald, x_ialds, x_iadd, x_istore_2, x_iinc_3, x_goto, unl_i, unl_l, unl_q, unl_r, unl_s, unl_n, k_X10_drawRow_65, k_X10_drawRow_66, k_X10_drawRow_67, k_X10_drawRow_68, k_X10_drawRow_69, k_X10_drawRow_70, k_X10_drawRow_71, k_X10_drawRow_72, k_X10_drawRow_73, k_X10_drawRow_74, k_X10_drawRow_75, k_X10_drawRow_76, k_X10_drawRow_77, k_X10_drawRow_78, oE_some, Int.reduceToNat, Nat.reduceAdd, true_and, and_true, List.length_cons, List.length_nil, Option.toList_some, Option.toList_none, List.cons_append, List.nil_append, Nat.reduceLeDiff, Nat.le_refl, wdS_nil, wdS_i, wdS_l, wdS_r, wdS_n, wdS_s, w32_nat bk, w32_nat bn, n1, g12, v2, ib, Int.toNat_natCast, ga, e1, e2, ↓reduceIte]
      exact hi
  rw [callD_k]; simp only [entL_i, entL_l, entL_q, entL_s, entL_nil, n_X10_drawRow, u_X10_drawRow, m_X10_drawRow, rep_4, List.cons_append, List.nil_append, List.append_nil, List.length_cons, List.length_nil, Nat.reduceAdd, true_and]
  simp only [AW_k, AWk_1, x_aload_0, x_aloads_0, x_getf, x_istore_1, x_push_i, x_push_l, x_istore_2, x_iload_2, unl_i, unl_l, unl_q, unl_r, unl_s, unl_n, k_X10_drawRow_0, k_X10_drawRow_1, k_X10_drawRow_2, k_X10_drawRow_3, k_X10_drawRow_4, k_X10_drawRow_5, k_X10_drawRow_6, oE_some, Int.reduceToNat, Nat.reduceAdd, true_and, and_true, List.length_cons, List.length_nil, Option.toList_some, Option.toList_none, List.cons_append, List.nil_append, Nat.reduceLeDiff, Nat.le_refl, wdS_nil, wdS_i, wdS_l, wdS_r, wdS_n, wdS_s, o1, rw_n hR]
  refine (u5 R).trans (h18.trans ((v5 R).trans ?_))
  simp only [AW_k, AWk_1, x_push_i, x_push_l, x_istore_2, x_istore_3, x_iload_3, unl_i, unl_l, unl_q, unl_r, unl_s, unl_n, k_X10_drawRow_61, k_X10_drawRow_62, k_X10_drawRow_63, k_X10_drawRow_64, k_X10_drawRow_65, oE_some, Int.reduceToNat, Nat.reduceAdd, true_and, and_true, List.length_cons, List.length_nil, Option.toList_some, Option.toList_none, List.cons_append, List.nil_append, Nat.reduceLeDiff, Nat.le_refl, wdS_nil, wdS_i, wdS_l, wdS_r, wdS_n, wdS_s]
  exact key n 0 (Nat.zero_add n)
