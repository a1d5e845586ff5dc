/-! ===== the reference's steps from class to class ===== -/
def ML (hp : HP) (G : BitVec 64) (li : List Int) : Prop := gF hp 54 11 3 = some (mL G) ∧ gF hp 54 11 29 = some (mR 68) ∧ gA hp 68 = some li ∧ li.length = 6
theorem ML_pA {hp : HP} {G : BitVec 64} {li l : List Int} (h : ML hp G li) (hl : l.length = 6) : ML (pA hp 68 l) G l := ⟨by rw [gF_pA, h.1], by rw [gF_pA, h.2.1], gA_pA_same h.2.2.1, hl⟩
theorem MA_pA {hp : HP} {n a : Nat} {l : List Int} (h : MA hp n) (ha : 65 ≤ a) : MA (pA hp a l) n := by
  obtain ⟨hK, ⟨g13, g14, g15, g16, g17⟩, l1, l2, l3, l4, ⟨a1, a2, a3, a4⟩, r⟩ := h
  exact ⟨MK_pA hK ⟨by omega, by omega⟩, ⟨by rw [gF_pA, g13], by rw [gF_pA, g14], by rw [gF_pA, g15], by rw [gF_pA, g16], by rw [gF_pA, g17]⟩, l1, l2, l3, l4, ⟨by rw [gA_pA (by omega), a1], by rw [gA_pA (by omega), a2], by rw [gA_pA (by omega), a3], by rw [gJ_pA, a4]⟩, r⟩
/-- the first entries of l are the numbers of ns -/
def preN (n : Nat) (l : List Int) (ns : List Nat) : Prop := ∀ k, k < ns.length → l.getD k 0 = ((num n (ns.getD k 0) : Nat) : Int)
theorem num_ltI {n i j : Nat} (h1 : 1 ≤ n) (h6 : n ≤ 6) (hi : i < FC n) (hj : j < FC n) : (((num n i : Nat) : Int) < ((num n j : Nat) : Int)) = (i < j) := by
  apply propext
  constructor
  · intro e
    apply Decidable.byContradiction
    intro c
    by_cases c2 : i = j
    · subst c2; omega
    · have := num_lt h1 h6 hi (show j < i by omega)
      omega
  · intro e
    have := num_lt h1 h6 hj e
    omega
set_option maxHeartbeats 16000000 in
theorem m_insLoop (d : Nat) {n x : Nat} {G : BitVec 64} {ns : List Nat} (h1 : 1 ≤ n) (h6 : n ≤ 6) (hx : x < FC n) (hb : ∀ y ∈ ns, y < FC n) (hn : ns.length < 6) (y1 wy y3 p : Int) : ∀ (k : Nat) (l1 : List Int) (h : HP), gC h 54 = some 11 → ML h G l1 → k ≤ ns.length → (∀ j, j < k → l1.getD j 0 = ((num n (ns.getD j 0) : Nat) : Int)) → (∀ j, k < j → j ≤ ns.length → l1.getD j 0 = ((num n (ns.getD (j - 1) 0) : Nat) : Int)) → (posS x ns ns.length = posS x ns k) → ∃ l', preN n l' (insS x ns) ∧ l'.length = 6 ∧ ∀ R : PO, AWh (d + 5) [] 236 R 39 [some (mR 54), some (mI y1), some (mI wy), some (mI y3), some (mI (ns.length : Int)), some (mI p), some (mI ((num n x : Nat) : Int)), some (mI (k : Int))] [] h (0, 0) ↔ AWh (d + 5) [] 236 R 14 [some (mR 54), some (mI y1), some (mI wy), some (mI y3), some (mI ((ns.length + 1 : Nat) : Int)), some (mI (p + 1)), some (mI ((num n x : Nat) : Int)), some (mI ((posS x ns ns.length : Nat) : Int))] [] (pA h 68 l') (0, 0) := by
  have fF := FC_le n
  have fin : ∀ (k : Nat) (l1 : List Int) (h : HP), ML h G l1 → k ≤ ns.length → (∀ j, j < k → l1.getD j 0 = ((num n (ns.getD j 0) : Nat) : Int)) → (∀ j, k < j → j ≤ ns.length → l1.getD j 0 = ((num n (ns.getD (j - 1) 0) : Nat) : Int)) → posS x ns ns.length = k → preN n (l1.set k ((num n x : Nat) : Int)) (insS x ns) := by
    intro k l1 h hW hk i1 i2 hpos j hj
    rw [insS_len] at hj
    have hl6 := hW.2.2.2
    rw [insS_get, hpos, getD_set (by omega)]
    by_cases e1 : j < k
    · rw [if_neg (by omega), if_pos e1, i1 j e1]
    · rw [if_neg e1]
      by_cases e2 : j = k
      · rw [if_pos e2.symm, if_pos e2]
      · rw [if_neg (fun q => e2 q.symm), if_neg e2, i2 j (by omega) (by omega)]
  have eL : (ns.length : Int) + 1 = ((ns.length + 1 : Nat) : Int) := by omega
  intro k
  induction k with
  | zero =>
    intro l1 h hC hW hk i1 i2 hpos
    have hl6 := hW.2.2.2
    have hpos0 : posS x ns ns.length = 0 := hpos
    refine ⟨l1.set 0 ((num n x : Nat) : Int), fin 0 l1 h hW hk i1 i2 hpos0, by rw [List.length_set]; exact hl6, fun R => ?_⟩
    rw [hpos0]
    have iB : inB ((0 : Nat) : Int) l1.length := inB_of (x := ((0 : Nat) : Int)) (k := 0) rfl (show 0 < l1.length by omega) (by omega)
    have z0 : w32 ((0 : Nat) : Int) = 0 := rfl
    rw [AWh_k, k_X11_turnsTo_39]
    simp only [AW_k, AWk_1, x_iload_5, x_aload_0, x_aloads_0, x_getf, x_push_i, x_push_l, x_isub, x_icmp_ge, x_iload_3, x_callv_3, x_iload_2, x_if_ne, x_goto, x_icmp_ne, x_callv_2, x_istore_6, x_iload_4, x_istore_7, x_iload_7, x_if_le, x_iald, x_ialds, x_iload_6, x_icmp_le, x_iast, x_iinc_7, x_iinc_4, x_iinc_5, unl_i, unl_l, unl_q, unl_r, unl_s, unl_n, k_X11_turnsTo_14, k_X11_turnsTo_15, k_X11_turnsTo_16, k_X11_turnsTo_17, k_X11_turnsTo_18, k_X11_turnsTo_19, k_X11_turnsTo_20, k_X11_turnsTo_21, k_X11_turnsTo_22, k_X11_turnsTo_23, k_X11_turnsTo_24, k_X11_turnsTo_25, k_X11_turnsTo_26, k_X11_turnsTo_27, k_X11_turnsTo_28, k_X11_turnsTo_29, k_X11_turnsTo_30, k_X11_turnsTo_31, k_X11_turnsTo_32, k_X11_turnsTo_33, k_X11_turnsTo_34, k_X11_turnsTo_35, k_X11_turnsTo_36, k_X11_turnsTo_37, k_X11_turnsTo_38, k_X11_turnsTo_39, k_X11_turnsTo_40, k_X11_turnsTo_41, k_X11_turnsTo_42, k_X11_turnsTo_43, k_X11_turnsTo_44, k_X11_turnsTo_45, k_X11_turnsTo_46, k_X11_turnsTo_47, k_X11_turnsTo_48, k_X11_turnsTo_49, k_X11_turnsTo_50, k_X11_turnsTo_51, k_X11_turnsTo_52, k_X11_turnsTo_53, k_X11_turnsTo_54, k_X11_turnsTo_55, k_X11_turnsTo_56, k_X11_turnsTo_57, k_X11_turnsTo_58, k_X11_turnsTo_59, k_X11_turnsTo_60, k_X11_turnsTo_61, k_X11_turnsTo_62, k_X11_turnsTo_63, k_X11_turnsTo_64, k_X11_turnsTo_65, k_X11_turnsTo_66, k_X11_turnsTo_67, k_X11_turnsTo_68, oE_some, Int.reduceToNat, Nat.reduceAdd, true_and, and_true, List.length_cons, List.length_nil, Option.toList_some, Option.toList_none, List.cons_append, List.nil_append, Nat.reduceLeDiff, Nat.le_refl, wdS_nil, wdS_i, wdS_l, wdS_r, wdS_n, wdS_s, hC, hW.2.1, hW.2.2.1, iB, z0, Int.lt_irrefl, ↓reduceIte, eL, Int.toNat_zero]
    all_goals exact Iff.rfl
  | succ k ih =>
    intro l1 h hC hW hk i1 i2 hpos
    have hl6 := hW.2.2.2
    have ek : ((k + 1 : Nat) : Int) - 1 = (k : Int) := by omega
    have hyb : ns.getD k 0 < FC n := hb _ (getD_mem (by omega))
    have bk : k < 2147483648 := by omega
    have bk1 : k + 1 < 2147483648 := by omega
    have g1 : l1.getD k 0 = ((num n (ns.getD k 0) : Nat) : Int) := i1 k (by omega)
    have iBk : inB (k : Int) l1.length := inB_of (x := (k : Int)) rfl (show k < l1.length by omega) (by omega)
    have iBk1 : inB ((k + 1 : Nat) : Int) l1.length := inB_of (x := ((k + 1 : Nat) : Int)) rfl (show k + 1 < l1.length by omega) (by omega)
    have npos : ((0 : Int) < ((k + 1 : Nat) : Int)) = True := eq_true (by omega)
    have em : ((k + 1 : Nat) : Int) + -1 = (k : Int) := by omega
    have cc := num_ltI h1 h6 hx hyb
    by_cases hc : x < ns.getD k 0
    · have hpos2 : posS x ns ns.length = posS x ns k := by rw [hpos]; show (if _ then _ else _) = _; rw [if_pos hc]
      have hW2 := ML_pA (l := l1.set (k + 1) ((num n (ns.getD k 0) : Nat) : Int)) hW (by rw [List.length_set]; exact hl6)
      obtain ⟨l', p1, p2, p3⟩ := ih (l1.set (k + 1) ((num n (ns.getD k 0) : Nat) : Int)) _ (by rw [gC_pA]; exact hC) hW2 (by omega) (fun j hj => by rw [getD_set (by omega), if_neg (by omega)]; exact i1 j (by omega)) (fun j hj1 hj2 => by
        rw [getD_set (by omega)]
        by_cases e : k + 1 = j
        · rw [if_pos e, ← e]; rfl
        · rw [if_neg e]; exact i2 j (by omega) hj2) hpos2
      refine ⟨l', p1, p2, fun R => ?_⟩
      have p3 := p3 R
      rw [pA_pA] at p3
      have cf : (x < ns.getD k 0) = True := eq_true hc
      rw [AWh_k, k_X11_turnsTo_39]
      simp only [AW_k, AWk_1, x_iload_7, x_if_le, x_aload_0, x_aloads_0, x_getf, x_push_i, x_push_l, x_isub, x_iald, x_ialds, x_iload_6, x_icmp_le, x_iast, x_iinc_7, x_goto, x_iinc_4, x_iinc_5, unl_i, unl_l, unl_q, unl_r, unl_s, unl_n, k_X11_turnsTo_39, k_X11_turnsTo_40, k_X11_turnsTo_41, k_X11_turnsTo_42, k_X11_turnsTo_43, k_X11_turnsTo_44, k_X11_turnsTo_45, k_X11_turnsTo_46, k_X11_turnsTo_47, k_X11_turnsTo_48, k_X11_turnsTo_49, k_X11_turnsTo_50, k_X11_turnsTo_51, k_X11_turnsTo_52, k_X11_turnsTo_53, k_X11_turnsTo_54, k_X11_turnsTo_55, k_X11_turnsTo_56, k_X11_turnsTo_57, k_X11_turnsTo_58, k_X11_turnsTo_59, k_X11_turnsTo_60, k_X11_turnsTo_61, k_X11_turnsTo_62, k_X11_turnsTo_63, k_X11_turnsTo_64, k_X11_turnsTo_65, k_X11_turnsTo_66, k_X11_turnsTo_67, k_X11_turnsTo_68, oE_some, Int.reduceToNat, Nat.reduceAdd, true_and, and_true, List.length_cons, List.length_nil, Option.toList_some, Option.toList_none, List.cons_append, List.nil_append, Nat.reduceLeDiff, Nat.le_refl, wdS_nil, wdS_i, wdS_l, wdS_r, wdS_n, wdS_s, hC, hW.2.1, hW.2.2.1, ek, em, w32_nat bk1, npos, iBk, iBk1, w32_tn bk, Int.toNat_natCast, g1, w32_nat (num_31 h1 h6 hx), w32_nat (num_31 h1 h6 hyb), cc, cf, ↓reduceIte]
      exact p3
    · have hpos2 : posS x ns ns.length = k + 1 := by rw [hpos]; show (if _ then _ else _) = _; rw [if_neg hc]
      refine ⟨l1.set (k + 1) ((num n x : Nat) : Int), fin (k + 1) l1 h hW hk i1 i2 hpos2, by rw [List.length_set]; exact hl6, fun R => ?_⟩
      have cf : (x < ns.getD k 0) = False := eq_false hc
      rw [hpos2]
      rw [AWh_k, k_X11_turnsTo_39]
      simp only [AW_k, AWk_1, x_iload_5, x_aload_0, x_aloads_0, x_getf, x_push_i, x_push_l, x_isub, x_icmp_ge, x_iload_3, x_callv_3, x_iload_2, x_if_ne, x_goto, x_icmp_ne, x_callv_2, x_istore_6, x_iload_4, x_istore_7, x_iload_7, x_if_le, x_iald, x_ialds, x_iload_6, x_icmp_le, x_iast, x_iinc_7, x_iinc_4, x_iinc_5, unl_i, unl_l, unl_q, unl_r, unl_s, unl_n, k_X11_turnsTo_14, k_X11_turnsTo_15, k_X11_turnsTo_16, k_X11_turnsTo_17, k_X11_turnsTo_18, k_X11_turnsTo_19, k_X11_turnsTo_20, k_X11_turnsTo_21, k_X11_turnsTo_22, k_X11_turnsTo_23, k_X11_turnsTo_24, k_X11_turnsTo_25, k_X11_turnsTo_26, k_X11_turnsTo_27, k_X11_turnsTo_28, k_X11_turnsTo_29, k_X11_turnsTo_30, k_X11_turnsTo_31, k_X11_turnsTo_32, k_X11_turnsTo_33, k_X11_turnsTo_34, k_X11_turnsTo_35, k_X11_turnsTo_36, k_X11_turnsTo_37, k_X11_turnsTo_38, k_X11_turnsTo_39, k_X11_turnsTo_40, k_X11_turnsTo_41, k_X11_turnsTo_42, k_X11_turnsTo_43, k_X11_turnsTo_44, k_X11_turnsTo_45, k_X11_turnsTo_46, k_X11_turnsTo_47, k_X11_turnsTo_48, k_X11_turnsTo_49, k_X11_turnsTo_50, k_X11_turnsTo_51, k_X11_turnsTo_52, k_X11_turnsTo_53, k_X11_turnsTo_54, k_X11_turnsTo_55, k_X11_turnsTo_56, k_X11_turnsTo_57, k_X11_turnsTo_58, k_X11_turnsTo_59, k_X11_turnsTo_60, k_X11_turnsTo_61, k_X11_turnsTo_62, k_X11_turnsTo_63, k_X11_turnsTo_64, k_X11_turnsTo_65, k_X11_turnsTo_66, k_X11_turnsTo_67, k_X11_turnsTo_68, oE_some, Int.reduceToNat, Nat.reduceAdd, true_and, and_true, List.length_cons, List.length_nil, Option.toList_some, Option.toList_none, List.cons_append, List.nil_append, Nat.reduceLeDiff, Nat.le_refl, wdS_nil, wdS_i, wdS_l, wdS_r, wdS_n, wdS_s, hC, hW.2.1, hW.2.2.1, ek, em, w32_nat bk1, npos, iBk, iBk1, w32_tn bk, Int.toNat_natCast, g1, w32_nat (num_31 h1 h6 hx), w32_nat (num_31 h1 h6 hyb), cc, cf, eL, ↓reduceIte]
def nrB (n : Nat) (G : BitVec 64) (b : Bool) (i : Nat) : List Nat := if b = true then nr0 n G i else nr1 n G i
def wyB (b : Bool) : Int := if b = true then 0 else 1
def gsB (n : Nat) (G : BitVec 64) (b : Bool) (i : Nat) : Nat := if b = true then lst n G i else gst n G i
theorem nrB_is (n : Nat) (G : BitVec 64) (b : Bool) (i : Nat) : nrB n G b i = nrF n G (gsB n G b i) (mDU n b (gsB n G b i)) (n - 1) := by
  cases b <;> rfl
set_option maxHeartbeats 16000000 in
theorem m_turnLoop (d : Nat) {n i : Nat} {G : BitVec 64} {b : Bool} (h1 : 1 ≤ n) (h6 : n ≤ 6) (hi : i < FC n) (y1 : Int) : ∀ (k p : Nat) (li : List Int) (h : HP) (y6 y7 : Option AV), p + k = n - 1 → MA h n → ML h G li → preN n li (nrF n G i (mDU n b i) p) → ∃ l', preN n l' (nrF n G i (mDU n b i) (n - 1)) ∧ l'.length = 6 ∧ ∀ R : PO, AWh (d + 5) [] 236 R 14 [some (mR 54), some (mI y1), some (mI (wyB b)), some (mI ((num n i : Nat) : Int)), some (mI ((nrF n G i (mDU n b i) p).length : Int)), some (mI (p : Int)), y6, y7] [] h (0, 0) ↔ R (some (mI ((nrF n G i (mDU n b i) (n - 1)).length : Int))) (pA h 68 l') := by
  intro k
  induction k with
  | zero =>
    intro p li h y6 y7 hp1 hA hL hpre
    have ep : p = n - 1 := by omega
    subst ep
    refine ⟨li, hpre, hL.2.2.2, fun R => ?_⟩
    have e : pA h 68 li = h := by
      rw [pA_is hL.2.2.1]
      have := hL.2.2.1
      unfold gA at this
      split at this
      · next l2 e => cases this; exact set_self e
      · cases this
    have e1 : (n : Int) - 1 = ((n - 1 : Nat) : Int) := by omega
    rw [e]
    rw [AWh_k, k_X11_turnsTo_14]
    simp only [AW_k, AWk_1, x_iload_5, x_aload_0, x_aloads_0, x_getf, x_push_i, x_push_l, x_isub, x_icmp_ge, x_iload_3, x_callv_3, x_iload_2, x_if_ne, x_goto, x_icmp_ne, x_callv_2, x_istore_6, x_iload_4, x_istore_7, x_iload_7, x_if_le, x_iald, x_ialds, x_iload_6, x_icmp_le, x_iast, x_iinc_7, x_iinc_4, x_iinc_5, x_ret, x_ret_i, x_ret_z, x_ret_l, x_ret_c, unl_i, unl_l, unl_q, unl_r, unl_s, unl_n, k_X11_turnsTo_14, k_X11_turnsTo_15, k_X11_turnsTo_16, k_X11_turnsTo_17, k_X11_turnsTo_18, k_X11_turnsTo_19, k_X11_turnsTo_20, k_X11_turnsTo_21, k_X11_turnsTo_22, k_X11_turnsTo_23, k_X11_turnsTo_24, k_X11_turnsTo_25, k_X11_turnsTo_26, k_X11_turnsTo_27, k_X11_turnsTo_28, k_X11_turnsTo_29, k_X11_turnsTo_30, k_X11_turnsTo_31, k_X11_turnsTo_32, k_X11_turnsTo_33, k_X11_turnsTo_34, k_X11_turnsTo_35, k_X11_turnsTo_36, k_X11_turnsTo_37, k_X11_turnsTo_38, k_X11_turnsTo_39, k_X11_turnsTo_40, k_X11_turnsTo_41, k_X11_turnsTo_42, k_X11_turnsTo_43, k_X11_turnsTo_44, k_X11_turnsTo_45, k_X11_turnsTo_46, k_X11_turnsTo_47, k_X11_turnsTo_48, k_X11_turnsTo_49, k_X11_turnsTo_50, k_X11_turnsTo_51, k_X11_turnsTo_52, k_X11_turnsTo_53, k_X11_turnsTo_54, k_X11_turnsTo_55, k_X11_turnsTo_56, k_X11_turnsTo_57, k_X11_turnsTo_58, k_X11_turnsTo_59, k_X11_turnsTo_60, k_X11_turnsTo_61, k_X11_turnsTo_62, k_X11_turnsTo_63, k_X11_turnsTo_64, k_X11_turnsTo_65, k_X11_turnsTo_66, k_X11_turnsTo_67, k_X11_turnsTo_68, k_X11_turnsTo_69, k_X11_turnsTo_70, oE_some, Int.reduceToNat, Nat.reduceAdd, true_and, and_true, List.length_cons, List.length_nil, Option.toList_some, Option.toList_none, List.cons_append, List.nil_append, Nat.reduceLeDiff, Nat.le_refl, wdS_nil, wdS_i, wdS_l, wdS_r, wdS_n, wdS_s, cM hA.1, hA.1.2.1, e1, w32_nat (show n - 1 < 2147483648 by omega), Int.lt_irrefl, ↓reduceIte]
  | succ k ih =>
    intro p li h y6 y7 hp1 hA hL hpre
    have hlt : p < n - 1 := by omega
    have hbs := bs_ok h1 h6 hi hlt
    have hll := lst_ok (G := G) h1 h6 hbs
    have e1 : (n : Int) - 1 = ((n - 1 : Nat) : Int) := by omega
    have c1 : ((p : Int) < ((n - 1 : Nat) : Int)) = True := eq_true (by omega)
    have ep : (p : Int) + 1 = ((p + 1 : Nat) : Int) := by omega
    have hlen := nrF_len (n := n) (G := G) (i := i) (m := mDU n b i) p
    have hbd := nrF_bd (G := G) (m := mDU n b i) h1 h6 hi p (by omega)
    have hu : nrF n G i (mDU n b i) (p + 1) = if mDU n b i p = true then insS (lst n G (bs n i p)) (nrF n G i (mDU n b i) p) else nrF n G i (mDU n b i) p := rfl
    cases hc : mDU n b i p with
    | false =>
      rw [hc, if_neg (by decide)] at hu
      obtain ⟨l', p1, p2, p3⟩ := ih (p + 1) li h y6 y7 (by omega) hA hL (by rw [hu]; exact hpre)
      refine ⟨l', p1, p2, fun R => ?_⟩
      have p3 := p3 R
      rw [hu] at p3
      refine Iff.trans ?_ p3
      cases b with
      | true =>
        have hd : dn n i p = false := hc
        rw [AWh_k, k_X11_turnsTo_14]
        simp only [AW_k, AWk_1, x_iload_5, x_aload_0, x_aloads_0, x_getf, x_push_i, x_push_l, x_isub, x_icmp_ge, x_iload_3, x_callv_3, x_iload_2, x_if_ne, x_goto, x_icmp_ne, x_callv_2, x_istore_6, x_iload_4, x_istore_7, x_iload_7, x_if_le, x_iald, x_ialds, x_iload_6, x_icmp_le, x_iast, x_iinc_7, x_iinc_4, x_iinc_5, x_ret, x_ret_i, x_ret_z, x_ret_l, x_ret_c, unl_i, unl_l, unl_q, unl_r, unl_s, unl_n, k_X11_turnsTo_14, k_X11_turnsTo_15, k_X11_turnsTo_16, k_X11_turnsTo_17, k_X11_turnsTo_18, k_X11_turnsTo_19, k_X11_turnsTo_20, k_X11_turnsTo_21, k_X11_turnsTo_22, k_X11_turnsTo_23, k_X11_turnsTo_24, k_X11_turnsTo_25, k_X11_turnsTo_26, k_X11_turnsTo_27, k_X11_turnsTo_28, k_X11_turnsTo_29, k_X11_turnsTo_30, k_X11_turnsTo_31, k_X11_turnsTo_32, k_X11_turnsTo_33, k_X11_turnsTo_34, k_X11_turnsTo_35, k_X11_turnsTo_36, k_X11_turnsTo_37, k_X11_turnsTo_38, k_X11_turnsTo_39, k_X11_turnsTo_40, k_X11_turnsTo_41, k_X11_turnsTo_42, k_X11_turnsTo_43, k_X11_turnsTo_44, k_X11_turnsTo_45, k_X11_turnsTo_46, k_X11_turnsTo_47, k_X11_turnsTo_48, k_X11_turnsTo_49, k_X11_turnsTo_50, k_X11_turnsTo_51, k_X11_turnsTo_52, k_X11_turnsTo_53, k_X11_turnsTo_54, k_X11_turnsTo_55, k_X11_turnsTo_56, k_X11_turnsTo_57, k_X11_turnsTo_58, k_X11_turnsTo_59, k_X11_turnsTo_60, k_X11_turnsTo_61, k_X11_turnsTo_62, k_X11_turnsTo_63, k_X11_turnsTo_64, k_X11_turnsTo_65, k_X11_turnsTo_66, k_X11_turnsTo_67, k_X11_turnsTo_68, k_X11_turnsTo_69, k_X11_turnsTo_70, oE_some, Int.reduceToNat, Nat.reduceAdd, true_and, and_true, List.length_cons, List.length_nil, Option.toList_some, Option.toList_none, List.cons_append, List.nil_append, Nat.reduceLeDiff, Nat.le_refl, wdS_nil, wdS_i, wdS_l, wdS_r, wdS_n, wdS_s, cM hA.1, hA.1.2.1, e1, w32_nat (show n - 1 < 2147483648 by omega), w32_nat (show p < 2147483648 by omega), c1, m_isDrop (d + 3) hA.1 hi hlt, hd, zI_f, show wyB true = 0 from rfl, w00, w10, show w32 0 = 0 from rfl, show w32 1 = 1 from rfl, Int.reduceEq, ep, ↓reduceIte]
      | false =>
        have hd : dn n i p = true := by
          have : (!dn n i p) = false := hc
          cases q : dn n i p with
          | true => rfl
          | false => rw [q] at this; exact absurd this (by decide)
        rw [AWh_k, k_X11_turnsTo_14]
        simp only [AW_k, AWk_1, x_iload_5, x_aload_0, x_aloads_0, x_getf, x_push_i, x_push_l, x_isub, x_icmp_ge, x_iload_3, x_callv_3, x_iload_2, x_if_ne, x_goto, x_icmp_ne, x_callv_2, x_istore_6, x_iload_4, x_istore_7, x_iload_7, x_if_le, x_iald, x_ialds, x_iload_6, x_icmp_le, x_iast, x_iinc_7, x_iinc_4, x_iinc_5, x_ret, x_ret_i, x_ret_z, x_ret_l, x_ret_c, unl_i, unl_l, unl_q, unl_r, unl_s, unl_n, k_X11_turnsTo_14, k_X11_turnsTo_15, k_X11_turnsTo_16, k_X11_turnsTo_17, k_X11_turnsTo_18, k_X11_turnsTo_19, k_X11_turnsTo_20, k_X11_turnsTo_21, k_X11_turnsTo_22, k_X11_turnsTo_23, k_X11_turnsTo_24, k_X11_turnsTo_25, k_X11_turnsTo_26, k_X11_turnsTo_27, k_X11_turnsTo_28, k_X11_turnsTo_29, k_X11_turnsTo_30, k_X11_turnsTo_31, k_X11_turnsTo_32, k_X11_turnsTo_33, k_X11_turnsTo_34, k_X11_turnsTo_35, k_X11_turnsTo_36, k_X11_turnsTo_37, k_X11_turnsTo_38, k_X11_turnsTo_39, k_X11_turnsTo_40, k_X11_turnsTo_41, k_X11_turnsTo_42, k_X11_turnsTo_43, k_X11_turnsTo_44, k_X11_turnsTo_45, k_X11_turnsTo_46, k_X11_turnsTo_47, k_X11_turnsTo_48, k_X11_turnsTo_49, k_X11_turnsTo_50, k_X11_turnsTo_51, k_X11_turnsTo_52, k_X11_turnsTo_53, k_X11_turnsTo_54, k_X11_turnsTo_55, k_X11_turnsTo_56, k_X11_turnsTo_57, k_X11_turnsTo_58, k_X11_turnsTo_59, k_X11_turnsTo_60, k_X11_turnsTo_61, k_X11_turnsTo_62, k_X11_turnsTo_63, k_X11_turnsTo_64, k_X11_turnsTo_65, k_X11_turnsTo_66, k_X11_turnsTo_67, k_X11_turnsTo_68, k_X11_turnsTo_69, k_X11_turnsTo_70, oE_some, Int.reduceToNat, Nat.reduceAdd, true_and, and_true, List.length_cons, List.length_nil, Option.toList_some, Option.toList_none, List.cons_append, List.nil_append, Nat.reduceLeDiff, Nat.le_refl, wdS_nil, wdS_i, wdS_l, wdS_r, wdS_n, wdS_s, cM hA.1, hA.1.2.1, e1, w32_nat (show n - 1 < 2147483648 by omega), w32_nat (show p < 2147483648 by omega), c1, m_isDrop (d + 3) hA.1 hi hlt, hd, zI_t, show wyB false = 1 from rfl, w00, w10, show w32 0 = 0 from rfl, show w32 1 = 1 from rfl, Int.reduceEq, ep, ↓reduceIte]
    | true =>
      rw [hc, if_pos rfl] at hu
      obtain ⟨l1, q1, q2, q3⟩ := m_insLoop d (ns := nrF n G i (mDU n b i) p) h1 h6 hll hbd (by omega) y1 (wyB b) ((num n i : Nat) : Int) (p : Int) (nrF n G i (mDU n b i) p).length li h (cM hA.1) hL (Nat.le_refl _) hpre (fun j a b => by omega) rfl
      obtain ⟨l', p1, p2, p3⟩ := ih (p + 1) l1 (pA h 68 l1) (some (mI ((num n (lst n G (bs n i p)) : Nat) : Int))) (some (mI ((posS (lst n G (bs n i p)) (nrF n G i (mDU n b i) p) (nrF n G i (mDU n b i) p).length : Nat) : Int))) (by omega) (MA_pA hA (by omega)) (ML_pA hL q2) (by rw [hu]; exact q1)
      refine ⟨l', p1, p2, fun R => ?_⟩
      have p3 := p3 R
      rw [hu, insS_len, pA_pA, ← ep] at p3
      refine Iff.trans (Iff.trans ?_ (q3 R)) p3
      cases b with
      | true =>
        have hd : dn n i p = true := hc
        rw [AWh_k, k_X11_turnsTo_14]
        simp only [AW_k, AWk_1, x_iload_5, x_aload_0, x_aloads_0, x_getf, x_push_i, x_push_l, x_isub, x_icmp_ge, x_iload_3, x_callv_3, x_iload_2, x_if_ne, x_goto, x_icmp_ne, x_callv_2, x_istore_6, x_iload_4, x_istore_7, x_iload_7, unl_i, unl_l, unl_q, unl_r, unl_s, unl_n, k_X11_turnsTo_14, k_X11_turnsTo_15, k_X11_turnsTo_16, k_X11_turnsTo_17, k_X11_turnsTo_18, k_X11_turnsTo_19, k_X11_turnsTo_20, k_X11_turnsTo_21, k_X11_turnsTo_22, k_X11_turnsTo_23, k_X11_turnsTo_24, k_X11_turnsTo_25, k_X11_turnsTo_26, k_X11_turnsTo_27, k_X11_turnsTo_28, k_X11_turnsTo_29, k_X11_turnsTo_30, k_X11_turnsTo_31, k_X11_turnsTo_32, k_X11_turnsTo_33, k_X11_turnsTo_34, k_X11_turnsTo_35, k_X11_turnsTo_36, k_X11_turnsTo_37, k_X11_turnsTo_38, k_X11_turnsTo_39, oE_some, Int.reduceToNat, Nat.reduceAdd, true_and, and_true, List.length_cons, List.length_nil, Option.toList_some, Option.toList_none, List.cons_append, List.nil_append, Nat.reduceLeDiff, Nat.le_refl, wdS_nil, wdS_i, wdS_l, wdS_r, wdS_n, wdS_s, cM hA.1, hA.1.2.1, e1, w32_nat (show n - 1 < 2147483648 by omega), w32_nat (show p < 2147483648 by omega), c1, m_isDrop (d + 3) hA.1 hi hlt, hd, zI_t, show wyB true = 0 from rfl, w00, w10, show w32 0 = 0 from rfl, show w32 1 = 1 from rfl, Int.reduceEq, m_swapAt (d + 3) hA.1 hi hlt, m_leastOf d hA hL.1 hbs, ↓reduceIte]
      | false =>
        have hd : dn n i p = false := by
          have : (!dn n i p) = true := hc
          cases q : dn n i p with
          | false => rfl
          | true => rw [q] at this; exact absurd this (by decide)
        rw [AWh_k, k_X11_turnsTo_14]
        simp only [AW_k, AWk_1, x_iload_5, x_aload_0, x_aloads_0, x_getf, x_push_i, x_push_l, x_isub, x_icmp_ge, x_iload_3, x_callv_3, x_iload_2, x_if_ne, x_goto, x_icmp_ne, x_callv_2, x_istore_6, x_iload_4, x_istore_7, x_iload_7, unl_i, unl_l, unl_q, unl_r, unl_s, unl_n, k_X11_turnsTo_14, k_X11_turnsTo_15, k_X11_turnsTo_16, k_X11_turnsTo_17, k_X11_turnsTo_18, k_X11_turnsTo_19, k_X11_turnsTo_20, k_X11_turnsTo_21, k_X11_turnsTo_22, k_X11_turnsTo_23, k_X11_turnsTo_24, k_X11_turnsTo_25, k_X11_turnsTo_26, k_X11_turnsTo_27, k_X11_turnsTo_28, k_X11_turnsTo_29, k_X11_turnsTo_30, k_X11_turnsTo_31, k_X11_turnsTo_32, k_X11_turnsTo_33, k_X11_turnsTo_34, k_X11_turnsTo_35, k_X11_turnsTo_36, k_X11_turnsTo_37, k_X11_turnsTo_38, k_X11_turnsTo_39, oE_some, Int.reduceToNat, Nat.reduceAdd, true_and, and_true, List.length_cons, List.length_nil, Option.toList_some, Option.toList_none, List.cons_append, List.nil_append, Nat.reduceLeDiff, Nat.le_refl, wdS_nil, wdS_i, wdS_l, wdS_r, wdS_n, wdS_s, cM hA.1, hA.1.2.1, e1, w32_nat (show n - 1 < 2147483648 by omega), w32_nat (show p < 2147483648 by omega), c1, m_isDrop (d + 3) hA.1 hi hlt, hd, zI_f, show wyB false = 1 from rfl, w00, w10, show w32 0 = 0 from rfl, show w32 1 = 1 from rfl, Int.reduceEq, m_swapAt (d + 3) hA.1 hi hlt, m_leastOf d hA hL.1 hbs, ↓reduceIte]
set_option maxHeartbeats 16000000 in
theorem m_turnsTo (d : Nat) {hp : HP} {n i : Nat} {G : BitVec 64} {b : Bool} {li : List Int} (hA : MA hp n) (hL : ML hp G li) (hi : i < FC n) : ∃ l', preN n l' (nrB n G b i) ∧ l'.length = 6 ∧ ∀ R : PO, callD (d + 6) 236 [mR 54, mI ((num n i : Nat) : Int), mI (wyB b)] hp R ↔ R (some (mI ((nrB n G b i).length : Int))) (pA hp 68 l') := by
  have h1 := hA.1.1.1
  have h6 := hA.1.1.2
  have hg : gsB n G b i < FC n := by
    cases b with
    | true => exact lst_ok h1 h6 hi
    | false => exact gst_ok h1 h6 hi
  obtain ⟨l', p1, p2, p3⟩ := m_turnLoop d (b := b) h1 h6 hg ((num n i : Nat) : Int) (n - 1) 0 li hp none none (Nat.zero_add _) hA hL (fun k hk => absurd hk (Nat.not_lt_zero k))
  rw [nrB_is]
  refine ⟨l', p1, p2, fun R => ?_⟩
  refine Iff.trans ?_ (p3 R)
  cases b with
  | true =>
    rw [callD_k]; simp only [entL_i, entL_l, entL_q, entL_s, entL_nil, n_X11_turnsTo, u_X11_turnsTo, m_X11_turnsTo, rep_5, List.cons_append, List.nil_append, List.append_nil, List.length_cons, List.length_nil, Nat.reduceAdd, true_and]
    simp only [AW_k, AWk_1, x_iload_2, x_if_ne, x_aload_0, x_aloads_0, x_iload_1, x_callv_2, x_goto, x_istore_3, x_push_i, x_push_l, x_istore_4, x_istore_5, x_iload_5, unl_i, unl_l, unl_q, unl_r, unl_s, unl_n, k_X11_turnsTo_0, k_X11_turnsTo_1, k_X11_turnsTo_2, k_X11_turnsTo_3, k_X11_turnsTo_4, k_X11_turnsTo_5, k_X11_turnsTo_6, k_X11_turnsTo_7, k_X11_turnsTo_8, k_X11_turnsTo_9, k_X11_turnsTo_10, k_X11_turnsTo_11, k_X11_turnsTo_12, k_X11_turnsTo_13, k_X11_turnsTo_14, oE_some, Int.reduceToNat, Nat.reduceAdd, true_and, and_true, List.length_cons, List.length_nil, Option.toList_some, Option.toList_none, List.cons_append, List.nil_append, Nat.reduceLeDiff, Nat.le_refl, wdS_nil, wdS_i, wdS_l, wdS_r, wdS_n, wdS_s, cM hA.1, show wyB true = 0 from rfl, w00, m_leastOf d hA hL.1 hi, ↓reduceIte]
    all_goals exact Iff.rfl
  | false =>
    rw [callD_k]; simp only [entL_i, entL_l, entL_q, entL_s, entL_nil, n_X11_turnsTo, u_X11_turnsTo, m_X11_turnsTo, rep_5, List.cons_append, List.nil_append, List.append_nil, List.length_cons, List.length_nil, Nat.reduceAdd, true_and]
    simp only [AW_k, AWk_1, x_iload_2, x_if_ne, x_aload_0, x_aloads_0, x_iload_1, x_callv_2, x_goto, x_istore_3, x_push_i, x_push_l, x_istore_4, x_istore_5, x_iload_5, unl_i, unl_l, unl_q, unl_r, unl_s, unl_n, k_X11_turnsTo_0, k_X11_turnsTo_1, k_X11_turnsTo_2, k_X11_turnsTo_3, k_X11_turnsTo_4, k_X11_turnsTo_5, k_X11_turnsTo_6, k_X11_turnsTo_7, k_X11_turnsTo_8, k_X11_turnsTo_9, k_X11_turnsTo_10, k_X11_turnsTo_11, k_X11_turnsTo_12, k_X11_turnsTo_13, k_X11_turnsTo_14, oE_some, Int.reduceToNat, Nat.reduceAdd, true_and, and_true, List.length_cons, List.length_nil, Option.toList_some, Option.toList_none, List.cons_append, List.nil_append, Nat.reduceLeDiff, Nat.le_refl, wdS_nil, wdS_i, wdS_l, wdS_r, wdS_n, wdS_s, cM hA.1, show wyB false = 1 from rfl, w10, m_greatestOf d hA hL.1 hi, ↓reduceIte]
    all_goals exact Iff.rfl
