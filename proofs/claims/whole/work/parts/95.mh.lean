/-! ===== the reference: arcs ===== -/
def MA (hp : HP) (n : Nat) : Prop := MK hp n ∧ (gF hp 54 11 13 = some (mR 59) ∧ gF hp 54 11 14 = some (mR 60) ∧ gF hp 54 11 15 = some (mR 61) ∧ gF hp 54 11 16 = some (mR 62) ∧ gF hp 54 11 17 = some (mI ((NA n : Nat) : Int))) ∧ ∃ l1 l2 l3 l4, (gA hp 59 = some l1 ∧ gA hp 60 = some l2 ∧ gA hp 61 = some l3 ∧ gJ hp 62 = some l4) ∧ (l1.length = 57 ∧ l2.length = 57 ∧ l3.length = 57 ∧ l4.length = 57) ∧ ∀ k, k < NA n → l1.getD k 0 = ((lo n k : Nat) : Int) ∧ l2.getD k 0 = ((hi n k : Nat) : Int) ∧ l3.getD k 0 = ((lf n k : Nat) : Int) ∧ l4.getD k 0 = FO n k
/-- bits for what stands ahead and lies between -/
def alF (n r a b : Nat) : Nat → Nat
  | 0 => 0
  | q + 1 => if a < dg n r q ∧ dg n r q < b then alF n r a b q ||| 2 ^ (dg n r q - a - 1) else alF n r a b q
theorem alF_up (n r a b q : Nat) : alF n r a b (q + 1) = if a < dg n r q ∧ dg n r q < b then alF n r a b q ||| 2 ^ (dg n r q - a - 1) else alF n r a b q := rfl
theorem alF_lt (n r a b : Nat) : ∀ q, alF n r a b q < 1024 := by
  intro q
  induction q with
  | zero => exact Nat.lt_of_lt_of_le Nat.one_pos (by decide)
  | succ q ih =>
    rw [alF_up]
    split
    · next c =>
      have := dg_9 n r q
      exact Nat.or_lt_two_pow (n := 10) ih (Nat.pow_lt_pow_right (n := 10) (by decide) (by omega))
    · exact ih
def aa_b (n : Nat) : Bool := allB (fun i => allB (fun p => lo n (ar n i p) == min (dg n (num n i) p) (dg n (num n i) (p + 1)) && (hi n (ar n i p) == max (dg n (num n i) p) (dg n (num n i) (p + 1)) && lf n (ar n i p) == alF n (num n i) (min (dg n (num n i) p) (dg n (num n i) (p + 1))) (max (dg n (num n i) p) (dg n (num n i) (p + 1))) p)) (n - 1)) (FC n)
theorem aa_c : all6 aa_b = true := by decide +kernel
theorem aa_ok {n i p : Nat} (h1 : 1 ≤ n) (h6 : n ≤ 6) (hi2 : i < FC n) (hp : p < n - 1) : lo n (ar n i p) = min (dg n (num n i) p) (dg n (num n i) (p + 1)) ∧ hi n (ar n i p) = max (dg n (num n i) p) (dg n (num n i) (p + 1)) ∧ lf n (ar n i p) = alF n (num n i) (min (dg n (num n i) p) (dg n (num n i) (p + 1))) (max (dg n (num n i) p) (dg n (num n i) (p + 1))) p := by
  have := allB_of (allB_of (all6_of aa_c h1 h6) i hi2) p hp
  simp only [Bool.and_eq_true, beq_iff_eq] at this
  exact this
def aun_b (n : Nat) : Bool := allB (fun x => allB (fun y => !(lo n y == lo n x && (hi n y == hi n x && lf n y == lf n x))) x) (NA n)
theorem aun_c : all6 aun_b = true := by decide +kernel
theorem aun_ok {n x y : Nat} (h1 : 1 ≤ n) (h6 : n ≤ 6) (hx : x < NA n) (hy : y < x) : ¬ (lo n y = lo n x ∧ hi n y = hi n x ∧ lf n y = lf n x) := by
  have := allB_of (allB_of (all6_of aun_c h1 h6) x hx) y hy
  intro ⟨a, b, c⟩
  rw [a, b, c] at this
  simp at this
theorem lo_hi_31 {n a : Nat} (h1 : 1 ≤ n) (h6 : n ≤ 6) (ha : a < NA n) : lo n a < 2147483648 ∧ hi n a < 2147483648 ∧ lf n a < 2147483648 := by
  obtain ⟨q1, q2, q3, q4, q5⟩ := arc_ok h1 h6 ha
  have : 2 ^ (hi n a - lo n a - 1) ≤ 2 ^ 6 := Nat.pow_le_pow_right (by decide) (by omega)
  exact ⟨by omega, by omega, by omega⟩
set_option maxHeartbeats 32000000 in
theorem m_arcAt (d : Nat) {hp : HP} {n i p : Nat} (h : MA hp n) (hi2 : i < FC n) (hp1 : p < n - 1) (R : PO) : callD (d + 2) 187 [mR 54, mI ((num n i : Nat) : Int), mI (p : Int)] hp R ↔ R (some (mI ((ar n i p : Nat) : Int))) hp := by
  obtain ⟨hK, ⟨g13, g14, g15, g16, g17⟩, l1, l2, l3, l4, ⟨a1, a2, a3, a4⟩, ⟨n1, n2, n3, n4⟩, hv⟩ := h
  have h1 := hK.1.1
  have h6 := hK.1.2
  have b := num_31 h1 h6 hi2
  have hpn : p < n := by omega
  have hpn1 : p + 1 < n := by omega
  have e1 : (p : Int) + 1 = ((p + 1 : Nat) : Int) := rfl
  obtain ⟨u, eu⟩ : ∃ u, dg n (num n i) p = u := ⟨_, rfl⟩
  obtain ⟨v, ev⟩ : ∃ v, dg n (num n i) (p + 1) = v := ⟨_, rfl⟩
  have u9 := dg_9 n (num n i) p
  have v9 := dg_9 n (num n i) (p + 1)
  rw [eu] at u9
  rw [ev] at v9
  have har := ar_lt h1 h6 hi2 hp1
  have fN := NA_le n
  obtain ⟨c1, c2, c3⟩ := aa_ok h1 h6 hi2 hp1
  rw [eu, ev] at c1 c2 c3
  obtain ⟨a, ea⟩ : ∃ a, min u v = a := ⟨_, rfl⟩
  obtain ⟨bb, eb⟩ : ∃ bb, max u v = bb := ⟨_, rfl⟩
  rw [ea] at c1 c3
  rw [eb] at c2 c3
  have a9 : a < 10 := by omega
  have b9 : bb < 10 := by omega
  have bu : u < 2147483648 := by omega
  have bv : v < 2147483648 := by omega
  have ba : a < 2147483648 := by omega
  have bbb : bb < 2147483648 := by omega
  have emin : (if (u : Int) < (v : Int) then (u : Int) else (v : Int)) = (a : Int) := by
    by_cases c : u < v
    · rw [if_pos (by omega)]; omega
    · rw [if_neg (by omega)]; omega
  have emax : (if (u : Int) < (v : Int) then (v : Int) else (u : Int)) = (bb : Int) := by
    by_cases c : u < v
    · rw [if_pos (by omega)]; omega
    · rw [if_neg (by omega)]; omega
  have mu := fun R => m_digit (d + 0) hK hpn b R
  have mv := fun R => m_digit (d + 0) hK hpn1 b R
  rw [eu] at mu
  rw [ev] at mv
  obtain ⟨A, eA⟩ : ∃ A, ar n i p = A := ⟨_, rfl⟩
  rw [eA] at har c1 c2 c3 ⊢
  -- the search
  have search : ∀ (m x : Nat) (y9 : Option AV), x + m = A → (AWh (d + 1) [] 187 R 60 [some (mR 54), some (mI ((num n i : Nat) : Int)), some (mI (p : Int)), some (mI (u : Int)), some (mI (v : Int)), some (mI (a : Int)), some (mI (bb : Int)), some (mI ((alF n (num n i) a bb p : Nat) : Int)), some (mI (x : Int)), y9] [] hp (0, 0) ↔ R (some (mI (A : Int))) hp) := by
    intro m
    induction m with
    | zero =>
      intro x y9 hx
      have e : x = A := by omega
      subst e
      have bx : x < 2147483648 := by omega
      have x57 : x < 57 := by omega
      obtain ⟨w1, w2, w3, -⟩ := hv x (by omega)
      have bl := alF_lt n (num n i) a bb p
      have bl2 : alF n (num n i) a bb p < 2147483648 := by omega
      have i1 : inB (x : Int) 57 := inB_n x57 (by decide)
      rw [c1] at w1
      rw [c2] at w2
      rw [c3] at w3
      rw [AWh_k, k_X11_arcAt_60]
      simp only [AW_k, AWk_1, x_aload_0, x_aloads_0, x_getf, x_iload_8, x_iald, x_ialds, x_iload_5, x_icmp_ne, x_iload_6, x_iload_7, x_icmp_eq, x_iinc_8, x_goto, x_ret, x_ret_i, x_ret_z, x_ret_l, x_ret_c, unl_i, unl_l, unl_q, unl_r, unl_s, unl_n, k_X11_arcAt_60, k_X11_arcAt_61, k_X11_arcAt_62, k_X11_arcAt_63, k_X11_arcAt_64, k_X11_arcAt_65, k_X11_arcAt_66, k_X11_arcAt_67, k_X11_arcAt_68, k_X11_arcAt_69, k_X11_arcAt_70, k_X11_arcAt_71, k_X11_arcAt_72, k_X11_arcAt_73, k_X11_arcAt_74, k_X11_arcAt_75, k_X11_arcAt_76, k_X11_arcAt_77, k_X11_arcAt_78, k_X11_arcAt_79, k_X11_arcAt_80, k_X11_arcAt_81, oE_some, Int.reduceToNat, Nat.reduceAdd, true_and, and_true, List.length_cons, List.length_nil, Option.toList_some, Option.toList_none, List.cons_append, List.nil_append, Nat.reduceLeDiff, Nat.le_refl, wdS_nil, wdS_i, wdS_l, wdS_r, wdS_n, wdS_s, g13, g14, g15, a1, a2, a3, n1, n2, n3, i1, w32_tn bx, w1, w2, w3, ↓reduceIte]
    | succ m ih =>
      intro x y9 hx
      have hxA : x < A := by omega
      have bx : x < 2147483648 := by omega
      have x57 : x < 57 := by omega
      obtain ⟨w1, w2, w3, -⟩ := hv x (by omega)
      have ne := aun_ok h1 h6 (show A < NA n by omega) hxA
      rw [c1, c2, c3] at ne
      obtain ⟨t1, t2, t3⟩ := lo_hi_31 h1 h6 (show x < NA n by omega)
      have bl := alF_lt n (num n i) a bb p
      have bl2 : alF n (num n i) a bb p < 2147483648 := by omega
      have i1 : inB (x : Int) 57 := inB_n x57 (by decide)
      have e2 : (x : Int) + 1 = ((x + 1 : Nat) : Int) := by omega
      have hnx := ih (x + 1) y9 (by omega)
      by_cases d1 : lo n x = a
      · by_cases d2 : hi n x = bb
        · have d3 : ¬ lf n x = alF n (num n i) a bb p := fun q => ne ⟨d1, d2, q⟩
          have f1 : (((lo n x : Nat) : Int) = (a : Int)) = True := eq_true (by omega)
          have f2 : (((hi n x : Nat) : Int) = (bb : Int)) = True := eq_true (by omega)
          have f3 : (((lf n x : Nat) : Int) = ((alF n (num n i) a bb p : Nat) : Int)) = False := eq_false (by omega)
          rw [AWh_k, k_X11_arcAt_60]
          simp only [AW_k, AWk_1, x_aload_0, x_aloads_0, x_getf, x_iload_8, x_iald, x_ialds, x_iload_5, x_icmp_ne, x_iload_6, x_iload_7, x_icmp_eq, x_iinc_8, x_goto, unl_i, unl_l, unl_q, unl_r, unl_s, unl_n, k_X11_arcAt_60, k_X11_arcAt_61, k_X11_arcAt_62, k_X11_arcAt_63, k_X11_arcAt_64, k_X11_arcAt_65, k_X11_arcAt_66, k_X11_arcAt_67, k_X11_arcAt_68, k_X11_arcAt_69, k_X11_arcAt_70, k_X11_arcAt_71, k_X11_arcAt_72, k_X11_arcAt_73, k_X11_arcAt_74, k_X11_arcAt_75, k_X11_arcAt_76, k_X11_arcAt_77, k_X11_arcAt_78, k_X11_arcAt_79, oE_some, Int.reduceToNat, Nat.reduceAdd, true_and, and_true, List.length_cons, List.length_nil, Option.toList_some, Option.toList_none, List.cons_append, List.nil_append, Nat.reduceLeDiff, Nat.le_refl, wdS_nil, wdS_i, wdS_l, wdS_r, wdS_n, wdS_s, g13, g14, g15, a1, a2, a3, n1, n2, n3, i1, w32_tn bx, w1, w2, w3, w32_nat t1, w32_nat t2, w32_nat t3, w32_nat ba, w32_nat bbb, w32_nat bl2, f1, f2, f3, e2, ↓reduceIte]
          exact hnx
        · have f1 : (((lo n x : Nat) : Int) = (a : Int)) = True := eq_true (by omega)
          have f2 : (((hi n x : Nat) : Int) = (bb : Int)) = False := eq_false (by omega)
          rw [AWh_k, k_X11_arcAt_60]
          simp only [AW_k, AWk_1, x_aload_0, x_aloads_0, x_getf, x_iload_8, x_iald, x_ialds, x_iload_5, x_icmp_ne, x_iload_6, x_iload_7, x_icmp_eq, x_iinc_8, x_goto, unl_i, unl_l, unl_q, unl_r, unl_s, unl_n, k_X11_arcAt_60, k_X11_arcAt_61, k_X11_arcAt_62, k_X11_arcAt_63, k_X11_arcAt_64, k_X11_arcAt_65, k_X11_arcAt_66, k_X11_arcAt_67, k_X11_arcAt_68, k_X11_arcAt_69, k_X11_arcAt_70, k_X11_arcAt_71, k_X11_arcAt_72, k_X11_arcAt_73, k_X11_arcAt_74, k_X11_arcAt_75, k_X11_arcAt_76, k_X11_arcAt_77, k_X11_arcAt_78, k_X11_arcAt_79, oE_some, Int.reduceToNat, Nat.reduceAdd, true_and, and_true, List.length_cons, List.length_nil, Option.toList_some, Option.toList_none, List.cons_append, List.nil_append, Nat.reduceLeDiff, Nat.le_refl, wdS_nil, wdS_i, wdS_l, wdS_r, wdS_n, wdS_s, g13, g14, g15, a1, a2, a3, n1, n2, n3, i1, w32_tn bx, w1, w2, w32_nat t1, w32_nat t2, w32_nat ba, w32_nat bbb, f1, f2, e2, ↓reduceIte]
          exact hnx
      · have f1 : (((lo n x : Nat) : Int) = (a : Int)) = False := eq_false (by omega)
        rw [AWh_k, k_X11_arcAt_60]
        simp only [AW_k, AWk_1, x_aload_0, x_aloads_0, x_getf, x_iload_8, x_iald, x_ialds, x_iload_5, x_icmp_ne, x_iload_6, x_iload_7, x_icmp_eq, x_iinc_8, x_goto, unl_i, unl_l, unl_q, unl_r, unl_s, unl_n, k_X11_arcAt_60, k_X11_arcAt_61, k_X11_arcAt_62, k_X11_arcAt_63, k_X11_arcAt_64, k_X11_arcAt_65, k_X11_arcAt_66, k_X11_arcAt_67, k_X11_arcAt_68, k_X11_arcAt_69, k_X11_arcAt_70, k_X11_arcAt_71, k_X11_arcAt_72, k_X11_arcAt_73, k_X11_arcAt_74, k_X11_arcAt_75, k_X11_arcAt_76, k_X11_arcAt_77, k_X11_arcAt_78, k_X11_arcAt_79, oE_some, Int.reduceToNat, Nat.reduceAdd, true_and, and_true, List.length_cons, List.length_nil, Option.toList_some, Option.toList_none, List.cons_append, List.nil_append, Nat.reduceLeDiff, Nat.le_refl, wdS_nil, wdS_i, wdS_l, wdS_r, wdS_n, wdS_s, g13, g14, g15, a1, a2, a3, n1, n2, n3, i1, w32_tn bx, w1, w32_nat t1, w32_nat ba, f1, e2, ↓reduceIte]
        exact hnx
  -- what lies between
  have lefts : ∀ (m q : Nat) (y9 : Option AV), q + m = p → (AWh (d + 1) [] 187 R 30 [some (mR 54), some (mI ((num n i : Nat) : Int)), some (mI (p : Int)), some (mI (u : Int)), some (mI (v : Int)), some (mI (a : Int)), some (mI (bb : Int)), some (mI ((alF n (num n i) a bb q : Nat) : Int)), some (mI (q : Int)), y9] [] hp (0, 0) ↔ R (some (mI (A : Int))) hp) := by
    intro m
    induction m with
    | zero =>
      intro q y9 hq
      have e : q = p := by omega
      subst e
      rw [AWh_k, k_X11_arcAt_30]
      simp only [AW_k, AWk_1, x_iload_8, x_iload_2, x_icmp_ge, x_aload_0, x_aloads_0, x_iload_1, x_callv_3, x_istore_9, x_iload_7, x_iload_9, x_iload_5, x_icmp_le, x_iload_6, x_push_i, x_push_l, x_isub, x_ishl, x_goto, x_ior, x_istore_7, x_iinc_8, x_istore_8, unl_i, unl_l, unl_q, unl_r, unl_s, unl_n, k_X11_arcAt_30, k_X11_arcAt_31, k_X11_arcAt_32, k_X11_arcAt_33, k_X11_arcAt_34, k_X11_arcAt_35, k_X11_arcAt_36, k_X11_arcAt_37, k_X11_arcAt_38, k_X11_arcAt_39, k_X11_arcAt_40, k_X11_arcAt_41, k_X11_arcAt_42, k_X11_arcAt_43, k_X11_arcAt_44, k_X11_arcAt_45, k_X11_arcAt_46, k_X11_arcAt_47, k_X11_arcAt_48, k_X11_arcAt_49, k_X11_arcAt_50, k_X11_arcAt_51, k_X11_arcAt_52, k_X11_arcAt_53, k_X11_arcAt_54, k_X11_arcAt_55, k_X11_arcAt_56, k_X11_arcAt_57, k_X11_arcAt_58, k_X11_arcAt_59, k_X11_arcAt_60, oE_some, Int.reduceToNat, Nat.reduceAdd, true_and, and_true, List.length_cons, List.length_nil, Option.toList_some, Option.toList_none, List.cons_append, List.nil_append, Nat.reduceLeDiff, Nat.le_refl, wdS_nil, wdS_i, wdS_l, wdS_r, wdS_n, wdS_s]
      rw [if_neg (Int.lt_irrefl _)]
      exact search A 0 y9 (Nat.zero_add A)
    | succ m ih =>
      intro q y9 hq
      have hqn : q < n := by omega
      have bq : q < 2147483648 := by omega
      have bp : p < 2147483648 := by omega
      have f0 : ((q : Int) < (p : Int)) = True := eq_true (by omega)
      have e2 : (q : Int) + 1 = ((q + 1 : Nat) : Int) := by omega
      have hnx := ih (q + 1) (some (mI ((dg n (num n i) q : Nat) : Int))) (by omega)
      have d9 := dg_9 n (num n i) q
      have bd : dg n (num n i) q < 2147483648 := by omega
      have bl := alF_lt n (num n i) a bb q
      have bl2 : alF n (num n i) a bb q < 2147483648 := by omega
      rw [alF_up] at hnx
      by_cases c4 : a < dg n (num n i) q
      · have f1 : ((a : Int) < ((dg n (num n i) q : Nat) : Int)) = True := eq_true (by omega)
        by_cases c5 : dg n (num n i) q < bb
        · have f2 : (((dg n (num n i) q : Nat) : Int) < (bb : Int)) = True := eq_true (by omega)
          have k31 : dg n (num n i) q - a - 1 < 31 := by omega
          have e3 : ((dg n (num n i) q : Nat) : Int) - (a : Int) - 1 = ((dg n (num n i) q - a - 1 : Nat) : Int) := by omega
          have pw := pow31 k31
          rw [if_pos ⟨c4, c5⟩] at hnx
          rw [AWh_k, k_X11_arcAt_30]
          simp only [AW_k, AWk_1, x_iload_8, x_iload_2, x_icmp_ge, x_aload_0, x_aloads_0, x_iload_1, x_callv_3, x_istore_9, x_iload_7, x_iload_9, x_iload_5, x_icmp_le, x_iload_6, x_push_i, x_push_l, x_isub, x_ishl, x_goto, x_ior, x_istore_7, x_iinc_8, unl_i, unl_l, unl_q, unl_r, unl_s, unl_n, k_X11_arcAt_30, k_X11_arcAt_31, k_X11_arcAt_32, k_X11_arcAt_33, k_X11_arcAt_34, k_X11_arcAt_35, k_X11_arcAt_36, k_X11_arcAt_37, k_X11_arcAt_38, k_X11_arcAt_39, k_X11_arcAt_40, k_X11_arcAt_41, k_X11_arcAt_42, k_X11_arcAt_43, k_X11_arcAt_44, k_X11_arcAt_45, k_X11_arcAt_46, k_X11_arcAt_47, k_X11_arcAt_48, k_X11_arcAt_49, k_X11_arcAt_50, k_X11_arcAt_51, k_X11_arcAt_52, k_X11_arcAt_53, k_X11_arcAt_54, k_X11_arcAt_55, k_X11_arcAt_56, k_X11_arcAt_57, oE_some, Int.reduceToNat, Nat.reduceAdd, true_and, and_true, List.length_cons, List.length_nil, Option.toList_some, Option.toList_none, List.cons_append, List.nil_append, Nat.reduceLeDiff, Nat.le_refl, wdS_nil, wdS_i, wdS_l, wdS_r, wdS_n, wdS_s, w32_nat bq, w32_nat bp, f0, cM hK, m_digit d hK hqn b, w32_nat bd, w32_nat ba, w32_nat bbb, f1, f2, e3, iShl_1 k31, iOr_nat bl2 pw, e2, ↓reduceIte]
          exact hnx
        · have f2 : (((dg n (num n i) q : Nat) : Int) < (bb : Int)) = False := eq_false (by omega)
          rw [if_neg (fun q => c5 q.2)] at hnx
          rw [AWh_k, k_X11_arcAt_30]
          simp only [AW_k, AWk_1, x_iload_8, x_iload_2, x_icmp_ge, x_aload_0, x_aloads_0, x_iload_1, x_callv_3, x_istore_9, x_iload_7, x_iload_9, x_iload_5, x_icmp_le, x_iload_6, x_push_i, x_push_l, x_isub, x_ishl, x_goto, x_ior, x_istore_7, x_iinc_8, unl_i, unl_l, unl_q, unl_r, unl_s, unl_n, k_X11_arcAt_30, k_X11_arcAt_31, k_X11_arcAt_32, k_X11_arcAt_33, k_X11_arcAt_34, k_X11_arcAt_35, k_X11_arcAt_36, k_X11_arcAt_37, k_X11_arcAt_38, k_X11_arcAt_39, k_X11_arcAt_40, k_X11_arcAt_41, k_X11_arcAt_42, k_X11_arcAt_43, k_X11_arcAt_44, k_X11_arcAt_45, k_X11_arcAt_46, k_X11_arcAt_47, k_X11_arcAt_48, k_X11_arcAt_49, k_X11_arcAt_50, k_X11_arcAt_51, k_X11_arcAt_52, k_X11_arcAt_53, k_X11_arcAt_54, k_X11_arcAt_55, k_X11_arcAt_56, k_X11_arcAt_57, oE_some, Int.reduceToNat, Nat.reduceAdd, true_and, and_true, List.length_cons, List.length_nil, Option.toList_some, Option.toList_none, List.cons_append, List.nil_append, Nat.reduceLeDiff, Nat.le_refl, wdS_nil, wdS_i, wdS_l, wdS_r, wdS_n, wdS_s, w32_nat bq, w32_nat bp, f0, cM hK, m_digit d hK hqn b, w32_nat bd, w32_nat ba, w32_nat bbb, f1, f2, iOr_0 bl2, e2, ↓reduceIte]
          exact hnx
      · have f1 : ((a : Int) < ((dg n (num n i) q : Nat) : Int)) = False := eq_false (by omega)
        rw [if_neg (fun q => c4 q.1)] at hnx
        rw [AWh_k, k_X11_arcAt_30]
        simp only [AW_k, AWk_1, x_iload_8, x_iload_2, x_icmp_ge, x_aload_0, x_aloads_0, x_iload_1, x_callv_3, x_istore_9, x_iload_7, x_iload_9, x_iload_5, x_icmp_le, x_iload_6, x_push_i, x_push_l, x_isub, x_ishl, x_goto, x_ior, x_istore_7, x_iinc_8, unl_i, unl_l, unl_q, unl_r, unl_s, unl_n, k_X11_arcAt_30, k_X11_arcAt_31, k_X11_arcAt_32, k_X11_arcAt_33, k_X11_arcAt_34, k_X11_arcAt_35, k_X11_arcAt_36, k_X11_arcAt_37, k_X11_arcAt_38, k_X11_arcAt_39, k_X11_arcAt_40, k_X11_arcAt_41, k_X11_arcAt_42, k_X11_arcAt_43, k_X11_arcAt_44, k_X11_arcAt_45, k_X11_arcAt_46, k_X11_arcAt_47, k_X11_arcAt_48, k_X11_arcAt_49, k_X11_arcAt_50, k_X11_arcAt_51, k_X11_arcAt_52, k_X11_arcAt_53, k_X11_arcAt_54, k_X11_arcAt_55, k_X11_arcAt_56, k_X11_arcAt_57, oE_some, Int.reduceToNat, Nat.reduceAdd, true_and, and_true, List.length_cons, List.length_nil, Option.toList_some, Option.toList_none, List.cons_append, List.nil_append, Nat.reduceLeDiff, Nat.le_refl, wdS_nil, wdS_i, wdS_l, wdS_r, wdS_n, wdS_s, w32_nat bq, w32_nat bp, f0, cM hK, m_digit d hK hqn b, w32_nat bd, w32_nat ba, w32_nat bbb, f1, iOr_0 bl2, e2, ↓reduceIte]
        exact hnx
  have hl := lefts p 0 none (Nat.zero_add p)
  by_cases c : u < v
  · have f1 : ((u : Int) < (v : Int)) = True := eq_true (by omega)
    have eua : u = a := by omega
    have evb : v = bb := by omega
    subst eua
    subst evb
    rw [callD_k]; simp only [entL_i, entL_l, entL_q, entL_s, entL_nil, n_X11_arcAt, u_X11_arcAt, m_X11_arcAt, rep_7, List.cons_append, List.nil_append, List.append_nil, List.length_cons, List.length_nil, Nat.reduceAdd, true_and]
    simp only [AW_k, AWk_1, x_aload_0, x_aloads_0, x_iload_1, x_iload_2, x_callv_3, x_istore_3, x_push_i, x_push_l, x_iadd, x_istore_4, x_iload_3, x_iload_4, x_icmp_ge, x_goto, x_istore_5, x_istore_6, x_istore_7, x_istore_8, x_iload_8, unl_i, unl_l, unl_q, unl_r, unl_s, unl_n, k_X11_arcAt_0, k_X11_arcAt_1, k_X11_arcAt_2, k_X11_arcAt_3, k_X11_arcAt_4, k_X11_arcAt_5, k_X11_arcAt_6, k_X11_arcAt_7, k_X11_arcAt_8, k_X11_arcAt_9, k_X11_arcAt_10, k_X11_arcAt_11, k_X11_arcAt_12, k_X11_arcAt_13, k_X11_arcAt_14, k_X11_arcAt_15, k_X11_arcAt_16, k_X11_arcAt_17, k_X11_arcAt_18, k_X11_arcAt_19, k_X11_arcAt_20, k_X11_arcAt_21, k_X11_arcAt_22, k_X11_arcAt_23, k_X11_arcAt_24, k_X11_arcAt_25, k_X11_arcAt_26, k_X11_arcAt_27, k_X11_arcAt_28, k_X11_arcAt_29, k_X11_arcAt_30, oE_some, Int.reduceToNat, Nat.reduceAdd, true_and, and_true, List.length_cons, List.length_nil, Option.toList_some, Option.toList_none, List.cons_append, List.nil_append, Nat.reduceLeDiff, Nat.le_refl, wdS_nil, wdS_i, wdS_l, wdS_r, wdS_n, wdS_s, cM hK, mu, e1, mv, w32_nat bu, w32_nat bv, f1, ↓reduceIte]
    exact hl
  · have f1 : ((u : Int) < (v : Int)) = False := eq_false (by omega)
    have eua : v = a := by omega
    have evb : u = bb := by omega
    subst eua
    subst evb
    rw [callD_k]; simp only [entL_i, entL_l, entL_q, entL_s, entL_nil, n_X11_arcAt, u_X11_arcAt, m_X11_arcAt, rep_7, List.cons_append, List.nil_append, List.append_nil, List.length_cons, List.length_nil, Nat.reduceAdd, true_and]
    simp only [AW_k, AWk_1, x_aload_0, x_aloads_0, x_iload_1, x_iload_2, x_callv_3, x_istore_3, x_push_i, x_push_l, x_iadd, x_istore_4, x_iload_3, x_iload_4, x_icmp_ge, x_goto, x_istore_5, x_istore_6, x_istore_7, x_istore_8, x_iload_8, unl_i, unl_l, unl_q, unl_r, unl_s, unl_n, k_X11_arcAt_0, k_X11_arcAt_1, k_X11_arcAt_2, k_X11_arcAt_3, k_X11_arcAt_4, k_X11_arcAt_5, k_X11_arcAt_6, k_X11_arcAt_7, k_X11_arcAt_8, k_X11_arcAt_9, k_X11_arcAt_10, k_X11_arcAt_11, k_X11_arcAt_12, k_X11_arcAt_13, k_X11_arcAt_14, k_X11_arcAt_15, k_X11_arcAt_16, k_X11_arcAt_17, k_X11_arcAt_18, k_X11_arcAt_19, k_X11_arcAt_20, k_X11_arcAt_21, k_X11_arcAt_22, k_X11_arcAt_23, k_X11_arcAt_24, k_X11_arcAt_25, k_X11_arcAt_26, k_X11_arcAt_27, k_X11_arcAt_28, k_X11_arcAt_29, k_X11_arcAt_30, oE_some, Int.reduceToNat, Nat.reduceAdd, true_and, and_true, List.length_cons, List.length_nil, Option.toList_some, Option.toList_none, List.cons_append, List.nil_append, Nat.reduceLeDiff, Nat.le_refl, wdS_nil, wdS_i, wdS_l, wdS_r, wdS_n, wdS_s, cM hK, mu, e1, mv, w32_nat bu, w32_nat bv, f1, ↓reduceIte]
    exact hl
