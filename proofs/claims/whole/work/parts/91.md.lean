/-! ===== the reference: which numbers are rows ===== -/
/-- the digits seen, as bits -/
def irS (n r : Nat) : Nat → Nat
  | 0 => 0
  | p + 1 => if 1 ≤ dg n r p ∧ dg n r p ≤ n then irS n r p ||| 2 ^ (dg n r p - 1) else irS n r p
theorem irS_up (n r p : Nat) : irS n r (p + 1) = if 1 ≤ dg n r p ∧ dg n r p ≤ n then irS n r p ||| 2 ^ (dg n r p - 1) else irS n r p := rfl
theorem irS_lt (n r : Nat) : ∀ p, irS n r p < 2 ^ n := by
  intro p
  induction p with
  | zero => exact Nat.two_pow_pos n
  | succ p ih =>
    rw [irS_up]
    split
    · next c => exact Nat.or_lt_two_pow ih (Nat.pow_lt_pow_right (by decide) (by omega))
    · exact ih
/-- how many of the first k digits are missing -/
def mis (m : Nat) : Nat → Nat
  | 0 => 0
  | k + 1 => mis m k + (if tst m k = true then 0 else 1)
def mis_b (n : Nat) : Bool := allB (fun m => allB (fun j => Nat.ble (mis m n) (mis (m ||| 2 ^ j) n + 1) && (!(tst m j) || (m ||| 2 ^ j == m))) n) (2 ^ n) && (mis 0 n == n && mis (2 ^ n - 1) n == 0)
theorem mis_c : all6 mis_b = true := by decide +kernel
theorem mis_ok {n m j : Nat} (h1 : 1 ≤ n) (h6 : n ≤ 6) (hm : m < 2 ^ n) (hj : j < n) : mis m n ≤ mis (m ||| 2 ^ j) n + 1 ∧ (tst m j = true → m ||| 2 ^ j = m) := by
  have := all6_of mis_c h1 h6
  unfold mis_b at this
  rw [Bool.and_eq_true] at this
  have q := allB_of (allB_of this.1 m hm) j hj
  rw [Bool.and_eq_true, Nat.ble_eq] at q
  refine ⟨q.1, fun t => ?_⟩
  have q2 := q.2
  rw [t, Bool.not_true, Bool.false_or] at q2
  exact beq_iff_eq.mp q2
theorem mis_0 {n : Nat} (h1 : 1 ≤ n) (h6 : n ≤ 6) : mis 0 n = n ∧ mis (2 ^ n - 1) n = 0 := by
  have := all6_of mis_c h1 h6
  unfold mis_b at this
  rw [Bool.and_eq_true, Bool.and_eq_true] at this
  exact ⟨beq_iff_eq.mp this.2.1, beq_iff_eq.mp this.2.2⟩
/-- all ways to go on with digits not yet used end in rows -/
def pmk (n : Nat) : Nat → Nat → Nat → Bool
  | 0, _, acc => decide (rkO n acc n < FC n) && (num n (rkO n acc n) == acc)
  | k + 1, m, acc => allB (fun j => tst m j || pmk n k (m ||| 2 ^ j) (acc * 10 + (j + 1))) n
theorem pmk_c : all6 (fun n => pmk n n 0 0) = true := by decide +kernel
theorem pmk_up (n k m acc : Nat) : pmk n (k + 1) m acc = allB (fun j => tst m j || pmk n k (m ||| 2 ^ j) (acc * 10 + (j + 1))) n := rfl
theorem dg_step {n r p : Nat} (hp : p < n) : r / 10 ^ (n - (p + 1)) = r / 10 ^ (n - p) * 10 + dg n r p := by
  unfold dg
  have e1 : n - 1 - p = n - (p + 1) := by omega
  have e2 : n - p = n - (p + 1) + 1 := by omega
  rw [e1, e2, Nat.pow_succ, ← Nat.div_div_eq_div_mul]
  omega
theorem irS_row {n r : Nat} (h1 : 1 ≤ n) (h6 : n ≤ 6) (hr : r < 10 ^ n) (hf : irS n r n = 2 ^ n - 1) : ∃ i, i < FC n ∧ num n i = r := by
  -- never more is missing than may still come
  have up : ∀ p, p < n → mis (irS n r p) n ≤ mis (irS n r (p + 1)) n + 1 := by
    intro p hp
    rw [irS_up]
    split
    · next c => exact (mis_ok h1 h6 (irS_lt n r p) (show dg n r p - 1 < n by omega)).1
    · omega
  have m0 := (mis_0 h1 h6).1
  have mf := (mis_0 h1 h6).2
  have lo : ∀ p, p ≤ n → n ≤ mis (irS n r p) n + p := by
    intro p
    induction p with
    | zero => intro _; show n ≤ mis 0 n + 0; omega
    | succ p ih => intro hp; have := ih (by omega); have := up p (by omega); omega
  have hi : ∀ m p, p + m = n → mis (irS n r p) n ≤ m := by
    intro m
    induction m with
    | zero => intro p hp; have e : p = n := by omega
              rw [e, hf, mf]; exact Nat.le_refl 0
    | succ m ih => intro p hp; have := ih (p + 1) (by omega); have := up p (by omega); omega
  have key : ∀ m p, p + m = n → pmk n m (irS n r p) (r / 10 ^ (n - p)) = true → ∃ i, i < FC n ∧ num n i = r := by
    intro m
    induction m with
    | zero =>
      intro p hp hk
      have e : p = n := by omega
      subst e
      rw [Nat.sub_self, Nat.pow_zero, Nat.div_one] at hk
      unfold pmk at hk
      rw [Bool.and_eq_true, decide_eq_true_eq] at hk
      exact ⟨_, hk.1, beq_iff_eq.mp hk.2⟩
    | succ m ih =>
      intro p hp hk
      have hpn : p < n := by omega
      have c1 := lo p (by omega)
      have c2 := hi m (p + 1) (by omega)
      rw [irS_up] at c2
      by_cases c : 1 ≤ dg n r p ∧ dg n r p ≤ n
      · rw [if_pos c] at c2
        obtain ⟨k1, k2⟩ := mis_ok h1 h6 (irS_lt n r p) (show dg n r p - 1 < n by omega)
        have nt : tst (irS n r p) (dg n r p - 1) = false := by
          cases t : tst (irS n r p) (dg n r p - 1) with
          | false => rfl
          | true => rw [k2 t] at c2; omega
        have q := allB_of (by rw [pmk_up] at hk; exact hk) (dg n r p - 1) (show dg n r p - 1 < n by omega)
        rw [nt, Bool.false_or, show dg n r p - 1 + 1 = dg n r p by omega, ← dg_step hpn] at q
        refine ih (p + 1) (by omega) ?_
        rw [irS_up, if_pos c]
        exact q
      · rw [if_neg c] at c2; omega
  have hz : r / 10 ^ (n - 0) = 0 := Nat.div_eq_of_lt hr
  refine key n 0 (Nat.zero_add n) ?_
  rw [hz]
  exact all6_of pmk_c h1 h6
def irn_b (n : Nat) : Bool := allB (fun i => irS n (num n i) n == 2 ^ n - 1) (FC n)
theorem irn_c : all6 irn_b = true := by decide +kernel
theorem irS_num {n i : Nat} (h1 : 1 ≤ n) (h6 : n ≤ 6) (hi : i < FC n) : irS n (num n i) n = 2 ^ n - 1 := beq_iff_eq.mp (allB_of (all6_of irn_c h1 h6) i hi)
theorem ixo_of {n i : Nat} (h1 : 1 ≤ n) (h6 : n ≤ 6) (hi : i < FC n) : ixo n ((num n i : Nat) : Int) = some i := by
  have e := fnd_num h1 h6 hi
  cases q : ixo n ((num n i : Nat) : Int) with
  | none => rw [show fnd n ((num n i : Nat) : Int) = oI (ixo n ((num n i : Nat) : Int)) from rfl, q] at e; exact absurd e (by show (-1 : Int) ≠ (i : Int); omega)
  | some j => rw [show fnd n ((num n i : Nat) : Int) = oI (ixo n ((num n i : Nat) : Int)) from rfl, q] at e; have : (j : Int) = (i : Int) := e; congr 1; omega
theorem ixo_no {n : Nat} {x : Int} (h : ∀ i, i < FC n → ((num n i : Nat) : Int) ≠ x) : ixo n x = none := by
  unfold ixo
  exact fst_none_of (fun q _ hq => decide_eq_false (h q (by omega)))
set_option maxHeartbeats 16000000 in
theorem m_isRow (d : Nat) {hp : HP} {n : Nat} {x y : Int} (h : MK hp n) (hy : w32 y = x) (R : PO) : callD (d + 2) 162 [mR 54, mI y] hp R ↔ R (some (mI (zI (ixo n x).isSome))) hp := by
  have h1 := h.1.1
  have h6 := h.1.2
  have g1 := h.2.1
  have g2 := h.2.2.1
  have a2 := h.2.2.2.2.1
  have n7 : n < 7 := by omega
  have bn : n < 2147483648 := by omega
  have ib : inB (n : Int) PW.length := inB_n n7 (by decide)
  have hT := Nat.le_of_lt_succ (show 10 ^ n < 1000001 from Nat.lt_of_le_of_lt (Nat.pow_le_pow_right (n := 10) (j := 6) (by decide) h6) (by decide))
  have bT : 10 ^ n < 2147483648 := Nat.lt_of_le_of_lt hT (by decide)
  by_cases c0 : x < 0
  · have e : ixo n x = none := ixo_no (fun i hi => by omega)
    rw [e]
    rw [callD_k]; simp only [entL_i, entL_l, entL_q, entL_s, entL_nil, n_X11_isRow, u_X11_isRow, m_X11_isRow, rep_3, List.cons_append, List.nil_append, List.append_nil, List.length_cons, List.length_nil, Nat.reduceAdd, true_and]
    simp only [AW_k, AWk_1, x_iload_1, x_if_lt, x_aload_0, x_aloads_0, x_getf, x_iald, x_ialds, x_icmp_lt, x_push_i, x_push_l, x_ret, x_ret_i, x_ret_z, x_ret_l, x_ret_c, x_istore_2, x_istore_3, x_iload_3, x_icmp_ge, x_callv_3, x_istore_4, x_iload_2, x_iload_4, x_icmp_gt, x_isub, x_ishl, x_goto, x_ior, x_iinc_3, x_icmp_ne, unl_i, unl_l, unl_q, unl_r, unl_s, unl_n, k_X11_isRow_0, k_X11_isRow_1, k_X11_isRow_2, k_X11_isRow_3, k_X11_isRow_4, k_X11_isRow_5, k_X11_isRow_6, k_X11_isRow_7, k_X11_isRow_8, k_X11_isRow_9, k_X11_isRow_10, k_X11_isRow_11, k_X11_isRow_12, k_X11_isRow_13, k_X11_isRow_14, k_X11_isRow_15, k_X11_isRow_16, k_X11_isRow_17, k_X11_isRow_18, k_X11_isRow_19, k_X11_isRow_20, k_X11_isRow_21, k_X11_isRow_22, k_X11_isRow_23, k_X11_isRow_24, k_X11_isRow_25, k_X11_isRow_26, k_X11_isRow_27, k_X11_isRow_28, k_X11_isRow_29, k_X11_isRow_30, k_X11_isRow_31, k_X11_isRow_32, k_X11_isRow_33, k_X11_isRow_34, k_X11_isRow_35, k_X11_isRow_36, k_X11_isRow_37, k_X11_isRow_38, k_X11_isRow_39, k_X11_isRow_40, k_X11_isRow_41, k_X11_isRow_42, k_X11_isRow_43, k_X11_isRow_44, k_X11_isRow_45, k_X11_isRow_46, k_X11_isRow_47, k_X11_isRow_48, k_X11_isRow_49, k_X11_isRow_50, k_X11_isRow_51, k_X11_isRow_52, k_X11_isRow_53, k_X11_isRow_54, oE_some, Int.reduceToNat, Nat.reduceAdd, true_and, and_true, List.length_cons, List.length_nil, Option.toList_some, Option.toList_none, List.cons_append, List.nil_append, Nat.reduceLeDiff, Nat.le_refl, wdS_nil, wdS_i, wdS_l, wdS_r, wdS_n, wdS_s, hy, c0, ↓reduceIte]
    exact ⟨fun q => q.2, fun q => ⟨Or.inl trivial, q⟩⟩
  · by_cases c1 : x < ((10 ^ n : Nat) : Int)
    · obtain ⟨r, er⟩ : ∃ r : Nat, x = (r : Int) := ⟨x.toNat, by omega⟩
      subst er
      have hr : r < 10 ^ n := by omega
      have br : r < 2147483648 := by omega
      have md : ∀ p, p < n → ∀ R : PO, callD (d + 1) 161 [mR 54, mI y, mI (p : Int)] hp R ↔ R (some (mI ((dg n r p : Nat) : Int))) hp := by
        intro p hp1 R
        obtain ⟨q1, q2⟩ := (⟨by omega, by omega⟩ : n - 1 - p < 7 ∧ n - 1 - p < 2147483648)
        have e1 : (n : Int) - 1 - (p : Int) = ((n - 1 - p : Nat) : Int) := by omega
        have hb : inB ((n - 1 - p : Nat) : Int) PW.length := inB_n q1 (by decide)
        have hpos : 0 < 10 ^ (n - 1 - p) := Nat.pow_pos (by decide)
        have hlt : 10 ^ (n - 1 - p) < 2147483648 := Nat.lt_of_le_of_lt (Nat.pow_le_pow_right (n := 10) (j := 6) (by decide) (by omega)) (by decide)
        have hq : r / 10 ^ (n - 1 - p) < 2147483648 := Nat.lt_of_le_of_lt (Nat.div_le_self _ _) br
        have ed : Int.tdiv (r : Int) (w32 ((10 ^ (n - 1 - p) : Nat) : Int)) = ((r / 10 ^ (n - 1 - p) : Nat) : Int) := by rw [w32_nat hlt, ← Int.ofNat_tdiv]
        have em : Int.tmod (w32 ((r / 10 ^ (n - 1 - p) : Nat) : Int)) (w32 10) = ((r / 10 ^ (n - 1 - p) % 10 : Nat) : Int) := w_mod (b := 10) hq (by decide)
        have wn := w_ne hpos hlt
        rw [callD_k]; simp only [entL_i, entL_l, entL_q, entL_s, entL_nil, n_X11_digit, u_X11_digit, m_X11_digit, rep_0, List.cons_append, List.nil_append, List.append_nil, List.length_cons, List.length_nil, Nat.reduceAdd, true_and]
        simp only [AW_k, AWk_1, x_iload_1, x_aload_0, x_aloads_0, x_getf, x_push_i, x_push_l, x_isub, x_iload_2, x_iald, x_ialds, x_idiv, x_irem, x_ret, x_ret_i, x_ret_z, x_ret_l, x_ret_c, k_X11_digit_0, k_X11_digit_1, k_X11_digit_2, k_X11_digit_3, k_X11_digit_4, k_X11_digit_5, k_X11_digit_6, k_X11_digit_7, k_X11_digit_8, k_X11_digit_9, k_X11_digit_10, k_X11_digit_11, k_X11_digit_12, k_X11_digit_13, oE_some, Int.reduceToNat, Nat.reduceAdd, true_and, and_true, List.length_cons, List.length_nil, Option.toList_some, Option.toList_none, List.cons_append, List.nil_append, Nat.reduceLeDiff, Nat.le_refl, wdS_nil, wdS_i, wdS_l, wdS_r, wdS_n, wdS_s, g1, g2, a2, e1, hb, w32_tn q2, PW_get q1, hy, ed, em, wn, show ¬ w32 10 = 0 by decide, not_false_eq_true]
        all_goals exact Iff.rfl
      have n1 : ((r : Int) < 0) = False := eq_false c0
      have n2 : ((r : Int) < ((10 ^ n : Nat) : Int)) = True := eq_true c1
      have hend : (decide (irS n r n = 2 ^ n - 1)) = (ixo n (r : Int)).isSome := by
        by_cases c : irS n r n = 2 ^ n - 1
        · obtain ⟨i, hi, ei⟩ := irS_row h1 h6 hr c
          rw [decide_eq_true c, ← ei, ixo_of h1 h6 hi]; rfl
        · have e : ixo n (r : Int) = none := ixo_no (fun i hi q => by
            have e2 : num n i = r := by omega
            exact c (by rw [← e2]; exact irS_num h1 h6 hi))
          rw [decide_eq_false c, e]; rfl
      have key : ∀ (m p : Nat) (y4 : Option AV), p + m = n → (AWh (d + 1) [] 162 R 15 [some (mR 54), some (mI y), some (mI ((irS n r p : Nat) : Int)), some (mI (p : Int)), y4] [] hp (0, 0) ↔ R (some (mI (zI (ixo n (r : Int)).isSome))) hp) := by
        intro m
        induction m with
        | zero =>
          intro p y4 hp1
          have e : p = n := by omega
          subst e
          have bi := irS_lt p r p
          have b64 : 2 ^ p ≤ 64 := Nat.pow_le_pow_right (n := 2) (j := 6) (by decide) h6
          have bi2 : irS p r p < 2147483648 := by omega
          have b2 : 2 ^ p - 1 < 2147483648 := by omega
          have pp := Nat.two_pow_pos p
          have e2 : ((2 ^ p : Nat) : Int) - 1 = ((2 ^ p - 1 : Nat) : Int) := by omega
          have p31 : p < 31 := by omega
          rw [← hend]
          have ce : (((irS p r p : Nat) : Int) = ((2 ^ p - 1 : Nat) : Int)) = (irS p r p = 2 ^ p - 1) := by apply propext; omega
          rw [AWh_k, k_X11_isRow_15]
          simp only [AW_k, AWk_1, x_iload_3, x_aload_0, x_aloads_0, x_getf, x_icmp_ge, x_iload_1, x_callv_3, x_istore_4, x_iload_2, x_iload_4, x_push_i, x_push_l, x_icmp_lt, x_icmp_gt, x_isub, x_ishl, x_goto, x_ior, x_istore_2, x_iinc_3, x_icmp_ne, x_ret, x_ret_i, x_ret_z, x_ret_l, x_ret_c, unl_i, unl_l, unl_q, unl_r, unl_s, unl_n, k_X11_isRow_15, k_X11_isRow_16, k_X11_isRow_17, k_X11_isRow_18, k_X11_isRow_19, k_X11_isRow_20, k_X11_isRow_21, k_X11_isRow_22, k_X11_isRow_23, k_X11_isRow_24, k_X11_isRow_25, k_X11_isRow_26, k_X11_isRow_27, k_X11_isRow_28, k_X11_isRow_29, k_X11_isRow_30, k_X11_isRow_31, k_X11_isRow_32, k_X11_isRow_33, k_X11_isRow_34, k_X11_isRow_35, k_X11_isRow_36, k_X11_isRow_37, k_X11_isRow_38, k_X11_isRow_39, k_X11_isRow_40, k_X11_isRow_41, k_X11_isRow_42, k_X11_isRow_43, k_X11_isRow_44, k_X11_isRow_45, k_X11_isRow_46, k_X11_isRow_47, k_X11_isRow_48, k_X11_isRow_49, k_X11_isRow_50, k_X11_isRow_51, k_X11_isRow_52, k_X11_isRow_53, k_X11_isRow_54, oE_some, Int.reduceToNat, Nat.reduceAdd, true_and, and_true, List.length_cons, List.length_nil, Option.toList_some, Option.toList_none, List.cons_append, List.nil_append, Nat.reduceLeDiff, Nat.le_refl, wdS_nil, wdS_i, wdS_l, wdS_r, wdS_n, wdS_s, g1, iShl_1 p31, e2, w32_nat bi2, w32_nat b2, ce]
          rw [if_neg (Int.lt_irrefl _)]
          by_cases c : irS p r p = 2 ^ p - 1
          · rw [if_pos c, decide_eq_true c]; exact ⟨fun q => q.2, fun q => ⟨Or.inr trivial, q⟩⟩
          · rw [if_neg c, decide_eq_false c]; exact ⟨fun q => q.2, fun q => ⟨Or.inl trivial, q⟩⟩
        | succ m ih =>
          intro p y4 hp1
          have hpn : p < n := by omega
          have bp : p < 2147483648 := by omega
          have n3 : ((p : Int) < (n : Int)) = True := eq_true (by omega)
          have e1 : (p : Int) + 1 = ((p + 1 : Nat) : Int) := by omega
          have hi2 := ih (p + 1) (some (mI ((dg n r p : Nat) : Int))) (by omega)
          have bi := irS_lt n r p
          have b64 : 2 ^ n ≤ 64 := Nat.pow_le_pow_right (n := 2) (j := 6) (by decide) h6
          have bi2 : irS n r p < 2147483648 := by omega
          have d9 := dg_9 n r p
          have bd : dg n r p < 2147483648 := by omega
          rw [irS_up] at hi2
          by_cases c : 1 ≤ dg n r p ∧ dg n r p ≤ n
          · rw [if_pos c] at hi2
            have n4 : (((dg n r p : Nat) : Int) < 1) = False := eq_false (by omega)
            have n5 : ((n : Int) < ((dg n r p : Nat) : Int)) = False := eq_false (by omega)
            have e3 : ((dg n r p : Nat) : Int) - 1 = ((dg n r p - 1 : Nat) : Int) := by omega
            have k31 : dg n r p - 1 < 31 := by omega
            have p31 := pow31 k31
            rw [AWh_k, k_X11_isRow_15]
            simp only [AW_k, AWk_1, x_iload_3, x_aload_0, x_aloads_0, x_getf, x_icmp_ge, x_iload_1, x_callv_3, x_istore_4, x_iload_2, x_iload_4, x_push_i, x_push_l, x_icmp_lt, x_icmp_gt, x_isub, x_ishl, x_goto, x_ior, x_istore_2, x_iinc_3, unl_i, unl_l, unl_q, unl_r, unl_s, unl_n, k_X11_isRow_15, k_X11_isRow_16, k_X11_isRow_17, k_X11_isRow_18, k_X11_isRow_19, k_X11_isRow_20, k_X11_isRow_21, k_X11_isRow_22, k_X11_isRow_23, k_X11_isRow_24, k_X11_isRow_25, k_X11_isRow_26, k_X11_isRow_27, k_X11_isRow_28, k_X11_isRow_29, k_X11_isRow_30, k_X11_isRow_31, k_X11_isRow_32, k_X11_isRow_33, k_X11_isRow_34, k_X11_isRow_35, k_X11_isRow_36, k_X11_isRow_37, k_X11_isRow_38, k_X11_isRow_39, k_X11_isRow_40, k_X11_isRow_41, k_X11_isRow_42, oE_some, Int.reduceToNat, Nat.reduceAdd, true_and, and_true, List.length_cons, List.length_nil, Option.toList_some, Option.toList_none, List.cons_append, List.nil_append, Nat.reduceLeDiff, Nat.le_refl, wdS_nil, wdS_i, wdS_l, wdS_r, wdS_n, wdS_s, g1, cM h, w32_nat bp, w32_nat bn, n3, md p hpn, w32_nat bd, show w32 1 = 1 from rfl, n4, n5, e3, iShl_1 k31, iOr_nat bi2 p31, e1, ↓reduceIte]
            exact hi2
          · rw [if_neg c] at hi2
            by_cases c4 : ((dg n r p : Nat) : Int) < 1
            · rw [AWh_k, k_X11_isRow_15]
              simp only [AW_k, AWk_1, x_iload_3, x_aload_0, x_aloads_0, x_getf, x_icmp_ge, x_iload_1, x_callv_3, x_istore_4, x_iload_2, x_iload_4, x_push_i, x_push_l, x_icmp_lt, x_icmp_gt, x_isub, x_ishl, x_goto, x_ior, x_istore_2, x_iinc_3, unl_i, unl_l, unl_q, unl_r, unl_s, unl_n, k_X11_isRow_15, k_X11_isRow_16, k_X11_isRow_17, k_X11_isRow_18, k_X11_isRow_19, k_X11_isRow_20, k_X11_isRow_21, k_X11_isRow_22, k_X11_isRow_23, k_X11_isRow_24, k_X11_isRow_25, k_X11_isRow_26, k_X11_isRow_27, k_X11_isRow_28, k_X11_isRow_29, k_X11_isRow_30, k_X11_isRow_31, k_X11_isRow_32, k_X11_isRow_33, k_X11_isRow_34, k_X11_isRow_35, k_X11_isRow_36, k_X11_isRow_37, k_X11_isRow_38, k_X11_isRow_39, k_X11_isRow_40, k_X11_isRow_41, k_X11_isRow_42, oE_some, Int.reduceToNat, Nat.reduceAdd, true_and, and_true, List.length_cons, List.length_nil, Option.toList_some, Option.toList_none, List.cons_append, List.nil_append, Nat.reduceLeDiff, Nat.le_refl, wdS_nil, wdS_i, wdS_l, wdS_r, wdS_n, wdS_s, g1, cM h, w32_nat bp, w32_nat bn, n3, md p hpn, w32_nat bd, show w32 1 = 1 from rfl, c4, iOr_0 bi2, e1, ↓reduceIte]
              exact hi2
            · have n5 : ((n : Int) < ((dg n r p : Nat) : Int)) = True := eq_true (by omega)
              rw [AWh_k, k_X11_isRow_15]
              simp only [AW_k, AWk_1, x_iload_3, x_aload_0, x_aloads_0, x_getf, x_icmp_ge, x_iload_1, x_callv_3, x_istore_4, x_iload_2, x_iload_4, x_push_i, x_push_l, x_icmp_lt, x_icmp_gt, x_isub, x_ishl, x_goto, x_ior, x_istore_2, x_iinc_3, unl_i, unl_l, unl_q, unl_r, unl_s, unl_n, k_X11_isRow_15, k_X11_isRow_16, k_X11_isRow_17, k_X11_isRow_18, k_X11_isRow_19, k_X11_isRow_20, k_X11_isRow_21, k_X11_isRow_22, k_X11_isRow_23, k_X11_isRow_24, k_X11_isRow_25, k_X11_isRow_26, k_X11_isRow_27, k_X11_isRow_28, k_X11_isRow_29, k_X11_isRow_30, k_X11_isRow_31, k_X11_isRow_32, k_X11_isRow_33, k_X11_isRow_34, k_X11_isRow_35, k_X11_isRow_36, k_X11_isRow_37, k_X11_isRow_38, k_X11_isRow_39, k_X11_isRow_40, k_X11_isRow_41, k_X11_isRow_42, oE_some, Int.reduceToNat, Nat.reduceAdd, true_and, and_true, List.length_cons, List.length_nil, Option.toList_some, Option.toList_none, List.cons_append, List.nil_append, Nat.reduceLeDiff, Nat.le_refl, wdS_nil, wdS_i, wdS_l, wdS_r, wdS_n, wdS_s, g1, cM h, w32_nat bp, w32_nat bn, n3, md p hpn, w32_nat bd, show w32 1 = 1 from rfl, c4, n5, iOr_0 bi2, e1, ↓reduceIte]
              exact hi2
      rw [callD_k]; simp only [entL_i, entL_l, entL_q, entL_s, entL_nil, n_X11_isRow, u_X11_isRow, m_X11_isRow, rep_3, List.cons_append, List.nil_append, List.append_nil, List.length_cons, List.length_nil, Nat.reduceAdd, true_and]
      simp only [AW_k, AWk_1, x_iload_1, x_if_lt, x_aload_0, x_aloads_0, x_getf, x_iald, x_ialds, x_icmp_lt, x_push_i, x_push_l, x_ret, x_ret_i, x_ret_z, x_ret_l, x_ret_c, x_istore_2, x_istore_3, x_iload_3, unl_i, unl_l, unl_q, unl_r, unl_s, unl_n, k_X11_isRow_0, k_X11_isRow_1, k_X11_isRow_2, k_X11_isRow_3, k_X11_isRow_4, k_X11_isRow_5, k_X11_isRow_6, k_X11_isRow_7, k_X11_isRow_8, k_X11_isRow_9, k_X11_isRow_10, k_X11_isRow_11, k_X11_isRow_12, k_X11_isRow_13, k_X11_isRow_14, k_X11_isRow_15, oE_some, Int.reduceToNat, Nat.reduceAdd, true_and, and_true, List.length_cons, List.length_nil, Option.toList_some, Option.toList_none, List.cons_append, List.nil_append, Nat.reduceLeDiff, Nat.le_refl, wdS_nil, wdS_i, wdS_l, wdS_r, wdS_n, wdS_s, hy, n1, g1, g2, a2, ib, w32_tn bn, PW_get n7, w32_nat bT, n2, ↓reduceIte]
      exact key n 0 none (Nat.zero_add n)
    · have e : ixo n x = none := ixo_no (fun i hi => by have := num_hi h1 h6 hi; omega)
      rw [e]
      rw [callD_k]; simp only [entL_i, entL_l, entL_q, entL_s, entL_nil, n_X11_isRow, u_X11_isRow, m_X11_isRow, rep_3, List.cons_append, List.nil_append, List.append_nil, List.length_cons, List.length_nil, Nat.reduceAdd, true_and]
      simp only [AW_k, AWk_1, x_iload_1, x_if_lt, x_aload_0, x_aloads_0, x_getf, x_iald, x_ialds, x_icmp_lt, x_push_i, x_push_l, x_ret, x_ret_i, x_ret_z, x_ret_l, x_ret_c, k_X11_isRow_0, k_X11_isRow_1, k_X11_isRow_2, k_X11_isRow_3, k_X11_isRow_4, k_X11_isRow_5, k_X11_isRow_6, k_X11_isRow_7, k_X11_isRow_8, k_X11_isRow_9, k_X11_isRow_10, oE_some, Int.reduceToNat, Nat.reduceAdd, true_and, and_true, List.length_cons, List.length_nil, Option.toList_some, Option.toList_none, List.cons_append, List.nil_append, Nat.reduceLeDiff, Nat.le_refl, wdS_nil, wdS_i, wdS_l, wdS_r, wdS_n, wdS_s, hy, c0, g1, g2, a2, ib, w32_tn bn, PW_get n7, w32_nat bT, c1, ↓reduceIte]
      exact ⟨fun q => q.2, fun q => ⟨Or.inl trivial, q⟩⟩
theorem m_isRow_n (d : Nat) {hp : HP} {n : Nat} {x y : Int} (h : MK hp n) (hy : w32 y = x) (e : ixo n x = none) (R : PO) : callD (d + 2) 162 [mR 54, mI y] hp R ↔ R (some (mI 0)) hp := by
  rw [m_isRow d h hy R, e]; exact Iff.rfl
theorem m_isRow_s (d : Nat) {hp : HP} {n i : Nat} {x y : Int} (h : MK hp n) (hy : w32 y = x) (e : ixo n x = some i) (R : PO) : callD (d + 2) 162 [mR 54, mI y] hp R ↔ R (some (mI 1)) hp := by
  rw [m_isRow d h hy R, e]; exact Iff.rfl
theorem m_areRows (d : Nat) {hp : HP} {n : Nat} {x y : Int} (h : MK hp n) (hx : w32 x = x) (hy : w32 y = y) (R : PO) : callD (d + 3) 163 [mR 54, mI x, mI y] hp R ↔ R (some (mI (zI ((ixo n x).isSome && (ixo n y).isSome)))) hp := by
  rw [callD_k]; simp only [entL_i, entL_l, entL_q, entL_s, entL_nil, n_X11_areRows, u_X11_areRows, m_X11_areRows, rep_0, List.cons_append, List.nil_append, List.append_nil, List.length_cons, List.length_nil, Nat.reduceAdd, true_and]
  simp only [AW_k, AWk_1, x_aload_0, x_aloads_0, x_iload_1, x_callv_2, x_if_eq, x_iload_2, x_push_i, x_push_l, x_goto, x_ret, x_ret_i, x_ret_z, x_ret_l, x_ret_c, k_X11_areRows_0, k_X11_areRows_1, k_X11_areRows_2, k_X11_areRows_3, k_X11_areRows_4, k_X11_areRows_5, k_X11_areRows_6, k_X11_areRows_7, k_X11_areRows_8, k_X11_areRows_9, k_X11_areRows_10, k_X11_areRows_11, oE_some, Int.reduceToNat, Nat.reduceAdd, true_and, and_true, List.length_cons, List.length_nil, Option.toList_some, Option.toList_none, List.cons_append, List.nil_append, Nat.reduceLeDiff, Nat.le_refl, wdS_nil, wdS_i, wdS_l, wdS_r, wdS_n, wdS_s, cM h, m_isRow d h hx, m_isRow d h hy, wB]
  cases (ixo n x).isSome
  · rw [if_pos rfl]; exact ⟨fun q => q.2, fun q => ⟨Or.inl trivial, q⟩⟩
  · rw [if_neg (by decide)]
    cases (ixo n y).isSome
    · rw [if_pos rfl]; exact ⟨fun q => q.2, fun q => ⟨Or.inl trivial, q⟩⟩
    · rw [if_neg (by decide)]; exact ⟨fun q => q.2, fun q => ⟨Or.inr trivial, q⟩⟩
