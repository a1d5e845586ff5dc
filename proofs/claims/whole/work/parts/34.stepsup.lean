/-! ===== the ways up ===== -/
/-- the most (or fewest) steps by one of the line -/
def upB (st : List Int) (most : Bool) : List Nat → Int → Int
  | [], b => b
  | x :: ns, b => upB st most ns (if b < 0 ∨ (if most = true then b < st.getD x 0 + 1 else st.getD x 0 + 1 < b) then st.getD x 0 + 1 else b)
theorem upB_cons (st : List Int) (most : Bool) (x : Nat) (ns : List Nat) (b : Int) : upB st most (x :: ns) b = upB st most ns (if b < 0 ∨ (if most = true then b < st.getD x 0 + 1 else st.getD x 0 + 1 < b) then st.getD x 0 + 1 else b) := rfl
set_option maxHeartbeats 16000000 in
theorem c9_stepsUpTo (d : Nat) {hp : HP} {w : Nat} {l st q : List Int} {ns : List Nat} {most : Bool} (hW : WK hp w l st q) (hp1 : pre l ns) (hn6 : ns.length ≤ 6) (hb : ∀ y ∈ ns, y < 120 ∧ -2 ≤ st.getD y 0 ∧ st.getD y 0 < 1000) (R : PO) : callD (d + 1) 98 [mR w, mI (ns.length : Int), mI (zI most)] hp R ↔ R (some (mI (upB st most ns (-1)))) hp := by
  have key : ∀ (m k : Nat) (b : Int) (y5 : Option AV), k + m = ns.length → -2 ≤ b → b ≤ 1000 → (AWh d [] 98 R 4 [some (mR w), some (mI (ns.length : Int)), some (mI (zI most)), some (mI b), some (mI (k : Int)), y5] [] hp (0, 0) ↔ R (some (mI (upB st most (ns.drop k) b))) hp) := by
    intro m
    induction m with
    | zero =>
      intro k b y5 hk hb1 hb2
      have bk : k < 2147483648 := by omega
      have bn : ns.length < 2147483648 := by omega
      have cc : ¬ (k : Int) < (ns.length : Int) := by omega
      rw [List.drop_eq_nil_of_le (by omega)]
      rw [AWh_k, k_X9_stepsUpTo_4]
      simp only [AW_k, AWk_1, x_push_i, x_push_l, x_istore_3, x_istore_4, x_iload_4, x_iload_1, x_icmp_ge, x_aload_0, x_aloads_0, x_getf, x_iald, x_ialds, x_iadd, x_istore_5, x_iload_3, x_if_lt, x_iload_2, x_if_eq, x_iload_5, x_icmp_le, x_goto, x_iinc_4, x_ret, x_ret_i, x_ret_z, x_ret_l, x_ret_c, unl_i, unl_l, unl_q, unl_r, unl_s, unl_n, k_X9_stepsUpTo_0, k_X9_stepsUpTo_1, k_X9_stepsUpTo_2, k_X9_stepsUpTo_3, k_X9_stepsUpTo_4, k_X9_stepsUpTo_5, k_X9_stepsUpTo_6, k_X9_stepsUpTo_7, k_X9_stepsUpTo_8, k_X9_stepsUpTo_9, k_X9_stepsUpTo_10, k_X9_stepsUpTo_11, k_X9_stepsUpTo_12, k_X9_stepsUpTo_13, k_X9_stepsUpTo_14, k_X9_stepsUpTo_15, k_X9_stepsUpTo_16, k_X9_stepsUpTo_17, k_X9_stepsUpTo_18, k_X9_stepsUpTo_19, k_X9_stepsUpTo_20, k_X9_stepsUpTo_21, k_X9_stepsUpTo_22, k_X9_stepsUpTo_23, k_X9_stepsUpTo_24, k_X9_stepsUpTo_25, k_X9_stepsUpTo_26, k_X9_stepsUpTo_27, k_X9_stepsUpTo_28, k_X9_stepsUpTo_29, k_X9_stepsUpTo_30, k_X9_stepsUpTo_31, k_X9_stepsUpTo_32, k_X9_stepsUpTo_33, oE_some, Int.reduceToNat, Nat.reduceAdd, true_and, and_true, List.length_cons, List.length_nil, Option.toList_some, Option.toList_none, List.cons_append, List.nil_append, Nat.reduceLeDiff, Nat.le_refl, wdS_nil, wdS_i, wdS_l, wdS_r, wdS_n, wdS_s]
      rw [w32_nat bk, w32_nat bn, if_neg cc]
      exact Iff.rfl
    | succ m ih =>
      intro k b y5 hk hb1 hb2
      have bk : k < 2147483648 := by omega
      have bn : ns.length < 2147483648 := by omega
      have cc : (k : Int) < (ns.length : Int) := by omega
      have hkl : k < ns.length := by omega
      have hx := hb _ (getD_mem hkl)
      have e1 : l.getD k 0 = ((ns.getD k 0 : Nat) : Int) := hp1 k hkl
      have hl6 := hW.2.2.2.2.1
      have hst := hW.2.2.2.2.2.1
      rw [drop_getD hkl, upB_cons]
      generalize ns.getD k 0 = x at hx e1
      generalize hs : st.getD x 0 = s at hx
      have bx : x < 2147483648 := by omega
      have j1 : k < l.length := by omega
      have j2 : x < st.length := by omega
      have L1 : l.length < 2147483648 := by omega
      have L2 : st.length < 2147483648 := by omega
      have r1 : -2147483648 ≤ s + 1 := by omega
      have r2 : s + 1 < 2147483648 := by omega
      have r3 : -2147483648 ≤ b := by omega
      have r4 : b < 2147483648 := by omega
      have i1 := ih (k + 1) (s + 1) (some (mI (s + 1))) (by omega) (by omega) (by omega)
      have i2 := ih (k + 1) b (some (mI (s + 1))) (by omega) hb1 hb2
      have g1 : l.getD (w32 (k : Int)).toNat 0 = (x : Int) := by rw [w32_tn bk]; exact e1
      rw [AWh_k, k_X9_stepsUpTo_4]
      simp only [AW_k, AWk_1, x_push_i, x_push_l, x_istore_3, x_istore_4, x_iload_4, x_iload_1, x_icmp_ge, x_aload_0, x_aloads_0, x_getf, x_iald, x_ialds, x_iadd, x_istore_5, x_iload_3, x_if_lt, x_iload_2, x_if_eq, x_iload_5, x_icmp_le, x_goto, x_iinc_4, x_ret, x_ret_i, x_ret_z, x_ret_l, x_ret_c, unl_i, unl_l, unl_q, unl_r, unl_s, unl_n, k_X9_stepsUpTo_0, k_X9_stepsUpTo_1, k_X9_stepsUpTo_2, k_X9_stepsUpTo_3, k_X9_stepsUpTo_4, k_X9_stepsUpTo_5, k_X9_stepsUpTo_6, k_X9_stepsUpTo_7, k_X9_stepsUpTo_8, k_X9_stepsUpTo_9, k_X9_stepsUpTo_10, k_X9_stepsUpTo_11, k_X9_stepsUpTo_12, k_X9_stepsUpTo_13, k_X9_stepsUpTo_14, k_X9_stepsUpTo_15, k_X9_stepsUpTo_16, k_X9_stepsUpTo_17, k_X9_stepsUpTo_18, k_X9_stepsUpTo_19, k_X9_stepsUpTo_20, k_X9_stepsUpTo_21, k_X9_stepsUpTo_22, k_X9_stepsUpTo_23, k_X9_stepsUpTo_24, k_X9_stepsUpTo_25, k_X9_stepsUpTo_26, k_X9_stepsUpTo_27, k_X9_stepsUpTo_28, k_X9_stepsUpTo_29, k_X9_stepsUpTo_30, k_X9_stepsUpTo_31, k_X9_stepsUpTo_32, k_X9_stepsUpTo_33, oE_some, Int.reduceToNat, Nat.reduceAdd, true_and, and_true, List.length_cons, List.length_nil, Option.toList_some, Option.toList_none, List.cons_append, List.nil_append, Nat.reduceLeDiff, Nat.le_refl, wdS_nil, wdS_i, wdS_l, wdS_r, wdS_n, wdS_s, hW.1.1, hW.1.2.1, hW.2.1, hW.2.2.1, inB_n j1 L1, g1, inB_n j2 L2, w32_tn bx, hs, w32_zI_0, ite_bf]
      rw [w32_nat bk, w32_nat bn, if_pos cc, w32_id r1 r2, w32_id r3 r4]
      by_cases c1 : b < 0
      · rw [if_pos c1, if_pos (Or.inl c1)]
        exact i1
      · rw [if_neg c1]
        cases most
        · rw [if_neg (by decide)]
          by_cases c2 : s + 1 < b
          · rw [if_pos c2, if_pos (Or.inr (by rw [if_neg (by decide)]; exact c2))]
            exact i1
          · rw [if_neg c2, if_neg (fun q => q.elim c1 (fun q => c2 (by rw [if_neg (by decide)] at q; exact q)))]
            exact i2
        · rw [if_pos rfl]
          by_cases c2 : b < s + 1
          · rw [if_pos c2, if_pos (Or.inr (by rw [if_pos rfl]; exact c2))]
            exact i1
          · rw [if_neg c2, if_neg (fun q => q.elim c1 (fun q => c2 (by rw [if_pos rfl] at q; exact q)))]
            exact i2
  rw [callD_k]; simp only [entL_i, entL_l, entL_q, entL_s, entL_nil, n_X9_stepsUpTo, u_X9_stepsUpTo, m_X9_stepsUpTo, rep_3, List.cons_append, List.nil_append, List.append_nil, List.length_cons, List.length_nil, Nat.reduceAdd, true_and]
  simp only [AW_k, AWk_1, x_push_i, x_push_l, x_istore_3, x_istore_4, x_iload_4, x_iload_1, x_icmp_ge, x_aload_0, x_aloads_0, x_getf, x_iald, x_ialds, x_iadd, x_istore_5, x_iload_3, x_if_lt, x_iload_2, x_if_eq, x_iload_5, x_icmp_le, x_goto, x_iinc_4, x_ret, x_ret_i, x_ret_z, x_ret_l, x_ret_c, unl_i, unl_l, unl_q, unl_r, unl_s, unl_n, k_X9_stepsUpTo_0, k_X9_stepsUpTo_1, k_X9_stepsUpTo_2, k_X9_stepsUpTo_3, k_X9_stepsUpTo_4, k_X9_stepsUpTo_5, k_X9_stepsUpTo_6, k_X9_stepsUpTo_7, k_X9_stepsUpTo_8, k_X9_stepsUpTo_9, k_X9_stepsUpTo_10, k_X9_stepsUpTo_11, k_X9_stepsUpTo_12, k_X9_stepsUpTo_13, k_X9_stepsUpTo_14, k_X9_stepsUpTo_15, k_X9_stepsUpTo_16, k_X9_stepsUpTo_17, k_X9_stepsUpTo_18, k_X9_stepsUpTo_19, k_X9_stepsUpTo_20, k_X9_stepsUpTo_21, k_X9_stepsUpTo_22, k_X9_stepsUpTo_23, k_X9_stepsUpTo_24, k_X9_stepsUpTo_25, k_X9_stepsUpTo_26, k_X9_stepsUpTo_27, k_X9_stepsUpTo_28, k_X9_stepsUpTo_29, k_X9_stepsUpTo_30, k_X9_stepsUpTo_31, k_X9_stepsUpTo_32, k_X9_stepsUpTo_33, oE_some, Int.reduceToNat, Nat.reduceAdd, true_and, and_true, List.length_cons, List.length_nil, Option.toList_some, Option.toList_none, List.cons_append, List.nil_append, Nat.reduceLeDiff, Nat.le_refl, wdS_nil, wdS_i, wdS_l, wdS_r, wdS_n, wdS_s]
  exact key ns.length 0 (-1) none (by omega) (by decide) (by decide)
/-- the steps, where the rows 1 to k have been looked at -/
def suL (n : Nat) (G : BitVec 64) (most : Bool) (s0 : List Int) : Nat → List Int
  | 0 => s0.set 0 0
  | k + 1 => if isL n G (k + 1) = true then (suL n G most s0 k).set (k + 1) (upB (suL n G most s0 k) most (nr0 n G (k + 1)) (-1)) else suL n G most s0 k
theorem suL_succ (n : Nat) (G : BitVec 64) (most : Bool) (s0 : List Int) (k : Nat) : suL n G most s0 (k + 1) = if isL n G (k + 1) = true then (suL n G most s0 k).set (k + 1) (upB (suL n G most s0 k) most (nr0 n G (k + 1)) (-1)) else suL n G most s0 k := rfl
theorem suL_len {n : Nat} {G : BitVec 64} {most : Bool} {s0 : List Int} : ∀ k, (suL n G most s0 k).length = s0.length := by
  intro k
  induction k with
  | zero => exact List.length_set ..
  | succ k ih =>
    rw [suL_succ]
    split
    · rw [List.length_set]; exact ih
    · exact ih
/-- what the line may hold: least rows that stand ahead -/
def nrOK (n : Nat) (G : BitVec 64) : Prop := ∀ i, i < FC n → isL n G i = true → (∀ y ∈ nr0 n G i, y < i ∧ isL n G y = true) ∧ (0 < i → nr0 n G i ≠ [])
theorem upB_in {st : List Int} {most : Bool} : ∀ {ns : List Nat} {b c : Int}, (∀ y ∈ ns, 0 ≤ st.getD y 0 ∧ st.getD y 0 < c) → -1 ≤ b → b ≤ c → -1 ≤ upB st most ns b ∧ upB st most ns b ≤ c ∧ (0 ≤ b ∨ ns ≠ [] → 0 ≤ upB st most ns b) := by
  intro ns
  induction ns with
  | nil => intro b c h h1 h2; exact ⟨h1, h2, fun q => q.elim id (fun q => absurd rfl q)⟩
  | cons x ns ih =>
    intro b c h h1 h2
    have hx := h x (List.mem_cons_self ..)
    rw [upB_cons]
    generalize hb : (if b < 0 ∨ (if most = true then b < st.getD x 0 + 1 else st.getD x 0 + 1 < b) then st.getD x 0 + 1 else b) = b'
    have hb' : 0 ≤ b' ∧ b' ≤ c := by
      rw [← hb]
      by_cases q : b < 0 ∨ (if most = true then b < st.getD x 0 + 1 else st.getD x 0 + 1 < b)
      · rw [if_pos q]; omega
      · rw [if_neg q]
        have q1 : ¬ b < 0 := fun z => q (Or.inl z)
        omega
    have := ih (b := b') (c := c) (fun y hy => h y (List.mem_cons_of_mem _ hy)) (by omega) hb'.2
    exact ⟨this.1, this.2.1, fun _ => this.2.2 (Or.inl hb'.1)⟩
def suI (n : Nat) (G : BitVec 64) (st : List Int) (k : Nat) : Prop := ∀ y, y ≤ k → isL n G y = true → 0 ≤ st.getD y 0 ∧ st.getD y 0 ≤ (y : Int)
theorem suI_0 {n : Nat} {G : BitVec 64} {most : Bool} {s0 : List Int} (h : s0.length = 120) : suI n G (suL n G most s0 0) 0 := by
  intro y hy _
  have : y = 0 := by omega
  subst this
  show 0 ≤ (s0.set 0 0).getD 0 0 ∧ (s0.set 0 0).getD 0 0 ≤ _
  rw [getD_set (by omega), if_pos rfl]
  exact ⟨Int.le_refl _, Int.le_refl _⟩
theorem suI_up {n k : Nat} {G : BitVec 64} {most : Bool} {s0 : List Int} (hl : s0.length = 120) (hN : nrOK n G) (hk : k + 1 < FC n) (h5 : FC n ≤ 120) (h : suI n G (suL n G most s0 k) k) : suI n G (suL n G most s0 (k + 1)) (k + 1) ∧ (isL n G (k + 1) = true → ∀ y ∈ nr0 n G (k + 1), 0 ≤ (suL n G most s0 k).getD y 0 ∧ (suL n G most s0 k).getD y 0 < ((k + 1 : Nat) : Int)) := by
  have hu : isL n G (k + 1) = true → ∀ y ∈ nr0 n G (k + 1), 0 ≤ (suL n G most s0 k).getD y 0 ∧ (suL n G most s0 k).getD y 0 < ((k + 1 : Nat) : Int) := by
    intro hL y hy
    obtain ⟨a1, a2⟩ := (hN (k + 1) hk hL).1 y hy
    have := h y (by omega) a2
    omega
  refine ⟨?_, hu⟩
  intro y hy hyL
  rw [suL_succ]
  by_cases hL : isL n G (k + 1) = true
  · rw [if_pos hL, getD_set (by rw [suL_len]; omega)]
    by_cases e : k + 1 = y
    · subst e
      rw [if_pos rfl]
      have := upB_in (most := most) (hu hL) (b := -1) (Int.le_refl _) (by omega)
      exact ⟨this.2.2 (Or.inr ((hN (k + 1) hk hL).2 (by omega))), this.2.1⟩
    · rw [if_neg e]
      exact h y (by omega) hyL
  · rw [if_neg hL]
    have : y ≠ k + 1 := fun e => hL (by rw [← e]; exact hyL)
    exact h y (by omega) hyL
set_option maxHeartbeats 16000000 in
theorem c9_stepsUp (d : Nat) {hp : HP} {w ra n : Nat} {G : BitVec 64} {l s0 q : List Int} {most : Bool} (hR : RWS hp ra n) (hW : WK hp w l s0 q) (h5 : n ≤ 5) (hN : nrOK n G) (ho : w + 4 ≤ ra ∨ ra + 16 ≤ w) : ∃ h' l' st' q', WK h' w l' st' q' ∧ Fr w (w + 4) hp h' ∧ ∀ R : PO, callD (d + 4) 97 [mR w, mR ra, mL G, mI (zI most)] hp R ↔ R (some (mI ((suL n G most s0 (FC n - 1)).getD (lst n G (FC n - 1)) 0))) h' := by
  have h1 := rw_1 hR
  have h6 := rw_6 hR
  have b1 := FC_5 h5
  have b0 := FC_pos h1 h6
  have hl0 := hW.2.2.2.2.2.1
  have key : ∀ (m k : Nat) (l q : List Int) (h : HP), k + m = FC n - 1 → RWS h ra n → WK h w l (suL n G most s0 k) q → suI n G (suL n G most s0 k) k → ∃ h' l' st' q', WK h' w l' st' q' ∧ Fr w (w + 4) h h' ∧ ∀ R : PO, AWh (d + 3) [] 97 R 7 [some (mR w), some (mR ra), some (mL G), none, some (mI (zI most)), some (mI ((k + 1 : Nat) : Int))] [] h (0, 0) ↔ R (some (mI ((suL n G most s0 (FC n - 1)).getD (lst n G (FC n - 1)) 0))) h' := by
    intro m
    induction m with
    | zero =>
      intro k l q h hk hR hW hI
      have e : k = FC n - 1 := by omega
      subst e
      have ht := lst_ok (G := G) h1 h6 (show FC n - 1 < FC n by omega)
      have hl := hW.2.2.2.2.2.1
      have bk : FC n - 1 + 1 < 2147483648 := by omega
      have cc : ¬ ((FC n - 1 + 1 : Nat) : Int) < ((FC n : Nat) : Int) := by omega
      have ec : ((FC n : Nat) : Int) - 1 = ((FC n - 1 : Nat) : Int) := by omega
      have bt : lst n G (FC n - 1) < 2147483648 := by omega
      have j1 : lst n G (FC n - 1) < (suL n G most s0 (FC n - 1)).length := by omega
      have L1 : (suL n G most s0 (FC n - 1)).length < 2147483648 := by omega
      refine ⟨h, l, _, q, hW, Fr_refl h, fun R => ?_⟩
      rw [AWh_k, k_X9_stepsUp_7]
      simp only [AW_k, AWk_1, x_aload_0, x_aloads_0, x_getf, x_push_i, x_push_l, x_iast, x_istore_5, x_iload_5, x_aload_1, x_aloads_1, x_icmp_ge, x_lload_2, x_callv_3, x_if_eq, x_callv_5, x_iload_4, x_iinc_5, x_goto, x_isub, x_iald, x_ialds, x_ret, x_ret_i, x_ret_z, x_ret_l, x_ret_c, unl_i, unl_l, unl_q, unl_r, unl_s, unl_n, k_X9_stepsUp_0, k_X9_stepsUp_1, k_X9_stepsUp_2, k_X9_stepsUp_3, k_X9_stepsUp_4, k_X9_stepsUp_5, k_X9_stepsUp_6, k_X9_stepsUp_7, k_X9_stepsUp_8, k_X9_stepsUp_9, k_X9_stepsUp_10, k_X9_stepsUp_11, k_X9_stepsUp_12, k_X9_stepsUp_13, k_X9_stepsUp_14, k_X9_stepsUp_15, k_X9_stepsUp_16, k_X9_stepsUp_17, k_X9_stepsUp_18, k_X9_stepsUp_19, k_X9_stepsUp_20, k_X9_stepsUp_21, k_X9_stepsUp_22, k_X9_stepsUp_23, k_X9_stepsUp_24, k_X9_stepsUp_25, k_X9_stepsUp_26, k_X9_stepsUp_27, k_X9_stepsUp_28, k_X9_stepsUp_29, k_X9_stepsUp_30, k_X9_stepsUp_31, k_X9_stepsUp_32, k_X9_stepsUp_33, k_X9_stepsUp_34, k_X9_stepsUp_35, k_X9_stepsUp_36, k_X9_stepsUp_37, k_X9_stepsUp_38, k_X9_stepsUp_39, k_X9_stepsUp_40, k_X9_stepsUp_41, oE_some, Int.reduceToNat, Nat.reduceAdd, true_and, and_true, List.length_cons, List.length_nil, Option.toList_some, Option.toList_none, List.cons_append, List.nil_append, Nat.reduceLeDiff, Nat.le_refl, wdS_nil, wdS_i, wdS_l, wdS_r, wdS_n, wdS_s, rw_count hR, hW.1.2.1, hW.2.2.1, rC0 hR, ec, c4_leastOf (d + 1) hR (show FC n - 1 < FC n by omega), inB_n j1 L1, w32_tn bt]
      rw [w32_nat bk, w32_nat (FC_31 n), if_neg cc]
    | succ m ih =>
      intro k l q h hk hR hW hI
      have hk1 : k + 1 < FC n := by omega
      have bk : k + 1 < 2147483648 := by omega
      have cc : ((k + 1 : Nat) : Int) < ((FC n : Nat) : Int) := by omega
      have hl := hW.2.2.2.2.2.1
      obtain ⟨hI2, hu⟩ := suI_up (most := most) hl0 hN hk1 b1 hI
      cases hL : isL n G (k + 1)
      · have e : suL n G most s0 (k + 1) = suL n G most s0 k := by rw [suL_succ, hL, if_neg (by decide)]
        obtain ⟨h', l', st', q', u1, u2, u3⟩ := ih (k + 1) l q h (by omega) hR (by rw [e]; exact hW) hI2
        refine ⟨h', l', st', q', u1, u2, fun R => ?_⟩
        rw [AWh_k, k_X9_stepsUp_7]
        simp only [AW_k, AWk_1, x_aload_0, x_aloads_0, x_getf, x_push_i, x_push_l, x_iast, x_istore_5, x_iload_5, x_aload_1, x_aloads_1, x_icmp_ge, x_lload_2, x_callv_3, x_if_eq, x_callv_5, x_iload_4, x_iinc_5, x_goto, x_isub, x_iald, x_ialds, x_ret, x_ret_i, x_ret_z, x_ret_l, x_ret_c, unl_i, unl_l, unl_q, unl_r, unl_s, unl_n, k_X9_stepsUp_0, k_X9_stepsUp_1, k_X9_stepsUp_2, k_X9_stepsUp_3, k_X9_stepsUp_4, k_X9_stepsUp_5, k_X9_stepsUp_6, k_X9_stepsUp_7, k_X9_stepsUp_8, k_X9_stepsUp_9, k_X9_stepsUp_10, k_X9_stepsUp_11, k_X9_stepsUp_12, k_X9_stepsUp_13, k_X9_stepsUp_14, k_X9_stepsUp_15, k_X9_stepsUp_16, k_X9_stepsUp_17, k_X9_stepsUp_18, k_X9_stepsUp_19, k_X9_stepsUp_20, k_X9_stepsUp_21, k_X9_stepsUp_22, k_X9_stepsUp_23, k_X9_stepsUp_24, k_X9_stepsUp_25, k_X9_stepsUp_26, k_X9_stepsUp_27, k_X9_stepsUp_28, k_X9_stepsUp_29, k_X9_stepsUp_30, k_X9_stepsUp_31, k_X9_stepsUp_32, k_X9_stepsUp_33, k_X9_stepsUp_34, k_X9_stepsUp_35, k_X9_stepsUp_36, k_X9_stepsUp_37, k_X9_stepsUp_38, k_X9_stepsUp_39, k_X9_stepsUp_40, k_X9_stepsUp_41, oE_some, Int.reduceToNat, Nat.reduceAdd, true_and, and_true, List.length_cons, List.length_nil, Option.toList_some, Option.toList_none, List.cons_append, List.nil_append, Nat.reduceLeDiff, Nat.le_refl, wdS_nil, wdS_i, wdS_l, wdS_r, wdS_n, wdS_s, rw_count hR, rC0 hR, c4_isLeast (d + 2) hR hk1, hL, w32_zI_0, if_true]
        rw [w32_nat bk, w32_nat (FC_31 n), if_pos cc]
        exact u3 R
      · have e : suL n G most s0 (k + 1) = (suL n G most s0 k).set (k + 1) (upB (suL n G most s0 k) most (nr0 n G (k + 1)) (-1)) := by rw [suL_succ, hL, if_pos rfl]
        have hu := hu hL
        obtain ⟨l1, p1, p2, p3⟩ := c9_findNear0 (G := G) d hR hW hk1 ho
        have hW1 := WK_1 (l' := l1) hW p2
        have fr1 : Fr w (w + 4) h (pA h (w + 1) l1) := Fr_pA (by omega) (by omega)
        have hR1 := RWS_Fr hR fr1 (by omega)
        have hn0 : (nr0 n G (k + 1)).length < 6 := nr0_len h6
        have hbd := nr0_bd (G := G) h1 h6 hk1
        have c := c9_stepsUpTo (most := most) (d + 2) hW1 p1 (by omega) (fun y hy => by have a := hu y hy; have b := hbd y hy; omega)
        have j1 : k + 1 < (suL n G most s0 k).length := by omega
        have L1 : (suL n G most s0 k).length < 2147483648 := by omega
        have hW2 := WK_2 (l' := suL n G most s0 (k + 1)) hW1 (by rw [suL_len]; exact hl0)
        have fr2 : Fr w (w + 4) (pA h (w + 1) l1) (pA (pA h (w + 1) l1) (w + 2) (suL n G most s0 (k + 1))) := Fr_pA (by omega) (by omega)
        have hR2 := RWS_Fr hR1 fr2 (by omega)
        obtain ⟨h', l', st', q', u1, u2, u3⟩ := ih (k + 1) l1 q _ (by omega) hR2 hW2 hI2
        refine ⟨h', l', st', q', u1, Fr_trans (Fr_trans fr1 fr2) u2, fun R => ?_⟩
        have u3 := u3 R
        rw [e] at u3
        rw [AWh_k, k_X9_stepsUp_7]
        simp only [AW_k, AWk_1, x_aload_0, x_aloads_0, x_getf, x_push_i, x_push_l, x_iast, x_istore_5, x_iload_5, x_aload_1, x_aloads_1, x_icmp_ge, x_lload_2, x_callv_3, x_if_eq, x_callv_5, x_iload_4, x_iinc_5, x_goto, x_isub, x_iald, x_ialds, x_ret, x_ret_i, x_ret_z, x_ret_l, x_ret_c, unl_i, unl_l, unl_q, unl_r, unl_s, unl_n, k_X9_stepsUp_0, k_X9_stepsUp_1, k_X9_stepsUp_2, k_X9_stepsUp_3, k_X9_stepsUp_4, k_X9_stepsUp_5, k_X9_stepsUp_6, k_X9_stepsUp_7, k_X9_stepsUp_8, k_X9_stepsUp_9, k_X9_stepsUp_10, k_X9_stepsUp_11, k_X9_stepsUp_12, k_X9_stepsUp_13, k_X9_stepsUp_14, k_X9_stepsUp_15, k_X9_stepsUp_16, k_X9_stepsUp_17, k_X9_stepsUp_18, k_X9_stepsUp_19, k_X9_stepsUp_20, k_X9_stepsUp_21, k_X9_stepsUp_22, k_X9_stepsUp_23, k_X9_stepsUp_24, k_X9_stepsUp_25, k_X9_stepsUp_26, k_X9_stepsUp_27, k_X9_stepsUp_28, k_X9_stepsUp_29, k_X9_stepsUp_30, k_X9_stepsUp_31, k_X9_stepsUp_32, k_X9_stepsUp_33, k_X9_stepsUp_34, k_X9_stepsUp_35, k_X9_stepsUp_36, k_X9_stepsUp_37, k_X9_stepsUp_38, k_X9_stepsUp_39, k_X9_stepsUp_40, k_X9_stepsUp_41, oE_some, Int.reduceToNat, Nat.reduceAdd, true_and, and_true, List.length_cons, List.length_nil, Option.toList_some, Option.toList_none, List.cons_append, List.nil_append, Nat.reduceLeDiff, Nat.le_refl, wdS_nil, wdS_i, wdS_l, wdS_r, wdS_n, wdS_s, rw_count hR, rC0 hR, c4_isLeast (d + 2) hR hk1, hL, w32_zI_0, Bool.true_eq_false, if_false, hW.1.2.1, hW.2.2.1, gC_of hW.1.1, p3, gC_of hW1.1.1, c, hW1.2.2.1, inB_n j1 L1, w32_tn bk]
        rw [w32_nat bk, w32_nat (FC_31 n), if_pos cc]
        exact u3
  have hW0 := WK_2 (l' := s0.set 0 0) hW (by rw [List.length_set]; exact hl0)
  have fr0 : Fr w (w + 4) hp (pA hp (w + 2) (s0.set 0 0)) := Fr_pA (by omega) (by omega)
  have hR0 := RWS_Fr hR fr0 (by omega)
  obtain ⟨h', l', st', q', u1, u2, u3⟩ := key (FC n - 1) 0 l q _ (by omega) hR0 hW0 (suI_0 hl0)
  refine ⟨h', l', st', q', u1, Fr_trans fr0 u2, fun R => ?_⟩
  have j0 : 0 < s0.length := by omega
  have L0 : s0.length < 2147483648 := by omega
  have i0 : inB 0 s0.length := inB_n (k := 0) j0 L0
  rw [callD_k]; simp only [entL_i, entL_l, entL_q, entL_s, entL_nil, n_X9_stepsUp, u_X9_stepsUp, m_X9_stepsUp, rep_1, List.cons_append, List.nil_append, List.append_nil, List.length_cons, List.length_nil, Nat.reduceAdd, true_and]
  simp only [AW_k, AWk_1, x_aload_0, x_aloads_0, x_getf, x_push_i, x_push_l, x_iast, x_istore_5, x_iload_5, x_aload_1, x_aloads_1, x_icmp_ge, x_lload_2, x_callv_3, x_if_eq, x_callv_5, x_iload_4, x_iinc_5, x_goto, x_isub, x_iald, x_ialds, x_ret, x_ret_i, x_ret_z, x_ret_l, x_ret_c, unl_i, unl_l, unl_q, unl_r, unl_s, unl_n, k_X9_stepsUp_0, k_X9_stepsUp_1, k_X9_stepsUp_2, k_X9_stepsUp_3, k_X9_stepsUp_4, k_X9_stepsUp_5, k_X9_stepsUp_6, k_X9_stepsUp_7, k_X9_stepsUp_8, k_X9_stepsUp_9, k_X9_stepsUp_10, k_X9_stepsUp_11, k_X9_stepsUp_12, k_X9_stepsUp_13, k_X9_stepsUp_14, k_X9_stepsUp_15, k_X9_stepsUp_16, k_X9_stepsUp_17, k_X9_stepsUp_18, k_X9_stepsUp_19, k_X9_stepsUp_20, k_X9_stepsUp_21, k_X9_stepsUp_22, k_X9_stepsUp_23, k_X9_stepsUp_24, k_X9_stepsUp_25, k_X9_stepsUp_26, k_X9_stepsUp_27, k_X9_stepsUp_28, k_X9_stepsUp_29, k_X9_stepsUp_30, k_X9_stepsUp_31, k_X9_stepsUp_32, k_X9_stepsUp_33, k_X9_stepsUp_34, k_X9_stepsUp_35, k_X9_stepsUp_36, k_X9_stepsUp_37, k_X9_stepsUp_38, k_X9_stepsUp_39, k_X9_stepsUp_40, k_X9_stepsUp_41, oE_some, Int.reduceToNat, Nat.reduceAdd, true_and, and_true, List.length_cons, List.length_nil, Option.toList_some, Option.toList_none, List.cons_append, List.nil_append, Nat.reduceLeDiff, Nat.le_refl, wdS_nil, wdS_i, wdS_l, wdS_r, wdS_n, wdS_s, hW.1.2.1, hW.2.2.1, i0, show (w32 0).toNat = 0 from rfl]
  exact u3 R
