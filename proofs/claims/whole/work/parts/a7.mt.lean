/-! ===== the reference: meets, joins; least rows ===== -/
theorem sub1_and {a s t : Nat} : sub1 a (s &&& t) = true ↔ sub1 a s = true ∧ sub1 a t = true := by
  rw [sub1_bits, sub1_bits, sub1_bits]
  constructor
  · intro h
    constructor
    · intro k hk; have := h k hk; rw [Nat.testBit_and, Bool.and_eq_true] at this; exact this.1
    · intro k hk; have := h k hk; rw [Nat.testBit_and, Bool.and_eq_true] at this; exact this.2
  · intro h k hk
    rw [Nat.testBit_and, h.1 k hk, h.2 k hk]; rfl
theorem sub1_or {a s t : Nat} : sub1 (s ||| t) a = true ↔ sub1 s a = true ∧ sub1 t a = true := by
  rw [sub1_bits, sub1_bits, sub1_bits]
  constructor
  · intro h
    exact ⟨fun k hk => h k (by rw [Nat.testBit_or, hk, Bool.true_or]), fun k hk => h k (by rw [Nat.testBit_or, hk, Bool.or_true])⟩
  · intro h k hk
    rw [Nat.testBit_or, Bool.or_eq_true] at hk
    exact hk.elim (h.1 k) (h.2 k)
theorem popN_pc (n k : Nat) : popN (sw n k) = ((pc15 (sw n k) : Nat) : Int) := (pc15_pop (sw_31 n k)).symm
theorem mm_E {n i j : Nat} (h1 : 1 ≤ n) (h6 : n ≤ 6) (hi : i < FC n) (hj : j < FC n) : mmN n (mmI n (sw n i &&& sw n j) (FC n)) (-1) = ((num n (mt n i j) : Nat) : Int) := by
  obtain ⟨a1, a2, a3, a4⟩ := mtE_ok h1 h6 hi hj
  rw [mt_E h1 h6 hi hj]
  generalize mtE n i j = M at *
  have cand : ∀ k, k < FC n → (sub1 (sw n k) (sw n i &&& sw n j) = true ↔ blw n k i = true ∧ blw n k j = true) := fun k _ => sub1_and
  have lt : ∀ k, k < FC n → sub1 (sw n k) (sw n i &&& sw n j) = true → k ≠ M → popN (sw n k) < popN (sw n M) := by
    intro k hk hs hne
    obtain ⟨x, y⟩ := (cand k hk).mp hs
    have := (blw_le h1 h6 hk a1 (a4 k hk x y)).2 hne
    rw [popN_pc, popN_pc]
    omega
  have hM : sub1 (sw n M) (sw n i &&& sw n j) = true := (cand M a1).mpr ⟨a2, a3⟩
  have lo : ∀ k, k ≤ M → (mmI n (sw n i &&& sw n j) k).2 < popN (sw n M) := by
    intro k
    induction k with
    | zero => intro _; have := popN_bd (sw n M); show (-1 : Int) < _; omega
    | succ k ih =>
      intro hk
      rw [mmI_up]
      split
      · next c => exact lt k (by omega) c.1 (by omega)
      · exact ih (by omega)
  have hi2 : ∀ m, M + 1 + m ≤ FC n → mmI n (sw n i &&& sw n j) (M + 1 + m) = (M, popN (sw n M)) := by
    intro m
    induction m with
    | zero =>
      intro _
      rw [Nat.add_zero, mmI_up, if_pos ⟨hM, lo M (Nat.le_refl _)⟩]
    | succ m ih =>
      intro hm
      rw [show M + 1 + (m + 1) = (M + 1 + m) + 1 by omega, mmI_up, ih (by omega)]
      rw [if_neg]
      intro ⟨c1, c2⟩
      have := lt (M + 1 + m) (by omega) c1 (by omega)
      have c3 : popN (sw n M) < popN (sw n (M + 1 + m)) := c2
      omega
  have := hi2 (FC n - (M + 1)) (by omega)
  rw [show M + 1 + (FC n - (M + 1)) = FC n by omega] at this
  rw [this]
  have pb := popN_bd (sw n M)
  unfold mmN
  rw [if_neg (show ¬ popN (sw n M) = -1 by omega)]
theorem mj_E {n i j : Nat} (h1 : 1 ≤ n) (h6 : n ≤ 6) (hi : i < FC n) (hj : j < FC n) : mmN n (mjI n (sw n i ||| sw n j) (FC n)) 99 = ((num n (jn n i j) : Nat) : Int) := by
  obtain ⟨a1, a2, a3, a4⟩ := jnE_ok h1 h6 hi hj
  rw [jn_E h1 h6 hi hj]
  generalize jnE n i j = M at *
  have cand : ∀ k, k < FC n → (sub1 (sw n i ||| sw n j) (sw n k) = true ↔ blw n i k = true ∧ blw n j k = true) := fun k _ => sub1_or
  have lt : ∀ k, k < FC n → sub1 (sw n i ||| sw n j) (sw n k) = true → k ≠ M → popN (sw n M) < popN (sw n k) := by
    intro k hk hs hne
    obtain ⟨x, y⟩ := (cand k hk).mp hs
    have := (blw_le h1 h6 a1 hk (a4 k hk x y)).2 (fun e => hne e.symm)
    rw [popN_pc, popN_pc]
    omega
  have hM : sub1 (sw n i ||| sw n j) (sw n M) = true := (cand M a1).mpr ⟨a2, a3⟩
  have lo : ∀ k, k ≤ M → popN (sw n M) < (mjI n (sw n i ||| sw n j) k).2 := by
    intro k
    induction k with
    | zero => intro _; have := popN_bd (sw n M); show _ < (99 : Int); omega
    | succ k ih =>
      intro hk
      rw [mjI_up]
      split
      · next c => exact lt k (by omega) c.1 (by omega)
      · exact ih (by omega)
  have hi2 : ∀ m, M + 1 + m ≤ FC n → mjI n (sw n i ||| sw n j) (M + 1 + m) = (M, popN (sw n M)) := by
    intro m
    induction m with
    | zero =>
      intro _
      rw [Nat.add_zero, mjI_up, if_pos ⟨hM, lo M (Nat.le_refl _)⟩]
    | succ m ih =>
      intro hm
      rw [show M + 1 + (m + 1) = (M + 1 + m) + 1 by omega, mjI_up, ih (by omega)]
      rw [if_neg]
      intro ⟨c1, c2⟩
      have := lt (M + 1 + m) (by omega) c1 (by omega)
      have c3 : popN (sw n (M + 1 + m)) < popN (sw n M) := c2
      omega
  have := hi2 (FC n - (M + 1)) (by omega)
  rw [show M + 1 + (FC n - (M + 1)) = FC n by omega] at this
  rw [this]
  have pb := popN_bd (sw n M)
  unfold mmN
  rw [if_neg (show ¬ popN (sw n M) = 99 by omega)]
theorem m_meetOf (d : Nat) {hp : HP} {n i j : Nat} (h : MK hp n) (hi : i < FC n) (hj : j < FC n) (R : PO) : callD (d + 3) 170 [mR 54, mI ((num n i : Nat) : Int), mI ((num n j : Nat) : Int)] hp R ↔ R (some (mI ((num n (mt n i j) : Nat) : Int))) hp := by
  rw [m_meetOf0 d h hi hj R, mm_E h.1.1 h.1.2 hi hj]
theorem m_joinOf (d : Nat) {hp : HP} {n i j : Nat} (h : MK hp n) (hi : i < FC n) (hj : j < FC n) (R : PO) : callD (d + 3) 171 [mR 54, mI ((num n i : Nat) : Int), mI ((num n j : Nat) : Int)] hp R ↔ R (some (mI ((num n (jn n i j) : Nat) : Int))) hp := by
  rw [m_joinOf0 d h hi hj R, mj_E h.1.1 h.1.2 hi hj]
theorem m_meet (d : Nat) {hp : HP} {n : Nat} {x y : Int} (h : MK hp n) (hx : w32 x = x) (hy : w32 y = y) (R : PO) : callD (d + 100) 174 [mR 54, mI x, mI y] hp R ↔ R (some (mI (an2 n x y (fun i j => ((num n (mt n i j) : Nat) : Int))))) hp := by
  cases ex : ixo n x with
  | none =>
    rw [an2_n ex]
    rw [callD_k]; simp only [entL_i, entL_l, entL_q, entL_s, entL_nil, n_X11_meet, u_X11_meet, m_X11_meet, rep_0, List.cons_append, List.nil_append, List.append_nil, List.length_cons, List.length_nil, Nat.reduceAdd, true_and]
    simp only [AW_k, AWk_1, x_aload_0, x_aloads_0, x_iload_1, x_iload_2, x_callv_3, x_if_eq, x_goto, x_push_i, x_push_l, x_ret, x_ret_i, x_ret_z, x_ret_l, x_ret_c, k_X11_meet_0, k_X11_meet_1, k_X11_meet_2, k_X11_meet_3, k_X11_meet_4, k_X11_meet_5, k_X11_meet_6, k_X11_meet_7, k_X11_meet_8, k_X11_meet_9, k_X11_meet_10, k_X11_meet_11, oE_some, Int.reduceToNat, Nat.reduceAdd, true_and, and_true, List.length_cons, List.length_nil, Option.toList_some, Option.toList_none, List.cons_append, List.nil_append, Nat.reduceLeDiff, Nat.le_refl, wdS_nil, wdS_i, wdS_l, wdS_r, wdS_n, wdS_s, cM h, m_areRows (d + 96) h hx hy, areN ex, zI_f, w00, ↓reduceIte]
  | some i =>
    have hi := ixo_lt ex
    have exn := ixo_num ex
    cases ey : ixo n y with
    | none =>
      rw [an2_m ex ey]
      rw [callD_k]; simp only [entL_i, entL_l, entL_q, entL_s, entL_nil, n_X11_meet, u_X11_meet, m_X11_meet, rep_0, List.cons_append, List.nil_append, List.append_nil, List.length_cons, List.length_nil, Nat.reduceAdd, true_and]
      simp only [AW_k, AWk_1, x_aload_0, x_aloads_0, x_iload_1, x_iload_2, x_callv_3, x_if_eq, x_goto, x_push_i, x_push_l, x_ret, x_ret_i, x_ret_z, x_ret_l, x_ret_c, k_X11_meet_0, k_X11_meet_1, k_X11_meet_2, k_X11_meet_3, k_X11_meet_4, k_X11_meet_5, k_X11_meet_6, k_X11_meet_7, k_X11_meet_8, k_X11_meet_9, k_X11_meet_10, k_X11_meet_11, oE_some, Int.reduceToNat, Nat.reduceAdd, true_and, and_true, List.length_cons, List.length_nil, Option.toList_some, Option.toList_none, List.cons_append, List.nil_append, Nat.reduceLeDiff, Nat.le_refl, wdS_nil, wdS_i, wdS_l, wdS_r, wdS_n, wdS_s, cM h, m_areRows (d + 96) h hx hy, areM ex ey, zI_f, w00, ↓reduceIte]
    | some j =>
      have hj := ixo_lt ey
      have eyn := ixo_num ey
      rw [an2_s ex ey]
      have mb := fun R => m_meetOf (d + 96) h hi hj R
      rw [exn, eyn] at mb
      rw [callD_k]; simp only [entL_i, entL_l, entL_q, entL_s, entL_nil, n_X11_meet, u_X11_meet, m_X11_meet, rep_0, List.cons_append, List.nil_append, List.append_nil, List.length_cons, List.length_nil, Nat.reduceAdd, true_and]
      simp only [AW_k, AWk_1, x_aload_0, x_aloads_0, x_iload_1, x_iload_2, x_callv_3, x_if_eq, x_goto, x_push_i, x_push_l, x_ret, x_ret_i, x_ret_z, x_ret_l, x_ret_c, k_X11_meet_0, k_X11_meet_1, k_X11_meet_2, k_X11_meet_3, k_X11_meet_4, k_X11_meet_5, k_X11_meet_6, k_X11_meet_7, k_X11_meet_8, k_X11_meet_9, k_X11_meet_10, k_X11_meet_11, oE_some, Int.reduceToNat, Nat.reduceAdd, true_and, and_true, List.length_cons, List.length_nil, Option.toList_some, Option.toList_none, List.cons_append, List.nil_append, Nat.reduceLeDiff, Nat.le_refl, wdS_nil, wdS_i, wdS_l, wdS_r, wdS_n, wdS_s, cM h, m_areRows (d + 96) h hx hy, areT ex ey, zI_t, w10, mb, ↓reduceIte]
theorem m_join (d : Nat) {hp : HP} {n : Nat} {x y : Int} (h : MK hp n) (hx : w32 x = x) (hy : w32 y = y) (R : PO) : callD (d + 100) 175 [mR 54, mI x, mI y] hp R ↔ R (some (mI (an2 n x y (fun i j => ((num n (jn n i j) : Nat) : Int))))) hp := by
  cases ex : ixo n x with
  | none =>
    rw [an2_n ex]
    rw [callD_k]; simp only [entL_i, entL_l, entL_q, entL_s, entL_nil, n_X11_join, u_X11_join, m_X11_join, rep_0, List.cons_append, List.nil_append, List.append_nil, List.length_cons, List.length_nil, Nat.reduceAdd, true_and]
    simp only [AW_k, AWk_1, x_aload_0, x_aloads_0, x_iload_1, x_iload_2, x_callv_3, x_if_eq, x_goto, x_push_i, x_push_l, x_ret, x_ret_i, x_ret_z, x_ret_l, x_ret_c, k_X11_join_0, k_X11_join_1, k_X11_join_2, k_X11_join_3, k_X11_join_4, k_X11_join_5, k_X11_join_6, k_X11_join_7, k_X11_join_8, k_X11_join_9, k_X11_join_10, k_X11_join_11, oE_some, Int.reduceToNat, Nat.reduceAdd, true_and, and_true, List.length_cons, List.length_nil, Option.toList_some, Option.toList_none, List.cons_append, List.nil_append, Nat.reduceLeDiff, Nat.le_refl, wdS_nil, wdS_i, wdS_l, wdS_r, wdS_n, wdS_s, cM h, m_areRows (d + 96) h hx hy, areN ex, zI_f, w00, ↓reduceIte]
  | some i =>
    have hi := ixo_lt ex
    have exn := ixo_num ex
    cases ey : ixo n y with
    | none =>
      rw [an2_m ex ey]
      rw [callD_k]; simp only [entL_i, entL_l, entL_q, entL_s, entL_nil, n_X11_join, u_X11_join, m_X11_join, rep_0, List.cons_append, List.nil_append, List.append_nil, List.length_cons, List.length_nil, Nat.reduceAdd, true_and]
      simp only [AW_k, AWk_1, x_aload_0, x_aloads_0, x_iload_1, x_iload_2, x_callv_3, x_if_eq, x_goto, x_push_i, x_push_l, x_ret, x_ret_i, x_ret_z, x_ret_l, x_ret_c, k_X11_join_0, k_X11_join_1, k_X11_join_2, k_X11_join_3, k_X11_join_4, k_X11_join_5, k_X11_join_6, k_X11_join_7, k_X11_join_8, k_X11_join_9, k_X11_join_10, k_X11_join_11, oE_some, Int.reduceToNat, Nat.reduceAdd, true_and, and_true, List.length_cons, List.length_nil, Option.toList_some, Option.toList_none, List.cons_append, List.nil_append, Nat.reduceLeDiff, Nat.le_refl, wdS_nil, wdS_i, wdS_l, wdS_r, wdS_n, wdS_s, cM h, m_areRows (d + 96) h hx hy, areM ex ey, zI_f, w00, ↓reduceIte]
    | some j =>
      have hj := ixo_lt ey
      have eyn := ixo_num ey
      rw [an2_s ex ey]
      have mb := fun R => m_joinOf (d + 96) h hi hj R
      rw [exn, eyn] at mb
      rw [callD_k]; simp only [entL_i, entL_l, entL_q, entL_s, entL_nil, n_X11_join, u_X11_join, m_X11_join, rep_0, List.cons_append, List.nil_append, List.append_nil, List.length_cons, List.length_nil, Nat.reduceAdd, true_and]
      simp only [AW_k, AWk_1, x_aload_0, x_aloads_0, x_iload_1, x_iload_2, x_callv_3, x_if_eq, x_goto, x_push_i, x_push_l, x_ret, x_ret_i, x_ret_z, x_ret_l, x_ret_c, k_X11_join_0, k_X11_join_1, k_X11_join_2, k_X11_join_3, k_X11_join_4, k_X11_join_5, k_X11_join_6, k_X11_join_7, k_X11_join_8, k_X11_join_9, k_X11_join_10, k_X11_join_11, oE_some, Int.reduceToNat, Nat.reduceAdd, true_and, and_true, List.length_cons, List.length_nil, Option.toList_some, Option.toList_none, List.cons_append, List.nil_append, Nat.reduceLeDiff, Nat.le_refl, wdS_nil, wdS_i, wdS_l, wdS_r, wdS_n, wdS_s, cM h, m_areRows (d + 96) h hx hy, areT ex ey, zI_t, w10, mb, ↓reduceIte]
/-- least rows: told by their sets, told by their gaps -/
theorem dd_and {n i : Nat} {G : BitVec 64} : ∀ p, (ddA n i p &&& G = 0#64) ↔ ∀ q, q < p → dn n i q = true → G.getLsbD (ar n i q) = false := by
  intro p
  induction p with
  | zero =>
    constructor
    · intro _ q hq; omega
    · intro _
      show 0#64 &&& G = 0#64
      exact BitVec.zero_and
  | succ p ih =>
    rw [ddA_succ]
    by_cases c : dn n i p = true
    · rw [if_pos c]
      have e : ((ddA n i p ||| 1#64 <<< ar n i p) &&& G = 0#64) ↔ (ddA n i p &&& G = 0#64) ∧ G.getLsbD (ar n i p) = false := by
        constructor
        · intro h
          constructor
          · apply BitVec.eq_of_getLsbD_eq
            intro k hk
            have := congrArg (fun x : BitVec 64 => x.getLsbD k) h
            simp only [BitVec.getLsbD_and, BitVec.getLsbD_or, BitVec.getLsbD_zero] at this ⊢
            revert this
            cases (ddA n i p).getLsbD k <;> cases (1#64 <<< ar n i p).getLsbD k <;> cases G.getLsbD k <;> simp
          · have := congrArg (fun x : BitVec 64 => x.getLsbD (ar n i p)) h
            simp only [BitVec.getLsbD_and, BitVec.getLsbD_or, BitVec.getLsbD_zero, BitVec.getLsbD_shiftLeft, Nat.lt_irrefl, decide_false, Bool.not_false, Nat.sub_self] at this
            cases q : G.getLsbD (ar n i p) with
            | false => rfl
            | true =>
              have h64 : ar n i p < 64 := BitVec.lt_of_getLsbD q
              rw [q, decide_eq_true h64] at this
              revert this
              cases (ddA n i p).getLsbD (ar n i p) <;> decide
        · intro ⟨x, y⟩
          apply BitVec.eq_of_getLsbD_eq
          intro k hk
          have := congrArg (fun x : BitVec 64 => x.getLsbD k) x
          simp only [BitVec.getLsbD_and, BitVec.getLsbD_or, BitVec.getLsbD_zero] at this ⊢
          by_cases e2 : k = ar n i p
          · subst e2; rw [y, Bool.and_false]
          · have e3 : (1#64 <<< ar n i p).getLsbD k = false := by
              rw [BitVec.getLsbD_shiftLeft]
              by_cases c2 : k < ar n i p
              · rw [decide_eq_true c2]; simp
              · rw [BitVec.getLsbD_one]
                have : ¬ (k - ar n i p = 0) := by omega
                simp [this]
            rw [e3, Bool.or_false]
            exact this
      rw [e, ih]
      constructor
      · intro ⟨x, y⟩ q hq hd
        by_cases e2 : q = p
        · subst e2; exact y
        · exact x q (by omega) hd
      · intro h
        exact ⟨fun q hq hd => h q (by omega) hd, h p (by omega) c⟩
    · rw [if_neg c, ih]
      constructor
      · intro x q hq hd
        by_cases e2 : q = p
        · subst e2; exact absurd hd c
        · exact x q (by omega) hd
      · intro h q hq hd
        exact h q (by omega) hd
theorem isP_L {n i : Nat} {G : BitVec 64} (h1 : 1 ≤ n) (h6 : n ≤ 6) (hi : i < FC n) : isP n G i = isL n G i := by
  unfold isL
  rw [← (rd_ok h1 h6 hi).2]
  unfold isP
  cases q : fgD n G i true with
  | none =>
    have h := (dd_and (n := n) (i := i) (G := G) (n - 1)).mpr (fun p hp hd => by
      have := fst_none q p (Nat.zero_le _) (by omega)
      rw [mDU_eq, hd] at this
      simpa using this)
    rw [decide_eq_true h]; rfl
  | some p =>
    have hp := fgo_lt q
    have hs := (fst_some q).2.2
    rw [mDU_eq, Bool.and_eq_true, beq_iff_eq] at hs
    have h : ¬ (ddA n i (n - 1) &&& G = 0#64) := by
      intro e
      have := (dd_and (n := n) (i := i) (G := G) (n - 1)).mp e p hp hs.1
      rw [this] at hs
      exact absurd hs.2 (by decide)
    rw [decide_eq_false h]; rfl
theorem isL_none {n i : Nat} {G : BitVec 64} (h1 : 1 ≤ n) (h6 : n ≤ 6) (hi : i < FC n) : isL n G i = true ↔ fgD n G i true = none := by
  rw [← isP_L h1 h6 hi]
  unfold isP
  cases fgD n G i true <;> simp
theorem lst_isL {n i : Nat} {G : BitVec 64} (h1 : 1 ≤ n) (h6 : n ≤ 6) (hi : i < FC n) : isL n G (lst n G i) = true := (isL_none h1 h6 (lst_ok h1 h6 hi)).mpr (goD_end (b := true) h1 h6 hi)
theorem m_isLeast (d : Nat) {hp : HP} {n i : Nat} {G : BitVec 64} (h : MA hp n) (hG : gF hp 54 11 3 = some (mL G)) (hi2 : i < FC n) (R : PO) : callD (d + 4) 231 [mR 54, mI ((num n i : Nat) : Int)] hp R ↔ R (some (mI (zI (isL n G i)))) hp := by
  rw [m_isLeastP d h hG hi2 R, isP_L h.1.1.1 h.1.1.2 hi2]
