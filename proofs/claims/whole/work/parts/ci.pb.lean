/-! ===== the reference reads a text: one ===== -/
theorem od_succ (m : Nat) : decide ((m + 1) % 2 = 1) = !decide (m % 2 = 1) := by
  by_cases c : m % 2 = 1
  · rw [decide_eq_true c, decide_eq_false (by omega)]; rfl
  · rw [decide_eq_false c, decide_eq_true (by omega)]; rfl
theorem dp_nots : ∀ (m d : Nat), 1 ≤ d → dpS d (List.replicate m (-9)) = some d := by
  intro m
  induction m with
  | zero => intro d _; rfl
  | succ m ih =>
    intro d h
    rw [List.replicate_succ, dpS_cons, if_pos (by decide), if_neg (by decide), if_pos (by decide), if_pos h]
    exact ih d h
theorem ev_nots (n x : Nat) : ∀ (m : Nat) (b : Bool) (st : List Int), evS n x (List.replicate m (-9)) (zI b :: st) = zI (if decide (m % 2 = 1) = true then !b else b) :: st := by
  intro m
  induction m with
  | zero => intro b st; rfl
  | succ m ih =>
    intro b st
    have e : evS n x (List.replicate (m + 1) (-9)) (zI b :: st) = evS n x (List.replicate m (-9)) (zI (!b) :: st) := by
      rw [List.replicate_succ]
      show evS n x (List.replicate m (-9)) ((1 - zI b) :: st) = _
      rw [show 1 - zI b = zI (!b) by cases b <;> rfl]
    rw [e, ih, od_succ]
    by_cases c : m % 2 = 1
    · rw [decide_eq_true c, if_pos rfl, if_neg (by decide), Bool.not_not]
    · rw [decide_eq_false c, if_neg (by decide), if_pos (by rfl)]
set_option maxHeartbeats 16000000 in
theorem t_nots (d : Nat) {n : Nat} {G : BitVec 64} {z : Int} {c : Nat} {ks : List Int} {es : List Int} {ik : Bool} {kn : Nat} {kG : BitVec 64} {kz : Int} {kc : Nat} {kks : List Int} {kes : List Int} {tc : Nat} {tb : List Int} {sc : Nat} {tl : List Int} {so : List Int} {le : List Int} {it : Nat → List (BitVec 64)} {he : List Int} {th : List Int} {sl : List Int} {tr : Nat} {bo : List Int} {o : Nat} : ∀ (f k m : Nat) (hp : HP) (cs : List Int), TS hp n G z c ks es ik kn kG kz kc kks kes tc tb sc tl so le it he th sl tr bo k cs o false → (TT (bO tb) tc).length - k ≤ f → ∃ (h' : HP) (k' m' : Nat), TS h' n G z c ks es ik kn kG kz kc kks kes tc tb sc tl so le it he th sl tr bo k' cs o false ∧ k ≤ k' ∧ k' + m = k + m' ∧ Fr 54 83 hp h' ∧ notP (tW (bO tb) (TT (bO tb) tc)) (tB tc (TT (bO tb) tc)) f (decide (m % 2 = 1)) (-1, k) = (decide (m' % 2 = 1), (-1, k')) ∧ ∀ R : PO, AWh (d + 8) [] 219 R 2 [some (mR 54), some (mI (m : Int)), none] [] hp (0, 0) ↔ AW (d + 8) [] 219 R 10 [some (mR 54), some (mI (m' : Int)), none] [] h' (0, 0) := by
  have stop : ∀ (k m : Nat) (hp : HP) (cs : List Int), TS hp n G z c ks es ik kn kG kz kc kks kes tc tb sc tl so le it he th sl tr bo k cs o false → tW (bO tb) (TT (bO tb) tc) k ≠ 9 → ∀ R : PO, AWh (d + 8) [] 219 R 2 [some (mR 54), some (mI (m : Int)), none] [] hp (0, 0) ↔ AW (d + 8) [] 219 R 10 [some (mR 54), some (mI (m : Int)), none] [] hp (0, 0) := by
    intro k m hp cs h c R
    have cK := (TS_RD h).2.2.2
    have c8 := fun R => t_is (d + 3) (j := 8) h (by decide) (by decide) R
    rw [show (100 + 8 : Nat) = 108 from rfl, show cdJ 8 = 9 from rfl, decide_eq_false c] at c8
    rw [AWh_k, k_X11_one_2]
    simp only [AW_k, AWk_1, x_aload_0, x_aloads_0, x_ldcs, x_callv_2, x_if_eq, x_iinc_1, x_callv_1, x_goto, unl_i, unl_l, unl_q, unl_r, unl_s, unl_n, k_X11_one_2, k_X11_one_3, k_X11_one_4, k_X11_one_5, k_X11_one_6, k_X11_one_7, k_X11_one_8, k_X11_one_9, oE_some, Int.reduceToNat, Nat.reduceAdd, true_and, and_true, List.length_cons, List.length_nil, Option.toList_some, Option.toList_none, List.cons_append, List.nil_append, Nat.reduceLeDiff, Nat.le_refl, wdS_nil, wdS_i, wdS_l, wdS_r, wdS_n, wdS_s, cK, c8, zI_f, w00, Nat.reduceLT, ↓reduceIte]
  intro f
  induction f with
  | zero =>
    intro k m hp cs h hf
    have hk := h.2.2.1
    have w0 : tW (bO tb) (TT (bO tb) tc) k ≠ 9 := by
      unfold tW
      rw [if_neg (by omega)]
      decide
    exact ⟨hp, k, m, h, Nat.le_refl _, rfl, Fr_refl hp, rfl, stop k m hp cs h w0⟩
  | succ f ih =>
    intro k m hp cs h hf
    have hk := h.2.2.1
    by_cases c : tW (bO tb) (TT (bO tb) tc) k = 9
    · have kL : k < (TT (bO tb) tc).length := by
        apply Decidable.byContradiction
        intro q
        unfold tW at c
        rw [if_neg q] at c
        exact absurd c (by decide)
      have cK := (TS_RD h).2.2.2
      have c8 := fun R => t_is (d + 3) (j := 8) h (by decide) (by decide) R
      rw [show (100 + 8 : Nat) = 108 from rfl, show cdJ 8 = 9 from rfl, decide_eq_true c] at c8
      obtain ⟨h1, y1, y2, y3⟩ := t_next (d + 6) h kL
      obtain ⟨h', k', m', u1, u2, u3, u4, u5, u6⟩ := ih (k + 1) (m + 1) h1 cs y1 (by omega)
      have em : (m : Int) + 1 = ((m + 1 : Nat) : Int) := by omega
      refine ⟨h', k', m', u1, by omega, by omega, Fr_trans y2 u4, ?_, fun R => ?_⟩
      · rw [notP_succ, if_pos ⟨(show (-1:Int) < 0 by decide), c⟩, psP_t (by rw [c]; decide), ← od_succ]
        exact u5
      · rw [← u6 R]
        rw [AWh_k, k_X11_one_2]
        simp only [AW_k, AWk_1, x_aload_0, x_aloads_0, x_ldcs, x_callv_2, x_if_eq, x_iinc_1, x_callv_1, x_goto, unl_i, unl_l, unl_q, unl_r, unl_s, unl_n, k_X11_one_2, k_X11_one_3, k_X11_one_4, k_X11_one_5, k_X11_one_6, k_X11_one_7, k_X11_one_8, k_X11_one_9, oE_some, Int.reduceToNat, Nat.reduceAdd, true_and, and_true, List.length_cons, List.length_nil, Option.toList_some, Option.toList_none, List.cons_append, List.nil_append, Nat.reduceLeDiff, Nat.le_refl, wdS_nil, wdS_i, wdS_l, wdS_r, wdS_n, wdS_s, cK, c8, zI_t, w10, y3, em, Nat.reduceLT, ↓reduceIte]
    · refine ⟨hp, k, m, h, Nat.le_refl _, rfl, Fr_refl hp, ?_, stop k m hp cs h c⟩
      rw [notP_succ, if_neg (fun q => c q.2)]
set_option maxHeartbeats 16000000 in
theorem t_turn (d : Nat) {n : Nat} {G : BitVec 64} {z : Int} {c : Nat} {ks : List Int} {es : List Int} {ik : Bool} {kn : Nat} {kG : BitVec 64} {kz : Int} {kc : Nat} {kks : List Int} {kes : List Int} {tc : Nat} {tb : List Int} {sc : Nat} {tl : List Int} {so : List Int} {le : List Int} {it : Nat → List (BitVec 64)} {he : List Int} {th : List Int} {sl : List Int} {tr : Nat} {bo : List Int} {o m : Nat} (hm : m ≤ 200) : ∀ (j i k : Nat) (hp : HP) (cs : List Int), TS hp n G z c ks es ik kn kG kz kc kks kes tc tb sc tl so le it he th sl tr bo k cs o false → i + j = m → cs.length + j ≤ k → ∃ h', TS h' n G z c ks es ik kn kG kz kc kks kes tc tb sc tl so le it he th sl tr bo k ((cs ++ List.replicate j (-9))) o false ∧ Fr 54 83 hp h' ∧ ∀ R : PO, AWh (d + 8) [] 219 R 66 [some (mR 54), some (mI (m : Int)), some (mI (i : Int))] [] hp (0, 0) ↔ R none h' := by
  have hL : (TT (bO tb) tc).length ≤ 200 := tks_len (b := bO tb) (tc := tc) 200 0
  intro j
  induction j with
  | zero =>
    intro i k hp cs h hi hl
    have e : i = m := by omega
    subst e
    refine ⟨hp, by rw [List.replicate_zero, List.append_nil]; exact h, Fr_refl hp, fun R => ?_⟩
    rw [AWh_k, k_X11_one_66]
    simp only [AW_k, AWk_1, x_iload_2, x_iload_1, x_icmp_ge, x_ret, x_ret_i, x_ret_z, x_ret_l, x_ret_c, k_X11_one_66, k_X11_one_67, k_X11_one_68, k_X11_one_86, oE_some, Int.reduceToNat, Nat.reduceAdd, true_and, and_true, List.length_cons, List.length_nil, Option.toList_some, Option.toList_none, List.cons_append, List.nil_append, Nat.reduceLeDiff, Nat.le_refl, wdS_nil, wdS_i, wdS_l, wdS_r, wdS_n, wdS_s, Int.lt_irrefl, ↓reduceIte]
  | succ j ih =>
    intro i k hp cs h hi hl
    have hk := h.2.2.1
    have g28 := h.2.2.2.1.2.2.2.2
    have g26 := h.2.2.2.1.2.2.1
    obtain ⟨r4, g21, g22, cK⟩ := TS_RD h
    obtain ⟨co, a66, ic, t1, -⟩ := TS_code (-9) h (by omega)
    have bl : cs.length < 2147483648 := by omega
    have ek : (cs.length : Int) + 1 = ((cs.length + 1 : Nat) : Int) := by omega
    have ei : (i : Int) + 1 = ((i + 1 : Nat) : Int) := by omega
    have w26 : ∀ l, gF (pA hp 66 l) 54 11 26 = some (mI (cs.length : Int)) := fun l => by rw [gF_pA, g26]
    have ci : (i : Int) < (m : Int) := by omega
    have el : (cs ++ [(-9 : Int)]).length = cs.length + 1 := by rw [List.length_append]; rfl
    obtain ⟨h', u1, u2, u3⟩ := ih (i + 1) k _ _ t1 (by omega) (by rw [el]; omega)
    refine ⟨h', by rw [List.replicate_succ, List.append_cons]; exact u1, Fr_trans TS_fr u2, fun R => ?_⟩
    rw [← u3 R]
    have bi : i < 2147483648 := by omega
    have bm : m < 2147483648 := by omega
    rw [AWh_k, k_X11_one_66]
    simp only [AW_k, AWk_1, x_iload_2, x_iload_1, x_icmp_ge, x_aload_0, x_aloads_0, x_getf, x_if_ne, x_push_i, x_push_l, x_iast, x_dup_i, x_dup_r, x_dup_q, x_iadd, x_putf_i, x_iinc_2, x_goto, x_ret, x_ret_i, x_ret_z, x_ret_l, x_ret_c, unl_i, unl_l, unl_q, unl_r, unl_s, unl_n, k_X11_one_66, k_X11_one_67, k_X11_one_68, k_X11_one_69, k_X11_one_70, k_X11_one_71, k_X11_one_72, k_X11_one_73, k_X11_one_74, k_X11_one_75, k_X11_one_76, k_X11_one_77, k_X11_one_78, k_X11_one_79, k_X11_one_80, k_X11_one_81, k_X11_one_82, k_X11_one_83, k_X11_one_84, k_X11_one_85, k_X11_one_86, oE_some, Int.reduceToNat, Nat.reduceAdd, true_and, and_true, List.length_cons, List.length_nil, Option.toList_some, Option.toList_none, List.cons_append, List.nil_append, Nat.reduceLeDiff, Nat.le_refl, wdS_nil, wdS_i, wdS_l, wdS_r, wdS_n, wdS_s, w32_nat bi, w32_nat bm, ci, g28, zI_f, w00, g21, a66, g26, ic, w32_nat bl, Int.toNat_natCast, w26, ek, ei, ↓reduceIte]
set_option maxHeartbeats 16000000 in
theorem t_tail (d : Nat) {n : Nat} {G : BitVec 64} {z : Int} {c : Nat} {ks : List Int} {es : List Int} {ik : Bool} {kn : Nat} {kG : BitVec 64} {kz : Int} {kc : Nat} {kks : List Int} {kes : List Int} {tc : Nat} {tb : List Int} {sc : Nat} {tl : List Int} {so : List Int} {le : List Int} {it : Nat → List (BitVec 64)} {he : List Int} {th : List Int} {sl : List Int} {tr : Nat} {bo : List Int} {o m r k : Nat} {hp : HP} {cs cs0 : List Int} {wr : Bool} {X : BitVec 64 × PSt} (h : TS hp n G z c ks es ik kn kG kz kc kks kes tc tb sc tl so le it he th sl tr bo k cs o wr) (hl : cs.length + (r + m) ≤ k) (hX : TR n tb tc X cs0 k cs wr) : ∃ h' cs', TS h' n G z c ks es ik kn kG kz kc kks kes tc tb sc tl so le it he th sl tr bo k cs' o wr ∧ Fr 54 83 hp h' ∧ cs'.length + r ≤ k ∧ TR n tb tc (if decide (m % 2 = 1) = true then aL n &&& ~~~ X.1 else X.1, X.2) cs0 k cs' wr ∧ ∀ R : PO, AW (d + 8) [] 219 R 64 [some (mR 54), some (mI (m : Int)), none] [] hp (0, 0) ↔ R none h' := by
  have fN := NA_le n
  have hL : (TT (bO tb) tc).length ≤ 200 := tks_len (b := bO tb) (tc := tc) 200 0
  have hk := h.2.2.1
  have cK := (TS_RD h).2.2.2
  cases wr with
  | true =>
    have g28 := h.2.2.2.1.2.2.2.2
    refine ⟨hp, cs, h, Fr_refl hp, by omega, ⟨fun q => hX.1 q, (fun q => by cases q)⟩, fun R => ?_⟩
    simp only [AW_k, AWk_1, x_push_i, x_push_l, x_istore_2, x_iload_2, unl_i, unl_l, unl_q, unl_r, unl_s, unl_n, k_X11_one_64, k_X11_one_65, k_X11_one_66, oE_some, Int.reduceToNat, Nat.reduceAdd, true_and, and_true, List.length_cons, List.length_nil, Option.toList_some, Option.toList_none, List.cons_append, List.nil_append, Nat.reduceLeDiff, Nat.le_refl, wdS_nil, wdS_i, wdS_l, wdS_r, wdS_n, wdS_s]
    rw [AWh_k, k_X11_one_66]
    simp only [AW_k, AWk_1, x_iload_2, x_iload_1, x_icmp_ge, x_aload_0, x_aloads_0, x_getf, x_if_ne, x_ret, x_ret_i, x_ret_z, x_ret_l, x_ret_c, k_X11_one_66, k_X11_one_67, k_X11_one_68, k_X11_one_69, k_X11_one_70, k_X11_one_71, k_X11_one_86, oE_some, Int.reduceToNat, Nat.reduceAdd, true_and, and_true, List.length_cons, List.length_nil, Option.toList_some, Option.toList_none, List.cons_append, List.nil_append, Nat.reduceLeDiff, Nat.le_refl, wdS_nil, wdS_i, wdS_l, wdS_r, wdS_n, wdS_s, g28, zI_t, w10, ite_self, ↓reduceIte]
  | false =>
    obtain ⟨h', u1, u2, u3⟩ := t_turn d (m := m) (by omega) m 0 k hp cs h (by omega) (by omega)
    obtain ⟨x1, C, x2, x3, x4⟩ := hX.2 rfl
    refine ⟨h', _, u1, u2, by rw [List.length_append, List.length_replicate]; omega, ⟨(fun q => by cases q), fun _ => ⟨x1, C ++ List.replicate m (-9), by rw [x2, List.append_assoc], fun e => ?_, fun x hx st => ?_⟩⟩, fun R => ?_⟩
    · rw [dpS_app, x3]
      exact dp_nots m (e + 1) (by omega)
    · rw [evS_app, x4 x hx, ev_nots]
      by_cases c : m % 2 = 1
      · rw [decide_eq_true c, if_pos rfl, if_pos rfl, BitVec.getLsbD_and, BitVec.getLsbD_not, aL_bit (by omega), decide_eq_true hx, decide_eq_true (show x < 64 by omega), Bool.true_and, Bool.true_and]
      · rw [decide_eq_false c, if_neg (by decide), if_neg (by decide)]
    · rw [← u3 R]
      simp only [AW_k, AWk_1, x_push_i, x_push_l, x_istore_2, unl_i, unl_l, unl_q, unl_r, unl_s, unl_n, k_X11_one_64, k_X11_one_65, oE_some, Int.reduceToNat, Nat.reduceAdd, true_and, and_true, List.length_cons, List.length_nil, Option.toList_some, Option.toList_none, List.cons_append, List.nil_append, Nat.reduceLeDiff, Nat.le_refl, wdS_nil, wdS_i, wdS_l, wdS_r, wdS_n, wdS_s]
      exact Iff.rfl
