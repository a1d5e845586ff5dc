/-! ===== the reference reads a text: comparisons ===== -/
def dpS : Nat → List Int → Option Nat
  | d, [] => some d
  | d, v :: cs => if w32 v = v then (if -6 < w32 v then dpS (d + 1) cs else if w32 v = -9 then (if 1 ≤ d then dpS d cs else none) else (if 2 ≤ d then dpS (d - 1) cs else none)) else none
theorem dpS_cons (d : Nat) (v : Int) (cs : List Int) : dpS d (v :: cs) = if w32 v = v then (if -6 < w32 v then dpS (d + 1) cs else if w32 v = -9 then (if 1 ≤ d then dpS d cs else none) else (if 2 ≤ d then dpS (d - 1) cs else none)) else none := rfl
theorem dpS_app : ∀ (a b : List Int) (d : Nat), dpS d (a ++ b) = (dpS d a).bind (fun e => dpS e b) := by
  intro a
  induction a with
  | nil => intro b d; rfl
  | cons v a ih =>
    intro b d
    rw [List.cons_append, dpS_cons, dpS_cons]
    split
    · split
      · exact ih b _
      · split
        · split
          · exact ih b _
          · rfl
        · split
          · exact ih b _
          · rfl
    · rfl
/-- what was read told the same -/
def TR (n : Nat) (tb : List Int) (tc : Nat) (q : BitVec 64 × PSt) (cs : List Int) (k : Nat) (cs' : List Int) (wr : Bool) : Prop := (wr = true → q.2 = (((tB tc (TT (bO tb) tc) k : Nat) : Int), k)) ∧ (wr = false → q.2 = (-1, k) ∧ ∃ C, cs' = cs ++ C ∧ (∀ d, dpS d C = some (d + 1)) ∧ ∀ x, x < NA n → ∀ st, evS n x C st = zI (q.1.getLsbD x) :: st)
def TC (n : Nat) (G : BitVec 64) (z : Int) (c : Nat) (ks : List Int) (es : List Int) (ik : Bool) (kn : Nat) (kG : BitVec 64) (kz : Int) (kc : Nat) (kks : List Int) (kes : List Int) (tc : Nat) (tb : List Int) (sc : Nat) (tl : List Int) (so : List Int) (le : List Int) (it : Nat → List (BitVec 64)) (he : List Int) (th : List Int) (sl : List Int) (tr : Nat) (bo : List Int) (d M o : Nat) (P : PSt → BitVec 64 × PSt) : Prop := ∀ (hp : HP) (k : Nat) (cs : List Int) (r : Nat), TS hp n G z c ks es ik kn kG kz kc kks kes tc tb sc tl so le it he th sl tr bo k cs o false → cs.length + r ≤ k → ∃ h' k' cs' o' wr', TS h' n G z c ks es ik kn kG kz kc kks kes tc tb sc tl so le it he th sl tr bo k' cs' o' wr' ∧ (wr' = false → o' = o) ∧ k ≤ k' ∧ Fr 54 83 hp h' ∧ cs'.length + r ≤ k' ∧ TR n tb tc (P (-1, k)) cs k' cs' wr' ∧ ∀ R : PO, callD d M [mR 54] hp R ↔ R none h'
theorem psP_t {W B : Nat → Nat} {k : Nat} (h : W k ≠ 0) : psP W B true (-1, k) = (-1, k + 1) := by
  unfold psP
  rw [if_neg (fun q => Bool.noConfusion q.2), if_pos ⟨(show (-1:Int) < 0 by decide), h⟩]
theorem psP_f {W B : Nat → Nat} {k : Nat} : psP W B false (-1, k) = (((B k : Nat) : Int), k) := by
  unfold psP
  rw [if_pos ⟨(show (-1:Int) < 0 by decide), rfl⟩]
theorem psP_s {W B : Nat → Nat} {k : Nat} {f : Int} {c : Bool} (h : 0 ≤ f) : psP W B c (f, k) = (f, k) := by
  unfold psP
  rw [if_neg (fun q => by have := q.1; omega), if_neg (fun q => by have := q.1; omega)]
theorem psP_sB {W B : Nat → Nat} {k : Nat} {x : Nat} {c : Bool} : psP W B c (((x : Nat) : Int), k) = (((x : Nat) : Int), k) := psP_s (by omega)
def sgV (w : Nat) : Int := if w = 60 then -6 else if w = 61 then -7 else if w = 62 then -8 else 0
theorem sgV_sg {w : Nat} : (sgV w = 0) ↔ isSg w = false := by
  unfold sgV isSg
  by_cases a : w = 60
  · rw [if_pos a, decide_eq_true a]; simp
  · rw [if_neg a, decide_eq_false a]
    by_cases b : w = 61
    · rw [if_pos b, decide_eq_true b]; simp
    · rw [if_neg b, decide_eq_false b]
      by_cases c : w = 62
      · rw [if_pos c, decide_eq_true c]; simp
      · rw [if_neg c, decide_eq_false c]; simp
theorem ev_cmp {n x : Nat} {v1 v2 : Int} {w : Nat} (h1 : -5 ≤ v1 ∧ v1 ≤ 9999) (h2 : -5 ≤ v2 ∧ v2 ≤ 9999) (hw : isSg w = true) (st : List Int) : evS n x [v1, v2, sgV w] st = zI (hld (fcE n v1 x) w (fcE n v2 x)) :: st := by
  have a1 : -6 < v1 := by omega
  have a2 : -6 < v2 := by omega
  have e1 : w32 v1 = v1 := w32_id (by omega) (by omega)
  have e2 : w32 v2 = v2 := w32_id (by clear e1; omega) (by clear e1; omega)
  have hs : w = 60 ∨ w = 61 ∨ w = 62 := by
    unfold isSg at hw
    simp only [Bool.or_eq_true, decide_eq_true_eq] at hw
    clear e1 e2
    omega
  show evS n x [] (if -6 < w32 (sgV w) then _ else _) = _
  rw [e1, if_pos a1, e2, if_pos a2]
  rcases hs with q | q | q <;> subst q <;> rfl
theorem dp_cmp {v1 v2 : Int} {w : Nat} (h1 : -5 ≤ v1 ∧ v1 ≤ 9999) (h2 : -5 ≤ v2 ∧ v2 ≤ 9999) (hw : isSg w = true) (d : Nat) : dpS d [v1, v2, sgV w] = some (d + 1) := by
  have a1 : -6 < v1 := by omega
  have a2 : -6 < v2 := by omega
  have e1 : w32 v1 = v1 := w32_id (by omega) (by omega)
  have e2 : w32 v2 = v2 := w32_id (by clear e1; omega) (by clear e1; omega)
  have hs : w = 60 ∨ w = 61 ∨ w = 62 := by
    unfold isSg at hw
    simp only [Bool.or_eq_true, decide_eq_true_eq] at hw
    clear e1 e2
    omega
  have es : w32 (sgV w) = sgV w := by
    rcases hs with q | q | q <;> subst q <;> rfl
  rw [dpS_cons, if_pos e1, e1, if_pos a1, dpS_cons, if_pos e2, e2, if_pos a2, dpS_cons, if_pos es]
  have e3 : ¬ -6 < w32 (sgV w) ∧ ¬ w32 (sgV w) = -9 := by
    rcases hs with q | q | q <;> subst q <;> decide
  rw [if_neg e3.1, if_neg e3.2, if_pos (by clear e1 e2; omega)]
  rfl
set_option maxHeartbeats 32000000 in
theorem t_compared (d : Nat) {n : Nat} {G : BitVec 64} {z : Int} {c : Nat} {ks : List Int} {es : List Int} {ik : Bool} {kn : Nat} {kG : BitVec 64} {kz : Int} {kc : Nat} {kks : List Int} {kes : List Int} {tc : Nat} {tb : List Int} {sc : Nat} {tl : List Int} {so : List Int} {le : List Int} {it : Nat → List (BitVec 64)} {he : List Int} {th : List Int} {sl : List Int} {tr : Nat} {bo : List Int} {o : Nat} {V : Nat → Int} (hV : ∀ k, k < (TT (bO tb) tc).length → V k = tV (bO tb) (TT (bO tb) tc) k) : TC n G z c ks es ik kn kG kz kc kks kes tc tb sc tl so le it he th sl tr bo (d + 8) 218 o (cmpP n (tW (bO tb) (TT (bO tb) tc)) (tB tc (TT (bO tb) tc)) V) := by
  intro hp k cs r h hl
  have hkL := h.2.2.1
  have cK := (TS_RD h).2.2.2
  have fN := NA_le n
  obtain ⟨h1, u1, u2, u3⟩ := t_value d h (by omega)
  cases ev : isVl (tW (bO tb) (TT (bO tb) tc) k) with
  | false =>
    rw [ev, if_neg (by decide)] at u1
    have g28 := u1.2.2.2.1.2.2.2.2
    refine ⟨h1, k, cs, o, true, u1, (fun q => by cases q), Nat.le_refl _, u2, hl, ⟨fun _ => ?_, (fun q => by cases q)⟩, fun R => ?_⟩
    · show psP _ _ _ (psP _ _ _ (psP _ _ (isVl (tW (bO tb) (TT (bO tb) tc) k)) (-1, k))) = _
      rw [ev, psP_f, psP_sB, psP_sB]
    · rw [callD_k]; simp only [entL_i, entL_l, entL_q, entL_s, entL_nil, n_X11_compared, u_X11_compared, m_X11_compared, rep_1, List.cons_append, List.nil_append, List.append_nil, List.length_cons, List.length_nil, Nat.reduceAdd, true_and]
      simp only [AW_k, AWk_1, x_aload_0, x_aloads_0, x_callv_1, x_getf, x_if_eq, x_ret, x_ret_i, x_ret_z, x_ret_l, x_ret_c, k_X11_compared_0, k_X11_compared_1, k_X11_compared_2, k_X11_compared_3, k_X11_compared_4, k_X11_compared_5, oE_some, Int.reduceToNat, Nat.reduceAdd, true_and, and_true, List.length_cons, List.length_nil, Option.toList_some, Option.toList_none, List.cons_append, List.nil_append, Nat.reduceLeDiff, Nat.le_refl, wdS_nil, wdS_i, wdS_l, wdS_r, wdS_n, wdS_s, cK, u3, g28, zI_t, w10, ↓reduceIte]
  | true =>
    rw [ev, if_pos rfl] at u1
    obtain ⟨kL, v5, v9⟩ := vcK_in hkL ev
    have hk1 := u1.2.2.1
    have g28 := u1.2.2.2.1.2.2.2.2
    have cK1 := (TS_RD u1).2.2.2
    have w0 : tW (bO tb) (TT (bO tb) tc) k ≠ 0 := by
      intro q; rw [q] at ev; exact absurd ev (by decide)
    have p1 : psP (tW (bO tb) (TT (bO tb) tc)) (tB tc (TT (bO tb) tc)) (isVl (tW (bO tb) (TT (bO tb) tc) k)) (-1, k) = (-1, k + 1) := by rw [ev, psP_t w0]
    have el1 : (cs ++ [vcK (bO tb) tc k]).length = cs.length + 1 := by rw [List.length_append]; rfl
    have c16 := fun R => t_is (d + 2) (j := 16) u1 (by decide) (by decide) R
    have c17 := fun R => t_is (d + 2) (j := 17) u1 (by decide) (by decide) R
    have c18 := fun R => t_is (d + 2) (j := 18) u1 (by decide) (by decide) R
    rw [show (100 + 16 : Nat) = 116 from rfl, show cdJ 16 = 60 from rfl] at c16
    rw [show (100 + 17 : Nat) = 117 from rfl, show cdJ 17 = 61 from rfl] at c17
    rw [show (100 + 18 : Nat) = 118 from rfl, show cdJ 18 = 62 from rfl] at c18
    -- the sign
    have sg : ∀ R : PO, callD (d + 8) 218 [mR 54] hp R ↔ AW (d + 7) [] 218 R 26 [some (mR 54), some (mI (sgV (tW (bO tb) (TT (bO tb) tc) (k + 1))))] [] h1 (0, 0) := by
      intro R
      generalize tW (bO tb) (TT (bO tb) tc) (k + 1) = w at *
      unfold sgV
      rw [callD_k]; simp only [entL_i, entL_l, entL_q, entL_s, entL_nil, n_X11_compared, u_X11_compared, m_X11_compared, rep_1, List.cons_append, List.nil_append, List.append_nil, List.length_cons, List.length_nil, Nat.reduceAdd, true_and]
      by_cases q1 : w = 60
      · rw [decide_eq_true q1] at c16
        rw [if_pos q1]
        simp only [AW_k, AWk_1, x_aload_0, x_aloads_0, x_callv_1, x_getf, x_if_eq, x_ret, x_ret_i, x_ret_z, x_ret_l, x_ret_c, x_ldcs, x_callv_2, x_push_i, x_push_l, x_goto, x_istore_1, unl_i, unl_l, unl_q, unl_r, unl_s, unl_n, k_X11_compared_0, k_X11_compared_1, k_X11_compared_2, k_X11_compared_3, k_X11_compared_4, k_X11_compared_5, k_X11_compared_6, k_X11_compared_7, k_X11_compared_8, k_X11_compared_9, k_X11_compared_10, k_X11_compared_11, k_X11_compared_12, k_X11_compared_13, k_X11_compared_14, k_X11_compared_15, k_X11_compared_16, k_X11_compared_17, k_X11_compared_18, k_X11_compared_19, k_X11_compared_20, k_X11_compared_21, k_X11_compared_22, k_X11_compared_23, k_X11_compared_24, k_X11_compared_25, oE_some, Int.reduceToNat, Nat.reduceAdd, true_and, and_true, List.length_cons, List.length_nil, Option.toList_some, Option.toList_none, List.cons_append, List.nil_append, Nat.reduceLeDiff, Nat.le_refl, wdS_nil, wdS_i, wdS_l, wdS_r, wdS_n, wdS_s, cK, u3, g28, zI_f, zI_t, w00, w10, Nat.reduceLT, cK1, c16, ↓reduceIte]
      · rw [decide_eq_false q1] at c16
        rw [if_neg q1]
        by_cases q2 : w = 61
        · rw [decide_eq_true q2] at c17
          rw [if_pos q2]
          simp only [AW_k, AWk_1, x_aload_0, x_aloads_0, x_callv_1, x_getf, x_if_eq, x_ret, x_ret_i, x_ret_z, x_ret_l, x_ret_c, x_ldcs, x_callv_2, x_push_i, x_push_l, x_goto, x_istore_1, unl_i, unl_l, unl_q, unl_r, unl_s, unl_n, k_X11_compared_0, k_X11_compared_1, k_X11_compared_2, k_X11_compared_3, k_X11_compared_4, k_X11_compared_5, k_X11_compared_6, k_X11_compared_7, k_X11_compared_8, k_X11_compared_9, k_X11_compared_10, k_X11_compared_11, k_X11_compared_12, k_X11_compared_13, k_X11_compared_14, k_X11_compared_15, k_X11_compared_16, k_X11_compared_17, k_X11_compared_18, k_X11_compared_19, k_X11_compared_20, k_X11_compared_21, k_X11_compared_22, k_X11_compared_23, k_X11_compared_24, k_X11_compared_25, oE_some, Int.reduceToNat, Nat.reduceAdd, true_and, and_true, List.length_cons, List.length_nil, Option.toList_some, Option.toList_none, List.cons_append, List.nil_append, Nat.reduceLeDiff, Nat.le_refl, wdS_nil, wdS_i, wdS_l, wdS_r, wdS_n, wdS_s, cK, u3, g28, zI_f, zI_t, w00, w10, Nat.reduceLT, cK1, c16, c17, ↓reduceIte]
        · rw [decide_eq_false q2] at c17
          rw [if_neg q2]
          by_cases q3 : w = 62
          · rw [decide_eq_true q3] at c18
            rw [if_pos q3]
            simp only [AW_k, AWk_1, x_aload_0, x_aloads_0, x_callv_1, x_getf, x_if_eq, x_ret, x_ret_i, x_ret_z, x_ret_l, x_ret_c, x_ldcs, x_callv_2, x_push_i, x_push_l, x_goto, x_istore_1, unl_i, unl_l, unl_q, unl_r, unl_s, unl_n, k_X11_compared_0, k_X11_compared_1, k_X11_compared_2, k_X11_compared_3, k_X11_compared_4, k_X11_compared_5, k_X11_compared_6, k_X11_compared_7, k_X11_compared_8, k_X11_compared_9, k_X11_compared_10, k_X11_compared_11, k_X11_compared_12, k_X11_compared_13, k_X11_compared_14, k_X11_compared_15, k_X11_compared_16, k_X11_compared_17, k_X11_compared_18, k_X11_compared_19, k_X11_compared_20, k_X11_compared_21, k_X11_compared_22, k_X11_compared_23, k_X11_compared_24, k_X11_compared_25, oE_some, Int.reduceToNat, Nat.reduceAdd, true_and, and_true, List.length_cons, List.length_nil, Option.toList_some, Option.toList_none, List.cons_append, List.nil_append, Nat.reduceLeDiff, Nat.le_refl, wdS_nil, wdS_i, wdS_l, wdS_r, wdS_n, wdS_s, cK, u3, g28, zI_f, zI_t, w00, w10, Nat.reduceLT, cK1, c16, c17, c18, ↓reduceIte]
          · rw [decide_eq_false q3] at c18
            rw [if_neg q3]
            simp only [AW_k, AWk_1, x_aload_0, x_aloads_0, x_callv_1, x_getf, x_if_eq, x_ret, x_ret_i, x_ret_z, x_ret_l, x_ret_c, x_ldcs, x_callv_2, x_push_i, x_push_l, x_goto, x_istore_1, unl_i, unl_l, unl_q, unl_r, unl_s, unl_n, k_X11_compared_0, k_X11_compared_1, k_X11_compared_2, k_X11_compared_3, k_X11_compared_4, k_X11_compared_5, k_X11_compared_6, k_X11_compared_7, k_X11_compared_8, k_X11_compared_9, k_X11_compared_10, k_X11_compared_11, k_X11_compared_12, k_X11_compared_13, k_X11_compared_14, k_X11_compared_15, k_X11_compared_16, k_X11_compared_17, k_X11_compared_18, k_X11_compared_19, k_X11_compared_20, k_X11_compared_21, k_X11_compared_22, k_X11_compared_23, k_X11_compared_24, k_X11_compared_25, oE_some, Int.reduceToNat, Nat.reduceAdd, true_and, and_true, List.length_cons, List.length_nil, Option.toList_some, Option.toList_none, List.cons_append, List.nil_append, Nat.reduceLeDiff, Nat.le_refl, wdS_nil, wdS_i, wdS_l, wdS_r, wdS_n, wdS_s, cK, u3, g28, zI_f, zI_t, w00, w10, Nat.reduceLT, cK1, c16, c17, c18, ↓reduceIte]
    cases es : isSg (tW (bO tb) (TT (bO tb) tc) (k + 1)) with
    | false =>
      have z := sgV_sg.mpr es
      have x1 := TS_28 true u1
      have g28' := x1.2.2.2.1.2.2.2.2
      refine ⟨_, k + 1, _, o, true, x1, (fun q => by cases q), Nat.le_succ k, Fr_trans u2 Fr_o54, by rw [el1]; omega, ⟨fun _ => ?_, (fun q => by cases q)⟩, fun R => (sg R).trans ?_⟩
      · show psP _ _ _ (psP _ _ (isSg (tW (bO tb) (TT (bO tb) tc) (psP (tW (bO tb) (TT (bO tb) tc)) (tB tc (TT (bO tb) tc)) (isVl (tW (bO tb) (TT (bO tb) tc) k)) (-1, k)).2)) (psP (tW (bO tb) (TT (bO tb) tc)) (tB tc (TT (bO tb) tc)) (isVl (tW (bO tb) (TT (bO tb) tc) k)) (-1, k))) = _
        rw [p1]
        show psP _ _ _ (psP _ _ (isSg (tW (bO tb) (TT (bO tb) tc) (k + 1))) (-1, k + 1)) = _
        rw [es, psP_f, psP_sB]
      · rw [z]
        rw [zI_t] at g28'
        simp only [AW_k, AWk_1, x_aload_0, x_aloads_0, x_iload_1, x_if_ne, x_push_i, x_push_l, x_goto, x_putf_z, x_getf, x_if_eq, x_ret, x_ret_i, x_ret_z, x_ret_l, x_ret_c, k_X11_compared_26, k_X11_compared_27, k_X11_compared_28, k_X11_compared_29, k_X11_compared_30, k_X11_compared_31, k_X11_compared_32, k_X11_compared_33, k_X11_compared_34, k_X11_compared_35, k_X11_compared_36, oE_some, Int.reduceToNat, Nat.reduceAdd, true_and, and_true, List.length_cons, List.length_nil, Option.toList_some, Option.toList_none, List.cons_append, List.nil_append, Nat.reduceLeDiff, Nat.le_refl, wdS_nil, wdS_i, wdS_l, wdS_r, wdS_n, wdS_s, w00, g28, zI_f, zI_t, true_or, or_true, true_and, g28', w10, ↓reduceIte]
    | true =>
      have nz : ¬ sgV (tW (bO tb) (TT (bO tb) tc) (k + 1)) = 0 := fun q => by rw [sgV_sg.mp q] at es; cases es
      have x1 := TS_28 false u1
      have g28' := x1.2.2.2.1.2.2.2.2
      have cK2 := (TS_RD x1).2.2.2
      have w1 : tW (bO tb) (TT (bO tb) tc) (k + 1) ≠ 0 := by
        intro q; rw [q] at es; exact absurd es (by decide)
      have kL1 : k + 1 < (TT (bO tb) tc).length := by
        apply Decidable.byContradiction
        intro c
        apply w1
        unfold tW
        rw [if_neg c]
      have p2 : psP (tW (bO tb) (TT (bO tb) tc)) (tB tc (TT (bO tb) tc)) (isSg (tW (bO tb) (TT (bO tb) tc) (k + 1))) (-1, k + 1) = (-1, k + 1 + 1) := by rw [es, psP_t w1]
      obtain ⟨h3, y1, y2, y3⟩ := t_next (d + 5) x1 kL1
      have cK3 := (TS_RD y1).2.2.2
      obtain ⟨h4, z1, z2, z3⟩ := t_value d y1 (by rw [el1]; omega)
      have wsg : w32 (sgV (tW (bO tb) (TT (bO tb) tc) (k + 1))) = sgV (tW (bO tb) (TT (bO tb) tc) (k + 1)) := by
        unfold sgV
        repeat (first | rfl | split)
      have cm2 : (cmpP n (tW (bO tb) (TT (bO tb) tc)) (tB tc (TT (bO tb) tc)) V (-1, k)).2 = psP (tW (bO tb) (TT (bO tb) tc)) (tB tc (TT (bO tb) tc)) (isVl (tW (bO tb) (TT (bO tb) tc) (k + 1 + 1))) (-1, k + 1 + 1) := by
        show psP _ _ (isVl (tW (bO tb) (TT (bO tb) tc) (psP (tW (bO tb) (TT (bO tb) tc)) (tB tc (TT (bO tb) tc)) (isSg (tW (bO tb) (TT (bO tb) tc) (psP (tW (bO tb) (TT (bO tb) tc)) (tB tc (TT (bO tb) tc)) (isVl (tW (bO tb) (TT (bO tb) tc) k)) (-1, k)).2)) (psP (tW (bO tb) (TT (bO tb) tc)) (tB tc (TT (bO tb) tc)) (isVl (tW (bO tb) (TT (bO tb) tc) k)) (-1, k))).2)) (psP (tW (bO tb) (TT (bO tb) tc)) (tB tc (TT (bO tb) tc)) (isSg (tW (bO tb) (TT (bO tb) tc) (psP (tW (bO tb) (TT (bO tb) tc)) (tB tc (TT (bO tb) tc)) (isVl (tW (bO tb) (TT (bO tb) tc) k)) (-1, k)).2)) (psP (tW (bO tb) (TT (bO tb) tc)) (tB tc (TT (bO tb) tc)) (isVl (tW (bO tb) (TT (bO tb) tc) k)) (-1, k))) = _
        rw [p1]
        show psP _ _ (isVl (tW (bO tb) (TT (bO tb) tc) (psP (tW (bO tb) (TT (bO tb) tc)) (tB tc (TT (bO tb) tc)) (isSg (tW (bO tb) (TT (bO tb) tc) (k + 1))) (-1, k + 1)).2)) (psP (tW (bO tb) (TT (bO tb) tc)) (tB tc (TT (bO tb) tc)) (isSg (tW (bO tb) (TT (bO tb) tc) (k + 1))) (-1, k + 1)) = _
        rw [p2]
      have go : ∀ R : PO, AW (d + 7) [] 218 R 26 [some (mR 54), some (mI (sgV (tW (bO tb) (TT (bO tb) tc) (k + 1))))] [] h1 (0, 0) ↔ AW (d + 7) [] 218 R 41 [some (mR 54), some (mI (sgV (tW (bO tb) (TT (bO tb) tc) (k + 1))))] [] h4 (0, 0) := by
        intro R
        rw [zI_f] at g28' cK2 y3
        simp only [AW_k, AWk_1, x_aload_0, x_aloads_0, x_iload_1, x_if_ne, x_push_i, x_push_l, x_goto, x_putf_z, x_getf, x_if_eq, x_ret, x_ret_i, x_ret_z, x_ret_l, x_ret_c, x_callv_1, k_X11_compared_26, k_X11_compared_27, k_X11_compared_28, k_X11_compared_29, k_X11_compared_30, k_X11_compared_31, k_X11_compared_32, k_X11_compared_33, k_X11_compared_34, k_X11_compared_35, k_X11_compared_36, k_X11_compared_37, k_X11_compared_38, k_X11_compared_39, k_X11_compared_40, oE_some, Int.reduceToNat, Nat.reduceAdd, true_and, and_true, List.length_cons, List.length_nil, Option.toList_some, Option.toList_none, List.cons_append, List.nil_append, Nat.reduceLeDiff, Nat.le_refl, wdS_nil, wdS_i, wdS_l, wdS_r, wdS_n, wdS_s, wsg, nz, g28, zI_f, true_or, true_and, g28', w00, cK2, y3, cK3, z3, ↓reduceIte]
      cases ev2 : isVl (tW (bO tb) (TT (bO tb) tc) (k + 1 + 1)) with
      | false =>
        rw [ev2, if_neg (by decide)] at z1
        have g28'' := z1.2.2.2.1.2.2.2.2
        refine ⟨h4, k + 1 + 1, _, o, true, z1, (fun q => by cases q), by omega, Fr_trans (Fr_trans (Fr_trans u2 Fr_o54) y2) z2, by rw [el1]; omega, ⟨fun _ => ?_, (fun q => by cases q)⟩, fun R => (sg R).trans ((go R).trans ?_)⟩
        · rw [cm2, ev2, psP_f]
        · simp only [AW_k, AWk_1, x_aload_0, x_aloads_0, x_getf, x_if_ne, x_ret, x_ret_i, x_ret_z, x_ret_l, x_ret_c, k_X11_compared_41, k_X11_compared_42, k_X11_compared_43, k_X11_compared_56, oE_some, Int.reduceToNat, Nat.reduceAdd, true_and, and_true, List.length_cons, List.length_nil, Option.toList_some, Option.toList_none, List.cons_append, List.nil_append, Nat.reduceLeDiff, Nat.le_refl, wdS_nil, wdS_i, wdS_l, wdS_r, wdS_n, wdS_s, g28'', zI_t, w10, ↓reduceIte]
      | true =>
        rw [ev2, if_pos rfl] at z1
        have g28'' := z1.2.2.2.1.2.2.2.2
        obtain ⟨r4, g21, g22, cK4⟩ := TS_RD z1
        have g26 := z1.2.2.2.1.2.2.1
        obtain ⟨kL2, v5', v9'⟩ := vcK_in y1.2.2.1 ev2
        have hL : (TT (bO tb) tc).length ≤ 200 := tks_len (b := bO tb) (tc := tc) 200 0
        have el2 : ((cs ++ [vcK (bO tb) tc k]) ++ [vcK (bO tb) tc (k + 1 + 1)]).length = cs.length + 2 := by rw [List.length_append, el1]; rfl
        have w2 : tW (bO tb) (TT (bO tb) tc) (k + 1 + 1) ≠ 0 := by
          intro q; rw [q] at ev2; exact absurd ev2 (by decide)
        obtain ⟨co, a66, ic, t1, -⟩ := TS_code (sgV (tW (bO tb) (TT (bO tb) tc) (k + 1))) z1 (by rw [el2]; omega)
        have bl : ((cs ++ [vcK (bO tb) tc k]) ++ [vcK (bO tb) tc (k + 1 + 1)]).length < 2147483648 := by rw [el2]; omega
        have ek : ((((cs ++ [vcK (bO tb) tc k]) ++ [vcK (bO tb) tc (k + 1 + 1)]).length : Nat) : Int) + 1 = (((((cs ++ [vcK (bO tb) tc k]) ++ [vcK (bO tb) tc (k + 1 + 1)]).length + 1 : Nat)) : Int) := by omega
        have w26 : ∀ l, gF (pA h4 66 l) 54 11 26 = some (mI ((((cs ++ [vcK (bO tb) tc k]) ++ [vcK (bO tb) tc (k + 1 + 1)]).length : Nat) : Int)) := fun l => by rw [gF_pA, g26]
        have hf1 := fun x => vcK_fct (n := n) (x := x) (V := V) hkL ev hV
        have hf2 := fun x => vcK_fct (n := n) (x := x) (V := V) y1.2.2.1 ev2 hV
        refine ⟨_, k + 1 + 1 + 1, _, o, false, t1, fun _ => rfl, by omega, Fr_trans (Fr_trans (Fr_trans (Fr_trans u2 Fr_o54) y2) z2) TS_fr, by rw [List.length_append, el2]; show cs.length + 2 + 1 + r ≤ _; omega, ⟨(fun q => by cases q), fun _ => ⟨?_, [vcK (bO tb) tc k, vcK (bO tb) tc (k + 1 + 1), sgV (tW (bO tb) (TT (bO tb) tc) (k + 1))], ?_, fun d => dp_cmp ⟨v5, v9⟩ ⟨v5', v9'⟩ es d, fun x hx st => ?_⟩⟩, fun R => (sg R).trans ((go R).trans ?_)⟩
        · rw [cm2, ev2, psP_t w2]
        · rw [List.append_assoc, List.append_assoc]; rfl
        · rw [ev_cmp ⟨v5, v9⟩ ⟨v5', v9'⟩ es st, hf1 x, hf2 x]
          have cm1 : (cmpP n (tW (bO tb) (TT (bO tb) tc)) (tB tc (TT (bO tb) tc)) V (-1, k)).1 = stB (fun x => hld (fct n (tW (bO tb) (TT (bO tb) tc)) V x k) (tW (bO tb) (TT (bO tb) tc) (k + 1)) (fct n (tW (bO tb) (TT (bO tb) tc)) V x (k + 1 + 1))) (NA n) := by
            unfold cmpP
            dsimp only
            rw [p1]
            dsimp only
            rw [p2]
          rw [cm1, stB_get (NA n) (by omega) x, decide_eq_true hx, Bool.true_and]
        · simp only [AW_k, AWk_1, x_aload_0, x_aloads_0, x_getf, x_if_ne, x_iload_1, x_iast, x_dup_i, x_dup_r, x_dup_q, x_push_i, x_push_l, x_iadd, x_putf_i, x_ret, x_ret_i, x_ret_z, x_ret_l, x_ret_c, k_X11_compared_41, k_X11_compared_42, k_X11_compared_43, k_X11_compared_44, k_X11_compared_45, k_X11_compared_46, k_X11_compared_47, k_X11_compared_48, k_X11_compared_49, k_X11_compared_50, k_X11_compared_51, k_X11_compared_52, k_X11_compared_53, k_X11_compared_54, k_X11_compared_55, k_X11_compared_56, oE_some, Int.reduceToNat, Nat.reduceAdd, true_and, and_true, List.length_cons, List.length_nil, Option.toList_some, Option.toList_none, List.cons_append, List.nil_append, Nat.reduceLeDiff, Nat.le_refl, wdS_nil, wdS_i, wdS_l, wdS_r, wdS_n, wdS_s, g28'', zI_f, w00, g21, a66, g26, ic, w32_nat bl, Int.toNat_natCast, w26, ek, ↓reduceIte]
