/-! ===== the reference reads a text: all, any ===== -/
theorem ev_all (n x : Nat) (a b : Bool) (st : List Int) : evS n x [-10] (zI b :: zI a :: st) = zI (a && b) :: st := by
  cases a <;> cases b <;> rfl
theorem dp_all (d : Nat) : dpS (d + 2) [-10] = some (d + 1) := by
  rw [dpS_cons, if_pos (by decide), if_neg (by decide), if_neg (by decide), if_pos (by omega)]
  rfl
set_option maxHeartbeats 32000000 in
theorem t_allL (d : Nat) {n : Nat} {G : BitVec 64} {z : Int} {c : Nat} {ks : List Int} {es : List Int} {ik : Bool} {kn : Nat} {kG : BitVec 64} {kz : Int} {kc : Nat} {kks : List Int} {kes : List Int} {tc : Nat} {tb : List Int} {sc : Nat} {tl : List Int} {so : List Int} {le : List Int} {it : Nat → List (BitVec 64)} {he : List Int} {th : List Int} {sl : List Int} {tr : Nat} {bo : List Int} {o : Nat} {sub : PSt → BitVec 64 × PSt} (hsub : TC n G z c ks es ik kn kG kz kc kks kes tc tb sc tl so le it he th sl tr bo (d + 9) 219 o sub) : ∀ (f k : Nat) (hp : HP) (cs cs0 : List Int) (oc r : Nat) (wr : Bool) (x : BitVec 64) (s : PSt), TS hp n G z c ks es ik kn kG kz kc kks kes tc tb sc tl so le it he th sl tr bo k cs oc wr → (wr = false → oc = o) → cs.length + r ≤ k → TR n tb tc (x, s) cs0 k cs wr → (TT (bO tb) tc).length - k ≤ f → ∃ h' k' cs' o' wr', TS h' n G z c ks es ik kn kG kz kc kks kes tc tb sc tl so le it he th sl tr bo k' cs' o' wr' ∧ (wr' = false → o' = o) ∧ k ≤ k' ∧ Fr 54 83 hp h' ∧ cs'.length + r ≤ k' ∧ TR n tb tc (lopP (tW (bO tb) (TT (bO tb) tc)) (tB tc (TT (bO tb) tc)) 7 (fun x y => x &&& y) sub f x s) cs0 k' cs' wr' ∧ ∀ R : PO, AWh (d + 9) [] 220 R 2 [some (mR 54)] [] hp (0, 0) ↔ R none h' := by
  have hL : (TT (bO tb) tc).length ≤ 200 := tks_len (b := bO tb) (tc := tc) 200 0
  have stop : ∀ (f k : Nat) (hp : HP) (cs cs0 : List Int) (oc r : Nat) (wr : Bool) (x : BitVec 64) (s : PSt), TS hp n G z c ks es ik kn kG kz kc kks kes tc tb sc tl so le it he th sl tr bo k cs oc wr → (wr = false → oc = o) → cs.length + r ≤ k → TR n tb tc (x, s) cs0 k cs wr → (wr = false → tW (bO tb) (TT (bO tb) tc) k ≠ 7) → ∃ h' k' cs' o' wr', TS h' n G z c ks es ik kn kG kz kc kks kes tc tb sc tl so le it he th sl tr bo k' cs' o' wr' ∧ (wr' = false → o' = o) ∧ k ≤ k' ∧ Fr 54 83 hp h' ∧ cs'.length + r ≤ k' ∧ TR n tb tc (lopP (tW (bO tb) (TT (bO tb) tc)) (tB tc (TT (bO tb) tc)) 7 (fun x y => x &&& y) sub f x s) cs0 k' cs' wr' ∧ ∀ R : PO, AWh (d + 9) [] 220 R 2 [some (mR 54)] [] hp (0, 0) ↔ R none h' := by
    intro f k hp cs cs0 oc r wr x s h ho hl hX hc
    have cK := (TS_RD h).2.2.2
    have g28 := h.2.2.2.1.2.2.2.2
    have le : lopP (tW (bO tb) (TT (bO tb) tc)) (tB tc (TT (bO tb) tc)) 7 (fun x y => x &&& y) sub f x s = (x, s) := by
      cases f with
      | zero => rfl
      | succ f =>
        rw [lopP_succ, if_neg]
        intro q
        cases wr with
        | true =>
          have w : s = (((tB tc (TT (bO tb) tc) k : Nat) : Int), k) := hX.1 rfl
          rw [w] at q
          exact absurd q.1 (by dsimp only; omega)
        | false =>
          have w : s = (-1, k) := (hX.2 rfl).1
          rw [w] at q
          exact hc rfl q.2
    rw [le]
    refine ⟨hp, k, cs, oc, wr, h, ho, Nat.le_refl _, Fr_refl hp, hl, hX, fun R => ?_⟩
    cases wr with
    | true =>
      rw [AWh_k, k_X11_all_2]
      simp only [AW_k, AWk_1, x_aload_0, x_aloads_0, x_getf, x_if_ne, x_ret, x_ret_i, x_ret_z, x_ret_l, x_ret_c, k_X11_all_2, k_X11_all_3, k_X11_all_4, k_X11_all_31, oE_some, Int.reduceToNat, Nat.reduceAdd, true_and, and_true, List.length_cons, List.length_nil, Option.toList_some, Option.toList_none, List.cons_append, List.nil_append, Nat.reduceLeDiff, Nat.le_refl, wdS_nil, wdS_i, wdS_l, wdS_r, wdS_n, wdS_s, g28, zI_t, w10, ↓reduceIte]
    | false =>
      have cj := fun R => t_is (d + 4) (j := 19) h (by decide) (by decide) R
      rw [show (100 + 19 : Nat) = 119 from rfl, show cdJ 19 = 7 from rfl, decide_eq_false (hc rfl)] at cj
      rw [AWh_k, k_X11_all_2]
      simp only [AW_k, AWk_1, x_aload_0, x_aloads_0, x_getf, x_if_ne, x_ldcs, x_callv_2, x_if_eq, x_ret, x_ret_i, x_ret_z, x_ret_l, x_ret_c, k_X11_all_2, k_X11_all_3, k_X11_all_4, k_X11_all_5, k_X11_all_6, k_X11_all_7, k_X11_all_8, k_X11_all_31, oE_some, Int.reduceToNat, Nat.reduceAdd, true_and, and_true, List.length_cons, List.length_nil, Option.toList_some, Option.toList_none, List.cons_append, List.nil_append, Nat.reduceLeDiff, Nat.le_refl, wdS_nil, wdS_i, wdS_l, wdS_r, wdS_n, wdS_s, cK, g28, cj, zI_f, w00, Nat.reduceLT, ↓reduceIte]
  intro f
  induction f with
  | zero =>
    intro k hp cs cs0 oc r wr x s h ho hl hX hf
    refine stop 0 k hp cs cs0 oc r wr x s h ho hl hX (fun _ => ?_)
    unfold tW
    rw [if_neg (by omega)]
    decide
  | succ f ih =>
    intro k hp cs cs0 oc r wr x s h ho hl hX hf
    by_cases c : wr = false ∧ tW (bO tb) (TT (bO tb) tc) k = 7
    · obtain ⟨cw, c⟩ := c
      subst cw
      have oo := ho rfl
      subst oo
      have w : s = (-1, k) := (hX.2 rfl).1
      subst w
      obtain ⟨-, C1, e1, e2, e3⟩ := hX.2 rfl
      have cK := (TS_RD h).2.2.2
      have g28 := h.2.2.2.1.2.2.2.2
      have kL : k < (TT (bO tb) tc).length := by
        apply Decidable.byContradiction
        intro q
        unfold tW at c
        rw [if_neg q] at c
        exact absurd c (by decide)
      have cj := fun R => t_is (d + 4) (j := 19) h (by decide) (by decide) R
      rw [show (100 + 19 : Nat) = 119 from rfl, show cdJ 19 = 7 from rfl, decide_eq_true c] at cj
      obtain ⟨h1, y1, y2, y3⟩ := t_next (d + 7) h kL
      have cK1 := (TS_RD y1).2.2.2
      obtain ⟨h2, k2, cs2, o2, wr2, z1, z2, z3, z4, z5, z6, z7⟩ := hsub h1 (k + 1) cs (r + 1) y1 (by omega)
      have hk2 := z1.2.2.1
      obtain ⟨r4, g21, g22, cK2⟩ := TS_RD z1
      have g26 := z1.2.2.2.1.2.2.1
      have g28' := z1.2.2.2.1.2.2.2.2
      obtain ⟨co, a66, ic, t1, t2⟩ := TS_code (-10) z1 (by omega)
      have bl : cs2.length < 2147483648 := by omega
      have ek : (cs2.length : Int) + 1 = ((cs2.length + 1 : Nat) : Int) := by omega
      have ez : (cs2.length : Int) + 0 = (cs2.length : Int) := by omega
      have w26 : ∀ l, gF (pA h2 66 l) 54 11 26 = some (mI (cs2.length : Int)) := fun l => by rw [gF_pA, g26]
      have w28 : ∀ l, gF (pA h2 66 l) 54 11 28 = some (mI (zI wr2)) := fun l => by rw [gF_pA, g28']
      have el : (cs2 ++ [(-10 : Int)]).length = cs2.length + 1 := by rw [List.length_append]; rfl
      have lu : lopP (tW (bO tb) (TT (bO tb) tc)) (tB tc (TT (bO tb) tc)) 7 (fun x y => x &&& y) sub (f + 1) x (-1, k) = lopP (tW (bO tb) (TT (bO tb) tc)) (tB tc (TT (bO tb) tc)) 7 (fun x y => x &&& y) sub f (x &&& (sub (-1, k + 1)).1) (sub (-1, k + 1)).2 := by
        rw [lopP_succ, if_pos ⟨(show (-1:Int) < 0 by decide), c⟩, psP_t (by rw [c]; decide)]
      rw [lu]
      cases wr2 with
      | true =>
        obtain ⟨h3, k3, cs3, o3, wr3, v1, v2, v3, v4, v5, v6, v7⟩ := ih k2 _ cs2 cs0 o2 r true (x &&& (sub (-1, k + 1)).1) (sub (-1, k + 1)).2 t2 (fun q => by cases q) (by omega) ⟨fun _ => z6.1 rfl, (fun q => by cases q)⟩ (by omega)
        refine ⟨h3, k3, cs3, o3, wr3, v1, v2, by omega, Fr_trans (Fr_trans (Fr_trans y2 z4) TS_fr) v4, v5, v6, fun R => ?_⟩
        rw [← v7 R]
        rw [zI_t] at g28' w28
        rw [AWh_k, k_X11_all_2]
        simp only [AW_k, AWk_1, x_aload_0, x_aloads_0, x_getf, x_if_ne, x_ldcs, x_callv_2, x_if_eq, x_callv_1, x_push_i, x_push_l, x_iast, x_dup_i, x_dup_r, x_dup_q, x_goto, x_iadd, x_putf_i, k_X11_all_2, k_X11_all_3, k_X11_all_4, k_X11_all_5, k_X11_all_6, k_X11_all_7, k_X11_all_8, k_X11_all_9, k_X11_all_10, k_X11_all_11, k_X11_all_12, k_X11_all_13, k_X11_all_14, k_X11_all_15, k_X11_all_16, k_X11_all_17, k_X11_all_18, k_X11_all_19, k_X11_all_20, k_X11_all_21, k_X11_all_22, k_X11_all_23, k_X11_all_24, k_X11_all_25, k_X11_all_26, k_X11_all_27, k_X11_all_28, k_X11_all_29, k_X11_all_30, oE_some, Int.reduceToNat, Nat.reduceAdd, true_and, and_true, List.length_cons, List.length_nil, Option.toList_some, Option.toList_none, List.cons_append, List.nil_append, Nat.reduceLeDiff, Nat.le_refl, wdS_nil, wdS_i, wdS_l, wdS_r, wdS_n, wdS_s, cK, g28, cj, zI_f, zI_t, w00, w10, Nat.reduceLT, y3, cK1, z7, g21, a66, g26, ic, w32_nat bl, Int.toNat_natCast, w26, w28, ez, ↓reduceIte]
      | false =>
        have oo := z2 rfl
        subst oo
        obtain ⟨x1, C2, x2, x3, x4⟩ := z6.2 rfl
        have tr : TR n tb tc (x &&& (sub (-1, k + 1)).1, (sub (-1, k + 1)).2) cs0 k2 (cs2 ++ [(-10 : Int)]) false := by
          refine ⟨(fun q => by cases q), fun _ => ⟨x1, C1 ++ (C2 ++ [(-10 : Int)]), by rw [x2, e1, List.append_assoc, List.append_assoc], fun e => ?_, fun i hi st => ?_⟩⟩
          · rw [dpS_app, e2]
            show dpS (e + 1) (C2 ++ _) = _
            rw [dpS_app, x3]
            exact dp_all e
          · rw [evS_app, e3 i hi, evS_app, x4 i hi, ev_all, BitVec.getLsbD_and]
        obtain ⟨h3, k3, cs3, o3, wr3, v1, v2, v3, v4, v5, v6, v7⟩ := ih k2 _ (cs2 ++ [(-10 : Int)]) cs0 o2 r false (x &&& (sub (-1, k + 1)).1) (sub (-1, k + 1)).2 t1 (fun _ => rfl) (by rw [el]; omega) tr (by omega)
        refine ⟨h3, k3, cs3, o3, wr3, v1, v2, by omega, Fr_trans (Fr_trans (Fr_trans y2 z4) TS_fr) v4, v5, v6, fun R => ?_⟩
        rw [← v7 R]
        rw [zI_f] at g28' w28
        rw [AWh_k, k_X11_all_2]
        simp only [AW_k, AWk_1, x_aload_0, x_aloads_0, x_getf, x_if_ne, x_ldcs, x_callv_2, x_if_eq, x_callv_1, x_push_i, x_push_l, x_iast, x_dup_i, x_dup_r, x_dup_q, x_goto, x_iadd, x_putf_i, k_X11_all_2, k_X11_all_3, k_X11_all_4, k_X11_all_5, k_X11_all_6, k_X11_all_7, k_X11_all_8, k_X11_all_9, k_X11_all_10, k_X11_all_11, k_X11_all_12, k_X11_all_13, k_X11_all_14, k_X11_all_15, k_X11_all_16, k_X11_all_17, k_X11_all_18, k_X11_all_19, k_X11_all_20, k_X11_all_21, k_X11_all_22, k_X11_all_23, k_X11_all_24, k_X11_all_25, k_X11_all_26, k_X11_all_27, k_X11_all_28, k_X11_all_29, k_X11_all_30, oE_some, Int.reduceToNat, Nat.reduceAdd, true_and, and_true, List.length_cons, List.length_nil, Option.toList_some, Option.toList_none, List.cons_append, List.nil_append, Nat.reduceLeDiff, Nat.le_refl, wdS_nil, wdS_i, wdS_l, wdS_r, wdS_n, wdS_s, cK, g28, cj, zI_f, zI_t, w00, w10, Nat.reduceLT, y3, cK1, z7, g21, a66, g26, ic, w32_nat bl, Int.toNat_natCast, w26, w28, ek, ↓reduceIte]
    · refine stop (f + 1) k hp cs cs0 oc r wr x s h ho hl hX (fun q => ?_)
      exact fun q2 => c ⟨q, q2⟩
set_option maxHeartbeats 16000000 in
theorem t_all (d : Nat) {n : Nat} {G : BitVec 64} {z : Int} {c : Nat} {ks : List Int} {es : List Int} {ik : Bool} {kn : Nat} {kG : BitVec 64} {kz : Int} {kc : Nat} {kks : List Int} {kes : List Int} {tc : Nat} {tb : List Int} {sc : Nat} {tl : List Int} {so : List Int} {le : List Int} {it : Nat → List (BitVec 64)} {he : List Int} {th : List Int} {sl : List Int} {tr : Nat} {bo : List Int} {o : Nat} {V : Nat → Int} {low : PSt → BitVec 64 × PSt} (hsub : TC n G z c ks es ik kn kG kz kc kks kes tc tb sc tl so le it he th sl tr bo (d + 9) 219 o (oneP n (tW (bO tb) (TT (bO tb) tc)) (tB tc (TT (bO tb) tc)) V low o)) : TC n G z c ks es ik kn kG kz kc kks kes tc tb sc tl so le it he th sl tr bo (d + 10) 220 o (allP n (tW (bO tb) (TT (bO tb) tc)) (tB tc (TT (bO tb) tc)) V low o) := by
  intro hp k cs r h hl
  have cK := (TS_RD h).2.2.2
  have hL : (TT (bO tb) tc).length ≤ 200 := tks_len (b := bO tb) (tc := tc) 200 0
  obtain ⟨h1, k1, cs1, o1, wr1, z1, z2, z3, z4, z5, z6, z7⟩ := hsub hp k cs r h hl
  obtain ⟨h3, k3, cs3, o3, wr3, v1, v2, v3, v4, v5, v6, v7⟩ := t_allL d hsub 200 k1 h1 cs1 cs o1 r wr1 _ _ z1 z2 z5 z6 (by omega)
  refine ⟨h3, k3, cs3, o3, wr3, v1, v2, by omega, Fr_trans z4 v4, v5, v6, fun R => ?_⟩
  rw [← v7 R]
  rw [callD_k]; simp only [entL_i, entL_l, entL_q, entL_s, entL_nil, n_X11_all, u_X11_all, m_X11_all, rep_0, List.cons_append, List.nil_append, List.append_nil, List.length_cons, List.length_nil, Nat.reduceAdd, true_and]
  simp only [AW_k, AWk_1, x_aload_0, x_aloads_0, x_callv_1, k_X11_all_0, k_X11_all_1, oE_some, Int.reduceToNat, Nat.reduceAdd, true_and, and_true, List.length_cons, List.length_nil, Option.toList_some, Option.toList_none, List.cons_append, List.nil_append, Nat.reduceLeDiff, Nat.le_refl, wdS_nil, wdS_i, wdS_l, wdS_r, wdS_n, wdS_s, cK, z7]
  exact Iff.rfl
theorem ev_cond (n x : Nat) (a b : Bool) (st : List Int) : evS n x [-11] (zI b :: zI a :: st) = zI (a || b) :: st := by
  cases a <;> cases b <;> rfl
theorem dp_cond (d : Nat) : dpS (d + 2) [-11] = some (d + 1) := by
  rw [dpS_cons, if_pos (by decide), if_neg (by decide), if_neg (by decide), if_pos (by omega)]
  rfl
set_option maxHeartbeats 32000000 in
theorem t_condL (d : Nat) {n : Nat} {G : BitVec 64} {z : Int} {c : Nat} {ks : List Int} {es : List Int} {ik : Bool} {kn : Nat} {kG : BitVec 64} {kz : Int} {kc : Nat} {kks : List Int} {kes : List Int} {tc : Nat} {tb : List Int} {sc : Nat} {tl : List Int} {so : List Int} {le : List Int} {it : Nat → List (BitVec 64)} {he : List Int} {th : List Int} {sl : List Int} {tr : Nat} {bo : List Int} {o : Nat} {sub : PSt → BitVec 64 × PSt} (hsub : TC n G z c ks es ik kn kG kz kc kks kes tc tb sc tl so le it he th sl tr bo (d + 10) 220 o sub) : ∀ (f k : Nat) (hp : HP) (cs cs0 : List Int) (oc r : Nat) (wr : Bool) (x : BitVec 64) (s : PSt), TS hp n G z c ks es ik kn kG kz kc kks kes tc tb sc tl so le it he th sl tr bo k cs oc wr → (wr = false → oc = o) → cs.length + r ≤ k → TR n tb tc (x, s) cs0 k cs wr → (TT (bO tb) tc).length - k ≤ f → ∃ h' k' cs' o' wr', TS h' n G z c ks es ik kn kG kz kc kks kes tc tb sc tl so le it he th sl tr bo k' cs' o' wr' ∧ (wr' = false → o' = o) ∧ k ≤ k' ∧ Fr 54 83 hp h' ∧ cs'.length + r ≤ k' ∧ TR n tb tc (lopP (tW (bO tb) (TT (bO tb) tc)) (tB tc (TT (bO tb) tc)) 8 (fun x y => x ||| y) sub f x s) cs0 k' cs' wr' ∧ ∀ R : PO, AWh (d + 10) [] 221 R 2 [some (mR 54)] [] hp (0, 0) ↔ R none h' := by
  have hL : (TT (bO tb) tc).length ≤ 200 := tks_len (b := bO tb) (tc := tc) 200 0
  have stop : ∀ (f k : Nat) (hp : HP) (cs cs0 : List Int) (oc r : Nat) (wr : Bool) (x : BitVec 64) (s : PSt), TS hp n G z c ks es ik kn kG kz kc kks kes tc tb sc tl so le it he th sl tr bo k cs oc wr → (wr = false → oc = o) → cs.length + r ≤ k → TR n tb tc (x, s) cs0 k cs wr → (wr = false → tW (bO tb) (TT (bO tb) tc) k ≠ 8) → ∃ h' k' cs' o' wr', TS h' n G z c ks es ik kn kG kz kc kks kes tc tb sc tl so le it he th sl tr bo k' cs' o' wr' ∧ (wr' = false → o' = o) ∧ k ≤ k' ∧ Fr 54 83 hp h' ∧ cs'.length + r ≤ k' ∧ TR n tb tc (lopP (tW (bO tb) (TT (bO tb) tc)) (tB tc (TT (bO tb) tc)) 8 (fun x y => x ||| y) sub f x s) cs0 k' cs' wr' ∧ ∀ R : PO, AWh (d + 10) [] 221 R 2 [some (mR 54)] [] hp (0, 0) ↔ R none h' := by
    intro f k hp cs cs0 oc r wr x s h ho hl hX hc
    have cK := (TS_RD h).2.2.2
    have g28 := h.2.2.2.1.2.2.2.2
    have le : lopP (tW (bO tb) (TT (bO tb) tc)) (tB tc (TT (bO tb) tc)) 8 (fun x y => x ||| y) sub f x s = (x, s) := by
      cases f with
      | zero => rfl
      | succ f =>
        rw [lopP_succ, if_neg]
        intro q
        cases wr with
        | true =>
          have w : s = (((tB tc (TT (bO tb) tc) k : Nat) : Int), k) := hX.1 rfl
          rw [w] at q
          exact absurd q.1 (by dsimp only; omega)
        | false =>
          have w : s = (-1, k) := (hX.2 rfl).1
          rw [w] at q
          exact hc rfl q.2
    rw [le]
    refine ⟨hp, k, cs, oc, wr, h, ho, Nat.le_refl _, Fr_refl hp, hl, hX, fun R => ?_⟩
    cases wr with
    | true =>
      rw [AWh_k, k_X11_cond_2]
      simp only [AW_k, AWk_1, x_aload_0, x_aloads_0, x_getf, x_if_ne, x_ret, x_ret_i, x_ret_z, x_ret_l, x_ret_c, k_X11_cond_2, k_X11_cond_3, k_X11_cond_4, k_X11_cond_31, oE_some, Int.reduceToNat, Nat.reduceAdd, true_and, and_true, List.length_cons, List.length_nil, Option.toList_some, Option.toList_none, List.cons_append, List.nil_append, Nat.reduceLeDiff, Nat.le_refl, wdS_nil, wdS_i, wdS_l, wdS_r, wdS_n, wdS_s, g28, zI_t, w10, ↓reduceIte]
    | false =>
      have cj := fun R => t_is (d + 5) (j := 20) h (by decide) (by decide) R
      rw [show (100 + 20 : Nat) = 120 from rfl, show cdJ 20 = 8 from rfl, decide_eq_false (hc rfl)] at cj
      rw [AWh_k, k_X11_cond_2]
      simp only [AW_k, AWk_1, x_aload_0, x_aloads_0, x_getf, x_if_ne, x_ldcs, x_callv_2, x_if_eq, x_ret, x_ret_i, x_ret_z, x_ret_l, x_ret_c, k_X11_cond_2, k_X11_cond_3, k_X11_cond_4, k_X11_cond_5, k_X11_cond_6, k_X11_cond_7, k_X11_cond_8, k_X11_cond_31, oE_some, Int.reduceToNat, Nat.reduceAdd, true_and, and_true, List.length_cons, List.length_nil, Option.toList_some, Option.toList_none, List.cons_append, List.nil_append, Nat.reduceLeDiff, Nat.le_refl, wdS_nil, wdS_i, wdS_l, wdS_r, wdS_n, wdS_s, cK, g28, cj, zI_f, w00, Nat.reduceLT, ↓reduceIte]
  intro f
  induction f with
  | zero =>
    intro k hp cs cs0 oc r wr x s h ho hl hX hf
    refine stop 0 k hp cs cs0 oc r wr x s h ho hl hX (fun _ => ?_)
    unfold tW
    rw [if_neg (by omega)]
    decide
  | succ f ih =>
    intro k hp cs cs0 oc r wr x s h ho hl hX hf
    by_cases c : wr = false ∧ tW (bO tb) (TT (bO tb) tc) k = 8
    · obtain ⟨cw, c⟩ := c
      subst cw
      have oo := ho rfl
      subst oo
      have w : s = (-1, k) := (hX.2 rfl).1
      subst w
      obtain ⟨-, C1, e1, e2, e3⟩ := hX.2 rfl
      have cK := (TS_RD h).2.2.2
      have g28 := h.2.2.2.1.2.2.2.2
      have kL : k < (TT (bO tb) tc).length := by
        apply Decidable.byContradiction
        intro q
        unfold tW at c
        rw [if_neg q] at c
        exact absurd c (by decide)
      have cj := fun R => t_is (d + 5) (j := 20) h (by decide) (by decide) R
      rw [show (100 + 20 : Nat) = 120 from rfl, show cdJ 20 = 8 from rfl, decide_eq_true c] at cj
      obtain ⟨h1, y1, y2, y3⟩ := t_next (d + 8) h kL
      have cK1 := (TS_RD y1).2.2.2
      obtain ⟨h2, k2, cs2, o2, wr2, z1, z2, z3, z4, z5, z6, z7⟩ := hsub h1 (k + 1) cs (r + 1) y1 (by omega)
      have hk2 := z1.2.2.1
      obtain ⟨r4, g21, g22, cK2⟩ := TS_RD z1
      have g26 := z1.2.2.2.1.2.2.1
      have g28' := z1.2.2.2.1.2.2.2.2
      obtain ⟨co, a66, ic, t1, t2⟩ := TS_code (-11) z1 (by omega)
      have bl : cs2.length < 2147483648 := by omega
      have ek : (cs2.length : Int) + 1 = ((cs2.length + 1 : Nat) : Int) := by omega
      have ez : (cs2.length : Int) + 0 = (cs2.length : Int) := by omega
      have w26 : ∀ l, gF (pA h2 66 l) 54 11 26 = some (mI (cs2.length : Int)) := fun l => by rw [gF_pA, g26]
      have w28 : ∀ l, gF (pA h2 66 l) 54 11 28 = some (mI (zI wr2)) := fun l => by rw [gF_pA, g28']
      have el : (cs2 ++ [(-11 : Int)]).length = cs2.length + 1 := by rw [List.length_append]; rfl
      have lu : lopP (tW (bO tb) (TT (bO tb) tc)) (tB tc (TT (bO tb) tc)) 8 (fun x y => x ||| y) sub (f + 1) x (-1, k) = lopP (tW (bO tb) (TT (bO tb) tc)) (tB tc (TT (bO tb) tc)) 8 (fun x y => x ||| y) sub f (x ||| (sub (-1, k + 1)).1) (sub (-1, k + 1)).2 := by
        rw [lopP_succ, if_pos ⟨(show (-1:Int) < 0 by decide), c⟩, psP_t (by rw [c]; decide)]
      rw [lu]
      cases wr2 with
      | true =>
        obtain ⟨h3, k3, cs3, o3, wr3, v1, v2, v3, v4, v5, v6, v7⟩ := ih k2 _ cs2 cs0 o2 r true (x ||| (sub (-1, k + 1)).1) (sub (-1, k + 1)).2 t2 (fun q => by cases q) (by omega) ⟨fun _ => z6.1 rfl, (fun q => by cases q)⟩ (by omega)
        refine ⟨h3, k3, cs3, o3, wr3, v1, v2, by omega, Fr_trans (Fr_trans (Fr_trans y2 z4) TS_fr) v4, v5, v6, fun R => ?_⟩
        rw [← v7 R]
        rw [zI_t] at g28' w28
        rw [AWh_k, k_X11_cond_2]
        simp only [AW_k, AWk_1, x_aload_0, x_aloads_0, x_getf, x_if_ne, x_ldcs, x_callv_2, x_if_eq, x_callv_1, x_push_i, x_push_l, x_iast, x_dup_i, x_dup_r, x_dup_q, x_goto, x_iadd, x_putf_i, k_X11_cond_2, k_X11_cond_3, k_X11_cond_4, k_X11_cond_5, k_X11_cond_6, k_X11_cond_7, k_X11_cond_8, k_X11_cond_9, k_X11_cond_10, k_X11_cond_11, k_X11_cond_12, k_X11_cond_13, k_X11_cond_14, k_X11_cond_15, k_X11_cond_16, k_X11_cond_17, k_X11_cond_18, k_X11_cond_19, k_X11_cond_20, k_X11_cond_21, k_X11_cond_22, k_X11_cond_23, k_X11_cond_24, k_X11_cond_25, k_X11_cond_26, k_X11_cond_27, k_X11_cond_28, k_X11_cond_29, k_X11_cond_30, oE_some, Int.reduceToNat, Nat.reduceAdd, true_and, and_true, List.length_cons, List.length_nil, Option.toList_some, Option.toList_none, List.cons_append, List.nil_append, Nat.reduceLeDiff, Nat.le_refl, wdS_nil, wdS_i, wdS_l, wdS_r, wdS_n, wdS_s, cK, g28, cj, zI_f, zI_t, w00, w10, Nat.reduceLT, y3, cK1, z7, g21, a66, g26, ic, w32_nat bl, Int.toNat_natCast, w26, w28, ez, ↓reduceIte]
      | false =>
        have oo := z2 rfl
        subst oo
        obtain ⟨x1, C2, x2, x3, x4⟩ := z6.2 rfl
        have tr : TR n tb tc (x ||| (sub (-1, k + 1)).1, (sub (-1, k + 1)).2) cs0 k2 (cs2 ++ [(-11 : Int)]) false := by
          refine ⟨(fun q => by cases q), fun _ => ⟨x1, C1 ++ (C2 ++ [(-11 : Int)]), by rw [x2, e1, List.append_assoc, List.append_assoc], fun e => ?_, fun i hi st => ?_⟩⟩
          · rw [dpS_app, e2]
            show dpS (e + 1) (C2 ++ _) = _
            rw [dpS_app, x3]
            exact dp_cond e
          · rw [evS_app, e3 i hi, evS_app, x4 i hi, ev_cond, BitVec.getLsbD_or]
        obtain ⟨h3, k3, cs3, o3, wr3, v1, v2, v3, v4, v5, v6, v7⟩ := ih k2 _ (cs2 ++ [(-11 : Int)]) cs0 o2 r false (x ||| (sub (-1, k + 1)).1) (sub (-1, k + 1)).2 t1 (fun _ => rfl) (by rw [el]; omega) tr (by omega)
        refine ⟨h3, k3, cs3, o3, wr3, v1, v2, by omega, Fr_trans (Fr_trans (Fr_trans y2 z4) TS_fr) v4, v5, v6, fun R => ?_⟩
        rw [← v7 R]
        rw [zI_f] at g28' w28
        rw [AWh_k, k_X11_cond_2]
        simp only [AW_k, AWk_1, x_aload_0, x_aloads_0, x_getf, x_if_ne, x_ldcs, x_callv_2, x_if_eq, x_callv_1, x_push_i, x_push_l, x_iast, x_dup_i, x_dup_r, x_dup_q, x_goto, x_iadd, x_putf_i, k_X11_cond_2, k_X11_cond_3, k_X11_cond_4, k_X11_cond_5, k_X11_cond_6, k_X11_cond_7, k_X11_cond_8, k_X11_cond_9, k_X11_cond_10, k_X11_cond_11, k_X11_cond_12, k_X11_cond_13, k_X11_cond_14, k_X11_cond_15, k_X11_cond_16, k_X11_cond_17, k_X11_cond_18, k_X11_cond_19, k_X11_cond_20, k_X11_cond_21, k_X11_cond_22, k_X11_cond_23, k_X11_cond_24, k_X11_cond_25, k_X11_cond_26, k_X11_cond_27, k_X11_cond_28, k_X11_cond_29, k_X11_cond_30, oE_some, Int.reduceToNat, Nat.reduceAdd, true_and, and_true, List.length_cons, List.length_nil, Option.toList_some, Option.toList_none, List.cons_append, List.nil_append, Nat.reduceLeDiff, Nat.le_refl, wdS_nil, wdS_i, wdS_l, wdS_r, wdS_n, wdS_s, cK, g28, cj, zI_f, zI_t, w00, w10, Nat.reduceLT, y3, cK1, z7, g21, a66, g26, ic, w32_nat bl, Int.toNat_natCast, w26, w28, ek, ↓reduceIte]
    · refine stop (f + 1) k hp cs cs0 oc r wr x s h ho hl hX (fun q => ?_)
      exact fun q2 => c ⟨q, q2⟩
set_option maxHeartbeats 16000000 in
theorem t_cond (d : Nat) {n : Nat} {G : BitVec 64} {z : Int} {c : Nat} {ks : List Int} {es : List Int} {ik : Bool} {kn : Nat} {kG : BitVec 64} {kz : Int} {kc : Nat} {kks : List Int} {kes : List Int} {tc : Nat} {tb : List Int} {sc : Nat} {tl : List Int} {so : List Int} {le : List Int} {it : Nat → List (BitVec 64)} {he : List Int} {th : List Int} {sl : List Int} {tr : Nat} {bo : List Int} {o : Nat} {V : Nat → Int} {low : PSt → BitVec 64 × PSt} (hsub : TC n G z c ks es ik kn kG kz kc kks kes tc tb sc tl so le it he th sl tr bo (d + 10) 220 o (allP n (tW (bO tb) (TT (bO tb) tc)) (tB tc (TT (bO tb) tc)) V low o)) : TC n G z c ks es ik kn kG kz kc kks kes tc tb sc tl so le it he th sl tr bo (d + 11) 221 o (anyP n (tW (bO tb) (TT (bO tb) tc)) (tB tc (TT (bO tb) tc)) V low o) := by
  intro hp k cs r h hl
  have cK := (TS_RD h).2.2.2
  have hL : (TT (bO tb) tc).length ≤ 200 := tks_len (b := bO tb) (tc := tc) 200 0
  obtain ⟨h1, k1, cs1, o1, wr1, z1, z2, z3, z4, z5, z6, z7⟩ := hsub hp k cs r h hl
  obtain ⟨h3, k3, cs3, o3, wr3, v1, v2, v3, v4, v5, v6, v7⟩ := t_condL d hsub 200 k1 h1 cs1 cs o1 r wr1 _ _ z1 z2 z5 z6 (by omega)
  refine ⟨h3, k3, cs3, o3, wr3, v1, v2, by omega, Fr_trans z4 v4, v5, v6, fun R => ?_⟩
  rw [← v7 R]
  rw [callD_k]; simp only [entL_i, entL_l, entL_q, entL_s, entL_nil, n_X11_cond, u_X11_cond, m_X11_cond, rep_0, List.cons_append, List.nil_append, List.append_nil, List.length_cons, List.length_nil, Nat.reduceAdd, true_and]
  simp only [AW_k, AWk_1, x_aload_0, x_aloads_0, x_callv_1, k_X11_cond_0, k_X11_cond_1, oE_some, Int.reduceToNat, Nat.reduceAdd, true_and, and_true, List.length_cons, List.length_nil, Option.toList_some, Option.toList_none, List.cons_append, List.nil_append, Nat.reduceLeDiff, Nat.le_refl, wdS_nil, wdS_i, wdS_l, wdS_r, wdS_n, wdS_s, cK, z7]
  exact Iff.rfl
theorem t_anyL {n : Nat} {G : BitVec 64} {z : Int} {c : Nat} {ks : List Int} {es : List Int} {ik : Bool} {kn : Nat} {kG : BitVec 64} {kz : Int} {kc : Nat} {kks : List Int} {kes : List Int} {tc : Nat} {tb : List Int} {sc : Nat} {tl : List Int} {so : List Int} {le : List Int} {it : Nat → List (BitVec 64)} {he : List Int} {th : List Int} {sl : List Int} {tr : Nat} {bo : List Int} {V : Nat → Int} (hV : ∀ k, k < (TT (bO tb) tc).length → V k = tV (bO tb) (TT (bO tb) tc) k) : ∀ (j d : Nat), j ≤ 3 → TC n G z c ks es ik kn kG kz kc kks kes tc tb sc tl so le it he th sl tr bo (d + 3 * j + 11) 221 (3 - j) (anyL n (tW (bO tb) (TT (bO tb) tc)) (tB tc (TT (bO tb) tc)) V j) := by
  intro j
  induction j with
  | zero =>
    intro d _
    exact t_cond d (o := 3) (t_all d (o := 3) (t_one d (o := 3) (Nat.le_refl _) hV (fun q => absurd q (Nat.lt_irrefl _))))
  | succ j ih =>
    intro d hj
    have i1 := ih d (by omega)
    have e : 3 - (j + 1) + 1 = 3 - j := by omega
    have e2 : d + 3 * (j + 1) + 11 = (d + 3 * j + 3) + 11 := by omega
    rw [e2]
    refine t_cond (d + 3 * j + 3) (o := 3 - (j + 1)) (t_all (d + 3 * j + 3) (o := 3 - (j + 1)) (t_one (d + 3 * j + 3) (o := 3 - (j + 1)) (by omega) hV (fun _ => ?_)))
    rw [e]
    exact i1
