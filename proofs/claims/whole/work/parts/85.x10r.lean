/-! ===== the class's own methods: another size; what was kept comes again ===== -/
theorem RWS_lt {hp : HP} {y n : Nat} (h : RWS hp y n) : y + 16 ≤ hp.length := by
  have e := h.2 15 (by decide)
  have e2 : (RC n y)[15]? = some (.inr (.inl (0, tI (bsK n) (FC n * (n - 1))))) := rfl
  rw [e2] at e
  have := (List.getElem?_eq_some_iff.mp e).1
  omega
theorem RWS_Kp {hp h : HP} {y n : Nat} (r : RWS hp y n) (k : ∀ j, 37 ≤ j → j < hp.length → h[j]? = hp[j]?) (hy : 37 ≤ y) : RWS h y n := by
  have hl := RWS_lt r
  exact RWS_eq r (fun j h1 h2 => k j (by omega) (by omega))
/-- the tables are as they were, the object and the list of tables are new -/
theorem XI_new {hp h : HP} {n : Nat} {G : BitVec 64} {z : Int} {c : Nat} {ks : List Int} {es : List Int} {ik : Bool} {kn : Nat} {kG : BitVec 64} {kz : Int} {kc : Nat} {kks : List Int} {kes : List Int} {tc : Nat} {tb : List Int} {sc : Nat} {tl : List Int} {so : List Int} {le : List Int} {it : Nat → List (BitVec 64)} {he : List Int} {th : List Int} {sl : List Int} {tr : Nat} {bo : List Int} {n' ra' : Nat} {ts' : List (Option Nat)} (hX : XI hp n G z c ks es ik kn kG kz kc kks kes tc tb sc tl so le it he th sl tr bo) (k : ∀ j, 2 ≤ j → j < hp.length → h[j]? = hp[j]?) (hl : 54 ≤ hp.length) (hO : XO h ra' G z ik kn kG kz) (hT : XT h ra' n' ts') : XI h n' G z c ks es ik kn kG kz kc kks kes tc tb sc tl so le it he th sl tr bo := by
  obtain ⟨ra, ts, q0, q1, q2, q3, q4, q5, q6, q7, q8, q9, q10, q11, qk⟩ := hX
  have s : ∀ lo hi, 2 ≤ lo → hi ≤ 54 → Sm lo hi hp h := fun lo hi h1 h2 j h3 h4 => k j (by omega) (by omega)
  exact ⟨ra', ts', hO, hT, XM_S q2 (s _ _ (by omega) (by omega)), XP_S q3 (s _ _ (by omega) (by omega)), XW_S q4 (s _ _ (by omega) (by omega)), XL_S q5 (s _ _ (by omega) (by omega)), XS_S q6 (s _ _ (by omega) (by omega)), XH_S q7 (s _ _ (by omega) (by omega)), XV_S q8 (s _ _ (by omega) (by omega)), XA_S q9 (s _ _ (by omega) (by omega)), XQ_S q10 (s _ _ (by omega) (by omega)), XM_S q11 (s _ _ (by omega) (by omega)), qk⟩
set_option maxHeartbeats 32000000 in
theorem x10_resize (d : Nat) {hp : HP} {n : Nat} {G : BitVec 64} {z : Int} {c : Nat} {ks : List Int} {es : List Int} {ik : Bool} {kn : Nat} {kG : BitVec 64} {kz : Int} {kc : Nat} {kks : List Int} {kes : List Int} {tc : Nat} {tb : List Int} {sc : Nat} {tl : List Int} {so : List Int} {le : List Int} {it : Nat → List (BitVec 64)} {he : List Int} {th : List Int} {sl : List Int} {tr : Nat} {bo : List Int} {v : Nat} (hX : XI hp n G z c ks es ik kn kG kz kc kks kes tc tb sc tl so le it he th sl tr bo) (hv1 : 1 ≤ v) (hv6 : v ≤ 6) (hlen : 83 ≤ hp.length) : ∃ h', XI h' v G z c ks es ik kn kG kz kc kks kes tc tb sc tl so le it he th sl tr bo ∧ Kx hp h' ∧ ∀ R : PO, callD (d + 10) 101 [mR 0, mI (v : Int)] hp R ↔ R none h' := by
  have hX0 := hX
  obtain ⟨ra, ts, q0, q1, q2, q3, q4, q5, q6, q7, q8, q9, q10, q11, qk⟩ := hX
  have hR := q1.1
  have h1 := rw_1 hR
  have h6 := rw_6 hR
  have f1 := FC_le n
  have cR := rC0 hR
  have cA := rC1 hR
  have o0 : gF hp 0 10 0 = some (mR 1) := XO_F q0 0
  have o1 : gF hp 0 10 1 = some (mR ra) := XO_F q0 1
  have o2 : gF hp 0 10 2 = some (mL G) := XO_F q0 2
  have o3 : gF hp 0 10 3 = some (mI z) := XO_F q0 3
  have o4 : gF hp 0 10 4 = some (mR 2) := XO_F q0 4
  have o5 : gF hp 0 10 5 = some (mR 5) := XO_F q0 5
  have o6 : gF hp 0 10 6 = some (mR 10) := XO_F q0 6
  have o7 : gF hp 0 10 7 = some (mR 14) := XO_F q0 7
  have o8 : gF hp 0 10 8 = some (mR 17) := XO_F q0 8
  have o9 : gF hp 0 10 9 = some (mR 19) := XO_F q0 9
  have o10 : gF hp 0 10 10 = some (mR 27) := XO_F q0 10
  have o11 : gF hp 0 10 11 = some (mR 31) := XO_F q0 11
  have o12 : gF hp 0 10 12 = some (mR 33) := XO_F q0 12
  have o13 : gF hp 0 10 13 = some (mI (zI ik)) := XO_F q0 13
  have o14 : gF hp 0 10 14 = some (mI (kn : Int)) := XO_F q0 14
  have o15 : gF hp 0 10 15 = some (mL kG) := XO_F q0 15
  have o16 : gF hp 0 10 16 = some (mI kz) := XO_F q0 16
  have o17 : gF hp 0 10 17 = some (mR 34) := XO_F q0 17
  have cO := gC_of o0
  have a0 := q1.2.2.1
  have l7 := q1.2.2.2.1
  have bv : v < 2147483648 := by omega
  have hv7 : v < 7 := by omega
  have iv7 : inB (v : Int) ts.length := by rw [l7]; exact inB_n hv7 (by decide)
  cases et : ts.getD v none with
  | some y =>
    obtain ⟨ry, ty⟩ := q1.2.2.2.2 v y hv7 et
    have fr : Fr 0 1 hp (pF hp 0 10 1 (mR y)) := Fr_pF (Nat.le_refl _) (Nat.lt_succ_self _)
    have ry' : RWS (pF hp 0 10 1 (mR y)) y v := RWS_eq ry (tb_Fr fr (by omega) ty)
    refine ⟨pF hp 0 10 1 (mR y), XI_new (ra' := y) (ts' := ts) hX0 (fun j h1 _ => fr.2 j (by omega)) (by omega) (by rw [XO, pF_cell q0]; rfl) ⟨ry', ty, by rw [gQ_Fr fr (by omega)]; exact a0, l7, fun k x hk hx => ⟨RWS_eq (q1.2.2.2.2 k x hk hx).1 (tb_Fr fr (by omega) (q1.2.2.2.2 k x hk hx).2), (q1.2.2.2.2 k x hk hx).2⟩⟩, Kx_pF, fun R => ?_⟩
    have ne : (some y = none) = False := eq_false (fun q => by cases q)
    rw [callD_k]; simp only [entL_i, entL_l, entL_q, entL_s, entL_nil, n_X10_resize, u_X10_resize, m_X10_resize, rep_0, List.cons_append, List.nil_append, List.append_nil, List.length_cons, List.length_nil, Nat.reduceAdd, true_and]
    simp only [AW_k, AWk_1, x_aload_0, x_aloads_0, x_getf, x_iload_1, x_aald, x_nonnull_r, x_nonnull_n, x_nonnull, x_new, x_dup_i, x_dup_r, x_dup_q, x_calliB_2, x_aast, x_putf_r, x_ret, x_ret_i, x_ret_z, x_ret_l, x_ret_c, k_X10_resize_0, k_X10_resize_1, k_X10_resize_2, k_X10_resize_3, k_X10_resize_4, k_X10_resize_5, k_X10_resize_6, k_X10_resize_7, k_X10_resize_8, k_X10_resize_9, k_X10_resize_10, k_X10_resize_11, k_X10_resize_12, k_X10_resize_13, k_X10_resize_14, k_X10_resize_15, k_X10_resize_16, k_X10_resize_17, k_X10_resize_18, k_X10_resize_19, oE_some, Int.reduceToNat, Nat.reduceAdd, true_and, and_true, List.length_cons, List.length_nil, Option.toList_some, Option.toList_none, List.cons_append, List.nil_append, Nat.reduceLeDiff, Nat.le_refl, wdS_nil, wdS_i, wdS_l, wdS_r, wdS_n, wdS_s, o0, a0, iv7, w32_tn bv, et, o1, ne, ↓reduceIte]
  | none =>
    obtain ⟨h1', k1, k2, k3, k4⟩ := c4_init (d + 4) (h0 := hp) hv1 hv6
    have hl := hlen
    -- the heap at the end
    have f1 : Fr 1 2 h1' (pQ h1' 1 0 (ts.set v (some hp.length))) := Fr_pQ (Nat.le_refl _) (Nat.lt_succ_self _)
    have f2 : Fr 0 1 (pQ h1' 1 0 (ts.set v (some hp.length))) (pF (pQ h1' 1 0 (ts.set v (some hp.length))) 0 10 1 (mR hp.length)) := Fr_pF (Nat.le_refl _) (Nat.lt_succ_self _)
    have cell : ∀ j, 2 ≤ j → (pF (pQ h1' 1 0 (ts.set v (some hp.length))) 0 10 1 (mR hp.length))[j]? = h1'[j]? := fun j hj => (f2.2 j (by omega)).trans (f1.2 j (by omega))
    have gq1 : gQ h1' 1 0 = some ts := by rw [gQ_S (k1 1 (by omega)), a0]
    have gq2 : gQ (pQ h1' 1 0 (ts.set v (some hp.length))) 1 0 = some (ts.set v (some hp.length)) := gQ_pQ_same gq1
    have q0' : h1'[0]? = some (.inl (10, oFs ra G z ik kn kG kz)) := (k1 0 (by omega)).trans q0
    have q0'' : (pQ h1' 1 0 (ts.set v (some hp.length)))[0]? = some (.inl (10, oFs ra G z ik kn kG kz)) := (f1.2 0 (by omega)).trans q0'
    have kl : ∀ j, 2 ≤ j → j < hp.length → (pF (pQ h1' 1 0 (ts.set v (some hp.length))) 0 10 1 (mR hp.length))[j]? = hp[j]? := fun j h1 h2 => (cell j h1).trans (k1 j h2)
    have rn : RWS (pF (pQ h1' 1 0 (ts.set v (some hp.length))) 0 10 1 (mR hp.length)) hp.length v := RWS_eq k3 (fun j h1 _ => cell j (by omega))
    have tn : tbAt hp.length := Or.inr hl
    refine ⟨pF (pQ h1' 1 0 (ts.set v (some hp.length))) 0 10 1 (mR hp.length), XI_new (ra' := hp.length) (ts' := ts.set v (some hp.length)) hX0 kl (by omega) (by rw [XO, pF_cell q0'']; rfl) ⟨rn, tn, ?_, by rw [List.length_set]; exact l7, fun k x hk hx => ?_⟩, ⟨by rw [f2.1, f1.1, k2]; omega, fun j h1 h2 => kl j (by omega) (by omega)⟩, fun R => ?_⟩
    · rw [gQ_Fr f2 (by omega)]; exact gq2
    · rw [getD_set (by omega)] at hx
      by_cases e : v = k
      · rw [if_pos e] at hx
        cases hx
        subst e
        exact ⟨rn, tn⟩
      · rw [if_neg e] at hx
        obtain ⟨r1, r2⟩ := q1.2.2.2.2 k x hk hx
        exact ⟨RWS_Kp r1 (fun j h1 h2 => kl j (by omega) h2) (by unfold tbAt at r2; omega), r2⟩
    · have cN : gC h1' hp.length = some 4 := rC0 k3
      have g0 : gF (pQ h1' 1 0 (ts.set v (some hp.length))) 0 10 0 = some (mR 1) := by unfold gF; rw [q0'']; rfl
      have g1 : gF (pQ h1' 1 0 (ts.set v (some hp.length))) 0 10 1 = some (mR ra) := by unfold gF; rw [q0'']; rfl
      have hset : (ts.set v (some hp.length)).getD v none = some hp.length := by rw [getD_set (by omega), if_pos rfl]
      have il2 : inB (v : Int) (ts.set v (some hp.length)).length := by rw [List.length_set]; exact iv7
      have k4' : ∀ R : PO, callD (d + 9) 29 [mR hp.length, mI (v : Int)] (hp ++ [.inl (4, (fKs.getD 4 []).map born1)]) R ↔ R none h1' := k4
      rw [callD_k]; simp only [entL_i, entL_l, entL_q, entL_s, entL_nil, n_X10_resize, u_X10_resize, m_X10_resize, rep_0, List.cons_append, List.nil_append, List.append_nil, List.length_cons, List.length_nil, Nat.reduceAdd, true_and]
      simp only [AW_k, AWk_1, x_aload_0, x_aloads_0, x_getf, x_iload_1, x_aald, x_nonnull_r, x_nonnull_n, x_nonnull, x_new, x_dup_i, x_dup_r, x_dup_q, x_calliB_2, x_aast, x_putf_r, x_ret, x_ret_i, x_ret_z, x_ret_l, x_ret_c, k_X10_resize_0, k_X10_resize_1, k_X10_resize_2, k_X10_resize_3, k_X10_resize_4, k_X10_resize_5, k_X10_resize_6, k_X10_resize_7, k_X10_resize_8, k_X10_resize_9, k_X10_resize_10, k_X10_resize_11, k_X10_resize_12, k_X10_resize_13, k_X10_resize_14, k_X10_resize_15, k_X10_resize_16, k_X10_resize_17, k_X10_resize_18, k_X10_resize_19, oE_some, Int.reduceToNat, Nat.reduceAdd, true_and, and_true, List.length_cons, List.length_nil, Option.toList_some, Option.toList_none, List.cons_append, List.nil_append, Nat.reduceLeDiff, Nat.le_refl, wdS_nil, wdS_i, wdS_l, wdS_r, wdS_n, wdS_s, o0, a0, iv7, w32_tn bv, et, Nat.reduceLT, Nat.reduceSub, show (fKs.getD 4 []).length = 10 from rfl, k4', gq1, cN, g0, g1, gq2, il2, hset, ↓reduceIte]
