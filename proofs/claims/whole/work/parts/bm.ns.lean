/-! ===== the reference's shelves ===== -/
theorem m_isShelf_n (d : Nat) {hp : HP} {x : Int} (hx : w32 x = x) (e : shO x = none) (R : PO) : callD (d + 2) 268 [mI x] hp R ↔ R (some (mI 0)) hp := by
  have c1 : inI x 0 3 = false := by
    apply decide_eq_false
    intro q
    unfold shO at e
    rw [if_pos ⟨q.1, by clear hx; omega⟩] at e
    cases e
  rw [callD_k]; simp only [entL_i, entL_l, entL_q, entL_s, entL_nil, n_X11_isShelf, u_X11_isShelf, m_X11_isShelf, rep_0, List.cons_append, List.nil_append, List.append_nil, List.length_cons, List.length_nil, Nat.reduceAdd, true_and]
  simp only [AW_k, AWk_1, x_iload_0, x_i2l, x_push_i, x_push_l, x_call_3, x_ret, x_ret_i, x_ret_z, x_ret_l, x_ret_c, k_X11_isShelf_0, k_X11_isShelf_1, k_X11_isShelf_2, k_X11_isShelf_3, k_X11_isShelf_4, k_X11_isShelf_5, oE_some, Int.reduceToNat, Nat.reduceAdd, true_and, and_true, List.length_cons, List.length_nil, Option.toList_some, Option.toList_none, List.cons_append, List.nil_append, Nat.reduceLeDiff, Nat.le_refl, wdS_nil, wdS_i, wdS_l, wdS_r, wdS_n, wdS_s, m_in d, tI_id hx, q0_I, q3_I, c1, zI_f, true_or, true_and]
theorem m_isShelf_s (d : Nat) {hp : HP} {x : Int} {s : Nat} (hx : w32 x = x) (e : shO x = some s) (R : PO) : callD (d + 2) 268 [mI x] hp R ↔ R (some (mI 1)) hp := by
  have c1 : inI x 0 3 = true := by
    obtain ⟨a, b⟩ := shO_lt e
    clear hx
    exact decide_eq_true ⟨by omega, by omega⟩
  rw [callD_k]; simp only [entL_i, entL_l, entL_q, entL_s, entL_nil, n_X11_isShelf, u_X11_isShelf, m_X11_isShelf, rep_0, List.cons_append, List.nil_append, List.append_nil, List.length_cons, List.length_nil, Nat.reduceAdd, true_and]
  simp only [AW_k, AWk_1, x_iload_0, x_i2l, x_push_i, x_push_l, x_call_3, x_ret, x_ret_i, x_ret_z, x_ret_l, x_ret_c, k_X11_isShelf_0, k_X11_isShelf_1, k_X11_isShelf_2, k_X11_isShelf_3, k_X11_isShelf_4, k_X11_isShelf_5, oE_some, Int.reduceToNat, Nat.reduceAdd, true_and, and_true, List.length_cons, List.length_nil, Option.toList_some, Option.toList_none, List.cons_append, List.nil_append, Nat.reduceLeDiff, Nat.le_refl, wdS_nil, wdS_i, wdS_l, wdS_r, wdS_n, wdS_s, m_in d, tI_id hx, q0_I, q3_I, c1, zI_t, or_true, true_and]
theorem yv_set {he th sl he' th' sl' v1 v2 v3 : List Int} {s : Nat} {a b e : Int} (hs : s < 4) (n1 : v1.length = 4) (n2 : v2.length = 4) (n3 : v3.length = 4) (H : ∀ k, k < 4 → (he.getD k 0 = 0 → v1.getD k 0 = 2) ∧ (he.getD k 0 = 1 → v1.getD k 0 = 0 ∧ v2.getD k 0 = th.getD k 0) ∧ (he.getD k 0 = 2 → v1.getD k 0 = 1 ∧ v2.getD k 0 = th.getD k 0 ∧ v3.getD k 0 = sl.getD k 0)) (D : ∀ k, k ≠ s → he'.getD k 0 = he.getD k 0 ∧ th'.getD k 0 = th.getD k 0 ∧ sl'.getD k 0 = sl.getD k 0) (N : (he'.getD s 0 = 0 → a = 2) ∧ (he'.getD s 0 = 1 → a = 0 ∧ b = th'.getD s 0) ∧ (he'.getD s 0 = 2 → a = 1 ∧ b = th'.getD s 0 ∧ e = sl'.getD s 0)) : ∀ k, k < 4 → (he'.getD k 0 = 0 → (v1.set s a).getD k 0 = 2) ∧ (he'.getD k 0 = 1 → (v1.set s a).getD k 0 = 0 ∧ (v2.set s b).getD k 0 = th'.getD k 0) ∧ (he'.getD k 0 = 2 → (v1.set s a).getD k 0 = 1 ∧ (v2.set s b).getD k 0 = th'.getD k 0 ∧ (v3.set s e).getD k 0 = sl'.getD k 0) := by
  intro k hk
  rw [getD_set (by omega), getD_set (by omega), getD_set (by omega)]
  by_cases c : s = k
  · subst c
    rw [if_pos rfl, if_pos rfl, if_pos rfl]
    exact N
  · obtain ⟨d1, d2, d3⟩ := D k (fun q => c q.symm)
    rw [if_neg c, if_neg c, if_neg c, d1, d2, d3]
    exact H k hk
theorem m_svMI {hp : HP} {n : Nat} {G : BitVec 64} {z : Int} {c : Nat} {ks : List Int} {es : List Int} {ik : Bool} {kn : Nat} {kG : BitVec 64} {kz : Int} {kc : Nat} {kks : List Int} {kes : List Int} {tc : Nat} {tb : List Int} {sc : Nat} {tl : List Int} {so : List Int} {le : List Int} {it : Nat → List (BitVec 64)} {he : List Int} {th : List Int} {sl : List Int} {tr : Nat} {bo : List Int} {s : Nat} {a b e : Int} {he' th' sl' v1 v2 v3 : List Int} (hX : MI (hp) n G z c ks es ik kn kG kz kc kks kes tc tb sc tl so le it he th sl tr bo) (hs : s < 4) (a79 : gA hp 79 = some v1) (a80 : gA hp 80 = some v2) (a81 : gA hp 81 = some v3) (n1 : v1.length = 4) (n2 : v2.length = 4) (n3 : v3.length = 4) (hN : ∀ k, k < 4 → (he'.getD k 0 = 0 → (v1.set s a).getD k 0 = 2) ∧ (he'.getD k 0 = 1 → (v1.set s a).getD k 0 = 0 ∧ (v2.set s b).getD k 0 = th'.getD k 0) ∧ (he'.getD k 0 = 2 → (v1.set s a).getD k 0 = 1 ∧ (v2.set s b).getD k 0 = th'.getD k 0 ∧ (v3.set s e).getD k 0 = sl'.getD k 0)) : MI (pA (pA (pA hp 79 (v1.set s a)) 80 (v2.set s b)) 81 (v3.set s e)) n G z c ks es ik kn kG kz kc kks kes tc tb sc tl so le it he' th' sl' tr bo := by
  have f : Fr 79 82 hp (pA (pA (pA hp 79 (v1.set s a)) 80 (v2.set s b)) 81 (v3.set s e)) := Fr_trans (Fr_trans (Fr_pA (by omega) (by omega)) (Fr_pA (by omega) (by omega))) (Fr_pA (by omega) (by omega))
  refine MI_V hX f ⟨v1.set s a, v2.set s b, v3.set s e, ⟨?_, ?_, ?_⟩, ⟨by rw [List.length_set]; exact n1, by rw [List.length_set]; exact n2, by rw [List.length_set]; exact n3⟩, hN⟩
  · rw [gA_pA (by omega), gA_pA (by omega)]; exact gA_pA_same a79
  · rw [gA_pA (by omega)]; exact gA_pA_same (by rw [gA_pA (by omega)]; exact a80)
  · exact gA_pA_same (by rw [gA_pA (by omega), gA_pA (by omega)]; exact a81)
