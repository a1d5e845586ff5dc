/-! ===== the reference's ways up (4) ===== -/
set_option maxHeartbeats 16000000 in
theorem m_climbs (d : Nat) {hp : HP} {n : Nat} {G : BitVec 64} {li fa fe qu : List Int} (w : BW hp n G li fa fe qu) (h1 : 1 ≤ n) (h5 : n ≤ 5) (hG : clo n G) : ∃ h' li' fa' fe', BW h' n G li' fa' fe' qu ∧ Fr 68 72 hp h' ∧ JW n G (n * (n - 1) / 2 + 1) 0 0 true fa' ∧ JW n G (n * (n - 1) / 2 + 1) 0 0 false fe' ∧ ∀ R : PO, callD (d + 7) 242 [mR 54] hp R ↔ R none h' := by
  have f := FC_120 h1 h5
  obtain ⟨h1', wa, fa1, ba⟩ := m_begins (d + 5) w
  have r0 : ((List.replicate 120 (-1 : Int)).set 0 0).length = 120 := by rw [List.length_set, List.length_replicate]
  have w1 := BW_69 (l := (List.replicate 120 (-1 : Int)).set 0 0) wa r0
  have w2 := BW_70 (l := (List.replicate 120 (-1 : Int)).set 0 0) w1 r0
  obtain ⟨h', li', fa', fe', r1, r2, r3, r4, r5⟩ := m_cbS d h1 h5 hG (n * (n - 1) / 2 + 1) 0 li _ _ _ none none none none none (Nat.zero_add _) w2 (JW_0 f) (JW_0 f)
  refine ⟨h', li', fa', fe', r1, Fr_trans fa1 (Fr_trans (Fr_trans (Fr_pA (by omega) (by omega)) (Fr_pA (by omega) (by omega))) r2), r3, r4, fun R => Iff.trans ?_ (r5 R)⟩
  have cK := cM w.1.1
  obtain ⟨hA, ⟨b1, b2, b3, b4⟩, ⟨x1, x2, x3⟩, ⟨d1, d2, d3⟩, q1, q2, q3⟩ := wa
  have i0 : inB (0 : Int) (List.replicate 120 (-1 : Int)).length := by rw [List.length_replicate]; exact inB_n (show 0 < 120 by decide) (by decide)
  have g31 : ∀ l, gF (pA h1' 69 l) 54 11 31 = some (mR 70) := fun l => by rw [gF_pA, x2]
  have a70 : ∀ l, gA (pA h1' 69 l) 70 = some (List.replicate 120 (-1 : Int)) := fun l => by rw [gA_pA (by decide), d2]
  rw [callD_k]; simp only [entL_i, entL_l, entL_q, entL_s, entL_nil, n_X11_climbs, u_X11_climbs, m_X11_climbs, rep_6, List.cons_append, List.nil_append, List.append_nil, List.length_cons, List.length_nil, Nat.reduceAdd, true_and]
  simp only [AW_k, AWk_1, x_aload_0, x_aloads_0, x_callv_1, x_getf, x_push_i, x_push_l, x_iast, x_istore_1, x_iload_1, unl_i, unl_l, unl_q, unl_r, unl_s, unl_n, k_X11_climbs_0, k_X11_climbs_1, k_X11_climbs_2, k_X11_climbs_3, k_X11_climbs_4, k_X11_climbs_5, k_X11_climbs_6, k_X11_climbs_7, k_X11_climbs_8, k_X11_climbs_9, k_X11_climbs_10, k_X11_climbs_11, k_X11_climbs_12, k_X11_climbs_13, k_X11_climbs_14, oE_some, Int.reduceToNat, Nat.reduceAdd, true_and, and_true, List.length_cons, List.length_nil, Option.toList_some, Option.toList_none, List.cons_append, List.nil_append, Nat.reduceLeDiff, Nat.le_refl, wdS_nil, wdS_i, wdS_l, wdS_r, wdS_n, wdS_s, cK, ba, x1, d1, i0, show (w32 0).toNat = 0 from rfl, g31, a70]
  all_goals exact Iff.rfl
