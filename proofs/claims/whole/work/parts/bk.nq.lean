/-! ===== the reference's sheet ===== -/
theorem qm1_I : (18446744073709551615#64).toInt = -1 := by decide
theorem zz_set {ce : List (BitVec 64)} {s k : Nat} (lce : ce.length = 160) (hs : s < 4) (hk : k < 40) (h0 : ∀ j, j < k → ce.getD (40 * s + j) 0 = 0#64) : ∀ j, j < k + 1 → (ce.set (40 * s + k) 0#64).getD (40 * s + j) 0 = 0#64 := by
  intro j hj
  rw [getD_set (by omega)]
  by_cases e : k = j
  · rw [if_pos (by omega)]
  · rw [if_neg (by omega)]; exact h0 j (by omega)
set_option maxHeartbeats 16000000 in
theorem m_shLoop (d : Nat) {s : Nat} (hs : s < 4) (y2 y3 : Int) : ∀ (m k : Nat) (ce : List (BitVec 64)) (h : HP), k + m = 40 → gF h 54 11 39 = some (mR 77) → gJ h 77 = some ce → ce.length = 160 → (∀ j, j < k → ce.getD (40 * s + j) 0 = 0#64) → ∃ ce', ce'.length = 160 ∧ (∀ j, j < 40 → ce'.getD (40 * s + j) 0 = 0#64) ∧ (∀ q, (q < 40 * s ∨ 40 * s + 40 ≤ q) → ce'.getD q 0 = ce.getD q 0) ∧ ∀ R : PO, AWh (d + 99) [] 262 R 38 [some (mR 54), some (mI (s : Int)), some (mI y2), some (mI y3), some (mI (k : Int))] [] h (0, 0) ↔ R (some (mI 1)) (pJ h 77 ce') := by
  have bs : s < 2147483648 := by omega
  intro m
  induction m with
  | zero =>
    intro k ce h hk g39 j77 lce h0
    have ek : k = 40 := by omega
    subst ek
    refine ⟨ce, lce, h0, fun _ _ => rfl, fun R => ?_⟩
    have e : pJ h 77 ce = h := by
      rw [pJ_is j77]
      have := j77
      unfold gJ at this
      split at this
      · next l2 e => cases this; exact set_self e
      · cases this
    rw [e]
    rw [AWh_k, k_X11_sheet_38]
    simp only [AW_k, AWk_1, x_iload_4, x_push_i, x_push_l, x_icmp_ge, x_ret, x_ret_i, x_ret_z, x_ret_l, x_ret_c, k_X11_sheet_38, k_X11_sheet_39, k_X11_sheet_40, k_X11_sheet_52, k_X11_sheet_53, oE_some, Int.reduceToNat, Nat.reduceAdd, true_and, and_true, List.length_cons, List.length_nil, Option.toList_some, Option.toList_none, List.cons_append, List.nil_append, Nat.reduceLeDiff, Nat.le_refl, show w32 ((40 : Nat) : Int) = 40 from rfl, show w32 40 = 40 from rfl, Int.lt_irrefl, ↓reduceIte]
  | succ m ih =>
    intro k ce h hk g39 j77 lce h0
    have hk40 : k < 40 := by omega
    have bk : k < 2147483648 := by omega
    have ek : (k : Int) + 1 = ((k + 1 : Nat) : Int) := by omega
    have c0 : ((k : Int) < 40) = True := eq_true (by omega)
    have ec : 40 * (s : Int) + (k : Int) = ((40 * s + k : Nat) : Int) := by omega
    have bc : 40 * s + k < 2147483648 := by omega
    have ic : inB ((40 * s + k : Nat) : Int) ce.length := by rw [lce]; exact inB_n (by omega) (by decide)
    obtain ⟨ce', a1, a2, a3, a4⟩ := ih (k + 1) (ce.set (40 * s + k) 0#64) (pJ h 77 (ce.set (40 * s + k) 0#64)) (by omega) (by rw [gF_pJ, g39]) (gJ_pJ_same j77) (by rw [List.length_set]; exact lce) (zz_set lce hs hk40 h0)
    refine ⟨ce', a1, a2, fun q hq => ?_, fun R => ?_⟩
    · rw [a3 q hq, getD_set (by omega), if_neg (by omega)]
    · have a4 := a4 R
      rw [pJ_pJ] at a4
      refine Iff.trans ?_ a4
      rw [AWh_k, k_X11_sheet_38]
      simp only [AW_k, AWk_1, x_iload_4, x_push_i, x_push_l, x_icmp_ge, x_aload_0, x_aloads_0, x_getf, x_iload_1, x_imul, x_iadd, x_last, x_iinc_4, x_goto, unl_i, unl_l, unl_q, unl_r, unl_s, unl_n, k_X11_sheet_38, k_X11_sheet_39, k_X11_sheet_40, k_X11_sheet_41, k_X11_sheet_42, k_X11_sheet_43, k_X11_sheet_44, k_X11_sheet_45, k_X11_sheet_46, k_X11_sheet_47, k_X11_sheet_48, k_X11_sheet_49, k_X11_sheet_50, k_X11_sheet_51, oE_some, Int.reduceToNat, Nat.reduceAdd, true_and, and_true, List.length_cons, List.length_nil, Option.toList_some, Option.toList_none, List.cons_append, List.nil_append, Nat.reduceLeDiff, Nat.le_refl, w32_nat bk, show w32 40 = 40 from rfl, c0, g39, j77, ec, ic, w32_nat bc, Int.toNat_natCast, ek, ↓reduceIte]
