/-! ===== what stays true of the state: what is gone is closed ===== -/
theorem clo_rs {n a : Nat} {G : BitVec 64} (h1 : 1 ≤ n) (h6 : n ≤ 6) (ha : a < NA n) (h : clo n G) : clo n (G &&& (FG n a ^^^ 18446744073709551615#64)) := by
  have fN := NA_le n
  have hb : ∀ j, (G &&& (FG n a ^^^ 18446744073709551615#64)).getLsbD j = true ↔ G.getLsbD j = true ∧ fr n j a = false := by
    intro j
    rw [BitVec.getLsbD_and, Bool.and_eq_true, BitVec.getLsbD_xor]
    constructor
    · intro ⟨p, q⟩
      have hj := h.1 j p
      rw [FG_get h1 h6 ha hj, show (18446744073709551615#64).getLsbD j = decide (j < 64) from BitVec.getLsbD_allOnes (v := 64), decide_eq_true (by omega), Bool.xor_true] at q
      exact ⟨p, by cases e : fr n j a with | true => rw [e] at q; cases q | false => rfl⟩
    · intro ⟨p, q⟩
      have hj := h.1 j p
      refine ⟨p, ?_⟩
      rw [FG_get h1 h6 ha hj, show (18446744073709551615#64).getLsbD j = decide (j < 64) from BitVec.getLsbD_allOnes (v := 64), decide_eq_true (by omega), q]
      rfl
  refine ⟨fun j hj => h.1 j ((hb j).mp hj).1, fun i j hi hij => ?_⟩
  obtain ⟨p, q⟩ := (hb i).mp hi
  refine (hb j).mpr ⟨h.2 i j p hij, ?_⟩
  cases e : fr n j a with
  | false => rfl
  | true => rw [fr_trans h1 h6 (h.1 i p) hij e] at q; cases q
theorem clo_ctG {n : Nat} {G : BitVec 64} {x : Int} (h1 : 1 ≤ n) (h6 : n ≤ 6) (h : clo n G) : clo n (ctG n G x) := by
  unfold ctG
  cases e : axo n x with
  | none => exact h
  | some a => exact clo_or h (clo_FO h1 h6 (axo_lt e).1)
theorem clo_rsG {n : Nat} {G : BitVec 64} {x : Int} (h1 : 1 ≤ n) (h6 : n ≤ 6) (h : clo n G) : clo n (rsG n G x) := by
  unfold rsG
  cases e : axo n x with
  | none => exact h
  | some a => exact clo_rs h1 h6 (axo_lt e).1 h
theorem clo_coG {n : Nat} {G t : BitVec 64} {w : Int} (h1 : 1 ≤ n) (h6 : n ≤ 6) (h : clo n G) (ht : okS n t) : clo n (coG n G t w) := by
  unfold coG
  have c := cl_clo h1 h6 ht
  split
  · exact c
  · split
    · exact clo_or h c
    · exact clo_and h c
theorem clo_clG {n : Nat} {G : BitVec 64} {x y : Int} (h1 : 1 ≤ n) (h6 : n ≤ 6) (h : clo n G) : clo n (clG n G x y) := by
  unfold clG
  cases ex : ixo n x with
  | none => exact h
  | some i =>
    cases ey : ixo n y with
    | none => exact h
    | some j =>
      have hi := ixo_lt ex
      have hj := ixo_lt ey
      exact clo_or h (cl_clo h1 h6 (abt_ok h1 h6 (mt_ok hi) 15 _ (jn_ok hi) (mt_jn h1 h6 hi hj)))
theorem clo_mmG {n c : Nat} {G : BitVec 64} {ks es : List Int} {x w : Int} (h1 : 1 ≤ n) (h6 : n ≤ 6) (h : clo n G) : clo n (mmG n G c ks es x w) := by
  unfold mmG
  split
  · split
    · exact clo_coG h1 h6 h (okS_stB (NA n) (Nat.le_refl _))
    · exact h
  · exact h
theorem clo_txG {n tc : Nat} {G : BitVec 64} {tb : List Int} {V : Nat → Int} {w : Int} (h1 : 1 ≤ n) (h6 : n ≤ 6) (h : clo n G) : clo n (txG n G tc tb V w) := by
  unfold txG
  split
  · split
    · exact clo_coG h1 h6 h (bP_okS (bP_anyL 3))
    · exact h
  · exact h
theorem w0_b : w32 (0#64 : BitVec 64).toInt = (0#64 : BitVec 64).toInt := by decide
/-- items of int sheets stay ints -/
theorem itOK_sheet {so : List Int} {it : Nat → List (BitVec 64)} {x o m : Int} (hl : so.length = 4) (h : itOK so it) : itOK (shSo so x o m) (shIt it x o m) := by
  unfold shSo shIt
  cases e : shNw x o m with
  | none => exact h
  | some p =>
    intro s hs hq j
    dsimp only at hq ⊢
    unfold updF
    by_cases c : s = p.1
    · rw [if_pos c, List.getD_eq_getElem?_getD, List.getElem?_replicate]
      split
      · exact w0_b
      · exact w0_b
    · rw [if_neg c]
      refine h s hs ?_ j
      rw [List.getD_eq_getElem?_getD, List.getElem?_set_ne (fun q => c q.symm), ← List.getD_eq_getElem?_getD] at hq
      exact hq
theorem itOK_put {so le : List Int} {it : Nat → List (BitVec 64)} {x i : Int} {v : BitVec 64} (hl : ∀ k, k < 4 → (it k).length = 40) (h : itOK so it) : itOK so (ptI so le it x i v) := by
  unfold ptI
  cases e : ptO so le x i with
  | none => exact h
  | some t =>
    intro s hs hq j
    dsimp only
    unfold updF
    by_cases c : s = t
    · rw [if_pos c, ← c]
      by_cases ci : i.toNat < (it s).length
      · rw [getD_set ci]
        split
        · rw [hq]
          show w32 (BitVec.ofInt 64 (w32 v.toInt)).toInt = (BitVec.ofInt 64 (w32 v.toInt)).toInt
          rw [tI_w32, w32_w32]
        · exact h s hs hq j
      · rw [List.set_eq_of_length_le (by omega)]
        exact h s hs hq j
    · rw [if_neg c]
      exact h s hs hq j
theorem itOK_move {so le : List Int} {it : Nat → List (BitVec 64)} {x i y j m : Int} (hO : shOK so le it) (h : itOK so it) : itOK so (mvI so le it x i y j m) := by
  unfold mvI
  cases e : mvO so le x i y j m with
  | none => exact h
  | some p =>
    have q : p.1 < 4 ∧ p.2 < 4 ∧ so.getD p.1 0 = so.getD p.2 0 := by
      unfold mvO at e
      cases e1 : shO x with
      | none => rw [e1] at e; cases e
      | some s =>
        cases e2 : shO y with
        | none => rw [e1, e2] at e; cases e
        | some t =>
          rw [e1, e2] at e
          dsimp only at e
          split at e
          · cases e
          · split at e
            · next r =>
              split at e
              · cases e
                exact ⟨(shO_lt e1).1, (shO_lt e2).1, r⟩
              · cases e
            · cases e
    intro s hs hq k
    dsimp only
    unfold updF
    by_cases c : s = p.2
    · rw [if_pos c]
      by_cases ck : k < (it p.2).length
      · show w32 ((cpyL 0#64 (it p.1) (it p.2) i.toNat j.toNat m.toNat).getD k 0#64).toInt = ((cpyL 0#64 (it p.1) (it p.2) i.toNat j.toNat m.toNat).getD k 0#64).toInt
        rw [cpyL_get 0#64 (it p.1) (it p.2) i.toNat j.toNat m.toNat k ck]
        split
        · exact h p.1 q.1 (by rw [q.2.2, ← c]; exact hq) _
        · exact h p.2 q.2.1 (by rw [← c]; exact hq) _
      · rw [List.getD_eq_getElem?_getD, List.getElem?_eq_none (by rw [cpyL_len]; omega)]
        exact w0_b
    · rw [if_neg c]
      exact h s hs hq k
