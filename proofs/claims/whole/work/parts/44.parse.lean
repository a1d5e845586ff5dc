/-! ===== the tape is read: the class's reader ===== -/
abbrev PSt : Type := Int × Nat
/-- goes on, if the word can stand -/
def psP (W B : Nat → Nat) (c : Bool) (s : PSt) : PSt := if s.1 < 0 ∧ c = false then ((B s.2 : Int), s.2) else if s.1 < 0 ∧ W s.2 ≠ 0 then (s.1, s.2 + 1) else s
def hld (l : Int) (g : Nat) (r : Int) : Bool := if g = 60 then decide (w32 l < w32 r) else if g = 61 then decide (w32 l = w32 r) else decide (w32 r < w32 l)
def isVl (x : Nat) : Bool := decide (1 ≤ x) && decide (x ≤ 6)
def isSg (x : Nat) : Bool := decide (x = 60) || decide (x = 61) || decide (x = 62)
def fct (n : Nat) (W : Nat → Nat) (V : Nat → Int) (x k : Nat) : Int := if W k = 2 then (lo n x : Int) else if W k = 3 then (hi n x : Int) else if W k = 4 then (lc n x : Int) else if W k = 5 then (rc n x : Int) else if W k = 6 then (n : Int) else V k
def cmpP (n : Nat) (W B : Nat → Nat) (V : Nat → Int) (s : PSt) : BitVec 64 × PSt :=
  (stB (fun x => hld (fct n W V x s.2) (W (psP W B (isVl (W s.2)) s).2) (fct n W V x (psP W B (isSg (W (psP W B (isVl (W s.2)) s).2)) (psP W B (isVl (W s.2)) s)).2)) (NA n),
   psP W B (isVl (W (psP W B (isSg (W (psP W B (isVl (W s.2)) s).2)) (psP W B (isVl (W s.2)) s)).2)) (psP W B (isSg (W (psP W B (isVl (W s.2)) s).2)) (psP W B (isVl (W s.2)) s)))
def notP (W B : Nat → Nat) : Nat → Bool → PSt → Bool × PSt
  | 0, z, s => (z, s)
  | f + 1, z, s => if s.1 < 0 ∧ W s.2 = 9 then notP W B f (!z) (psP W B true s) else (z, s)
def oneP (n : Nat) (W B : Nat → Nat) (V : Nat → Int) (low : PSt → BitVec 64 × PSt) (o : Nat) (s : PSt) : BitVec 64 × PSt :=
  let zs := notP W B 200 false s
  let hs := if W zs.2.2 = 40 ∧ o < 3 then ((low (psP W B true zs.2)).1, psP W B (decide (W (low (psP W B true zs.2)).2.2 = 41)) (low (psP W B true zs.2)).2) else cmpP n W B V zs.2
  (if zs.1 = true then aL n &&& ~~~ hs.1 else hs.1, hs.2)
def lopP (W B : Nat → Nat) (c : Nat) (g : BitVec 64 → BitVec 64 → BitVec 64) (sub : PSt → BitVec 64 × PSt) : Nat → BitVec 64 → PSt → BitVec 64 × PSt
  | 0, x, s => (x, s)
  | f + 1, x, s => if s.1 < 0 ∧ W s.2 = c then lopP W B c g sub f (g x (sub (psP W B true s)).1) (sub (psP W B true s)).2 else (x, s)
def allP (n : Nat) (W B : Nat → Nat) (V : Nat → Int) (low : PSt → BitVec 64 × PSt) (o : Nat) (s : PSt) : BitVec 64 × PSt :=
  lopP W B 7 (fun x y => x &&& y) (oneP n W B V low o) 200 (oneP n W B V low o s).1 (oneP n W B V low o s).2
def anyP (n : Nat) (W B : Nat → Nat) (V : Nat → Int) (low : PSt → BitVec 64 × PSt) (o : Nat) (s : PSt) : BitVec 64 × PSt :=
  lopP W B 8 (fun x y => x ||| y) (allP n W B V low o) 200 (allP n W B V low o s).1 (allP n W B V low o s).2
/-- k: how many more "(" may be open -/
def anyL (n : Nat) (W B : Nat → Nat) (V : Nat → Int) : Nat → PSt → BitVec 64 × PSt
  | 0 => anyP n W B V (fun s => (0#64, s)) 3
  | k + 1 => anyP n W B V (anyL n W B V k) (3 - (k + 1))
/-- the tables of the words: L words, and the end -/
def wtb (W B : Nat → Nat) (V : Nat → Int) (L : Nat) (ws bg wo : List Int) : Prop := (ws.length = 201 ∧ bg.length = 201 ∧ wo.length = 201) ∧ L ≤ 200 ∧ (∀ k, k ≤ L → ws.getD k 0 = (W k : Int) ∧ bg.getD k 0 = (B k : Int) ∧ wo.getD k 0 = V k) ∧ (∀ k, k ≤ L → W k < 1000 ∧ B k ≤ 200) ∧ W L = 0
def sOK (L : Nat) (s : PSt) : Prop := s.2 ≤ L ∧ -1 ≤ s.1 ∧ s.1 ≤ 200
def PX (a ra n L : Nat) (W B : Nat → Nat) (V : Nat → Int) (tb ws bg wo : List Int) (h : HP) (s : PSt) : Prop := RWS h ra n ∧ TPS h a 0 s.1 tb ws bg wo (s.2 : Int) (mR (ra + 1)) ∧ wtb W B V L ws bg wo ∧ sOK L s ∧ (a + 5 ≤ ra ∨ ra + 16 ≤ a)
theorem psP_ok {L : Nat} {W B : Nat → Nat} {V : Nat → Int} {ws bg wo : List Int} {c : Bool} {s : PSt} (hw : wtb W B V L ws bg wo) (h : sOK L s) : sOK L (psP W B c s) := by
  obtain ⟨h1, h2, h3⟩ := h
  obtain ⟨-, l2, l3, l4, l5⟩ := hw
  unfold psP
  split
  · have := (l4 s.2 h1).2
    exact ⟨h1, by show -1 ≤ (B s.2 : Int); omega, by show (B s.2 : Int) ≤ 200; omega⟩
  · split
    · next q =>
      refine ⟨?_, h2, h3⟩
      show s.2 + 1 ≤ L
      have : s.2 ≠ L := fun e => q.2 (by rw [e]; exact l5)
      omega
    · exact ⟨h1, h2, h3⟩
theorem gtW {l : List Int} {k : Nat} {x : Int} (hk : k < 2147483648) (h : l.getD k 0 = x) : l.getD (w32 (k : Int)).toNat 0 = x := by rw [w32_tn hk]; exact h
theorem w201 {l : List Int} {k : Nat} (hl : l.length = 201) (hk : k ≤ 200) : inB (k : Int) l.length := inB_n (by rw [hl]; omega) (by rw [hl]; decide)
set_option maxHeartbeats 16000000 in
theorem c8_pass (d : Nat) {a ra n L : Nat} {W B : Nat → Nat} {V : Nat → Int} {tb ws bg wo : List Int} {h : HP} {s : PSt} {c : Bool} (hX : PX a ra n L W B V tb ws bg wo h s) : ∃ h', PX a ra n L W B V tb ws bg wo h' (psP W B c s) ∧ Fr a (a + 5) h h' ∧ ∀ R : PO, callD (d + 1) 84 [mR a, mI (zI c)] h R ↔ R none h' := by
  obtain ⟨x1, x2, x3, x4, x5⟩ := hX
  have hok := psP_ok (c := c) x3 x4
  obtain ⟨⟨l1, l2, l3⟩, L2, hw, hb, h0⟩ := x3
  have x3 : wtb W B V L ws bg wo := ⟨⟨l1, l2, l3⟩, L2, hw, hb, h0⟩
  have hs := x4.1
  have f1 := x4.2.1
  have f2 := x4.2.2
  have q := hw s.2 hs
  have hWb := (hb s.2 hs).1
  have hBb := (hb s.2 hs).2
  have s200 : s.2 ≤ 200 := by omega
  have bs2 : s.2 < 2147483648 := by omega
  have bW : W s.2 < 2147483648 := by omega
  have r1 : -2147483648 ≤ s.1 := by omega
  have r2 : s.1 < 2147483648 := by omega
  have es : (s.2 : Int) + 1 = ((s.2 + 1 : Nat) : Int) := by omega
  have iw := w201 l1 s200
  have ib := w201 l2 s200
  unfold psP at hok ⊢
  by_cases c1 : s.1 < 0 ∧ c = false
  · rw [if_pos c1] at hok ⊢
    have t1 := TPS_f1 (x := (B s.2 : Int)) x2
    have fr : Fr a (a + 5) h (pF h a 8 1 (mI (B s.2 : Int))) := Fr_pF (by omega) (by omega)
    refine ⟨_, ⟨RWS_Fr x1 fr (by omega), t1, x3, hok, x5⟩, fr, fun R => ?_⟩
    have bB : B s.2 < 2147483648 := by omega
    have nB : ¬ (B s.2 : Int) < 0 := by omega
    rw [callD_k]; simp only [entL_i, entL_l, entL_q, entL_s, entL_nil, n_X8_pass, u_X8_pass, m_X8_pass, rep_0, List.cons_append, List.nil_append, List.append_nil, List.length_cons, List.length_nil, Nat.reduceAdd, true_and]
    simp only [AW_k, AWk_1, x_aload_0, x_aloads_0, x_getf, x_if_ge, x_iload_1, x_if_ne, x_iald, x_ialds, x_putf_i, x_if_eq, x_dup_i, x_dup_r, x_dup_q, x_push_i, x_push_l, x_iadd, x_ret, x_ret_i, x_ret_z, x_ret_l, x_ret_c, k_X8_pass_0, k_X8_pass_1, k_X8_pass_2, k_X8_pass_3, k_X8_pass_4, k_X8_pass_5, k_X8_pass_6, k_X8_pass_7, k_X8_pass_8, k_X8_pass_9, k_X8_pass_10, k_X8_pass_11, k_X8_pass_12, k_X8_pass_13, k_X8_pass_14, k_X8_pass_15, k_X8_pass_16, k_X8_pass_17, k_X8_pass_18, k_X8_pass_19, k_X8_pass_20, k_X8_pass_21, k_X8_pass_22, k_X8_pass_23, k_X8_pass_24, k_X8_pass_25, k_X8_pass_26, k_X8_pass_27, oE_some, Int.reduceToNat, Nat.reduceAdd, true_and, and_true, List.length_cons, List.length_nil, Option.toList_some, Option.toList_none, List.cons_append, List.nil_append, Nat.reduceLeDiff, Nat.le_refl, wdS_nil, wdS_i, wdS_l, wdS_r, wdS_n, wdS_s, x2.1.2.1, x2.1.2.2.2.2.1, x2.1.2.2.2.2.2.2.1, x2.2.2.2.1, ib, gtW bs2 q.2.1, t1.1.2.1, w32_zI_0, c1.2, if_true]
    rw [w32_id r1 r2, if_pos c1.1, w32_nat bB, if_neg nB]
  · rw [if_neg c1] at hok ⊢
    by_cases c2 : s.1 < 0 ∧ W s.2 ≠ 0
    · rw [if_pos c2] at hok ⊢
      have hc : c = true := by
        cases c
        · exact absurd ⟨c2.1, rfl⟩ c1
        · rfl
      have t6 := TPS_f6 (x := ((s.2 + 1 : Nat) : Int)) x2
      have fr : Fr a (a + 5) h (pF h a 8 6 (mI ((s.2 + 1 : Nat) : Int))) := Fr_pF (by omega) (by omega)
      refine ⟨_, ⟨RWS_Fr x1 fr (by omega), t6, x3, hok, x5⟩, fr, fun R => ?_⟩
      have nW : ¬ (W s.2 : Int) = 0 := by have := c2.2; omega
      rw [callD_k]; simp only [entL_i, entL_l, entL_q, entL_s, entL_nil, n_X8_pass, u_X8_pass, m_X8_pass, rep_0, List.cons_append, List.nil_append, List.append_nil, List.length_cons, List.length_nil, Nat.reduceAdd, true_and]
      simp only [AW_k, AWk_1, x_aload_0, x_aloads_0, x_getf, x_if_ge, x_iload_1, x_if_ne, x_iald, x_ialds, x_putf_i, x_if_eq, x_dup_i, x_dup_r, x_dup_q, x_push_i, x_push_l, x_iadd, x_ret, x_ret_i, x_ret_z, x_ret_l, x_ret_c, k_X8_pass_0, k_X8_pass_1, k_X8_pass_2, k_X8_pass_3, k_X8_pass_4, k_X8_pass_5, k_X8_pass_6, k_X8_pass_7, k_X8_pass_8, k_X8_pass_9, k_X8_pass_10, k_X8_pass_11, k_X8_pass_12, k_X8_pass_13, k_X8_pass_14, k_X8_pass_15, k_X8_pass_16, k_X8_pass_17, k_X8_pass_18, k_X8_pass_19, k_X8_pass_20, k_X8_pass_21, k_X8_pass_22, k_X8_pass_23, k_X8_pass_24, k_X8_pass_25, k_X8_pass_26, k_X8_pass_27, oE_some, Int.reduceToNat, Nat.reduceAdd, true_and, and_true, List.length_cons, List.length_nil, Option.toList_some, Option.toList_none, List.cons_append, List.nil_append, Nat.reduceLeDiff, Nat.le_refl, wdS_nil, wdS_i, wdS_l, wdS_r, wdS_n, wdS_s, x2.1.2.1, x2.1.2.2.2.1, x2.1.2.2.2.2.2.2.1, x2.2.2.1, iw, gtW bs2 q.1, w32_zI_0, hc, Bool.true_eq_false, if_false, es]
      rw [w32_id r1 r2, if_pos c2.1, if_pos c2.1, w32_nat bW, if_neg nW]
    · rw [if_neg c2] at hok ⊢
      refine ⟨h, ⟨x1, x2, x3, hok, x5⟩, Fr_refl h, fun R => ?_⟩
      by_cases c3 : s.1 < 0
      · have hc : c = true := by
          cases c
          · exact absurd ⟨c3, rfl⟩ c1
          · rfl
        have nW : (W s.2 : Int) = 0 := by
          have : ¬ W s.2 ≠ 0 := fun q => c2 ⟨c3, q⟩
          omega
        rw [callD_k]; simp only [entL_i, entL_l, entL_q, entL_s, entL_nil, n_X8_pass, u_X8_pass, m_X8_pass, rep_0, List.cons_append, List.nil_append, List.append_nil, List.length_cons, List.length_nil, Nat.reduceAdd, true_and]
        simp only [AW_k, AWk_1, x_aload_0, x_aloads_0, x_getf, x_if_ge, x_iload_1, x_if_ne, x_iald, x_ialds, x_putf_i, x_if_eq, x_dup_i, x_dup_r, x_dup_q, x_push_i, x_push_l, x_iadd, x_ret, x_ret_i, x_ret_z, x_ret_l, x_ret_c, k_X8_pass_0, k_X8_pass_1, k_X8_pass_2, k_X8_pass_3, k_X8_pass_4, k_X8_pass_5, k_X8_pass_6, k_X8_pass_7, k_X8_pass_8, k_X8_pass_9, k_X8_pass_10, k_X8_pass_11, k_X8_pass_12, k_X8_pass_13, k_X8_pass_14, k_X8_pass_15, k_X8_pass_16, k_X8_pass_17, k_X8_pass_18, k_X8_pass_19, k_X8_pass_20, k_X8_pass_21, k_X8_pass_22, k_X8_pass_23, k_X8_pass_24, k_X8_pass_25, k_X8_pass_26, k_X8_pass_27, oE_some, Int.reduceToNat, Nat.reduceAdd, true_and, and_true, List.length_cons, List.length_nil, Option.toList_some, Option.toList_none, List.cons_append, List.nil_append, Nat.reduceLeDiff, Nat.le_refl, wdS_nil, wdS_i, wdS_l, wdS_r, wdS_n, wdS_s, x2.1.2.1, x2.1.2.2.2.1, x2.1.2.2.2.2.2.2.1, x2.2.2.1, iw, gtW bs2 q.1, w32_zI_0, hc, Bool.true_eq_false, if_false, es]
        rw [w32_id r1 r2, if_pos c3, if_pos c3, w32_nat bW, if_pos nW]
      · rw [callD_k]; simp only [entL_i, entL_l, entL_q, entL_s, entL_nil, n_X8_pass, u_X8_pass, m_X8_pass, rep_0, List.cons_append, List.nil_append, List.append_nil, List.length_cons, List.length_nil, Nat.reduceAdd, true_and]
        simp only [AW_k, AWk_1, x_aload_0, x_aloads_0, x_getf, x_if_ge, x_iload_1, x_if_ne, x_iald, x_ialds, x_putf_i, x_if_eq, x_dup_i, x_dup_r, x_dup_q, x_push_i, x_push_l, x_iadd, x_ret, x_ret_i, x_ret_z, x_ret_l, x_ret_c, k_X8_pass_0, k_X8_pass_1, k_X8_pass_2, k_X8_pass_3, k_X8_pass_4, k_X8_pass_5, k_X8_pass_6, k_X8_pass_7, k_X8_pass_8, k_X8_pass_9, k_X8_pass_10, k_X8_pass_11, k_X8_pass_12, k_X8_pass_13, k_X8_pass_14, k_X8_pass_15, k_X8_pass_16, k_X8_pass_17, k_X8_pass_18, k_X8_pass_19, k_X8_pass_20, k_X8_pass_21, k_X8_pass_22, k_X8_pass_23, k_X8_pass_24, k_X8_pass_25, k_X8_pass_26, k_X8_pass_27, oE_some, Int.reduceToNat, Nat.reduceAdd, true_and, and_true, List.length_cons, List.length_nil, Option.toList_some, Option.toList_none, List.cons_append, List.nil_append, Nat.reduceLeDiff, Nat.le_refl, wdS_nil, wdS_i, wdS_l, wdS_r, wdS_n, wdS_s, x2.1.2.1, w32_zI_0]
        rw [w32_id r1 r2, if_neg c3, if_neg c3]
