/-! ===== the reference reads a text: values, comparisons ===== -/
theorem stB_get {f : Nat → Bool} : ∀ N, N ≤ 64 → ∀ x, (stB f N).getLsbD x = (decide (x < N) && f x) := by
  intro N
  induction N with
  | zero => intro _ x; rw [decide_eq_false (Nat.not_lt_zero x), Bool.false_and]; exact BitVec.getLsbD_zero
  | succ N ih =>
    intro hN x
    rw [stB_succ, BitVec.getLsbD_or, ih (by omega)]
    by_cases e : x = N
    · subst e
      rw [decide_eq_false (Nat.lt_irrefl x), decide_eq_true (Nat.lt_succ_self x), Bool.false_and, Bool.false_or, Bool.true_and]
      cases q : f x with
      | true => rw [if_pos rfl]; exact (one_bit (by omega)).mpr rfl
      | false => rw [if_neg (by decide)]; exact BitVec.getLsbD_zero
    · have e1 : (if f N = true then 1#64 <<< N else 0#64).getLsbD x = false := by
        split
        · cases q : (1#64 <<< N).getLsbD x with
          | false => rfl
          | true => exact absurd ((one_bit (by omega)).mp q) e
        · exact BitVec.getLsbD_zero
      rw [e1, Bool.or_false]
      by_cases c : x < N
      · rw [decide_eq_true c, decide_eq_true (by omega)]
      · rw [decide_eq_false c, decide_eq_false (by omega)]
/-- what a code's value is for an arc -/
def fcE (n : Nat) (v : Int) (x : Nat) : Int := if v = -1 then (lo n x : Int) else if v = -2 then (hi n x : Int) else if v = -3 then (lc n x : Int) else if v = -4 then (rc n x : Int) else if v = -5 then (n : Int) else v
def soV (v a b : Int) : Bool := if v = -6 then decide (w32 a < w32 b) else if v = -7 then decide (w32 a = w32 b) else if v = -8 then decide (w32 b < w32 a) else if v = -10 then decide (w32 (a + b) = 2) else decide (0 < w32 (a + b))
def evS (n x : Nat) : List Int → List Int → List Int
  | [], st => st
  | v :: cs, st => evS n x cs (if -6 < w32 v then fcE n v x :: st else if w32 v = -9 then (match st with
    | a :: r => (1 - a) :: r
    | [] => []) else (match st with
    | b :: a :: r => zI (soV v a b) :: r
    | _ => []))
theorem evS_app (n x : Nat) : ∀ (a b st : List Int), evS n x (a ++ b) st = evS n x b (evS n x a st) := by
  intro a
  induction a with
  | nil => intro b st; rfl
  | cons v a ih => intro b st; exact ih b _
/-- digits alone -/
theorem rnE_all {p : Nat → Bool} {b : Nat → Nat} {tc : Nat} : ∀ f e q, e ≤ q → q < rnE p b tc f e → p (b q) = true := by
  intro f
  induction f with
  | zero => intro e q h1 h2; exact absurd h2 (by show ¬ q < e; omega)
  | succ f ih =>
    intro e q h1 h2
    have eu : rnE p b tc (f + 1) e = if (decide (e < tc) && p (b e)) = true then rnE p b tc f (e + 1) else e := rfl
    rw [eu] at h2
    split at h2
    · next c =>
      rw [Bool.and_eq_true] at c
      by_cases e1 : q = e
      · rw [e1]; exact c.2
      · exact ih (e + 1) q (by omega) h2
    · omega
theorem wrI_bd {b : Nat → Nat} : ∀ (m p : Nat) (acc : Int) (K : Nat), (∀ q, p ≤ q → q < p + m → dgt (b q) = true) → 0 ≤ acc → acc < ((10 ^ K : Nat) : Int) → 0 ≤ wrI b m p acc ∧ wrI b m p acc < ((10 ^ (K + m) : Nat) : Int) := by
  intro m
  induction m with
  | zero => intro p acc K _ h1 h2; exact ⟨h1, h2⟩
  | succ m ih =>
    intro p acc K hd h1 h2
    have h := hd p (Nat.le_refl _) (by omega)
    unfold dgt at h
    rw [Bool.and_eq_true] at h
    have a1 := of_decide_eq_true h.1
    have a2 := of_decide_eq_true h.2
    have e : wrI b (m + 1) p acc = wrI b m (p + 1) (acc * 10 + (b p : Int) - 48) := rfl
    rw [e, show K + (m + 1) = (K + 1) + m by omega]
    exact ih (p + 1) _ (K + 1) (fun q q1 q2 => hd q (by omega) (by omega)) (by omega) (by rw [Nat.pow_succ]; omega)
/-- a number's worth -/
theorem tV_in {b : Nat → Nat} {tc k : Nat} (hk : k < (TT b tc).length) (h : tW b (TT b tc) k = 1) : 0 ≤ tV b (TT b tc) k ∧ tV b (TT b tc) k ≤ 9999 ∧ dgt (b (tB tc (TT b tc) k)) = true ∧ tE b tc k - tB tc (TT b tc) k ≤ 4 ∧ tV b (TT b tc) k = wrI b (tE b tc k - tB tc (TT b tc) k) (tB tc (TT b tc) k) 0 := by
  have m := tks_mem 200 0 _ (getD_mem2 hk)
  have e1 : tB tc (TT b tc) k = ((TT b tc).getD k (0, 0)).1 := by unfold tB; rw [if_pos hk]
  have e2 : tE b tc k = ((TT b tc).getD k (0, 0)).2 := by unfold tE; rw [if_pos hk]
  have e3 : tV b (TT b tc) k = wrI b (tE b tc k - tB tc (TT b tc) k) (tB tc (TT b tc) k) 0 := by unfold tV; rw [if_pos h, e1, e2]
  have hw : wcd b (tB tc (TT b tc) k) (tE b tc k) = 1 := by unfold tW at h; rw [if_pos hk] at h; rw [e1, e2]; exact h
  have e4 : tE b tc k = eow b tc (tB tc (TT b tc) k) := by rw [e1, e2]; exact m.2.2.2.2
  generalize tB tc (TT b tc) k = p at *
  generalize tE b tc k = e at *
  have hd : dgt (b p) = true ∧ e - p ≤ 4 := by
    unfold wcd at hw
    split at hw
    · next d =>
      split at hw
      · next l => exact ⟨d, l⟩
      · omega
    · split at hw
      · have := @nmC_v b p e
        unfold nmC at hw
        repeat (first | omega | (split at hw))
      · split at hw
        · next s =>
          rw [hw] at s
          exact absurd s (by decide)
        · omega
  have all : ∀ q, p ≤ q → q < p + (e - p) → dgt (b q) = true := by
    intro q q1 q2
    have hq : q < e := by omega
    rw [e4] at hq
    unfold eow at hq
    rw [if_pos hd.1] at hq
    by_cases c : q = p
    · rw [c]; exact hd.1
    · exact rnE_all 200 (p + 1) q (by omega) hq
  have bd := wrI_bd (e - p) p 0 0 all (Int.le_refl _) (by decide)
  have : (10 ^ (0 + (e - p)) : Nat) ≤ 10 ^ 4 := Nat.pow_le_pow_right (by decide) (by omega)
  rw [e3]
  refine ⟨bd.1, ?_, hd.1, hd.2, rfl⟩
  have b2 := bd.2
  generalize 10 ^ (0 + (e - p)) = t at *
  omega
/-- what is laid down for a value -/
def vcK (b : Nat → Nat) (tc k : Nat) : Int := if tW b (TT b tc) k = 1 then tV b (TT b tc) k else fcK (tW b (TT b tc) k)
theorem vcK_in {b : Nat → Nat} {tc k : Nat} (hk : k ≤ (TT b tc).length) (hv : isVl (tW b (TT b tc) k) = true) : k < (TT b tc).length ∧ -5 ≤ vcK b tc k ∧ vcK b tc k ≤ 9999 := by
  have h1 : k < (TT b tc).length := by
    apply Decidable.byContradiction
    intro c
    unfold tW at hv
    rw [if_neg c] at hv
    exact absurd hv (by decide)
  refine ⟨h1, ?_⟩
  unfold vcK
  by_cases c : tW b (TT b tc) k = 1
  · have := tV_in h1 c
    rw [if_pos c]
    omega
  · rw [if_neg c]
    unfold fcK
    repeat (first | omega | split)
/-- the value as the class has it -/
theorem vcK_fct {n x : Nat} {b : Nat → Nat} {tc k : Nat} {V : Nat → Int} (hk : k ≤ (TT b tc).length) (hv : isVl (tW b (TT b tc) k) = true) (hV : ∀ k, k < (TT b tc).length → V k = tV b (TT b tc) k) : fcE n (vcK b tc k) x = fct n (tW b (TT b tc)) V x k := by
  have h1 := (vcK_in hk hv).1
  unfold fct
  have hw : tW b (TT b tc) k = 1 ∨ tW b (TT b tc) k = 2 ∨ tW b (TT b tc) k = 3 ∨ tW b (TT b tc) k = 4 ∨ tW b (TT b tc) k = 5 ∨ tW b (TT b tc) k = 6 := by
    unfold isVl at hv
    rw [Bool.and_eq_true] at hv
    have a := of_decide_eq_true hv.1
    have c := of_decide_eq_true hv.2
    omega
  unfold vcK
  rcases hw with q | q | q | q | q | q
  · have t := tV_in h1 q
    rw [if_pos q, q, hV k h1]
    generalize tV b (TT b tc) k = v at *
    unfold fcE
    rw [if_neg (show ¬ v = -1 by omega), if_neg (show ¬ v = -2 by omega), if_neg (show ¬ v = -3 by omega), if_neg (show ¬ v = -4 by omega), if_neg (show ¬ v = -5 by omega)]
    rfl
  · rw [q]; rfl
  · rw [q]; rfl
  · rw [q]; rfl
  · rw [q]; rfl
  · rw [q]; rfl
set_option maxHeartbeats 16000000 in
theorem t_value (d : Nat) {hp : HP} {n : Nat} {G : BitVec 64} {z : Int} {c : Nat} {ks : List Int} {es : List Int} {ik : Bool} {kn : Nat} {kG : BitVec 64} {kz : Int} {kc : Nat} {kks : List Int} {kes : List Int} {tc : Nat} {tb : List Int} {sc : Nat} {tl : List Int} {so : List Int} {le : List Int} {it : Nat → List (BitVec 64)} {he : List Int} {th : List Int} {sl : List Int} {tr : Nat} {bo : List Int} {k o : Nat} {cs : List Int} (h : TS hp n G z c ks es ik kn kG kz kc kks kes tc tb sc tl so le it he th sl tr bo k cs o false) (hl : cs.length ≤ k) : ∃ h', (if isVl (tW (bO tb) (TT (bO tb) tc) k) = true then TS h' n G z c ks es ik kn kG kz kc kks kes tc tb sc tl so le it he th sl tr bo (k + 1) (cs ++ [vcK (bO tb) tc k]) o false else TS h' n G z c ks es ik kn kG kz kc kks kes tc tb sc tl so le it he th sl tr bo k cs o true) ∧ Fr 54 83 hp h' ∧ ∀ R : PO, callD (d + 7) 217 [mR 54] hp R ↔ R none h' := by
  have h0 := h
  obtain ⟨r, g21, g22, cK⟩ := TS_RD h
  obtain ⟨g20, a65, g23, hb, hc, -⟩ := r
  obtain ⟨-, -, hk, ⟨g24, g25, g26, g27, g28⟩, -⟩ := h
  have cf := fun R => t_fact d h0 R
  have te := tE_200 hc hk
  have hL := tks_len (b := bO tb) (tc := tc) 200 0
  have hL : (TT (bO tb) tc).length ≤ 200 := hL
  have bt : tc < 2147483648 := by omega
  have bB : tB tc (TT (bO tb) tc) k < 2147483648 := by omega
  have bE : tE (bO tb) tc k < 2147483648 := by omega
  by_cases c26 : 2 ≤ tW (bO tb) (TT (bO tb) tc) k ∧ tW (bO tb) (TT (bO tb) tc) k ≤ 6
  · have hv : isVl (tW (bO tb) (TT (bO tb) tc) k) = true := by
      unfold isVl
      rw [decide_eq_true (by omega), decide_eq_true (by omega)]; rfl
    have h1 := (vcK_in hk hv).1
    have ev : vcK (bO tb) tc k = fcK (tW (bO tb) (TT (bO tb) tc) k) := by unfold vcK; rw [if_neg (by omega)]
    have hneg : fcK (tW (bO tb) (TT (bO tb) tc) k) < 0 ∧ -5 ≤ fcK (tW (bO tb) (TT (bO tb) tc) k) := by
      unfold fcK
      repeat (first | omega | split)
    have wf : w32 (fcK (tW (bO tb) (TT (bO tb) tc) k)) = fcK (tW (bO tb) (TT (bO tb) tc) k) := w32_id (by omega) (by omega)
    have n1 : (fcK (tW (bO tb) (TT (bO tb) tc) k) < 0) = True := eq_true hneg.1
    obtain ⟨h', u1, u2, u3⟩ := t_emits (d + 3) (fcK (tW (bO tb) (TT (bO tb) tc) k)) h0 h1 (by omega)
    refine ⟨h', by rw [if_pos hv, ev]; exact u1, u2, fun R => ?_⟩
    rw [callD_k]; simp only [entL_i, entL_l, entL_q, entL_s, entL_nil, n_X11_value, u_X11_value, m_X11_value, rep_2, List.cons_append, List.nil_append, List.append_nil, List.length_cons, List.length_nil, Nat.reduceAdd, true_and]
    simp only [AW_k, AWk_1, x_aload_0, x_aloads_0, x_callv_1, x_if_ge, x_callv_2, x_ret, x_ret_i, x_ret_z, x_ret_l, x_ret_c, k_X11_value_0, k_X11_value_1, k_X11_value_2, k_X11_value_3, k_X11_value_4, k_X11_value_5, k_X11_value_6, k_X11_value_7, oE_some, Int.reduceToNat, Nat.reduceAdd, true_and, and_true, List.length_cons, List.length_nil, Option.toList_some, Option.toList_none, List.cons_append, List.nil_append, Nat.reduceLeDiff, Nat.le_refl, wdS_nil, wdS_i, wdS_l, wdS_r, wdS_n, wdS_s, cK, cf, wf, n1, u3, ↓reduceIte]
  · have e0 : fcK (tW (bO tb) (TT (bO tb) tc) k) = 0 := by
      unfold fcK
      repeat (first | rfl | (rw [if_neg (by omega)]))
    rw [e0] at cf
    have n1 : (w32 0 < 0) = False := eq_false (by decide)
    have wrong : isVl (tW (bO tb) (TT (bO tb) tc) k) = false → (∀ R : PO, callD (d + 7) 217 [mR 54] hp R ↔ R none (pF hp 54 11 28 (mI 1))) → ∃ h', (if isVl (tW (bO tb) (TT (bO tb) tc) k) = true then TS h' n G z c ks es ik kn kG kz kc kks kes tc tb sc tl so le it he th sl tr bo (k + 1) (cs ++ [vcK (bO tb) tc k]) o false else TS h' n G z c ks es ik kn kG kz kc kks kes tc tb sc tl so le it he th sl tr bo k cs o true) ∧ Fr 54 83 hp h' ∧ ∀ R : PO, callD (d + 7) 217 [mR 54] hp R ↔ R none h' := by
      intro hv q
      refine ⟨pF hp 54 11 28 (mI 1), by rw [if_neg (by rw [hv]; decide)]; exact TS_28 true h0, Fr_o54, q⟩
    by_cases kL : k < (TT (bO tb) tc).length
    · have hlt : tB tc (TT (bO tb) tc) k < tc := by
        have := tks_mem 200 0 _ (getD_mem2 kL)
        unfold tB
        rw [if_pos kL]
        exact this.2.1
      have n2 : (((tB tc (TT (bO tb) tc) k : Nat) : Int) = (tc : Int)) = False := eq_false (by omega)
      obtain ⟨g1, g2⟩ := b200 hb (show tB tc (TT (bO tb) tc) k < 200 by omega)
      rw [w32_tn bB] at g2
      have bb := (hb.2 (tB tc (TT (bO tb) tc) k) (by omega)).2
      have hwd : tW (bO tb) (TT (bO tb) tc) k = wcd (bO tb) (tB tc (TT (bO tb) tc) k) (tE (bO tb) tc k) := by
        unfold tW tB tE
        rw [if_pos kL, if_pos kL, if_pos kL]
      have ee : ((tE (bO tb) tc k : Nat) : Int) - ((tB tc (TT (bO tb) tc) k : Nat) : Int) = ((tE (bO tb) tc k - tB tc (TT (bO tb) tc) k : Nat) : Int) := by omega
      have bee : tE (bO tb) tc k - tB tc (TT (bO tb) tc) k < 2147483648 := by omega
      cases hd : dgt (bO tb (tB tc (TT (bO tb) tc) k)) with
      | false =>
        refine wrong ?_ (fun R => ?_)
        · have w1 : ¬ tW (bO tb) (TT (bO tb) tc) k = 1 := by
            intro q
            have := (tV_in kL q).2.2.1
            rw [hd] at this
            cases this
          unfold isVl
          by_cases a : 1 ≤ tW (bO tb) (TT (bO tb) tc) k
          · rw [decide_eq_false (show ¬ tW (bO tb) (TT (bO tb) tc) k ≤ 6 by omega), Bool.and_false]
          · rw [decide_eq_false a, Bool.false_and]
        · rw [callD_k]; simp only [entL_i, entL_l, entL_q, entL_s, entL_nil, n_X11_value, u_X11_value, m_X11_value, rep_2, List.cons_append, List.nil_append, List.append_nil, List.length_cons, List.length_nil, Nat.reduceAdd, true_and]
          simp only [AW_k, AWk_1, x_aload_0, x_aloads_0, x_callv_1, x_if_ge, x_callv_2, x_ret, x_ret_i, x_ret_z, x_ret_l, x_ret_c, x_getf, x_icmp_eq, x_iald, x_ialds, x_call_1, x_if_eq, x_isub, x_push_i, x_push_l, x_icmp_le, x_putf_z, k_X11_value_0, k_X11_value_1, k_X11_value_2, k_X11_value_3, k_X11_value_4, k_X11_value_5, k_X11_value_6, k_X11_value_7, k_X11_value_8, k_X11_value_9, k_X11_value_10, k_X11_value_11, k_X11_value_12, k_X11_value_13, k_X11_value_14, k_X11_value_15, k_X11_value_16, k_X11_value_17, k_X11_value_18, k_X11_value_19, k_X11_value_20, k_X11_value_21, k_X11_value_22, k_X11_value_23, k_X11_value_24, k_X11_value_25, k_X11_value_26, k_X11_value_27, k_X11_value_28, k_X11_value_29, k_X11_value_30, oE_some, Int.reduceToNat, Nat.reduceAdd, true_and, and_true, List.length_cons, List.length_nil, Option.toList_some, Option.toList_none, List.cons_append, List.nil_append, Nat.reduceLeDiff, Nat.le_refl, wdS_nil, wdS_i, wdS_l, wdS_r, wdS_n, wdS_s, cK, cf, n1, g24, g23, w32_nat bB, w32_nat bt, n2, g20, a65, g1, Int.toNat_natCast, g2, m_isDigit (d + 5) bb, hd, zI_f, w00, g28, true_or, or_true, true_and, ↓reduceIte]
      | true =>
        by_cases c4 : tE (bO tb) tc k - tB tc (TT (bO tb) tc) k ≤ 4
        · have n4 : ((4 : Int) < ((tE (bO tb) tc k - tB tc (TT (bO tb) tc) k : Nat) : Int)) = False := eq_false (by omega)
          have w1 : tW (bO tb) (TT (bO tb) tc) k = 1 := by
            rw [hwd]
            unfold wcd
            rw [if_pos hd, if_pos c4]
          have hv : isVl (tW (bO tb) (TT (bO tb) tc) k) = true := by rw [w1]; rfl
          have t := tV_in kL w1
          have ev : vcK (bO tb) tc k = tV (bO tb) (TT (bO tb) tc) k := by unfold vcK; rw [if_pos w1]
          obtain ⟨h', u1, u2, u3⟩ := t_emits (d + 3) (tV (bO tb) (TT (bO tb) tc) k) h0 kL (by omega)
          refine ⟨h', by rw [if_pos hv, ev]; exact u1, u2, fun R => ?_⟩
          -- the number
          have key : ∀ (m q : Nat) (acc : Int), q + m = tE (bO tb) tc k → tB tc (TT (bO tb) tc) k ≤ q → wrI (bO tb) m q acc = tV (bO tb) (TT (bO tb) tc) k → (AWh (d + 6) [] 217 R 36 [some (mR 54), some (mI acc), some (mI (q : Int))] [] hp (0, 0) ↔ R none h') := by
            intro m
            induction m with
            | zero =>
              intro q acc hq _ hacc
              have eq0 : q = tE (bO tb) tc k := by omega
              subst eq0
              have hacc : acc = tV (bO tb) (TT (bO tb) tc) k := hacc
              subst hacc
              rw [AWh_k, k_X11_value_36]
              simp only [AW_k, AWk_1, x_iload_2, x_aload_0, x_aloads_0, x_getf, x_icmp_ge, x_iload_1, x_callv_2, x_ret, x_ret_i, x_ret_z, x_ret_l, x_ret_c, k_X11_value_36, k_X11_value_37, k_X11_value_38, k_X11_value_39, k_X11_value_53, k_X11_value_54, k_X11_value_55, k_X11_value_56, oE_some, Int.reduceToNat, Nat.reduceAdd, true_and, and_true, List.length_cons, List.length_nil, Option.toList_some, Option.toList_none, List.cons_append, List.nil_append, Nat.reduceLeDiff, Nat.le_refl, wdS_nil, wdS_i, wdS_l, wdS_r, wdS_n, wdS_s, g25, w32_nat bE, Int.lt_irrefl, cK, u3, ↓reduceIte]
            | succ m ih =>
              intro q acc hq hle hacc
              have bq : q < 2147483648 := by omega
              have c1 : ((q : Int) < ((tE (bO tb) tc k : Nat) : Int)) = True := eq_true (by omega)
              have q200 : q < 200 := by omega
              obtain ⟨g3, g4⟩ := b200 hb q200
              rw [w32_tn bq] at g4
              have ek : (q : Int) + 1 = ((q + 1 : Nat) : Int) := by omega
              have em : 10 * acc + ((bO tb q : Nat) : Int) - 48 = acc * 10 + ((bO tb q : Nat) : Int) - 48 := by omega
              have i1 := ih (q + 1) (acc * 10 + ((bO tb q : Nat) : Int) - 48) (by omega) (by omega) hacc
              rw [AWh_k, k_X11_value_36]
              simp only [AW_k, AWk_1, x_iload_2, x_aload_0, x_aloads_0, x_getf, x_icmp_ge, x_push_i, x_push_l, x_iload_1, x_imul, x_iald, x_ialds, x_iadd, x_isub, x_istore_1, x_iinc_2, x_goto, unl_i, unl_l, unl_q, unl_r, unl_s, unl_n, k_X11_value_36, k_X11_value_37, k_X11_value_38, k_X11_value_39, k_X11_value_40, k_X11_value_41, k_X11_value_42, k_X11_value_43, k_X11_value_44, k_X11_value_45, k_X11_value_46, k_X11_value_47, k_X11_value_48, k_X11_value_49, k_X11_value_50, k_X11_value_51, k_X11_value_52, oE_some, Int.reduceToNat, Nat.reduceAdd, true_and, and_true, List.length_cons, List.length_nil, Option.toList_some, Option.toList_none, List.cons_append, List.nil_append, Nat.reduceLeDiff, Nat.le_refl, wdS_nil, wdS_i, wdS_l, wdS_r, wdS_n, wdS_s, g25, w32_nat bq, w32_nat bE, c1, g20, a65, g3, Int.toNat_natCast, g4, em, ek, ↓reduceIte]
              exact i1
          have st : callD (d + 7) 217 [mR 54] hp R ↔ AWh (d + 6) [] 217 R 36 [some (mR 54), some (mI 0), some (mI ((tB tc (TT (bO tb) tc) k : Nat) : Int))] [] hp (0, 0) := by
            rw [callD_k]; simp only [entL_i, entL_l, entL_q, entL_s, entL_nil, n_X11_value, u_X11_value, m_X11_value, rep_2, List.cons_append, List.nil_append, List.append_nil, List.length_cons, List.length_nil, Nat.reduceAdd, true_and]
            simp only [AW_k, AWk_1, x_aload_0, x_aloads_0, x_callv_1, x_if_ge, x_callv_2, x_ret, x_ret_i, x_ret_z, x_ret_l, x_ret_c, x_getf, x_icmp_eq, x_iald, x_ialds, x_call_1, x_if_eq, x_isub, x_push_i, x_push_l, x_icmp_le, x_putf_z, x_istore_1, x_istore_2, x_iload_2, unl_i, unl_l, unl_q, unl_r, unl_s, unl_n, k_X11_value_0, k_X11_value_1, k_X11_value_2, k_X11_value_3, k_X11_value_4, k_X11_value_5, k_X11_value_6, k_X11_value_7, k_X11_value_8, k_X11_value_9, k_X11_value_10, k_X11_value_11, k_X11_value_12, k_X11_value_13, k_X11_value_14, k_X11_value_15, k_X11_value_16, k_X11_value_17, k_X11_value_18, k_X11_value_19, k_X11_value_20, k_X11_value_21, k_X11_value_22, k_X11_value_23, k_X11_value_24, k_X11_value_25, k_X11_value_26, k_X11_value_27, k_X11_value_28, k_X11_value_29, k_X11_value_30, k_X11_value_31, k_X11_value_32, k_X11_value_33, k_X11_value_34, k_X11_value_35, k_X11_value_36, oE_some, Int.reduceToNat, Nat.reduceAdd, true_and, and_true, List.length_cons, List.length_nil, Option.toList_some, Option.toList_none, List.cons_append, List.nil_append, Nat.reduceLeDiff, Nat.le_refl, wdS_nil, wdS_i, wdS_l, wdS_r, wdS_n, wdS_s, cK, cf, n1, g24, g23, g25, w32_nat bB, w32_nat bt, n2, g20, a65, g1, Int.toNat_natCast, g2, m_isDigit (d + 5) bb, hd, zI_t, w10, ee, w32_nat bee, show w32 4 = 4 from rfl, n4, ↓reduceIte]
          exact st.trans (key (tE (bO tb) tc k - tB tc (TT (bO tb) tc) k) (tB tc (TT (bO tb) tc) k) 0 (by omega) (Nat.le_refl _) t.2.2.2.2.symm)
        · have n4 : ((4 : Int) < ((tE (bO tb) tc k - tB tc (TT (bO tb) tc) k : Nat) : Int)) = True := eq_true (by omega)
          refine wrong ?_ (fun R => ?_)
          · have w1 : tW (bO tb) (TT (bO tb) tc) k = 10 := by
              rw [hwd]
              unfold wcd
              rw [if_pos hd, if_neg c4]
            rw [w1]; rfl
          · rw [callD_k]; simp only [entL_i, entL_l, entL_q, entL_s, entL_nil, n_X11_value, u_X11_value, m_X11_value, rep_2, List.cons_append, List.nil_append, List.append_nil, List.length_cons, List.length_nil, Nat.reduceAdd, true_and]
            simp only [AW_k, AWk_1, x_aload_0, x_aloads_0, x_callv_1, x_if_ge, x_callv_2, x_ret, x_ret_i, x_ret_z, x_ret_l, x_ret_c, x_getf, x_icmp_eq, x_iald, x_ialds, x_call_1, x_if_eq, x_isub, x_push_i, x_push_l, x_icmp_le, x_putf_z, k_X11_value_0, k_X11_value_1, k_X11_value_2, k_X11_value_3, k_X11_value_4, k_X11_value_5, k_X11_value_6, k_X11_value_7, k_X11_value_8, k_X11_value_9, k_X11_value_10, k_X11_value_11, k_X11_value_12, k_X11_value_13, k_X11_value_14, k_X11_value_15, k_X11_value_16, k_X11_value_17, k_X11_value_18, k_X11_value_19, k_X11_value_20, k_X11_value_21, k_X11_value_22, k_X11_value_23, k_X11_value_24, k_X11_value_25, k_X11_value_26, k_X11_value_27, k_X11_value_28, k_X11_value_29, k_X11_value_30, oE_some, Int.reduceToNat, Nat.reduceAdd, true_and, and_true, List.length_cons, List.length_nil, Option.toList_some, Option.toList_none, List.cons_append, List.nil_append, Nat.reduceLeDiff, Nat.le_refl, wdS_nil, wdS_i, wdS_l, wdS_r, wdS_n, wdS_s, cK, cf, n1, g24, g23, g25, w32_nat bB, w32_nat bt, n2, g20, a65, g1, Int.toNat_natCast, g2, m_isDigit (d + 5) bb, hd, zI_t, w10, ee, w32_nat bee, show w32 4 = 4 from rfl, n4, g28, true_or, or_true, true_and, ↓reduceIte]
    · have hz : tW (bO tb) (TT (bO tb) tc) k = 0 := by unfold tW; rw [if_neg kL]
      have eB : tB tc (TT (bO tb) tc) k = tc := by unfold tB; rw [if_neg kL]
      refine wrong (by rw [hz]; rfl) (fun R => ?_)
      rw [eB] at g24
      rw [callD_k]; simp only [entL_i, entL_l, entL_q, entL_s, entL_nil, n_X11_value, u_X11_value, m_X11_value, rep_2, List.cons_append, List.nil_append, List.append_nil, List.length_cons, List.length_nil, Nat.reduceAdd, true_and]
      simp only [AW_k, AWk_1, x_aload_0, x_aloads_0, x_callv_1, x_if_ge, x_callv_2, x_ret, x_ret_i, x_ret_z, x_ret_l, x_ret_c, x_getf, x_icmp_eq, x_iald, x_ialds, x_call_1, x_if_eq, x_isub, x_push_i, x_push_l, x_icmp_le, x_putf_z, k_X11_value_0, k_X11_value_1, k_X11_value_2, k_X11_value_3, k_X11_value_4, k_X11_value_5, k_X11_value_6, k_X11_value_7, k_X11_value_8, k_X11_value_9, k_X11_value_10, k_X11_value_11, k_X11_value_12, k_X11_value_13, k_X11_value_14, k_X11_value_15, k_X11_value_16, k_X11_value_17, k_X11_value_18, k_X11_value_19, k_X11_value_20, k_X11_value_21, k_X11_value_22, k_X11_value_23, k_X11_value_24, k_X11_value_25, k_X11_value_26, k_X11_value_27, k_X11_value_28, k_X11_value_29, k_X11_value_30, oE_some, Int.reduceToNat, Nat.reduceAdd, true_and, and_true, List.length_cons, List.length_nil, Option.toList_some, Option.toList_none, List.cons_append, List.nil_append, Nat.reduceLeDiff, Nat.le_refl, wdS_nil, wdS_i, wdS_l, wdS_r, wdS_n, wdS_s, cK, cf, n1, g24, g23, w32_nat bt, g28, true_or, or_true, true_and, ↓reduceIte]
