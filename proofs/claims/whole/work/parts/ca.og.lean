/-! ===== the reference's list ===== -/
theorem MI_72 {hp : HP} {n : Nat} {G : BitVec 64} {z : Int} {c : Nat} {ks : List Int} {es : List Int} {ik : Bool} {kn : Nat} {kG : BitVec 64} {kz : Int} {kc : Nat} {kks : List Int} {kes : List Int} {tc : Nat} {tb : List Int} {sc : Nat} {tl : List Int} {so : List Int} {le : List Int} {it : Nat → List (BitVec 64)} {he : List Int} {th : List Int} {sl : List Int} {tr : Nat} {bo : List Int} {l m : List Int} (hX : MI (hp) n G z c ks es ik kn kG kz kc kks kes tc tb sc tl so le it he th sl tr bo) (h : gA hp 72 = some l) (hm : m.length = 120) : MI ((pA hp 72 m)) n G z c ks es ik kn kG kz kc kks kes tc tb sc tl so le it he th sl tr bo := by
  have hX0 := hX
  obtain ⟨⟨u1, u2, u3⟩, kN, kZ, kM, kGm, l5, l6, qk, q0, q1, q2, q3, q4, q5, q6, q7, q8, q9⟩ := hX
  obtain ⟨li, fa, fe, qu, ls, il, ⟨c1, c2, c3, c4, c5, c6⟩, n1, n2, n3, n4, n5, n6⟩ := q5
  exact MI_W hX0 (Fr_pA (by omega) (by omega)) ⟨li, fa, fe, qu, m, il, ⟨by rw [gA_pA (by omega), c1], by rw [gA_pA (by omega), c2], by rw [gA_pA (by omega), c3], by rw [gA_pA (by omega), c4], gA_pA_same c5, by rw [gB_pA, c6]⟩, n1, n2, n3, n4, hm, n6⟩
theorem MI_73 {hp : HP} {n : Nat} {G : BitVec 64} {z : Int} {c : Nat} {ks : List Int} {es : List Int} {ik : Bool} {kn : Nat} {kG : BitVec 64} {kz : Int} {kc : Nat} {kks : List Int} {kes : List Int} {tc : Nat} {tb : List Int} {sc : Nat} {tl : List Int} {so : List Int} {le : List Int} {it : Nat → List (BitVec 64)} {he : List Int} {th : List Int} {sl : List Int} {tr : Nat} {bo : List Int} {l m : List Int} (hX : MI (hp) n G z c ks es ik kn kG kz kc kks kes tc tb sc tl so le it he th sl tr bo) (h : gB hp 73 = some l) (hm : m.length = 120) : MI ((pB hp 73 m)) n G z c ks es ik kn kG kz kc kks kes tc tb sc tl so le it he th sl tr bo := by
  have hX0 := hX
  obtain ⟨⟨u1, u2, u3⟩, kN, kZ, kM, kGm, l5, l6, qk, q0, q1, q2, q3, q4, q5, q6, q7, q8, q9⟩ := hX
  obtain ⟨li, fa, fe, qu, ls, il, ⟨c1, c2, c3, c4, c5, c6⟩, n1, n2, n3, n4, n5, n6⟩ := q5
  exact MI_W hX0 (Fr_pB (by omega) (by omega)) ⟨li, fa, fe, qu, ls, m, ⟨by rw [gA_pB, c1], by rw [gA_pB, c2], by rw [gA_pB, c3], by rw [gA_pB, c4], by rw [gA_pB, c5], gB_pB_same c6⟩, n1, n2, n3, n4, n5, hm⟩
theorem MI_ws {hp : HP} {n : Nat} {G : BitVec 64} {z : Int} {c : Nat} {ks : List Int} {es : List Int} {ik : Bool} {kn : Nat} {kG : BitVec 64} {kz : Int} {kc : Nat} {kks : List Int} {kes : List Int} {tc : Nat} {tb : List Int} {sc : Nat} {tl : List Int} {so : List Int} {le : List Int} {it : Nat → List (BitVec 64)} {he : List Int} {th : List Int} {sl : List Int} {tr : Nat} {bo : List Int} (hX : MI (hp) n G z c ks es ik kn kG kz kc kks kes tc tb sc tl so le it he th sl tr bo) : gF hp 54 11 0 = some (mI (n : Int)) ∧ gF hp 54 11 33 = some (mR 72) ∧ gF hp 54 11 34 = some (mR 73) ∧ gC hp 54 = some 11 ∧ MA hp n ∧ gF hp 54 11 3 = some (mL G) := by
  obtain ⟨⟨u1, u2, u3⟩, kN, kZ, kM, kGm, l5, l6, qk, q0, q1, q2, q3, q4, q5, q6, q7, q8, q9⟩ := hX
  obtain ⟨fr_, to_, co_, op_, wr_, ki_, nu_, mm_, pa_, hF⟩ := YO_F q0
  have hA : MA hp n := ⟨⟨⟨u2, u3⟩, hF 0, hF 18, hF 19, q1.1.1, q1.1.2⟩, ⟨hF 13, hF 14, hF 15, hF 16, hF 17⟩, q1.2⟩
  have hK := hA.1
  have cK := cM hK
  have hG : gF hp 54 11 3 = some (mL G) := hF 3
  exact ⟨hF 0, hF 33, hF 34, cK, hA, hG⟩
set_option maxHeartbeats 16000000 in
theorem m_lsFill (d : Nat) {n : Nat} {G : BitVec 64} {z : Int} {c : Nat} {ks : List Int} {es : List Int} {ik : Bool} {kn : Nat} {kG : BitVec 64} {kz : Int} {kc : Nat} {kks : List Int} {kes : List Int} {tc : Nat} {tb : List Int} {sc : Nat} {tl : List Int} {so : List Int} {le : List Int} {it : Nat → List (BitVec 64)} {he : List Int} {th : List Int} {sl : List Int} {tr : Nat} {bo : List Int} {I : Int} (y3 : Option AV) : ∀ (m k : Nat) (il : List Int) (h : HP), k + m = 120 → MI (h) n G z c ks es ik kn kG kz kc kks kes tc tb sc tl so le it he th sl tr bo → gB h 73 = some il → il.length = 120 → (∀ y, y < k → il.getD y 0 = 0) → ∃ h' il', MI (h') n G z c ks es ik kn kG kz kc kks kes tc tb sc tl so le it he th sl tr bo ∧ Fr 54 83 h h' ∧ gB h' 73 = some il' ∧ il'.length = 120 ∧ (∀ y, y < 120 → il'.getD y 0 = 0) ∧ ∀ R : PO, AWh (d + 99) [] 246 R 12 [some (mR 54), some (mI I), some (mI (k : Int)), y3] [] h (0, 0) ↔ AWk (d + 99) [] 246 R 22 (cd 246 22) [some (mR 54), some (mI I), some (mI 120), y3] [] h' (0, 0) := by
  intro m
  induction m with
  | zero =>
    intro k il h hk hX hb hl hz
    have e : k = 120 := by omega
    subst e
    refine ⟨h, il, hX, Fr_refl h, hb, hl, hz, fun R => ?_⟩
    rw [AWh_k, k_X11_listed_12]
    simp only [AW_k, AWk_1, x_iload_2, x_push_i, x_push_l, x_icmp_ge, k_X11_listed_12, k_X11_listed_13, k_X11_listed_14, oE_some, Int.reduceToNat, Nat.reduceAdd, true_and, and_true, List.length_cons, List.length_nil, Option.toList_some, Option.toList_none, List.cons_append, List.nil_append, Nat.reduceLeDiff, Nat.le_refl, wdS_nil, wdS_i, wdS_l, wdS_r, wdS_n, wdS_s, show w32 ((120 : Nat) : Int) = 120 from rfl, show w32 120 = 120 from rfl, Int.lt_irrefl, ↓reduceIte]
    exact Iff.rfl
  | succ m ih =>
    intro k il h hk hX hb hl hz
    obtain ⟨-, -, g34, -, -, -⟩ := MI_ws hX
    have bk : k < 2147483648 := by omega
    have c0 : ((k : Int) < 120) = True := eq_true (by omega)
    have ek : (k : Int) + 1 = ((k + 1 : Nat) : Int) := by omega
    have ik : inB (k : Int) il.length := by rw [hl]; exact inB_n (by omega) (by decide)
    have hl2 : (il.set k 0).length = 120 := by rw [List.length_set]; exact hl
    obtain ⟨h', il', a1, a2, a3, a4, a5, a6⟩ := ih (k + 1) (il.set k 0) (pB h 73 (il.set k 0)) (by omega) (MI_73 hX hb hl2) (gB_pB_same hb) hl2 (fun y hy => by
      rw [getD_set (by omega)]
      by_cases e : k = y
      · rw [if_pos e]
      · rw [if_neg e]; exact hz y (by omega))
    refine ⟨h', il', a1, Fr_trans (Fr_pB (by omega) (by omega)) a2, a3, a4, a5, fun R => Iff.trans ?_ (a6 R)⟩
    rw [AWh_k, k_X11_listed_12]
    simp only [AW_k, AWk_1, x_iload_2, x_push_i, x_push_l, x_icmp_ge, x_aload_0, x_aloads_0, x_getf, x_bast, x_iinc_2, x_goto, unl_i, unl_l, unl_q, unl_r, unl_s, unl_n, k_X11_listed_12, k_X11_listed_13, k_X11_listed_14, k_X11_listed_15, k_X11_listed_16, k_X11_listed_17, k_X11_listed_18, k_X11_listed_19, k_X11_listed_20, k_X11_listed_21, oE_some, Int.reduceToNat, Nat.reduceAdd, true_and, and_true, List.length_cons, List.length_nil, Option.toList_some, Option.toList_none, List.cons_append, List.nil_append, Nat.reduceLeDiff, Nat.le_refl, wdS_nil, wdS_i, wdS_l, wdS_r, wdS_n, wdS_s, w32_nat bk, show w32 120 = 120 from rfl, c0, g34, hb, ik, Int.toNat_natCast, true_or, ek, ↓reduceIte]
theorem lsP_pre (n : Nat) (G : BitVec 64) : ∀ f nx acc, ∃ t, lsP n G f nx acc = acc ++ t := by
  intro f
  induction f with
  | zero => intro nx acc; exact ⟨[], (List.append_nil acc).symm⟩
  | succ f ih =>
    intro nx acc
    cases nx with
    | none => exact ⟨[], (List.append_nil acc).symm⟩
    | some x =>
      rw [lsP_some]
      obtain ⟨t, ht⟩ := ih (nbF n G x (fun y => decide (y ∈ acc ++ [x])) (n - 1)) (acc ++ [x])
      exact ⟨x :: t, by rw [ht, List.append_assoc]; rfl⟩
theorem app_D {α : Type} {z : α} {a t : List α} {k : Nat} (h : k < a.length) : (a ++ t).getD k z = a.getD k z := by
  rw [List.getD_eq_getElem?_getD, List.getD_eq_getElem?_getD, List.getElem?_append_left h]
/-- the list's answer -/
def lsA (n : Nat) (G : BitVec 64) (I : Nat) : Int := if I < (LST n G).length then ((num n ((LST n G).getD I 0) : Nat) : Int) else -3
set_option maxHeartbeats 16000000 in
theorem m_lsLoop (d : Nat) {n : Nat} {G : BitVec 64} {z : Int} {c : Nat} {ks : List Int} {es : List Int} {ik : Bool} {kn : Nat} {kG : BitVec 64} {kz : Int} {kc : Nat} {kks : List Int} {kes : List Int} {tc : Nat} {tb : List Int} {sc : Nat} {tl : List Int} {so : List Int} {le : List Int} {it : Nat → List (BitVec 64)} {he : List Int} {th : List Int} {sl : List Int} {tr : Nat} {bo : List Int} {I : Nat} (hI : I < 2147483648) (h5 : n ≤ 5) : ∀ (f : Nat) (nx : Option Nat) (acc : List Nat) (ls il : List Int) (h : HP), acc.length + f = 121 → (∀ x, nx = some x → x < FC n ∧ x ∉ acc) → cnt (fun y => decide (y ∈ acc)) 120 = (acc.length : Int) → MI (h) n G z c ks es ik kn kG kz kc kks kes tc tb sc tl so le it he th sl tr bo → gA h 72 = some ls → gB h 73 = some il → ls.length = 120 → il.length = 120 → (∀ k, k < acc.length → ls.getD k 0 = ((num n (acc.getD k 0) : Nat) : Int)) → seI il (fun y => decide (y ∈ acc)) → LST n G = lsP n G (120 - acc.length) nx acc → ∃ h', MI (h') n G z c ks es ik kn kG kz kc kks kes tc tb sc tl so le it he th sl tr bo ∧ Fr 54 83 h h' ∧ ∀ R : PO, AWh (d + 99) [] 246 R 28 [some (mR 54), some (mI (I : Int)), some (mI (acc.length : Int)), some (mI (nuO n nx))] [] h (0, 0) ↔ R (some (mI (lsA n G I))) h' := by
  have m3 : w32 (-3) = -3 := rfl
  intro f
  induction f with
  | zero =>
    intro nx acc ls il h hf hx hc
    exfalso
    have := (cnt_in (fun y => decide (y ∈ acc)) 120).2
    omega
  | succ f ih =>
    intro nx acc ls il h hf hx hc hX ha hb hla hlb hp hs hL
    obtain ⟨g0, g33, g34, cK, hA, hG⟩ := MI_ws hX
    have hK := hA.1
    have h1 := hK.1.1
    have h6 := hK.1.2
    have f5 := FC_120 h1 h5
    have hcl := (cnt_in (fun y => decide (y ∈ acc)) 120).2
    have ba : acc.length < 2147483648 := by omega
    -- the end
    have fin : I < acc.length → ∀ R : PO, AW (d + 99) [] 246 R 52 [some (mR 54), some (mI (I : Int)), some (mI (acc.length : Int)), some (mI (nuO n nx))] [] h (0, 0) ↔ R (some (mI (lsA n G I))) h := by
      intro hi R
      obtain ⟨t, ht⟩ := lsP_pre n G (120 - acc.length) nx acc
      have e1 : LST n G = acc ++ t := hL.trans ht
      have e2 : lsA n G I = ((num n (acc.getD I 0) : Nat) : Int) := by
        unfold lsA
        rw [e1, if_pos (by rw [List.length_append]; omega), app_D hi]
      have n1 : ((I : Int) < (acc.length : Int)) = True := eq_true (by omega)
      have iI : inB (I : Int) ls.length := by rw [hla]; exact inB_n (by omega) (by decide)
      rw [e2]
      simp only [AW_k, AWk_1, x_iload_1, x_iload_2, x_icmp_ge, x_aload_0, x_aloads_0, x_getf, x_iald, x_ialds, x_goto, x_push_i, x_push_l, x_ret, x_ret_i, x_ret_z, x_ret_l, x_ret_c, k_X11_listed_52, k_X11_listed_53, k_X11_listed_54, k_X11_listed_55, k_X11_listed_56, k_X11_listed_57, k_X11_listed_58, k_X11_listed_59, k_X11_listed_60, k_X11_listed_61, oE_some, Int.reduceToNat, Nat.reduceAdd, true_and, and_true, List.length_cons, List.length_nil, Option.toList_some, Option.toList_none, List.cons_append, List.nil_append, Nat.reduceLeDiff, Nat.le_refl, wdS_nil, wdS_i, wdS_l, wdS_r, wdS_n, wdS_s, w32_nat hI, w32_nat ba, n1, g33, ha, iI, Int.toNat_natCast, hp I hi, ↓reduceIte]
    cases nx with
    | none =>
      refine ⟨h, hX, Fr_refl h, fun R => ?_⟩
      have st : AWh (d + 99) [] 246 R 28 [some (mR 54), some (mI (I : Int)), some (mI (acc.length : Int)), some (mI (nuO n none))] [] h (0, 0) ↔ AW (d + 99) [] 246 R 52 [some (mR 54), some (mI (I : Int)), some (mI (acc.length : Int)), some (mI (nuO n none))] [] h (0, 0) := by
        refine Iff.trans AWh_k ?_
        rw [k_X11_listed_28]
        simp only [AW_k, AWk_1, x_iload_3, x_push_i, x_push_l, x_icmp_eq, k_X11_listed_28, k_X11_listed_29, k_X11_listed_30, oE_some, Int.reduceToNat, Nat.reduceAdd, true_and, and_true, List.length_cons, List.length_nil, Option.toList_some, Option.toList_none, List.cons_append, List.nil_append, Nat.reduceLeDiff, Nat.le_refl, wdS_nil, wdS_i, wdS_l, wdS_r, wdS_n, wdS_s, show nuO n none = -3 from rfl, m3, ↓reduceIte]
        all_goals exact Iff.rfl
      by_cases c : I < acc.length
      · exact st.trans (fin c R)
      · refine st.trans ?_
        have e2 : lsA n G I = -3 := by
          unfold lsA
          rw [hL, lsP_none, if_neg c]
        have n1 : ((I : Int) < (acc.length : Int)) = False := eq_false (by omega)
        rw [e2]
        simp only [AW_k, AWk_1, x_iload_1, x_iload_2, x_icmp_ge, x_aload_0, x_aloads_0, x_getf, x_iald, x_ialds, x_goto, x_push_i, x_push_l, x_ret, x_ret_i, x_ret_z, x_ret_l, x_ret_c, k_X11_listed_52, k_X11_listed_53, k_X11_listed_54, k_X11_listed_55, k_X11_listed_56, k_X11_listed_57, k_X11_listed_58, k_X11_listed_59, k_X11_listed_60, k_X11_listed_61, oE_some, Int.reduceToNat, Nat.reduceAdd, true_and, and_true, List.length_cons, List.length_nil, Option.toList_some, Option.toList_none, List.cons_append, List.nil_append, Nat.reduceLeDiff, Nat.le_refl, wdS_nil, wdS_i, wdS_l, wdS_r, wdS_n, wdS_s, w32_nat hI, w32_nat ba, n1, ↓reduceIte]
    | some x =>
      obtain ⟨hx1, hx2⟩ := hx x rfl
      have wx := w32_nat (num_31 h1 h6 hx1)
      by_cases c : I < acc.length
      · refine ⟨h, hX, Fr_refl h, fun R => Iff.trans ?_ (fin c R)⟩
        have n1 : ((I : Int) < (acc.length : Int)) = True := eq_true (by omega)
        refine Iff.trans AWh_k ?_
        rw [k_X11_listed_28]
        simp only [AW_k, AWk_1, x_iload_3, x_push_i, x_push_l, x_icmp_eq, x_iload_2, x_iload_1, x_icmp_gt, k_X11_listed_28, k_X11_listed_29, k_X11_listed_30, k_X11_listed_31, k_X11_listed_32, k_X11_listed_33, oE_some, Int.reduceToNat, Nat.reduceAdd, true_and, and_true, List.length_cons, List.length_nil, Option.toList_some, Option.toList_none, List.cons_append, List.nil_append, Nat.reduceLeDiff, Nat.le_refl, wdS_nil, wdS_i, wdS_l, wdS_r, wdS_n, wdS_s, show nuO n (some x) = ((num n x : Nat) : Int) from rfl, m3, wx, num_3, w32_nat hI, w32_nat ba, n1, ↓reduceIte]
        all_goals exact Iff.rfl
      · have hx0 : (fun y => decide (y ∈ acc)) x = false := decide_eq_false hx2
        have hx12 : x < 120 := by omega
        have hlt := cnt_full (f := fun y => decide (y ∈ acc)) hx12 hx0
        have hal : acc.length < 120 := by omega
        have n1 : ((I : Int) < (acc.length : Int)) = False := eq_false (by omega)
        have bx : x < 2147483648 := by omega
        have ia : inB (acc.length : Int) ls.length := by rw [hla]; exact inB_n hal (by decide)
        have ix : inB (x : Int) il.length := by rw [hlb]; exact inB_n hx12 (by decide)
        have ek : (acc.length : Int) + 1 = (((acc ++ [x]).length : Nat) : Int) := by rw [List.length_append]; rfl
        have hl1 : (ls.set acc.length ((num n x : Nat) : Int)).length = 120 := by rw [List.length_set]; exact hla
        have hl2 : (il.set x 1).length = 120 := by rw [List.length_set]; exact hlb
        have X1 := MI_72 hX ha hl1
        have b1 : gB (pA h 72 (ls.set acc.length ((num n x : Nat) : Int))) 73 = some il := by rw [gB_pA, hb]
        have X2 := MI_73 X1 b1 hl2
        have s2 := seI_add hs hlb hx12
        obtain ⟨-, -, g34', cK', hA', hG'⟩ := MI_ws X2
        have b2 : gB (pB (pA h 72 (ls.set acc.length ((num n x : Nat) : Int))) 73 (il.set x 1)) 73 = some (il.set x 1) := gB_pB_same b1
        have cn := fun R => m_nextBehind (d + 93) (i := x) hA' hG' h5 g34' b2 hl2 s2 hx1 R
        have f34 : ∀ l, gF (pA h 72 l) 54 11 34 = some (mR 73) := fun l => by rw [gF_pA, g34]
        have fC : ∀ l, gC (pA h 72 l) 54 = some 11 := fun l => by rw [gC_pA, cK]
        have hKp : MK (pA h 72 (ls.set acc.length ((num n x : Nat) : Int))) n := (MI_ws X1).2.2.2.2.1.1
        have eL : LST n G = lsP n G (120 - (acc ++ [x]).length) (nbF n G x (fun y => decide (y ∈ acc ++ [x])) (n - 1)) (acc ++ [x]) := by
          rw [hL, show 120 - acc.length = (120 - (acc ++ [x]).length) + 1 by rw [List.length_append]; show _ = 120 - (acc.length + 1) + 1; omega, lsP_some]
        obtain ⟨h', v1, v2, v3⟩ := ih (nbF n G x (fun y => decide (y ∈ acc ++ [x])) (n - 1)) (acc ++ [x]) _ _ _ (by rw [List.length_append]; show acc.length + 1 + f = 121; omega) (fun y hy => by
          have := nbF_ok h1 h6 hx1 hy
          exact ⟨this.1, of_decide_eq_false this.2.2⟩) (by
          rw [← ek, ← hc]
          refine cnt_one (f := fun y => decide (y ∈ acc)) (g := fun y => decide (y ∈ acc ++ [x])) hx12 hx0 (decide_eq_true (List.mem_append_right _ (List.mem_singleton_self x))) (fun k hk => ?_)
          by_cases q : k ∈ acc
          · rw [decide_eq_true q, decide_eq_true (List.mem_append_left _ q)]
          · rw [decide_eq_false q, decide_eq_false (fun z => (List.mem_append.mp z).elim q (fun z => hk (List.mem_singleton.mp z)))]) X2 (by rw [gA_pB]; exact gA_pA_same ha) b2 hl1 hl2 (fun k hk => by
          rw [List.length_append] at hk
          have hk : k < acc.length + 1 := hk
          rw [getD_set (by omega)]
          by_cases q : acc.length = k
          · subst q
            rw [if_pos rfl, List.getD_eq_getElem?_getD, List.getElem?_append_right (Nat.le_refl _), Nat.sub_self]
            rfl
          · rw [if_neg q, app_D (by omega)]; exact hp k (by omega)) s2 eL
        refine ⟨h', v1, Fr_trans (Fr_trans (Fr_pA (by omega) (by omega)) (Fr_pB (by omega) (by omega))) v2, fun R => Iff.trans ?_ (v3 R)⟩
        refine Iff.trans AWh_k ?_
        rw [k_X11_listed_28]
        simp only [AW_k, AWk_1, x_iload_3, x_push_i, x_push_l, x_icmp_eq, x_iload_2, x_iload_1, x_icmp_gt, x_aload_0, x_aloads_0, x_getf, x_iast, x_callv_2, x_bast, x_iinc_2, x_istore_3, x_goto, unl_i, unl_l, unl_q, unl_r, unl_s, unl_n, k_X11_listed_28, k_X11_listed_29, k_X11_listed_30, k_X11_listed_31, k_X11_listed_32, k_X11_listed_33, k_X11_listed_34, k_X11_listed_35, k_X11_listed_36, k_X11_listed_37, k_X11_listed_38, k_X11_listed_39, k_X11_listed_40, k_X11_listed_41, k_X11_listed_42, k_X11_listed_43, k_X11_listed_44, k_X11_listed_45, k_X11_listed_46, k_X11_listed_47, k_X11_listed_48, k_X11_listed_49, k_X11_listed_50, k_X11_listed_51, oE_some, Int.reduceToNat, Nat.reduceAdd, true_and, and_true, List.length_cons, List.length_nil, Option.toList_some, Option.toList_none, List.cons_append, List.nil_append, Nat.reduceLeDiff, Nat.le_refl, wdS_nil, wdS_i, wdS_l, wdS_r, wdS_n, wdS_s, show nuO n (some x) = ((num n x : Nat) : Int) from rfl, m3, wx, num_3, w32_nat hI, w32_nat ba, n1, g33, ha, ia, Int.toNat_natCast, f34, fC, m_rank (d + 97) hKp hx1, b1, ix, w32_nat bx, or_true, ek, cK', cn, ↓reduceIte]
set_option maxHeartbeats 16000000 in
theorem x_listed_m (d : Nat) {hp : HP} {n : Nat} {G : BitVec 64} {z : Int} {c : Nat} {ks : List Int} {es : List Int} {ik : Bool} {kn : Nat} {kG : BitVec 64} {kz : Int} {kc : Nat} {kks : List Int} {kes : List Int} {tc : Nat} {tb : List Int} {sc : Nat} {tl : List Int} {so : List Int} {le : List Int} {it : Nat → List (BitVec 64)} {he : List Int} {th : List Int} {sl : List Int} {tr : Nat} {bo : List Int} {x : Int} (hX : MI (hp) n G z c ks es ik kn kG kz kc kks kes tc tb sc tl so le it he th sl tr bo) (hx : w32 x = x) : ∃ h', MI (h') n G z c ks es ik kn kG kz kc kks kes tc tb sc tl so le it he th sl tr bo ∧ Fr 54 83 hp h' ∧ ∀ R : PO, callD (d + 100) 246 [mR 54, mI x] hp R ↔ R (some (mI (liA n G x))) h' := by
  have hX0 := hX
  obtain ⟨g0, g33, g34, cK, hA, hG⟩ := MI_ws hX
  have hK := hA.1
  have h1 := hK.1.1
  have h6 := hK.1.2
  have bn : n < 2147483648 := by omega
  have i6 : w32 6 = 6 := rfl
  unfold liA
  by_cases c0 : 0 ≤ x
  · rw [if_pos c0]
    have n0 : (x < 0) = False := eq_false (by clear hx; omega)
    by_cases h5 : n ≤ 5
    · rw [if_pos h5]
      have n6 : ((n : Int) = 6) = False := eq_false (by clear hx; omega)
      obtain ⟨I, eI⟩ : ∃ I : Nat, x = (I : Int) := ⟨x.toNat, by clear hx; omega⟩
      have bI := w32_in x
      rw [hx] at bI
      subst eI
      have hI : I < 2147483648 := by clear hx; omega
      rw [Int.toNat_natCast]
      obtain ⟨⟨u1, u2, u3⟩, kN, kZ, kM, kGm, l5, l6, qk, q0, q1, q2, q3, q4, q5, q6, q7, q8, q9⟩ := hX
      obtain ⟨li, fa, fe, qu, ls, il, ⟨c1, c2, c3, c4, c5, c6⟩, n1, n2, n3, n4, n5, n6'⟩ := q5
      obtain ⟨h1', il', a1, a2, a3, a4, a5, a6⟩ := m_lsFill d (I := (I : Int)) none 120 0 il hp rfl hX0 c6 n6' (fun y hy => absurd hy (Nat.not_lt_zero y))
      obtain ⟨-, -, -, cK', hA', -⟩ := MI_ws a1
      have hX1 := a1
      obtain ⟨-, kN1, kZ1, kM1, kGm1, l51, l61, qk1, r0, r1, r2, r3, r4, r5, r6, r7, r8, r9⟩ := hX1
      obtain ⟨li1, fa1, fe1, qu1, ls1, il1, ⟨d1, d2, d3, d4, d5, d6⟩, m1, m2, m3, m4, m5, m6⟩ := r5
      have f0 : 0 < FC n := FC_pos h1 h6
      have r0' : ∀ R : PO, callD (d + 99) 168 [mR 54, mI 0] h1' R ↔ R (some (mI ((num n 0 : Nat) : Int))) h1' := fun R => m_rowBy (d + 97) hA'.1 f0 R
      obtain ⟨h2', v1, v2, v3⟩ := m_lsLoop d (I := I) hI h5 121 (some 0) [] ls1 il' h1' rfl (fun y hy => by cases hy; exact ⟨f0, List.not_mem_nil⟩) (cnt_zero (fun k _ => decide_eq_false List.not_mem_nil)) a1 d5 a3 m5 a4 (fun k hk => absurd hk (Nat.not_lt_zero k)) (fun y hy => by rw [a5 y hy, show (fun y => decide (y ∈ ([] : List Nat))) y = false from decide_eq_false List.not_mem_nil]; rfl) rfl
      have el : (if (I : Int) < ((LST n G).length : Int) then ((num n ((LST n G).getD I 0) : Nat) : Int) else -3) = lsA n G I := by
        unfold lsA
        by_cases c : I < (LST n G).length
        · rw [if_pos c, if_pos (by clear hx; omega)]
        · rw [if_neg c, if_neg (by clear hx; omega)]
      rw [el]
      refine ⟨h2', v1, Fr_trans a2 v2, fun R => ?_⟩
      have a6 := a6 R
      have v3 := v3 R
      refine Iff.trans ?_ v3
      have st : callD (d + 100) 246 [mR 54, mI (I : Int)] hp R ↔ AWh (d + 99) [] 246 R 12 [some (mR 54), some (mI (I : Int)), some (mI 0), none] [] hp (0, 0) := by
        rw [callD_k]; simp only [entL_i, entL_l, entL_q, entL_s, entL_nil, n_X11_listed, u_X11_listed, m_X11_listed, rep_2, List.cons_append, List.nil_append, List.append_nil, List.length_cons, List.length_nil, Nat.reduceAdd, true_and]
        simp only [AW_k, AWk_1, x_iload_1, x_if_ge, x_push_i, x_push_l, x_ret, x_ret_i, x_ret_z, x_ret_l, x_ret_c, x_aload_0, x_aloads_0, x_getf, x_icmp_ne, x_istore_2, x_iload_2, unl_i, unl_l, unl_q, unl_r, unl_s, unl_n, k_X11_listed_0, k_X11_listed_1, k_X11_listed_2, k_X11_listed_3, k_X11_listed_4, k_X11_listed_5, k_X11_listed_6, k_X11_listed_7, k_X11_listed_8, k_X11_listed_9, k_X11_listed_10, k_X11_listed_11, k_X11_listed_12, oE_some, Int.reduceToNat, Nat.reduceAdd, true_and, and_true, List.length_cons, List.length_nil, Option.toList_some, Option.toList_none, List.cons_append, List.nil_append, Nat.reduceLeDiff, Nat.le_refl, wdS_nil, wdS_i, wdS_l, wdS_r, wdS_n, wdS_s, w32_nat hI, n0, g0, w32_nat bn, i6, n6, ↓reduceIte]
      refine st.trans (a6.trans ?_)
      simp only [AW_k, AWk_1, x_push_i, x_push_l, x_istore_2, x_aload_0, x_aloads_0, x_callv_2, x_istore_3, x_iload_3, unl_i, unl_l, unl_q, unl_r, unl_s, unl_n, k_X11_listed_22, k_X11_listed_23, k_X11_listed_24, k_X11_listed_25, k_X11_listed_26, k_X11_listed_27, k_X11_listed_28, oE_some, Int.reduceToNat, Nat.reduceAdd, true_and, and_true, List.length_cons, List.length_nil, Option.toList_some, Option.toList_none, List.cons_append, List.nil_append, Nat.reduceLeDiff, Nat.le_refl, wdS_nil, wdS_i, wdS_l, wdS_r, wdS_n, wdS_s, cK', r0']
      all_goals exact Iff.rfl
    · rw [if_neg h5]
      have n6 : ((n : Int) = 6) = True := eq_true (by clear hx; omega)
      refine ⟨hp, hX0, Fr_refl hp, fun R => ?_⟩
      rw [callD_k]; simp only [entL_i, entL_l, entL_q, entL_s, entL_nil, n_X11_listed, u_X11_listed, m_X11_listed, rep_2, List.cons_append, List.nil_append, List.append_nil, List.length_cons, List.length_nil, Nat.reduceAdd, true_and]
      simp only [AW_k, AWk_1, x_iload_1, x_if_ge, x_push_i, x_push_l, x_ret, x_ret_i, x_ret_z, x_ret_l, x_ret_c, x_aload_0, x_aloads_0, x_getf, x_icmp_ne, k_X11_listed_0, k_X11_listed_1, k_X11_listed_2, k_X11_listed_3, k_X11_listed_4, k_X11_listed_5, k_X11_listed_6, k_X11_listed_7, k_X11_listed_8, k_X11_listed_9, oE_some, Int.reduceToNat, Nat.reduceAdd, true_and, and_true, List.length_cons, List.length_nil, Option.toList_some, Option.toList_none, List.cons_append, List.nil_append, Nat.reduceLeDiff, Nat.le_refl, wdS_nil, wdS_i, wdS_l, wdS_r, wdS_n, wdS_s, hx, n0, g0, w32_nat bn, i6, n6, ↓reduceIte]
  · rw [if_neg c0]
    have n0 : (x < 0) = True := eq_true (by clear hx; omega)
    refine ⟨hp, hX0, Fr_refl hp, fun R => ?_⟩
    rw [callD_k]; simp only [entL_i, entL_l, entL_q, entL_s, entL_nil, n_X11_listed, u_X11_listed, m_X11_listed, rep_2, List.cons_append, List.nil_append, List.append_nil, List.length_cons, List.length_nil, Nat.reduceAdd, true_and]
    simp only [AW_k, AWk_1, x_iload_1, x_if_ge, x_push_i, x_push_l, x_ret, x_ret_i, x_ret_z, x_ret_l, x_ret_c, k_X11_listed_0, k_X11_listed_1, k_X11_listed_2, k_X11_listed_3, oE_some, Int.reduceToNat, Nat.reduceAdd, true_and, and_true, List.length_cons, List.length_nil, Option.toList_some, Option.toList_none, List.cons_append, List.nil_append, Nat.reduceLeDiff, Nat.le_refl, wdS_nil, wdS_i, wdS_l, wdS_r, wdS_n, wdS_s, hx, n0, ↓reduceIte]
