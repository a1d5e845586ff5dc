/-! ===== the reference reads a text: its state ===== -/
theorem MI_PF {hp h : HP} {n : Nat} {G : BitVec 64} {z : Int} {c : Nat} {ks : List Int} {es : List Int} {ik : Bool} {kn : Nat} {kG : BitVec 64} {kz : Int} {kc : Nat} {kks : List Int} {kes : List Int} {tc : Nat} {tb : List Int} {sc : Nat} {tl : List Int} {so : List Int} {le : List Int} {it : Nat → List (BitVec 64)} {he : List Int} {th : List Int} {sl : List Int} {tr : Nat} {bo : List Int} {x y : Int} (hX : MI (hp) n G z c ks es ik kn kG kz kc kks kes tc tb sc tl so le it he th sl tr bo) (p : PF hp h) (g24 : gF h 54 11 24 = some (mI x)) (g25 : gF h 54 11 25 = some (mI y)) : MI (h) n G z c ks es ik kn kG kz kc kks kes tc tb sc tl so le it he th sl tr bo := by
  have hX0 := hX
  obtain ⟨⟨u1, u2, u3⟩, kN, kZ, kM, kGm, l5, l6, qk, q0, q1, q2, q3, q4, q5, q6, q7, q8, q9⟩ := hX
  obtain ⟨fr_, to_, co_, op_, wr_, ki_, nu_, mm_, pa_, e0⟩ := q0
  have f := p.1
  have g0 : gF h 54 11 0 = some (mI (n : Int)) := (p.2 0 (by decide) (by decide)).trans (gF_c e0 0)
  obtain ⟨fs, hfs⟩ : ∃ fs, h[54]? = some (.inl (11, fs)) := by
    unfold gF at g0
    split at g0
    · next cc fs hh =>
      split at g0
      · next hc => subst hc; exact ⟨fs, hh⟩
      · cases g0
    · cases g0
  have el : fs = mFs n z c G ik tc sc tr kN kZ kM kGm x y co_ op_ wr_ ki_ nu_ mm_ pa_ := by
    apply List.ext_getElem?
    intro k
    have hk := gF_c hfs k
    by_cases c24 : k = 24
    · subst c24
      rw [← hk, g24]
      rfl
    · by_cases c25 : k = 25
      · subst c25
        rw [← hk, g25]
        rfl
      · rw [← hk, p.2 k c24 c25, gF_c e0 k]
        have e1 : mFs n z c G ik tc sc tr kN kZ kM kGm x y co_ op_ wr_ ki_ nu_ mm_ pa_ = ((mFs n z c G ik tc sc tr kN kZ kM kGm fr_ to_ co_ op_ wr_ ki_ nu_ mm_ pa_).set 24 (mI x)).set 25 (mI y) := rfl
        rw [e1, List.getElem?_set_ne (fun q => c25 q.symm), List.getElem?_set_ne (fun q => c24 q.symm)]
  rw [el] at hfs
  exact MI_mk (kN := kN) (kZ := kZ) (kM := kM) (kGm := kGm) (l5 := l5) (l6 := l6) hX0 f.1 ⟨u2, u3⟩ qk hfs (YT_S q1 (Sm_Fr f (by omega))) (YM_S q2 (Sm_Fr f (by omega))) (YK_S q3 (Sm_Fr f (by omega))) (Sm_Fr f (by omega))
def TS (hp : HP) (n : Nat) (G : BitVec 64) (z : Int) (c : Nat) (ks : List Int) (es : List Int) (ik : Bool) (kn : Nat) (kG : BitVec 64) (kz : Int) (kc : Nat) (kks : List Int) (kes : List Int) (tc : Nat) (tb : List Int) (sc : Nat) (tl : List Int) (so : List Int) (le : List Int) (it : Nat → List (BitVec 64)) (he : List Int) (th : List Int) (sl : List Int) (tr : Nat) (bo : List Int) (k : Nat) (cs : List Int) (o : Nat) (wr : Bool) : Prop := MI (hp) n G z c ks es ik kn kG kz kc kks kes tc tb sc tl so le it he th sl tr bo ∧ (byOK tb (bO tb) ∧ tc ≤ 200) ∧ k ≤ (TT (bO tb) tc).length ∧ (gF hp 54 11 24 = some (mI ((tB tc (TT (bO tb) tc) k : Nat) : Int)) ∧ gF hp 54 11 25 = some (mI ((tE (bO tb) tc k : Nat) : Int)) ∧ gF hp 54 11 26 = some (mI (cs.length : Int)) ∧ gF hp 54 11 27 = some (mI (o : Int)) ∧ gF hp 54 11 28 = some (mI (zI wr))) ∧ ∃ co, gA hp 66 = some co ∧ co.length = 200 ∧ ∀ i, i < cs.length → co.getD i 0 = cs.getD i 0
theorem TS_RD {hp : HP} {n : Nat} {G : BitVec 64} {z : Int} {c : Nat} {ks : List Int} {es : List Int} {ik : Bool} {kn : Nat} {kG : BitVec 64} {kz : Int} {kc : Nat} {kks : List Int} {kes : List Int} {tc : Nat} {tb : List Int} {sc : Nat} {tl : List Int} {so : List Int} {le : List Int} {it : Nat → List (BitVec 64)} {he : List Int} {th : List Int} {sl : List Int} {tr : Nat} {bo : List Int} {k o : Nat} {cs : List Int} {wr : Bool} (h : TS hp n G z c ks es ik kn kG kz kc kks kes tc tb sc tl so le it he th sl tr bo k cs o wr) : RD hp tb tc ∧ gF hp 54 11 21 = some (mR 66) ∧ gF hp 54 11 22 = some (mR 67) ∧ gC hp 54 = some 11 := by
  obtain ⟨hX, ⟨hb, hc⟩, -, -, -⟩ := h
  obtain ⟨⟨u1, u2, u3⟩, kN, kZ, kM, kGm, l5, l6, qk, q0, q1, q2, q3, q4, q5, q6, q7, q8, q9⟩ := hX
  obtain ⟨fr_, to_, co_, op_, wr_, ki_, nu_, mm_, pa_, hF⟩ := YO_F q0
  have hA : MA hp n := ⟨⟨⟨u2, u3⟩, hF 0, hF 18, hF 19, q1.1.1, q1.1.2⟩, ⟨hF 13, hF 14, hF 15, hF 16, hF 17⟩, q1.2⟩
  have hK := hA.1
  have cK := cM hK
  have hG : gF hp 54 11 3 = some (mL G) := hF 3
  exact ⟨⟨hF 20, q4.1.1, hF 23, hb, hc, cK⟩, hF 21, hF 22, cK⟩
theorem tE_200 {tb : List Int} {tc k : Nat} (hc : tc ≤ 200) (hk : k ≤ (TT (bO tb) tc).length) : tB tc (TT (bO tb) tc) k ≤ tE (bO tb) tc k ∧ tE (bO tb) tc k ≤ tc := by
  unfold tB tE
  by_cases c : k < (TT (bO tb) tc).length
  · rw [if_pos c, if_pos c]
    have := tks_mem 200 0 _ (getD_mem2 c)
    exact ⟨Nat.le_of_lt this.2.2.1, this.2.2.2.1⟩
  · rw [if_neg c, if_neg c]
    exact ⟨Nat.le_refl _, Nat.le_refl _⟩
theorem t_is (d : Nat) {hp : HP} {n : Nat} {G : BitVec 64} {z : Int} {c : Nat} {ks : List Int} {es : List Int} {ik : Bool} {kn : Nat} {kG : BitVec 64} {kz : Int} {kc : Nat} {kks : List Int} {kes : List Int} {tc : Nat} {tb : List Int} {sc : Nat} {tl : List Int} {so : List Int} {le : List Int} {it : Nat → List (BitVec 64)} {he : List Int} {th : List Int} {sl : List Int} {tr : Nat} {bo : List Int} {k o j : Nat} {cs : List Int} {wr : Bool} (h : TS hp n G z c ks es ik kn kG kz kc kks kes tc tb sc tl so le it he th sl tr bo k cs o wr) (h8 : 8 ≤ j) (h21 : j < 21) (R : PO) : callD (d + 5) 214 [mR 54, mS (100 + j)] hp R ↔ R (some (mI (zI (decide (tW (bO tb) (TT (bO tb) tc) k = cdJ j))))) hp := by
  obtain ⟨r, -, -, -⟩ := TS_RD h
  obtain ⟨-, ⟨hb, hc⟩, hk, ⟨g24, g25, -⟩, -⟩ := h
  have := tE_200 hc hk
  rw [m_is d r g24 g25 h21 this.1 (by omega) R, isT h8 h21 hk]
theorem t_next (d : Nat) {hp : HP} {n : Nat} {G : BitVec 64} {z : Int} {c : Nat} {ks : List Int} {es : List Int} {ik : Bool} {kn : Nat} {kG : BitVec 64} {kz : Int} {kc : Nat} {kks : List Int} {kes : List Int} {tc : Nat} {tb : List Int} {sc : Nat} {tl : List Int} {so : List Int} {le : List Int} {it : Nat → List (BitVec 64)} {he : List Int} {th : List Int} {sl : List Int} {tr : Nat} {bo : List Int} {k o : Nat} {cs : List Int} {wr : Bool} (h : TS hp n G z c ks es ik kn kG kz kc kks kes tc tb sc tl so le it he th sl tr bo k cs o wr) (hk1 : k < (TT (bO tb) tc).length) : ∃ h', TS h' n G z c ks es ik kn kG kz kc kks kes tc tb sc tl so le it he th sl tr bo (k + 1) cs o wr ∧ Fr 54 83 hp h' ∧ ∀ R : PO, callD (d + 2) 213 [mR 54] hp R ↔ R none h' := by
  obtain ⟨r, -, -, -⟩ := TS_RD h
  obtain ⟨hX, ⟨hb, hc⟩, hk, ⟨g24, g25, g26, g27, g28⟩, co, a66, c2, c3⟩ := h
  obtain ⟨t1, t2⟩ := TK_k hc hk1
  obtain ⟨h', p, w24, w25, w⟩ := m_next d r g24 g25 ⟨_, rfl⟩ t2 (k := k + 1) hk1 t1
  refine ⟨h', ⟨MI_PF hX p w24 w25, ⟨hb, hc⟩, hk1, ⟨w24, w25, by rw [p.2 26 (by decide) (by decide), g26], by rw [p.2 27 (by decide) (by decide), g27], by rw [p.2 28 (by decide) (by decide), g28]⟩, co, by rw [gA_Fr p.1 (by omega), a66], c2, c3⟩, Fr_mono p.1 (by omega) (by omega), w⟩
theorem TS_28 {hp : HP} {n : Nat} {G : BitVec 64} {z : Int} {c : Nat} {ks : List Int} {es : List Int} {ik : Bool} {kn : Nat} {kG : BitVec 64} {kz : Int} {kc : Nat} {kks : List Int} {kes : List Int} {tc : Nat} {tb : List Int} {sc : Nat} {tl : List Int} {so : List Int} {le : List Int} {it : Nat → List (BitVec 64)} {he : List Int} {th : List Int} {sl : List Int} {tr : Nat} {bo : List Int} {k o : Nat} {cs : List Int} {wr : Bool} (w : Bool) (h : TS hp n G z c ks es ik kn kG kz kc kks kes tc tb sc tl so le it he th sl tr bo k cs o wr) : TS (pF hp 54 11 28 (mI (zI w))) n G z c ks es ik kn kG kz kc kks kes tc tb sc tl so le it he th sl tr bo k cs o w := by
  obtain ⟨hX, b, hk, ⟨g24, g25, g26, g27, g28⟩, co, a66, c2, c3⟩ := h
  exact ⟨MI_g28 hX, b, hk, ⟨by rw [gF_pF (by omega), g24], by rw [gF_pF (by omega), g25], by rw [gF_pF (by omega), g26], by rw [gF_pF (by omega), g27], gF_pF_same g28⟩, co, by rw [gA_pF, a66], c2, c3⟩
theorem TS_27 {hp : HP} {n : Nat} {G : BitVec 64} {z : Int} {c : Nat} {ks : List Int} {es : List Int} {ik : Bool} {kn : Nat} {kG : BitVec 64} {kz : Int} {kc : Nat} {kks : List Int} {kes : List Int} {tc : Nat} {tb : List Int} {sc : Nat} {tl : List Int} {so : List Int} {le : List Int} {it : Nat → List (BitVec 64)} {he : List Int} {th : List Int} {sl : List Int} {tr : Nat} {bo : List Int} {k o : Nat} {cs : List Int} {wr : Bool} (w : Nat) (h : TS hp n G z c ks es ik kn kG kz kc kks kes tc tb sc tl so le it he th sl tr bo k cs o wr) : TS (pF hp 54 11 27 (mI (w : Int))) n G z c ks es ik kn kG kz kc kks kes tc tb sc tl so le it he th sl tr bo k cs w wr := by
  obtain ⟨hX, b, hk, ⟨g24, g25, g26, g27, g28⟩, co, a66, c2, c3⟩ := h
  exact ⟨MI_g27 hX, b, hk, ⟨by rw [gF_pF (by omega), g24], by rw [gF_pF (by omega), g25], by rw [gF_pF (by omega), g26], gF_pF_same g27, by rw [gF_pF (by omega), g28]⟩, co, by rw [gA_pF, a66], c2, c3⟩
theorem MI_66 {hp : HP} {n : Nat} {G : BitVec 64} {z : Int} {c : Nat} {ks : List Int} {es : List Int} {ik : Bool} {kn : Nat} {kG : BitVec 64} {kz : Int} {kc : Nat} {kks : List Int} {kes : List Int} {tc : Nat} {tb : List Int} {sc : Nat} {tl : List Int} {so : List Int} {le : List Int} {it : Nat → List (BitVec 64)} {he : List Int} {th : List Int} {sl : List Int} {tr : Nat} {bo : List Int} {l m : List Int} (hX : MI (hp) n G z c ks es ik kn kG kz kc kks kes tc tb sc tl so le it he th sl tr bo) (h : gA hp 66 = some l) (hm : m.length = 200) : MI ((pA hp 66 m)) n G z c ks es ik kn kG kz kc kks kes tc tb sc tl so le it he th sl tr bo := by
  have hX0 := hX
  obtain ⟨⟨u1, u2, u3⟩, kN, kZ, kM, kGm, l5, l6, qk, q0, q1, q2, q3, q4, q5, q6, q7, q8, q9⟩ := hX
  obtain ⟨⟨a, a'⟩, co, st, ⟨c1, c2⟩, n1, n2⟩ := q4
  exact MI_P hX0 (Fr_pA (by omega) (by omega)) ⟨⟨by rw [gA_pA (by omega), a], a'⟩, m, st, ⟨gA_pA_same c1, by rw [gA_pA (by omega), c2]⟩, hm, n2⟩
theorem MI_67 {hp : HP} {n : Nat} {G : BitVec 64} {z : Int} {c : Nat} {ks : List Int} {es : List Int} {ik : Bool} {kn : Nat} {kG : BitVec 64} {kz : Int} {kc : Nat} {kks : List Int} {kes : List Int} {tc : Nat} {tb : List Int} {sc : Nat} {tl : List Int} {so : List Int} {le : List Int} {it : Nat → List (BitVec 64)} {he : List Int} {th : List Int} {sl : List Int} {tr : Nat} {bo : List Int} {l m : List Int} (hX : MI (hp) n G z c ks es ik kn kG kz kc kks kes tc tb sc tl so le it he th sl tr bo) (h : gA hp 67 = some l) (hm : m.length = 200) : MI ((pA hp 67 m)) n G z c ks es ik kn kG kz kc kks kes tc tb sc tl so le it he th sl tr bo := by
  have hX0 := hX
  obtain ⟨⟨u1, u2, u3⟩, kN, kZ, kM, kGm, l5, l6, qk, q0, q1, q2, q3, q4, q5, q6, q7, q8, q9⟩ := hX
  obtain ⟨⟨a, a'⟩, co, st, ⟨c1, c2⟩, n1, n2⟩ := q4
  exact MI_P hX0 (Fr_pA (by omega) (by omega)) ⟨⟨by rw [gA_pA (by omega), a], a'⟩, co, m, ⟨by rw [gA_pA (by omega), c1], gA_pA_same c2⟩, n1, hm⟩
/-- a code is laid down (or only written) -/
theorem TS_code {hp : HP} {n : Nat} {G : BitVec 64} {z : Int} {c : Nat} {ks : List Int} {es : List Int} {ik : Bool} {kn : Nat} {kG : BitVec 64} {kz : Int} {kc : Nat} {kks : List Int} {kes : List Int} {tc : Nat} {tb : List Int} {sc : Nat} {tl : List Int} {so : List Int} {le : List Int} {it : Nat → List (BitVec 64)} {he : List Int} {th : List Int} {sl : List Int} {tr : Nat} {bo : List Int} {k o : Nat} {cs : List Int} {wr : Bool} (v : Int) (h : TS hp n G z c ks es ik kn kG kz kc kks kes tc tb sc tl so le it he th sl tr bo k cs o wr) (hl : cs.length < 200) : ∃ co, gA hp 66 = some co ∧ inB (cs.length : Int) co.length ∧ TS (pF (pA hp 66 (co.set cs.length v)) 54 11 26 (mI ((cs.length + 1 : Nat) : Int))) n G z c ks es ik kn kG kz kc kks kes tc tb sc tl so le it he th sl tr bo k (cs ++ [v]) o wr ∧ TS (pF (pA hp 66 (co.set cs.length v)) 54 11 26 (mI (cs.length : Int))) n G z c ks es ik kn kG kz kc kks kes tc tb sc tl so le it he th sl tr bo k cs o wr := by
  obtain ⟨hX, b, hk, ⟨g24, g25, g26, g27, g28⟩, co, a66, c2, c3⟩ := h
  have hl2 : (co.set cs.length v).length = 200 := by rw [List.length_set]; exact c2
  have X1 := MI_66 hX a66 hl2
  have w : ∀ f, gF (pA hp 66 (co.set cs.length v)) 54 11 f = gF hp 54 11 f := fun f => gF_pA
  have el : (cs ++ [v]).length = cs.length + 1 := by rw [List.length_append]; rfl
  refine ⟨co, a66, by rw [c2]; exact inB_n hl (by decide), ⟨MI_g26 X1, b, hk, ⟨by rw [gF_pF (by omega), w, g24], by rw [gF_pF (by omega), w, g25], by rw [gF_pF_same ((w 26).trans g26), el], by rw [gF_pF (by omega), w, g27], by rw [gF_pF (by omega), w, g28]⟩, co.set cs.length v, by rw [gA_pF]; exact gA_pA_same a66, hl2, fun i hi => ?_⟩, ⟨MI_g26 X1, b, hk, ⟨by rw [gF_pF (by omega), w, g24], by rw [gF_pF (by omega), w, g25], gF_pF_same ((w 26).trans g26), by rw [gF_pF (by omega), w, g27], by rw [gF_pF (by omega), w, g28]⟩, co.set cs.length v, by rw [gA_pF]; exact gA_pA_same a66, hl2, fun i hi => ?_⟩⟩
  · rw [el] at hi
    rw [getD_set (by omega)]
    by_cases e : cs.length = i
    · subst e
      rw [if_pos rfl, List.getD_eq_getElem?_getD, List.getElem?_append_right (Nat.le_refl _), Nat.sub_self]
      rfl
    · rw [if_neg e, app_D (by omega)]
      exact c3 i (by omega)
  · rw [getD_set (by omega), if_neg (by omega)]
    exact c3 i hi
theorem TS_fr {hp : HP} {l : List Int} {v : AV} {f : Nat} : Fr 54 83 hp (pF (pA hp 66 l) 54 11 f v) := Fr_trans (Fr_pA (by omega) (by omega)) Fr_o54
set_option maxHeartbeats 16000000 in
theorem t_emits (d : Nat) {hp : HP} {n : Nat} {G : BitVec 64} {z : Int} {c : Nat} {ks : List Int} {es : List Int} {ik : Bool} {kn : Nat} {kG : BitVec 64} {kz : Int} {kc : Nat} {kks : List Int} {kes : List Int} {tc : Nat} {tb : List Int} {sc : Nat} {tl : List Int} {so : List Int} {le : List Int} {it : Nat → List (BitVec 64)} {he : List Int} {th : List Int} {sl : List Int} {tr : Nat} {bo : List Int} {k o : Nat} {cs : List Int} {wr : Bool} (v : Int) (h : TS hp n G z c ks es ik kn kG kz kc kks kes tc tb sc tl so le it he th sl tr bo k cs o wr) (hk1 : k < (TT (bO tb) tc).length) (hl : cs.length < 200) : ∃ h', TS h' n G z c ks es ik kn kG kz kc kks kes tc tb sc tl so le it he th sl tr bo (k + 1) (cs ++ [v]) o wr ∧ Fr 54 83 hp h' ∧ ∀ R : PO, callD (d + 3) 215 [mR 54, mI v] hp R ↔ R none h' := by
  obtain ⟨r, g21, g22, cK⟩ := TS_RD h
  have g26 := h.2.2.2.1.2.2.1
  obtain ⟨co, a66, ic, t1, -⟩ := TS_code v h hl
  obtain ⟨h', u1, u2, u3⟩ := t_next d t1 hk1
  have cK' := (TS_RD t1).2.2.2
  have bl : cs.length < 2147483648 := by omega
  have ek : (cs.length : Int) + 1 = ((cs.length + 1 : Nat) : Int) := by omega
  have w26 : ∀ l, gF (pA hp 66 l) 54 11 26 = some (mI (cs.length : Int)) := fun l => by rw [gF_pA, g26]
  refine ⟨h', u1, Fr_trans TS_fr u2, fun R => ?_⟩
  rw [callD_k]; simp only [entL_i, entL_l, entL_q, entL_s, entL_nil, n_X11_emits, u_X11_emits, m_X11_emits, rep_0, List.cons_append, List.nil_append, List.append_nil, List.length_cons, List.length_nil, Nat.reduceAdd, true_and]
  simp only [AW_k, AWk_1, x_aload_0, x_aloads_0, x_getf, x_iload_1, x_iast, x_dup_i, x_dup_r, x_dup_q, x_push_i, x_push_l, x_iadd, x_putf_i, x_callv_1, x_ret, x_ret_i, x_ret_z, x_ret_l, x_ret_c, k_X11_emits_0, k_X11_emits_1, k_X11_emits_2, k_X11_emits_3, k_X11_emits_4, k_X11_emits_5, k_X11_emits_6, k_X11_emits_7, k_X11_emits_8, k_X11_emits_9, k_X11_emits_10, k_X11_emits_11, k_X11_emits_12, k_X11_emits_13, k_X11_emits_14, oE_some, Int.reduceToNat, Nat.reduceAdd, true_and, and_true, List.length_cons, List.length_nil, Option.toList_some, Option.toList_none, List.cons_append, List.nil_append, Nat.reduceLeDiff, Nat.le_refl, wdS_nil, wdS_i, wdS_l, wdS_r, wdS_n, wdS_s, g21, a66, g26, ic, w32_nat bl, Int.toNat_natCast, w26, ek, cK', u3]
/-- the code of a word that tells a fact -/
def fcK (w : Nat) : Int := if w = 2 then -1 else if w = 3 then -2 else if w = 4 then -3 else if w = 5 then -4 else if w = 6 then -5 else 0
set_option maxHeartbeats 16000000 in
theorem t_fact (d : Nat) {hp : HP} {n : Nat} {G : BitVec 64} {z : Int} {c : Nat} {ks : List Int} {es : List Int} {ik : Bool} {kn : Nat} {kG : BitVec 64} {kz : Int} {kc : Nat} {kks : List Int} {kes : List Int} {tc : Nat} {tb : List Int} {sc : Nat} {tl : List Int} {so : List Int} {le : List Int} {it : Nat → List (BitVec 64)} {he : List Int} {th : List Int} {sl : List Int} {tr : Nat} {bo : List Int} {k o : Nat} {cs : List Int} {wr : Bool} (h : TS hp n G z c ks es ik kn kG kz kc kks kes tc tb sc tl so le it he th sl tr bo k cs o wr) (R : PO) : callD (d + 6) 216 [mR 54] hp R ↔ R (some (mI (fcK (tW (bO tb) (TT (bO tb) tc) k)))) hp := by
  have cK := (TS_RD h).2.2.2
  have c1 := fun R => t_is d (j := 11) h (by decide) (by decide) R
  have c2 := fun R => t_is d (j := 12) h (by decide) (by decide) R
  have c3 := fun R => t_is d (j := 13) h (by decide) (by decide) R
  have c4 := fun R => t_is d (j := 14) h (by decide) (by decide) R
  have c5 := fun R => t_is d (j := 15) h (by decide) (by decide) R
  rw [show (100 + 11 : Nat) = 111 from rfl, show cdJ 11 = 2 from rfl] at c1
  rw [show (100 + 12 : Nat) = 112 from rfl, show cdJ 12 = 3 from rfl] at c2
  rw [show (100 + 13 : Nat) = 113 from rfl, show cdJ 13 = 4 from rfl] at c3
  rw [show (100 + 14 : Nat) = 114 from rfl, show cdJ 14 = 5 from rfl] at c4
  rw [show (100 + 15 : Nat) = 115 from rfl, show cdJ 15 = 6 from rfl] at c5
  generalize tW (bO tb) (TT (bO tb) tc) k = w at *
  unfold fcK
  rw [callD_k]; simp only [entL_i, entL_l, entL_q, entL_s, entL_nil, n_X11_factHere, u_X11_factHere, m_X11_factHere, rep_0, List.cons_append, List.nil_append, List.append_nil, List.length_cons, List.length_nil, Nat.reduceAdd, true_and]
  by_cases q1 : w = 2
  · rw [decide_eq_true q1] at c1
    rw [if_pos q1]
    simp only [AW_k, AWk_1, x_aload_0, x_aloads_0, x_ldcs, x_callv_2, x_if_eq, x_push_i, x_push_l, x_goto, x_ret, x_ret_i, x_ret_z, x_ret_l, x_ret_c, k_X11_factHere_0, k_X11_factHere_1, k_X11_factHere_2, k_X11_factHere_3, k_X11_factHere_4, k_X11_factHere_5, k_X11_factHere_6, k_X11_factHere_7, k_X11_factHere_8, k_X11_factHere_9, k_X11_factHere_10, k_X11_factHere_11, k_X11_factHere_12, k_X11_factHere_13, k_X11_factHere_14, k_X11_factHere_15, k_X11_factHere_16, k_X11_factHere_17, k_X11_factHere_18, k_X11_factHere_19, k_X11_factHere_20, k_X11_factHere_21, k_X11_factHere_22, k_X11_factHere_23, k_X11_factHere_24, k_X11_factHere_25, k_X11_factHere_26, k_X11_factHere_27, k_X11_factHere_28, k_X11_factHere_29, k_X11_factHere_30, k_X11_factHere_31, oE_some, Int.reduceToNat, Nat.reduceAdd, true_and, and_true, List.length_cons, List.length_nil, Option.toList_some, Option.toList_none, List.cons_append, List.nil_append, Nat.reduceLeDiff, Nat.le_refl, wdS_nil, wdS_i, wdS_l, wdS_r, wdS_n, wdS_s, show (11 : Nat) < 21 by decide, Nat.reduceLT, cK, c1, zI_t, w10, ↓reduceIte]
  · rw [decide_eq_false q1] at c1
    rw [if_neg q1]
    by_cases q2 : w = 3
    · rw [decide_eq_true q2] at c2
      rw [if_pos q2]
      simp only [AW_k, AWk_1, x_aload_0, x_aloads_0, x_ldcs, x_callv_2, x_if_eq, x_push_i, x_push_l, x_goto, x_ret, x_ret_i, x_ret_z, x_ret_l, x_ret_c, k_X11_factHere_0, k_X11_factHere_1, k_X11_factHere_2, k_X11_factHere_3, k_X11_factHere_4, k_X11_factHere_5, k_X11_factHere_6, k_X11_factHere_7, k_X11_factHere_8, k_X11_factHere_9, k_X11_factHere_10, k_X11_factHere_11, k_X11_factHere_12, k_X11_factHere_13, k_X11_factHere_14, k_X11_factHere_15, k_X11_factHere_16, k_X11_factHere_17, k_X11_factHere_18, k_X11_factHere_19, k_X11_factHere_20, k_X11_factHere_21, k_X11_factHere_22, k_X11_factHere_23, k_X11_factHere_24, k_X11_factHere_25, k_X11_factHere_26, k_X11_factHere_27, k_X11_factHere_28, k_X11_factHere_29, k_X11_factHere_30, k_X11_factHere_31, oE_some, Int.reduceToNat, Nat.reduceAdd, true_and, and_true, List.length_cons, List.length_nil, Option.toList_some, Option.toList_none, List.cons_append, List.nil_append, Nat.reduceLeDiff, Nat.le_refl, wdS_nil, wdS_i, wdS_l, wdS_r, wdS_n, wdS_s, Nat.reduceLT, cK, c1, c2, zI_t, zI_f, w10, w00, ↓reduceIte]
    · rw [decide_eq_false q2] at c2
      rw [if_neg q2]
      by_cases q3 : w = 4
      · rw [decide_eq_true q3] at c3
        rw [if_pos q3]
        simp only [AW_k, AWk_1, x_aload_0, x_aloads_0, x_ldcs, x_callv_2, x_if_eq, x_push_i, x_push_l, x_goto, x_ret, x_ret_i, x_ret_z, x_ret_l, x_ret_c, k_X11_factHere_0, k_X11_factHere_1, k_X11_factHere_2, k_X11_factHere_3, k_X11_factHere_4, k_X11_factHere_5, k_X11_factHere_6, k_X11_factHere_7, k_X11_factHere_8, k_X11_factHere_9, k_X11_factHere_10, k_X11_factHere_11, k_X11_factHere_12, k_X11_factHere_13, k_X11_factHere_14, k_X11_factHere_15, k_X11_factHere_16, k_X11_factHere_17, k_X11_factHere_18, k_X11_factHere_19, k_X11_factHere_20, k_X11_factHere_21, k_X11_factHere_22, k_X11_factHere_23, k_X11_factHere_24, k_X11_factHere_25, k_X11_factHere_26, k_X11_factHere_27, k_X11_factHere_28, k_X11_factHere_29, k_X11_factHere_30, k_X11_factHere_31, oE_some, Int.reduceToNat, Nat.reduceAdd, true_and, and_true, List.length_cons, List.length_nil, Option.toList_some, Option.toList_none, List.cons_append, List.nil_append, Nat.reduceLeDiff, Nat.le_refl, wdS_nil, wdS_i, wdS_l, wdS_r, wdS_n, wdS_s, Nat.reduceLT, cK, c1, c2, c3, zI_t, zI_f, w10, w00, ↓reduceIte]
      · rw [decide_eq_false q3] at c3
        rw [if_neg q3]
        by_cases q4 : w = 5
        · rw [decide_eq_true q4] at c4
          rw [if_pos q4]
          simp only [AW_k, AWk_1, x_aload_0, x_aloads_0, x_ldcs, x_callv_2, x_if_eq, x_push_i, x_push_l, x_goto, x_ret, x_ret_i, x_ret_z, x_ret_l, x_ret_c, k_X11_factHere_0, k_X11_factHere_1, k_X11_factHere_2, k_X11_factHere_3, k_X11_factHere_4, k_X11_factHere_5, k_X11_factHere_6, k_X11_factHere_7, k_X11_factHere_8, k_X11_factHere_9, k_X11_factHere_10, k_X11_factHere_11, k_X11_factHere_12, k_X11_factHere_13, k_X11_factHere_14, k_X11_factHere_15, k_X11_factHere_16, k_X11_factHere_17, k_X11_factHere_18, k_X11_factHere_19, k_X11_factHere_20, k_X11_factHere_21, k_X11_factHere_22, k_X11_factHere_23, k_X11_factHere_24, k_X11_factHere_25, k_X11_factHere_26, k_X11_factHere_27, k_X11_factHere_28, k_X11_factHere_29, k_X11_factHere_30, k_X11_factHere_31, oE_some, Int.reduceToNat, Nat.reduceAdd, true_and, and_true, List.length_cons, List.length_nil, Option.toList_some, Option.toList_none, List.cons_append, List.nil_append, Nat.reduceLeDiff, Nat.le_refl, wdS_nil, wdS_i, wdS_l, wdS_r, wdS_n, wdS_s, Nat.reduceLT, cK, c1, c2, c3, c4, zI_t, zI_f, w10, w00, ↓reduceIte]
        · rw [decide_eq_false q4] at c4
          rw [if_neg q4]
          by_cases q5 : w = 6
          · rw [decide_eq_true q5] at c5
            rw [if_pos q5]
            simp only [AW_k, AWk_1, x_aload_0, x_aloads_0, x_ldcs, x_callv_2, x_if_eq, x_push_i, x_push_l, x_goto, x_ret, x_ret_i, x_ret_z, x_ret_l, x_ret_c, k_X11_factHere_0, k_X11_factHere_1, k_X11_factHere_2, k_X11_factHere_3, k_X11_factHere_4, k_X11_factHere_5, k_X11_factHere_6, k_X11_factHere_7, k_X11_factHere_8, k_X11_factHere_9, k_X11_factHere_10, k_X11_factHere_11, k_X11_factHere_12, k_X11_factHere_13, k_X11_factHere_14, k_X11_factHere_15, k_X11_factHere_16, k_X11_factHere_17, k_X11_factHere_18, k_X11_factHere_19, k_X11_factHere_20, k_X11_factHere_21, k_X11_factHere_22, k_X11_factHere_23, k_X11_factHere_24, k_X11_factHere_25, k_X11_factHere_26, k_X11_factHere_27, k_X11_factHere_28, k_X11_factHere_29, k_X11_factHere_30, k_X11_factHere_31, oE_some, Int.reduceToNat, Nat.reduceAdd, true_and, and_true, List.length_cons, List.length_nil, Option.toList_some, Option.toList_none, List.cons_append, List.nil_append, Nat.reduceLeDiff, Nat.le_refl, wdS_nil, wdS_i, wdS_l, wdS_r, wdS_n, wdS_s, Nat.reduceLT, cK, c1, c2, c3, c4, c5, zI_t, zI_f, w10, w00, ↓reduceIte]
          · rw [decide_eq_false q5] at c5
            rw [if_neg q5]
            simp only [AW_k, AWk_1, x_aload_0, x_aloads_0, x_ldcs, x_callv_2, x_if_eq, x_push_i, x_push_l, x_goto, x_ret, x_ret_i, x_ret_z, x_ret_l, x_ret_c, k_X11_factHere_0, k_X11_factHere_1, k_X11_factHere_2, k_X11_factHere_3, k_X11_factHere_4, k_X11_factHere_5, k_X11_factHere_6, k_X11_factHere_7, k_X11_factHere_8, k_X11_factHere_9, k_X11_factHere_10, k_X11_factHere_11, k_X11_factHere_12, k_X11_factHere_13, k_X11_factHere_14, k_X11_factHere_15, k_X11_factHere_16, k_X11_factHere_17, k_X11_factHere_18, k_X11_factHere_19, k_X11_factHere_20, k_X11_factHere_21, k_X11_factHere_22, k_X11_factHere_23, k_X11_factHere_24, k_X11_factHere_25, k_X11_factHere_26, k_X11_factHere_27, k_X11_factHere_28, k_X11_factHere_29, k_X11_factHere_30, k_X11_factHere_31, oE_some, Int.reduceToNat, Nat.reduceAdd, true_and, and_true, List.length_cons, List.length_nil, Option.toList_some, Option.toList_none, List.cons_append, List.nil_append, Nat.reduceLeDiff, Nat.le_refl, wdS_nil, wdS_i, wdS_l, wdS_r, wdS_n, wdS_s, Nat.reduceLT, cK, c1, c2, c3, c4, c5, zI_f, w00, ↓reduceIte]
