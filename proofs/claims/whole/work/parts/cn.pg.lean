/-! ===== the reference reads a text: what holds, as a set ===== -/
def bP (n : Nat) (P : PSt → BitVec 64 × PSt) : Prop := ∀ s x, NA n ≤ x → x < 64 → (P s).1.getLsbD x = false
theorem bP_cmp {n : Nat} {W B : Nat → Nat} {V : Nat → Int} : bP n (cmpP n W B V) := by
  intro s x h1 h2
  have fN := NA_le n
  unfold cmpP
  dsimp only
  rw [stB_get (NA n) (by omega) x, decide_eq_false (by omega), Bool.false_and]
theorem bP_one {n o : Nat} {W B : Nat → Nat} {V : Nat → Int} {low : PSt → BitVec 64 × PSt} (h : bP n low) : bP n (oneP n W B V low o) := by
  intro s x h1 h2
  unfold oneP
  dsimp only
  generalize notP W B 200 false s = zs
  have e : ∀ Y : BitVec 64, Y.getLsbD x = false → (if zs.1 = true then aL n &&& ~~~ Y else Y).getLsbD x = false := by
    intro Y hY
    split
    · rw [BitVec.getLsbD_and, aL_bit h2, decide_eq_false (by omega), Bool.false_and]
    · exact hY
  refine e _ ?_
  split
  · exact h _ x h1 h2
  · exact bP_cmp _ x h1 h2
theorem bP_lop {n c : Nat} {W B : Nat → Nat} {g : BitVec 64 → BitVec 64 → BitVec 64} {sub : PSt → BitVec 64 × PSt} (h : bP n sub) (hg : ∀ a b : BitVec 64, ∀ x, a.getLsbD x = false → b.getLsbD x = false → (g a b).getLsbD x = false) : ∀ (f : Nat) (y : BitVec 64) (s : PSt), (∀ x, NA n ≤ x → x < 64 → y.getLsbD x = false) → ∀ x, NA n ≤ x → x < 64 → (lopP W B c g sub f y s).1.getLsbD x = false := by
  intro f
  induction f with
  | zero => intro y s hy; exact hy
  | succ f ih =>
    intro y s hy
    rw [lopP_succ]
    split
    · exact ih _ _ (fun x h1 h2 => hg _ _ x (hy x h1 h2) (h _ x h1 h2))
    · exact hy
theorem bP_all {n o : Nat} {W B : Nat → Nat} {V : Nat → Int} {low : PSt → BitVec 64 × PSt} (h : bP n low) : bP n (allP n W B V low o) := by
  intro s
  exact bP_lop (bP_one h) (fun a b x p q => by rw [BitVec.getLsbD_and, p, Bool.false_and]) 200 _ _ (bP_one h s)
theorem bP_any {n o : Nat} {W B : Nat → Nat} {V : Nat → Int} {low : PSt → BitVec 64 × PSt} (h : bP n low) : bP n (anyP n W B V low o) := by
  intro s
  exact bP_lop (bP_all h) (fun a b x p q => by rw [BitVec.getLsbD_or, p, q, Bool.false_or]) 200 _ _ (bP_all h s)
theorem bP_anyL {n : Nat} {W B : Nat → Nat} {V : Nat → Int} : ∀ k, bP n (anyL n W B V k) := by
  intro k
  induction k with
  | zero => exact bP_any (fun s x _ _ => BitVec.getLsbD_zero)
  | succ k ih => exact bP_any ih
theorem bP_okS {n : Nat} {P : PSt → BitVec 64 × PSt} {s : PSt} (h : bP n P) : okS n (P s).1 := by
  intro j hj
  apply Decidable.byContradiction
  intro q
  by_cases c : j < 64
  · rw [h s j (by omega) c] at hj; cases hj
  · rw [BitVec.getLsbD_of_ge _ _ (by omega)] at hj; cases hj
theorem st_id {n : Nat} {Y : BitVec 64} (h : okS n Y) : stB (fun x => Y.getLsbD x) (NA n) = Y := by
  have fN := NA_le n
  apply BitVec.eq_of_getLsbD_eq
  intro i hi
  rw [stB_get (NA n) (by omega) i]
  cases e : Y.getLsbD i with
  | false => rw [Bool.and_false]
  | true => rw [decide_eq_true (h i e)]; rfl
/-- no word is nothing -/
theorem nmC_0 {b : Nat → Nat} {p e : Nat} : nmC b p e ≠ 0 := by
  unfold nmC
  repeat (first | decide | split)
theorem wcd_0 {b : Nat → Nat} {p e : Nat} : wcd b p e ≠ 0 := by
  unfold wcd
  split
  · split <;> decide
  · split
    · exact nmC_0
    · split
      · next q =>
        intro z
        rw [z] at q
        exact absurd q (by decide)
      · decide
theorem tW_0 {b : Nat → Nat} {T : List (Nat × Nat)} {k : Nat} : (tW b T k = 0) ↔ ¬ k < T.length := by
  unfold tW
  split
  · next q => exact ⟨fun z => absurd z wcd_0, fun z => absurd q z⟩
  · next q => exact ⟨fun _ => q, fun _ => rfl⟩
theorem tB_tc {b : Nat → Nat} {tc k : Nat} : (tB tc (TT b tc) k < tc) ↔ k < (TT b tc).length := by
  unfold tB
  split
  · next q => exact ⟨fun _ => q, fun _ => (tks_mem 200 0 _ (getD_mem2 q)).2.1⟩
  · next q => exact ⟨fun z => absurd z (Nat.lt_irrefl _), fun z => absurd z q⟩
set_option maxHeartbeats 16000000 in
theorem t_loop (d : Nat) {n : Nat} {G : BitVec 64} {z : Int} {c : Nat} {ks : List Int} {es : List Int} {ik : Bool} {kn : Nat} {kG : BitVec 64} {kz : Int} {kc : Nat} {kks : List Int} {kes : List Int} {tc : Nat} {tb : List Int} {sc : Nat} {tl : List Int} {so : List Int} {le : List Int} {it : Nat → List (BitVec 64)} {he : List Int} {th : List Int} {sl : List Int} {tr : Nat} {bo : List Int} {cs : List Int} {w : Int} {Y : BitVec 64} (hl : cs.length ≤ 200) (hd : dpS 0 cs = some 1) (hev : ∀ x, x < NA n → ∀ st, evS n x cs st = zI (Y.getLsbD x) :: st) : ∀ (f x : Nat) (hp : HP), x + f = NA n → HS hp n G z c ks es ik kn kG kz kc kks kes tc tb sc tl so le it he th sl tr bo cs → ∃ h', HS h' n G z c ks es ik kn kG kz kc kks kes tc tb sc tl so le it he th sl tr bo cs ∧ Fr 54 83 hp h' ∧ ∀ R : PO, AWh (d + 99) [] 225 R 52 [some (mR 54), some (mI w), some (mL (stB (fun x => Y.getLsbD x) x)), none, some (mI (x : Int))] [] hp (0, 0) ↔ AWh (d + 99) [] 225 R 52 [some (mR 54), some (mI w), some (mL (stB (fun x => Y.getLsbD x) (NA n))), none, some (mI ((NA n : Nat) : Int))] [] h' (0, 0) := by
  have fN := NA_le n
  have bN := NA_31 n
  intro f
  induction f with
  | zero =>
    intro x hp hx h
    have e : x = NA n := by omega
    subst e
    exact ⟨hp, h, Fr_refl hp, fun R => Iff.rfl⟩
  | succ f ih =>
    intro x hp hx h
    have hxN : x < NA n := by omega
    have bx : x < 2147483648 := by omega
    have x64 : x < 64 := by omega
    have f1 : ((x : Int) < ((NA n : Nat) : Int)) = True := eq_true (by omega)
    have e1 : (x : Int) + 1 = ((x + 1 : Nat) : Int) := by omega
    have cK := (HS_RD h).2.2
    have g17 := (MI_G h.1).1.2.1.2.2.2.2
    obtain ⟨h1, y1, y2, y3⟩ := t_holds (d + 95) h hxN hl hd (hev x hxN [])
    obtain ⟨h', u1, u2, u3⟩ := ih (x + 1) h1 (by omega) y1
    refine ⟨h', u1, Fr_trans y2 u2, fun R => ?_⟩
    rw [← u3 R, stB_succ]
    have sk := sh_k x64
    rw [w32_nat bx] at sk
    rw [AWh_k, k_X11_text_52]
    cases c : Y.getLsbD x with
    | true =>
      rw [c] at y3
      rw [if_pos rfl]
      simp only [AW_k, AWk_1, x_iload_4, x_aload_0, x_aloads_0, x_getf, x_icmp_ge, x_lload_2, x_callv_2, x_if_eq, x_push_i, x_push_l, x_lshl, x_goto, x_lor, x_lstore_2, x_iinc_4, unl_i, unl_l, unl_q, unl_r, unl_s, unl_n, k_X11_text_52, k_X11_text_53, k_X11_text_54, k_X11_text_55, k_X11_text_56, k_X11_text_57, k_X11_text_58, k_X11_text_59, k_X11_text_60, k_X11_text_61, k_X11_text_62, k_X11_text_63, k_X11_text_64, k_X11_text_65, k_X11_text_66, k_X11_text_67, k_X11_text_68, k_X11_text_69, oE_some, Int.reduceToNat, Nat.reduceAdd, true_and, and_true, List.length_cons, List.length_nil, Option.toList_some, Option.toList_none, List.cons_append, List.nil_append, Nat.reduceLeDiff, Nat.le_refl, wdS_nil, wdS_i, wdS_l, wdS_r, wdS_n, wdS_s, g17, w32_nat bx, w32_nat bN, f1, cK, y3, zI_t, w10, sk, e1, ↓reduceIte]
    | false =>
      rw [c] at y3
      rw [if_neg (by decide)]
      simp only [AW_k, AWk_1, x_iload_4, x_aload_0, x_aloads_0, x_getf, x_icmp_ge, x_lload_2, x_callv_2, x_if_eq, x_push_i, x_push_l, x_lshl, x_goto, x_lor, x_lstore_2, x_iinc_4, unl_i, unl_l, unl_q, unl_r, unl_s, unl_n, k_X11_text_52, k_X11_text_53, k_X11_text_54, k_X11_text_55, k_X11_text_56, k_X11_text_57, k_X11_text_58, k_X11_text_59, k_X11_text_60, k_X11_text_61, k_X11_text_62, k_X11_text_63, k_X11_text_64, k_X11_text_65, k_X11_text_66, k_X11_text_67, k_X11_text_68, k_X11_text_69, oE_some, Int.reduceToNat, Nat.reduceAdd, true_and, and_true, List.length_cons, List.length_nil, Option.toList_some, Option.toList_none, List.cons_append, List.nil_append, Nat.reduceLeDiff, Nat.le_refl, wdS_nil, wdS_i, wdS_l, wdS_r, wdS_n, wdS_s, g17, w32_nat bx, w32_nat bN, f1, cK, y3, zI_f, w00, e1, ↓reduceIte]
