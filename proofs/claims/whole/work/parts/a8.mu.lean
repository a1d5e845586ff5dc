/-! ===== polygons; what is gone makes a congruence ===== -/
/-- the polygon of two gaps p < q at j, where both go the same way (b: down) -/
def pgn (n j p q : Nat) (b : Bool) : Bool :=
  if q = p + 1 then
    (dn n (bs n j p) q == b) && ((dn n (bs n (bs n j p) q) p == b) && ((dn n (bs n j q) p == b) && ((dn n (bs n (bs n j q) p) q == b) &&
    ((bs n (bs n (bs n j p) q) p == bs n (bs n (bs n j q) p) q) && ((ar n (bs n (bs n j p) q) p == ar n j q) && ((ar n (bs n (bs n j q) p) q == ar n j p) &&
    (fr n (ar n j p) (ar n (bs n j p) q) && (fr n (ar n j q) (ar n (bs n j p) q) && (fr n (ar n j p) (ar n (bs n j q) p) && fr n (ar n j q) (ar n (bs n j q) p))))))))))
  else (dn n (bs n j p) q == b) && ((dn n (bs n j q) p == b) && ((bs n (bs n j p) q == bs n (bs n j q) p) && ((ar n (bs n j p) q == ar n j q) && (ar n (bs n j q) p == ar n j p))))
def pg_b (n : Nat) : Bool := allB (fun j => allB (fun q => allB (fun p => !(dn n j p == dn n j q) || pgn n j p q (dn n j p)) q) (n - 1)) (FC n)
theorem pg_c : all6 pg_b = true := by decide +kernel
theorem pg_ok {n j p q : Nat} {b : Bool} (h1 : 1 ≤ n) (h6 : n ≤ 6) (hj : j < FC n) (hq : q < n - 1) (hpq : p < q) (dp : dn n j p = b) (dq : dn n j q = b) : pgn n j p q b = true := by
  have := allB_of (allB_of (allB_of (all6_of pg_c h1 h6) j hj) q hq) p hpq
  rw [dp, dq] at this
  simpa using this
/-- back by the same gap -/
def bk_b (n : Nat) : Bool := allB (fun j => allB (fun p => bs n (bs n j p) p == j && (dn n (bs n j p) p == !dn n j p && ar n (bs n j p) p == ar n j p)) (n - 1)) (FC n)
theorem bk_c : all6 bk_b = true := by decide +kernel
theorem bk_ok {n j p : Nat} (h1 : 1 ≤ n) (h6 : n ≤ 6) (hj : j < FC n) (hp : p < n - 1) : bs n (bs n j p) p = j ∧ dn n (bs n j p) p = !dn n j p ∧ ar n (bs n j p) p = ar n j p := by
  have := allB_of (allB_of (all6_of bk_c h1 h6) j hj) p hp
  simp only [Bool.and_eq_true, beq_iff_eq] at this
  exact this
/-- a set that is closed -/
def clo (n : Nat) (G : BitVec 64) : Prop := okS n G ∧ ∀ a b, G.getLsbD a = true → fr n a b = true → G.getLsbD b = true
/-- a step that way of an arc that is gone ends alike -/
def GS (n : Nat) (G : BitVec 64) (b : Bool) (j p : Nat) : Prop := p < n - 1 ∧ dn n j p = b ∧ G.getLsbD (ar n j p) = true
theorem fgD_GS {n j p : Nat} {G : BitVec 64} {b : Bool} (e : fgD n G j b = some p) : GS n G b j p := by
  have q := (fst_some e).2.2
  rw [mDU_eq, Bool.and_eq_true, beq_iff_eq] at q
  exact ⟨fgo_lt e, q.1, q.2⟩
theorem GS_fgD {n j p : Nat} {G : BitVec 64} {b : Bool} (g : GS n G b j p) : ∃ p', fgD n G j b = some p' := by
  cases e : fgD n G j b with
  | some p' => exact ⟨p', rfl⟩
  | none =>
    have := fst_none e p (Nat.zero_le _) (by have := g.1; omega)
    rw [mDU_eq, g.2.1, g.2.2] at this
    simp at this
theorem gMs_GS {n j p : Nat} {G : BitVec 64} {b : Bool} (h1 : 1 ≤ n) (h6 : n ≤ 6) (hj : j < FC n) (g : GS n G b j p) : gMs n b (bs n j p) + 1 = gMs n b j := by
  obtain ⟨hp, hd, -⟩ := g
  obtain ⟨s1, s2⟩ := (st_ok h1 h6 hj).2 p hp
  have s3 := (st_ok h1 h6 (bs_ok h1 h6 hj hp)).1
  unfold gMs
  cases b with
  | true => rw [if_pos rfl, if_pos rfl]; exact s1 hd
  | false => rw [if_neg (by decide), if_neg (by decide)]; have := s2 hd; omega
theorem GS_end {n : Nat} {G : BitVec 64} {b : Bool} (h1 : 1 ≤ n) (h6 : n ≤ 6) (hG : clo n G) : ∀ (f j p : Nat), j < FC n → gMs n b j ≤ f → GS n G b j p → goD n G b j = goD n G b (bs n j p) := by
  intro f
  induction f with
  | zero => intro j p hj hf g; have := gMs_GS h1 h6 hj g; omega
  | succ f ih =>
    -- two gaps, the lower one first
    have two : ∀ j p q, j < FC n → gMs n b j ≤ f + 1 → p < q → GS n G b j p → GS n G b j q → goD n G b (bs n j p) = goD n G b (bs n j q) := by
      intro j p q hj hf hpq gp gq
      obtain ⟨p1, p2, p3⟩ := gp
      obtain ⟨q1, q2, q3⟩ := gq
      have hjp := bs_ok h1 h6 hj p1
      have hjq := bs_ok h1 h6 hj q1
      have m1 := gMs_GS h1 h6 hj ⟨p1, p2, p3⟩
      have m2 := gMs_GS h1 h6 hj ⟨q1, q2, q3⟩
      have pg := pg_ok h1 h6 hj q1 hpq p2 q2
      unfold pgn at pg
      by_cases c : q = p + 1
      · rw [if_pos c] at pg
        simp only [Bool.and_eq_true, beq_iff_eq] at pg
        obtain ⟨a1, a2, a3, a4, a5, a6, a7, a8, a9, a10, a11⟩ := pg
        have g1 : GS n G b (bs n j p) q := ⟨q1, a1, hG.2 _ _ p3 a8⟩
        have hx := bs_ok h1 h6 hjp q1
        have mx := gMs_GS h1 h6 hjp g1
        have g2 : GS n G b (bs n (bs n j p) q) p := ⟨p1, a2, by rw [a6]; exact q3⟩
        have g3 : GS n G b (bs n j q) p := ⟨p1, a3, hG.2 _ _ q3 a11⟩
        have hy := bs_ok h1 h6 hjq p1
        have my := gMs_GS h1 h6 hjq g3
        have g4 : GS n G b (bs n (bs n j q) p) q := ⟨q1, a4, by rw [a7]; exact p3⟩
        rw [ih _ _ hjp (by omega) g1, ih _ _ hx (by omega) g2, ih _ _ hjq (by omega) g3, ih _ _ hy (by omega) g4, a5]
      · rw [if_neg c] at pg
        simp only [Bool.and_eq_true, beq_iff_eq] at pg
        obtain ⟨a1, a2, a3, a4, a5⟩ := pg
        have g1 : GS n G b (bs n j p) q := ⟨q1, a1, by rw [a4]; exact q3⟩
        have g3 : GS n G b (bs n j q) p := ⟨p1, a2, by rw [a5]; exact p3⟩
        rw [ih _ _ hjp (by omega) g1, ih _ _ hjq (by omega) g3, a3]
    intro j p hj hf g
    obtain ⟨p0, e0⟩ := GS_fgD g
    have g0 := fgD_GS e0
    rw [goD_step h1 h6 hj e0]
    rcases Nat.lt_trichotomy p0 p with c | c | c
    · exact two j p0 p hj hf c g0 g
    · rw [c]
    · exact (two j p p0 hj hf c g g0).symm
theorem GS_eq {n j p : Nat} {G : BitVec 64} {b : Bool} (h1 : 1 ≤ n) (h6 : n ≤ 6) (hG : clo n G) (hj : j < FC n) (g : GS n G b j p) : goD n G b j = goD n G b (bs n j p) := GS_end h1 h6 hG _ j p hj (Nat.le_refl _) g
/-- an edge of an arc that is gone: both its ends go to the same rows, both ways -/
theorem edge_eq {n j p : Nat} {G : BitVec 64} (h1 : 1 ≤ n) (h6 : n ≤ 6) (hG : clo n G) (hj : j < FC n) (hp : p < n - 1) (ha : G.getLsbD (ar n j p) = true) (b : Bool) : goD n G b j = goD n G b (bs n j p) := by
  by_cases c : dn n j p = b
  · exact GS_eq h1 h6 hG hj ⟨hp, c, ha⟩
  · have hb := bs_ok h1 h6 hj hp
    obtain ⟨k1, k2, k3⟩ := bk_ok h1 h6 hj hp
    have g : GS n G b (bs n j p) p := ⟨hp, by rw [k2]; cases b <;> cases q : dn n j p <;> rw [q] at c <;> simp_all, by rw [k3]; exact ha⟩
    have := GS_eq h1 h6 hG hb g
    rw [k1] at this
    exact this.symm
/-- the step that way is above or below -/
def bw (n : Nat) (b : Bool) (i j : Nat) : Bool := if b = true then blw n i j else blw n j i
theorem bw_refl (n : Nat) (b : Bool) (i : Nat) : bw n b i i = true := by unfold bw; split <;> exact blw_refl n i
theorem bw_trans {n : Nat} {b : Bool} {i j k : Nat} (x : bw n b i j = true) (y : bw n b j k = true) : bw n b i k = true := by
  cases b
  · exact blw_trans (show blw n k j = true from y) (show blw n j i = true from x)
  · exact blw_trans (show blw n i j = true from x) (show blw n j k = true from y)
theorem bw_step {n j p : Nat} {b : Bool} (h1 : 1 ≤ n) (h6 : n ≤ 6) (hj : j < FC n) (hp : p < n - 1) (hd : dn n j p = b) : bw n b (bs n j p) j = true := by
  cases b with
  | false =>
    show blw n j (bs n j p) = true
    unfold blw
    rw [(wk_up h1 h6 hj hp hd).2, sub1_bits]
    intro k hk
    rw [Nat.testBit_or, hk, Bool.true_or]
  | true =>
    show blw n (bs n j p) j = true
    obtain ⟨k1, k2, k3⟩ := bk_ok h1 h6 hj hp
    have hb := bs_ok h1 h6 hj hp
    rw [hd] at k2
    have e := (wk_up h1 h6 hb hp k2).2
    rw [k1] at e
    unfold blw
    rw [e, sub1_bits]
    intro k hk
    rw [Nat.testBit_or, hk, Bool.true_or]
theorem bw_anti {n i j : Nat} {b : Bool} (h1 : 1 ≤ n) (h6 : n ≤ 6) (hi : i < FC n) (hj : j < FC n) (x : bw n b i j = true) (y : bw n b j i = true) : i = j := by
  cases b with
  | false =>
    have := (blw_le h1 h6 hj hi (show blw n j i = true from x)).1
    have := (blw_le h1 h6 hi hj (show blw n i j = true from y)).1
    omega
  | true =>
    have := (blw_le h1 h6 hi hj (show blw n i j = true from x)).1
    have := (blw_le h1 h6 hj hi (show blw n j i = true from y)).1
    omega
theorem goD_bw {n : Nat} {G : BitVec 64} {b : Bool} (h1 : 1 ≤ n) (h6 : n ≤ 6) : ∀ (f i : Nat), i < FC n → gMs n b i ≤ f → bw n b (goD n G b i) i = true := by
  intro f
  induction f with
  | zero =>
    intro i hi hf
    cases e : fgD n G i b with
    | none => rw [goD_stop e]; exact bw_refl n b i
    | some p => have := (gMs_step h1 h6 hi e).2.2; omega
  | succ f ih =>
    intro i hi hf
    cases e : fgD n G i b with
    | none => rw [goD_stop e]; exact bw_refl n b i
    | some p =>
      obtain ⟨s1, s2, s3⟩ := gMs_step h1 h6 hi e
      rw [goD_step h1 h6 hi e]
      exact bw_trans (ih _ s1 (by omega)) (bw_step h1 h6 hi s2 (fgD_GS e).2.1)
theorem goD_is {n i : Nat} {G : BitVec 64} {b : Bool} (h1 : 1 ≤ n) (h6 : n ≤ 6) (hi : i < FC n) : bw n b (goD n G b i) i = true := goD_bw h1 h6 _ i hi (Nat.le_refl _)
theorem goD_lt {n i : Nat} {G : BitVec 64} {b : Bool} (h1 : 1 ≤ n) (h6 : n ≤ 6) (hi : i < FC n) : goD n G b i < FC n := goM_ok h1 h6 _ _ hi
