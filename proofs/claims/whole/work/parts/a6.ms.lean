/-! ===== meets and joins (3) ===== -/
theorem pc_31 {n i : Nat} (h1 : 1 ≤ n) (h6 : n ≤ 6) (hi : i < FC n) : pc15 (sw n i) ≤ 15 := (st_ok h1 h6 hi).1
/-- below: by index and by how many are swapped -/
theorem bl_le {n : Nat} (h1 : 1 ≤ n) (h6 : n ≤ 6) {m : Nat} (hm : m < FC n) : ∀ (f k : Nat), k < FC n → 15 ≤ pc15 (sw n k) + f → blw n k m = true → k ≤ m ∧ (k ≠ m → pc15 (sw n k) < pc15 (sw n m)) := by
  intro f
  induction f with
  | zero =>
    intro k hk hf hb
    by_cases e : k = m
    · exact ⟨Nat.le_of_eq e, fun q => absurd e q⟩
    · obtain ⟨p, hp, hd, -⟩ := wk_step h1 h6 hk hm hb e
      have s := ((st_ok h1 h6 hk).2 p hp).2 hd
      have := pc_31 h1 h6 (bs_ok h1 h6 hk hp)
      omega
  | succ f ih =>
    intro k hk hf hb
    by_cases e : k = m
    · exact ⟨Nat.le_of_eq e, fun q => absurd e q⟩
    · obtain ⟨p, hp, hd, hb2⟩ := wk_step h1 h6 hk hm hb e
      have s := ((st_ok h1 h6 hk).2 p hp).2 hd
      have hbs := bs_ok h1 h6 hk hp
      obtain ⟨i1, i2⟩ := ih (bs n k p) hbs (by omega) hb2
      have u := (wk_up h1 h6 hk hp hd).1
      refine ⟨by omega, fun _ => ?_⟩
      by_cases e2 : bs n k p = m
      · rw [← e2]; omega
      · have := i2 e2; omega
theorem blw_le {n k m : Nat} (h1 : 1 ≤ n) (h6 : n ≤ 6) (hk : k < FC n) (hm : m < FC n) (hb : blw n k m = true) : k ≤ m ∧ (k ≠ m → pc15 (sw n k) < pc15 (sw n m)) := bl_le h1 h6 hm 15 k hk (by omega) hb
theorem blw_refl (n k : Nat) : blw n k k = true := sub1_bits.mpr (fun _ h => h)
theorem blw_trans {n a b c : Nat} (x : blw n a b = true) (y : blw n b c = true) : blw n a c = true := sub1_bits.mpr (fun k hk => sub1_bits.mp y k (sub1_bits.mp x k hk))
theorem trAd_up : ∀ (L : List (Nat × Nat × Nat)) (u k : Nat), u.testBit k = true → (trAd L u).testBit k = true := by
  intro L
  induction L with
  | nil => intro u k h; exact h
  | cons t L ih =>
    intro u k h
    show (trAd L (if (tst u t.1 && tst u t.2.1) = true then u ||| 2 ^ t.2.2 else u)).testBit k = true
    apply ih
    split
    · rw [Nat.testBit_or, h, Bool.true_or]
    · exact h
theorem trAd_in {T : Nat} : ∀ (L : List (Nat × Nat × Nat)) (u : Nat), L.all (trTt T) = true → (∀ k, u.testBit k = true → T.testBit k = true) → ∀ k, (trAd L u).testBit k = true → T.testBit k = true := by
  intro L
  induction L with
  | nil => intro u _ h; exact h
  | cons t L ih =>
    intro u hT h
    rw [List.all_cons, Bool.and_eq_true] at hT
    show ∀ k, (trAd L (if (tst u t.1 && tst u t.2.1) = true then u ||| 2 ^ t.2.2 else u)).testBit k = true → T.testBit k = true
    apply ih _ hT.2
    intro k hk
    split at hk
    · next c =>
      rw [Nat.testBit_or, Bool.or_eq_true] at hk
      rcases hk with hk | hk
      · exact h k hk
      · rw [Nat.testBit_two_pow] at hk
        rw [← of_decide_eq_true hk]
        rw [Bool.and_eq_true, tst_bit, tst_bit] at c
        have q := hT.1
        unfold trTt at q
        rw [tst_bit, tst_bit, tst_bit, h _ c.1, h _ c.2] at q
        simpa using q
    · exact h k hk
theorem trCo_or {S T : Nat} {t : Nat × Nat × Nat} (a : trCo S t = true) (b : trCo T t = true) : trCo (S ||| T) t = true := by
  unfold trCo at a b ⊢
  rw [tst_bit, tst_bit, tst_bit] at a b ⊢
  rw [Nat.testBit_or, Nat.testBit_or, Nat.testBit_or]
  revert a b
  cases S.testBit t.1 <;> cases S.testBit t.2.1 <;> cases S.testBit t.2.2 <;> cases T.testBit t.1 <;> cases T.testBit t.2.1 <;> cases T.testBit t.2.2 <;> decide
theorem sws_ok {n i : Nat} (h1 : 1 ≤ n) (h6 : n ≤ 6) (hi : i < FC n) : sw n i < 2 ^ nPr n ∧ (trLi n).all (trCo (sw n i)) = true ∧ (trLi n).all (trTt (sw n i)) = true ∧ ixS n (2 ^ nPr n - 1 - sw n i) < FC n ∧ sw n (ixS n (2 ^ nPr n - 1 - sw n i)) = 2 ^ nPr n - 1 - sw n i := by
  have q := allB_of (all6_of sws_c h1 h6) i hi
  simp only [Bool.and_eq_true, Nat.blt_eq, beq_iff_eq] at q
  exact q
theorem lat_n {n u : Nat} (h1 : 1 ≤ n) (h6 : n ≤ 6) (hu : u < 2 ^ nPr n) (hc : (trLi n).all (trCo u) = true) : ixS n (trAd (trLi n) u) < FC n ∧ sw n (ixS n (trAd (trLi n) u)) = trAd (trLi n) u := by
  have q : (!((trLi n).all (trCo u)) || (Nat.blt (ixS n (trAd (trLi n) u)) (FC n) && (sw n (ixS n (trAd (trLi n) u)) == trAd (trLi n) u))) = true := by
    rcases (show n = 1 ∨ n = 2 ∨ n = 3 ∨ n = 4 ∨ n = 5 ∨ n = 6 by omega) with e | e | e | e | e | e
    · subst e; exact allB_of lat_1 u hu
    · subst e; exact allB_of lat_2 u hu
    · subst e; exact allB_of lat_3 u hu
    · subst e; exact allB_of lat_4 u hu
    · subst e; exact allB_of lat_5 u hu
    · subst e; rw [L6t_eq]; exact lat_6 hu
  rw [hc, Bool.not_true, Bool.false_or, Bool.and_eq_true, Nat.blt_eq, beq_iff_eq] at q
  exact q
/-- the join -/
def jnE (n i j : Nat) : Nat := ixS n (trAd (trLi n) (sw n i ||| sw n j))
theorem jnE_ok {n i j : Nat} (h1 : 1 ≤ n) (h6 : n ≤ 6) (hi : i < FC n) (hj : j < FC n) : jnE n i j < FC n ∧ blw n i (jnE n i j) = true ∧ blw n j (jnE n i j) = true ∧ ∀ k, k < FC n → blw n i k = true → blw n j k = true → blw n (jnE n i j) k = true := by
  obtain ⟨a1, a2, a3, -, -⟩ := sws_ok h1 h6 hi
  obtain ⟨b1, b2, b3, -, -⟩ := sws_ok h1 h6 hj
  have hc : (trLi n).all (trCo (sw n i ||| sw n j)) = true := by
    rw [List.all_eq_true] at a2 b2 ⊢
    exact fun t ht => trCo_or (a2 t ht) (b2 t ht)
  obtain ⟨c1, c2⟩ := lat_n h1 h6 (Nat.or_lt_two_pow a1 b1) hc
  refine ⟨c1, ?_, ?_, fun k hk x y => ?_⟩
  · unfold blw jnE
    rw [c2, sub1_bits]
    exact fun k hk => trAd_up _ _ k (by rw [Nat.testBit_or, hk, Bool.true_or])
  · unfold blw jnE
    rw [c2, sub1_bits]
    exact fun k hk => trAd_up _ _ k (by rw [Nat.testBit_or, hk, Bool.or_true])
  · obtain ⟨-, -, d3, -, -⟩ := sws_ok h1 h6 hk
    unfold blw jnE
    rw [c2, sub1_bits]
    refine trAd_in _ _ d3 (fun q hq => ?_)
    rw [Nat.testBit_or, Bool.or_eq_true] at hq
    rcases hq with hq | hq
    · exact sub1_bits.mp x q hq
    · exact sub1_bits.mp y q hq
/-- the row turned round -/
def cpE (n i : Nat) : Nat := ixS n (2 ^ nPr n - 1 - sw n i)
theorem cpE_ok {n i : Nat} (h1 : 1 ≤ n) (h6 : n ≤ 6) (hi : i < FC n) : cpE n i < FC n ∧ ∀ k, (sw n (cpE n i)).testBit k = (decide (k < nPr n) && !(sw n i).testBit k) := by
  obtain ⟨a1, -, -, a4, a5⟩ := sws_ok h1 h6 hi
  refine ⟨a4, fun k => ?_⟩
  unfold cpE
  rw [a5, show 2 ^ nPr n - 1 - sw n i = 2 ^ nPr n - (sw n i + 1) by omega]
  exact Nat.testBit_two_pow_sub_succ a1 k
theorem sw_hi {n i k : Nat} (h1 : 1 ≤ n) (h6 : n ≤ 6) (hi : i < FC n) (h : (sw n i).testBit k = true) : k < nPr n := by
  obtain ⟨a1, -⟩ := sws_ok h1 h6 hi
  apply Nat.lt_of_not_le
  intro hle
  have := Nat.testBit_lt_two_pow (Nat.lt_of_lt_of_le a1 (Nat.pow_le_pow_right (by decide) hle))
  rw [this] at h
  exact Bool.noConfusion h
theorem cpE_blw {n i j : Nat} (h1 : 1 ≤ n) (h6 : n ≤ 6) (hi : i < FC n) (hj : j < FC n) : blw n (cpE n i) (cpE n j) = true ↔ blw n j i = true := by
  obtain ⟨a1, a2⟩ := cpE_ok h1 h6 hi
  obtain ⟨b1, b2⟩ := cpE_ok h1 h6 hj
  unfold blw
  rw [sub1_bits, sub1_bits]
  constructor
  · intro h k hk
    have hn := sw_hi h1 h6 hj hk
    cases q : (sw n i).testBit k with
    | true => rfl
    | false =>
      have := h k (by rw [a2, decide_eq_true hn, q]; rfl)
      rw [b2, hk, Bool.not_true, Bool.and_false] at this
      exact this
  · intro h k hk
    rw [a2, Bool.and_eq_true] at hk
    rw [b2, hk.1, Bool.true_and]
    cases q : (sw n j).testBit k with
    | false => rfl
    | true => have := h k q; rw [this] at hk; exact absurd hk.2 (by decide)
theorem cpE_cp {n i : Nat} (h1 : 1 ≤ n) (h6 : n ≤ 6) (hi : i < FC n) : sw n (cpE n (cpE n i)) = sw n i := by
  obtain ⟨a1, a2⟩ := cpE_ok h1 h6 hi
  obtain ⟨b1, b2⟩ := cpE_ok h1 h6 a1
  apply Nat.eq_of_testBit_eq
  intro k
  rw [b2, a2]
  cases q : (sw n i).testBit k with
  | true => rw [decide_eq_true (sw_hi h1 h6 hi q)]; rfl
  | false => cases decide (k < nPr n) <;> rfl
/-- the meet -/
def mtE (n i j : Nat) : Nat := cpE n (jnE n (cpE n i) (cpE n j))
theorem mtE_ok {n i j : Nat} (h1 : 1 ≤ n) (h6 : n ≤ 6) (hi : i < FC n) (hj : j < FC n) : mtE n i j < FC n ∧ blw n (mtE n i j) i = true ∧ blw n (mtE n i j) j = true ∧ ∀ k, k < FC n → blw n k i = true → blw n k j = true → blw n k (mtE n i j) = true := by
  have ci := (cpE_ok h1 h6 hi).1
  have cj := (cpE_ok h1 h6 hj).1
  obtain ⟨a1, a2, a3, a4⟩ := jnE_ok h1 h6 ci cj
  have cm := (cpE_ok h1 h6 a1).1
  have ei : ∀ x, blw n x (cpE n (cpE n i)) = blw n x i := fun x => by unfold blw; rw [cpE_cp h1 h6 hi]
  have ej : ∀ x, blw n x (cpE n (cpE n j)) = blw n x j := fun x => by unfold blw; rw [cpE_cp h1 h6 hj]
  refine ⟨cm, ?_, ?_, fun k hk x y => ?_⟩
  · have := (cpE_blw h1 h6 a1 ci).mpr a2
    rw [ei] at this
    exact this
  · have := (cpE_blw h1 h6 a1 cj).mpr a3
    rw [ej] at this
    exact this
  · have ck := (cpE_ok h1 h6 hk).1
    have q := a4 (cpE n k) ck ((cpE_blw h1 h6 hi hk).mpr x) ((cpE_blw h1 h6 hj hk).mpr y)
    have := (cpE_blw h1 h6 ck a1).mpr q
    have ek : ∀ x, blw n (cpE n (cpE n k)) x = blw n k x := fun x => by unfold blw; rw [cpE_cp h1 h6 hk]
    rw [ek] at this
    exact this
theorem mtF_is {n i j M : Nat} (h1 : M ≤ min i j) (h2 : blw n M i = true) (h3 : blw n M j = true) (h4 : ∀ k, k ≤ min i j → blw n k i = true → blw n k j = true → k ≤ M) : ∀ f, M ≤ f → f ≤ min i j → mtF n i j f = M := by
  intro f
  induction f with
  | zero => intro hM _; show 0 = M; omega
  | succ f ih =>
    intro hM hf
    show (if (blw n (f + 1) i && blw n (f + 1) j) = true then f + 1 else mtF n i j f) = M
    by_cases c : (blw n (f + 1) i && blw n (f + 1) j) = true
    · rw [if_pos c]
      rw [Bool.and_eq_true] at c
      have := h4 (f + 1) hf c.1 c.2
      omega
    · rw [if_neg c]
      have ne : M ≠ f + 1 := by
        intro e
        apply c
        rw [← e, h2, h3]; rfl
      exact ih (by omega) (by omega)
theorem mt_E {n i j : Nat} (h1 : 1 ≤ n) (h6 : n ≤ 6) (hi : i < FC n) (hj : j < FC n) : mt n i j = mtE n i j := by
  obtain ⟨a1, a2, a3, a4⟩ := mtE_ok h1 h6 hi hj
  have l1 := (blw_le h1 h6 a1 hi a2).1
  have l2 := (blw_le h1 h6 a1 hj a3).1
  exact mtF_is (by omega) a2 a3 (fun k hk x y => (blw_le h1 h6 (by omega) a1 (a4 k (by omega) x y)).1) _ (by omega) (Nat.le_refl _)
theorem jn_E {n i j : Nat} (h1 : 1 ≤ n) (h6 : n ≤ 6) (hi : i < FC n) (hj : j < FC n) : jn n i j = jnE n i j := by
  obtain ⟨a1, a2, a3, a4⟩ := jnE_ok h1 h6 hi hj
  have l1 := (blw_le h1 h6 hi a1 a2).1
  have l2 := (blw_le h1 h6 hj a1 a3).1
  unfold jn
  rw [fst_some_of (p := jnE n i j) (by omega) (by omega) (by rw [a2, a3]; rfl) (fun q hq1 hq2 => by
    cases c : (blw n i q && blw n j q) with
    | false => rfl
    | true =>
      rw [Bool.and_eq_true] at c
      have := (blw_le h1 h6 a1 (by omega) (a4 q (by omega) c.1 c.2)).1
      omega)]
