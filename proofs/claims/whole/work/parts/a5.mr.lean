/-! ===== the weak order ===== -/
theorem sub1_bits {a b : Nat} : sub1 a b = true ↔ ∀ k, a.testBit k = true → b.testBit k = true := by
  unfold sub1
  rw [decide_eq_true_eq]
  constructor
  · intro e k hk
    have := congrArg (fun s : Nat => s.testBit k) e
    simp only [Nat.testBit_and] at this
    rw [hk, Bool.true_and] at this
    exact this
  · intro h
    apply Nat.eq_of_testBit_eq
    intro k
    rw [Nat.testBit_and]
    cases q : a.testBit k with
    | false => rfl
    | true => rw [h k q]; rfl
def wk_b (n : Nat) : Bool := allB (fun i => allB (fun p => decide (dn n i p = true) || (Nat.blt i (bs n i p) && sw n (bs n i p) == (sw n i ||| 2 ^ pbi (dg n (num n i) p) (dg n (num n i) (p + 1))))) (n - 1) && allB (fun b => allB (fun a => tst (sw n i) (pbi (a + 1) (b + 1)) == Nat.blt (plc n i (b + 1)) (plc n i (a + 1))) b) n) (FC n)
theorem wk_c : all6 wk_b = true := by decide +kernel
theorem wk_up {n i p : Nat} (h1 : 1 ≤ n) (h6 : n ≤ 6) (hi : i < FC n) (hp : p < n - 1) (hd : dn n i p = false) : i < bs n i p ∧ sw n (bs n i p) = (sw n i ||| 2 ^ pbi (dg n (num n i) p) (dg n (num n i) (p + 1))) := by
  have q := allB_of (all6_of wk_c h1 h6) i hi
  rw [Bool.and_eq_true] at q
  have r := allB_of q.1 p hp
  rw [hd] at r
  simp only [Bool.false_eq_true, decide_false, Bool.false_or, Bool.and_eq_true, Nat.blt_eq, beq_iff_eq] at r
  exact r
theorem wk_bit {n i a b : Nat} (h1 : 1 ≤ n) (h6 : n ≤ 6) (hi : i < FC n) (a1 : 1 ≤ a) (ab : a < b) (bn : b ≤ n) : tst (sw n i) (pbi a b) = true ↔ plc n i b < plc n i a := by
  have q := allB_of (all6_of wk_c h1 h6) i hi
  rw [Bool.and_eq_true] at q
  have r := allB_of (allB_of q.2 (b - 1) (by omega)) (a - 1) (by omega)
  rw [show b - 1 + 1 = b by omega, show a - 1 + 1 = a by omega, beq_iff_eq] at r
  rw [r, Nat.blt_eq]
def pd_b (n : Nat) : Bool := allB (fun k => allB (fun p => plc n k (dg n (num n k) p) == p) n) (FC n)
theorem pd_c : all6 pd_b = true := by decide +kernel
/-- numbers with the same digits -/
theorem dg_eq {n r s : Nat} (hr : r < 10 ^ n) (hs : s < 10 ^ n) (h : ∀ p, p < n → dg n r p = dg n s p) : r = s := by
  have key : ∀ m p, p + m = n → r / 10 ^ (n - p) = s / 10 ^ (n - p) → r = s := by
    intro m
    induction m with
    | zero =>
      intro p hp e
      have e2 : n - p = 0 := by omega
      rw [e2, Nat.pow_zero, Nat.div_one, Nat.div_one] at e
      exact e
    | succ m ih =>
      intro p hp e
      refine ih (p + 1) (by omega) ?_
      rw [dg_step (by omega), dg_step (by omega), e, h p (by omega)]
  refine key n 0 (Nat.zero_add n) ?_
  rw [Nat.sub_zero, Nat.div_eq_of_lt hr, Nat.div_eq_of_lt hs]
theorem mono_id {n : Nat} {f : Nat → Nat} (hf : ∀ p, p < n → f p < n) (hm : ∀ p, p + 1 < n → f p < f (p + 1)) : ∀ p, p < n → f p = p := by
  have lo : ∀ p, p < n → p ≤ f p := by
    intro p
    induction p with
    | zero => intro _; omega
    | succ p ih => intro hp; have := ih (by omega); have := hm p hp; omega
  have hi : ∀ m p, p + m + 1 = n → f p ≤ p := by
    intro m
    induction m with
    | zero => intro p hp; have := hf p (by omega); omega
    | succ m ih => intro p hp; have := ih (p + 1) (by omega); have := hm p (by omega); omega
  intro p hp
  have := lo p hp
  have := hi (n - 1 - p) p (by omega)
  omega
theorem num_10 {n i : Nat} (h1 : 1 ≤ n) (h6 : n ≤ 6) (hi : i < FC n) : num n i < 10 ^ n := by have := num_hi h1 h6 hi; omega
theorem plc_dg {n k p : Nat} (h1 : 1 ≤ n) (h6 : n ≤ 6) (hk : k < FC n) (hp : p < n) : plc n k (dg n (num n k) p) = p := beq_iff_eq.mp (allB_of (allB_of (all6_of pd_c h1 h6) k hk) p hp)
/-- from below m there is a step up that stays below m -/
theorem wk_step {n k m : Nat} (h1 : 1 ≤ n) (h6 : n ≤ 6) (hk : k < FC n) (hm : m < FC n) (hb : blw n k m = true) (hne : k ≠ m) : ∃ p, p < n - 1 ∧ dn n k p = false ∧ blw n (bs n k p) m = true := by
  apply Decidable.byContradiction
  intro hno
  have hall : ∀ p, p < n - 1 → dn n k p = false → ¬ blw n (bs n k p) m = true := fun p hp hd q => hno ⟨p, hp, hd, q⟩
  apply hne
  have hbits := sub1_bits.mp hb
  have ord : ∀ p, p + 1 < n → plc n m (dg n (num n k) p) < plc n m (dg n (num n k) (p + 1)) := by
    intro p hp
    have hp2 : p < n - 1 := by omega
    obtain ⟨d1, d2⟩ := dg_in h1 h6 hk (show p < n by omega)
    obtain ⟨d3, d4⟩ := dg_in h1 h6 hk hp
    obtain ⟨ne1, -, -⟩ := bs_dg h1 h6 hk hp2
    have edn := dn_dg h1 h6 hk hp2
    obtain ⟨p1, e1⟩ : ∃ p1, plc n m (dg n (num n k) p) = p1 := ⟨_, rfl⟩
    obtain ⟨p2, e2⟩ : ∃ p2, plc n m (dg n (num n k) (p + 1)) = p2 := ⟨_, rfl⟩
    have k1 := pl_ok h1 h6 hm d1 d2
    have k2 := pl_ok h1 h6 hm d3 d4
    have nep : p1 ≠ p2 := by
      intro e
      rw [e1] at k1
      rw [e2, ← e] at k2
      exact ne1 (k1.symm.trans k2)
    cases c : dn n k p with
    | true =>
      rw [c] at edn
      have lt := of_decide_eq_true edn.symm
      -- the bit is in k, so in m
      have bk : tst (sw n k) (pbi (dg n (num n k) (p + 1)) (dg n (num n k) p)) = true := by
        rw [wk_bit h1 h6 hk d3 lt d2]
        have f1 : plc n k (dg n (num n k) p) = p := plc_dg h1 h6 hk (by omega)
        have f2 : plc n k (dg n (num n k) (p + 1)) = p + 1 := plc_dg h1 h6 hk hp
        omega
      rw [tst_bit] at bk
      have bm := hbits _ bk
      rw [← tst_bit, wk_bit h1 h6 hm d3 lt d2] at bm
      exact bm
    | false =>
      rw [c] at edn
      have nlt := of_decide_eq_false edn.symm
      have lt : dg n (num n k) p < dg n (num n k) (p + 1) := by omega
      have hnb := hall p hp2 c
      obtain ⟨u1, u2⟩ := wk_up h1 h6 hk hp2 c
      -- the new bit is not in m
      have nb : ¬ tst (sw n m) (pbi (dg n (num n k) p) (dg n (num n k) (p + 1))) = true := by
        intro hbit
        apply hnb
        unfold blw
        rw [u2, sub1_bits]
        intro j hj
        rw [Nat.testBit_or, Bool.or_eq_true] at hj
        rcases hj with hj | hj
        · exact hbits j hj
        · rw [Nat.testBit_two_pow] at hj
          have ej := of_decide_eq_true hj
          rw [← ej, ← tst_bit]
          exact hbit
      rw [wk_bit h1 h6 hm d1 lt d4] at nb
      omega
  have hid := mono_id (n := n) (f := fun p => plc n m (dg n (num n k) p)) (fun p _ => plc_lt h1) ord
  have hd : ∀ p, p < n → dg n (num n k) p = dg n (num n m) p := by
    intro p hp
    obtain ⟨d1, d2⟩ := dg_in h1 h6 hk hp
    have q := pl_ok h1 h6 hm d1 d2
    have e := hid p hp
    rw [e] at q
    exact q.symm
  exact num_inj h1 h6 hk hm (dg_eq (num_10 h1 h6 hk) (num_10 h1 h6 hm) hd)
