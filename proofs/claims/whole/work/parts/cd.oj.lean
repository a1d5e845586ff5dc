/-! ===== texts: the words, as the reference meets them ===== -/
theorem isNm_t {s : List Int} {b : Nat → Nat} {p e : Nat} (h : isNm s b p e = true) : e - p = s.length ∧ ∀ k, k < s.length → ((b (p + k) : Nat) : Int) = s.getD k 0 := by
  unfold isNm at h
  rw [Bool.and_eq_true] at h
  refine ⟨of_decide_eq_true h.1, fun k hk => ?_⟩
  have h2 := h.2
  cases e2 : fst (fun k => !decide (((b (p + k) : Nat) : Int) = s.getD k 0)) s.length 0 with
  | some x => rw [e2] at h2; cases h2
  | none =>
    have := fst_none e2 k (Nat.zero_le _) (by omega)
    by_cases q : ((b (p + k) : Nat) : Int) = s.getD k 0
    · exact q
    · rw [decide_eq_false q] at this; cases this
theorem isNm_of {s : List Int} {b : Nat → Nat} {p e : Nat} (h1 : e - p = s.length) (h2 : ∀ k, k < s.length → ((b (p + k) : Nat) : Int) = s.getD k 0) : isNm s b p e = true := by
  unfold isNm
  rw [decide_eq_true h1, Bool.true_and, fst_none_of (fun q _ hq => by rw [decide_eq_true (h2 q (by omega))]; rfl)]
  rfl
theorem isNm_ex {s t : List Int} {b : Nat → Nat} {p e : Nat} (h : isNm s b p e = true) (k : isNm t b p e = true) : s = t := by
  obtain ⟨a1, a2⟩ := isNm_t h
  obtain ⟨b1, b2⟩ := isNm_t k
  exact ext_D (z := 0) (by omega) (fun q hq => by rw [← a2 q (by omega), ← b2 q hq])
theorem stx_inj : ∀ i, i < 8 → ∀ j, j < 8 → stxt i = stxt j → i = j := by decide +kernel
theorem nmC_v {b : Nat → Nat} {p e i : Nat} (hi : i < 8) (h : nmC b p e = i + 2) : isNm (stxt i) b p e = true := by
  unfold nmC at h
  split at h
  · next q => have : i = 0 := by omega
              subst this; exact q
  · split at h
    · next q => have : i = 1 := by omega
                subst this; exact q
    · split at h
      · next q => have : i = 2 := by omega
                  subst this; exact q
      · split at h
        · next q => have : i = 3 := by omega
                    subst this; exact q
        · split at h
          · next q => have : i = 4 := by omega
                      subst this; exact q
          · split at h
            · next q => have : i = 5 := by omega
                        subst this; exact q
            · split at h
              · next q => have : i = 6 := by omega
                          subst this; exact q
              · split at h
                · next q => have : i = 7 := by omega
                            subst this; exact q
                · omega
theorem nmC_w {b : Nat → Nat} {p e i : Nat} (hi : i < 8) (h : isNm (stxt i) b p e = true) : nmC b p e = i + 2 := by
  have ex : ∀ j, j < 8 → isNm (stxt j) b p e = true → j = i := fun j hj q => stx_inj j hj i hi (isNm_ex q h)
  have fl : ∀ j, j < 8 → j ≠ i → ¬ isNm (stxt j) b p e = true := fun j hj q z => q (ex j hj z)
  unfold nmC
  rcases (show i = 0 ∨ i = 1 ∨ i = 2 ∨ i = 3 ∨ i = 4 ∨ i = 5 ∨ i = 6 ∨ i = 7 by omega) with q | q | q | q | q | q | q | q <;> subst q
  · rw [if_pos h]
  · rw [if_neg (fl 0 (by decide) (by decide)), if_pos h]
  · rw [if_neg (fl 0 (by decide) (by decide)), if_neg (fl 1 (by decide) (by decide)), if_pos h]
  · rw [if_neg (fl 0 (by decide) (by decide)), if_neg (fl 1 (by decide) (by decide)), if_neg (fl 2 (by decide) (by decide)), if_pos h]
  · rw [if_neg (fl 0 (by decide) (by decide)), if_neg (fl 1 (by decide) (by decide)), if_neg (fl 2 (by decide) (by decide)), if_neg (fl 3 (by decide) (by decide)), if_pos h]
  · rw [if_neg (fl 0 (by decide) (by decide)), if_neg (fl 1 (by decide) (by decide)), if_neg (fl 2 (by decide) (by decide)), if_neg (fl 3 (by decide) (by decide)), if_neg (fl 4 (by decide) (by decide)), if_pos h]
  · rw [if_neg (fl 0 (by decide) (by decide)), if_neg (fl 1 (by decide) (by decide)), if_neg (fl 2 (by decide) (by decide)), if_neg (fl 3 (by decide) (by decide)), if_neg (fl 4 (by decide) (by decide)), if_neg (fl 5 (by decide) (by decide)), if_pos h]
  · rw [if_neg (fl 0 (by decide) (by decide)), if_neg (fl 1 (by decide) (by decide)), if_neg (fl 2 (by decide) (by decide)), if_neg (fl 3 (by decide) (by decide)), if_neg (fl 4 (by decide) (by decide)), if_neg (fl 5 (by decide) (by decide)), if_neg (fl 6 (by decide) (by decide)), if_pos h]
theorem stx_ltr : ∀ i, i < 8 → (stxt i).length ≠ 0 ∧ ltr ((stxt i).getD 0 0).toNat = true := by decide +kernel
theorem ltr_dgt {x : Nat} (h : ltr x = true) : dgt x = false := by
  unfold ltr at h
  unfold dgt
  rw [Bool.and_eq_true] at h
  have := of_decide_eq_true h.1
  rw [decide_eq_false (show ¬ x ≤ 57 by omega), Bool.and_false]
theorem nm_ltr {b : Nat → Nat} {p e i : Nat} (hi : i < 8) (h : isNm (stxt i) b p e = true) : ltr (b p) = true := by
  obtain ⟨a1, a2⟩ := isNm_t h
  obtain ⟨c1, c2⟩ := stx_ltr i hi
  have := a2 0 (by omega)
  rw [Nat.add_zero] at this
  rw [← this, Int.toNat_natCast] at c2
  exact c2
theorem sgn_dl {x : Nat} (h : sgnB x = true) : dgt x = false ∧ ltr x = false := by
  have hx := sgnB_lt h
  have : ∀ x, x < 63 → sgnB x = true → dgt x = false ∧ ltr x = false := by decide
  exact this x hx h
theorem wcd_nm {b : Nat → Nat} {p e i : Nat} (hi : i < 8) : isNm (stxt i) b p e = decide (wcd b p e = i + 2) := by
  cases h : isNm (stxt i) b p e with
  | true =>
    have hl := nm_ltr hi h
    have : wcd b p e = i + 2 := by
      unfold wcd
      rw [if_neg (by rw [ltr_dgt hl]; decide), if_pos hl]
      exact nmC_w hi h
    rw [decide_eq_true this]
  | false =>
    have : ¬ wcd b p e = i + 2 := by
      intro q
      unfold wcd at q
      split at q
      · split at q <;> omega
      · split at q
        · rw [nmC_v hi q] at h; cases h
        · split at q
          · next s =>
            rw [q] at s
            have : ∀ i, i < 8 → sgnB (i + 2) = false := by decide
            rw [this i hi] at s
            cases s
          · omega
    rw [decide_eq_false this]
theorem wcd_sg {b : Nat → Nat} {tc p x : Nat} (hx : sgnB x = true) : isNm [(x : Int)] b p (eow b tc p) = decide (wcd b p (eow b tc p) = x) := by
  have hx63 := sgnB_lt hx
  have x40 : 40 ≤ x := by
    have : ∀ x, x < 63 → sgnB x = true → 40 ≤ x := by decide
    exact this x hx63 hx
  obtain ⟨d1, d2⟩ := sgn_dl hx
  by_cases h : b p = x
  · have e1 : eow b tc p = p + 1 := by
      unfold eow
      rw [h, if_neg (by rw [d1]; decide), if_neg (by rw [d2]; decide)]
    have e2 : wcd b p (eow b tc p) = x := by
      unfold wcd
      rw [h, if_neg (by rw [d1]; decide), if_neg (by rw [d2]; decide), if_pos hx]
    rw [decide_eq_true e2]
    apply isNm_of
    · rw [e1]; show p + 1 - p = 1; omega
    · intro k hk
      have hk : k < 1 := hk
      have : k = 0 := by omega
      subst this
      rw [Nat.add_zero, h]
      rfl
  · have e2 : ¬ wcd b p (eow b tc p) = x := by
      intro q
      unfold wcd at q
      split at q
      · split at q <;> omega
      · split at q
        · have := nmC_lt b p (eow b tc p)
          omega
        · split at q
          · exact h q
          · omega
    rw [decide_eq_false e2]
    cases q : isNm [(x : Int)] b p (eow b tc p) with
    | false => rfl
    | true =>
      have := (isNm_t q).2 0 Nat.zero_lt_one
      rw [Nat.add_zero] at this
      exact absurd (Int.ofNat.inj this) h
def cdJ : Nat → Nat
  | 8 => 9
  | 9 => 40
  | 10 => 41
  | 11 => 2
  | 12 => 3
  | 13 => 4
  | 14 => 5
  | 15 => 6
  | 16 => 60
  | 17 => 61
  | 18 => 62
  | 19 => 7
  | 20 => 8
  | _ => 99
theorem isJ {b : Nat → Nat} {tc p j : Nat} (h8 : 8 ≤ j) (h21 : j < 21) : isNm (stxt j) b p (eow b tc p) = decide (wcd b p (eow b tc p) = cdJ j) := by
  rcases (show j = 8 ∨ j = 9 ∨ j = 10 ∨ j = 11 ∨ j = 12 ∨ j = 13 ∨ j = 14 ∨ j = 15 ∨ j = 16 ∨ j = 17 ∨ j = 18 ∨ j = 19 ∨ j = 20 by omega) with q | q | q | q | q | q | q | q | q | q | q | q | q <;> subst q
  · exact wcd_nm (i := 7) (by decide)
  · exact wcd_sg (x := 40) (by decide)
  · exact wcd_sg (x := 41) (by decide)
  · exact wcd_nm (i := 0) (by decide)
  · exact wcd_nm (i := 1) (by decide)
  · exact wcd_nm (i := 2) (by decide)
  · exact wcd_nm (i := 3) (by decide)
  · exact wcd_nm (i := 4) (by decide)
  · exact wcd_sg (x := 60) (by decide)
  · exact wcd_sg (x := 61) (by decide)
  · exact wcd_sg (x := 62) (by decide)
  · exact wcd_nm (i := 5) (by decide)
  · exact wcd_nm (i := 6) (by decide)
theorem stx_1 : ∀ j, 8 ≤ j → j < 21 → (stxt j).length ≠ 0 := by
  have : ∀ j, j < 21 → 8 ≤ j → (stxt j).length ≠ 0 := by decide +kernel
  exact fun j a b => this j b a
def tE (b : Nat → Nat) (tc k : Nat) : Nat := if k < (TT b tc).length then ((TT b tc).getD k (0, 0)).2 else tc
/-- the word k is this text -/
theorem isT {b : Nat → Nat} {tc k j : Nat} (h8 : 8 ≤ j) (h21 : j < 21) (hk : k ≤ (TT b tc).length) : isNm (stxt j) b (tB tc (TT b tc) k) (tE b tc k) = decide (tW b (TT b tc) k = cdJ j) := by
  unfold tB tE tW
  by_cases c : k < (TT b tc).length
  · rw [if_pos c, if_pos c, if_pos c]
    have := tks_mem (b := b) (tc := tc) 200 0 ((TT b tc).getD k (0, 0)) (getD_mem2 c)
    rw [this.2.2.2.2]
    exact isJ h8 h21
  · rw [if_neg c, if_neg c, if_neg c]
    have hz : ¬ 0 = cdJ j := by
      have : ∀ j, j < 21 → ¬ 0 = cdJ j := by decide
      exact this j h21
    rw [decide_eq_false hz]
    cases q : isNm (stxt j) b tc tc with
    | false => rfl
    | true =>
      have := (isNm_t q).1
      rw [Nat.sub_self] at this
      exact absurd this.symm (stx_1 j h8 h21)
/-! the rest of the tape -/
theorem eow_gt (b : Nat → Nat) (tc p : Nat) : p < eow b tc p := by
  unfold eow
  split
  · have := (rnE_in dgt b tc 200 (p + 1)).1; omega
  · split
    · have := (rnE_in ltr b tc 200 (p + 1)).1; omega
    · omega
theorem eow_le {b : Nat → Nat} {tc p : Nat} (h : p < tc) : eow b tc p ≤ tc := by
  unfold eow
  split
  · exact (rnE_in dgt b tc 200 (p + 1)).2 h
  · split
    · exact (rnE_in ltr b tc 200 (p + 1)).2 h
    · exact h
theorem tks_up (b : Nat → Nat) (tc f p : Nat) : tks b tc (f + 1) p = if p < tc then (if b p = 32 then tks b tc f (eow b tc p) else (p, eow b tc p) :: tks b tc f (eow b tc p)) else [] := rfl
theorem tks_fuel {b : Nat → Nat} {tc : Nat} : ∀ (f g p : Nat), tc - p ≤ f → tc - p ≤ g → tks b tc f p = tks b tc g p := by
  intro f
  induction f with
  | zero =>
    intro g p hf hg
    cases g with
    | zero => rfl
    | succ g => rw [tks_up, if_neg (by omega)]; rfl
  | succ f ih =>
    intro g p hf hg
    by_cases c : p < tc
    · cases g with
      | zero => omega
      | succ g =>
        have := eow_gt b tc p
        rw [tks_up, tks_up, if_pos c, if_pos c, ih g (eow b tc p) (by omega) (by omega)]
    · cases g with
      | zero => rw [tks_up, if_neg c]; rfl
      | succ g => rw [tks_up, tks_up, if_neg c, if_neg c]
def TK (b : Nat → Nat) (tc p : Nat) : List (Nat × Nat) := tks b tc 200 p
theorem TK_up {b : Nat → Nat} {tc p : Nat} (hc : tc ≤ 200) : TK b tc p = if p < tc then (if b p = 32 then TK b tc (eow b tc p) else (p, eow b tc p) :: TK b tc (eow b tc p)) else [] := by
  have e : TK b tc p = tks b tc (200 + 1) p := tks_fuel _ _ _ (by omega) (by omega)
  rw [e, tks_up]
  rfl
theorem eow_bl {b : Nat → Nat} {tc p : Nat} (h : b p = 32) : eow b tc p = p + 1 := by
  unfold eow
  rw [h, if_neg (by decide), if_neg (by decide)]
theorem TK_bl {b : Nat → Nat} {tc p : Nat} (hc : tc ≤ 200) (hp : p < tc) (h : b p = 32) : TK b tc p = TK b tc (p + 1) := by rw [TK_up hc, if_pos hp, if_pos h, eow_bl h]
theorem TK_wd {b : Nat → Nat} {tc p : Nat} (hc : tc ≤ 200) (hp : p < tc) (h : ¬ b p = 32) : TK b tc p = (p, eow b tc p) :: TK b tc (eow b tc p) := by rw [TK_up hc, if_pos hp, if_neg h]
theorem TK_end {b : Nat → Nat} {tc p : Nat} (hc : tc ≤ 200) (hp : tc ≤ p) : TK b tc p = [] := by rw [TK_up hc, if_neg (by omega)]
theorem TK_drop {b : Nat → Nat} {tc : Nat} (hc : tc ≤ 200) : ∀ (f p k : Nat), tc - p ≤ f → k < (TK b tc p).length → TK b tc ((TK b tc p).getD k (0, 0)).2 = (TK b tc p).drop (k + 1) ∧ ((TK b tc p).getD k (0, 0)).2 ≤ tc := by
  intro f
  induction f with
  | zero =>
    intro p k hf hk
    rw [TK_end hc (by omega)] at hk
    exact absurd hk (Nat.not_lt_zero k)
  | succ f ih =>
    intro p k hf hk
    by_cases c : p < tc
    · have g := eow_gt b tc p
      by_cases c2 : b p = 32
      · have e := TK_bl hc c c2
        rw [e] at hk ⊢
        exact ih (p + 1) k (by omega) hk
      · have e := TK_wd hc c c2
        rw [e] at hk ⊢
        cases k with
        | zero => exact ⟨rfl, eow_le c⟩
        | succ k => exact ih (eow b tc p) k (by omega) (by simpa using hk)
    · rw [TK_end hc (by omega)] at hk
      exact absurd hk (Nat.not_lt_zero k)
/-- behind the word k -/
theorem TK_k {b : Nat → Nat} {tc k : Nat} (hc : tc ≤ 200) (hk : k < (TT b tc).length) : TK b tc (tE b tc k) = (TT b tc).drop (k + 1) ∧ tE b tc k ≤ tc := by
  unfold tE
  rw [if_pos hk]
  exact TK_drop hc tc 0 k (by omega) hk
