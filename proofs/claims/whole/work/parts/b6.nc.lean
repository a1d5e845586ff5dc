/-! ===== a collapse by any way up or down (2) ===== -/
theorem wk_stepD {n k m : Nat} (h1 : 1 ≤ n) (h6 : n ≤ 6) (hk : k < FC n) (hm : m < FC n) (hb : blw n m k = true) (hne : k ≠ m) : ∃ p, p < n - 1 ∧ dn n k p = true ∧ blw n m (bs n k p) = true := by
  apply Decidable.byContradiction
  intro hno
  have hall : ∀ p, p < n - 1 → dn n k p = true → ¬ blw n m (bs n k p) = true := fun p hp hd q => hno ⟨p, hp, hd, q⟩
  apply hne
  have hbits := sub1_bits.mp hb
  have ord : ∀ p, p + 1 < n → plc n m (dg n (num n k) p) < plc n m (dg n (num n k) (p + 1)) := by
    intro p hp
    have hp2 : p < n - 1 := by omega
    obtain ⟨d1, d2⟩ := dg_in h1 h6 hk (show p < n by omega)
    obtain ⟨d3, d4⟩ := dg_in h1 h6 hk hp
    obtain ⟨ne1, g1, g2⟩ := bs_dg h1 h6 hk hp2
    have edn := dn_dg h1 h6 hk hp2
    have hbs := bs_ok h1 h6 hk hp2
    obtain ⟨r1, r2, r3⟩ := bk_ok h1 h6 hk hp2
    obtain ⟨p1, e1⟩ : ∃ p1, plc n m (dg n (num n k) p) = p1 := ⟨_, rfl⟩
    obtain ⟨p2, e2⟩ : ∃ p2, plc n m (dg n (num n k) (p + 1)) = p2 := ⟨_, rfl⟩
    have k1 := pl_ok h1 h6 hm d1 d2
    have k2 := pl_ok h1 h6 hm d3 d4
    have nep : p1 ≠ p2 := by
      intro e
      rw [e1] at k1
      rw [e2, ← e] at k2
      exact ne1 (k1.symm.trans k2)
    cases c : dn n k p with
    | true =>
      rw [c] at edn r2
      have lt := of_decide_eq_true edn.symm
      have hnb := hall p hp2 c
      have u2 := (wk_up h1 h6 hbs hp2 r2).2
      rw [r1, g1, g2] at u2
      have bm : tst (sw n m) (pbi (dg n (num n k) (p + 1)) (dg n (num n k) p)) = true := by
        cases q : tst (sw n m) (pbi (dg n (num n k) (p + 1)) (dg n (num n k) p)) with
        | true => rfl
        | false =>
          apply absurd _ hnb
          unfold blw
          rw [sub1_bits]
          intro j hj
          have h2 := hbits j hj
          rw [u2, Nat.testBit_or, Bool.or_eq_true] at h2
          rcases h2 with h2 | h2
          · exact h2
          · rw [Nat.testBit_two_pow] at h2
            have ej := of_decide_eq_true h2
            rw [tst_bit, ej, hj] at q
            exact Bool.noConfusion q
      rw [wk_bit h1 h6 hm d3 lt d2] at bm
      exact bm
    | false =>
      rw [c] at edn
      have nlt := of_decide_eq_false edn.symm
      have lt : dg n (num n k) p < dg n (num n k) (p + 1) := by omega
      have nk : ¬ tst (sw n k) (pbi (dg n (num n k) p) (dg n (num n k) (p + 1))) = true := by
        rw [wk_bit h1 h6 hk d1 lt d4]
        have f1 : plc n k (dg n (num n k) p) = p := plc_dg h1 h6 hk (by omega)
        have f2 : plc n k (dg n (num n k) (p + 1)) = p + 1 := plc_dg h1 h6 hk hp
        omega
      have nm : ¬ tst (sw n m) (pbi (dg n (num n k) p) (dg n (num n k) (p + 1))) = true := by
        intro q
        apply nk
        rw [tst_bit] at q ⊢
        exact hbits _ q
      rw [wk_bit h1 h6 hm d1 lt d4] at nm
      omega
  have hid := mono_id (n := n) (f := fun p => plc n m (dg n (num n k) p)) (fun p _ => plc_lt h1) ord
  have hd : ∀ p, p < n → dg n (num n k) p = dg n (num n m) p := by
    intro p hp
    obtain ⟨d1, d2⟩ := dg_in h1 h6 hk hp
    have q := pl_ok h1 h6 hm d1 d2
    have e := hid p hp
    rw [e] at q
    exact q.symm
  exact num_inj h1 h6 hk hm (dg_eq (num_10 h1 h6 hk) (num_10 h1 h6 hm) hd)
theorem chU_up (n up f u : Nat) : chU n up (f + 1) u = if u = up then 0#64 else match upP n up u with
    | some p => FO n (ar n u p) ||| chU n up f (bs n u p)
    | none => 0#64 := rfl
theorem chU_s {n up f u p : Nat} (hne : u ≠ up) (e : upP n up u = some p) : chU n up (f + 1) u = FO n (ar n u p) ||| chU n up f (bs n u p) := by rw [chU_up, if_neg hne, e]
theorem chU_clo {n up : Nat} (h1 : 1 ≤ n) (h6 : n ≤ 6) : ∀ f u, u < FC n → clo n (chU n up f u) := by
  intro f
  induction f with
  | zero => intro u _; exact clo_0 n
  | succ f ih =>
    intro u hu
    rw [chU_up]
    split
    · exact clo_0 n
    · cases e : upP n up u with
      | none => exact clo_0 n
      | some p =>
        obtain ⟨a, b, c⟩ := upP_some e
        exact clo_or (clo_FO h1 h6 (by have := ar_lt h1 h6 hu a; omega)) (ih _ (bs_ok h1 h6 hu a))
theorem chU_in {n lo up : Nat} {S : BitVec 64} (h1 : 1 ≤ n) (h6 : n ≤ 6) (hS : clo n S) (hlo : lo < FC n) (hup : up < FC n) (e : lst n S lo = lst n S up) : ∀ f u, u < FC n → blw n lo u = true → ∀ j, (chU n up f u).getLsbD j = true → S.getLsbD j = true := by
  intro f
  induction f with
  | zero => intro u _ _ j hj; rw [show chU n up 0 u = 0#64 from rfl, BitVec.getLsbD_zero] at hj; exact Bool.noConfusion hj
  | succ f ih =>
    intro u hu hb j hj
    rw [chU_up] at hj
    split at hj
    · rw [BitVec.getLsbD_zero] at hj; exact Bool.noConfusion hj
    · cases q : upP n up u with
      | none => rw [q] at hj; rw [BitVec.getLsbD_zero] at hj; exact Bool.noConfusion hj
      | some p =>
        rw [q] at hj
        obtain ⟨a, b, c⟩ := upP_some q
        have hbs := bs_ok h1 h6 hu a
        have hj2 : (FO n (ar n u p) ||| chU n up f (bs n u p)).getLsbD j = true := hj
        rw [BitVec.getLsbD_or, Bool.or_eq_true] at hj2
        rcases hj2 with hj2 | hj2
        · exact FO_in h1 h6 hS (edge_in h1 h6 hS hlo hup hu a b hb c e) j hj2
        · exact ih _ hbs (blw_trans hb (bw_step (b := false) h1 h6 hu a b)) j hj2
theorem chU_eq {n up : Nat} {S : BitVec 64} (h1 : 1 ≤ n) (h6 : n ≤ 6) (hS : clo n S) (hup : up < FC n) : ∀ f u, u < FC n → blw n u up = true → 15 ≤ pc15 (sw n u) + f → (∀ j, (chU n up f u).getLsbD j = true → S.getLsbD j = true) → lst n S u = lst n S up := by
  intro f
  induction f with
  | zero =>
    intro u hu hb hf _
    by_cases e : u = up
    · rw [e]
    · have := (blw_le h1 h6 hu hup hb).2 e
      have := pc_31 h1 h6 hup
      omega
  | succ f ih =>
    intro u hu hb hf hin
    by_cases e : u = up
    · rw [e]
    · obtain ⟨p, ep⟩ := upP_ex h1 h6 hu hup hb e
      obtain ⟨a, b, c⟩ := upP_some ep
      have hbs := bs_ok h1 h6 hu a
      have s := ((st_ok h1 h6 hu).2 p a).2 b
      rw [chU_s e ep] at hin
      have har := ar_lt h1 h6 hu a
      have ha : S.getLsbD (ar n u p) = true := hin _ (by rw [BitVec.getLsbD_or, FO_get h1 h6 (by omega), fr_self h1 h6 (by omega), Bool.true_or])
      have e1 : lst n S u = lst n S (bs n u p) := edge_eq h1 h6 hS hu a ha true
      rw [e1]
      exact ih _ hbs c (by omega) (fun j hj => hin j (by rw [BitVec.getLsbD_or, hj, Bool.or_true]))
def dnP (n lo u : Nat) : Option Nat := fst (fun p => dn n u p && blw n lo (bs n u p)) (n - 1) 0
theorem dnP_some {n lo u p : Nat} (e : dnP n lo u = some p) : p < n - 1 ∧ dn n u p = true ∧ blw n lo (bs n u p) = true := by
  have q := (fst_some e).2.2
  rw [Bool.and_eq_true] at q
  exact ⟨by have := (fst_some e).2.1; omega, q⟩
theorem dnP_ex {n lo u : Nat} (h1 : 1 ≤ n) (h6 : n ≤ 6) (hu : u < FC n) (hlo : lo < FC n) (hb : blw n lo u = true) (hne : u ≠ lo) : ∃ p, dnP n lo u = some p := by
  obtain ⟨p, hp, hd, hb2⟩ := wk_stepD h1 h6 hu hlo hb hne
  cases e : dnP n lo u with
  | some q => exact ⟨q, rfl⟩
  | none =>
    have := fst_none e p (Nat.zero_le _) (by omega)
    rw [hd, hb2] at this
    exact absurd this (by decide)
theorem abt_up (n lo k u : Nat) : abt n lo (k + 1) u = if u = lo then 0#64 else match dnP n lo u with
    | some p => (1#64 <<< ar n u p) ||| abt n lo k (bs n u p)
    | none => abt n lo k u := rfl
theorem abt_s {n lo k u p : Nat} (hne : u ≠ lo) (e : dnP n lo u = some p) : abt n lo (k + 1) u = (1#64 <<< ar n u p) ||| abt n lo k (bs n u p) := by rw [abt_up, if_neg hne, e]
theorem one_bit {a j : Nat} (ha : a < 64) : (1#64 <<< a).getLsbD j = true ↔ j = a := by
  rw [BitVec.getLsbD_shiftLeft, BitVec.getLsbD_one]
  simp only [Bool.and_eq_true, decide_eq_true_eq, Bool.not_eq_true', decide_eq_false_iff_not]
  constructor
  · intro ⟨⟨a1, a2⟩, a3, a4⟩; omega
  · intro e; subst e; exact ⟨⟨ha, Nat.lt_irrefl _⟩, by decide, Nat.sub_self _⟩
theorem abt_ok {n lo : Nat} (h1 : 1 ≤ n) (h6 : n ≤ 6) (hlo : lo < FC n) : ∀ f u, u < FC n → blw n lo u = true → okS n (abt n lo f u) := by
  intro f
  induction f with
  | zero => intro u _ _ j hj; rw [show abt n lo 0 u = 0#64 from rfl, BitVec.getLsbD_zero] at hj; exact Bool.noConfusion hj
  | succ f ih =>
    intro u hu hb j hj
    by_cases e : u = lo
    · rw [abt_up, if_pos e, BitVec.getLsbD_zero] at hj; exact Bool.noConfusion hj
    · obtain ⟨p, ep⟩ := dnP_ex h1 h6 hu hlo hb e
      obtain ⟨a, b, c⟩ := dnP_some ep
      have har := ar_lt h1 h6 hu a
      have fN := NA_le n
      rw [abt_s e ep, BitVec.getLsbD_or, Bool.or_eq_true] at hj
      rcases hj with hj | hj
      · rw [one_bit (by omega)] at hj; omega
      · exact ih _ (bs_ok h1 h6 hu a) c j hj
theorem abt_in {n lo up : Nat} {S : BitVec 64} (h1 : 1 ≤ n) (h6 : n ≤ 6) (hS : clo n S) (hlo : lo < FC n) (hup : up < FC n) (e : lst n S lo = lst n S up) : ∀ f u, u < FC n → blw n lo u = true → blw n u up = true → ∀ j, (abt n lo f u).getLsbD j = true → S.getLsbD j = true := by
  intro f
  induction f with
  | zero => intro u _ _ _ j hj; rw [show abt n lo 0 u = 0#64 from rfl, BitVec.getLsbD_zero] at hj; exact Bool.noConfusion hj
  | succ f ih =>
    intro u hu hb hb2 j hj
    by_cases eu : u = lo
    · rw [abt_up, if_pos eu, BitVec.getLsbD_zero] at hj; exact Bool.noConfusion hj
    · obtain ⟨p, ep⟩ := dnP_ex h1 h6 hu hlo hb eu
      obtain ⟨a, b, c⟩ := dnP_some ep
      have har := ar_lt h1 h6 hu a
      have fN := NA_le n
      have hbs := bs_ok h1 h6 hu a
      obtain ⟨k1, k2, k3⟩ := bk_ok h1 h6 hu a
      rw [b] at k2
      rw [abt_s eu ep, BitVec.getLsbD_or, Bool.or_eq_true] at hj
      rcases hj with hj | hj
      · rw [one_bit (by omega)] at hj
        have := edge_in h1 h6 hS hlo hup hbs a k2 c (by rw [k1]; exact hb2) e
        rw [k3] at this
        rw [hj]; exact this
      · exact ih _ hbs c (blw_trans (bw_step (b := true) h1 h6 hu a b) hb2) j hj
theorem abt_eq {n lo : Nat} {S : BitVec 64} (h1 : 1 ≤ n) (h6 : n ≤ 6) (hS : clo n S) (hlo : lo < FC n) : ∀ f u, u < FC n → blw n lo u = true → pc15 (sw n u) ≤ f → (∀ j, (abt n lo f u).getLsbD j = true → S.getLsbD j = true) → lst n S u = lst n S lo := by
  intro f
  induction f with
  | zero =>
    intro u hu hb hf _
    by_cases e : u = lo
    · rw [e]
    · have := (blw_le h1 h6 hlo hu hb).2 (fun q => e q.symm)
      omega
  | succ f ih =>
    intro u hu hb hf hin
    by_cases e : u = lo
    · rw [e]
    · obtain ⟨p, ep⟩ := dnP_ex h1 h6 hu hlo hb e
      obtain ⟨a, b, c⟩ := dnP_some ep
      have hbs := bs_ok h1 h6 hu a
      have s := ((st_ok h1 h6 hu).2 p a).1 b
      have har := ar_lt h1 h6 hu a
      have fN := NA_le n
      rw [abt_s e ep] at hin
      have ha : S.getLsbD (ar n u p) = true := hin _ (by rw [BitVec.getLsbD_or, (one_bit (by omega)).mpr rfl, Bool.true_or])
      have e1 : lst n S u = lst n S (bs n u p) := edge_eq h1 h6 hS hu a ha true
      rw [e1]
      exact ih _ hbs c (by omega) (fun j hj => hin j (by rw [BitVec.getLsbD_or, hj, Bool.or_true]))
theorem col_eq {n lo up : Nat} (h1 : 1 ≤ n) (h6 : n ≤ 6) (hlo : lo < FC n) (hup : up < FC n) (hb : blw n lo up = true) : cl n (abt n lo 15 up) = chU n up 15 lo := by
  have hA := abt_ok h1 h6 hlo 15 up hup hb
  have c1 := cl_clo h1 h6 hA
  have c2 := chU_clo (up := up) h1 h6 15 lo hlo
  have e1 := abt_eq h1 h6 c1 hlo 15 up hup hb (pc_31 h1 h6 hup) (fun j hj => cl_has h1 h6 hA hj)
  have e2 := chU_eq h1 h6 c2 hup 15 lo hlo hb (by omega) (fun j hj => hj)
  have i1 := chU_in h1 h6 c1 hlo hup e1.symm 15 lo hlo (blw_refl n lo)
  have i2 := abt_in h1 h6 c2 hlo hup e2 15 up hup hb (blw_refl n up)
  apply BitVec.eq_of_getLsbD_eq
  intro j hj
  cases q : (chU n up 15 lo).getLsbD j with
  | true => exact i1 j q
  | false =>
    cases q2 : (cl n (abt n lo 15 up)).getLsbD j with
    | false => rfl
    | true =>
      obtain ⟨k, kb, kc⟩ := (cl_bit h1 h6 hA j).mp q2
      rw [c2.2 k j (i2 k kb) kc] at q
      exact Bool.noConfusion q
