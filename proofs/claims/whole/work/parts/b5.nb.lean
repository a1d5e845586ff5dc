/-! ===== closed sets; a collapse by any way up or down ===== -/
theorem cbF_bit {n : Nat} {s : BitVec 64} (h1 : 1 ≤ n) (h6 : n ≤ 6) : ∀ K, K ≤ NA n → ∀ j, (cbF n s K).getLsbD j = true ↔ ∃ k, k < K ∧ s.getLsbD k = true ∧ fr n k j = true := by
  intro K
  induction K with
  | zero =>
    intro _ j
    constructor
    · intro h; rw [show cbF n s 0 = 0#64 from rfl, BitVec.getLsbD_zero] at h; exact Bool.noConfusion h
    · intro ⟨k, hk, _⟩; omega
  | succ K ih =>
    intro hK j
    rw [cbF_up, BitVec.getLsbD_or, Bool.or_eq_true, ih (by omega) j]
    constructor
    · intro h
      rcases h with ⟨k, a, b, c⟩ | h
      · exact ⟨k, by omega, b, c⟩
      · split at h
        · next q => rw [FO_get h1 h6 (by omega)] at h; exact ⟨K, by omega, q, h⟩
        · rw [BitVec.getLsbD_zero] at h; exact Bool.noConfusion h
    · intro ⟨k, a, b, c⟩
      by_cases e : k = K
      · subst e
        refine Or.inr ?_
        rw [if_pos b, FO_get h1 h6 (by omega)]
        exact c
      · exact Or.inl ⟨k, by omega, b, c⟩
theorem cl_bit {n : Nat} {s : BitVec 64} (h1 : 1 ≤ n) (h6 : n ≤ 6) (hs : okS n s) (j : Nat) : (cl n s).getLsbD j = true ↔ ∃ k, s.getLsbD k = true ∧ fr n k j = true := by
  rw [← cl_cb h1 h6 hs, cbF_bit h1 h6 (NA n) (Nat.le_refl _) j]
  constructor
  · intro ⟨k, _, b, c⟩; exact ⟨k, b, c⟩
  · intro ⟨k, b, c⟩; exact ⟨k, hs k b, b, c⟩
theorem cl_clo {n : Nat} {s : BitVec 64} (h1 : 1 ≤ n) (h6 : n ≤ 6) (hs : okS n s) : clo n (cl n s) := by
  constructor
  · intro j hj
    obtain ⟨k, b, c⟩ := (cl_bit h1 h6 hs j).mp hj
    exact fr_lt h1 h6 (hs k b) c
  · intro a b ha hab
    obtain ⟨k, kb, kc⟩ := (cl_bit h1 h6 hs a).mp ha
    exact (cl_bit h1 h6 hs b).mpr ⟨k, kb, fr_trans h1 h6 (hs k kb) kc hab⟩
theorem cl_has {n k : Nat} {s : BitVec 64} (h1 : 1 ≤ n) (h6 : n ≤ 6) (hs : okS n s) (hk : s.getLsbD k = true) : (cl n s).getLsbD k = true := (cl_bit h1 h6 hs k).mpr ⟨k, hk, fr_self h1 h6 (hs k hk)⟩
theorem clo_or {n : Nat} {a b : BitVec 64} (x : clo n a) (y : clo n b) : clo n (a ||| b) := by
  constructor
  · intro j hj; rw [BitVec.getLsbD_or, Bool.or_eq_true] at hj; exact hj.elim (x.1 j) (y.1 j)
  · intro i j hi hij
    rw [BitVec.getLsbD_or, Bool.or_eq_true] at hi ⊢
    exact hi.elim (fun q => Or.inl (x.2 i j q hij)) (fun q => Or.inr (y.2 i j q hij))
theorem clo_and {n : Nat} {a b : BitVec 64} (x : clo n a) (y : clo n b) : clo n (a &&& b) := by
  constructor
  · intro j hj; rw [BitVec.getLsbD_and, Bool.and_eq_true] at hj; exact x.1 j hj.1
  · intro i j hi hij
    rw [BitVec.getLsbD_and, Bool.and_eq_true] at hi ⊢
    exact ⟨x.2 i j hi.1 hij, y.2 i j hi.2 hij⟩
theorem clo_0 (n : Nat) : clo n 0#64 := ⟨fun j hj => by rw [BitVec.getLsbD_zero] at hj; exact Bool.noConfusion hj, fun i j hi _ => by rw [BitVec.getLsbD_zero] at hi; exact Bool.noConfusion hi⟩
theorem clo_FO {n a : Nat} (h1 : 1 ≤ n) (h6 : n ≤ 6) (ha : a < NA n) : clo n (FO n a) := by
  constructor
  · intro j hj; rw [FO_get h1 h6 ha] at hj; exact fr_lt h1 h6 ha hj
  · intro i j hi hij
    rw [FO_get h1 h6 ha] at hi ⊢
    exact fr_trans h1 h6 ha hi hij
/-- what goes with an arc is held -/
theorem FO_in {n a : Nat} {S : BitVec 64} (h1 : 1 ≤ n) (h6 : n ≤ 6) (hS : clo n S) (ha : S.getLsbD a = true) : ∀ j, (FO n a).getLsbD j = true → S.getLsbD j = true := by
  intro j hj
  rw [FO_get h1 h6 (hS.1 a ha)] at hj
  exact hS.2 a j ha hj
/-- where the ends are alike, so is all between, edge by edge -/
theorem edge_in {n u p lo up : Nat} {S : BitVec 64} (h1 : 1 ≤ n) (h6 : n ≤ 6) (hS : clo n S) (hlo : lo < FC n) (hup : up < FC n) (hu : u < FC n) (hp : p < n - 1) (hd : dn n u p = false) (a : blw n lo u = true) (b : blw n (bs n u p) up = true) (e : lst n S lo = lst n S up) : S.getLsbD (ar n u p) = true := by
  have hb := bs_ok h1 h6 hu hp
  obtain ⟨k1, k2, k3⟩ := bk_ok h1 h6 hu hp
  rw [hd] at k2
  have s1 : blw n u (bs n u p) = true := bw_step (b := false) h1 h6 hu hp hd
  have x1 := lst_mono h1 h6 hS hlo hu a
  have x2 := lst_mono h1 h6 hS hu hb s1
  have x3 := lst_mono h1 h6 hS hb hup b
  rw [e] at x1
  have e1 : lst n S u = lst n S up := blw_anti h1 h6 (lst_ok h1 h6 hu) (lst_ok h1 h6 hup) (blw_trans x2 x3) x1
  have e2 : lst n S (bs n u p) = lst n S up := blw_anti h1 h6 (lst_ok h1 h6 hb) (lst_ok h1 h6 hup) x3 (by rw [← e1]; exact x2)
  have m := (mon_step (b := true) h1 h6 hS _ (bs n u p) p hb (Nat.le_refl _) hp k2).2
  rw [k1, k3] at m
  cases q : S.getLsbD (ar n u p) with
  | true => rfl
  | false => exact absurd (e1.trans e2.symm) (m q)
/-- the way up, as the reference takes it -/
def upP (n up u : Nat) : Option Nat := fst (fun p => !dn n u p && blw n (bs n u p) up) (n - 1) 0
def chU (n up : Nat) : Nat → Nat → BitVec 64
  | 0, _ => 0#64
  | f + 1, u => if u = up then 0#64 else match upP n up u with
    | some p => FO n (ar n u p) ||| chU n up f (bs n u p)
    | none => 0#64
theorem upP_some {n up u p : Nat} (e : upP n up u = some p) : p < n - 1 ∧ dn n u p = false ∧ blw n (bs n u p) up = true := by
  have q := (fst_some e).2.2
  rw [Bool.and_eq_true, Bool.not_eq_true'] at q
  exact ⟨by have := (fst_some e).2.1; omega, q⟩
theorem upP_ex {n up u : Nat} (h1 : 1 ≤ n) (h6 : n ≤ 6) (hu : u < FC n) (hup : up < FC n) (hb : blw n u up = true) (hne : u ≠ up) : ∃ p, upP n up u = some p := by
  obtain ⟨p, hp, hd, hb2⟩ := wk_step h1 h6 hu hup hb hne
  cases e : upP n up u with
  | some q => exact ⟨q, rfl⟩
  | none =>
    have := fst_none e p (Nat.zero_le _) (by omega)
    rw [hd, hb2] at this
    exact absurd this (by decide)
