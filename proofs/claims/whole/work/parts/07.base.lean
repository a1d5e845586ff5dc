theorem entL_nil : entL [] = [] := rfl
theorem entL_i {x : Int} {l : List AV} : entL (mI x :: l) = some (mI x) :: entL l := rfl
theorem entL_l {x : BitVec 64} {l : List AV} : entL (mL x :: l) = some (mL x) :: none :: entL l := rfl
theorem entL_q {x : Option Nat} {l : List AV} : entL (mQ x :: l) = some (mQ x) :: entL l := rfl
theorem entL_s {x : Nat} {l : List AV} : entL (mS x :: l) = some (mS x) :: entL l := rfl
theorem rep_0 : List.replicate 0 (none : Option AV) = [] := rfl
theorem rep_1 : List.replicate 1 (none : Option AV) = [none] := rfl
theorem rep_2 : List.replicate 2 (none : Option AV) = [none, none] := rfl
theorem rep_3 : List.replicate 3 (none : Option AV) = [none, none, none] := rfl
theorem rep_4 : List.replicate 4 (none : Option AV) = [none, none, none, none] := rfl
theorem rep_5 : List.replicate 5 (none : Option AV) = [none, none, none, none, none] := rfl
theorem rep_6 : List.replicate 6 (none : Option AV) = [none, none, none, none, none, none] := rfl
theorem rep_7 : List.replicate 7 (none : Option AV) = [none, none, none, none, none, none, none] := rfl
theorem rep_8 : List.replicate 8 (none : Option AV) = [none, none, none, none, none, none, none, none] := rfl
theorem rep_9 : List.replicate 9 (none : Option AV) = [none, none, none, none, none, none, none, none, none] := rfl
theorem rep_10 : List.replicate 10 (none : Option AV) = [none, none, none, none, none, none, none, none, none, none] := rfl
theorem rep_11 : List.replicate 11 (none : Option AV) = [none, none, none, none, none, none, none, none, none, none, none] := rfl
theorem rep_12 : List.replicate 12 (none : Option AV) = [none, none, none, none, none, none, none, none, none, none, none, none] := rfl
theorem rep_13 : List.replicate 13 (none : Option AV) = [none, none, none, none, none, none, none, none, none, none, none, none, none] := rfl
theorem rep_14 : List.replicate 14 (none : Option AV) = [none, none, none, none, none, none, none, none, none, none, none, none, none, none] := rfl
theorem rep_15 : List.replicate 15 (none : Option AV) = [none, none, none, none, none, none, none, none, none, none, none, none, none, none, none] := rfl
theorem rep_16 : List.replicate 16 (none : Option AV) = [none, none, none, none, none, none, none, none, none, none, none, none, none, none, none, none] := rfl
theorem rep_17 : List.replicate 17 (none : Option AV) = [none, none, none, none, none, none, none, none, none, none, none, none, none, none, none, none, none] := rfl
theorem rep_18 : List.replicate 18 (none : Option AV) = [none, none, none, none, none, none, none, none, none, none, none, none, none, none, none, none, none, none] := rfl
theorem rep_19 : List.replicate 19 (none : Option AV) = [none, none, none, none, none, none, none, none, none, none, none, none, none, none, none, none, none, none, none] := rfl
/-! ===== reading behind writing ===== -/
theorem pF_or (hp : HP) (a ci k : Nat) (v : AV) : pF hp a ci k v = hp ∨ ∃ fs, hp[a]? = some (.inl (ci, fs)) ∧ pF hp a ci k v = hp.set a (.inl (ci, fs.set k v)) := by
  unfold pF
  split
  · next c fs e =>
    by_cases hc : c = ci
    · subst hc
      rw [if_pos rfl]
      exact Or.inr ⟨fs, e, rfl⟩
    · rw [if_neg hc]
      exact Or.inl rfl
  · exact Or.inl rfl
theorem gF_pF {hp : HP} {a ci k a' ci' k' : Nat} {v : AV} (h : ¬ (a = a' ∧ k = k')) : gF (pF hp a ci k v) a' ci' k' = gF hp a' ci' k' := by
  rcases pF_or hp a ci k v with e | ⟨fs, e1, e2⟩
  · rw [e]
  · rw [e2]
    unfold gF
    by_cases ha : a = a'
    · subst ha
      have hl : a < hp.length := (List.getElem?_eq_some_iff.mp e1).1
      rw [List.getElem?_set_self hl, e1]
      have hk : k ≠ k' := fun q => h ⟨rfl, q⟩
      simp only [List.getElem?_set_ne hk]
    · rw [List.getElem?_set_ne ha]
theorem gF_pF_same {hp : HP} {a ci k : Nat} {v w : AV} (h : gF hp a ci k = some w) : gF (pF hp a ci k v) a ci k = some v := by
  unfold gF at h
  split at h
  · next c fs e =>
    by_cases hc : c = ci
    · rw [if_pos hc] at h
      have hl : a < hp.length := (List.getElem?_eq_some_iff.mp e).1
      have hk : k < fs.length := (List.getElem?_eq_some_iff.mp h).1
      have e2 : (pF hp a ci k v)[a]? = some (.inl (c, fs.set k v)) := by
        unfold pF
        rw [e]
        simp only [if_pos hc]
        exact List.getElem?_set_self hl
      unfold gF
      rw [e2]
      simp only [if_pos hc]
      exact List.getElem?_set_self hk
    · rw [if_neg hc] at h; cases h
  · cases h
theorem gC_pF {hp : HP} {a ci k a' : Nat} {v : AV} : gC (pF hp a ci k v) a' = gC hp a' := by
  unfold pF
  split
  · next c fs e =>
    by_cases hc : c = ci
    · rw [if_pos hc]
      have hl : a < hp.length := (List.getElem?_eq_some_iff.mp e).1
      unfold gC
      by_cases ha : a = a'
      · subst ha; rw [List.getElem?_set_self hl, e] <;> rfl
      · rw [List.getElem?_set_ne ha]
    · rw [if_neg hc]
  · rfl
theorem len_pF {hp : HP} {a ci k : Nat} {v : AV} : (pF hp a ci k v).length = hp.length := by
  unfold pF; split
  · split
    · exact List.length_set ..
    · rfl
  · rfl
theorem len_pA {hp : HP} {a : Nat} {l : List Int} : (pA hp a l).length = hp.length := by
  unfold pA; split
  · exact List.length_set ..
  · rfl
theorem len_pB {hp : HP} {a : Nat} {l : List Int} : (pB hp a l).length = hp.length := by
  unfold pB; split
  · exact List.length_set ..
  · rfl
theorem len_pJ {hp : HP} {a : Nat} {l : List (BitVec 64)} : (pJ hp a l).length = hp.length := by
  unfold pJ; split
  · exact List.length_set ..
  · rfl
theorem len_pQ {hp : HP} {a t : Nat} {l : List (Option Nat)} : (pQ hp a t l).length = hp.length := by
  unfold pQ; split
  · split
    · exact List.length_set ..
    · rfl
  · rfl
theorem gA_pF {hp : HP} {a a' : Nat} {ci k : Nat} {v : AV}  : gA (pF hp a ci k v) a' = gA hp a' := by
  unfold pF
  split
  · next c fs e =>
    by_cases hc : c = ci
    · rw [if_pos hc]
      have hl : a < hp.length := (List.getElem?_eq_some_iff.mp e).1
      unfold gA
      by_cases ha : a = a'
      · subst ha; rw [List.getElem?_set_self hl, e] <;> rfl
      · rw [List.getElem?_set_ne ha]
    · rw [if_neg hc]
  · rfl
theorem gB_pF {hp : HP} {a a' : Nat} {ci k : Nat} {v : AV}  : gB (pF hp a ci k v) a' = gB hp a' := by
  unfold pF
  split
  · next c fs e =>
    by_cases hc : c = ci
    · rw [if_pos hc]
      have hl : a < hp.length := (List.getElem?_eq_some_iff.mp e).1
      unfold gB
      by_cases ha : a = a'
      · subst ha; rw [List.getElem?_set_self hl, e] <;> rfl
      · rw [List.getElem?_set_ne ha]
    · rw [if_neg hc]
  · rfl
theorem gJ_pF {hp : HP} {a a' : Nat} {ci k : Nat} {v : AV}  : gJ (pF hp a ci k v) a' = gJ hp a' := by
  unfold pF
  split
  · next c fs e =>
    by_cases hc : c = ci
    · rw [if_pos hc]
      have hl : a < hp.length := (List.getElem?_eq_some_iff.mp e).1
      unfold gJ
      by_cases ha : a = a'
      · subst ha; rw [List.getElem?_set_self hl, e] <;> rfl
      · rw [List.getElem?_set_ne ha]
    · rw [if_neg hc]
  · rfl
theorem gQ_pF {hp : HP} {a a' : Nat} {ci k : Nat} {v : AV} {t' : Nat} : gQ (pF hp a ci k v) a' t' = gQ hp a' t' := by
  unfold pF
  split
  · next c fs e =>
    by_cases hc : c = ci
    · rw [if_pos hc]
      have hl : a < hp.length := (List.getElem?_eq_some_iff.mp e).1
      unfold gQ
      by_cases ha : a = a'
      · subst ha; rw [List.getElem?_set_self hl, e] <;> rfl
      · rw [List.getElem?_set_ne ha]
    · rw [if_neg hc]
  · rfl
theorem gF_pA {hp : HP} {a a' : Nat} {l : List Int} {ci' k' : Nat} : gF (pA hp a l) a' ci' k' = gF hp a' ci' k' := by
  unfold pA
  split
  · next l2 e =>
    have hl : a < hp.length := (List.getElem?_eq_some_iff.mp e).1
    unfold gF
    by_cases ha : a = a'
    · subst ha; rw [List.getElem?_set_self hl, e] <;> rfl
    · rw [List.getElem?_set_ne ha]
  · rfl
theorem gC_pA {hp : HP} {a a' : Nat} {l : List Int}  : gC (pA hp a l) a' = gC hp a' := by
  unfold pA
  split
  · next l2 e =>
    have hl : a < hp.length := (List.getElem?_eq_some_iff.mp e).1
    unfold gC
    by_cases ha : a = a'
    · subst ha; rw [List.getElem?_set_self hl, e] <;> rfl
    · rw [List.getElem?_set_ne ha]
  · rfl
theorem gA_pA {hp : HP} {a a' : Nat} {l : List Int}  (h : a ≠ a') : gA (pA hp a l) a' = gA hp a' := by
  unfold pA
  split
  · next l2 e =>
    have hl : a < hp.length := (List.getElem?_eq_some_iff.mp e).1
    unfold gA
    by_cases ha : a = a'
    · exact absurd ha h
    · rw [List.getElem?_set_ne ha]
  · rfl
theorem gB_pA {hp : HP} {a a' : Nat} {l : List Int}  : gB (pA hp a l) a' = gB hp a' := by
  unfold pA
  split
  · next l2 e =>
    have hl : a < hp.length := (List.getElem?_eq_some_iff.mp e).1
    unfold gB
    by_cases ha : a = a'
    · subst ha; rw [List.getElem?_set_self hl, e] <;> rfl
    · rw [List.getElem?_set_ne ha]
  · rfl
theorem gJ_pA {hp : HP} {a a' : Nat} {l : List Int}  : gJ (pA hp a l) a' = gJ hp a' := by
  unfold pA
  split
  · next l2 e =>
    have hl : a < hp.length := (List.getElem?_eq_some_iff.mp e).1
    unfold gJ
    by_cases ha : a = a'
    · subst ha; rw [List.getElem?_set_self hl, e] <;> rfl
    · rw [List.getElem?_set_ne ha]
  · rfl
theorem gQ_pA {hp : HP} {a a' : Nat} {l : List Int} {t' : Nat} : gQ (pA hp a l) a' t' = gQ hp a' t' := by
  unfold pA
  split
  · next l2 e =>
    have hl : a < hp.length := (List.getElem?_eq_some_iff.mp e).1
    unfold gQ
    by_cases ha : a = a'
    · subst ha; rw [List.getElem?_set_self hl, e] <;> rfl
    · rw [List.getElem?_set_ne ha]
  · rfl
theorem gF_pB {hp : HP} {a a' : Nat} {l : List Int} {ci' k' : Nat} : gF (pB hp a l) a' ci' k' = gF hp a' ci' k' := by
  unfold pB
  split
  · next l2 e =>
    have hl : a < hp.length := (List.getElem?_eq_some_iff.mp e).1
    unfold gF
    by_cases ha : a = a'
    · subst ha; rw [List.getElem?_set_self hl, e] <;> rfl
    · rw [List.getElem?_set_ne ha]
  · rfl
theorem gC_pB {hp : HP} {a a' : Nat} {l : List Int}  : gC (pB hp a l) a' = gC hp a' := by
  unfold pB
  split
  · next l2 e =>
    have hl : a < hp.length := (List.getElem?_eq_some_iff.mp e).1
    unfold gC
    by_cases ha : a = a'
    · subst ha; rw [List.getElem?_set_self hl, e] <;> rfl
    · rw [List.getElem?_set_ne ha]
  · rfl
theorem gA_pB {hp : HP} {a a' : Nat} {l : List Int}  : gA (pB hp a l) a' = gA hp a' := by
  unfold pB
  split
  · next l2 e =>
    have hl : a < hp.length := (List.getElem?_eq_some_iff.mp e).1
    unfold gA
    by_cases ha : a = a'
    · subst ha; rw [List.getElem?_set_self hl, e] <;> rfl
    · rw [List.getElem?_set_ne ha]
  · rfl
theorem gB_pB {hp : HP} {a a' : Nat} {l : List Int}  (h : a ≠ a') : gB (pB hp a l) a' = gB hp a' := by
  unfold pB
  split
  · next l2 e =>
    have hl : a < hp.length := (List.getElem?_eq_some_iff.mp e).1
    unfold gB
    by_cases ha : a = a'
    · exact absurd ha h
    · rw [List.getElem?_set_ne ha]
  · rfl
theorem gJ_pB {hp : HP} {a a' : Nat} {l : List Int}  : gJ (pB hp a l) a' = gJ hp a' := by
  unfold pB
  split
  · next l2 e =>
    have hl : a < hp.length := (List.getElem?_eq_some_iff.mp e).1
    unfold gJ
    by_cases ha : a = a'
    · subst ha; rw [List.getElem?_set_self hl, e] <;> rfl
    · rw [List.getElem?_set_ne ha]
  · rfl
theorem gQ_pB {hp : HP} {a a' : Nat} {l : List Int} {t' : Nat} : gQ (pB hp a l) a' t' = gQ hp a' t' := by
  unfold pB
  split
  · next l2 e =>
    have hl : a < hp.length := (List.getElem?_eq_some_iff.mp e).1
    unfold gQ
    by_cases ha : a = a'
    · subst ha; rw [List.getElem?_set_self hl, e] <;> rfl
    · rw [List.getElem?_set_ne ha]
  · rfl
theorem gF_pJ {hp : HP} {a a' : Nat} {l : List (BitVec 64)} {ci' k' : Nat} : gF (pJ hp a l) a' ci' k' = gF hp a' ci' k' := by
  unfold pJ
  split
  · next l2 e =>
    have hl : a < hp.length := (List.getElem?_eq_some_iff.mp e).1
    unfold gF
    by_cases ha : a = a'
    · subst ha; rw [List.getElem?_set_self hl, e] <;> rfl
    · rw [List.getElem?_set_ne ha]
  · rfl
theorem gC_pJ {hp : HP} {a a' : Nat} {l : List (BitVec 64)}  : gC (pJ hp a l) a' = gC hp a' := by
  unfold pJ
  split
  · next l2 e =>
    have hl : a < hp.length := (List.getElem?_eq_some_iff.mp e).1
    unfold gC
    by_cases ha : a = a'
    · subst ha; rw [List.getElem?_set_self hl, e] <;> rfl
    · rw [List.getElem?_set_ne ha]
  · rfl
theorem gA_pJ {hp : HP} {a a' : Nat} {l : List (BitVec 64)}  : gA (pJ hp a l) a' = gA hp a' := by
  unfold pJ
  split
  · next l2 e =>
    have hl : a < hp.length := (List.getElem?_eq_some_iff.mp e).1
    unfold gA
    by_cases ha : a = a'
    · subst ha; rw [List.getElem?_set_self hl, e] <;> rfl
    · rw [List.getElem?_set_ne ha]
  · rfl
theorem gB_pJ {hp : HP} {a a' : Nat} {l : List (BitVec 64)}  : gB (pJ hp a l) a' = gB hp a' := by
  unfold pJ
  split
  · next l2 e =>
    have hl : a < hp.length := (List.getElem?_eq_some_iff.mp e).1
    unfold gB
    by_cases ha : a = a'
    · subst ha; rw [List.getElem?_set_self hl, e] <;> rfl
    · rw [List.getElem?_set_ne ha]
  · rfl
theorem gJ_pJ {hp : HP} {a a' : Nat} {l : List (BitVec 64)}  (h : a ≠ a') : gJ (pJ hp a l) a' = gJ hp a' := by
  unfold pJ
  split
  · next l2 e =>
    have hl : a < hp.length := (List.getElem?_eq_some_iff.mp e).1
    unfold gJ
    by_cases ha : a = a'
    · exact absurd ha h
    · rw [List.getElem?_set_ne ha]
  · rfl
theorem gQ_pJ {hp : HP} {a a' : Nat} {l : List (BitVec 64)} {t' : Nat} : gQ (pJ hp a l) a' t' = gQ hp a' t' := by
  unfold pJ
  split
  · next l2 e =>
    have hl : a < hp.length := (List.getElem?_eq_some_iff.mp e).1
    unfold gQ
    by_cases ha : a = a'
    · subst ha; rw [List.getElem?_set_self hl, e] <;> rfl
    · rw [List.getElem?_set_ne ha]
  · rfl
theorem gF_pQ {hp : HP} {a a' : Nat} {t : Nat} {l : List (Option Nat)} {ci' k' : Nat} : gF (pQ hp a t l) a' ci' k' = gF hp a' ci' k' := by
  unfold pQ
  split
  · next u l2 e =>
    by_cases hc : u = t
    · rw [if_pos hc]
      have hl : a < hp.length := (List.getElem?_eq_some_iff.mp e).1
      unfold gF
      by_cases ha : a = a'
      · subst ha; rw [List.getElem?_set_self hl, e] <;> rfl
      · rw [List.getElem?_set_ne ha]
    · rw [if_neg hc]
  · rfl
theorem gC_pQ {hp : HP} {a a' : Nat} {t : Nat} {l : List (Option Nat)}  : gC (pQ hp a t l) a' = gC hp a' := by
  unfold pQ
  split
  · next u l2 e =>
    by_cases hc : u = t
    · rw [if_pos hc]
      have hl : a < hp.length := (List.getElem?_eq_some_iff.mp e).1
      unfold gC
      by_cases ha : a = a'
      · subst ha; rw [List.getElem?_set_self hl, e] <;> rfl
      · rw [List.getElem?_set_ne ha]
    · rw [if_neg hc]
  · rfl
theorem gA_pQ {hp : HP} {a a' : Nat} {t : Nat} {l : List (Option Nat)}  : gA (pQ hp a t l) a' = gA hp a' := by
  unfold pQ
  split
  · next u l2 e =>
    by_cases hc : u = t
    · rw [if_pos hc]
      have hl : a < hp.length := (List.getElem?_eq_some_iff.mp e).1
      unfold gA
      by_cases ha : a = a'
      · subst ha; rw [List.getElem?_set_self hl, e] <;> rfl
      · rw [List.getElem?_set_ne ha]
    · rw [if_neg hc]
  · rfl
theorem gB_pQ {hp : HP} {a a' : Nat} {t : Nat} {l : List (Option Nat)}  : gB (pQ hp a t l) a' = gB hp a' := by
  unfold pQ
  split
  · next u l2 e =>
    by_cases hc : u = t
    · rw [if_pos hc]
      have hl : a < hp.length := (List.getElem?_eq_some_iff.mp e).1
      unfold gB
      by_cases ha : a = a'
      · subst ha; rw [List.getElem?_set_self hl, e] <;> rfl
      · rw [List.getElem?_set_ne ha]
    · rw [if_neg hc]
  · rfl
theorem gJ_pQ {hp : HP} {a a' : Nat} {t : Nat} {l : List (Option Nat)}  : gJ (pQ hp a t l) a' = gJ hp a' := by
  unfold pQ
  split
  · next u l2 e =>
    by_cases hc : u = t
    · rw [if_pos hc]
      have hl : a < hp.length := (List.getElem?_eq_some_iff.mp e).1
      unfold gJ
      by_cases ha : a = a'
      · subst ha; rw [List.getElem?_set_self hl, e] <;> rfl
      · rw [List.getElem?_set_ne ha]
    · rw [if_neg hc]
  · rfl
theorem gQ_pQ {hp : HP} {a a' : Nat} {t : Nat} {l : List (Option Nat)} {t' : Nat} (h : a ≠ a') : gQ (pQ hp a t l) a' t' = gQ hp a' t' := by
  unfold pQ
  split
  · next u l2 e =>
    by_cases hc : u = t
    · rw [if_pos hc]
      have hl : a < hp.length := (List.getElem?_eq_some_iff.mp e).1
      unfold gQ
      by_cases ha : a = a'
      · exact absurd ha h
      · rw [List.getElem?_set_ne ha]
    · rw [if_neg hc]
  · rfl
theorem gA_pA_same {hp : HP} {a : Nat} {l l2 : List (Int)} (h : gA hp a = some l2) : gA (pA hp a l) a = some l := by
  unfold gA at h
  split at h
  · next l3 e =>
    have hl : a < hp.length := (List.getElem?_eq_some_iff.mp e).1
    have e2 : (pA hp a l)[a]? = some (.inr (.inl (0, l))) := by
      unfold pA
      rw [e]
      exact List.getElem?_set_self hl
    unfold gA
    rw [e2] <;> rfl
  · cases h
theorem pA_not {hp : HP} {a : Nat} {l : List (Int)} (h : gA hp a = none) : pA hp a l = hp := by
  unfold gA at h
  unfold pA
  split
  · next e => rw [e] at h; cases h
  · rfl
theorem pA_is {hp : HP} {a : Nat} {l l2 : List (Int)} (h : gA hp a = some l2) : pA hp a l = hp.set a (.inr (.inl (0, l))) := by
  unfold gA at h
  unfold pA
  split
  · rfl
  · next e =>
    split at h
    · next e2 => exact absurd e2 (e _)
    · cases h
theorem pA_pA {hp : HP} {a : Nat} {l l2 : List (Int)} : pA (pA hp a l) a l2 = pA hp a l2 := by
  cases h : gA hp a with
  | none => rw [pA_not h]
  | some l3 => rw [pA_is (gA_pA_same h), pA_is h, pA_is h, List.set_set]
theorem gB_pB_same {hp : HP} {a : Nat} {l l2 : List (Int)} (h : gB hp a = some l2) : gB (pB hp a l) a = some l := by
  unfold gB at h
  split at h
  · next l3 e =>
    have hl : a < hp.length := (List.getElem?_eq_some_iff.mp e).1
    have e2 : (pB hp a l)[a]? = some (.inr (.inl (1, l))) := by
      unfold pB
      rw [e]
      exact List.getElem?_set_self hl
    unfold gB
    rw [e2] <;> rfl
  · cases h
theorem pB_not {hp : HP} {a : Nat} {l : List (Int)} (h : gB hp a = none) : pB hp a l = hp := by
  unfold gB at h
  unfold pB
  split
  · next e => rw [e] at h; cases h
  · rfl
theorem pB_is {hp : HP} {a : Nat} {l l2 : List (Int)} (h : gB hp a = some l2) : pB hp a l = hp.set a (.inr (.inl (1, l))) := by
  unfold gB at h
  unfold pB
  split
  · rfl
  · next e =>
    split at h
    · next e2 => exact absurd e2 (e _)
    · cases h
theorem pB_pB {hp : HP} {a : Nat} {l l2 : List (Int)} : pB (pB hp a l) a l2 = pB hp a l2 := by
  cases h : gB hp a with
  | none => rw [pB_not h]
  | some l3 => rw [pB_is (gB_pB_same h), pB_is h, pB_is h, List.set_set]
theorem gJ_pJ_same {hp : HP} {a : Nat} {l l2 : List (BitVec 64)} (h : gJ hp a = some l2) : gJ (pJ hp a l) a = some l := by
  unfold gJ at h
  split at h
  · next l3 e =>
    have hl : a < hp.length := (List.getElem?_eq_some_iff.mp e).1
    have e2 : (pJ hp a l)[a]? = some (.inr (.inr (.inl l))) := by
      unfold pJ
      rw [e]
      exact List.getElem?_set_self hl
    unfold gJ
    rw [e2] <;> rfl
  · cases h
theorem pJ_not {hp : HP} {a : Nat} {l : List (BitVec 64)} (h : gJ hp a = none) : pJ hp a l = hp := by
  unfold gJ at h
  unfold pJ
  split
  · next e => rw [e] at h; cases h
  · rfl
theorem pJ_is {hp : HP} {a : Nat} {l l2 : List (BitVec 64)} (h : gJ hp a = some l2) : pJ hp a l = hp.set a (.inr (.inr (.inl l))) := by
  unfold gJ at h
  unfold pJ
  split
  · rfl
  · next e =>
    split at h
    · next e2 => exact absurd e2 (e _)
    · cases h
theorem pJ_pJ {hp : HP} {a : Nat} {l l2 : List (BitVec 64)} : pJ (pJ hp a l) a l2 = pJ hp a l2 := by
  cases h : gJ hp a with
  | none => rw [pJ_not h]
  | some l3 => rw [pJ_is (gJ_pJ_same h), pJ_is h, pJ_is h, List.set_set]
theorem gQ_pQ_same {hp : HP} {a t : Nat} {l l2 : List (Option Nat)} (h : gQ hp a t = some l2) : gQ (pQ hp a t l) a t = some l := by
  unfold gQ at h
  split at h
  · next u l3 e =>
    by_cases hc : u = t
    · have hl : a < hp.length := (List.getElem?_eq_some_iff.mp e).1
      have e2 : (pQ hp a t l)[a]? = some (.inr (.inr (.inr (u, l)))) := by
        unfold pQ
        rw [e]
        simp only [if_pos hc]
        exact List.getElem?_set_self hl
      unfold gQ
      rw [e2]
      simp only [if_pos hc]
    · rw [if_neg hc] at h; cases h
  · cases h
/-- a cell behind others that came -/
theorem gF_app {hp h2 : HP} {a' : Nat} {ci' k' : Nat} (h : a' < hp.length) : gF (hp ++ h2) a' ci' k' = gF hp a' ci' k' := by unfold gF; rw [List.getElem?_append_left h]
theorem gC_app {hp h2 : HP} {a' : Nat}  (h : a' < hp.length) : gC (hp ++ h2) a' = gC hp a' := by unfold gC; rw [List.getElem?_append_left h]
theorem gA_app {hp h2 : HP} {a' : Nat}  (h : a' < hp.length) : gA (hp ++ h2) a' = gA hp a' := by unfold gA; rw [List.getElem?_append_left h]
theorem gB_app {hp h2 : HP} {a' : Nat}  (h : a' < hp.length) : gB (hp ++ h2) a' = gB hp a' := by unfold gB; rw [List.getElem?_append_left h]
theorem gJ_app {hp h2 : HP} {a' : Nat}  (h : a' < hp.length) : gJ (hp ++ h2) a' = gJ hp a' := by unfold gJ; rw [List.getElem?_append_left h]
theorem gQ_app {hp h2 : HP} {a' : Nat} {t' : Nat} (h : a' < hp.length) : gQ (hp ++ h2) a' t' = gQ hp a' t' := by unfold gQ; rw [List.getElem?_append_left h]
