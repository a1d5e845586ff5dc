/-! ===== running it ===== -/
def entL : List AV → LV
  | [] => []
  | v :: l => if isLong (some v) then some v :: none :: entL l else some v :: entL l
abbrev CT : Type := Nat → List AV → HP → PO → Prop
def awN (call : CT) (sc : List Int) (M : Nat) (R : PO) : Nat → CF → Prop
  | 0, _ => False
  | n + 1, (pc, L, st, hp, B) => match stepE sc (cd M pc) (pc + 1) L st hp B with
    | none => False
    | some (.inl c) => awN call sc M R n c
    | some (.inr (.inl (y, args, c))) => call y args hp (fun v h => awN call sc M R n (c.1, c.2.1, v.toList ++ c.2.2.1, h, c.2.2.2.2))
    | some (.inr (.inr v)) => R v hp
def callD : Nat → CT
  | 0 => fun _ _ _ _ => False
  | d + 1 => fun M args hp R => (entL args).length + np M = mxN M ∧ ∃ n, awN (callD d) [] M R n (0, entL args ++ List.replicate (np M) none, [], hp, bu M)
def AW (d : Nat) (sc : List Int) (M : Nat) (R : PO) (pc : Nat) (L : LV) (st : List AV) (hp : HP) (B : BU) : Prop := ∃ n, awN (callD d) sc M R n (pc, L, st, hp, B)
def AWh (d : Nat) (sc : List Int) (M : Nat) (R : PO) (pc : Nat) (L : LV) (st : List AV) (hp : HP) (B : BU) : Prop := AW d sc M R pc L st hp B
def AWg (d : Nat) (sc : List Int) (M : Nat) (R : PO) (pc : Nat) (e : AI) (L : LV) (st : List AV) (hp : HP) (B : BU) : Prop :=
  match stepE sc e (pc + 1) L st hp B with
  | none => False
  | some (.inl c) => AW d sc M R c.1 c.2.1 c.2.2.1 c.2.2.2.1 c.2.2.2.2
  | some (.inr (.inl (y, args, c))) => callD d y args hp (fun v h => AW d sc M R c.1 c.2.1 (v.toList ++ c.2.2.1) h c.2.2.2.2)
  | some (.inr (.inr v)) => R v hp
/-- a head is shown as such, and stops a simp -/
def AWk (d : Nat) (sc : List Int) (M : Nat) (R : PO) (pc : Nat) (e : AI) (L : LV) (st : List AV) (hp : HP) (B : BU) : Prop :=
  match e.1 with
  | 0 => AWg d sc M R pc e L st hp B
  | _ => AWh d sc M R pc L st hp B
/-- more is asked of the end: still; and there is one end -/
theorem awN_mono {call : CT} (hc : ∀ M args hp (R R' : PO), (∀ v h, R v h → R' v h) → call M args hp R → call M args hp R') {sc : List Int} {M : Nat} {R R' : PO} (hR : ∀ v h, R v h → R' v h) : ∀ (n : Nat) (c : CF), awN call sc M R n c → awN call sc M R' n c := by
  intro n
  induction n with
  | zero => intro c h; exact h
  | succ n ih =>
    rintro ⟨pc, L, st, hp, B⟩ h
    unfold awN at h ⊢
    split at h
    · exact h
    · exact ih _ h
    · exact hc _ _ _ _ _ (fun v h => ih _) h
    · exact hR _ _ h
theorem callD_mono : ∀ (d : Nat) (M : Nat) (args : List AV) (hp : HP) (R R' : PO), (∀ v h, R v h → R' v h) → callD d M args hp R → callD d M args hp R' := by
  intro d
  induction d with
  | zero => intro M args hp R R' hR h; exact h
  | succ d ih =>
    intro M args hp R R' hR ⟨hl, n, h⟩
    exact ⟨hl, n, awN_mono ih hR n _ h⟩
theorem awN_more {call : CT} (hc : ∀ M args hp (R R' : PO), (∀ v h, R v h → R' v h) → call M args hp R → call M args hp R') {sc : List Int} {M : Nat} {R : PO} : ∀ (n : Nat) (c : CF), awN call sc M R n c → awN call sc M R (n + 1) c := by
  intro n
  induction n with
  | zero => intro c h; exact h.elim
  | succ n ih =>
    rintro ⟨pc, L, st, hp, B⟩ h
    unfold awN at h ⊢
    split at h
    · exact h
    · exact ih _ h
    · exact hc _ _ _ _ _ (fun v h => ih _) h
    · exact h
theorem awN_le {call : CT} (hc : ∀ M args hp (R R' : PO), (∀ v h, R v h → R' v h) → call M args hp R → call M args hp R') {sc : List Int} {M : Nat} {R : PO} {n k : Nat} (hk : n ≤ k) {c : CF} (h : awN call sc M R n c) : awN call sc M R k c := by
  induction hk with
  | refl => exact h
  | step _ ih => exact awN_more hc _ _ ih
theorem awN_one {call : CT} (hm : ∀ M args hp (R R' : PO), (∀ v h, R v h → R' v h) → call M args hp R → call M args hp R') (hc : ∀ M args hp (R : PO), call M args hp R → ∃ v h, R v h ∧ call M args hp (fun v' h' => v' = v ∧ h' = h)) {sc : List Int} {M : Nat} {R : PO} : ∀ (n : Nat) (c : CF), awN call sc M R n c → ∃ v h, R v h ∧ awN call sc M (fun v' h' => v' = v ∧ h' = h) n c := by
  intro n
  induction n with
  | zero => intro c h; exact h.elim
  | succ n ih =>
    rintro ⟨pc, L, st, hp, B⟩ h
    unfold awN at h
    split at h
    · exact h.elim
    · next c e =>
      obtain ⟨v, h', h1, h2⟩ := ih _ h
      refine ⟨v, h', h1, ?_⟩
      unfold awN
      rw [e]
      exact h2
    · next y args c e =>
      obtain ⟨v, h', h1, h2⟩ := hc _ _ _ _ h
      obtain ⟨v2, h3, h4, h5⟩ := ih _ h1
      refine ⟨v2, h3, h4, ?_⟩
      unfold awN
      rw [e]
      refine hm _ _ _ _ _ ?_ h2
      rintro v' h' ⟨rfl, rfl⟩
      exact h5
    · next v e =>
      refine ⟨v, hp, h, ?_⟩
      unfold awN
      rw [e]
      exact ⟨rfl, rfl⟩
theorem callD_one : ∀ (d : Nat) (M : Nat) (args : List AV) (hp : HP) (R : PO), callD d M args hp R → ∃ v h, R v h ∧ callD d M args hp (fun v' h' => v' = v ∧ h' = h) := by
  intro d
  induction d with
  | zero => intro M args hp R h; exact h.elim
  | succ d ih =>
    intro M args hp R ⟨hl, n, h⟩
    obtain ⟨v, h', h1, h2⟩ := awN_one (callD_mono d) ih n _ h
    exact ⟨v, h', h1, hl, n, h2⟩
theorem AW_go {d : Nat} {sc : List Int} {M : Nat} {R : PO} {pc : Nat} {L : LV} {st : List AV} {hp : HP} {B : BU} : AW d sc M R pc L st hp B ↔ AWg d sc M R pc (cd M pc) L st hp B := by
  unfold AWg
  constructor
  · rintro ⟨n, h⟩
    cases n with
    | zero => exact h.elim
    | succ n =>
      unfold awN at h
      split at h
      · exact h
      · exact ⟨n, h⟩
      · exact callD_mono _ _ _ _ _ _ (fun v h2 q => ⟨n, q⟩) h
      · exact h
  · intro h
    split at h
    · exact h.elim
    · next c e =>
      obtain ⟨n, h⟩ := h
      refine ⟨n + 1, ?_⟩
      unfold awN
      rw [e]
      exact h
    · next y args c e =>
      obtain ⟨v, h', ⟨n, h1⟩, h2⟩ := callD_one _ _ _ _ _ h
      refine ⟨n + 1, ?_⟩
      unfold awN
      rw [e]
      refine callD_mono _ _ _ _ _ _ ?_ h2
      rintro v' h' ⟨rfl, rfl⟩
      exact h1
    · next v e =>
      refine ⟨1, ?_⟩
      unfold awN
      rw [e]
      exact h
theorem AW_k {d : Nat} {sc : List Int} {M : Nat} {R : PO} {pc : Nat} {L : LV} {st : List AV} {hp : HP} {B : BU} : AW d sc M R pc L st hp B ↔ AWk d sc M R pc (cd M pc) L st hp B := by
  unfold AWk
  split
  · exact AW_go
  · exact Iff.rfl
theorem AWh_k {d : Nat} {sc : List Int} {M : Nat} {R : PO} {pc : Nat} {L : LV} {st : List AV} {hp : HP} {B : BU} : AWh d sc M R pc L st hp B ↔ AWk d sc M R pc (0, (cd M pc).2) L st hp B := by
  show AW d sc M R pc L st hp B ↔ AWg d sc M R pc (0, (cd M pc).2) L st hp B
  exact AW_go
theorem callD_k {d : Nat} {M : Nat} {args : List AV} {hp : HP} {R : PO} : callD (d + 1) M args hp R ↔ (entL args).length + np M = mxN M ∧ AW d [] M R 0 (entL args ++ List.replicate (np M) none) [] hp (bu M) := Iff.rfl
theorem AW_mono {d : Nat} {sc : List Int} {M : Nat} {R R' : PO} {pc : Nat} {L : LV} {st : List AV} {hp : HP} {B : BU} (hR : ∀ v h, R v h → R' v h) (h : AW d sc M R pc L st hp B) : AW d sc M R' pc L st hp B := by
  obtain ⟨n, h⟩ := h
  exact ⟨n, awN_mono (callD_mono d) hR n _ h⟩
/-- a call whose end is known -/
theorem callD_iff {d M : Nat} {args : List AV} {hp h : HP} {v : Option AV} (hc : callD d M args hp (fun v' h' => v' = v ∧ h' = h)) (R : PO) : callD d M args hp R ↔ R v h := by
  constructor
  · intro h1
    obtain ⟨n1, n2, r1, r2⟩ := callD_one _ _ _ _ _ h1
    -- both ends are that of one run
    have key : ∀ (d : Nat) (M : Nat) (args : List AV) (hp : HP) (R1 R2 : PO), callD d M args hp R1 → callD d M args hp R2 → callD d M args hp (fun v h => R1 v h ∧ R2 v h) := by
      intro d
      induction d with
      | zero => intro M args hp R1 R2 h _; exact h
      | succ d ih =>
        intro M args hp R1 R2 ⟨hl, a, ha⟩ ⟨_, b, hb⟩
        have ha' := awN_le (callD_mono d) (Nat.le_max_left a b) ha
        have hb' := awN_le (callD_mono d) (Nat.le_max_right a b) hb
        refine ⟨hl, max a b, ?_⟩
        generalize max a b = n at ha' hb' ⊢
        clear ha hb
        generalize ((0, entL args ++ List.replicate (np M) none, [], hp, bu M) : CF) = c at ha' hb' ⊢
        induction n generalizing c with
        | zero => exact ha'
        | succ n ihn =>
          obtain ⟨pc, L, st, hp, B⟩ := c
          unfold awN at ha' hb' ⊢
          split at ha'
          · exact ha'
          · next c e => rw [e] at hb'; exact ihn c ha' hb'
          · next y args c e =>
            rw [e] at hb'
            exact callD_mono _ _ _ _ _ _ (fun v h q => ihn _ q.1 q.2) (ih _ _ _ _ _ ha' hb')
          · next v e => rw [e] at hb'; exact ⟨ha', hb'⟩
    obtain ⟨v3, h3, ⟨⟨e1, e2⟩, e3⟩, -⟩ := callD_one _ _ _ _ _ (key _ _ _ _ _ _ hc h1)
    rw [← e1, ← e2]
    exact e3
  · intro h1
    refine callD_mono _ _ _ _ _ _ ?_ hc
    rintro v' h' ⟨rfl, rfl⟩
    exact h1
