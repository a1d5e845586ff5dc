/-! ===== closed sets are counted alike, whatever arc is taken first ===== -/
def FO (n a : Nat) : BitVec 64 := BitVec.ofNat 64 (fo n a)
def FG (n a : Nat) : BitVec 64 := BitVec.ofNat 64 (fg n a)
def fr (n x y : Nat) : Bool := (fo n x).testBit y
def fr_1_b (n : Nat) : Bool := allB (fun x => fr n x x && allB (fun y => ((fg n y).testBit x == fr n x y) && (!(fr n x y) || (fo n y &&& fo n x == fo n y) && (x == y || !(fr n y x)))) (NA n)) (NA n)
theorem fr_1_c : all6 fr_1_b = true := by decide +kernel
theorem fr_self {n x : Nat} (h1 : 1 ≤ n) (h6 : n ≤ 6) (hx : x < NA n) : fr n x x = true := by
  have := allB_of (all6_of fr_1_c h1 h6) x hx
  rw [Bool.and_eq_true] at this
  exact this.1
theorem fr_all {n x y : Nat} (h1 : 1 ≤ n) (h6 : n ≤ 6) (hx : x < NA n) (hy : y < NA n) : (fg n y).testBit x = fr n x y ∧ (fr n x y = true → (fo n y &&& fo n x = fo n y) ∧ (x = y ∨ fr n y x = false)) := by
  have := allB_of (all6_of fr_1_c h1 h6) x hx
  rw [Bool.and_eq_true] at this
  have := allB_of this.2 y hy
  rw [Bool.and_eq_true, beq_iff_eq] at this
  refine ⟨this.1, fun h => ?_⟩
  have h2 := this.2
  rw [h] at h2
  simpa using h2
def fr_2_b (n : Nat) : Bool := allB (fun x => Nat.ble (fo n x + 1) (2 ^ NA n) && Nat.ble (fg n x + 1) (2 ^ NA n)) (NA n)
theorem fr_2_c : all6 fr_2_b = true := by decide +kernel
theorem fr_hi {n x : Nat} (h1 : 1 ≤ n) (h6 : n ≤ 6) (hx : x < NA n) : fo n x < 2 ^ NA n ∧ fg n x < 2 ^ NA n := by
  have := allB_of (all6_of fr_2_c h1 h6) x hx
  simp only [Bool.and_eq_true, Nat.ble_eq] at this
  exact this
theorem fr_lt {n x y : Nat} (h1 : 1 ≤ n) (h6 : n ≤ 6) (hx : x < NA n) (h : fr n x y = true) : y < NA n := by
  apply Nat.lt_of_not_le
  intro hy
  have := Nat.testBit_lt_two_pow (Nat.lt_of_lt_of_le (fr_hi h1 h6 hx).1 (Nat.pow_le_pow_right (by decide) hy))
  unfold fr at h
  rw [this] at h
  cases h
theorem fr_trans {n x y z : Nat} (h1 : 1 ≤ n) (h6 : n ≤ 6) (hx : x < NA n) (a : fr n x y = true) (b : fr n y z = true) : fr n x z = true := by
  have hy := fr_lt h1 h6 hx a
  have e := ((fr_all h1 h6 hx hy).2 a).1
  have e2 := congrArg (fun s : Nat => s.testBit z) e
  simp only [Nat.testBit_and] at e2
  unfold fr at b ⊢
  rw [b] at e2
  simpa using e2
theorem fr_anti {n x y : Nat} (h1 : 1 ≤ n) (h6 : n ≤ 6) (hx : x < NA n) (a : fr n x y = true) (b : fr n y x = true) : x = y := by
  have hy := fr_lt h1 h6 hx a
  rcases ((fr_all h1 h6 hx hy).2 a).2 with h | h
  · exact h
  · rw [b] at h; cases h
theorem FO_get {n x : Nat} (h1 : 1 ≤ n) (h6 : n ≤ 6) (hx : x < NA n) (j : Nat) : (FO n x).getLsbD j = fr n x j := by
  unfold FO fr
  rw [BitVec.getLsbD_ofNat]
  by_cases hj : j < 64
  · rw [decide_eq_true hj, Bool.true_and]
  · rw [decide_eq_false hj, Bool.false_and]
    have f1 := NA_le n
    exact (Nat.testBit_lt_two_pow (Nat.lt_of_lt_of_le (fr_hi h1 h6 hx).1 (Nat.pow_le_pow_right (by decide) (by omega)))).symm
theorem FG_get {n x : Nat} (h1 : 1 ≤ n) (h6 : n ≤ 6) (hx : x < NA n) {j : Nat} (hj : j < NA n) : (FG n x).getLsbD j = fr n j x := by
  have f1 := NA_le n
  unfold FG
  rw [BitVec.getLsbD_ofNat, decide_eq_true (by omega), Bool.true_and]
  exact (fr_all h1 h6 hj hx).1
/-- a set of arcs -/
def okS (n : Nat) (o : BitVec 64) : Prop := ∀ j, o.getLsbD j = true → j < NA n
theorem okS_and {n : Nat} {o x : BitVec 64} (h : okS n o) : okS n (o &&& x) := by
  intro j hj
  rw [BitVec.getLsbD_and, Bool.and_eq_true] at hj
  exact h j hj.1
theorem not_get {o x : BitVec 64} {j : Nat} (hj : j < 64) : (o &&& ~~~ x).getLsbD j = (o.getLsbD j && !x.getLsbD j) := by
  rw [BitVec.getLsbD_and, BitVec.getLsbD_not, decide_eq_true hj, Bool.true_and]
theorem okS_ext {n : Nat} {o p : BitVec 64} (ho : okS n o) (hp : okS n p) (h : ∀ j, j < NA n → o.getLsbD j = p.getLsbD j) : o = p := by
  apply BitVec.eq_of_getLsbD_eq
  intro j hj
  by_cases h2 : j < NA n
  · exact h j h2
  · cases a : o.getLsbD j
    · cases b : p.getLsbD j
      · rfl
      · exact absurd (hp j b) h2
    · exact absurd (ho j a) h2
theorem cnt_le {f g : Nat → Bool} : ∀ {n : Nat}, (∀ k, k < n → f k = true → g k = true) → cnt f n ≤ cnt g n := by
  intro n
  induction n with
  | zero => intro _; exact Int.le_refl _
  | succ n ih =>
    intro h
    have a := ih (fun k hk => h k (by omega))
    have b := h n (by omega)
    rw [cnt_succ, cnt_succ]
    cases hf : f n
    · have := zI_or (g n); rw [zI_f]; omega
    · rw [b hf, zI_t]; omega
theorem cnt_lt {f g : Nat → Bool} {n x : Nat} (h : ∀ k, k < n → f k = true → g k = true) (hx : x < n) (h1 : f x = false) (h2 : g x = true) : cnt f n < cnt g n := by
  induction n with
  | zero => omega
  | succ n ih =>
    rw [cnt_succ, cnt_succ]
    by_cases e : x = n
    · subst e
      have := cnt_le (n := x) (fun k hk => h k (by omega))
      rw [h1, h2, zI_t, zI_f]; omega
    · have a := ih (fun k hk => h k (by omega)) (by omega)
      have b := h n (by omega)
      cases hf : f n
      · have := zI_or (g n); rw [zI_f]; omega
      · rw [b hf, zI_t]; omega
theorem pop_lt {o x : BitVec 64} {a : Nat} (ha : a < 64) (ho : o.getLsbD a = true) (hx : x.getLsbD a = true) : popI (o &&& ~~~ x) < popI o := by
  apply cnt_lt (x := a) _ ha
  · rw [not_get ha, ho, hx]; rfl
  · exact ho
  · intro k hk h
    rw [not_get hk, Bool.and_eq_true] at h
    exact h.1
def cf (n : Nat) : Nat → BitVec 64 → Int
  | 0, _ => 1
  | f + 1, o => match fst (fun k => o.getLsbD k) (NA n) 0 with
    | some a => cf n f (o &&& ~~~ FO n a) + cf n f (o &&& ~~~ FG n a)
    | none => 1
theorem cf_succ (n f : Nat) (o : BitVec 64) : cf n (f + 1) o = match fst (fun k => o.getLsbD k) (NA n) 0 with
    | some a => cf n f (o &&& ~~~ FO n a) + cf n f (o &&& ~~~ FG n a)
    | none => 1 := rfl
theorem cf_fuel {n : Nat} (h1 : 1 ≤ n) (h6 : n ≤ 6) : ∀ (f f2 : Nat) (o : BitVec 64), popI o ≤ f → popI o ≤ f2 → cf n f o = cf n f2 o := by
  have f1 := NA_le n
  have e0 : ∀ (f : Nat) (o : BitVec 64), popI o ≤ (0 : Nat) → cf n f o = 1 := by
    intro f o h
    cases f with
    | zero => rfl
    | succ f =>
      unfold cf
      split
      · next a e =>
        exfalso
        have h3 := (fst_some e).2.2
        have h2 := (fst_some e).2.1
        have := cnt_lt (f := fun _ => false) (g := fun k => o.getLsbD k) (n := 64) (x := a) (fun _ _ h => by cases h) (by omega) rfl h3
        rw [cnt_zero (fun _ _ => rfl)] at this
        have h' : popI o ≤ 0 := h
        unfold popI at h'
        omega
      · rfl
  intro f
  induction f with
  | zero => intro f2 o h h2; rw [e0 0 o h, e0 f2 o h]
  | succ f ih =>
    intro f2 o h h2
    cases f2 with
    | zero => rw [e0 _ o h2, e0 _ o h2]
    | succ f2 =>
      unfold cf
      split
      · next a e =>
        have h3 := (fst_some e).2.2
        have h4 : a < NA n := by have := (fst_some e).2.1; omega
        have p1 := pop_lt (x := FO n a) (show a < 64 by omega) h3 (by rw [FO_get h1 h6 h4, fr_self h1 h6 h4])
        have p2 := pop_lt (x := FG n a) (show a < 64 by omega) h3 (by rw [FG_get h1 h6 h4 h4, fr_self h1 h6 h4])
        rw [ih f2 _ (by omega) (by omega), ih f2 _ (by omega) (by omega)]
      · rfl
/-- how many closed sets lie in o -/
def CFo (n : Nat) (o : BitVec 64) : Int := cf n 64 o
theorem pop_le (o : BitVec 64) : popI o ≤ 64 := (cnt_in _ 64).2
theorem CF_none {n : Nat} {o : BitVec 64} (h : fst (fun k => o.getLsbD k) (NA n) 0 = none) : CFo n o = 1 := by
  unfold CFo cf
  rw [h]
theorem CF_some {n : Nat} {o : BitVec 64} {a : Nat} (h1 : 1 ≤ n) (h6 : n ≤ 6) (h : fst (fun k => o.getLsbD k) (NA n) 0 = some a) : CFo n o = CFo n (o &&& ~~~ FO n a) + CFo n (o &&& ~~~ FG n a) := by
  have f1 := NA_le n
  have h3 := (fst_some h).2.2
  have h4 : a < NA n := by have := (fst_some h).2.1; omega
  have p1 := pop_lt (x := FO n a) (show a < 64 by omega) h3 (by rw [FO_get h1 h6 h4, fr_self h1 h6 h4])
  have p2 := pop_lt (x := FG n a) (show a < 64 by omega) h3 (by rw [FG_get h1 h6 h4 h4, fr_self h1 h6 h4])
  have p3 := pop_le o
  have e : CFo n o = cf n 63 (o &&& ~~~ FO n a) + cf n 63 (o &&& ~~~ FG n a) := by
    show cf n (63 + 1) o = _
    rw [cf_succ, h]
  rw [e, cf_fuel h1 h6 63 64 _ (by omega) (by omega), cf_fuel h1 h6 63 64 _ (by omega) (by omega)]
  rfl
theorem and_comm3 (o x y : BitVec 64) : o &&& x &&& y = o &&& y &&& x := by
  rw [BitVec.and_assoc, BitVec.and_comm x y, ← BitVec.and_assoc]
/-- any arc of o may be taken first -/
theorem CF_any {n : Nat} (h1 : 1 ≤ n) (h6 : n ≤ 6) : ∀ (c : Nat) (o : BitVec 64) (a : Nat), popI o ≤ c → okS n o → o.getLsbD a = true → CFo n o = CFo n (o &&& ~~~ FO n a) + CFo n (o &&& ~~~ FG n a) := by
  have f1 := NA_le n
  intro c
  induction c with
  | zero =>
    intro o a h ho ha
    exfalso
    have := cnt_lt (f := fun _ => false) (g := fun k => o.getLsbD k) (n := 64) (x := a) (fun _ _ h => by cases h) (by have := ho a ha; omega) rfl ha
    rw [cnt_zero (fun _ _ => rfl)] at this
    have h' : popI o ≤ 0 := h
    unfold popI at h'
    omega
  | succ c ih =>
    intro o a h ho ha
    have haN := ho a ha
    cases e : fst (fun k => o.getLsbD k) (NA n) 0 with
    | none => have := fst_none e a (by omega) (by omega); rw [ha] at this; cases this
    | some b =>
      have hb : o.getLsbD b = true := (fst_some e).2.2
      have hbN := ho b hb
      rw [CF_some h1 h6 e]
      by_cases hab : a = b
      · rw [hab]
      have gD : ∀ (x s j : Nat), x < NA n → j < NA n → (o &&& ~~~ FO n x).getLsbD j = (o.getLsbD j && !fr n x j) := fun x s j hx hj => by rw [not_get (by omega), FO_get h1 h6 hx]
      have gU : ∀ (x s j : Nat), x < NA n → j < NA n → (o &&& ~~~ FG n x).getLsbD j = (o.getLsbD j && !fr n j x) := fun x s j hx hj => by rw [not_get (by omega), FG_get h1 h6 hx hj]
      have pa1 := pop_lt (x := FO n a) (show a < 64 by omega) ha (by rw [FO_get h1 h6 haN, fr_self h1 h6 haN])
      have pa2 := pop_lt (x := FG n a) (show a < 64 by omega) ha (by rw [FG_get h1 h6 haN haN, fr_self h1 h6 haN])
      have pb1 := pop_lt (x := FO n b) (show b < 64 by omega) hb (by rw [FO_get h1 h6 hbN, fr_self h1 h6 hbN])
      have pb2 := pop_lt (x := FG n b) (show b < 64 by omega) hb (by rw [FG_get h1 h6 hbN hbN, fr_self h1 h6 hbN])
      have nn : ¬ (fr n a b = true ∧ fr n b a = true) := fun q => hab (fr_anti h1 h6 haN q.1 q.2)
      have swapDU : o &&& ~~~ FO n b &&& ~~~ FG n a = o &&& ~~~ FG n a &&& ~~~ FO n b := and_comm3 ..
      have swapDD : o &&& ~~~ FO n b &&& ~~~ FO n a = o &&& ~~~ FO n a &&& ~~~ FO n b := and_comm3 ..
      have swapUD : o &&& ~~~ FG n b &&& ~~~ FO n a = o &&& ~~~ FO n a &&& ~~~ FG n b := and_comm3 ..
      have swapUU : o &&& ~~~ FG n b &&& ~~~ FG n a = o &&& ~~~ FG n a &&& ~~~ FG n b := and_comm3 ..
      cases r1 : fr n a b
      · cases r2 : fr n b a
        · -- neither
          have e1 := ih (o &&& ~~~ FO n b) a (by omega) (okS_and ho) (by rw [gD b 0 a hbN haN, ha, r2]; rfl)
          have e2 := ih (o &&& ~~~ FG n b) a (by omega) (okS_and ho) (by rw [gU b 0 a hbN haN, ha, r1]; rfl)
          have e3 := ih (o &&& ~~~ FO n a) b (by omega) (okS_and ho) (by rw [gD a 0 b haN hbN, hb, r1]; rfl)
          have e4 := ih (o &&& ~~~ FG n a) b (by omega) (okS_and ho) (by rw [gU a 0 b haN hbN, hb, r2]; rfl)
          rw [e1, e2, e3, e4, swapDU, swapDD, swapUD, swapUU]
          omega
        · -- b forces a
          have e2 := ih (o &&& ~~~ FG n b) a (by omega) (okS_and ho) (by rw [gU b 0 a hbN haN, ha, r1]; rfl)
          have e3 := ih (o &&& ~~~ FO n a) b (by omega) (okS_and ho) (by rw [gD a 0 b haN hbN, hb, r1]; rfl)
          have s1 : o &&& ~~~ FO n a &&& ~~~ FO n b = o &&& ~~~ FO n b := by
            apply okS_ext (okS_and (okS_and ho)) (okS_and ho)
            intro j hj
            rw [not_get (by omega), gD a 0 j haN hj, gD b 0 j hbN hj, FO_get h1 h6 hbN]
            cases q1 : fr n a j <;> cases q2 : fr n b j <;> cases o.getLsbD j <;> try rfl
            rw [fr_trans h1 h6 hbN r2 q1] at q2; cases q2
          have s2 : o &&& ~~~ FG n b &&& ~~~ FG n a = o &&& ~~~ FG n a := by
            apply okS_ext (okS_and (okS_and ho)) (okS_and ho)
            intro j hj
            rw [not_get (by omega), gU a 0 j haN hj, gU b 0 j hbN hj, FG_get h1 h6 haN hj]
            cases q1 : fr n j a <;> cases q2 : fr n j b <;> cases o.getLsbD j <;> try rfl
            rw [fr_trans h1 h6 hj q2 r2] at q1; cases q1
          rw [e2, e3, s1, s2, swapUD]
          omega
      · have r2 : fr n b a = false := by
          cases r2 : fr n b a
          · rfl
          · exact absurd ⟨r1, r2⟩ nn
        have e1 := ih (o &&& ~~~ FO n b) a (by omega) (okS_and ho) (by rw [gD b 0 a hbN haN, ha, r2]; rfl)
        have e4 := ih (o &&& ~~~ FG n a) b (by omega) (okS_and ho) (by rw [gU a 0 b haN hbN, hb, r2]; rfl)
        have s1 : o &&& ~~~ FO n b &&& ~~~ FO n a = o &&& ~~~ FO n a := by
          apply okS_ext (okS_and (okS_and ho)) (okS_and ho)
          intro j hj
          rw [not_get (by omega), gD a 0 j haN hj, gD b 0 j hbN hj, FO_get h1 h6 haN]
          cases q1 : fr n a j <;> cases q2 : fr n b j <;> cases o.getLsbD j <;> try rfl
          rw [fr_trans h1 h6 haN r1 q2] at q1; cases q1
        have s2 : o &&& ~~~ FG n a &&& ~~~ FG n b = o &&& ~~~ FG n b := by
          apply okS_ext (okS_and (okS_and ho)) (okS_and ho)
          intro j hj
          rw [not_get (by omega), gU a 0 j haN hj, gU b 0 j hbN hj, FG_get h1 h6 hbN hj]
          cases q1 : fr n j a <;> cases q2 : fr n j b <;> cases o.getLsbD j <;> try rfl
          rw [fr_trans h1 h6 hj q1 r1] at q2; cases q2
        rw [e1, e4, s1, s2, swapDU]
        omega
theorem CF_pivot {n : Nat} (h1 : 1 ≤ n) (h6 : n ≤ 6) {o : BitVec 64} {a : Nat} (ho : okS n o) (ha : o.getLsbD a = true) : CFo n o = CFo n (o &&& ~~~ FO n a) + CFo n (o &&& ~~~ FG n a) := CF_any h1 h6 64 o a (pop_le o) ho ha
/-- arcs that force themselves alone -/
def idl_b (n : Nat) : Bool := allB (fun x => (idl n 0).testBit x == (fo n x == 2 ^ x)) (NA n)
theorem idl_c : all6 idl_b = true := by decide +kernel
theorem idl_one {n x : Nat} (h1 : 1 ≤ n) (h6 : n ≤ 6) (hx : x < NA n) (h : (idl n 0).testBit x = true) (j : Nat) : fr n x j = decide (x = j) := by
  have := allB_of (all6_of idl_c h1 h6) x hx
  rw [h, beq_iff_eq] at this
  have e := (beq_iff_eq.mp this.symm)
  unfold fr
  rw [e, Nat.testBit_two_pow]
theorem iL_get {n j : Nat} (hj : j < 64) : (iL n).getLsbD j = (idl n 0).testBit j := by
  unfold iL
  rw [BitVec.getLsbD_ofNat, decide_eq_true hj, Bool.true_and]
theorem CF_idle {n : Nat} (h1 : 1 ≤ n) (h6 : n ≤ 6) : ∀ (c : Nat) (o : BitVec 64), popI o = c → okS n o → (o &&& ~~~ iL n) = 0#64 → CFo n o = ((2 ^ c : Nat) : Int) := by
  have f1 := NA_le n
  intro c
  induction c with
  | zero =>
    intro o h ho hi
    cases e : fst (fun k => o.getLsbD k) (NA n) 0 with
    | none => rw [CF_none e]; rfl
    | some a =>
      exfalso
      have := cnt_lt (f := fun _ => false) (g := fun k => o.getLsbD k) (n := 64) (x := a) (fun _ _ h => by cases h) (by have := (fst_some e).2.1; omega) rfl (fst_some e).2.2
      rw [cnt_zero (fun _ _ => rfl)] at this
      have h' : popI o = 0 := h
      unfold popI at h'
      omega
  | succ c ih =>
    intro o h ho hi
    cases e : fst (fun k => o.getLsbD k) (NA n) 0 with
    | none =>
      exfalso
      have : popI o = 0 := cnt_zero (fun k hk => by
        by_cases hk2 : k < NA n
        · exact fst_none e k (by omega) (by omega)
        · cases q : o.getLsbD k
          · rfl
          · exact absurd (ho k q) hk2)
      omega
    | some a =>
      have ha : o.getLsbD a = true := (fst_some e).2.2
      have haN := ho a ha
      have hid : ∀ x, o.getLsbD x = true → (idl n 0).testBit x = true := by
        intro x hx
        have hxN := ho x hx
        have := congrArg (fun s : BitVec 64 => s.getLsbD x) hi
        simp only [not_get (show x < 64 by omega), hx, Bool.true_and, iL_get (show x < 64 by omega)] at this
        cases q : (idl n 0).testBit x
        · rw [q] at this; simp at this
        · rfl
      have s1 : o &&& ~~~ FG n a = o &&& ~~~ FO n a := by
        apply okS_ext (okS_and ho) (okS_and ho)
        intro j hj
        rw [not_get (by omega), not_get (by omega), FO_get h1 h6 haN, FG_get h1 h6 haN hj]
        cases q : o.getLsbD j
        · rfl
        · rw [idl_one h1 h6 haN (hid a ha), idl_one h1 h6 hj (hid j q)]
          by_cases e2 : a = j
          · rw [e2]
          · rw [decide_eq_false e2, decide_eq_false (fun q => e2 q.symm)]
      have hp : popI (o &&& ~~~ FO n a) = c := by
        -- one less
        have key : ∀ m, cnt (fun k => (o &&& ~~~ FO n a).getLsbD k) m = cnt (fun k => o.getLsbD k) m - (if a < m ∧ m ≤ 64 then 1 else 0) ∨ 64 < m := by
          intro m
          induction m with
          | zero => exact Or.inl (by rw [if_neg (by omega)]; rfl)
          | succ m im =>
            by_cases hm : 64 ≤ m
            · exact Or.inr (by omega)
            rcases im with im | im
            · left
              rw [cnt_succ, cnt_succ, im, not_get (show m < 64 by omega), FO_get h1 h6 haN, idl_one h1 h6 haN (hid a ha)]
              by_cases e2 : a = m
              · subst e2
                rw [if_neg (by omega), if_pos (by omega), ha]
                simp [zI]
              · rw [decide_eq_false e2]
                by_cases e3 : a < m
                · rw [if_pos (by omega), if_pos (by omega)]; simp; omega
                · rw [if_neg (by omega), if_neg (by omega)]; simp
            · omega
        rcases key 64 with q | q
        · rw [if_pos (by omega)] at q
          have h' : cnt (fun k => o.getLsbD k) 64 = ((c + 1 : Nat) : Int) := h
          unfold popI
          omega
        · omega
      have hi2 : (o &&& ~~~ FO n a) &&& ~~~ iL n = 0#64 := by
        rw [and_comm3, hi]; simp
      rw [CF_some h1 h6 e, s1, ih _ hp (okS_and ho) hi2, Nat.pow_succ]
      omega
theorem xor_m1 (x : BitVec 64) : x ^^^ 18446744073709551615#64 = ~~~ x := by
  rw [show 18446744073709551615#64 = BitVec.allOnes 64 by decide, BitVec.xor_allOnes]
theorem FO_j {n a : Nat} : BitVec.ofNat 64 (fo n a) = FO n a := rfl
theorem FG_j {n a : Nat} : BitVec.ofNat 64 (fg n a) = FG n a := rfl
theorem iShl_1I {x : Int} {k : Nat} (h : x = (k : Int)) (hk : k < 31) : iShl 1 x = ((2 ^ k : Nat) : Int) := by subst h; exact iShl_1 hk
set_option maxHeartbeats 16000000 in
theorem c1_countClosed {hp : HP} {ra n : Nat} (h : RWS hp ra n) (h5 : n ≤ 5) : ∀ (c : Nat) (d : Nat) (o : BitVec 64) (j : Nat), popI o ≤ c → okS n o → popI o + j ≤ NA n → ∀ R : PO, callD (d + c + 3) 17 [mR (ra + 1), mL o, mI (j : Int)] hp R ↔ R (some (mI (CFo n o))) hp := by
  have h1 := rw_1 h
  have h6 := rw_6 h
  have f1 : NA n ≤ 26 := by
    have : ∀ n, n ≤ 5 → NA n ≤ 26 := by decide
    exact this n h5
  intro c
  induction c with
  | zero =>
    intro d o j hc ho hj R
    have p0 := (cnt_in (fun k => o.getLsbD k) 64).1
    have hp0 : popI o = (0 : Nat) := by unfold popI at hc ⊢; omega
    have hz : o &&& ~~~ iL n = 0#64 := by
      apply okS_ext (n := n) (okS_and ho) (by intro j hj; simp at hj)
      intro k hk
      rw [not_get (by omega)]
      cases q : o.getLsbD k
      · simp
      · exfalso
        have := cnt_lt (f := fun _ => false) (g := fun k => o.getLsbD k) (n := 64) (x := k) (fun _ _ h => by cases h) (by omega) rfl q
        rw [cnt_zero (fun _ _ => rfl)] at this
        unfold popI at hp0; omega
    have hcf := CF_idle h1 h6 0 o hp0 ho hz
    rw [callD_k]; simp only [entL_i, entL_l, entL_q, entL_s, entL_nil, n_X1_countClosed, u_X1_countClosed, m_X1_countClosed, rep_3, List.cons_append, List.nil_append, List.append_nil, List.length_cons, List.length_nil, Nat.reduceAdd, true_and]
    simp only [AW_k, AWk_1, x_lload_1, x_aload_0, x_aloads_0, x_getf, x_push_i, x_push_l, x_lxor, x_land, x_lstore_4, x_lload_4, x_lcmp, x_if_eq, x_iload_3, x_icmp_lt, x_call_1, x_ishl, x_ret, x_ret_i, x_ret_z, x_ret_l, x_ret_c, x_istore_6, x_iload_6, x_lald, x_iadd, x_call_3, unl_i, unl_l, unl_q, unl_r, unl_s, unl_n, k_X1_countClosed_0, k_X1_countClosed_1, k_X1_countClosed_2, k_X1_countClosed_3, k_X1_countClosed_4, k_X1_countClosed_5, k_X1_countClosed_6, k_X1_countClosed_7, k_X1_countClosed_8, k_X1_countClosed_9, k_X1_countClosed_10, k_X1_countClosed_11, k_X1_countClosed_12, k_X1_countClosed_13, k_X1_countClosed_14, k_X1_countClosed_15, k_X1_countClosed_16, k_X1_countClosed_17, k_X1_countClosed_18, k_X1_countClosed_19, k_X1_countClosed_20, k_X1_countClosed_21, k_X1_countClosed_22, k_X1_countClosed_23, k_X1_countClosed_24, k_X1_countClosed_25, k_X1_countClosed_26, k_X1_countClosed_27, k_X1_countClosed_28, k_X1_countClosed_29, k_X1_countClosed_30, k_X1_countClosed_31, k_X1_countClosed_32, k_X1_countClosed_33, k_X1_countClosed_34, k_X1_countClosed_35, k_X1_countClosed_36, k_X1_countClosed_37, k_X1_countClosed_38, k_X1_countClosed_39, k_X1_countClosed_40, k_X1_countClosed_41, k_X1_countClosed_42, k_X1_countClosed_43, k_X1_countClosed_44, k_X1_countClosed_45, k_X1_countClosed_46, k_X1_countClosed_47, k_X1_countClosed_48, k_X1_countClosed_49, k_X1_countClosed_50, oE_some, Int.reduceToNat, Nat.reduceAdd, true_and, and_true, List.length_cons, List.length_nil, Option.toList_some, Option.toList_none, List.cons_append, List.nil_append, Nat.reduceLeDiff, Nat.le_refl, wdS_nil, wdS_i, wdS_l, wdS_r, wdS_n, wdS_s, rw_idle h, xor_m1, lCmp_eq, hz, if_true, c_bits (d + 1), iShl_1I hp0 (show 0 < 31 by decide), hcf]
  | succ c ih =>
    intro d o j hc ho hj R
    by_cases hz : o &&& ~~~ iL n = 0#64
    · have p0 := (cnt_in (fun k => o.getLsbD k) 64).1
      have hp0 : popI o = ((popI o).toNat : Nat) := by unfold popI; omega
      have hcf := CF_idle h1 h6 _ o hp0 ho hz
      rw [callD_k]; simp only [entL_i, entL_l, entL_q, entL_s, entL_nil, n_X1_countClosed, u_X1_countClosed, m_X1_countClosed, rep_3, List.cons_append, List.nil_append, List.append_nil, List.length_cons, List.length_nil, Nat.reduceAdd, true_and]
      simp only [AW_k, AWk_1, x_lload_1, x_aload_0, x_aloads_0, x_getf, x_push_i, x_push_l, x_lxor, x_land, x_lstore_4, x_lload_4, x_lcmp, x_if_eq, x_iload_3, x_icmp_lt, x_call_1, x_ishl, x_ret, x_ret_i, x_ret_z, x_ret_l, x_ret_c, x_istore_6, x_iload_6, x_lald, x_iadd, x_call_3, unl_i, unl_l, unl_q, unl_r, unl_s, unl_n, k_X1_countClosed_0, k_X1_countClosed_1, k_X1_countClosed_2, k_X1_countClosed_3, k_X1_countClosed_4, k_X1_countClosed_5, k_X1_countClosed_6, k_X1_countClosed_7, k_X1_countClosed_8, k_X1_countClosed_9, k_X1_countClosed_10, k_X1_countClosed_11, k_X1_countClosed_12, k_X1_countClosed_13, k_X1_countClosed_14, k_X1_countClosed_15, k_X1_countClosed_16, k_X1_countClosed_17, k_X1_countClosed_18, k_X1_countClosed_19, k_X1_countClosed_20, k_X1_countClosed_21, k_X1_countClosed_22, k_X1_countClosed_23, k_X1_countClosed_24, k_X1_countClosed_25, k_X1_countClosed_26, k_X1_countClosed_27, k_X1_countClosed_28, k_X1_countClosed_29, k_X1_countClosed_30, k_X1_countClosed_31, k_X1_countClosed_32, k_X1_countClosed_33, k_X1_countClosed_34, k_X1_countClosed_35, k_X1_countClosed_36, k_X1_countClosed_37, k_X1_countClosed_38, k_X1_countClosed_39, k_X1_countClosed_40, k_X1_countClosed_41, k_X1_countClosed_42, k_X1_countClosed_43, k_X1_countClosed_44, k_X1_countClosed_45, k_X1_countClosed_46, k_X1_countClosed_47, k_X1_countClosed_48, k_X1_countClosed_49, k_X1_countClosed_50, oE_some, Int.reduceToNat, Nat.reduceAdd, true_and, and_true, List.length_cons, List.length_nil, Option.toList_some, Option.toList_none, List.cons_append, List.nil_append, Nat.reduceLeDiff, Nat.le_refl, wdS_nil, wdS_i, wdS_l, wdS_r, wdS_n, wdS_s, rw_idle h, xor_m1, lCmp_eq, hz, if_true, c_bits (d + (c + 1) + 1), iShl_1I hp0 (show (popI o).toNat < 31 by omega), hcf]
    · obtain ⟨k, hk, hkb, cz⟩ := c_ntz (d + c + 1) (hp := hp) hz
      have hko : o.getLsbD k = true := by
        rw [not_get hk, Bool.and_eq_true] at hkb
        exact hkb.1
      have hkN := ho k hko
      have p1 := pop_lt (x := FO n k) hk hko (by rw [FO_get h1 h6 hkN, fr_self h1 h6 hkN])
      have p2 := pop_lt (x := FG n k) hk hko (by rw [FG_get h1 h6 hkN hkN, fr_self h1 h6 hkN])
      have p3 := (cnt_in (fun k => (o &&& ~~~ FO n k).getLsbD k) 64).1
      have i1 := ih d (o &&& ~~~ FO n k) (j + 1) (by omega) (okS_and ho) (by omega)
      have i2 := ih d (o &&& ~~~ FG n k) (j + 1) (by omega) (okS_and ho) (by omega)
      have p4 : 0 ≤ popI (o &&& ~~~ FO n k) := (cnt_in _ 64).1
      rw [show d + (c + 1) + 3 = (d + c + 3) + 1 by omega]
      rw [callD_k]; simp only [entL_i, entL_l, entL_q, entL_s, entL_nil, n_X1_countClosed, u_X1_countClosed, m_X1_countClosed, rep_3, List.cons_append, List.nil_append, List.append_nil, List.length_cons, List.length_nil, Nat.reduceAdd, true_and]
      simp only [AW_k, AWk_1, x_lload_1, x_aload_0, x_aloads_0, x_getf, x_push_i, x_push_l, x_lxor, x_land, x_lstore_4, x_lload_4, x_lcmp, x_if_eq, x_iload_3, x_icmp_lt, x_call_1, x_ishl, x_ret, x_ret_i, x_ret_z, x_ret_l, x_ret_c, x_istore_6, x_iload_6, x_lald, x_iadd, x_call_3, unl_i, unl_l, unl_q, unl_r, unl_s, unl_n, k_X1_countClosed_0, k_X1_countClosed_1, k_X1_countClosed_2, k_X1_countClosed_3, k_X1_countClosed_4, k_X1_countClosed_5, k_X1_countClosed_6, k_X1_countClosed_7, k_X1_countClosed_8, k_X1_countClosed_9, k_X1_countClosed_10, k_X1_countClosed_11, k_X1_countClosed_12, k_X1_countClosed_13, k_X1_countClosed_14, k_X1_countClosed_15, k_X1_countClosed_16, k_X1_countClosed_17, k_X1_countClosed_18, k_X1_countClosed_19, k_X1_countClosed_20, k_X1_countClosed_21, k_X1_countClosed_22, k_X1_countClosed_23, k_X1_countClosed_24, k_X1_countClosed_25, k_X1_countClosed_26, k_X1_countClosed_27, k_X1_countClosed_28, k_X1_countClosed_29, k_X1_countClosed_30, k_X1_countClosed_31, k_X1_countClosed_32, k_X1_countClosed_33, k_X1_countClosed_34, k_X1_countClosed_35, k_X1_countClosed_36, k_X1_countClosed_37, k_X1_countClosed_38, k_X1_countClosed_39, k_X1_countClosed_40, k_X1_countClosed_41, k_X1_countClosed_42, k_X1_countClosed_43, k_X1_countClosed_44, k_X1_countClosed_45, k_X1_countClosed_46, k_X1_countClosed_47, k_X1_countClosed_48, k_X1_countClosed_49, k_X1_countClosed_50, oE_some, Int.reduceToNat, Nat.reduceAdd, true_and, and_true, List.length_cons, List.length_nil, Option.toList_some, Option.toList_none, List.cons_append, List.nil_append, Nat.reduceLeDiff, Nat.le_refl, wdS_nil, wdS_i, wdS_l, wdS_r, wdS_n, wdS_s, rw_idle h, xor_m1, lCmp_eq, hz, if_false, rw_ac h, cz, rw_forced h, rA_8 h, rw_forcing h, rA_9 h, bJ rfl hkN (NA_31 n), gJt rfl hkN (NA_31 n), FO_j, FG_j]
      rw [w32_nat (show j < 2147483648 by omega), w32_nat (NA_31 n), if_pos (by omega)]
      have ej : (j : Int) + 1 = ((j + 1 : Nat) : Int) := rfl
      rw [ej, i1]
      simp only [AW_k, AWk_1, x_lload_1, x_aload_0, x_aloads_0, x_getf, x_push_i, x_push_l, x_lxor, x_land, x_lstore_4, x_lload_4, x_lcmp, x_if_eq, x_iload_3, x_icmp_lt, x_call_1, x_ishl, x_ret, x_ret_i, x_ret_z, x_ret_l, x_ret_c, x_istore_6, x_iload_6, x_lald, x_iadd, x_call_3, unl_i, unl_l, unl_q, unl_r, unl_s, unl_n, k_X1_countClosed_0, k_X1_countClosed_1, k_X1_countClosed_2, k_X1_countClosed_3, k_X1_countClosed_4, k_X1_countClosed_5, k_X1_countClosed_6, k_X1_countClosed_7, k_X1_countClosed_8, k_X1_countClosed_9, k_X1_countClosed_10, k_X1_countClosed_11, k_X1_countClosed_12, k_X1_countClosed_13, k_X1_countClosed_14, k_X1_countClosed_15, k_X1_countClosed_16, k_X1_countClosed_17, k_X1_countClosed_18, k_X1_countClosed_19, k_X1_countClosed_20, k_X1_countClosed_21, k_X1_countClosed_22, k_X1_countClosed_23, k_X1_countClosed_24, k_X1_countClosed_25, k_X1_countClosed_26, k_X1_countClosed_27, k_X1_countClosed_28, k_X1_countClosed_29, k_X1_countClosed_30, k_X1_countClosed_31, k_X1_countClosed_32, k_X1_countClosed_33, k_X1_countClosed_34, k_X1_countClosed_35, k_X1_countClosed_36, k_X1_countClosed_37, k_X1_countClosed_38, k_X1_countClosed_39, k_X1_countClosed_40, k_X1_countClosed_41, k_X1_countClosed_42, k_X1_countClosed_43, k_X1_countClosed_44, k_X1_countClosed_45, k_X1_countClosed_46, k_X1_countClosed_47, k_X1_countClosed_48, k_X1_countClosed_49, k_X1_countClosed_50, oE_some, Int.reduceToNat, Nat.reduceAdd, true_and, and_true, List.length_cons, List.length_nil, Option.toList_some, Option.toList_none, List.cons_append, List.nil_append, Nat.reduceLeDiff, Nat.le_refl, wdS_nil, wdS_i, wdS_l, wdS_r, wdS_n, wdS_s, ej, rw_forcing h, rA_9 h, bJ rfl hkN (NA_31 n), gJt rfl hkN (NA_31 n), FG_j, xor_m1, i2]
      rw [CF_pivot h1 h6 ho hko]
set_option maxHeartbeats 8000000 in
theorem c1_closedSets (d : Nat) {hp : HP} {ra n : Nat} {o : BitVec 64} (h : RWS hp ra n) (h5 : n ≤ 5) (ho : okS n o) (R : PO) : callD (d + 68) 16 [mR (ra + 1), mL o] hp R ↔ R (some (mI (CFo n o))) hp := by
  have hpo : popI o ≤ NA n := by
    have f1 := NA_le n
    have e : popI o = cnt (fun k => o.getLsbD k) (NA n + (64 - NA n)) := by rw [show NA n + (64 - NA n) = 64 by omega]; rfl
    rw [e, cnt_add, cnt_zero (f := fun i => o.getLsbD (NA n + i)) (fun k hk => by
      cases q : o.getLsbD (NA n + k)
      · rfl
      · exact absurd (ho _ q) (by omega))]
    have := (cnt_in (fun k => o.getLsbD k) (NA n)).2
    omega
  have c : ∀ R : PO, callD (d + 67) 17 [mR (ra + 1), mL o, mI 0] hp R ↔ R (some (mI (CFo n o))) hp := c1_countClosed h h5 64 d o 0 (pop_le o) ho (by omega)
  rw [show d + 68 = (d + 67) + 1 by omega]
  rw [callD_k]; simp only [entL_i, entL_l, entL_q, entL_s, entL_nil, n_X1_closedSets, u_X1_closedSets, m_X1_closedSets, rep_0, List.cons_append, List.nil_append, List.append_nil, List.length_cons, List.length_nil, Nat.reduceAdd, true_and]
  simp only [AW_k, AWk_1, x_aload_0, x_aloads_0, x_lload_1, x_push_i, x_push_l, x_call_3, x_ret, x_ret_i, x_ret_z, x_ret_l, x_ret_c, k_X1_closedSets_0, k_X1_closedSets_1, k_X1_closedSets_2, k_X1_closedSets_3, k_X1_closedSets_4, oE_some, Int.reduceToNat, Nat.reduceAdd, true_and, and_true, List.length_cons, List.length_nil, Option.toList_some, Option.toList_none, List.cons_append, List.nil_append, Nat.reduceLeDiff, Nat.le_refl, wdS_nil, wdS_i, wdS_l, wdS_r, wdS_n, wdS_s, c]
