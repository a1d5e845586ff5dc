/-! ===== acts, as sums: what runs and what comes of it ===== -/
def begs : List Nat → ASt → ASt
  | [], s => s
  | b :: l, s => begs l (beg b s)
theorem begs_cons (b : Nat) (l : List Nat) (s : ASt) : begs (b :: l) s = begs l (beg b s) := rfl
theorem begs_nil (s : ASt) : begs [] s = s := rfl
theorem begs_app : ∀ (a b : List Nat) (s : ASt), begs (a ++ b) s = begs b (begs a s) := by
  intro a
  induction a with
  | nil => intro b s; rfl
  | cons x a ih => intro b s; exact ih b (beg x s)
theorem beg_f (b : Nat) (s : ASt) : (beg b s).2.2 = s.2.2 := by
  unfold beg
  split <;> rfl
theorem begs_f : ∀ (l : List Nat) (s : ASt), (begs l s).2.2 = s.2.2 := by
  intro l
  induction l with
  | nil => intro s; rfl
  | cons b l ih => intro s; rw [begs_cons, ih, beg_f]
def stp (p : Bool) (s : ASt) : ASt := (s.1, s.2.1, p)
theorem stp_same {p : Bool} {s : ASt} (h : s.2.2 = p) : stp p s = s := by subst h; rfl
def qTB (k : Nat) : List Nat := if k = 3 then [40, 20, 10] else if k = 1 ∨ k = 4 then [20, 10] else [10]
def qTV (k : Nat) (nu x : Int) : Int := if k = 3 then 0 - iXor ((x + 2) * 5 + nu) 9 else if k = 1 ∨ k = 4 then iXor (x * 5 + nu) 9 else x * 5 + nu
def qBB (k : Nat) : List Nat := if k = 2 ∨ k = 5 then 30 :: 11 :: qTB k else 11 :: qTB k
def qBV (k : Nat) (m nu x : Int) : Int := if k = 2 ∨ k = 5 then (qTV k nu x - m) * 3 else qTV k nu x - m
def qPB (k : Nat) (p : Bool) : List Nat := if k = 5 then 60 :: 31 :: 12 :: (if p = true then [] else qTB k) else if k = 2 then 31 :: 12 :: (if p = true then [] else qTB k) else [12]
def qPV (δ : Int → Int) (k : Nat) (m nu x : Int) : Int := if k = 5 then iXor (δ (x - m) + qTV k nu nu) 5 else if k = 2 then δ x + qTV k nu nu else δ x
def qJB (k : Nat) (p : Bool) : List Nat := 13 :: (qBB k ++ qPB k p)
def qJV (δ : Int → Int) (k : Nat) (m nu x : Int) : Int := iXor (qBV k m nu x) (qPV δ k m nu (x + 1))
def jjB (k : Nat) (p : Bool) : List Nat := if k = 4 then 50 :: (qJB k p ++ (if p = true then [] else qBB k)) else if k = 5 then 61 :: (qJB k p ++ (if p = true then [] else qBB k)) else qJB k p
def jjV (δ : Int → Int) (k : Nat) (m nu x : Int) : Int := if k = 4 then qJV δ k m nu x - qBV k m nu m else if k = 5 then qJV δ k m nu x + qBV k m nu 1 else qJV δ k m nu x
def dlC (m nu x : Int) : Int := Int.tdiv (w32 x) (w32 (m - nu))
def dlM (m nu x : Int) : Int := if w32 (m - nu) = -1 then 0 - x else Int.tdiv (w32 x) (w32 (m - nu))
theorem bfr_v : (bfr 0 0 = 10 ∧ bfr 1 0 = 20 ∧ bfr 2 0 = 10 ∧ bfr 3 0 = 40 ∧ bfr 4 0 = 20 ∧ bfr 5 0 = 10) ∧ (bfr 0 1 = 11 ∧ bfr 1 1 = 11 ∧ bfr 2 1 = 30 ∧ bfr 3 1 = 11 ∧ bfr 4 1 = 11 ∧ bfr 5 1 = 30) ∧ (bfr 0 2 = 12 ∧ bfr 1 2 = 12 ∧ bfr 2 2 = 31 ∧ bfr 3 2 = 12 ∧ bfr 4 2 = 12 ∧ bfr 5 2 = 60) ∧ (bfr 0 3 = 13 ∧ bfr 1 3 = 13 ∧ bfr 2 3 = 13 ∧ bfr 3 3 = 13 ∧ bfr 4 3 = 50 ∧ bfr 5 3 = 61) := by decide +kernel
theorem no20 {s : ASt} {e : Nat} (hs : s.2.2 = false) (he : e ≤ 20) : ¬ (s.2.2 = true ∨ 20 < e) := fun q => q.elim (fun q => absurd (hs.symm.trans q) (by decide)) (fun q => by omega)
theorem cl_T {k f e : Nat} {m nu x : Int} {s : ASt} (hk : k < 6) (hs : s.2.2 = false) (he : e + 3 ≤ 20) : rnA k m nu (f + 3) (bfr k 0) x e s = (qTV k nu x, begs (qTB k) s) := by
  obtain ⟨⟨a0, a1, a2, a3, a4, a5⟩, -, -, -⟩ := bfr_v
  have s1 : ∀ b, (beg b s).2.2 = false := fun b => (beg_f b s).trans hs
  have s2 : ∀ b c, (beg c (beg b s)).2.2 = false := fun b c => (beg_f c _).trans (s1 b)
  have two : ∀ (x : Int) (f e : Nat) (s : ASt), s.2.2 = false → e + 2 ≤ 20 → rnA k m nu (f + 2) 20 x e s = (iXor (x * 5 + nu) 9, begs [20, 10] s) := by
    intro x f e s hs he
    rw [rnA_20 (no20 hs (by omega)), a0, rnA_10 (no20 ((beg_f _ _).trans hs) (by omega))]
    rfl
  rcases (show k = 0 ∨ k = 1 ∨ k = 2 ∨ k = 3 ∨ k = 4 ∨ k = 5 by omega) with h | h | h | h | h | h <;> subst h
  · rw [a0, rnA_10 (no20 hs (by omega))]; rfl
  · rw [a1, two x (f + 1) e s hs (by omega)]; rfl
  · rw [a2, rnA_10 (no20 hs (by omega))]; rfl
  · rw [a3, rnA_40 (no20 hs (by omega)), a1, two (x + 2) f (e + 1) _ (s1 40) (by omega)]; rfl
  · rw [a4, two x (f + 1) e s hs (by omega)]; rfl
  · rw [a5, rnA_10 (no20 hs (by omega))]; rfl
theorem cl_B {k f e : Nat} {m nu x : Int} {s : ASt} (hk : k < 6) (hs : s.2.2 = false) (he : e + 5 ≤ 20) : rnA k m nu (f + 5) (bfr k 1) x e s = (qBV k m nu x, begs (qBB k) s) := by
  obtain ⟨-, ⟨a0, a1, a2, a3, a4, a5⟩, -, -⟩ := bfr_v
  have one : ∀ (f e : Nat) (s : ASt), s.2.2 = false → e + 4 ≤ 20 → rnA k m nu (f + 4) 11 x e s = (qTV k nu x - m, begs (11 :: qTB k) s) := by
    intro f e s hs he
    rw [rnA_11 (no20 hs (by omega)), cl_T hk ((beg_f _ _).trans hs) (by omega)]
    rfl
  rcases (show k = 0 ∨ k = 1 ∨ k = 2 ∨ k = 3 ∨ k = 4 ∨ k = 5 by omega) with h | h | h | h | h | h <;> subst h
  · rw [a0, one (f + 1) e s hs (by omega)]; rfl
  · rw [a1, one (f + 1) e s hs (by omega)]; rfl
  · rw [a2, rnA_30 (no20 hs (by omega)), a0, one f (e + 1) _ ((beg_f _ _).trans hs) (by omega)]; rfl
  · rw [a3, one (f + 1) e s hs (by omega)]; rfl
  · rw [a4, one (f + 1) e s hs (by omega)]; rfl
  · rw [a5, rnA_30 (no20 hs (by omega)), a0, one f (e + 1) _ ((beg_f _ _).trans hs) (by omega)]; rfl
theorem stp_stp (p q : Bool) (s : ASt) : stp p (stp q s) = stp p s := rfl
theorem stp_f (p : Bool) (s : ASt) : (stp p s).2.2 = p := rfl
theorem cl_P {k f e : Nat} {m nu x : Int} {s : ASt} {p : Bool} (hk : k < 6) (hs : s.2.2 = false) (he : e + 6 ≤ 20) (hp : p = decide (w32 (m - nu) = 0)) : (rnA k m nu (f + 6) (bfr k 2) x e s).2 = stp p (begs (qPB k p) s) ∧ (p = false → (rnA k m nu (f + 6) (bfr k 2) x e s).1 = qPV (dlC m nu) k m nu x) := by
  obtain ⟨-, -, ⟨a0, a1, a2, a3, a4, a5⟩, -⟩ := bfr_v
  cases p with
  | true =>
    have hz : w32 (m - nu) = 0 := of_decide_eq_true hp.symm
    refine ⟨?_, fun q => absurd q (by decide)⟩
    have one : ∀ (x : Int) (f e : Nat) (s : ASt), s.2.2 = false → e + 1 ≤ 20 → rnA k m nu (f + 1) 12 x e s = (0, stp true (beg 12 s)) := by
      intro x f e s hs he
      rw [rnA_12 (no20 hs (by omega)), if_pos hz]
      rfl
    have two : ∀ (x : Int) (f e : Nat) (s : ASt), s.2.2 = false → e + 2 ≤ 20 → (rnA k m nu (f + 2) 31 x e s).2 = stp true (begs [31, 12] s) := by
      intro x f e s hs he
      rw [rnA_31 (no20 hs (by omega)), a0, one x f (e + 1) _ ((beg_f _ _).trans hs) (by omega), rnA_stop (Or.inl (stp_f _ _))]
      rfl
    rcases (show k = 0 ∨ k = 1 ∨ k = 2 ∨ k = 3 ∨ k = 4 ∨ k = 5 by omega) with h | h | h | h | h | h <;> subst h
    · rw [a0, one x (f + 5) e s hs (by omega)]; rfl
    · rw [a1, one x (f + 5) e s hs (by omega)]; rfl
    · rw [a2, two x (f + 4) e s hs (by omega)]; rfl
    · rw [a3, one x (f + 5) e s hs (by omega)]; rfl
    · rw [a4, one x (f + 5) e s hs (by omega)]; rfl
    · rw [a5, rnA_60 (no20 hs (by omega)), a2]
      show (rnA 5 m nu (f + 3 + 2) 31 (x - m) (e + 1) (beg 60 s)).2 = _
      rw [two (x - m) (f + 3) (e + 1) _ ((beg_f _ _).trans hs) (by omega)]
      rfl
  | false =>
    have hz : ¬ w32 (m - nu) = 0 := of_decide_eq_false hp.symm
    have one : ∀ (x : Int) (f e : Nat) (s : ASt), s.2.2 = false → e + 1 ≤ 20 → rnA k m nu (f + 1) 12 x e s = (dlC m nu x, beg 12 s) := by
      intro x f e s hs he
      rw [rnA_12 (no20 hs (by omega)), if_neg hz]
      rfl
    have two : ∀ (x : Int) (f e : Nat) (s : ASt), s.2.2 = false → e + 4 ≤ 20 → rnA k m nu (f + 4) 31 x e s = (dlC m nu x + qTV k nu nu, begs (31 :: 12 :: qTB k) s) := by
      intro x f e s hs he
      have h1 : (beg 12 (beg 31 s)).2.2 = false := (beg_f _ _).trans ((beg_f _ _).trans hs)
      rw [rnA_31 (no20 hs (by omega)), a0, one x (f + 2) (e + 1) _ ((beg_f _ _).trans hs) (by omega), cl_T hk h1 (by omega)]
      rfl
    have key : rnA k m nu (f + 6) (bfr k 2) x e s = (qPV (dlC m nu) k m nu x, begs (qPB k false) s) := by
      rcases (show k = 0 ∨ k = 1 ∨ k = 2 ∨ k = 3 ∨ k = 4 ∨ k = 5 by omega) with h | h | h | h | h | h <;> subst h
      · rw [a0, one x (f + 5) e s hs (by omega)]; rfl
      · rw [a1, one x (f + 5) e s hs (by omega)]; rfl
      · rw [a2, two x (f + 2) e s hs (by omega)]; rfl
      · rw [a3, one x (f + 5) e s hs (by omega)]; rfl
      · rw [a4, one x (f + 5) e s hs (by omega)]; rfl
      · rw [a5, rnA_60 (no20 hs (by omega)), a2]
        show (iXor (rnA 5 m nu (f + 1 + 4) 31 (x - m) (e + 1) (beg 60 s)).1 5, (rnA 5 m nu (f + 1 + 4) 31 (x - m) (e + 1) (beg 60 s)).2) = _
        rw [two (x - m) (f + 1) (e + 1) _ ((beg_f _ _).trans hs) (by omega)]
        rfl
    rw [key]
    exact ⟨(stp_same ((begs_f _ _).trans hs)).symm, fun _ => rfl⟩
theorem cl_J1 {k f e : Nat} {m nu x : Int} {s : ASt} {p : Bool} (hk : k < 6) (hs : s.2.2 = false) (he : e + 7 ≤ 20) (hp : p = decide (w32 (m - nu) = 0)) : (rnA k m nu (f + 7) 13 x e s).2 = stp p (begs (qJB k p) s) ∧ (p = false → (rnA k m nu (f + 7) 13 x e s).1 = qJV (dlC m nu) k m nu x) := by
  have h1 : (beg 13 s).2.2 = false := (beg_f _ _).trans hs
  have h2 : (begs (qBB k) (beg 13 s)).2.2 = false := (begs_f _ _).trans h1
  have e1 : rnA k m nu (f + 6) (bfr k 1) x (e + 1) (beg 13 s) = (qBV k m nu x, begs (qBB k) (beg 13 s)) := cl_B (f := f + 1) hk h1 (by omega)
  obtain ⟨u1, u2⟩ := cl_P (f := f) (e := e + 1) (m := m) (nu := nu) (x := x + 1) (s := begs (qBB k) (beg 13 s)) hk h2 (by omega) hp
  rw [rnA_13 (f := f + 6) (no20 hs (by omega)), e1]
  refine ⟨u1.trans ?_, fun q => ?_⟩
  · unfold qJB
    rw [begs_cons, begs_app]
  · show iXor (qBV k m nu x) (rnA k m nu (f + 6) (bfr k 2) (x + 1) (e + 1) (begs (qBB k) (beg 13 s))).1 = _
    rw [u2 q]
    rfl
theorem cl_J {k f e : Nat} {m nu x : Int} {s : ASt} {p : Bool} (hk : k < 6) (hs : s.2.2 = false) (he : e + 8 ≤ 20) (hp : p = decide (w32 (m - nu) = 0)) : (rnA k m nu (f + 8) (bfr k 3) x e s).2 = stp p (begs (jjB k p) s) ∧ (p = false → (rnA k m nu (f + 8) (bfr k 3) x e s).1 = jjV (dlC m nu) k m nu x) := by
  obtain ⟨-, -, -, a0, a1, a2, a3, a4, a5⟩ := bfr_v
  have sB : ∀ b, (beg b s).2.2 = false := fun b => (beg_f b s).trans hs
  have w1 := cl_J1 (f := f + 1) (e := e) (m := m) (nu := nu) (x := x) (s := s) hk hs (by omega) hp
  have w2 := fun b => cl_J1 (f := f) (e := e + 1) (m := m) (nu := nu) (x := x) (s := beg b s) hk (sB b) (by omega) hp
  have tail : ∀ (b : Nat) (y : Int), (rnA k m nu (f + 7) (bfr k 1) y (e + 1) (stp p (begs (qJB k p) (beg b s)))).2 = stp p (begs (qJB k p ++ (if p = true then [] else qBB k)) (beg b s)) ∧ (p = false → (rnA k m nu (f + 7) (bfr k 1) y (e + 1) (stp p (begs (qJB k p) (beg b s)))).1 = qBV k m nu y) := by
    intro b y
    cases p with
    | true =>
      rw [rnA_stop (f := f + 6) (Or.inl (stp_f _ _)), if_pos rfl, List.append_nil]
      exact ⟨rfl, fun q => absurd q (by decide)⟩
    | false =>
      have h3 : (begs (qJB k false) (beg b s)).2.2 = false := (begs_f _ _).trans (sB b)
      rw [stp_same h3, cl_B (f := f + 2) hk h3 (by omega), if_neg (by decide), begs_app]
      exact ⟨(stp_same ((begs_f _ _).trans h3)).symm, fun _ => rfl⟩
  rcases (show k = 0 ∨ k = 1 ∨ k = 2 ∨ k = 3 ∨ k = 4 ∨ k = 5 by omega) with h | h | h | h | h | h <;> subst h
  · rw [a0]; exact w1
  · rw [a1]; exact w1
  · rw [a2]; exact w1
  · rw [a3]; exact w1
  · rw [a4, rnA_50 (f := f + 7) (no20 hs (by omega)), a1]
    obtain ⟨v1, v2⟩ := w2 50
    obtain ⟨t1, t2⟩ := tail 50 m
    rw [v1]
    refine ⟨t1, fun q => ?_⟩
    show (rnA 4 m nu (f + 7) 13 x (e + 1) (beg 50 s)).1 - (rnA 4 m nu (f + 7) (bfr 4 1) m (e + 1) (stp p (begs (qJB 4 p) (beg 50 s)))).1 = _
    rw [v2 q]
    exact congrArg (fun z => qJV (dlC m nu) 4 m nu x - z) (t2 q)
  · rw [a5, rnA_61 (f := f + 7) (no20 hs (by omega)), a2]
    obtain ⟨v1, v2⟩ := w2 61
    obtain ⟨t1, t2⟩ := tail 61 1
    rw [v1]
    refine ⟨t1, fun q => ?_⟩
    show (rnA 5 m nu (f + 7) 13 x (e + 1) (beg 61 s)).1 + (rnA 5 m nu (f + 7) (bfr 5 1) 1 (e + 1) (stp p (begs (qJB 5 p) (beg 61 s)))).1 = _
    rw [v2 q]
    exact congrArg (fun z => qJV (dlC m nu) 5 m nu x + z) (t2 q)
/-- equal as ints -/
theorem xor_cg {x x' : Int} (y : Int) (h : w32 x = w32 x') : iXor x y = iXor x' y := by unfold iXor; rw [J_ext h]
theorem xor_cg2 (x : Int) {y y' : Int} (h : w32 y = w32 y') : iXor x y = iXor x y' := by unfold iXor; rw [J_ext h]
theorem add_cg {x x' : Int} (y : Int) (h : w32 x = w32 x') : w32 (x + y) = w32 (x' + y) := by unfold w32 at h ⊢; omega
theorem sub_cg {x x' : Int} (y : Int) (h : w32 x = w32 x') : w32 (x - y) = w32 (x' - y) := by unfold w32 at h ⊢; omega
theorem dl_eq (m nu x : Int) : w32 (dlM m nu x) = w32 (dlC m nu x) := by
  unfold dlM dlC
  split
  · next h =>
    rw [h, Int.tdiv_neg, Int.tdiv_one]
    unfold w32
    omega
  · rfl
theorem pV_cg {δ δ' : Int → Int} {k : Nat} {m nu x : Int} (h : ∀ x, w32 (δ x) = w32 (δ' x)) : w32 (qPV δ k m nu x) = w32 (qPV δ' k m nu x) := by
  unfold qPV
  split
  · rw [xor_cg 5 (add_cg _ (h (x - m)))]
  · split
    · exact add_cg _ (h x)
    · exact h x
theorem jV_cg {δ δ' : Int → Int} {k : Nat} {m nu x : Int} (h : ∀ x, w32 (δ x) = w32 (δ' x)) : qJV δ k m nu x = qJV δ' k m nu x := by
  unfold qJV
  exact xor_cg2 _ (pV_cg h)
theorem jjV_cg {δ δ' : Int → Int} {k : Nat} {m nu x : Int} (h : ∀ x, w32 (δ x) = w32 (δ' x)) : jjV δ k m nu x = jjV δ' k m nu x := by
  unfold jjV
  rw [jV_cg h]
/-- what runs, of an act -/
def aB (k c : Nat) (p : Bool) : List Nat := if c = 0 then qTB k else if c = 1 then qBB k else if c = 2 then qPB k p else jjB k p
def aF (c : Nat) (p : Bool) : Bool := if c < 2 then false else p
def aV (δ : Int → Int) (k c : Nat) (m nu x : Int) : Int := if c = 0 then qTV k nu x else if c = 1 then qBV k m nu x else if c = 2 then qPV δ k m nu x else jjV δ k m nu x
theorem acR_is {k c : Nat} {m nu x : Int} {s : ASt} {p : Bool} (hk : k < 6) (hc : c < 4) (hp : p = decide (w32 (m - nu) = 0)) : (acR k m nu c x s).2 = stp (aF c p) (begs (aB k c p) (s.1, s.2.1, false)) ∧ (aF c p = false → (acR k m nu c x s).1 = aV (dlC m nu) k c m nu x) := by
  unfold acR
  have h0 : ((s.1, s.2.1, false) : ASt).2.2 = false := rfl
  rcases (show c = 0 ∨ c = 1 ∨ c = 2 ∨ c = 3 by omega) with h | h | h | h <;> subst h
  · rw [cl_T (f := 18) hk h0 (by omega)]
    exact ⟨(stp_same (begs_f _ _)).symm, fun _ => rfl⟩
  · rw [cl_B (f := 16) hk h0 (by omega)]
    exact ⟨(stp_same (begs_f _ _)).symm, fun _ => rfl⟩
  · exact cl_P (f := 15) hk h0 (by omega) hp
  · exact cl_J (f := 13) hk h0 (by omega) hp
theorem acV_is {k c : Nat} {m nu x : Int} {s : ASt} {p : Bool} (hk : k < 6) (hc : c < 4) (hp : p = decide (w32 (m - nu) = 0)) : w32 (acV k m nu c x s) = w32 (if aF c p = true then -15 else aV (dlM m nu) k c m nu x) := by
  obtain ⟨u1, u2⟩ := acR_is (x := x) (s := s) hk hc hp
  unfold acV
  rw [u1, stp_f]
  cases e : aF c p with
  | true => rw [if_pos rfl, if_pos rfl]
  | false =>
    rw [if_neg (by decide), if_neg (by decide), u2 e]
    unfold aV
    split
    · rfl
    · split
      · rfl
      · split
        · exact (pV_cg (dl_eq m nu)).symm
        · rw [jjV_cg (dl_eq m nu)]
