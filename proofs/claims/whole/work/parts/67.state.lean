/-! ===== the class's state as it lies in the heap ===== -/
/-- cells as they were -/
def Sm (lo hi : Nat) (hp h : HP) : Prop := ∀ k, lo ≤ k → k < hi → h[k]? = hp[k]?
theorem Sm_Fr {a b lo hi : Nat} {hp h : HP} (f : Fr a b hp h) (o : hi ≤ a ∨ b ≤ lo) : Sm lo hi hp h := fun k h1 h2 => f.2 k (by omega)
theorem Sm_Kp {lo hi : Nat} {hp h : HP} (f : Kp hp h) (o : hi ≤ hp.length) : Sm lo hi hp h := fun k _ h2 => f k (by omega)
theorem gF_S {hp h : HP} {k c f : Nat} (e : h[k]? = hp[k]?) : gF h k c f = gF hp k c f := by unfold gF; rw [e]
theorem gA_S {hp h : HP} {k : Nat} (e : h[k]? = hp[k]?) : gA h k = gA hp k := by unfold gA; rw [e]
theorem gJ_S {hp h : HP} {k : Nat} (e : h[k]? = hp[k]?) : gJ h k = gJ hp k := by unfold gJ; rw [e]
theorem gQ_S {hp h : HP} {k t : Nat} (e : h[k]? = hp[k]?) : gQ h k t = gQ hp k t := by unfold gQ; rw [e]
theorem MKS_S {hp h : HP} {a c : Nat} {ks es : List Int} (m : MKS hp a c ks es) (s : Sm a (a + 3) hp h) : MKS h a c ks es := by
  obtain ⟨⟨a1, a2, a3⟩, b1, b2⟩ := m
  have e0 := s a (by omega) (by omega)
  exact ⟨⟨by rw [gF_S e0, a1], by rw [gF_S e0, a2], by rw [gF_S e0, a3]⟩, by rw [gA_S (s (a + 1) (by omega) (by omega)), b1], by rw [gA_S (s (a + 2) (by omega) (by omega)), b2]⟩
theorem TPS_S {hp h : HP} {a tc : Nat} {ft : Int} {tb ws bg wo : List Int} {at_ : Int} {av : AV} (m : TPS hp a tc ft tb ws bg wo at_ av) (s : Sm a (a + 5) hp h) : TPS h a tc ft tb ws bg wo at_ av := by
  obtain ⟨⟨a1, a2, a3, a4, a5, a6, a7, a8⟩, b1, b2, b3, b4⟩ := m
  have e0 := s a (by omega) (by omega)
  exact ⟨⟨by rw [gF_S e0, a1], by rw [gF_S e0, a2], by rw [gF_S e0, a3], by rw [gF_S e0, a4], by rw [gF_S e0, a5], by rw [gF_S e0, a6], by rw [gF_S e0, a7], by rw [gF_S e0, a8]⟩, by rw [gA_S (s (a + 1) (by omega) (by omega)), b1], by rw [gA_S (s (a + 2) (by omega) (by omega)), b2], by rw [gA_S (s (a + 3) (by omega) (by omega)), b3], by rw [gA_S (s (a + 4) (by omega) (by omega)), b4]⟩
theorem WK_S {hp h : HP} {w : Nat} {l st q : List Int} (m : WK hp w l st q) (s : Sm w (w + 4) hp h) : WK h w l st q := by
  obtain ⟨⟨a1, a2, a3⟩, b1, b2, b3, r⟩ := m
  have e0 := s w (by omega) (by omega)
  exact ⟨⟨by rw [gF_S e0, a1], by rw [gF_S e0, a2], by rw [gF_S e0, a3]⟩, by rw [gA_S (s (w + 1) (by omega) (by omega)), b1], by rw [gA_S (s (w + 2) (by omega) (by omega)), b2], by rw [gA_S (s (w + 3) (by omega) (by omega)), b3], r⟩
theorem LSS_S {hp h : HP} {a c : Nat} {ca se : List Int} {fn : Int} {fg : BitVec 64} (m : LSS hp a c ca se fn fg) (s : Sm a (a + 3) hp h) : LSS h a c ca se fn fg := by
  obtain ⟨⟨a1, a2, a3, a4, a5⟩, b1, b2⟩ := m
  have e0 := s a (by omega) (by omega)
  exact ⟨⟨by rw [gF_S e0, a1], by rw [gF_S e0, a2], by rw [gF_S e0, a3], by rw [gF_S e0, a4], by rw [gF_S e0, a5]⟩, by rw [gA_S (s (a + 1) (by omega) (by omega)), b1], by rw [gA_S (s (a + 2) (by omega) (by omega)), b2]⟩
theorem STS_S {hp h : HP} {a c : Nat} {tl : List Int} (m : STS hp a c tl) (s : Sm a (a + 2) hp h) : STS h a c tl := by
  have e0 := s a (by omega) (by omega)
  exact ⟨by rw [gF_S e0, m.1], by rw [gF_S e0, m.2.1], by rw [gA_S (s (a + 1) (by omega) (by omega)), m.2.2]⟩
theorem SHS_S {hp h : HP} {a : Nat} {so le : List Int} {it : Nat → List (BitVec 64)} (m : SHS hp a so le it) (s : Sm a (a + 8) hp h) : SHS h a so le it := by
  obtain ⟨⟨a1, a2, a3⟩, b1, b2, b3, b4⟩ := m
  have e0 := s a (by omega) (by omega)
  exact ⟨⟨by rw [gF_S e0, a1], by rw [gF_S e0, a2], by rw [gF_S e0, a3]⟩, by rw [gA_S (s (a + 1) (by omega) (by omega)), b1], by rw [gA_S (s (a + 2) (by omega) (by omega)), b2], by rw [gQ_S (s (a + 3) (by omega) (by omega)), b3], fun k hk => by rw [gJ_S (s (a + 4 + k) (by omega) (by omega)), b4 k hk]⟩
theorem SLS_S {hp h : HP} {a : Nat} {he th sl : List Int} (m : SLS hp a he th sl) (s : Sm a (a + 4) hp h) : SLS h a he th sl := by
  obtain ⟨⟨a1, a2, a3⟩, b1, b2, b3⟩ := m
  have e0 := s a (by omega) (by omega)
  exact ⟨⟨by rw [gF_S e0, a1], by rw [gF_S e0, a2], by rw [gF_S e0, a3]⟩, by rw [gA_S (s (a + 1) (by omega) (by omega)), b1], by rw [gA_S (s (a + 2) (by omega) (by omega)), b2], by rw [gA_S (s (a + 3) (by omega) (by omega)), b3]⟩
theorem ATS_S {hp h : HP} {a : Nat} {s0 : ASt} {k m nu : Int} (q : ATS hp a s0 k m nu) (s : Sm a (a + 2) hp h) : ATS h a s0 k m nu := by
  obtain ⟨⟨a1, a2, a3, a4, a5, a6⟩, b1, r⟩ := q
  have e0 := s a (by omega) (by omega)
  exact ⟨⟨by rw [gF_S e0, a1], by rw [gF_S e0, a2], by rw [gF_S e0, a3], by rw [gF_S e0, a4], by rw [gF_S e0, a5], by rw [gF_S e0, a6]⟩, by rw [gA_S (s (a + 1) (by omega) (by omega)), b1], r⟩
/-- the object -/
def oFs (ra : Nat) (G : BitVec 64) (z : Int) (ik : Bool) (kn : Nat) (kG : BitVec 64) (kz : Int) : List AV := [mR 1, mR ra, mL G, mI z, mR 2, mR 5, mR 10, mR 14, mR 17, mR 19, mR 27, mR 31, mR 33, mI (zI ik), mI (kn : Int), mL kG, mI kz, mR 34]
def XO (hp : HP) (ra : Nat) (G : BitVec 64) (z : Int) (ik : Bool) (kn : Nat) (kG : BitVec 64) (kz : Int) : Prop := hp[0]? = some (.inl (10, oFs ra G z ik kn kG kz))
theorem XO_F {hp : HP} {ra : Nat} {G : BitVec 64} {z : Int} {ik : Bool} {kn : Nat} {kG : BitVec 64} {kz : Int} (h : XO hp ra G z ik kn kG kz) (k : Nat) : gF hp 0 10 k = (oFs ra G z ik kn kG kz)[k]? := by
  unfold gF
  rw [h]
  rfl
theorem XO_S {hp h : HP} {ra : Nat} {G : BitVec 64} {z : Int} {ik : Bool} {kn : Nat} {kG : BitVec 64} {kz : Int} (x : XO hp ra G z ik kn kG kz) (s : Sm 0 1 hp h) : XO h ra G z ik kn kG kz := (s 0 (by omega) (by omega)).trans x
theorem pF_cell {hp : HP} {a c f : Nat} {v : AV} {fs : List AV} (h : hp[a]? = some (.inl (c, fs))) : (pF hp a c f v)[a]? = some (.inl (c, fs.set f v)) := by
  have hl : a < hp.length := by
    have := List.getElem?_eq_some_iff.mp h
    exact this.1
  unfold pF
  rw [h]
  show (if c = c then _ else _)[a]? = _
  rw [if_pos rfl]
  exact List.getElem?_set_self hl
/-- the tables -/
def tbAt (x : Nat) : Prop := x = 37 ∨ 83 ≤ x
def XT (hp : HP) (ra n : Nat) (ts : List (Option Nat)) : Prop := RWS hp ra n ∧ tbAt ra ∧ gQ hp 1 0 = some ts ∧ ts.length = 7 ∧ ∀ k x, k < 7 → ts.getD k none = some x → RWS hp x k ∧ tbAt x
theorem XT_S {hp h : HP} {ra n : Nat} {ts : List (Option Nat)} (x : XT hp ra n ts) (s : Sm 1 2 hp h) (s2 : ∀ y, tbAt y → Sm y (y + 16) hp h) : XT h ra n ts :=
  ⟨RWS_eq x.1 (s2 ra x.2.1), x.2.1, by rw [gQ_S (s 1 (by omega) (by omega)), x.2.2.1], x.2.2.2.1, fun k y hk hy => ⟨RWS_eq (x.2.2.2.2 k y hk hy).1 (s2 y (x.2.2.2.2 k y hk hy).2), (x.2.2.2.2 k y hk hy).2⟩⟩
theorem tb_Fr {a b y : Nat} {hp h : HP} (f : Fr a b hp h) (o : b ≤ 37 ∨ (54 ≤ a ∧ b ≤ 83)) (hy : tbAt y) : Sm y (y + 16) hp h := Sm_Fr f (by unfold tbAt at hy; omega)
def slOK (he th sl : List Int) : Prop := (he.length = 4 ∧ th.length = 4 ∧ sl.length = 4) ∧ ∀ k, k < 4 → (he.getD k 0 = 0 ∨ he.getD k 0 = 1 ∨ he.getD k 0 = 2) ∧ -1 ≤ th.getD k 0 ∧ th.getD k 0 ≤ 40 ∧ 0 ≤ sl.getD k 0 ∧ sl.getD k 0 ≤ 40
def XM (hp : HP) (a c : Nat) (ks es : List Int) : Prop := MKS hp a c ks es ∧ mkOK c ks es
def XP (hp : HP) (tc : Nat) (tb : List Int) : Prop := (∃ ft ws bg wo at_ av, TPS hp 5 tc ft tb ws bg wo at_ av ∧ ws.length = 201 ∧ bg.length = 201 ∧ wo.length = 201) ∧ tc ≤ 200 ∧ ∃ b, byOK tb b
def XW (hp : HP) : Prop := ∃ l st q, WK hp 10 l st q
def XL (hp : HP) : Prop := ∃ c ca se fn fg, LSS hp 14 c ca se fn fg ∧ lsOK c ca se fn fg
def XS (hp : HP) (sc : Nat) (tl : List Int) : Prop := STS hp 17 sc tl ∧ stOK sc tl
def XH (hp : HP) (so le : List Int) (it : Nat → List (BitVec 64)) : Prop := SHS hp 19 so le it ∧ shOK so le it
def XV (hp : HP) (he th sl : List Int) : Prop := SLS hp 27 he th sl ∧ slOK he th sl
def XA (hp : HP) (tr : Nat) (bo : List Int) : Prop := ∃ b k m nu, ATS hp 31 (tr, bo, b) k m nu
def XQ (hp : HP) : Prop := ∃ l, gA hp 33 = some l ∧ l.length = 6
theorem XM_S {hp h : HP} {a c : Nat} {ks es : List Int} (x : XM hp a c ks es) (s : Sm a (a + 3) hp h) : XM h a c ks es := ⟨MKS_S x.1 s, x.2⟩
theorem XP_S {hp h : HP} {tc : Nat} {tb : List Int} (x : XP hp tc tb) (s : Sm 5 10 hp h) : XP h tc tb := by
  obtain ⟨⟨ft, ws, bg, wo, at_, av, q, r⟩, t⟩ := x
  exact ⟨⟨ft, ws, bg, wo, at_, av, TPS_S q s, r⟩, t⟩
theorem XW_S {hp h : HP} (x : XW hp) (s : Sm 10 14 hp h) : XW h := by
  obtain ⟨l, st, q, m⟩ := x
  exact ⟨l, st, q, WK_S m s⟩
theorem XL_S {hp h : HP} (x : XL hp) (s : Sm 14 17 hp h) : XL h := by
  obtain ⟨c, ca, se, fn, fg, m, r⟩ := x
  exact ⟨c, ca, se, fn, fg, LSS_S m s, r⟩
theorem XS_S {hp h : HP} {sc : Nat} {tl : List Int} (x : XS hp sc tl) (s : Sm 17 19 hp h) : XS h sc tl := ⟨STS_S x.1 s, x.2⟩
theorem XH_S {hp h : HP} {so le : List Int} {it : Nat → List (BitVec 64)} (x : XH hp so le it) (s : Sm 19 27 hp h) : XH h so le it := ⟨SHS_S x.1 s, x.2⟩
theorem XV_S {hp h : HP} {he th sl : List Int} (x : XV hp he th sl) (s : Sm 27 31 hp h) : XV h he th sl := ⟨SLS_S x.1 s, x.2⟩
theorem XA_S {hp h : HP} {tr : Nat} {bo : List Int} (x : XA hp tr bo) (s : Sm 31 33 hp h) : XA h tr bo := by
  obtain ⟨b, k, m, nu, q⟩ := x
  exact ⟨b, k, m, nu, ATS_S q s⟩
theorem XQ_S {hp h : HP} (x : XQ hp) (s : Sm 33 34 hp h) : XQ h := by
  obtain ⟨l, q, r⟩ := x
  exact ⟨l, by rw [gA_S (s 33 (by omega) (by omega)), q], r⟩
/-- what is kept -/
def kpOK (kn : Nat) : Prop := 1 ≤ kn ∧ kn ≤ 6
def XI (hp : HP) (n : Nat) (G : BitVec 64) (z : Int) (c : Nat) (ks : List Int) (es : List Int) (ik : Bool) (kn : Nat) (kG : BitVec 64) (kz : Int) (kc : Nat) (kks : List Int) (kes : List Int) (tc : Nat) (tb : List Int) (sc : Nat) (tl : List Int) (so : List Int) (le : List Int) (it : Nat → List (BitVec 64)) (he : List Int) (th : List Int) (sl : List Int) (tr : Nat) (bo : List Int) : Prop := ∃ ra ts, XO hp ra G z ik kn kG kz ∧ XT hp ra n ts ∧ XM hp 2 c ks es ∧ XP hp tc tb ∧ XW hp  ∧ XL hp  ∧ XS hp sc tl ∧ XH hp so le it ∧ XV hp he th sl ∧ XA hp tr bo ∧ XQ hp  ∧ XM hp 34 kc kks kes ∧ kpOK kn
theorem XI_P {hp h : HP} {n : Nat} {G : BitVec 64} {z : Int} {c : Nat} {ks : List Int} {es : List Int} {ik : Bool} {kn : Nat} {kG : BitVec 64} {kz : Int} {kc : Nat} {kks : List Int} {kes : List Int} {tc : Nat} {tb : List Int} {sc : Nat} {tl : List Int} {so : List Int} {le : List Int} {it : Nat → List (BitVec 64)} {he : List Int} {th : List Int} {sl : List Int} {tr : Nat} {bo : List Int} {tc' : Nat} {tb' : List Int} (hX : XI hp n G z c ks es ik kn kG kz kc kks kes tc tb sc tl so le it he th sl tr bo) (f : Fr 5 10 hp h) (new : XP h tc' tb') : XI h n G z c ks es ik kn kG kz kc kks kes tc' tb' sc tl so le it he th sl tr bo := by
  obtain ⟨ra, ts, q0, q1, q2, q3, q4, q5, q6, q7, q8, q9, q10, q11, qk⟩ := hX
  exact ⟨ra, ts, XO_S q0 (Sm_Fr f (by omega)), XT_S q1 (Sm_Fr f (by omega)) (fun y hy => tb_Fr f (by omega) hy), XM_S q2 (Sm_Fr f (by omega)), new, XW_S q4 (Sm_Fr f (by omega)), XL_S q5 (Sm_Fr f (by omega)), XS_S q6 (Sm_Fr f (by omega)), XH_S q7 (Sm_Fr f (by omega)), XV_S q8 (Sm_Fr f (by omega)), XA_S q9 (Sm_Fr f (by omega)), XQ_S q10 (Sm_Fr f (by omega)), XM_S q11 (Sm_Fr f (by omega)), qk⟩
theorem XI_W {hp h : HP} {n : Nat} {G : BitVec 64} {z : Int} {c : Nat} {ks : List Int} {es : List Int} {ik : Bool} {kn : Nat} {kG : BitVec 64} {kz : Int} {kc : Nat} {kks : List Int} {kes : List Int} {tc : Nat} {tb : List Int} {sc : Nat} {tl : List Int} {so : List Int} {le : List Int} {it : Nat → List (BitVec 64)} {he : List Int} {th : List Int} {sl : List Int} {tr : Nat} {bo : List Int}  (hX : XI hp n G z c ks es ik kn kG kz kc kks kes tc tb sc tl so le it he th sl tr bo) (f : Fr 10 14 hp h) (new : XW h ) : XI h n G z c ks es ik kn kG kz kc kks kes tc tb sc tl so le it he th sl tr bo := by
  obtain ⟨ra, ts, q0, q1, q2, q3, q4, q5, q6, q7, q8, q9, q10, q11, qk⟩ := hX
  exact ⟨ra, ts, XO_S q0 (Sm_Fr f (by omega)), XT_S q1 (Sm_Fr f (by omega)) (fun y hy => tb_Fr f (by omega) hy), XM_S q2 (Sm_Fr f (by omega)), XP_S q3 (Sm_Fr f (by omega)), new, XL_S q5 (Sm_Fr f (by omega)), XS_S q6 (Sm_Fr f (by omega)), XH_S q7 (Sm_Fr f (by omega)), XV_S q8 (Sm_Fr f (by omega)), XA_S q9 (Sm_Fr f (by omega)), XQ_S q10 (Sm_Fr f (by omega)), XM_S q11 (Sm_Fr f (by omega)), qk⟩
theorem XI_L {hp h : HP} {n : Nat} {G : BitVec 64} {z : Int} {c : Nat} {ks : List Int} {es : List Int} {ik : Bool} {kn : Nat} {kG : BitVec 64} {kz : Int} {kc : Nat} {kks : List Int} {kes : List Int} {tc : Nat} {tb : List Int} {sc : Nat} {tl : List Int} {so : List Int} {le : List Int} {it : Nat → List (BitVec 64)} {he : List Int} {th : List Int} {sl : List Int} {tr : Nat} {bo : List Int}  (hX : XI hp n G z c ks es ik kn kG kz kc kks kes tc tb sc tl so le it he th sl tr bo) (f : Fr 14 17 hp h) (new : XL h ) : XI h n G z c ks es ik kn kG kz kc kks kes tc tb sc tl so le it he th sl tr bo := by
  obtain ⟨ra, ts, q0, q1, q2, q3, q4, q5, q6, q7, q8, q9, q10, q11, qk⟩ := hX
  exact ⟨ra, ts, XO_S q0 (Sm_Fr f (by omega)), XT_S q1 (Sm_Fr f (by omega)) (fun y hy => tb_Fr f (by omega) hy), XM_S q2 (Sm_Fr f (by omega)), XP_S q3 (Sm_Fr f (by omega)), XW_S q4 (Sm_Fr f (by omega)), new, XS_S q6 (Sm_Fr f (by omega)), XH_S q7 (Sm_Fr f (by omega)), XV_S q8 (Sm_Fr f (by omega)), XA_S q9 (Sm_Fr f (by omega)), XQ_S q10 (Sm_Fr f (by omega)), XM_S q11 (Sm_Fr f (by omega)), qk⟩
theorem XI_S {hp h : HP} {n : Nat} {G : BitVec 64} {z : Int} {c : Nat} {ks : List Int} {es : List Int} {ik : Bool} {kn : Nat} {kG : BitVec 64} {kz : Int} {kc : Nat} {kks : List Int} {kes : List Int} {tc : Nat} {tb : List Int} {sc : Nat} {tl : List Int} {so : List Int} {le : List Int} {it : Nat → List (BitVec 64)} {he : List Int} {th : List Int} {sl : List Int} {tr : Nat} {bo : List Int} {sc' : Nat} {tl' : List Int} (hX : XI hp n G z c ks es ik kn kG kz kc kks kes tc tb sc tl so le it he th sl tr bo) (f : Fr 17 19 hp h) (new : XS h sc' tl') : XI h n G z c ks es ik kn kG kz kc kks kes tc tb sc' tl' so le it he th sl tr bo := by
  obtain ⟨ra, ts, q0, q1, q2, q3, q4, q5, q6, q7, q8, q9, q10, q11, qk⟩ := hX
  exact ⟨ra, ts, XO_S q0 (Sm_Fr f (by omega)), XT_S q1 (Sm_Fr f (by omega)) (fun y hy => tb_Fr f (by omega) hy), XM_S q2 (Sm_Fr f (by omega)), XP_S q3 (Sm_Fr f (by omega)), XW_S q4 (Sm_Fr f (by omega)), XL_S q5 (Sm_Fr f (by omega)), new, XH_S q7 (Sm_Fr f (by omega)), XV_S q8 (Sm_Fr f (by omega)), XA_S q9 (Sm_Fr f (by omega)), XQ_S q10 (Sm_Fr f (by omega)), XM_S q11 (Sm_Fr f (by omega)), qk⟩
theorem XI_H {hp h : HP} {n : Nat} {G : BitVec 64} {z : Int} {c : Nat} {ks : List Int} {es : List Int} {ik : Bool} {kn : Nat} {kG : BitVec 64} {kz : Int} {kc : Nat} {kks : List Int} {kes : List Int} {tc : Nat} {tb : List Int} {sc : Nat} {tl : List Int} {so : List Int} {le : List Int} {it : Nat → List (BitVec 64)} {he : List Int} {th : List Int} {sl : List Int} {tr : Nat} {bo : List Int} {so' : List Int} {le' : List Int} {it' : Nat → List (BitVec 64)} (hX : XI hp n G z c ks es ik kn kG kz kc kks kes tc tb sc tl so le it he th sl tr bo) (f : Fr 19 27 hp h) (new : XH h so' le' it') : XI h n G z c ks es ik kn kG kz kc kks kes tc tb sc tl so' le' it' he th sl tr bo := by
  obtain ⟨ra, ts, q0, q1, q2, q3, q4, q5, q6, q7, q8, q9, q10, q11, qk⟩ := hX
  exact ⟨ra, ts, XO_S q0 (Sm_Fr f (by omega)), XT_S q1 (Sm_Fr f (by omega)) (fun y hy => tb_Fr f (by omega) hy), XM_S q2 (Sm_Fr f (by omega)), XP_S q3 (Sm_Fr f (by omega)), XW_S q4 (Sm_Fr f (by omega)), XL_S q5 (Sm_Fr f (by omega)), XS_S q6 (Sm_Fr f (by omega)), new, XV_S q8 (Sm_Fr f (by omega)), XA_S q9 (Sm_Fr f (by omega)), XQ_S q10 (Sm_Fr f (by omega)), XM_S q11 (Sm_Fr f (by omega)), qk⟩
theorem XI_V {hp h : HP} {n : Nat} {G : BitVec 64} {z : Int} {c : Nat} {ks : List Int} {es : List Int} {ik : Bool} {kn : Nat} {kG : BitVec 64} {kz : Int} {kc : Nat} {kks : List Int} {kes : List Int} {tc : Nat} {tb : List Int} {sc : Nat} {tl : List Int} {so : List Int} {le : List Int} {it : Nat → List (BitVec 64)} {he : List Int} {th : List Int} {sl : List Int} {tr : Nat} {bo : List Int} {he' : List Int} {th' : List Int} {sl' : List Int} (hX : XI hp n G z c ks es ik kn kG kz kc kks kes tc tb sc tl so le it he th sl tr bo) (f : Fr 27 31 hp h) (new : XV h he' th' sl') : XI h n G z c ks es ik kn kG kz kc kks kes tc tb sc tl so le it he' th' sl' tr bo := by
  obtain ⟨ra, ts, q0, q1, q2, q3, q4, q5, q6, q7, q8, q9, q10, q11, qk⟩ := hX
  exact ⟨ra, ts, XO_S q0 (Sm_Fr f (by omega)), XT_S q1 (Sm_Fr f (by omega)) (fun y hy => tb_Fr f (by omega) hy), XM_S q2 (Sm_Fr f (by omega)), XP_S q3 (Sm_Fr f (by omega)), XW_S q4 (Sm_Fr f (by omega)), XL_S q5 (Sm_Fr f (by omega)), XS_S q6 (Sm_Fr f (by omega)), XH_S q7 (Sm_Fr f (by omega)), new, XA_S q9 (Sm_Fr f (by omega)), XQ_S q10 (Sm_Fr f (by omega)), XM_S q11 (Sm_Fr f (by omega)), qk⟩
theorem XI_A {hp h : HP} {n : Nat} {G : BitVec 64} {z : Int} {c : Nat} {ks : List Int} {es : List Int} {ik : Bool} {kn : Nat} {kG : BitVec 64} {kz : Int} {kc : Nat} {kks : List Int} {kes : List Int} {tc : Nat} {tb : List Int} {sc : Nat} {tl : List Int} {so : List Int} {le : List Int} {it : Nat → List (BitVec 64)} {he : List Int} {th : List Int} {sl : List Int} {tr : Nat} {bo : List Int} {tr' : Nat} {bo' : List Int} (hX : XI hp n G z c ks es ik kn kG kz kc kks kes tc tb sc tl so le it he th sl tr bo) (f : Fr 31 33 hp h) (new : XA h tr' bo') : XI h n G z c ks es ik kn kG kz kc kks kes tc tb sc tl so le it he th sl tr' bo' := by
  obtain ⟨ra, ts, q0, q1, q2, q3, q4, q5, q6, q7, q8, q9, q10, q11, qk⟩ := hX
  exact ⟨ra, ts, XO_S q0 (Sm_Fr f (by omega)), XT_S q1 (Sm_Fr f (by omega)) (fun y hy => tb_Fr f (by omega) hy), XM_S q2 (Sm_Fr f (by omega)), XP_S q3 (Sm_Fr f (by omega)), XW_S q4 (Sm_Fr f (by omega)), XL_S q5 (Sm_Fr f (by omega)), XS_S q6 (Sm_Fr f (by omega)), XH_S q7 (Sm_Fr f (by omega)), XV_S q8 (Sm_Fr f (by omega)), new, XQ_S q10 (Sm_Fr f (by omega)), XM_S q11 (Sm_Fr f (by omega)), qk⟩
theorem XI_Q {hp h : HP} {n : Nat} {G : BitVec 64} {z : Int} {c : Nat} {ks : List Int} {es : List Int} {ik : Bool} {kn : Nat} {kG : BitVec 64} {kz : Int} {kc : Nat} {kks : List Int} {kes : List Int} {tc : Nat} {tb : List Int} {sc : Nat} {tl : List Int} {so : List Int} {le : List Int} {it : Nat → List (BitVec 64)} {he : List Int} {th : List Int} {sl : List Int} {tr : Nat} {bo : List Int}  (hX : XI hp n G z c ks es ik kn kG kz kc kks kes tc tb sc tl so le it he th sl tr bo) (f : Fr 33 34 hp h) (new : XQ h ) : XI h n G z c ks es ik kn kG kz kc kks kes tc tb sc tl so le it he th sl tr bo := by
  obtain ⟨ra, ts, q0, q1, q2, q3, q4, q5, q6, q7, q8, q9, q10, q11, qk⟩ := hX
  exact ⟨ra, ts, XO_S q0 (Sm_Fr f (by omega)), XT_S q1 (Sm_Fr f (by omega)) (fun y hy => tb_Fr f (by omega) hy), XM_S q2 (Sm_Fr f (by omega)), XP_S q3 (Sm_Fr f (by omega)), XW_S q4 (Sm_Fr f (by omega)), XL_S q5 (Sm_Fr f (by omega)), XS_S q6 (Sm_Fr f (by omega)), XH_S q7 (Sm_Fr f (by omega)), XV_S q8 (Sm_Fr f (by omega)), XA_S q9 (Sm_Fr f (by omega)), new, XM_S q11 (Sm_Fr f (by omega)), qk⟩
theorem XI_M {hp h : HP} {n : Nat} {G : BitVec 64} {z : Int} {c : Nat} {ks : List Int} {es : List Int} {ik : Bool} {kn : Nat} {kG : BitVec 64} {kz : Int} {kc : Nat} {kks : List Int} {kes : List Int} {tc : Nat} {tb : List Int} {sc : Nat} {tl : List Int} {so : List Int} {le : List Int} {it : Nat → List (BitVec 64)} {he : List Int} {th : List Int} {sl : List Int} {tr : Nat} {bo : List Int} {c' : Nat} {ks' : List Int} {es' : List Int} (hX : XI hp n G z c ks es ik kn kG kz kc kks kes tc tb sc tl so le it he th sl tr bo) (f : Fr 2 5 hp h) (new : XM h 2 c' ks' es') : XI h n G z c' ks' es' ik kn kG kz kc kks kes tc tb sc tl so le it he th sl tr bo := by
  obtain ⟨ra, ts, q0, q1, q2, q3, q4, q5, q6, q7, q8, q9, q10, q11, qk⟩ := hX
  exact ⟨ra, ts, XO_S q0 (Sm_Fr f (by omega)), XT_S q1 (Sm_Fr f (by omega)) (fun y hy => tb_Fr f (by omega) hy), new, XP_S q3 (Sm_Fr f (by omega)), XW_S q4 (Sm_Fr f (by omega)), XL_S q5 (Sm_Fr f (by omega)), XS_S q6 (Sm_Fr f (by omega)), XH_S q7 (Sm_Fr f (by omega)), XV_S q8 (Sm_Fr f (by omega)), XA_S q9 (Sm_Fr f (by omega)), XQ_S q10 (Sm_Fr f (by omega)), XM_S q11 (Sm_Fr f (by omega)), qk⟩
theorem XI_K {hp h : HP} {n : Nat} {G : BitVec 64} {z : Int} {c : Nat} {ks : List Int} {es : List Int} {ik : Bool} {kn : Nat} {kG : BitVec 64} {kz : Int} {kc : Nat} {kks : List Int} {kes : List Int} {tc : Nat} {tb : List Int} {sc : Nat} {tl : List Int} {so : List Int} {le : List Int} {it : Nat → List (BitVec 64)} {he : List Int} {th : List Int} {sl : List Int} {tr : Nat} {bo : List Int} {kc' : Nat} {kks' : List Int} {kes' : List Int} (hX : XI hp n G z c ks es ik kn kG kz kc kks kes tc tb sc tl so le it he th sl tr bo) (f : Fr 34 37 hp h) (new : XM h 34 kc' kks' kes') : XI h n G z c ks es ik kn kG kz kc' kks' kes' tc tb sc tl so le it he th sl tr bo := by
  obtain ⟨ra, ts, q0, q1, q2, q3, q4, q5, q6, q7, q8, q9, q10, q11, qk⟩ := hX
  exact ⟨ra, ts, XO_S q0 (Sm_Fr f (by omega)), XT_S q1 (Sm_Fr f (by omega)) (fun y hy => tb_Fr f (by omega) hy), XM_S q2 (Sm_Fr f (by omega)), XP_S q3 (Sm_Fr f (by omega)), XW_S q4 (Sm_Fr f (by omega)), XL_S q5 (Sm_Fr f (by omega)), XS_S q6 (Sm_Fr f (by omega)), XH_S q7 (Sm_Fr f (by omega)), XV_S q8 (Sm_Fr f (by omega)), XA_S q9 (Sm_Fr f (by omega)), XQ_S q10 (Sm_Fr f (by omega)), new, qk⟩
theorem XI_oG {hp : HP} {n : Nat} {G : BitVec 64} {z : Int} {c : Nat} {ks : List Int} {es : List Int} {ik : Bool} {kn : Nat} {kG : BitVec 64} {kz : Int} {kc : Nat} {kks : List Int} {kes : List Int} {tc : Nat} {tb : List Int} {sc : Nat} {tl : List Int} {so : List Int} {le : List Int} {it : Nat → List (BitVec 64)} {he : List Int} {th : List Int} {sl : List Int} {tr : Nat} {bo : List Int} {G' : BitVec 64} (hX : XI hp n G z c ks es ik kn kG kz kc kks kes tc tb sc tl so le it he th sl tr bo)  : XI (pF hp 0 10 2 (mL G')) n G' z c ks es ik kn kG kz kc kks kes tc tb sc tl so le it he th sl tr bo := by
  obtain ⟨ra, ts, q0, q1, q2, q3, q4, q5, q6, q7, q8, q9, q10, q11, qk⟩ := hX
  have f : Fr 0 1 hp (pF hp 0 10 2 (mL G')) := Fr_pF (Nat.le_refl _) (Nat.lt_succ_self _)
  exact ⟨ra, ts, by rw [XO, pF_cell q0]; rfl, XT_S q1 (Sm_Fr f (by omega)) (fun y hy => tb_Fr f (by omega) hy), XM_S q2 (Sm_Fr f (by omega)), XP_S q3 (Sm_Fr f (by omega)), XW_S q4 (Sm_Fr f (by omega)), XL_S q5 (Sm_Fr f (by omega)), XS_S q6 (Sm_Fr f (by omega)), XH_S q7 (Sm_Fr f (by omega)), XV_S q8 (Sm_Fr f (by omega)), XA_S q9 (Sm_Fr f (by omega)), XQ_S q10 (Sm_Fr f (by omega)), XM_S q11 (Sm_Fr f (by omega)), qk⟩
theorem XI_oz {hp : HP} {n : Nat} {G : BitVec 64} {z : Int} {c : Nat} {ks : List Int} {es : List Int} {ik : Bool} {kn : Nat} {kG : BitVec 64} {kz : Int} {kc : Nat} {kks : List Int} {kes : List Int} {tc : Nat} {tb : List Int} {sc : Nat} {tl : List Int} {so : List Int} {le : List Int} {it : Nat → List (BitVec 64)} {he : List Int} {th : List Int} {sl : List Int} {tr : Nat} {bo : List Int} {z' : Int} (hX : XI hp n G z c ks es ik kn kG kz kc kks kes tc tb sc tl so le it he th sl tr bo)  : XI (pF hp 0 10 3 (mI z')) n G z' c ks es ik kn kG kz kc kks kes tc tb sc tl so le it he th sl tr bo := by
  obtain ⟨ra, ts, q0, q1, q2, q3, q4, q5, q6, q7, q8, q9, q10, q11, qk⟩ := hX
  have f : Fr 0 1 hp (pF hp 0 10 3 (mI z')) := Fr_pF (Nat.le_refl _) (Nat.lt_succ_self _)
  exact ⟨ra, ts, by rw [XO, pF_cell q0]; rfl, XT_S q1 (Sm_Fr f (by omega)) (fun y hy => tb_Fr f (by omega) hy), XM_S q2 (Sm_Fr f (by omega)), XP_S q3 (Sm_Fr f (by omega)), XW_S q4 (Sm_Fr f (by omega)), XL_S q5 (Sm_Fr f (by omega)), XS_S q6 (Sm_Fr f (by omega)), XH_S q7 (Sm_Fr f (by omega)), XV_S q8 (Sm_Fr f (by omega)), XA_S q9 (Sm_Fr f (by omega)), XQ_S q10 (Sm_Fr f (by omega)), XM_S q11 (Sm_Fr f (by omega)), qk⟩
theorem XI_oik {hp : HP} {n : Nat} {G : BitVec 64} {z : Int} {c : Nat} {ks : List Int} {es : List Int} {ik : Bool} {kn : Nat} {kG : BitVec 64} {kz : Int} {kc : Nat} {kks : List Int} {kes : List Int} {tc : Nat} {tb : List Int} {sc : Nat} {tl : List Int} {so : List Int} {le : List Int} {it : Nat → List (BitVec 64)} {he : List Int} {th : List Int} {sl : List Int} {tr : Nat} {bo : List Int}  (hX : XI hp n G z c ks es ik kn kG kz kc kks kes tc tb sc tl so le it he th sl tr bo)  : XI (pF hp 0 10 13 (mI 1)) n G z c ks es true kn kG kz kc kks kes tc tb sc tl so le it he th sl tr bo := by
  obtain ⟨ra, ts, q0, q1, q2, q3, q4, q5, q6, q7, q8, q9, q10, q11, qk⟩ := hX
  have f : Fr 0 1 hp (pF hp 0 10 13 (mI 1)) := Fr_pF (Nat.le_refl _) (Nat.lt_succ_self _)
  exact ⟨ra, ts, by rw [XO, pF_cell q0]; rfl, XT_S q1 (Sm_Fr f (by omega)) (fun y hy => tb_Fr f (by omega) hy), XM_S q2 (Sm_Fr f (by omega)), XP_S q3 (Sm_Fr f (by omega)), XW_S q4 (Sm_Fr f (by omega)), XL_S q5 (Sm_Fr f (by omega)), XS_S q6 (Sm_Fr f (by omega)), XH_S q7 (Sm_Fr f (by omega)), XV_S q8 (Sm_Fr f (by omega)), XA_S q9 (Sm_Fr f (by omega)), XQ_S q10 (Sm_Fr f (by omega)), XM_S q11 (Sm_Fr f (by omega)), qk⟩
theorem XI_okn {hp : HP} {n : Nat} {G : BitVec 64} {z : Int} {c : Nat} {ks : List Int} {es : List Int} {ik : Bool} {kn : Nat} {kG : BitVec 64} {kz : Int} {kc : Nat} {kks : List Int} {kes : List Int} {tc : Nat} {tb : List Int} {sc : Nat} {tl : List Int} {so : List Int} {le : List Int} {it : Nat → List (BitVec 64)} {he : List Int} {th : List Int} {sl : List Int} {tr : Nat} {bo : List Int} {kn' : Nat} (hX : XI hp n G z c ks es ik kn kG kz kc kks kes tc tb sc tl so le it he th sl tr bo) (hn : 1 ≤ kn' ∧ kn' ≤ 6) : XI (pF hp 0 10 14 (mI (kn' : Int))) n G z c ks es ik kn' kG kz kc kks kes tc tb sc tl so le it he th sl tr bo := by
  obtain ⟨ra, ts, q0, q1, q2, q3, q4, q5, q6, q7, q8, q9, q10, q11, qk⟩ := hX
  have f : Fr 0 1 hp (pF hp 0 10 14 (mI (kn' : Int))) := Fr_pF (Nat.le_refl _) (Nat.lt_succ_self _)
  exact ⟨ra, ts, by rw [XO, pF_cell q0]; rfl, XT_S q1 (Sm_Fr f (by omega)) (fun y hy => tb_Fr f (by omega) hy), XM_S q2 (Sm_Fr f (by omega)), XP_S q3 (Sm_Fr f (by omega)), XW_S q4 (Sm_Fr f (by omega)), XL_S q5 (Sm_Fr f (by omega)), XS_S q6 (Sm_Fr f (by omega)), XH_S q7 (Sm_Fr f (by omega)), XV_S q8 (Sm_Fr f (by omega)), XA_S q9 (Sm_Fr f (by omega)), XQ_S q10 (Sm_Fr f (by omega)), XM_S q11 (Sm_Fr f (by omega)), hn⟩
theorem XI_okG {hp : HP} {n : Nat} {G : BitVec 64} {z : Int} {c : Nat} {ks : List Int} {es : List Int} {ik : Bool} {kn : Nat} {kG : BitVec 64} {kz : Int} {kc : Nat} {kks : List Int} {kes : List Int} {tc : Nat} {tb : List Int} {sc : Nat} {tl : List Int} {so : List Int} {le : List Int} {it : Nat → List (BitVec 64)} {he : List Int} {th : List Int} {sl : List Int} {tr : Nat} {bo : List Int} {kG' : BitVec 64} (hX : XI hp n G z c ks es ik kn kG kz kc kks kes tc tb sc tl so le it he th sl tr bo)  : XI (pF hp 0 10 15 (mL kG')) n G z c ks es ik kn kG' kz kc kks kes tc tb sc tl so le it he th sl tr bo := by
  obtain ⟨ra, ts, q0, q1, q2, q3, q4, q5, q6, q7, q8, q9, q10, q11, qk⟩ := hX
  have f : Fr 0 1 hp (pF hp 0 10 15 (mL kG')) := Fr_pF (Nat.le_refl _) (Nat.lt_succ_self _)
  exact ⟨ra, ts, by rw [XO, pF_cell q0]; rfl, XT_S q1 (Sm_Fr f (by omega)) (fun y hy => tb_Fr f (by omega) hy), XM_S q2 (Sm_Fr f (by omega)), XP_S q3 (Sm_Fr f (by omega)), XW_S q4 (Sm_Fr f (by omega)), XL_S q5 (Sm_Fr f (by omega)), XS_S q6 (Sm_Fr f (by omega)), XH_S q7 (Sm_Fr f (by omega)), XV_S q8 (Sm_Fr f (by omega)), XA_S q9 (Sm_Fr f (by omega)), XQ_S q10 (Sm_Fr f (by omega)), XM_S q11 (Sm_Fr f (by omega)), qk⟩
theorem XI_okz {hp : HP} {n : Nat} {G : BitVec 64} {z : Int} {c : Nat} {ks : List Int} {es : List Int} {ik : Bool} {kn : Nat} {kG : BitVec 64} {kz : Int} {kc : Nat} {kks : List Int} {kes : List Int} {tc : Nat} {tb : List Int} {sc : Nat} {tl : List Int} {so : List Int} {le : List Int} {it : Nat → List (BitVec 64)} {he : List Int} {th : List Int} {sl : List Int} {tr : Nat} {bo : List Int} {kz' : Int} (hX : XI hp n G z c ks es ik kn kG kz kc kks kes tc tb sc tl so le it he th sl tr bo)  : XI (pF hp 0 10 16 (mI kz')) n G z c ks es ik kn kG kz' kc kks kes tc tb sc tl so le it he th sl tr bo := by
  obtain ⟨ra, ts, q0, q1, q2, q3, q4, q5, q6, q7, q8, q9, q10, q11, qk⟩ := hX
  have f : Fr 0 1 hp (pF hp 0 10 16 (mI kz')) := Fr_pF (Nat.le_refl _) (Nat.lt_succ_self _)
  exact ⟨ra, ts, by rw [XO, pF_cell q0]; rfl, XT_S q1 (Sm_Fr f (by omega)) (fun y hy => tb_Fr f (by omega) hy), XM_S q2 (Sm_Fr f (by omega)), XP_S q3 (Sm_Fr f (by omega)), XW_S q4 (Sm_Fr f (by omega)), XL_S q5 (Sm_Fr f (by omega)), XS_S q6 (Sm_Fr f (by omega)), XH_S q7 (Sm_Fr f (by omega)), XV_S q8 (Sm_Fr f (by omega)), XA_S q9 (Sm_Fr f (by omega)), XQ_S q10 (Sm_Fr f (by omega)), XM_S q11 (Sm_Fr f (by omega)), qk⟩
theorem XI_model {hp h : HP} {n : Nat} {G : BitVec 64} {z : Int} {c : Nat} {ks : List Int} {es : List Int} {ik : Bool} {kn : Nat} {kG : BitVec 64} {kz : Int} {kc : Nat} {kks : List Int} {kes : List Int} {tc : Nat} {tb : List Int} {sc : Nat} {tl : List Int} {so : List Int} {le : List Int} {it : Nat → List (BitVec 64)} {he : List Int} {th : List Int} {sl : List Int} {tr : Nat} {bo : List Int} (hX : XI hp n G z c ks es ik kn kG kz kc kks kes tc tb sc tl so le it he th sl tr bo) (f : Fr 54 83 hp h) : XI h n G z c ks es ik kn kG kz kc kks kes tc tb sc tl so le it he th sl tr bo := by
  obtain ⟨ra, ts, q0, q1, q2, q3, q4, q5, q6, q7, q8, q9, q10, q11, qk⟩ := hX
  exact ⟨ra, ts, XO_S q0 (Sm_Fr f (by omega)), XT_S q1 (Sm_Fr f (by omega)) (fun y hy => tb_Fr f (by omega) hy), XM_S q2 (Sm_Fr f (by omega)), XP_S q3 (Sm_Fr f (by omega)), XW_S q4 (Sm_Fr f (by omega)), XL_S q5 (Sm_Fr f (by omega)), XS_S q6 (Sm_Fr f (by omega)), XH_S q7 (Sm_Fr f (by omega)), XV_S q8 (Sm_Fr f (by omega)), XA_S q9 (Sm_Fr f (by omega)), XQ_S q10 (Sm_Fr f (by omega)), XM_S q11 (Sm_Fr f (by omega)), qk⟩
