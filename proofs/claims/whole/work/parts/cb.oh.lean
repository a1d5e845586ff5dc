/-! ===== the ways up: what is reached from both ends ===== -/
theorem mt_le {n i j : Nat} (h1 : 1 ≤ n) (h6 : n ≤ 6) (hi : i < FC n) (hj : j < FC n) (h : blw n i j = true) : mt n i j = i := by
  rw [mt_E h1 h6 hi hj]
  obtain ⟨a1, a2, a3, a4⟩ := mtE_ok h1 h6 hi hj
  exact blw_anti h1 h6 a1 hi a2 (a4 i hi (blw_refl n i) h)
theorem mt_ge {n i j : Nat} (h1 : 1 ≤ n) (h6 : n ≤ 6) (hi : i < FC n) (hj : j < FC n) (h : blw n j i = true) : mt n i j = j := by
  rw [mt_E h1 h6 hi hj]
  obtain ⟨a1, a2, a3, a4⟩ := mtE_ok h1 h6 hi hj
  exact blw_anti h1 h6 a1 hj a3 (a4 j hj h (blw_refl n j))
theorem nr_dn {n g q : Nat} {G : BitVec 64} (h1 : 1 ≤ n) (h6 : n ≤ 6) (hG : clo n G) (hg : g < FC n) (hgg : gst n G g = g) (hq : q < n - 1) (hd : dn n g q = false) : ∃ p, p < n - 1 ∧ dn n (lst n G (bs n g q)) p = true ∧ lst n G (bs n (lst n G (bs n g q)) p) = lst n G g := by
  have hu := bs_ok h1 h6 hg hq
  have bgu : blw n g (bs n g q) = true := bw_step (b := false) h1 h6 hg hq hd
  have pcu := ((st_ok h1 h6 hg).2 q hq).2 hd
  have hc : lst n G (bs n g q) < FC n := lst_ok h1 h6 hu
  have ll := lst_lst (G := G) h1 h6 hG hu
  have bcu := lst_blw (G := G) h1 h6 hu
  generalize hue : bs n g q = u at *
  -- u stands in another class
  have nug : lst n G u ≠ lst n G g := by
    intro e
    have := ((cls_iv h1 h6 hG hg hu).mp e).2
    rw [hgg] at this
    have := blw_anti h1 h6 hu hg this bgu
    rw [this] at pcu
    omega
  generalize hce : lst n G u = c at *
  obtain ⟨m1, m2, m3, m4⟩ := mtE_ok h1 h6 hc hg
  rw [← mt_E h1 h6 hc hg] at m1 m2 m3 m4
  have elm : lst n G (mt n c g) = lst n G g := by
    have e1 := lst_mt (G := G) h1 h6 hG hu hg
    have e2 := lst_mt (G := G) h1 h6 hG hc hg
    rw [hce, mt_ge h1 h6 hu hg bgu] at e1
    rw [ll.1, e1] at e2
    exact e2.symm
  have ncm : c ≠ mt n c g := by
    intro e
    rw [← e, ll.1] at elm
    exact nug elm
  obtain ⟨p, hp, hdp, hbp⟩ := wk_stepD h1 h6 hc m1 m2 ncm
  refine ⟨p, hp, hdp, ?_⟩
  have hv := bs_ok h1 h6 hc hp
  have bvc : blw n (bs n c p) c = true := bw_step (b := true) h1 h6 hc hp hdp
  have pcv := ((st_ok h1 h6 hc).2 p hp).1 hdp
  generalize hve : bs n c p = v at *
  have hw : lst n G v < FC n := lst_ok h1 h6 hv
  have hh : gst n G v < FC n := gst_ok h1 h6 hv
  have lv := lst_lst (G := G) h1 h6 hG hv
  have bwv := lst_blw (G := G) h1 h6 hv
  have w1 : blw n (lst n G g) (lst n G v) = true := by
    have := lst_mono h1 h6 hG m1 hv hbp
    rw [elm] at this
    exact this
  have bgh : blw n g (gst n G v) = true := by
    have hy : lst n G g < FC n := lst_ok h1 h6 hg
    have := gst_mono (G := G) h1 h6 hG hy hw w1
    rw [(lst_lst (G := G) h1 h6 hG hg).2.2.1, hgg, lv.2.2.1] at this
    exact this
  have bwc : blw n (lst n G v) c = true := blw_trans bwv bvc
  generalize hhe : gst n G v = h at *
  obtain ⟨k1, k2, k3, k4⟩ := mtE_ok h1 h6 hu hh
  rw [← mt_E h1 h6 hu hh] at k1 k2 k3 k4
  have kg := k4 g hg bgu bgh
  have cov : mt n u h = g ∨ mt n u h = u := by
    have x1 := (blw_le h1 h6 hg k1 kg).2
    have x2 := (blw_le h1 h6 k1 hu k2).2
    by_cases e1 : g = mt n u h
    · exact Or.inl e1.symm
    · by_cases e2 : mt n u h = u
      · exact Or.inr e2
      · have := x1 e1
        have := x2 e2
        omega
  rcases cov with e | e
  · have e3 := lst_mt (G := G) h1 h6 hG hu hh
    rw [hce, lv.2.1, mt_ge h1 h6 hc hw bwc, lv.1, e] at e3
    exact e3
  · exfalso
    rw [e] at k3
    have := lst_mono h1 h6 hG hu hh k3
    rw [hce, lv.2.1] at this
    have e4 := blw_anti h1 h6 hc hw this bwc
    have := (blw_le h1 h6 hw hv bwv).1
    have x3 := (blw_le h1 h6 hv hc bvc).1
    have : v = c := by omega
    rw [this] at pcv
    omega
theorem nr_dual2 {n c y : Nat} {G : BitVec 64} (h1 : 1 ≤ n) (h6 : n ≤ 6) (hG : clo n G) (hy : y < FC n) (hl : lst n G y = y) (h : c ∈ nr1 n G y) : y ∈ nr0 n G c := by
  obtain ⟨q, hq, hd, e⟩ := nr1_mem.mp h
  have hg : gst n G y < FC n := gst_ok h1 h6 hy
  have ly := lst_lst (G := G) h1 h6 hG hy
  have hu := bs_ok h1 h6 hg hq
  obtain ⟨p, hp, hdp, e2⟩ := nr_dn h1 h6 hG hg ly.2.2.2 hq hd
  rw [← e] at hdp e2
  rw [ly.2.1, hl] at e2
  have hlc : lst n G c = c := by rw [e]; exact (lst_lst (G := G) h1 h6 hG hu).1
  exact (nr0_mem hlc).mpr ⟨p, hp, hdp, e2.symm⟩
theorem nr0_pc {n c y : Nat} {G : BitVec 64} (h1 : 1 ≤ n) (h6 : n ≤ 6) (hc : c < FC n) (hl : lst n G c = c) (h : y ∈ nr0 n G c) : pc15 (sw n y) < pc15 (sw n c) := by
  obtain ⟨p, hp, hd, e⟩ := (nr0_mem hl).mp h
  have hu := bs_ok h1 h6 hc hp
  have pcu := ((st_ok h1 h6 hc).2 p hp).1 hd
  have hy2 : lst n G (bs n c p) < FC n := lst_ok h1 h6 hu
  have b1 := (blw_le h1 h6 hy2 hu (lst_blw h1 h6 hu)).2
  rw [e]
  by_cases q : lst n G (bs n c p) = bs n c p
  · rw [q]; omega
  · have := b1 q; omega
def pcm_b (n : Nat) : Bool := allB (fun i => Nat.ble (pc15 (sw n i)) (n * (n - 1) / 2)) (FC n)
theorem pcm_c : all6 pcm_b = true := by decide +kernel
theorem pcm_ok {n i : Nat} (h1 : 1 ≤ n) (h6 : n ≤ 6) (hi : i < FC n) : pc15 (sw n i) ≤ n * (n - 1) / 2 := by
  have := allB_of (all6_of pcm_c h1 h6) i hi
  exact Nat.le_of_ble_eq_true this
/-! ===== the most, the fewest ===== -/
def Bst (b : Bool) (V : Nat → Int) (P : Nat → Prop) (r : Int) : Prop := (∀ y, P y → 0 ≤ V y) ∧ ((r = -1 ∧ ∀ y, ¬ P y) ∨ ((∃ y, P y ∧ r = V y + 1) ∧ ∀ y, P y → (if b = true then V y + 1 ≤ r else r ≤ V y + 1)))
def bstU (b : Bool) (r x : Int) : Int := if r < 0 ∨ (if b = true then r < x + 1 else x + 1 < r) then x + 1 else r
theorem Bst_uniq {b : Bool} {V : Nat → Int} {P : Nat → Prop} {r s : Int} (h : Bst b V P r) (k : Bst b V P s) : r = s := by
  obtain ⟨h0, h⟩ := h
  obtain ⟨k0, k⟩ := k
  rcases h with ⟨h1, h2⟩ | ⟨⟨y, h1, h2⟩, h3⟩
  · rcases k with ⟨k1, k2⟩ | ⟨⟨z, k1, k2⟩, k3⟩
    · rw [h1, k1]
    · exact absurd k1 (h2 z)
  · rcases k with ⟨k1, k2⟩ | ⟨⟨z, k1, k2⟩, k3⟩
    · exact absurd h1 (k2 y)
    · have a := h3 z k1
      have c := k3 y h1
      cases b with
      | true => rw [if_pos rfl] at a c; omega
      | false => rw [if_neg (by decide)] at a c; omega
theorem Bst_in {b : Bool} {V : Nat → Int} {P : Nat → Prop} {r : Int} (h : Bst b V P r) (hb : ∀ y, P y → V y ≤ 119) : -1 ≤ r ∧ r ≤ 120 := by
  obtain ⟨h0, h⟩ := h
  rcases h with ⟨h1, h2⟩ | ⟨⟨y, h1, h2⟩, h3⟩
  · omega
  · have := h0 y h1
    have := hb y h1
    omega
theorem Bst_cg {b : Bool} {V : Nat → Int} {P Q : Nat → Prop} {r : Int} (e : ∀ y, P y ↔ Q y) (h : Bst b V P r) : Bst b V Q r := by
  have : P = Q := funext (fun y => propext (e y))
  rw [← this]
  exact h
theorem Bst_add {b : Bool} {V : Nat → Int} {P : Nat → Prop} {r : Int} {i : Nat} (h : Bst b V P r) (hi : 0 ≤ V i) : Bst b V (fun y => P y ∨ y = i) (bstU b r (V i)) := by
  obtain ⟨h0, h⟩ := h
  refine ⟨fun y hy => hy.elim (h0 y) (fun e => by rw [e]; exact hi), Or.inr ?_⟩
  unfold bstU
  rcases h with ⟨e1, e2⟩ | ⟨⟨z, z1, z2⟩, z3⟩
  · rw [if_pos (Or.inl (by omega))]
    refine ⟨⟨i, Or.inr rfl, rfl⟩, fun y hy => ?_⟩
    rcases hy with hy | hy
    · exact absurd hy (e2 y)
    · subst hy
      split <;> exact Int.le_refl _
  · have hz := h0 z z1
    have r0 : ¬ r < 0 := by omega
    by_cases c : (if b = true then r < V i + 1 else V i + 1 < r)
    · rw [if_pos (Or.inr c)]
      refine ⟨⟨i, Or.inr rfl, rfl⟩, fun y hy => ?_⟩
      rcases hy with hy | hy
      · have := z3 y hy
        cases b with
        | true => rw [if_pos rfl] at this c ⊢; omega
        | false => rw [if_neg (by decide)] at this c ⊢; omega
      · subst hy
        split <;> exact Int.le_refl _
    · rw [if_neg (fun q => q.elim r0 c)]
      refine ⟨⟨z, Or.inl z1, z2⟩, fun y hy => ?_⟩
      rcases hy with hy | hy
      · exact z3 y hy
      · subst hy
        cases b with
        | true => rw [if_pos rfl] at c ⊢; omega
        | false => rw [if_neg (by decide)] at c ⊢; omega
theorem upB_Bst {b : Bool} {st : List Int} : ∀ (ns : List Nat) (P : Nat → Prop) (r : Int), Bst b (fun y => st.getD y 0) P r → (∀ y, y ∈ ns → 0 ≤ st.getD y 0) → Bst b (fun y => st.getD y 0) (fun y => P y ∨ y ∈ ns) (upB st b ns r) := by
  intro ns
  induction ns with
  | nil => intro P r h _; exact Bst_cg (fun y => ⟨Or.inl, fun q => q.elim id (fun q => by cases q)⟩) h
  | cons x ns ih =>
    intro P r h hx
    rw [upB_cons]
    have a := Bst_add (i := x) h (hx x (List.mem_cons_self ..))
    have c := ih _ _ a (fun y hy => hx y (List.mem_cons_of_mem _ hy))
    refine Bst_cg (fun y => ?_) c
    rw [List.mem_cons, or_assoc]
theorem upB_cg {b : Bool} {s t : List Int} : ∀ (ns : List Nat) (r : Int), (∀ y, y ∈ ns → s.getD y 0 = t.getD y 0) → upB s b ns r = upB t b ns r := by
  intro ns
  induction ns with
  | nil => intro r _; rfl
  | cons x ns ih =>
    intro r h
    rw [upB_cons, upB_cons, h x (List.mem_cons_self ..)]
    exact ih _ (fun y hy => h y (List.mem_cons_of_mem _ hy))
/-- the class's steps to a class -/
def wuF (n : Nat) (G : BitVec 64) (b : Bool) (y : Nat) : Int := (suL n G b (List.replicate 120 0) (FC n - 1)).getD y 0
theorem suL_keep {n : Nat} {G : BitVec 64} {b : Bool} {s0 : List Int} {y : Nat} (hl : s0.length = 120) (h5 : FC n ≤ 120) : ∀ (m k : Nat), y ≤ k → k + m < FC n → (suL n G b s0 (k + m)).getD y 0 = (suL n G b s0 k).getD y 0 := by
  intro m
  induction m with
  | zero => intro k _ _; rfl
  | succ m ih =>
    intro k hy hk
    rw [show k + (m + 1) = (k + m) + 1 from rfl, suL_succ]
    split
    · rw [getD_set (by rw [suL_len]; omega), if_neg (by omega)]
      exact ih k hy (by omega)
    · exact ih k hy (by omega)
theorem suI_all {n : Nat} {G : BitVec 64} {b : Bool} {s0 : List Int} (hl : s0.length = 120) (hN : nrOK n G) (h5 : FC n ≤ 120) : ∀ k, k < FC n → suI n G (suL n G b s0 k) k := by
  intro k
  induction k with
  | zero => intro _; exact suI_0 hl
  | succ k ih => intro hk; exact (suI_up hl hN hk h5 (ih (by omega))).1
theorem wuF_0 {n : Nat} {G : BitVec 64} {b : Bool} (h1 : 1 ≤ n) (h5 : n ≤ 5) : wuF n G b 0 = 0 := by
  have f := FC_120 h1 h5
  have f0 := FC_pos h1 (show n ≤ 6 by omega)
  have := suL_keep (G := G) (b := b) (s0 := List.replicate 120 0) (y := 0) List.length_replicate f (FC n - 1) 0 (Nat.le_refl _) (by omega)
  rw [Nat.zero_add] at this
  unfold wuF
  rw [this]
  show ((List.replicate 120 (0 : Int)).set 0 0).getD 0 0 = 0
  rfl
theorem wuF_in {n y : Nat} {G : BitVec 64} {b : Bool} (h1 : 1 ≤ n) (h5 : n ≤ 5) (hG : clo n G) (hy : y < FC n) (hL : isL n G y = true) : 0 ≤ wuF n G b y ∧ wuF n G b y ≤ 119 := by
  have f := FC_120 h1 h5
  have := suI_all (G := G) (b := b) (s0 := List.replicate 120 0) List.length_replicate (nr_ok h1 (by omega) hG) f (FC n - 1) (by omega) y (by omega) hL
  unfold wuF
  omega
theorem wuF_Bst {n c : Nat} {G : BitVec 64} {b : Bool} (h1 : 1 ≤ n) (h5 : n ≤ 5) (hG : clo n G) (hc : c < FC n) (h0 : 0 < c) (hL : isL n G c = true) : Bst b (wuF n G b) (fun y => y ∈ nr0 n G c) (wuF n G b c) := by
  have h6 : n ≤ 6 := by omega
  have f := FC_120 h1 h5
  have hN := nr_ok h1 h6 hG
  obtain ⟨hn1, -⟩ := hN c hc hL
  obtain ⟨k, rfl⟩ : ∃ k, c = k + 1 := ⟨c - 1, by omega⟩
  have e1 : wuF n G b (k + 1) = upB (suL n G b (List.replicate 120 0) k) b (nr0 n G (k + 1)) (-1) := by
    have := suL_keep (G := G) (b := b) (s0 := List.replicate 120 0) (y := k + 1) List.length_replicate f (FC n - 1 - (k + 1)) (k + 1) (Nat.le_refl _) (by omega)
    rw [show k + 1 + (FC n - 1 - (k + 1)) = FC n - 1 by omega] at this
    unfold wuF
    rw [this, suL_succ, if_pos hL, getD_set (by rw [suL_len, List.length_replicate]; omega), if_pos rfl]
  have e2 : upB (suL n G b (List.replicate 120 0) k) b (nr0 n G (k + 1)) (-1) = upB (suL n G b (List.replicate 120 0) (FC n - 1)) b (nr0 n G (k + 1)) (-1) := by
    apply upB_cg
    intro y hy
    have := (hn1 y hy).1
    have := suL_keep (G := G) (b := b) (s0 := List.replicate 120 0) (y := y) List.length_replicate f (FC n - 1 - k) k (by omega) (by omega)
    rw [show k + (FC n - 1 - k) = FC n - 1 by omega] at this
    exact this.symm
  rw [e1, e2]
  have st : Bst b (fun y => (suL n G b (List.replicate 120 0) (FC n - 1)).getD y 0) (fun _ => False) (-1) := ⟨fun _ q => q.elim, Or.inl ⟨rfl, fun _ q => q⟩⟩
  have := upB_Bst (nr0 n G (k + 1)) _ _ st (fun y hy => (wuF_in (b := b) h1 h5 hG (by have := (hn1 y hy).1; omega) (hn1 y hy).2).1)
  exact Bst_cg (fun y => ⟨fun q => q.elim (fun q => q.elim) id, Or.inr⟩) this
