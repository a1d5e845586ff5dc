/-! ===== what is gone makes a congruence (2) ===== -/
theorem mon_step {n : Nat} {G : BitVec 64} {b : Bool} (h1 : 1 ≤ n) (h6 : n ≤ 6) (hG : clo n G) : ∀ (f j p : Nat), j < FC n → gMs n b j ≤ f → p < n - 1 → dn n j p = b → bw n b (goD n G b (bs n j p)) (goD n G b j) = true ∧ (G.getLsbD (ar n j p) = false → goD n G b (bs n j p) ≠ goD n G b j) := by
  have ms : ∀ j p, j < FC n → p < n - 1 → dn n j p = b → gMs n b (bs n j p) + 1 = gMs n b j := by
    intro j p hj hp hd
    obtain ⟨s1, s2⟩ := (st_ok h1 h6 hj).2 p hp
    have s3 := (st_ok h1 h6 (bs_ok h1 h6 hj hp)).1
    unfold gMs
    cases b with
    | true => rw [if_pos rfl, if_pos rfl]; exact s1 hd
    | false => rw [if_neg (by decide), if_neg (by decide)]; have := s2 hd; omega
  intro f
  induction f with
  | zero => intro j p hj hf hp hd; have := ms j p hj hp hd; omega
  | succ f ih =>
    intro j p hj hf hp hd
    have hjp := bs_ok h1 h6 hj hp
    have mp := ms j p hj hp hd
    cases ha : G.getLsbD (ar n j p) with
    | true =>
      have e := edge_eq h1 h6 hG hj hp ha b
      rw [← e]
      exact ⟨bw_refl n b _, fun q => Bool.noConfusion q⟩
    | false =>
      cases e : fgD n G j b with
      | none =>
        rw [goD_stop e]
        have s := bw_step h1 h6 hj hp hd
        have t := goD_is (G := G) (b := b) h1 h6 hjp
        refine ⟨bw_trans t s, fun _ q => ?_⟩
        rw [q] at t
        have := bw_anti h1 h6 hj hjp t s
        rw [← this] at mp
        omega
      | some q =>
        obtain ⟨q1, q2, q3⟩ := fgD_GS e
        have hjq := bs_ok h1 h6 hj q1
        have mq := ms j q hj q1 q2
        have ejq : goD n G b j = goD n G b (bs n j q) := goD_step h1 h6 hj e
        have nepq : p ≠ q := by intro x; subst x; rw [q3] at ha; exact Bool.noConfusion ha
        rw [ejq]
        rcases Nat.lt_or_gt_of_ne nepq with c | c
        · have pg := pg_ok h1 h6 hj q1 c hd q2
          unfold pgn at pg
          by_cases c2 : q = p + 1
          · rw [if_pos c2] at pg
            simp only [Bool.and_eq_true, beq_iff_eq] at pg
            obtain ⟨a1, a2, a3, a4, a5, a6, a7, a8, a9, a10, a11⟩ := pg
            have hx := bs_ok h1 h6 hjp q1
            have hy := bs_ok h1 h6 hjq hp
            have my := ms _ _ hjq hp a3
            have e1 := edge_eq h1 h6 hG hjp q1 (hG.2 _ _ q3 a9) b
            have e2 := edge_eq h1 h6 hG hx hp (by rw [a6]; exact q3) b
            have e3 := edge_eq h1 h6 hG hjq hp (hG.2 _ _ q3 a11) b
            obtain ⟨i1, i2⟩ := ih (bs n (bs n j q) p) q hy (by omega) q1 a4
            rw [← a5] at i1 i2
            rw [e1, e2, e3]
            exact ⟨i1, fun _ => i2 (by rw [a7]; exact ha)⟩
          · rw [if_neg c2] at pg
            simp only [Bool.and_eq_true, beq_iff_eq] at pg
            obtain ⟨a1, a2, a3, a4, a5⟩ := pg
            have e1 := edge_eq h1 h6 hG hjp q1 (by rw [a4]; exact q3) b
            obtain ⟨i1, i2⟩ := ih (bs n j q) p hjq (by omega) hp a2
            rw [← a3] at i1 i2
            rw [e1]
            exact ⟨i1, fun _ => i2 (by rw [a5]; exact ha)⟩
        · have pg := pg_ok h1 h6 hj hp c q2 hd
          unfold pgn at pg
          by_cases c2 : p = q + 1
          · rw [if_pos c2] at pg
            simp only [Bool.and_eq_true, beq_iff_eq] at pg
            obtain ⟨a1, a2, a3, a4, a5, a6, a7, a8, a9, a10, a11⟩ := pg
            have hy := bs_ok h1 h6 hjq hp
            have hx := bs_ok h1 h6 hjp q1
            have my := ms _ _ hjq hp a1
            have e1 := edge_eq h1 h6 hG hjp q1 (hG.2 _ _ q3 a10) b
            have e2 := edge_eq h1 h6 hG hx hp (by rw [a7]; exact q3) b
            have e3 := edge_eq h1 h6 hG hjq hp (hG.2 _ _ q3 a8) b
            obtain ⟨i1, i2⟩ := ih (bs n (bs n j q) p) q hy (by omega) q1 a2
            rw [a5] at i1 i2
            rw [e1, e2, e3]
            exact ⟨i1, fun _ => i2 (by rw [a6]; exact ha)⟩
          · rw [if_neg c2] at pg
            simp only [Bool.and_eq_true, beq_iff_eq] at pg
            obtain ⟨a1, a2, a3, a4, a5⟩ := pg
            have e1 := edge_eq h1 h6 hG hjp q1 (by rw [a5]; exact q3) b
            obtain ⟨i1, i2⟩ := ih (bs n j q) p hjq (by omega) hp a1
            rw [a3] at i1 i2
            rw [e1]
            exact ⟨i1, fun _ => i2 (by rw [a4]; exact ha)⟩
theorem mon_up {n : Nat} {G : BitVec 64} (h1 : 1 ≤ n) (h6 : n ≤ 6) (hG : clo n G) {m : Nat} (hm : m < FC n) : ∀ (f k : Nat), k < FC n → 15 ≤ pc15 (sw n k) + f → blw n k m = true → blw n (lst n G k) (lst n G m) = true ∧ blw n (gst n G k) (gst n G m) = true := by
  intro f
  induction f with
  | zero =>
    intro k hk hf hb
    by_cases e : k = m
    · subst e; exact ⟨blw_refl n _, blw_refl n _⟩
    · obtain ⟨p, hp, hd, -⟩ := wk_step h1 h6 hk hm hb e
      have s := ((st_ok h1 h6 hk).2 p hp).2 hd
      have := pc_31 h1 h6 (bs_ok h1 h6 hk hp)
      omega
  | succ f ih =>
    intro k hk hf hb
    by_cases e : k = m
    · subst e; exact ⟨blw_refl n _, blw_refl n _⟩
    · obtain ⟨p, hp, hd, hb2⟩ := wk_step h1 h6 hk hm hb e
      have s := ((st_ok h1 h6 hk).2 p hp).2 hd
      have hbs := bs_ok h1 h6 hk hp
      obtain ⟨k1, k2, k3⟩ := bk_ok h1 h6 hk hp
      rw [hd] at k2
      obtain ⟨i1, i2⟩ := ih (bs n k p) hbs (by omega) hb2
      have u1 := (mon_step (b := true) h1 h6 hG _ (bs n k p) p hbs (Nat.le_refl _) hp k2).1
      rw [k1] at u1
      have u2 := (mon_step (b := false) h1 h6 hG _ k p hk (Nat.le_refl _) hp hd).1
      exact ⟨blw_trans u1 i1, blw_trans u2 i2⟩
theorem lst_mono {n i j : Nat} {G : BitVec 64} (h1 : 1 ≤ n) (h6 : n ≤ 6) (hG : clo n G) (hi : i < FC n) (hj : j < FC n) (h : blw n i j = true) : blw n (lst n G i) (lst n G j) = true := (mon_up h1 h6 hG hj 15 i hi (by omega) h).1
theorem gst_mono {n i j : Nat} {G : BitVec 64} (h1 : 1 ≤ n) (h6 : n ≤ 6) (hG : clo n G) (hi : i < FC n) (hj : j < FC n) (h : blw n i j = true) : blw n (gst n G i) (gst n G j) = true := (mon_up h1 h6 hG hj 15 i hi (by omega) h).2
theorem lst_blw {n i : Nat} {G : BitVec 64} (h1 : 1 ≤ n) (h6 : n ≤ 6) (hi : i < FC n) : blw n (lst n G i) i = true := goD_is (b := true) h1 h6 hi
theorem gst_blw {n i : Nat} {G : BitVec 64} (h1 : 1 ≤ n) (h6 : n ≤ 6) (hi : i < FC n) : blw n i (gst n G i) = true := goD_is (b := false) h1 h6 hi
theorem go_go {n : Nat} {G : BitVec 64} {b c : Bool} (h1 : 1 ≤ n) (h6 : n ≤ 6) (hG : clo n G) : ∀ (f i : Nat), i < FC n → gMs n b i ≤ f → goD n G c (goD n G b i) = goD n G c i := by
  intro f
  induction f with
  | zero =>
    intro i hi hf
    cases e : fgD n G i b with
    | none => rw [goD_stop e]
    | some p => have := (gMs_step h1 h6 hi e).2.2; omega
  | succ f ih =>
    intro i hi hf
    cases e : fgD n G i b with
    | none => rw [goD_stop e]
    | some p =>
      obtain ⟨s1, s2, s3⟩ := gMs_step h1 h6 hi e
      rw [goD_step h1 h6 hi e, ih _ s1 (by omega)]
      exact (edge_eq h1 h6 hG hi s2 (fgD_GS e).2.2 c).symm
theorem lst_lst {n i : Nat} {G : BitVec 64} (h1 : 1 ≤ n) (h6 : n ≤ 6) (hG : clo n G) (hi : i < FC n) : lst n G (lst n G i) = lst n G i ∧ lst n G (gst n G i) = lst n G i ∧ gst n G (lst n G i) = gst n G i ∧ gst n G (gst n G i) = gst n G i :=
  ⟨go_go (b := true) (c := true) h1 h6 hG _ i hi (Nat.le_refl _), go_go (b := false) (c := true) h1 h6 hG _ i hi (Nat.le_refl _), go_go (b := true) (c := false) h1 h6 hG _ i hi (Nat.le_refl _), go_go (b := false) (c := false) h1 h6 hG _ i hi (Nat.le_refl _)⟩
theorem blw_anti {n i j : Nat} (h1 : 1 ≤ n) (h6 : n ≤ 6) (hi : i < FC n) (hj : j < FC n) (x : blw n i j = true) (y : blw n j i = true) : i = j := bw_anti (b := true) h1 h6 hi hj x y
/-- a class is what lies between its ends -/
theorem cls_iv {n i k : Nat} {G : BitVec 64} (h1 : 1 ≤ n) (h6 : n ≤ 6) (hG : clo n G) (hi : i < FC n) (hk : k < FC n) : lst n G k = lst n G i ↔ blw n (lst n G i) k = true ∧ blw n k (gst n G i) = true := by
  have li := lst_ok (G := G) h1 h6 hi
  have gi := gst_ok (G := G) h1 h6 hi
  have lk := lst_ok (G := G) h1 h6 hk
  constructor
  · intro e
    constructor
    · rw [← e]; exact lst_blw h1 h6 hk
    · have q := gst_blw (G := G) h1 h6 hk
      rw [← (lst_lst h1 h6 hG hk).2.2.1, e, (lst_lst h1 h6 hG hi).2.2.1] at q
      exact q
  · intro ⟨x, y⟩
    have u := lst_mono h1 h6 hG li hk x
    rw [(lst_lst h1 h6 hG hi).1] at u
    have v := lst_mono h1 h6 hG hk gi y
    rw [(lst_lst h1 h6 hG hi).2.1] at v
    exact blw_anti h1 h6 lk li v u
/-- how many are alike: two ways to count -/
def myN (n : Nat) (G : BitVec 64) (i : Nat) : Int := cnt (fun k => decide (lst n G k = lst n G i)) (FC n)
theorem myN_hma {n i : Nat} {G : BitVec 64} (h1 : 1 ≤ n) (h6 : n ≤ 6) (hG : clo n G) (hi : i < FC n) : myN n G i = hma n G i := by
  have li := lst_ok (G := G) h1 h6 hi
  have gi := gst_ok (G := G) h1 h6 hi
  have M : max (lst n G i) (gst n G i + 1) ≤ FC n := by omega
  unfold myN hma
  rw [show FC n = max (lst n G i) (gst n G i + 1) + (FC n - max (lst n G i) (gst n G i + 1)) by omega, cnt_add]
  have e2 : cnt (fun k => decide (lst n G (max (lst n G i) (gst n G i + 1) + k) = lst n G i)) (FC n - max (lst n G i) (gst n G i + 1)) = 0 := cnt_zero (fun k hk => decide_eq_false (fun e => by
    have hkF : max (lst n G i) (gst n G i + 1) + k < FC n := by omega
    have := (blw_le h1 h6 hkF gi ((cls_iv h1 h6 hG hi hkF).mp e).2).1
    omega))
  rw [e2, Int.add_zero]
  refine cnt_congr (fun k hk => ?_)
  have hkF : k < FC n := by omega
  by_cases e : lst n G k = lst n G i
  · obtain ⟨x, y⟩ := (cls_iv h1 h6 hG hi hkF).mp e
    rw [decide_eq_true e, x, y, decide_eq_true (blw_le h1 h6 li hkF x).1]; rfl
  · rw [decide_eq_false e]
    cases q : (decide (lst n G i ≤ k) && (blw n (lst n G i) k && blw n k (gst n G i))) with
    | false => rfl
    | true =>
      rw [Bool.and_eq_true, Bool.and_eq_true] at q
      exact absurd ((cls_iv h1 h6 hG hi hkF).mpr q.2) e
theorem lst_mt {n i j : Nat} {G : BitVec 64} (h1 : 1 ≤ n) (h6 : n ≤ 6) (hG : clo n G) (hi : i < FC n) (hj : j < FC n) : lst n G (mt n (lst n G i) (lst n G j)) = lst n G (mt n i j) := by
  have li := lst_ok (G := G) h1 h6 hi
  have lj := lst_ok (G := G) h1 h6 hj
  obtain ⟨a1, a2, a3, a4⟩ := mtE_ok h1 h6 hi hj
  obtain ⟨b1, b2, b3, b4⟩ := mtE_ok h1 h6 li lj
  rw [mt_E h1 h6 hi hj, mt_E h1 h6 li lj]
  have lm := lst_ok (G := G) h1 h6 a1
  apply blw_anti h1 h6 (lst_ok h1 h6 b1) lm
  · exact lst_mono h1 h6 hG b1 a1 (a4 _ b1 (blw_trans b2 (lst_blw h1 h6 hi)) (blw_trans b3 (lst_blw h1 h6 hj)))
  · have u := b4 _ lm (lst_mono h1 h6 hG a1 hi a2) (lst_mono h1 h6 hG a1 hj a3)
    have v := lst_mono h1 h6 hG lm b1 u
    rw [(lst_lst h1 h6 hG a1).1] at v
    exact v
theorem lst_jn {n i j : Nat} {G : BitVec 64} (h1 : 1 ≤ n) (h6 : n ≤ 6) (hG : clo n G) (hi : i < FC n) (hj : j < FC n) : lst n G (jn n (lst n G i) (lst n G j)) = lst n G (jn n i j) := by
  have li := lst_ok (G := G) h1 h6 hi
  have lj := lst_ok (G := G) h1 h6 hj
  obtain ⟨a1, a2, a3, a4⟩ := jnE_ok h1 h6 hi hj
  obtain ⟨b1, b2, b3, b4⟩ := jnE_ok h1 h6 li lj
  rw [jn_E h1 h6 hi hj, jn_E h1 h6 li lj]
  have gb := gst_ok (G := G) h1 h6 b1
  apply blw_anti h1 h6 (lst_ok h1 h6 b1) (lst_ok h1 h6 a1)
  · exact lst_mono h1 h6 hG b1 a1 (b4 _ a1 (blw_trans (lst_blw h1 h6 hi) a2) (blw_trans (lst_blw h1 h6 hj) a3))
  · have x := gst_mono h1 h6 hG li b1 b2
    rw [(lst_lst h1 h6 hG hi).2.2.1] at x
    have y := gst_mono h1 h6 hG lj b1 b3
    rw [(lst_lst h1 h6 hG hj).2.2.1] at y
    have u := a4 _ gb (blw_trans (gst_blw h1 h6 hi) x) (blw_trans (gst_blw h1 h6 hj) y)
    have v := lst_mono h1 h6 hG a1 gb u
    rw [(lst_lst h1 h6 hG b1).2.1] at v
    exact v
