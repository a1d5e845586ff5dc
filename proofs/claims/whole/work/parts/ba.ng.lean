/-! ===== how the classes hang together ===== -/
theorem jn_le {n i j : Nat} (h1 : 1 ≤ n) (h6 : n ≤ 6) (hi : i < FC n) (hj : j < FC n) (h : blw n i j = true) : jn n i j = j := by
  rw [jn_E h1 h6 hi hj]
  obtain ⟨a1, a2, a3, a4⟩ := jnE_ok h1 h6 hi hj
  exact blw_anti h1 h6 a1 hj (a4 j hj h (blw_refl n j)) a3
theorem jn_ge {n i j : Nat} (h1 : 1 ≤ n) (h6 : n ≤ 6) (hi : i < FC n) (hj : j < FC n) (h : blw n j i = true) : jn n i j = i := by
  rw [jn_E h1 h6 hi hj]
  obtain ⟨a1, a2, a3, a4⟩ := jnE_ok h1 h6 hi hj
  exact blw_anti h1 h6 a1 hi (a4 i hi (blw_refl n i) h) a2
theorem nr_up {n c p : Nat} {G : BitVec 64} (h1 : 1 ≤ n) (h6 : n ≤ 6) (hG : clo n G) (hc : c < FC n) (hl : lst n G c = c) (hp : p < n - 1) (hd : dn n c p = true) : ∃ q, q < n - 1 ∧ dn n (gst n G (bs n c p)) q = false ∧ lst n G (bs n (gst n G (bs n c p)) q) = c := by
  have hu := bs_ok h1 h6 hc hp
  have hg : gst n G (bs n c p) < FC n := gst_ok h1 h6 hu
  have buc : blw n (bs n c p) c = true := bw_step (b := true) h1 h6 hc hp hd
  have pcu := ((st_ok h1 h6 hc).2 p hp).1 hd
  have ll := lst_lst (G := G) h1 h6 hG hu
  have by_ := lst_blw (G := G) h1 h6 hu
  have hy : lst n G (bs n c p) < FC n := lst_ok h1 h6 hu
  have i1 := (blw_le h1 h6 hy hu by_).1
  have nuc : bs n c p ≠ c := by
    intro e
    rw [e] at pcu
    omega
  have i2 := (blw_le h1 h6 hu hc buc).1
  have nyc : lst n G (bs n c p) ≠ c := by
    intro e
    rw [e] at i1
    exact nuc (by omega)
  generalize hue : bs n c p = u at *
  generalize hge : gst n G u = g at *
  have bug : blw n u g = true := by rw [← hge]; exact gst_blw h1 h6 hu
  have elg : lst n G g = lst n G u := ll.2.1
  obtain ⟨m1, m2, m3, m4⟩ := jnE_ok h1 h6 hc hg
  rw [← jn_E h1 h6 hc hg] at m1 m2 m3 m4
  have elm : lst n G (jn n c g) = c := by
    rw [← lst_jn h1 h6 hG hc hg, elg, lst_jn h1 h6 hG hc hu, jn_ge h1 h6 hc hu buc, hl]
  have ngm : g ≠ jn n c g := by
    intro e
    rw [← e, elg] at elm
    exact nyc elm
  obtain ⟨q, hq, hdq, hbq⟩ := wk_step h1 h6 hg m1 m3 ngm
  refine ⟨q, hq, hdq, ?_⟩
  have hv := bs_ok h1 h6 hg hq
  have bgv : blw n g (bs n g q) = true := bw_step (b := false) h1 h6 hg hq hdq
  have lgv := (wk_up h1 h6 hg hq hdq).1
  generalize hve : bs n g q = v at *
  have w1 : blw n (lst n G v) c = true := by
    have := lst_mono h1 h6 hG hv m1 hbq
    rw [elm] at this
    exact this
  have w2 : blw n (lst n G u) (lst n G v) = true := by
    have := lst_mono h1 h6 hG hg hv bgv
    rw [elg] at this
    exact this
  have hw : lst n G v < FC n := lst_ok h1 h6 hv
  have nwy : lst n G v ≠ lst n G u := by
    intro e
    have := ((cls_iv h1 h6 hG hu hv).mp e).2
    rw [hge] at this
    have := blw_anti h1 h6 hg hv bgv this
    omega
  have llv := (lst_lst (G := G) h1 h6 hG hv).1
  generalize hwe : lst n G v = w at *
  obtain ⟨k1, k2, k3, k4⟩ := jnE_ok h1 h6 hu hw
  rw [← jn_E h1 h6 hu hw] at k1 k2 k3 k4
  have kc := k4 c hc buc w1
  have cov : jn n u w = u ∨ jn n u w = c := by
    have x1 := (blw_le h1 h6 hu k1 k2).2
    have x2 := (blw_le h1 h6 k1 hc kc).2
    by_cases e1 : jn n u w = u
    · exact Or.inl e1
    · by_cases e2 : jn n u w = c
      · exact Or.inr e2
      · have := x1 (fun e => e1 e.symm)
        have := x2 e2
        omega
  rcases cov with e | e
  · rw [e] at k3
    have := lst_mono h1 h6 hG hw hu k3
    rw [llv] at this
    exact absurd (blw_anti h1 h6 hw hy this w2) nwy
  · have := lst_jn h1 h6 hG hu hw
    rw [llv, jn_le h1 h6 hy hw w2, llv, e, hl] at this
    exact this
theorem nrF_mem {n i : Nat} {G : BitVec 64} {m : Nat → Bool} {y : Nat} : ∀ k, y ∈ nrF n G i m k ↔ ∃ p, p < k ∧ m p = true ∧ y = lst n G (bs n i p) := by
  intro k
  induction k with
  | zero => exact ⟨fun h => (by cases h), fun ⟨p, hp, _⟩ => absurd hp (Nat.not_lt_zero p)⟩
  | succ k ih =>
    have hu : nrF n G i m (k + 1) = if m k = true then insS (lst n G (bs n i k)) (nrF n G i m k) else nrF n G i m k := rfl
    have hin : ∀ (x : Nat) (ns : List Nat), y ∈ insS x ns ↔ y = x ∨ y ∈ ns := by
      intro x ns
      constructor
      · exact insS_mem
      · intro h
        unfold insS
        rw [List.mem_append, List.mem_cons]
        rcases h with h | h
        · exact Or.inr (Or.inl h)
        · rw [← List.take_append_drop (posS x ns ns.length) ns, List.mem_append] at h
          rcases h with h | h
          · exact Or.inl h
          · exact Or.inr (Or.inr h)
    rw [hu]
    by_cases c : m k = true
    · rw [if_pos c, hin, ih]
      constructor
      · intro h
        rcases h with h | ⟨p, a, b⟩
        · exact ⟨k, Nat.lt_succ_self k, c, h⟩
        · exact ⟨p, by omega, b⟩
      · intro ⟨p, a, b, e⟩
        by_cases e2 : p = k
        · subst e2; exact Or.inl e
        · exact Or.inr ⟨p, by omega, b, e⟩
    · rw [if_neg c, ih]
      constructor
      · intro ⟨p, a, b⟩; exact ⟨p, by omega, b⟩
      · intro ⟨p, a, b, e⟩
        have : p ≠ k := fun e2 => c (by rw [← e2]; exact b)
        exact ⟨p, by omega, b, e⟩
theorem isL_lst {n i : Nat} {G : BitVec 64} (h1 : 1 ≤ n) (h6 : n ≤ 6) (hi : i < FC n) (h : isL n G i = true) : lst n G i = i := goD_stop (b := true) ((isL_none h1 h6 hi).mp h)
theorem nr0_mem {n c y : Nat} {G : BitVec 64} (hl : lst n G c = c) : y ∈ nr0 n G c ↔ ∃ p, p < n - 1 ∧ dn n c p = true ∧ y = lst n G (bs n c p) := by
  unfold nr0
  rw [nrF_mem, hl]
  exact Iff.rfl
theorem nr1_mem {n c y : Nat} {G : BitVec 64} : y ∈ nr1 n G c ↔ ∃ p, p < n - 1 ∧ dn n (gst n G c) p = false ∧ y = lst n G (bs n (gst n G c) p) := by
  unfold nr1
  rw [nrF_mem]
  constructor
  · intro ⟨p, a, b, e⟩
    exact ⟨p, a, by simpa [mU] using b, e⟩
  · intro ⟨p, a, b, e⟩
    exact ⟨p, a, by simp [mU, b], e⟩
theorem nr_dual {n c y : Nat} {G : BitVec 64} (h1 : 1 ≤ n) (h6 : n ≤ 6) (hG : clo n G) (hc : c < FC n) (hl : lst n G c = c) (h : y ∈ nr0 n G c) : c ∈ nr1 n G y := by
  obtain ⟨p, hp, hd, e⟩ := (nr0_mem hl).mp h
  have hu := bs_ok h1 h6 hc hp
  rw [nr1_mem, e, (lst_lst h1 h6 hG hu).2.2.1]
  obtain ⟨q, a, b, e2⟩ := nr_up h1 h6 hG hc hl hp hd
  exact ⟨q, a, b, e2.symm⟩
theorem nr_ok {n : Nat} {G : BitVec 64} (h1 : 1 ≤ n) (h6 : n ≤ 6) (hG : clo n G) : nrOK n G := by
  intro i hi hL
  have hl := isL_lst h1 h6 hi hL
  constructor
  · intro y hy
    obtain ⟨p, hp, hd, e⟩ := (nr0_mem hl).mp hy
    have hu := bs_ok h1 h6 hi hp
    have hy2 : lst n G (bs n i p) < FC n := lst_ok h1 h6 hu
    have b1 := (blw_le h1 h6 hy2 hu (lst_blw h1 h6 hu)).1
    have buc : blw n (bs n i p) i = true := bw_step (b := true) h1 h6 hi hp hd
    have pcu := ((st_ok h1 h6 hi).2 p hp).1 hd
    have b2 := (blw_le h1 h6 hu hi buc).1
    have ne : bs n i p ≠ i := by intro q; rw [q] at pcu; omega
    rw [e]
    exact ⟨by omega, lst_isL h1 h6 hu⟩
  · intro hpos hnil
    have hF : 0 < FC n := by omega
    have b0 : blw n 0 i = true := by
      have := jnE_ok h1 h6 hF hi
      have := mtE_ok h1 h6 hF hi
      obtain ⟨m1, m2, m3, m4⟩ := this
      have z := (blw_le h1 h6 m1 hF m2).1
      have z0 : mtE n 0 i = 0 := by omega
      rw [z0] at m3
      exact m3
    obtain ⟨p, hp, hd, _⟩ := wk_stepD h1 h6 hi hF b0 (by omega)
    have : lst n G (bs n i p) ∈ nr0 n G i := (nr0_mem hl).mpr ⟨p, hp, hd, rfl⟩
    rw [hnil] at this
    cases this
