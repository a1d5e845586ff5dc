/-! ===== the reference's ways up ===== -/
def EW (n : Nat) (G : BitVec 64) (s i k y c : Nat) : Prop := y < FC n ∧ isL n G y = true ∧ c ∈ nr1 n G y ∧ (pc15 (sw n y) < s ∨ (pc15 (sw n y) = s ∧ y < i) ∨ (pc15 (sw n y) = s ∧ y = i ∧ c ∈ (nr1 n G i).take k))
def JW (n : Nat) (G : BitVec 64) (s i k : Nat) (b : Bool) (st : List Int) : Prop := st.length = 120 ∧ st.getD 0 0 = 0 ∧ ∀ c, 0 < c → c < FC n → isL n G c = true → Bst b (wuF n G b) (fun y => EW n G s i k y c) (st.getD c 0)
theorem JW_cg {n s i k s' i' k' : Nat} {G : BitVec 64} {b : Bool} {st : List Int} (e : ∀ y c, EW n G s i k y c ↔ EW n G s' i' k' y c) (h : JW n G s i k b st) : JW n G s' i' k' b st := ⟨h.1, h.2.1, fun c c0 cF cL => Bst_cg (fun y => e y c) (h.2.2 c c0 cF cL)⟩
theorem nr1_pos {n i t : Nat} {G : BitVec 64} (h1 : 1 ≤ n) (h6 : n ≤ 6) (hG : clo n G) (hi : i < FC n) (hL : isL n G i = true) (ht : t ∈ nr1 n G i) : t < FC n ∧ isL n G t = true ∧ i < t ∧ i ∈ nr0 n G t := by
  have hl := isL_lst h1 h6 hi hL
  obtain ⟨q, hq, hd, e⟩ := nr1_mem.mp ht
  have hg : gst n G i < FC n := gst_ok h1 h6 hi
  have hu := bs_ok h1 h6 hg hq
  have htF : t < FC n := by rw [e]; exact lst_ok h1 h6 hu
  have htL : isL n G t = true := by rw [e]; exact lst_isL h1 h6 hu
  have hd2 := nr_dual2 h1 h6 hG hi hl ht
  exact ⟨htF, htL, ((nr_ok h1 h6 hG t htF htL).1 i hd2).1, hd2⟩
theorem JW_at {n s i k : Nat} {G : BitVec 64} {b : Bool} {st : List Int} (h1 : 1 ≤ n) (h5 : n ≤ 5) (hG : clo n G) (h : JW n G s i k b st) (hi : i < FC n) (hL : isL n G i = true) (hs : pc15 (sw n i) = s) : st.getD i 0 = wuF n G b i := by
  have h6 : n ≤ 6 := by omega
  by_cases c0 : i = 0
  · rw [c0, h.2.1, wuF_0 h1 h5]
  · have hl := isL_lst h1 h6 hi hL
    have a := h.2.2 i (by omega) hi hL
    refine Bst_uniq (Bst_cg (fun y => ?_) a) (wuF_Bst h1 h5 hG hi (by omega) hL)
    constructor
    · rintro ⟨yF, yL, yi, -⟩
      exact nr_dual2 h1 h6 hG yF (isL_lst h1 h6 yF yL) yi
    · intro hy
      obtain ⟨y1, y2⟩ := (nr_ok h1 h6 hG i hi hL).1 y hy
      have := nr0_pc h1 h6 hi hl hy
      exact ⟨by omega, y2, nr_dual h1 h6 hG hi hl hy, Or.inl (by omega)⟩
theorem take_mem {l : List Nat} {k t : Nat} (hk : k < l.length) (ht : l.getD k 0 = t) (c : Nat) : c ∈ l.take (k + 1) ↔ c ∈ l.take k ∨ c = t := by
  have e : l[k]? = some t := by
    rw [List.getElem?_eq_getElem hk]
    rw [List.getD_eq_getElem?_getD, List.getElem?_eq_getElem hk] at ht
    exact congrArg some ht
  rw [List.take_add_one, e, List.mem_append]
  show c ∈ l.take k ∨ c ∈ [t] ↔ _
  rw [List.mem_singleton]
theorem JW_step {n s i k t : Nat} {G : BitVec 64} {b : Bool} {st : List Int} (h1 : 1 ≤ n) (h5 : n ≤ 5) (hG : clo n G) (h : JW n G s i k b st) (hi : i < FC n) (hL : isL n G i = true) (hs : pc15 (sw n i) = s) (hk : k < (nr1 n G i).length) (ht : (nr1 n G i).getD k 0 = t) : JW n G s i (k + 1) b (st.set t (bstU b (st.getD t 0) (st.getD i 0))) := by
  have h6 : n ≤ 6 := by omega
  have f := FC_120 h1 h5
  have htm : t ∈ nr1 n G i := by rw [← ht]; exact getD_mem hk
  obtain ⟨t1, t2, t3, t4⟩ := nr1_pos h1 h6 hG hi hL htm
  have ea := JW_at h1 h5 hG h hi hL hs
  have hV := (wuF_in (b := b) h1 h5 hG hi hL).1
  obtain ⟨a1, a2, a3⟩ := h
  refine ⟨by rw [List.length_set]; exact a1, by rw [getD_set (by omega), if_neg (by omega)]; exact a2, fun c c0 cF cL => ?_⟩
  rw [getD_set (by omega)]
  by_cases e : t = c
  · subst e
    rw [if_pos rfl, ea]
    refine Bst_cg (fun y => ?_) (Bst_add (i := i) (a3 t c0 cF cL) hV)
    constructor
    · rintro (⟨y1, y2, y3, y4⟩ | e2)
      · refine ⟨y1, y2, y3, ?_⟩
        rcases y4 with q | q | ⟨q1, q2, q3⟩
        · exact Or.inl q
        · exact Or.inr (Or.inl q)
        · exact Or.inr (Or.inr ⟨q1, q2, (take_mem hk ht _).mpr (Or.inl q3)⟩)
      · subst e2
        exact ⟨hi, hL, htm, Or.inr (Or.inr ⟨hs, rfl, (take_mem hk ht _).mpr (Or.inr rfl)⟩)⟩
    · rintro ⟨y1, y2, y3, y4⟩
      rcases y4 with q | q | ⟨q1, q2, q3⟩
      · exact Or.inl ⟨y1, y2, y3, Or.inl q⟩
      · exact Or.inl ⟨y1, y2, y3, Or.inr (Or.inl q)⟩
      · exact Or.inr q2
  · rw [if_neg e]
    refine Bst_cg (fun y => ?_) (a3 c c0 cF cL)
    constructor
    · rintro ⟨y1, y2, y3, y4⟩
      refine ⟨y1, y2, y3, ?_⟩
      rcases y4 with q | q | ⟨q1, q2, q3⟩
      · exact Or.inl q
      · exact Or.inr (Or.inl q)
      · exact Or.inr (Or.inr ⟨q1, q2, (take_mem hk ht _).mpr (Or.inl q3)⟩)
    · rintro ⟨y1, y2, y3, y4⟩
      refine ⟨y1, y2, y3, ?_⟩
      rcases y4 with q | q | ⟨q1, q2, q3⟩
      · exact Or.inl q
      · exact Or.inr (Or.inl q)
      · exact Or.inr (Or.inr ⟨q1, q2, ((take_mem hk ht _).mp q3).resolve_right (fun z => e z.symm)⟩)
theorem EW_next {n s i : Nat} {G : BitVec 64} (y c : Nat) : EW n G s i (nr1 n G i).length y c ↔ EW n G s (i + 1) 0 y c := by
  unfold EW
  rw [List.take_length, List.take_zero]
  constructor
  · rintro ⟨y1, y2, y3, y4⟩
    refine ⟨y1, y2, y3, ?_⟩
    rcases y4 with q | q | ⟨q1, q2, q3⟩
    · exact Or.inl q
    · exact Or.inr (Or.inl ⟨q.1, by omega⟩)
    · exact Or.inr (Or.inl ⟨q1, by omega⟩)
  · rintro ⟨y1, y2, y3, y4⟩
    refine ⟨y1, y2, y3, ?_⟩
    rcases y4 with q | q | ⟨q1, q2, q3⟩
    · exact Or.inl q
    · by_cases e : y = i
      · subst e; exact Or.inr (Or.inr ⟨q.1, rfl, y3⟩)
      · exact Or.inr (Or.inl ⟨q.1, by omega⟩)
    · cases q3
theorem EW_skip {n s i : Nat} {G : BitVec 64} (h : ¬ (pc15 (sw n i) = s ∧ isL n G i = true)) (y c : Nat) : EW n G s i 0 y c ↔ EW n G s (i + 1) 0 y c := by
  unfold EW
  rw [List.take_zero, List.take_zero]
  constructor
  · rintro ⟨y1, y2, y3, y4⟩
    refine ⟨y1, y2, y3, ?_⟩
    rcases y4 with q | q | ⟨q1, q2, q3⟩
    · exact Or.inl q
    · exact Or.inr (Or.inl ⟨q.1, by omega⟩)
    · cases q3
  · rintro ⟨y1, y2, y3, y4⟩
    refine ⟨y1, y2, y3, ?_⟩
    rcases y4 with q | q | ⟨q1, q2, q3⟩
    · exact Or.inl q
    · by_cases e : y = i
      · subst e; exact absurd ⟨q.1, y2⟩ h
      · exact Or.inr (Or.inl ⟨q.1, by omega⟩)
    · cases q3
theorem EW_all {n s : Nat} {G : BitVec 64} (y c : Nat) : EW n G s (FC n) 0 y c ↔ EW n G (s + 1) 0 0 y c := by
  unfold EW
  rw [List.take_zero, List.take_zero]
  constructor
  · rintro ⟨y1, y2, y3, y4⟩
    refine ⟨y1, y2, y3, ?_⟩
    rcases y4 with q | q | ⟨q1, q2, q3⟩
    · exact Or.inl (by omega)
    · exact Or.inl (by omega)
    · cases q3
  · rintro ⟨y1, y2, y3, y4⟩
    refine ⟨y1, y2, y3, ?_⟩
    rcases y4 with q | q | ⟨q1, q2, q3⟩
    · by_cases e : pc15 (sw n y) < s
      · exact Or.inl e
      · exact Or.inr (Or.inl ⟨by omega, y1⟩)
    · omega
    · cases q3
theorem JW_end {n c : Nat} {G : BitVec 64} {b : Bool} {st : List Int} (h1 : 1 ≤ n) (h5 : n ≤ 5) (hG : clo n G) (h : JW n G (n * (n - 1) / 2 + 1) 0 0 b st) (hc : c < FC n) (hL : isL n G c = true) : st.getD c 0 = wuF n G b c := by
  have h6 : n ≤ 6 := by omega
  by_cases c0 : c = 0
  · rw [c0, h.2.1, wuF_0 h1 h5]
  · have hl := isL_lst h1 h6 hc hL
    refine Bst_uniq (Bst_cg (fun y => ?_) (h.2.2 c (by omega) hc hL)) (wuF_Bst h1 h5 hG hc (by omega) hL)
    constructor
    · rintro ⟨yF, yL, yi, -⟩
      exact nr_dual2 h1 h6 hG yF (isL_lst h1 h6 yF yL) yi
    · intro hy
      obtain ⟨y1, y2⟩ := (nr_ok h1 h6 hG c hc hL).1 y hy
      have := pcm_ok h1 h6 (show y < FC n by omega)
      exact ⟨by omega, y2, nr_dual h1 h6 hG hc hl hy, Or.inl (by omega)⟩
theorem JW_0 {n : Nat} {G : BitVec 64} {b : Bool} (f : FC n ≤ 120) : JW n G 0 0 0 b ((List.replicate 120 (-1)).set 0 0) := by
  refine ⟨by rw [List.length_set, List.length_replicate], rfl, fun c c0 cF cL => ?_⟩
  refine ⟨fun y ⟨_, _, _, q⟩ => ?_, Or.inl ⟨?_, fun y ⟨_, _, _, q⟩ => ?_⟩⟩
  · rcases q with q | q | ⟨q1, q2, q3⟩
    · omega
    · omega
    · cases q3
  · rw [getD_set (by rw [List.length_replicate]; omega), if_neg (by omega), List.getD_eq_getElem?_getD, List.getElem?_replicate, if_pos (by omega)]
    rfl
  · rcases q with q | q | ⟨q1, q2, q3⟩
    · omega
    · omega
    · cases q3
theorem tri_ed {n : Nat} (h5 : n ≤ 5) : Int.tdiv (w32 ((n * (n - 1) : Nat) : Int)) (w32 2) = ((n * (n - 1) / 2 : Nat) : Int) := by
  have hN : n * (n - 1) ≤ 20 := by
    rcases (show n = 0 ∨ n = 1 ∨ n = 2 ∨ n = 3 ∨ n = 4 ∨ n = 5 by omega) with e | e | e | e | e | e <;> subst e <;> decide
  exact w_div (b := 2) (by omega) (by decide)
theorem pc_epc (n i : Nat) : popI (BitVec.ofInt 64 (w32 ((sw n i : Nat) : Int))) = ((pc15 (sw n i) : Nat) : Int) := by rw [pop_NI (Nat.lt_trans (sw_31 n i) (by decide)), popN_pc]
theorem bst_t {r x : Int} (hx : 0 ≤ x) : bstU true r x = if r < x + 1 then x + 1 else r := by
  unfold bstU
  by_cases q : r < x + 1
  · rw [if_pos q, if_pos (Or.inr (by rw [if_pos rfl]; exact q))]
  · rw [if_neg q, if_neg (fun z => z.elim (fun z => by omega) (fun z => q (by rw [if_pos rfl] at z; exact z)))]
theorem bst_f {r x : Int} : bstU false r x = if r < 0 then x + 1 else if x + 1 < r then x + 1 else r := by
  unfold bstU
  by_cases q : r < 0
  · rw [if_pos q, if_pos (Or.inl q)]
  · rw [if_neg q]
    by_cases q2 : x + 1 < r
    · rw [if_pos q2, if_pos (Or.inr (by rw [if_neg (by decide)]; exact q2))]
    · rw [if_neg q2, if_neg (fun z => z.elim q (fun z => q2 (by rw [if_neg (by decide)] at z; exact z)))]
theorem JW_bd {n s i k : Nat} {G : BitVec 64} {b : Bool} {st : List Int} (h1 : 1 ≤ n) (h5 : n ≤ 5) (hG : clo n G) (h : JW n G s i k b st) {c : Nat} (c0 : 0 < c) (cF : c < FC n) (cL : isL n G c = true) : -1 ≤ st.getD c 0 ∧ st.getD c 0 ≤ 120 := Bst_in (h.2.2 c c0 cF cL) (fun y hy => (wuF_in h1 h5 hG hy.1 hy.2.1).2)
set_option maxHeartbeats 32000000 in
theorem m_cbK (d : Nat) {n s i : Nat} {G : BitVec 64} {li qu : List Int} (h1 : 1 ≤ n) (h5 : n ≤ 5) (hG : clo n G) (hi : i < FC n) (hL : isL n G i = true) (hs : pc15 (sw n i) = s) (hp : preN n li (nr1 n G i)) (hn6 : (nr1 n G i).length ≤ 6) (y1 y3 : Int) : ∀ (m k : Nat) (fa fe : List Int) (h : HP) (y6 : Option AV), k + m = (nr1 n G i).length → BW h n G li fa fe qu → JW n G s i k true fa → JW n G s i k false fe → ∃ h' fa' fe' y6', BW h' n G li fa' fe' qu ∧ Fr 68 72 h h' ∧ JW n G s i (nr1 n G i).length true fa' ∧ JW n G s i (nr1 n G i).length false fe' ∧ ∀ R : PO, AWh (d + 6) [] 242 R 58 [some (mR 54), some (mI y1), some (mI (i : Int)), some (mI y3), some (mI ((nr1 n G i).length : Int)), some (mI (k : Int)), y6] [] h (0, 0) ↔ AWk (d + 6) [] 242 R 127 (cd 242 127) [some (mR 54), some (mI y1), some (mI (i : Int)), some (mI y3), some (mI ((nr1 n G i).length : Int)), some (mI ((nr1 n G i).length : Int)), y6'] [] h' (0, 0) := by
  have h6 : n ≤ 6 := by omega
  have f := FC_120 h1 h5
  intro m
  induction m with
  | zero =>
    intro k fa fe h y6 hk w ja jb
    have e : k = (nr1 n G i).length := by omega
    subst e
    have bn : (nr1 n G i).length < 2147483648 := by omega
    refine ⟨h, fa, fe, y6, w, Fr_refl h, ja, jb, fun R => ?_⟩
    rw [AWh_k, k_X11_climbs_58]
    simp only [AW_k, AWk_1, x_iload_5, x_iload_4, x_icmp_ge, k_X11_climbs_58, k_X11_climbs_59, k_X11_climbs_60, oE_some, Int.reduceToNat, Nat.reduceAdd, true_and, and_true, List.length_cons, List.length_nil, Option.toList_some, Option.toList_none, List.cons_append, List.nil_append, Nat.reduceLeDiff, Nat.le_refl, wdS_nil, wdS_i, wdS_l, wdS_r, wdS_n, wdS_s, w32_nat bn, Int.lt_irrefl, ↓reduceIte]
    all_goals exact Iff.rfl
  | succ m ih =>
    intro k fa fe h y6 hk w ja jb
    have hkl : k < (nr1 n G i).length := by omega
    have bk : k < 2147483648 := by omega
    have bn : (nr1 n G i).length < 2147483648 := by omega
    have c0 : ((k : Int) < ((nr1 n G i).length : Int)) = True := eq_true (by omega)
    have ek : (k : Int) + 1 = ((k + 1 : Nat) : Int) := by omega
    obtain ⟨t, ht⟩ : ∃ t, (nr1 n G i).getD k 0 = t := ⟨_, rfl⟩
    have htm : t ∈ nr1 n G i := by rw [← ht]; exact getD_mem hkl
    obtain ⟨t1, t2, t3, t4⟩ := nr1_pos h1 h6 hG hi hL htm
    have el := hp k hkl
    rw [ht] at el
    have bi : i < 2147483648 := by omega
    have bt : t < 2147483648 := by omega
    have ra := JW_bd h1 h5 hG ja (show 0 < t by omega) t1 t2
    have rb := JW_bd h1 h5 hG jb (show 0 < t by omega) t1 t2
    have va := JW_at h1 h5 hG ja hi hL hs
    have vb := JW_at h1 h5 hG jb hi hL hs
    have ia := wuF_in (b := true) h1 h5 hG hi hL
    have ib := wuF_in (b := false) h1 h5 hG hi hL
    rw [← va] at ia
    rw [← vb] at ib
    have ja2 := JW_step h1 h5 hG ja hi hL hs hkl ht
    have jb2 := JW_step h1 h5 hG jb hi hL hs hkl ht
    have w0 := w
    obtain ⟨hA, ⟨b1, b2, b3, b4⟩, ⟨x1, x2, x3⟩, ⟨d1, d2, d3⟩, r1, r2, r3⟩ := w
    have hK := hA.1
    have cK := cM hK
    have il : inB (k : Int) li.length := by rw [b4]; exact inB_n (by omega) (by decide)
    have iai : inB (i : Int) fa.length := by rw [r1]; exact inB_n (by omega) (by decide)
    have iat : inB (t : Int) fa.length := by rw [r1]; exact inB_n (by omega) (by decide)
    have ibi : inB (i : Int) fe.length := by rw [r2]; exact inB_n (by omega) (by decide)
    have ibt : inB (t : Int) fe.length := by rw [r2]; exact inB_n (by omega) (by decide)
    have w1 := BW_69 (l := fa.set t (bstU true (fa.getD t 0) (fa.getD i 0))) w0 (by rw [List.length_set]; exact r1)
    have w2 := BW_70 (l := fe.set t (bstU false (fe.getD t 0) (fe.getD i 0))) w1 (by rw [List.length_set]; exact r2)
    obtain ⟨h', fa', fe', y6', z1, z2, z3, z4, z5⟩ := ih (k + 1) _ _ _ (some (mI (t : Int))) (by omega) w2 ja2 jb2
    refine ⟨h', fa', fe', y6', z1, Fr_trans (Fr_trans (Fr_pA (by omega) (by omega)) (Fr_pA (by omega) (by omega))) z2, z3, z4, fun R => Iff.trans ?_ (z5 R)⟩
    -- the two steps
    have g31 : ∀ l, gF (pA h 69 l) 54 11 31 = some (mR 70) := fun l => by rw [gF_pA, x2]
    have a70 : ∀ l, gA (pA h 69 l) 70 = some fe := fun l => by rw [gA_pA (by decide), d2]
    generalize hfi : fa.getD i 0 = fi at *
    generalize hft : fa.getD t 0 = ft at *
    generalize hei : fe.getD i 0 = ei at *
    generalize het : fe.getD t 0 = et at *
    have ua : bstU true ft fi = if ft < fi + 1 then fi + 1 else ft := bst_t ia.1
    have ub : bstU false et ei = if et < 0 then ei + 1 else if ei + 1 < et then ei + 1 else et := bst_f
    have o1 : -2147483648 ≤ fi + 1 ∧ fi + 1 < 2147483648 := by omega
    have o2 : -2147483648 ≤ ft ∧ ft < 2147483648 := by omega
    have o3 : -2147483648 ≤ ei + 1 ∧ ei + 1 < 2147483648 := by omega
    have o4 : -2147483648 ≤ et ∧ et < 2147483648 := by omega
    have q1 : w32 (fi + 1) = fi + 1 := w32_id o1.1 o1.2
    have q2 : w32 ft = ft := w32_id o2.1 o2.2
    have q3 : w32 (ei + 1) = ei + 1 := w32_id o3.1 o3.2
    have q4 : w32 et = et := w32_id o4.1 o4.2
    have st1 : AWh (d + 6) [] 242 R 58 [some (mR 54), some (mI y1), some (mI (i : Int)), some (mI y3), some (mI ((nr1 n G i).length : Int)), some (mI (k : Int)), y6] [] h (0, 0) ↔ AW (d + 6) [] 242 R 94 [some (mR 54), some (mI y1), some (mI (i : Int)), some (mI y3), some (mI ((nr1 n G i).length : Int)), some (mI (k : Int)), some (mI (t : Int))] [] (pA h 69 (fa.set t (bstU true ft fi))) (0, 0) := by
      rw [ua]
      refine Iff.trans AWh_k ?_
      rw [k_X11_climbs_58]
      by_cases q : ft < fi + 1
      · rw [if_pos q]
        simp only [AW_k, AWk_1, x_iload_5, x_iload_4, x_icmp_ge, x_aload_0, x_aloads_0, x_getf, x_iald, x_ialds, x_callv_2, x_istore_6, x_iload_6, x_iload_2, x_push_i, x_push_l, x_iadd, x_icmp_le, x_goto, x_iast, unl_i, unl_l, unl_q, unl_r, unl_s, unl_n, k_X11_climbs_58, k_X11_climbs_59, k_X11_climbs_60, k_X11_climbs_61, k_X11_climbs_62, k_X11_climbs_63, k_X11_climbs_64, k_X11_climbs_65, k_X11_climbs_66, k_X11_climbs_67, k_X11_climbs_68, k_X11_climbs_69, k_X11_climbs_70, k_X11_climbs_71, k_X11_climbs_72, k_X11_climbs_73, k_X11_climbs_74, k_X11_climbs_75, k_X11_climbs_76, k_X11_climbs_77, k_X11_climbs_78, k_X11_climbs_79, k_X11_climbs_80, k_X11_climbs_81, k_X11_climbs_82, k_X11_climbs_83, k_X11_climbs_84, k_X11_climbs_85, k_X11_climbs_86, k_X11_climbs_87, k_X11_climbs_88, k_X11_climbs_89, k_X11_climbs_90, k_X11_climbs_91, k_X11_climbs_92, k_X11_climbs_93, oE_some, Int.reduceToNat, Nat.reduceAdd, true_and, and_true, List.length_cons, List.length_nil, Option.toList_some, Option.toList_none, List.cons_append, List.nil_append, Nat.reduceLeDiff, Nat.le_refl, wdS_nil, wdS_i, wdS_l, wdS_r, wdS_n, wdS_s, w32_nat bk, w32_nat bn, c0, b2, b3, il, Int.toNat_natCast, el, cK, m_rank (d + 4) hK t1, x1, d1, iai, iat, w32_nat bi, w32_nat bt, hfi, hft, q1, q2, q, ↓reduceIte]
        all_goals exact Iff.rfl
      · rw [if_neg q]
        simp only [AW_k, AWk_1, x_iload_5, x_iload_4, x_icmp_ge, x_aload_0, x_aloads_0, x_getf, x_iald, x_ialds, x_callv_2, x_istore_6, x_iload_6, x_iload_2, x_push_i, x_push_l, x_iadd, x_icmp_le, x_goto, x_iast, unl_i, unl_l, unl_q, unl_r, unl_s, unl_n, k_X11_climbs_58, k_X11_climbs_59, k_X11_climbs_60, k_X11_climbs_61, k_X11_climbs_62, k_X11_climbs_63, k_X11_climbs_64, k_X11_climbs_65, k_X11_climbs_66, k_X11_climbs_67, k_X11_climbs_68, k_X11_climbs_69, k_X11_climbs_70, k_X11_climbs_71, k_X11_climbs_72, k_X11_climbs_73, k_X11_climbs_74, k_X11_climbs_75, k_X11_climbs_76, k_X11_climbs_77, k_X11_climbs_78, k_X11_climbs_79, k_X11_climbs_80, k_X11_climbs_81, k_X11_climbs_82, k_X11_climbs_83, k_X11_climbs_84, k_X11_climbs_85, k_X11_climbs_86, k_X11_climbs_87, k_X11_climbs_88, k_X11_climbs_89, k_X11_climbs_90, k_X11_climbs_91, k_X11_climbs_92, k_X11_climbs_93, oE_some, Int.reduceToNat, Nat.reduceAdd, true_and, and_true, List.length_cons, List.length_nil, Option.toList_some, Option.toList_none, List.cons_append, List.nil_append, Nat.reduceLeDiff, Nat.le_refl, wdS_nil, wdS_i, wdS_l, wdS_r, wdS_n, wdS_s, w32_nat bk, w32_nat bn, c0, b2, b3, il, Int.toNat_natCast, el, cK, m_rank (d + 4) hK t1, x1, d1, iai, iat, w32_nat bi, w32_nat bt, hfi, hft, q1, q2, q, ↓reduceIte]
        all_goals exact Iff.rfl
    refine st1.trans ?_
    rw [ub]
    by_cases p1 : et < 0
    · rw [if_pos p1]
      simp only [AW_k, AWk_1, x_iload_5, x_aload_0, x_aloads_0, x_getf, x_iload_6, x_iald, x_ialds, x_if_lt, x_iload_2, x_push_i, x_push_l, x_iadd, x_icmp_ge, x_goto, x_iast, x_iinc_5, unl_i, unl_l, unl_q, unl_r, unl_s, unl_n, k_X11_climbs_58, k_X11_climbs_94, k_X11_climbs_95, k_X11_climbs_96, k_X11_climbs_97, k_X11_climbs_98, k_X11_climbs_99, k_X11_climbs_100, k_X11_climbs_101, k_X11_climbs_102, k_X11_climbs_103, k_X11_climbs_104, k_X11_climbs_105, k_X11_climbs_106, k_X11_climbs_107, k_X11_climbs_108, k_X11_climbs_109, k_X11_climbs_110, k_X11_climbs_111, k_X11_climbs_112, k_X11_climbs_113, k_X11_climbs_114, k_X11_climbs_115, k_X11_climbs_116, k_X11_climbs_117, k_X11_climbs_118, k_X11_climbs_119, k_X11_climbs_120, k_X11_climbs_121, k_X11_climbs_122, k_X11_climbs_123, k_X11_climbs_124, k_X11_climbs_125, k_X11_climbs_126, oE_some, Int.reduceToNat, Nat.reduceAdd, true_and, and_true, List.length_cons, List.length_nil, Option.toList_some, Option.toList_none, List.cons_append, List.nil_append, Nat.reduceLeDiff, Nat.le_refl, wdS_nil, wdS_i, wdS_l, wdS_r, wdS_n, wdS_s, g31, a70, ibi, ibt, w32_nat bi, w32_nat bt, Int.toNat_natCast, hei, het, q3, q4, p1, ek, ↓reduceIte]
    · rw [if_neg p1]
      by_cases p2 : ei + 1 < et
      · rw [if_pos p2]
        simp only [AW_k, AWk_1, x_iload_5, x_aload_0, x_aloads_0, x_getf, x_iload_6, x_iald, x_ialds, x_if_lt, x_iload_2, x_push_i, x_push_l, x_iadd, x_icmp_ge, x_goto, x_iast, x_iinc_5, unl_i, unl_l, unl_q, unl_r, unl_s, unl_n, k_X11_climbs_58, k_X11_climbs_94, k_X11_climbs_95, k_X11_climbs_96, k_X11_climbs_97, k_X11_climbs_98, k_X11_climbs_99, k_X11_climbs_100, k_X11_climbs_101, k_X11_climbs_102, k_X11_climbs_103, k_X11_climbs_104, k_X11_climbs_105, k_X11_climbs_106, k_X11_climbs_107, k_X11_climbs_108, k_X11_climbs_109, k_X11_climbs_110, k_X11_climbs_111, k_X11_climbs_112, k_X11_climbs_113, k_X11_climbs_114, k_X11_climbs_115, k_X11_climbs_116, k_X11_climbs_117, k_X11_climbs_118, k_X11_climbs_119, k_X11_climbs_120, k_X11_climbs_121, k_X11_climbs_122, k_X11_climbs_123, k_X11_climbs_124, k_X11_climbs_125, k_X11_climbs_126, oE_some, Int.reduceToNat, Nat.reduceAdd, true_and, and_true, List.length_cons, List.length_nil, Option.toList_some, Option.toList_none, List.cons_append, List.nil_append, Nat.reduceLeDiff, Nat.le_refl, wdS_nil, wdS_i, wdS_l, wdS_r, wdS_n, wdS_s, g31, a70, ibi, ibt, w32_nat bi, w32_nat bt, Int.toNat_natCast, hei, het, q3, q4, p1, p2, ek, ↓reduceIte]
      · rw [if_neg p2]
        simp only [AW_k, AWk_1, x_iload_5, x_aload_0, x_aloads_0, x_getf, x_iload_6, x_iald, x_ialds, x_if_lt, x_iload_2, x_push_i, x_push_l, x_iadd, x_icmp_ge, x_goto, x_iast, x_iinc_5, unl_i, unl_l, unl_q, unl_r, unl_s, unl_n, k_X11_climbs_58, k_X11_climbs_94, k_X11_climbs_95, k_X11_climbs_96, k_X11_climbs_97, k_X11_climbs_98, k_X11_climbs_99, k_X11_climbs_100, k_X11_climbs_101, k_X11_climbs_102, k_X11_climbs_103, k_X11_climbs_104, k_X11_climbs_105, k_X11_climbs_106, k_X11_climbs_107, k_X11_climbs_108, k_X11_climbs_109, k_X11_climbs_110, k_X11_climbs_111, k_X11_climbs_112, k_X11_climbs_113, k_X11_climbs_114, k_X11_climbs_115, k_X11_climbs_116, k_X11_climbs_117, k_X11_climbs_118, k_X11_climbs_119, k_X11_climbs_120, k_X11_climbs_121, k_X11_climbs_122, k_X11_climbs_123, k_X11_climbs_124, k_X11_climbs_125, k_X11_climbs_126, oE_some, Int.reduceToNat, Nat.reduceAdd, true_and, and_true, List.length_cons, List.length_nil, Option.toList_some, Option.toList_none, List.cons_append, List.nil_append, Nat.reduceLeDiff, Nat.le_refl, wdS_nil, wdS_i, wdS_l, wdS_r, wdS_n, wdS_s, g31, a70, ibi, ibt, w32_nat bi, w32_nat bt, Int.toNat_natCast, hei, het, q3, q4, p1, p2, ek, ↓reduceIte]
