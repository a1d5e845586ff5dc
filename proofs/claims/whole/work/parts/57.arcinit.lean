/-! ===== the class's arcs are made ===== -/
theorem get_pre {h0 t : HP} {k : Nat} : (h0 ++ t)[h0.length + k]? = t[k]? := by
  rw [List.getElem?_append_right (by omega)]
  congr 1; omega
theorem get_pre0 {h0 t : HP} : (h0 ++ t)[h0.length]? = t[0]? := get_pre (k := 0)
theorem gF_pre {h0 t : HP} {k c f : Nat} : gF (h0 ++ t) (h0.length + k) c f = gF t k c f := by unfold gF; rw [get_pre]
theorem gF_pre0 {h0 t : HP} {c f : Nat} : gF (h0 ++ t) h0.length c f = gF t 0 c f := gF_pre (k := 0)
theorem gC_pre {h0 t : HP} {k : Nat} : gC (h0 ++ t) (h0.length + k) = gC t k := by unfold gC; rw [get_pre]
theorem gC_pre0 {h0 t : HP} : gC (h0 ++ t) h0.length = gC t 0 := gC_pre (k := 0)
theorem gA_pre {h0 t : HP} {k : Nat} : gA (h0 ++ t) (h0.length + k) = gA t k := by unfold gA; rw [get_pre]
theorem gJ_pre {h0 t : HP} {k : Nat} : gJ (h0 ++ t) (h0.length + k) = gJ t k := by unfold gJ; rw [get_pre]
theorem gQ_pre {h0 t : HP} {k u : Nat} : gQ (h0 ++ t) (h0.length + k) u = gQ t k u := by unfold gQ; rw [get_pre]
theorem set_pre {h0 t : HP} {k : Nat} {x : AC} : (h0 ++ t).set (h0.length + k) x = h0 ++ t.set k x := by
  rw [List.set_append_right _ _ (by omega)]
  congr 2; omega
theorem pF_pre {h0 t : HP} {k c f : Nat} {v : AV} : pF (h0 ++ t) (h0.length + k) c f v = h0 ++ pF t k c f v := by
  unfold pF
  rw [get_pre]
  split
  · split
    · rw [set_pre]
    · rfl
  · rfl
theorem pF_pre0 {h0 t : HP} {c f : Nat} {v : AV} : pF (h0 ++ t) h0.length c f v = h0 ++ pF t 0 c f v := pF_pre (k := 0)
theorem pF_0 {t : HP} {c f : Nat} {v : AV} {fs : List AV} : pF (.inl (c, fs) :: t) 0 c f v = .inl (c, fs.set f v) :: t := by
  show (if c = c then _ else _) = _
  rw [if_pos rfl]
  rfl
theorem gF_0 {t : HP} {c f : Nat} {fs : List AV} : gF (.inl (c, fs) :: t) 0 c f = fs[f]? := by
  show (if c = c then fs[f]? else none) = _
  rw [if_pos rfl]
theorem len_pre {h0 t : HP} : (h0 ++ t).length = h0.length + t.length := List.length_append
/-- an array's cell -/
theorem cell_A {h : HP} {a : Nat} {l : List Int} (e : gA h a = some l) : h[a]? = some (.inr (.inl (0, l))) := by
  unfold gA at e
  split at e
  · next l2 q => cases e; exact q
  · cases e
theorem cell_J {h : HP} {a : Nat} {l : List (BitVec 64)} (e : gJ h a = some l) : h[a]? = some (.inr (.inr (.inl l))) := by
  unfold gJ at e
  split at e
  · next l2 q => cases e; exact q
  · cases e
/-- what lies ahead is as it was -/
def Kp (hp h : HP) : Prop := ∀ k, k < hp.length → h[k]? = hp[k]?
theorem all_k : all6 (fun n => decide (1#64 <<< NA n - 1#64 = aL n) && decide (iShl 1 (n : Int) - (n : Int) - 1 = ((NA n : Nat) : Int)) && decide (stB (fun x => decide (popI (FO n x) = 1)) (NA n) = iL n)) = true := by decide +kernel
theorem all_n {n : Nat} (h1 : 1 ≤ n) (h6 : n ≤ 6) : 1#64 <<< NA n - 1#64 = aL n ∧ iShl 1 (n : Int) - (n : Int) - 1 = ((NA n : Nat) : Int) ∧ stB (fun x => decide (popI (FO n x) = 1)) (NA n) = iL n := by
  have := all6_of all_k h1 h6
  simp only [Bool.and_eq_true, decide_eq_true_eq] at this
  exact ⟨this.1.1, this.1.2, this.2⟩
/-- the cells of new arcs -/
def arT (n a : Nat) : HP := [.inl (1, [mI (n : Int), mI ((NA n : Nat) : Int), mL (aL n), mR (a + 2), mR (a + 3), mR (a + 4), mR (a + 5), mR (a + 6), mR (a + 7), mR (a + 8), mR (a + 1), mL 0#64]), .inr (.inl (0, List.replicate 49 0)), .inr (.inl (0, List.replicate (NA n) 0)), .inr (.inl (0, List.replicate (NA n) 0)), .inr (.inl (0, List.replicate (NA n) 0)), .inr (.inl (0, List.replicate (NA n) 0)), .inr (.inl (0, List.replicate (NA n) 0)), .inr (.inr (.inl (List.replicate (NA n) 0#64))), .inr (.inr (.inl (List.replicate (NA n) 0#64)))]
set_option maxHeartbeats 32000000 in
theorem c1_init_a (d : Nat) {h0 : HP} {n : Nat} (h1 : 1 ≤ n) (h6 : n ≤ 6) : ∃ B : BU, ∀ R : PO, callD (d + 1) 8 [mR h0.length, mI (n : Int)] (h0 ++ [.inl (1, (fKs.getD 1 []).map born1)]) R ↔ AW d [] 8 R 62 [some (mR h0.length), some (mI (n : Int)), none, none, none] [mR h0.length] (h0 ++ arT n h0.length) B := by
  obtain ⟨k1, k2, k3⟩ := all_n h1 h6
  have fN := NA_le n
  have i0 : (0 : Int) ≤ ((NA n : Nat) : Int) := by omega
  have i5 : ((NA n : Nat) : Int) ≤ 5000 := by omega
  have b0 : NA n ≤ 399 := by omega
  have b1 : NA n ≤ 399 - NA n := by omega
  have b2 : NA n ≤ 399 - NA n - NA n := by omega
  have b3 : NA n ≤ 399 - NA n - NA n - NA n := by omega
  have b4 : NA n ≤ 399 - NA n - NA n - NA n - NA n := by omega
  have b5 : NA n ≤ 399 - NA n - NA n - NA n - NA n - NA n := by omega
  have b6 : NA n ≤ 399 - NA n - NA n - NA n - NA n - NA n - NA n := by omega
  have b64 : NA n < 64 := by omega
  have e64 : (((NA n : Nat) : Int) % 64).toNat = NA n := by omega
  have eb : (fKs.getD 1 []).map born1 = [mI 0, mI 0, mL 0#64, mN, mN, mN, mN, mN, mN, mN, mN, mL 0#64] := rfl
  rw [eb]
  refine ⟨(0, 399 - NA n - NA n - NA n - NA n - NA n - NA n - NA n), fun R => ?_⟩
  rw [callD_k]; simp only [entL_i, entL_l, entL_q, entL_s, entL_nil, n_X1_init, u_X1_init, m_X1_init, rep_3, List.cons_append, List.nil_append, List.append_nil, List.length_cons, List.length_nil, Nat.reduceAdd, true_and]
  simp only [AW_k, AWk_1, x_aload_0, x_aloads_0, x_oinit, x_push_i, x_push_l, x_newa_i, x_newa_z, x_newa_l, x_putf_r, x_iload_1, x_putf_i, x_ishl, x_isub, x_getf, x_lshl, x_lsub, x_putf_l, k_X1_init_0, k_X1_init_1, k_X1_init_2, k_X1_init_3, k_X1_init_4, k_X1_init_5, k_X1_init_6, k_X1_init_7, k_X1_init_8, k_X1_init_9, k_X1_init_10, k_X1_init_11, k_X1_init_12, k_X1_init_13, k_X1_init_14, k_X1_init_15, k_X1_init_16, k_X1_init_17, k_X1_init_18, k_X1_init_19, k_X1_init_20, k_X1_init_21, k_X1_init_22, k_X1_init_23, k_X1_init_24, k_X1_init_25, k_X1_init_26, k_X1_init_27, k_X1_init_28, k_X1_init_29, k_X1_init_30, k_X1_init_31, k_X1_init_32, k_X1_init_33, k_X1_init_34, k_X1_init_35, k_X1_init_36, k_X1_init_37, k_X1_init_38, k_X1_init_39, k_X1_init_40, k_X1_init_41, k_X1_init_42, k_X1_init_43, k_X1_init_44, k_X1_init_45, k_X1_init_46, k_X1_init_47, k_X1_init_48, k_X1_init_49, k_X1_init_50, k_X1_init_51, k_X1_init_52, k_X1_init_53, k_X1_init_54, k_X1_init_55, k_X1_init_56, k_X1_init_57, k_X1_init_58, k_X1_init_59, k_X1_init_60, k_X1_init_61, oE_some, Int.reduceToNat, Nat.reduceAdd, true_and, and_true, List.length_cons, List.length_nil, Option.toList_some, Option.toList_none, List.cons_append, List.nil_append, Nat.reduceLeDiff, Nat.le_refl, wdS_nil, wdS_i, wdS_l, wdS_r, wdS_n, wdS_s, k1, k2, e64, i0, i5, b0, b1, b2, b3, b4, b5, b6, w32_nat (NA_31 n), Int.toNat_natCast, show w32 49 = 49 from rfl, Int.reduceLE, Nat.reduceSub, List.append_assoc, len_pre, gF_pre, gF_pre0, gF_0, pF_pre, pF_pre0, pF_0, List.set_cons_zero, List.set_cons_succ, List.getElem?_cons_zero, List.getElem?_cons_succ, Nat.zero_add, and_self]
  exact Iff.rfl
/-- the arcs' cells, made -/
def arC (n a : Nat) : HP := [.inl (1, [mI (n : Int), mI ((NA n : Nat) : Int), mL (aL n), mR (a + 2), mR (a + 3), mR (a + 4), mR (a + 5), mR (a + 6), mR (a + 7), mR (a + 8), mR (a + 1), mL (iL n)]), .inr (.inl (0, tI (fi n) 49)), .inr (.inl (0, tI (lo n) (NA n))), .inr (.inl (0, tI (hi n) (NA n))), .inr (.inl (0, tI (lf n) (NA n))), .inr (.inl (0, tI (lc n) (NA n))), .inr (.inl (0, tI (rc n) (NA n))), .inr (.inr (.inl (tJ (fo n) (NA n)))), .inr (.inr (.inl (tJ (fg n) (NA n))))]
set_option maxHeartbeats 32000000 in
theorem c1_alone (d : Nat) {a n : Nat} {h : HP} {B : BU} {A C : List (BitVec 64)} (h1 : 1 ≤ n) (h6 : n ≤ 6) (hR : RAP h a n (tJ (fo n) (NA n)) C) (R : PO) : (AW (d + 1) [] 8 R 65 [some (mR a), some (mI (n : Int)), none, none, none] [] h B ↔ AWk (d + 1) [] 8 R 90 (cd 8 90) [some (mR a), some (mI (n : Int)), some (mL (iL n)), none, some (mI ((NA n : Nat) : Int))] [] h B) := by
  obtain ⟨-, -, k3⟩ := all_n h1 h6
  have fN := NA_le n
  have a1 := hR.1.1
  have a5 := hR.1.2.2.2.2.1
  have b4 := hR.2.2.2.2.1
  simp only [AW_k, AWk_1, x_push_i, x_push_l, x_lstore_2, x_istore_4, unl_i, unl_l, unl_q, unl_r, unl_s, unl_n, k_X1_init_65, k_X1_init_66, k_X1_init_67, k_X1_init_68, oE_some, Int.reduceToNat, Nat.reduceAdd, true_and, and_true, List.length_cons, List.length_nil, Option.toList_some, Option.toList_none, List.cons_append, List.nil_append, Nat.reduceLeDiff, Nat.le_refl, wdS_nil, wdS_i, wdS_l, wdS_r, wdS_n, wdS_s]
  refine (loop_to (P := fun x => AWh (d + 1) [] 8 R 69 [some (mR a), some (mI (n : Int)), some (mL (stB (fun x => decide (popI (FO n x) = 1)) x)), none, some (mI (x : Int))] [] h B) (a := 0) (b := NA n) (Nat.zero_le _) ?_).trans ?_
  · intro x _ hx
    have bx : x < 2147483648 := by omega
    have cx : (x : Int) < ((NA n : Nat) : Int) := by omega
    have x64 : x < 64 := by omega
    have pb := cnt_in (fun k => (FO n x).getLsbD k) 64
    have r1 : -2147483648 ≤ popI (FO n x) := by unfold popI; omega
    have r2 : popI (FO n x) < 2147483648 := by unfold popI; omega
    rw [AWh_k, k_X1_init_69]
    simp only [AW_k, AWk_1, x_iload_4, x_aload_0, x_aloads_0, x_getf, x_icmp_ge, x_lload_2, x_lald, x_call_1, x_push_i, x_push_l, x_icmp_ne, x_lshl, x_goto, x_lor, x_lstore_2, x_iinc_4, unl_i, unl_l, unl_q, unl_r, unl_s, unl_n, k_X1_init_69, k_X1_init_70, k_X1_init_71, k_X1_init_72, k_X1_init_73, k_X1_init_74, k_X1_init_75, k_X1_init_76, k_X1_init_77, k_X1_init_78, k_X1_init_79, k_X1_init_80, k_X1_init_81, k_X1_init_82, k_X1_init_83, k_X1_init_84, k_X1_init_85, k_X1_init_86, k_X1_init_87, k_X1_init_88, k_X1_init_89, oE_some, Int.reduceToNat, Nat.reduceAdd, true_and, and_true, List.length_cons, List.length_nil, Option.toList_some, Option.toList_none, List.cons_append, List.nil_append, Nat.reduceLeDiff, Nat.le_refl, wdS_nil, wdS_i, wdS_l, wdS_r, wdS_n, wdS_s, a1, a5, b4, bJ rfl hx (NA_31 n), gJt rfl hx (NA_31 n), c_bits d, FO_j, sh_k x64]
    rw [w32_nat bx, w32_nat (NA_31 n), if_pos cx, w32_id r1 r2, show w32 1 = 1 from rfl]
    simp only [stB_succ]
    by_cases e : popI (FO n x) = 1
    · rw [if_pos e, decide_eq_true e]; exact Iff.rfl
    · rw [if_neg e, decide_eq_false e]; exact Iff.rfl
  · rw [k3]
    rw [AWh_k, k_X1_init_69]
    simp only [AW_k, AWk_1, x_iload_4, x_aload_0, x_aloads_0, x_getf, x_icmp_ge, x_lload_2, x_lald, x_call_1, x_push_i, x_push_l, x_icmp_ne, x_lshl, x_goto, x_lor, x_lstore_2, x_iinc_4, unl_i, unl_l, unl_q, unl_r, unl_s, unl_n, k_X1_init_69, k_X1_init_70, k_X1_init_71, k_X1_init_72, k_X1_init_73, k_X1_init_74, k_X1_init_75, k_X1_init_76, k_X1_init_77, k_X1_init_78, k_X1_init_79, k_X1_init_80, k_X1_init_81, k_X1_init_82, k_X1_init_83, k_X1_init_84, k_X1_init_85, k_X1_init_86, k_X1_init_87, k_X1_init_88, k_X1_init_89, oE_some, Int.reduceToNat, Nat.reduceAdd, true_and, and_true, List.length_cons, List.length_nil, Option.toList_some, Option.toList_none, List.cons_append, List.nil_append, Nat.reduceLeDiff, Nat.le_refl, wdS_nil, wdS_i, wdS_l, wdS_r, wdS_n, wdS_s, a1]
    rw [if_neg (Int.lt_irrefl _)]
set_option maxHeartbeats 32000000 in
theorem c1_init (d : Nat) {h0 : HP} {n : Nat} (h1 : 1 ≤ n) (h6 : n ≤ 6) : ∃ h', Kp h0 h' ∧ h'.length = h0.length + 9 ∧ (∀ k, k < 9 → h'[h0.length + k]? = (arC n h0.length)[k]?) ∧ ∀ R : PO, callD (d + 4) 8 [mR h0.length, mI (n : Int)] (h0 ++ [.inl (1, (fKs.getD 1 []).map born1)]) R ↔ R none h' := by
  obtain ⟨B, p0⟩ := c1_init_a (d + 3) (h0 := h0) h1 h6
  have hN : NAP (h0 ++ arT n h0.length) h0.length n (List.replicate 49 0) (List.replicate (NA n) 0) (List.replicate (NA n) 0) (List.replicate (NA n) 0) (List.replicate (NA n) 0) (List.replicate (NA n) 0) := ⟨⟨by rw [gF_pre0]; rfl, by rw [gF_pre0]; rfl, by rw [gF_pre0]; rfl, by rw [gF_pre0]; rfl, by rw [gF_pre0]; rfl, by rw [gF_pre0]; rfl, by rw [gF_pre0]; rfl⟩, by rw [gA_pre]; rfl, by rw [gA_pre]; rfl, by rw [gA_pre]; rfl, by rw [gA_pre]; rfl, by rw [gA_pre]; rfl, by rw [gA_pre]; rfl⟩
  have o0 : (h0 ++ arT n h0.length)[h0.length]? = (arT n h0.length)[0]? := get_pre0
  have k0 : gC (h0 ++ arT n h0.length) h0.length = some 1 := by rw [gC_pre0]; rfl
  have j7 : gJ (h0 ++ arT n h0.length) (h0.length + 7) = some (List.replicate (NA n) 0#64) := by rw [gJ_pre]; rfl
  have j8 : gJ (h0 ++ arT n h0.length) (h0.length + 8) = some (List.replicate (NA n) 0#64) := by rw [gJ_pre]; rfl
  have hlen : (h0 ++ arT n h0.length).length = h0.length + 9 := by rw [List.length_append]; rfl
  have hk0 : ∀ k, k < h0.length → (h0 ++ arT n h0.length)[k]? = h0[k]? := fun k hk => List.getElem?_append_left hk
  generalize h0 ++ arT n h0.length = h at p0 hN o0 k0 j7 j8 hlen hk0
  generalize ha : h0.length = a at *
  obtain ⟨h2, n2, f2, p2⟩ := c1_numberArcs (d + 1) h1 h6 hN
  have o2 : h2[a]? = (arT n a)[0]? := by rw [f2.2 a (by omega), o0]
  have g2 : ∀ k, gF h2 a 1 k = ([mI (n : Int), mI ((NA n : Nat) : Int), mL (aL n), mR (a + 2), mR (a + 3), mR (a + 4), mR (a + 5), mR (a + 6), mR (a + 7), mR (a + 8), mR (a + 1), mL 0#64] : List AV)[k]? := by
    intro k
    unfold gF
    rw [o2]
    rfl
  have r2 : RAP h2 a n (List.replicate (NA n) 0#64) (List.replicate (NA n) 0#64) := ⟨⟨g2 1, g2 3, g2 4, g2 5, g2 8, g2 9⟩, n2.2.2.1, n2.2.2.2.1, n2.2.2.2.2.1, by rw [gJ_Fr f2 (by omega), j7], by rw [gJ_Fr f2 (by omega), j8]⟩
  obtain ⟨h3, r3, f3, p3⟩ := c1_relateArcs (d + 1) h1 h6 r2
  have o3 : h3[a]? = (arT n a)[0]? := by rw [f3.2 a (by omega), o2]
  have al := fun R => c1_alone (d + 2) (B := B) (A := []) h1 h6 r3 R
  have g3 : gF h3 a 1 11 = some (mL 0#64) := by
    unfold gF
    rw [o3]
    rfl
  have al3 : a < h3.length := by rw [f3.1, f2.1, hlen]; omega
  have hfin : pF h3 a 1 11 (mL (iL n)) = h3.set a (.inl (1, [mI (n : Int), mI ((NA n : Nat) : Int), mL (aL n), mR (a + 2), mR (a + 3), mR (a + 4), mR (a + 5), mR (a + 6), mR (a + 7), mR (a + 8), mR (a + 1), mL (iL n)])) := by
    unfold pF
    rw [o3]
    rfl
  refine ⟨pF h3 a 1 11 (mL (iL n)), ?_, ?_, ?_, fun R => ?_⟩
  · intro k hk
    rw [hfin, List.getElem?_set_ne (by omega), f3.2 k (by omega), f2.2 k (by omega), hk0 k (by omega)]
  · rw [len_pF, f3.1, f2.1, hlen]
  · intro k hk
    rw [hfin]
    rcases (show k = 0 ∨ k = 1 ∨ k = 2 ∨ k = 3 ∨ k = 4 ∨ k = 5 ∨ k = 6 ∨ k = 7 ∨ k = 8 by omega) with e | e | e | e | e | e | e | e | e <;> subst e
    · exact List.getElem?_set_self al3
    · rw [List.getElem?_set_ne (by omega), f3.2 _ (by omega), cell_A n2.2.1]; rfl
    · rw [List.getElem?_set_ne (by omega), f3.2 _ (by omega), cell_A n2.2.2.1]; rfl
    · rw [List.getElem?_set_ne (by omega), f3.2 _ (by omega), cell_A n2.2.2.2.1]; rfl
    · rw [List.getElem?_set_ne (by omega), f3.2 _ (by omega), cell_A n2.2.2.2.2.1]; rfl
    · rw [List.getElem?_set_ne (by omega), f3.2 _ (by omega), cell_A n2.2.2.2.2.2.1]; rfl
    · rw [List.getElem?_set_ne (by omega), f3.2 _ (by omega), cell_A n2.2.2.2.2.2.2]; rfl
    · rw [List.getElem?_set_ne (by omega), cell_J r3.2.2.2.2.1]; rfl
    · rw [List.getElem?_set_ne (by omega), cell_J r3.2.2.2.2.2]; rfl
  · refine (p0 R).trans ?_
    simp only [AW_k, AWk_1, x_callv_1, x_aload_0, x_aloads_0, k_X1_init_62, k_X1_init_63, k_X1_init_64, oE_some, Int.reduceToNat, Nat.reduceAdd, true_and, and_true, List.length_cons, List.length_nil, Option.toList_some, Option.toList_none, List.cons_append, List.nil_append, Nat.reduceLeDiff, Nat.le_refl, wdS_nil, wdS_i, wdS_l, wdS_r, wdS_n, wdS_s, k0, p2, gC_of (g2 1), p3]
    refine Iff.trans ?_ ((al R).trans ?_)
    · exact AW_k.symm
    · simp only [AW_k, AWk_1, x_aload_0, x_aloads_0, x_lload_2, x_putf_l, x_ret, x_ret_i, x_ret_z, x_ret_l, x_ret_c, k_X1_init_90, k_X1_init_91, k_X1_init_92, k_X1_init_93, oE_some, Int.reduceToNat, Nat.reduceAdd, true_and, and_true, List.length_cons, List.length_nil, Option.toList_some, Option.toList_none, List.cons_append, List.nil_append, Nat.reduceLeDiff, Nat.le_refl, wdS_nil, wdS_i, wdS_l, wdS_r, wdS_n, wdS_s, g3]
