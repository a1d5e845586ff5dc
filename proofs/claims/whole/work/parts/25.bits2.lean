/-! ===== how many bits: the JDK's two methods ===== -/
theorem b6_1 {a : Nat} (h : a < 2147483648) : iAnd (iUshr (a : Int) 1) 1431655765 = ((a / 2 &&& 1431655765 : Nat) : Int) := by
  have u : iUshr (a : Int) 1 = ((a / 2 : Nat) : Int) := iUshr_nat (k := 1) h (by decide)
  rw [u]
  exact iAnd_nat (b := 1431655765) (Nat.lt_of_le_of_lt (Nat.div_le_self _ _) h) (by decide)
theorem b6_2 {a : Nat} (h : a < 2147483648) : iAnd (a : Int) 858993459 = ((a &&& 858993459 : Nat) : Int) := iAnd_nat (b := 858993459) h (by decide)
theorem b6_3 {a : Nat} (h : a < 2147483648) : iAnd (iUshr (a : Int) 2) 858993459 = ((a / 4 &&& 858993459 : Nat) : Int) := by
  have u : iUshr (a : Int) 2 = ((a / 4 : Nat) : Int) := iUshr_nat (k := 2) h (by decide)
  rw [u]
  exact iAnd_nat (b := 858993459) (Nat.lt_of_le_of_lt (Nat.div_le_self _ _) h) (by decide)
theorem b6_4 {a : Nat} (h : a < 1800000000) : iAnd ((a : Int) + iUshr (a : Int) 4) 252645135 = ((a + a / 16 &&& 252645135 : Nat) : Int) := by
  have u : iUshr (a : Int) 4 = ((a / 16 : Nat) : Int) := iUshr_nat (k := 4) (by omega) (by decide)
  rw [u]
  exact iAnd_nat (a := a + a / 16) (b := 252645135) (by omega) (by decide)
theorem b6_5 {a : Nat} (h : a < 2147483648) : (a : Int) + iUshr (a : Int) 8 = ((a + a / 256 : Nat) : Int) := by
  have u : iUshr (a : Int) 8 = ((a / 256 : Nat) : Int) := iUshr_nat (k := 8) h (by decide)
  rw [u]; rfl
theorem b6_6 {a : Nat} (h : a < 2147483648) : (a : Int) + iUshr (a : Int) 16 = ((a + a / 65536 : Nat) : Int) := by
  have u : iUshr (a : Int) 16 = ((a / 65536 : Nat) : Int) := iUshr_nat (k := 16) h (by decide)
  rw [u]; rfl
theorem b6_7 {a : Nat} (h : a < 2147483648) : iAnd (a : Int) 63 = ((a % 64 : Nat) : Int) := by
  have v : iAnd (a : Int) 63 = ((a &&& 63 : Nat) : Int) := iAnd_nat (b := 63) h (by decide)
  have v2 : (a &&& 63) = a % 64 := Nat.and_two_pow_sub_one_eq_mod _ 6
  rw [v, v2]
theorem i_sub {a b : Nat} (h : b ≤ a) : (a : Int) - (b : Int) = ((a - b : Nat) : Int) := by omega
theorem and_add {a b : Nat} : (a &&& 858993459) + (b &&& 858993459) < 1800000000 := by
  have h1 := @Nat.and_le_right a 858993459
  have h2 := @Nat.and_le_right b 858993459
  omega
theorem b6_8 {y3 : Nat} (h : y3 < 600000000) : y3 + y3 / 256 < 700000000 := by omega
theorem b6_9 {y3 : Nat} (h : y3 < 700000000) : y3 + y3 / 65536 < 2147483648 := by omega
theorem b6_10 {c0 c1 c2 c3 : Nat} (q0 : c0 ≤ 8) (q1 : c1 ≤ 8) (q2 : c2 ≤ 8) (q3 : c3 ≤ 8) : c0 + 256 * (c1 + 256 * (c2 + 256 * c3)) < 600000000 := by omega
theorem b6_11 {c0 c1 c2 c3 : Nat} : ((c0 + c1 + c2 + c3 : Nat) : Int) = (c0 : Int) + ((c1 : Int) + ((c2 : Int) + ((c3 : Int) + 0))) := by omega
theorem bc6 {a : Nat} (h : a < 2147483648) {x1 x2 x3 x4 x5 : Int} (h1 : x1 = (a : Int) - iAnd (iUshr (a : Int) 1) 1431655765) (h2 : x2 = iAnd x1 858993459 + iAnd (iUshr x1 2) 858993459) (h3 : x3 = iAnd (x2 + iUshr x2 4) 252645135) (h4 : x4 = x3 + iUshr x3 8) (h5 : x5 = x4 + iUshr x4 16) : iAnd x5 63 = popN a := by
  have hl : ∀ b ∈ (bL 4 a), b < 256 := bL_lt 4 a
  have hx : a = vB (bL 4 a) := (bL_v 4 a (Nat.lt_trans h (by decide))).symm
  obtain ⟨e0, e1, e2⟩ := st_all hl hx rfl rfl
  have hc := cnt_vB _ hl
  rw [← hx] at hc
  have m1 : mB 85 (bL 4 a).length = 1431655765 := by rfl
  have m2 : mB 51 (bL 4 a).length = 858993459 := by rfl
  have m3 : mB 15 (bL 4 a).length = 252645135 := by rfl
  rw [m1, m2] at e1 e2
  rw [m1] at e0
  rw [m3] at e2
  have n1 : x1 = ((a - (a / 2 &&& 1431655765) : Nat) : Int) := by
    rw [h1, b6_1 h, i_sub e0]
  have b1 : a - (a / 2 &&& 1431655765) < 2147483648 := Nat.lt_of_le_of_lt (Nat.sub_le _ _) h
  generalize a - (a / 2 &&& 1431655765) = y1 at n1 e1 e2 b1
  have n2 : x2 = (((y1 &&& 858993459) + (y1 / 4 &&& 858993459) : Nat) : Int) := by
    rw [h2, n1, b6_2 b1, b6_3 b1]
    rfl
  have b2 : (y1 &&& 858993459) + (y1 / 4 &&& 858993459) < 1800000000 := and_add
  generalize (y1 &&& 858993459) + (y1 / 4 &&& 858993459) = y2 at n2 e1 e2 b2
  have n3 : x3 = ((y2 + y2 / 16 &&& 252645135 : Nat) : Int) := by rw [h3, n2, b6_4 b2]
  have P : ∀ b ∈ bL 4 a, ((sC (sB (sA b)) : Nat) : Int) = pop8 b ∧ sC (sB (sA b)) ≤ 8 := fun b hb => sC_pop (hl b hb)
  have hp : popN a = sumP (bL 4 a) := hc
  rw [hp]
  rw [e2] at n3
  clear e1 e2 hc hl hx m1 m2 m3 n1 n2 h1 h2 h3 b1 b2 e0 hp
  simp only [bL, List.forall_mem_cons] at P
  obtain ⟨p0, p1, p2, p3, -⟩ := P
  simp only [bL, List.map_cons, List.map_nil, vB] at n3
  simp only [bL, sumP]
  rw [← p0.1, ← p1.1, ← p2.1, ← p3.1]
  have q0 := p0.2
  have q1 := p1.2
  have q2 := p2.2
  have q3 := p3.2
  clear p0 p1 p2 p3
  generalize sC (sB (sA (a % 256))) = c0 at *
  generalize sC (sB (sA (a / 256 % 256))) = c1 at *
  generalize sC (sB (sA (a / 256 / 256 % 256))) = c2 at *
  generalize sC (sB (sA (a / 256 / 256 / 256 % 256))) = c3 at *
  rw [Nat.mul_zero, Nat.add_zero] at n3
  have b3 := b6_10 q0 q1 q2 q3
  rw [n3, b6_5 (Nat.lt_trans b3 (by decide))] at h4
  have b4 := b6_8 b3
  rw [h4, b6_6 (Nat.lt_trans b4 (by decide))] at h5
  rw [h5, b6_7 (b6_9 b4), sum4 q0 q1 q2 q3 rfl rfl rfl, b6_11]
set_option maxHeartbeats 4000000 in
theorem c_bits6 (d : Nat) {hp : HP} {a : Nat} (h : a < 2147483648) (R : PO) : callD (d + 1) 290 [mI (a : Int)] hp R ↔ R (some (mI (popN a))) hp := by
  rw [callD_k]; simp only [entL_i, entL_l, entL_q, entL_s, entL_nil, n_J6_bitCount_0f7a4, u_J6_bitCount_0f7a4, m_J6_bitCount_0f7a4, rep_0, List.cons_append, List.nil_append, List.append_nil, List.length_cons, List.length_nil, Nat.reduceAdd, true_and]
  simp only [AW_k, AWk_1, x_iload_0, x_push_i, x_push_l, x_iushr, x_iand, x_isub, x_istore_0, x_iadd, x_ret, x_ret_i, x_ret_z, x_ret_l, x_ret_c, unl_i, unl_l, unl_q, unl_r, unl_s, unl_n, k_J6_bitCount_0f7a4_0, k_J6_bitCount_0f7a4_1, k_J6_bitCount_0f7a4_2, k_J6_bitCount_0f7a4_3, k_J6_bitCount_0f7a4_4, k_J6_bitCount_0f7a4_5, k_J6_bitCount_0f7a4_6, k_J6_bitCount_0f7a4_7, k_J6_bitCount_0f7a4_8, k_J6_bitCount_0f7a4_9, k_J6_bitCount_0f7a4_10, k_J6_bitCount_0f7a4_11, k_J6_bitCount_0f7a4_12, k_J6_bitCount_0f7a4_13, k_J6_bitCount_0f7a4_14, k_J6_bitCount_0f7a4_15, k_J6_bitCount_0f7a4_16, k_J6_bitCount_0f7a4_17, k_J6_bitCount_0f7a4_18, k_J6_bitCount_0f7a4_19, k_J6_bitCount_0f7a4_20, k_J6_bitCount_0f7a4_21, k_J6_bitCount_0f7a4_22, k_J6_bitCount_0f7a4_23, k_J6_bitCount_0f7a4_24, k_J6_bitCount_0f7a4_25, k_J6_bitCount_0f7a4_26, k_J6_bitCount_0f7a4_27, k_J6_bitCount_0f7a4_28, k_J6_bitCount_0f7a4_29, k_J6_bitCount_0f7a4_30, k_J6_bitCount_0f7a4_31, k_J6_bitCount_0f7a4_32, k_J6_bitCount_0f7a4_33, k_J6_bitCount_0f7a4_34, k_J6_bitCount_0f7a4_35, k_J6_bitCount_0f7a4_36, k_J6_bitCount_0f7a4_37, k_J6_bitCount_0f7a4_38, k_J6_bitCount_0f7a4_39, k_J6_bitCount_0f7a4_40, k_J6_bitCount_0f7a4_41, oE_some, Int.reduceToNat, Nat.reduceAdd, true_and, and_true, List.length_cons, List.length_nil, Option.toList_some, Option.toList_none, List.cons_append, List.nil_append, Nat.reduceLeDiff, Nat.le_refl, wdS_nil, wdS_i, wdS_l, wdS_r, wdS_n, wdS_s]
  rw [bc6 h rfl rfl rfl rfl rfl]
theorem iAnd_127 (z : Int) : iAnd z 127 = z % 128 := by
  show (BitVec.ofInt 32 z &&& BitVec.ofInt 32 127).toInt = _
  have e1 : BitVec.ofInt 32 127 = 127#32 := by decide
  have e : (BitVec.ofInt 32 z &&& 127#32).toNat = (BitVec.ofInt 32 z).toNat % 128 := by rw [BitVec.toNat_and]; exact Nat.and_two_pow_sub_one_eq_mod _ 7
  rw [e1, bT_small (by rw [e]; omega), e, BitVec.toNat_ofInt]
  omega
theorem tN_sub {x y : BitVec 64} (h : y.toNat ≤ x.toNat) : (x - y).toNat = x.toNat - y.toNat := BitVec.toNat_sub_of_le h
theorem tN_add {x y : BitVec 64} (h : x.toNat + y.toNat < 18446744073709551616) : (x + y).toNat = x.toNat + y.toNat := BitVec.toNat_add_of_lt h
theorem tN_shr {x : BitVec 64} {k : Nat} : (x >>> k).toNat = x.toNat / 2 ^ k := by rw [BitVec.toNat_ushiftRight, Nat.shiftRight_eq_div_pow]
theorem and_add64 {a b : Nat} : (a &&& 3689348814741910323) + (b &&& 3689348814741910323) < 7378697629483820647 := by
  have h1 := @Nat.and_le_right a 3689348814741910323
  have h2 := @Nat.and_le_right b 3689348814741910323
  omega
theorem lt64a {a : Nat} (h : a < 7378697629483820647) : a + a / 2 ^ 4 < 18446744073709551616 := by omega
theorem lt64b {c0 c1 c2 c3 c4 c5 c6 c7 : Nat} (q0 : c0 ≤ 8) (q1 : c1 ≤ 8) (q2 : c2 ≤ 8) (q3 : c3 ≤ 8) (q4 : c4 ≤ 8) (q5 : c5 ≤ 8) (q6 : c6 ≤ 8) (q7 : c7 ≤ 8) : c0 + 256 * (c1 + 256 * (c2 + 256 * (c3 + 256 * (c4 + 256 * (c5 + 256 * (c6 + 256 * c7)))))) < 600000000000000000 := by omega
theorem lt64c {a : Nat} (h : a < 600000000000000000) : a + a / 256 < 700000000000000000 := by omega
theorem lt64d {a : Nat} (h : a < 700000000000000000) : a + a / 65536 < 800000000000000000 := by omega
theorem lt64e {a : Nat} (h : a < 800000000000000000) : a + a / 4294967296 < 18446744073709551616 := by omega
theorem tI_128 (x : BitVec 64) : x.toInt % 128 = ((x.toNat % 128 : Nat) : Int) := by
  rw [BitVec.toInt_eq_toNat_bmod, Int.bmod_def]
  have := x.isLt
  split <;> omega
theorem b13_11 {c0 c1 c2 c3 c4 c5 c6 c7 : Nat} : ((c0 + c1 + c2 + c3 + c4 + c5 + c6 + c7 : Nat) : Int) = (c0 : Int) + ((c1 : Int) + ((c2 : Int) + ((c3 : Int) + ((c4 : Int) + ((c5 : Int) + ((c6 : Int) + ((c7 : Int) + 0))))))) := by omega
theorem bc13 (s : BitVec 64) {x1 x2 x3 x4 x5 x6 : BitVec 64} (h1 : x1 = s - (s >>> 1 &&& 6148914691236517205#64)) (h2 : x2 = (x1 &&& 3689348814741910323#64) + (x1 >>> 2 &&& 3689348814741910323#64)) (h3 : x3 = (x2 + x2 >>> 4) &&& 1085102592571150095#64) (h4 : x4 = x3 + x3 >>> 8) (h5 : x5 = x4 + x4 >>> 16) (h6 : x6 = x5 + x5 >>> 32) : iAnd x6.toInt 127 = popI s := by
  have hs := s.isLt
  have hps : popI s = cnt (fun i => s.toNat.testBit i) 64 := rfl
  rw [hps]
  generalize ha : s.toNat = a at hs
  have hl : ∀ b ∈ (bL 8 a), b < 256 := bL_lt 8 a
  have hx : a = vB (bL 8 a) := (bL_v 8 a hs).symm
  obtain ⟨e0, e1, e2⟩ := st_all hl hx rfl rfl
  have hc := cnt_vB _ hl
  rw [← hx] at hc
  have m1 : mB 85 (bL 8 a).length = 6148914691236517205 := by rfl
  have m2 : mB 51 (bL 8 a).length = 3689348814741910323 := by rfl
  have m3 : mB 15 (bL 8 a).length = 1085102592571150095 := by rfl
  rw [m1, m2] at e1 e2
  rw [m1] at e0
  rw [m3] at e2
  have n0 : (s >>> 1 &&& 6148914691236517205#64).toNat = a / 2 &&& 6148914691236517205 := by rw [BitVec.toNat_and, tN_shr, ha]; rfl
  have n1 : x1.toNat = a - (a / 2 &&& 6148914691236517205) := by rw [h1, tN_sub (by rw [n0, ha]; exact e0), n0, ha]
  generalize a - (a / 2 &&& 6148914691236517205) = y1 at n1 e1 e2
  have n2a : (x1 &&& 3689348814741910323#64).toNat = y1 &&& 3689348814741910323 := by rw [BitVec.toNat_and, n1]; rfl
  have n2b : (x1 >>> 2 &&& 3689348814741910323#64).toNat = y1 / 4 &&& 3689348814741910323 := by rw [BitVec.toNat_and, tN_shr, n1]; rfl
  have b2 := @and_add64 y1 (y1 / 4)
  have n2 : x2.toNat = (y1 &&& 3689348814741910323) + (y1 / 4 &&& 3689348814741910323) := by
    rw [h2, tN_add (by rw [n2a, n2b]; exact Nat.lt_trans b2 (by decide)), n2a, n2b]
  generalize (y1 &&& 3689348814741910323) + (y1 / 4 &&& 3689348814741910323) = y2 at n2 e1 e2 b2
  have n3 : x3.toNat = (y2 + y2 / 16 &&& 1085102592571150095) := by
    rw [h3, BitVec.toNat_and, tN_add (by rw [tN_shr, n2]; exact lt64a b2), tN_shr, n2]; rfl
  have P : ∀ b ∈ bL 8 a, ((sC (sB (sA b)) : Nat) : Int) = pop8 b ∧ sC (sB (sA b)) ≤ 8 := fun b hb => sC_pop (hl b hb)
  have hp : cnt (fun i => a.testBit i) 64 = sumP (bL 8 a) := hc
  rw [hp]
  rw [e2] at n3
  clear e1 e2 hc hl hx m1 m2 m3 n0 n1 n2 n2a n2b h1 h2 h3 e0 b2 hp
  simp only [bL, List.forall_mem_cons] at P
  obtain ⟨p0, p1, p2, p3, p4, p5, p6, p7, -⟩ := P
  simp only [bL, List.map_cons, List.map_nil, vB] at n3
  simp only [bL, sumP]
  rw [← p0.1, ← p1.1, ← p2.1, ← p3.1, ← p4.1, ← p5.1, ← p6.1, ← p7.1]
  replace p0 := p0.2
  replace p1 := p1.2
  replace p2 := p2.2
  replace p3 := p3.2
  replace p4 := p4.2
  replace p5 := p5.2
  replace p6 := p6.2
  replace p7 := p7.2
  generalize sC (sB (sA (a % 256))) = c0 at *
  generalize sC (sB (sA (a / 256 % 256))) = c1 at *
  generalize sC (sB (sA (a / 256 / 256 % 256))) = c2 at *
  generalize sC (sB (sA (a / 256 / 256 / 256 % 256))) = c3 at *
  generalize sC (sB (sA (a / 256 / 256 / 256 / 256 % 256))) = c4 at *
  generalize sC (sB (sA (a / 256 / 256 / 256 / 256 / 256 % 256))) = c5 at *
  generalize sC (sB (sA (a / 256 / 256 / 256 / 256 / 256 / 256 % 256))) = c6 at *
  generalize sC (sB (sA (a / 256 / 256 / 256 / 256 / 256 / 256 / 256 % 256))) = c7 at *
  rw [Nat.mul_zero, Nat.add_zero] at n3
  have b3 : x3.toNat < 600000000000000000 := by rw [n3]; exact lt64b p0 p1 p2 p3 p4 p5 p6 p7
  have b4 := lt64c b3
  have n4 : x4.toNat = x3.toNat + x3.toNat / 256 := by rw [h4, tN_add (by rw [tN_shr]; exact Nat.lt_trans b4 (by decide)), tN_shr]
  rw [← n4] at b4
  have b5 := lt64d b4
  have n5 : x5.toNat = x4.toNat + x4.toNat / 65536 := by rw [h5, tN_add (by rw [tN_shr]; exact Nat.lt_trans b5 (by decide)), tN_shr]
  rw [← n5] at b5
  have n6 : x6.toNat = x5.toNat + x5.toNat / 4294967296 := by rw [h6, tN_add (by rw [tN_shr]; exact lt64e b5), tN_shr]
  rw [iAnd_127, tI_128, sum8 p0 p1 p2 p3 p4 p5 p6 p7 n3 n4 n5 n6, b13_11]
set_option maxHeartbeats 4000000 in
theorem c_bits (d : Nat) {hp : HP} {s : BitVec 64} (R : PO) : callD (d + 1) 292 [mL s] hp R ↔ R (some (mI (popI s))) hp := by
  rw [callD_k]; simp only [entL_i, entL_l, entL_q, entL_s, entL_nil, n_J13_bitCount_95d88, u_J13_bitCount_95d88, m_J13_bitCount_95d88, rep_0, List.cons_append, List.nil_append, List.append_nil, List.length_cons, List.length_nil, Nat.reduceAdd, true_and]
  simp only [AW_k, AWk_1, x_lload_0, x_push_i, x_push_l, x_lushr, x_land, x_lsub, x_lstore_0, x_ladd, x_l2i, x_iand, x_ret, x_ret_i, x_ret_z, x_ret_l, x_ret_c, unl_i, unl_l, unl_q, unl_r, unl_s, unl_n, k_J13_bitCount_95d88_0, k_J13_bitCount_95d88_1, k_J13_bitCount_95d88_2, k_J13_bitCount_95d88_3, k_J13_bitCount_95d88_4, k_J13_bitCount_95d88_5, k_J13_bitCount_95d88_6, k_J13_bitCount_95d88_7, k_J13_bitCount_95d88_8, k_J13_bitCount_95d88_9, k_J13_bitCount_95d88_10, k_J13_bitCount_95d88_11, k_J13_bitCount_95d88_12, k_J13_bitCount_95d88_13, k_J13_bitCount_95d88_14, k_J13_bitCount_95d88_15, k_J13_bitCount_95d88_16, k_J13_bitCount_95d88_17, k_J13_bitCount_95d88_18, k_J13_bitCount_95d88_19, k_J13_bitCount_95d88_20, k_J13_bitCount_95d88_21, k_J13_bitCount_95d88_22, k_J13_bitCount_95d88_23, k_J13_bitCount_95d88_24, k_J13_bitCount_95d88_25, k_J13_bitCount_95d88_26, k_J13_bitCount_95d88_27, k_J13_bitCount_95d88_28, k_J13_bitCount_95d88_29, k_J13_bitCount_95d88_30, k_J13_bitCount_95d88_31, k_J13_bitCount_95d88_32, k_J13_bitCount_95d88_33, k_J13_bitCount_95d88_34, k_J13_bitCount_95d88_35, k_J13_bitCount_95d88_36, k_J13_bitCount_95d88_37, k_J13_bitCount_95d88_38, k_J13_bitCount_95d88_39, k_J13_bitCount_95d88_40, k_J13_bitCount_95d88_41, k_J13_bitCount_95d88_42, k_J13_bitCount_95d88_43, k_J13_bitCount_95d88_44, k_J13_bitCount_95d88_45, k_J13_bitCount_95d88_46, k_J13_bitCount_95d88_47, k_J13_bitCount_95d88_48, oE_some, Int.reduceToNat, Nat.reduceAdd, true_and, and_true, List.length_cons, List.length_nil, Option.toList_some, Option.toList_none, List.cons_append, List.nil_append, Nat.reduceLeDiff, Nat.le_refl, wdS_nil, wdS_i, wdS_l, wdS_r, wdS_n, wdS_s]
  rw [show (w32 1 % 64).toNat = 1 from rfl, show (w32 2 % 64).toNat = 2 from rfl, show (w32 4 % 64).toNat = 4 from rfl, show (w32 8 % 64).toNat = 8 from rfl, show (w32 16 % 64).toNat = 16 from rfl, show (w32 32 % 64).toNat = 32 from rfl]
  rw [bc13 s rfl rfl rfl rfl rfl rfl]
