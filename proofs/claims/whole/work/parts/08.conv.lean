/-! ===== the machine's own numbers ===== -/
theorem J_toInt (x : Int) : (Int32.ofInt x).toInt = w32 x := by
  rw [Int32.toInt_ofInt]
  unfold w32
  show Int.bmod x (2 ^ 32) = _
  rw [Int.bmod_def]
  split <;> omega
theorem J_of (x : Int32) : Int32.ofInt x.toInt = x := Int32.ofInt_toInt x
theorem J_w (x : Int) : Int32.ofInt (w32 x) = Int32.ofInt x := by rw [← J_toInt, J_of]
theorem J_eq {x y : Int} : Int32.ofInt x = Int32.ofInt y ↔ w32 x = w32 y := by rw [← Int32.toInt_inj, J_toInt, J_toInt]
theorem J_ext {x y : Int} (h : w32 x = w32 y) : Int32.ofInt x = Int32.ofInt y := J_eq.mpr h
theorem J_lt {x y : Int} : Int32.ofInt x < Int32.ofInt y ↔ w32 x < w32 y := by rw [Int32.lt_iff_toInt_lt, J_toInt, J_toInt]
theorem J_le {x y : Int} : Int32.ofInt x ≤ Int32.ofInt y ↔ w32 x ≤ w32 y := by rw [Int32.le_iff_toInt_le, J_toInt, J_toInt]
theorem J_0 : (0 : Int32) = Int32.ofInt 0 := rfl
theorem w32_0 : w32 0 = 0 := rfl
theorem J_add (x y : Int) : Int32.ofInt x + Int32.ofInt y = Int32.ofInt (x + y) := (Int32.ofInt_add x y).symm
theorem J_sub (x y : Int) : Int32.ofInt x - Int32.ofInt y = Int32.ofInt (x - y) := (Int32.ofInt_sub x y).symm
theorem J_mul (x y : Int) : Int32.ofInt x * Int32.ofInt y = Int32.ofInt (x * y) := (Int32.ofInt_mul x y).symm
theorem J_neg (x : Int) : -Int32.ofInt x = Int32.ofInt (-x) := (Int32.ofInt_neg x).symm
theorem J_div (x y : Int) : Int32.ofInt x / Int32.ofInt y = Int32.ofInt (Int.tdiv (w32 x) (w32 y)) := by
  rw [← J_of (Int32.ofInt x / Int32.ofInt y)]
  refine J_ext ?_
  rw [Int32.toInt_div, J_toInt, J_toInt]
  have e : ∀ z : Int, w32 (z.bmod (2 ^ 32)) = w32 z := fun z => by rw [← J_toInt, ← J_toInt, Int32.toInt_ofInt, Int32.toInt_ofInt]; exact Int.bmod_bmod
  exact e _
theorem J_rem (x y : Int) : Int32.ofInt x - Int32.ofInt x / Int32.ofInt y * Int32.ofInt y = Int32.ofInt (Int.tmod (w32 x) (w32 y)) := by
  rw [J_div, J_mul, J_sub, Int.tmod_def]
  refine J_ext ?_
  have e : ∀ a b c : Int, w32 (a - b * c) = w32 (w32 a - w32 c * b) := by
    intro a b c
    rw [← J_eq, ← J_sub, ← J_sub, ← J_mul, ← J_mul, J_w, J_w, Int32.mul_comm]
  exact e _ _ _
theorem J_clamp (x : Int) : (Int32.ofInt x).toNatClampNeg = (w32 x).toNat := by
  show (Int32.ofInt x).toInt.toNat = _
  rw [J_toInt]
theorem J_in {i : Int} {n : Nat} : vp_in (Int32.ofInt i) n ↔ inB i n := by
  unfold vp_in inB
  rw [J_clamp, J_0, J_lt, w32_0]
  omega
theorem J_and (x y : Int) : Int32.ofInt x &&& Int32.ofInt y = Int32.ofInt (iAnd x y) := (J_of _).symm
theorem J_or (x y : Int) : Int32.ofInt x ||| Int32.ofInt y = Int32.ofInt (iOr x y) := (J_of _).symm
theorem J_xor (x y : Int) : Int32.ofInt x ^^^ Int32.ofInt y = Int32.ofInt (iXor x y) := (J_of _).symm
theorem J_bv (x : Int) : (Int32.ofInt x).toBitVec = BitVec.ofInt 32 x := rfl
theorem J_cnt (y : Int) : ((Int32.ofInt y &&& 31).toBitVec.smod 32).toNat = (w32 y % 32).toNat := by
  have h1 : (Int32.ofInt y &&& 31).toBitVec = BitVec.ofNat 32 ((BitVec.ofInt 32 y).toNat % 32) := by
    rw [Int32.toBitVec_and, J_bv]
    apply BitVec.eq_of_toNat_eq
    rw [BitVec.toNat_and]
    show (BitVec.ofInt 32 y).toNat &&& 31 = _
    rw [show (31 : Nat) = 2 ^ 5 - 1 from rfl, Nat.and_two_pow_sub_one_eq_mod]
    simp
    omega
  rw [h1]
  have h2 : ∀ k : Nat, k < 32 → ((BitVec.ofNat 32 k).smod 32).toNat = k := by decide +kernel
  rw [h2 _ (Nat.mod_lt _ (by decide))]
  rw [BitVec.toNat_ofInt]
  unfold w32
  omega
theorem J_shl (x y : Int) : Int32.ofInt x <<< (Int32.ofInt y &&& 31) = Int32.ofInt (iShl x y) := by
  apply Int32.toBitVec_inj.mp
  rw [Int32.toBitVec_shiftLeft]
  show (BitVec.ofInt 32 x) <<< ((Int32.ofInt y &&& 31).toBitVec.smod 32) = _
  rw [BitVec.shiftLeft_eq', J_cnt]
  unfold iShl
  generalize (w32 y % 32).toNat = k
  show _ = BitVec.ofInt 32 (x * 2 ^ k)
  rw [BitVec.shiftLeft_eq_mul_twoPow, BitVec.ofInt_mul]
  congr 1
  apply BitVec.eq_of_toNat_eq
  rw [BitVec.toNat_twoPow, BitVec.toNat_ofInt]
  have : ((2 : Int) ^ k) = ((2 ^ k : Nat) : Int) := by norm_cast
  rw [this]
  omega
theorem J_shr (x y : Int) : Int32.ofInt x >>> (Int32.ofInt y &&& 31) = Int32.ofInt (iShr x y) := by
  rw [← J_of (Int32.ofInt x >>> (Int32.ofInt y &&& 31))]
  have h := pk_shr (Int32.ofInt x) (Int32.ofInt y &&& 31) _ (J_cnt y)
  rw [h, J_toInt, Int.shiftRight_eq_div_pow]
  rfl
theorem J_cntU (y : Int) : (((Int32.ofInt y).toUInt32 &&& Int32.toUInt32 31).toBitVec % 32).toNat = (w32 y % 32).toNat := by
  have h1 : ((Int32.ofInt y).toUInt32 &&& Int32.toUInt32 31).toBitVec = BitVec.ofNat 32 ((BitVec.ofInt 32 y).toNat % 32) := by
    rw [UInt32.toBitVec_and]
    apply BitVec.eq_of_toNat_eq
    rw [BitVec.toNat_and]
    show (BitVec.ofInt 32 y).toNat &&& 31 = _
    rw [show (31 : Nat) = 2 ^ 5 - 1 from rfl, Nat.and_two_pow_sub_one_eq_mod]
    simp
    omega
  rw [h1]
  have h2 : ∀ k : Nat, k < 32 → ((BitVec.ofNat 32 k) % 32).toNat = k := by decide +kernel
  rw [h2 _ (Nat.mod_lt _ (by decide))]
  rw [BitVec.toNat_ofInt]
  unfold w32
  omega
theorem J_ushr (x y : Int) : ((Int32.ofInt x).toUInt32 >>> ((Int32.ofInt y).toUInt32 &&& Int32.toUInt32 31)).toInt32 = Int32.ofInt (iUshr x y) := by
  apply Int32.toBitVec_inj.mp
  apply BitVec.eq_of_toNat_eq
  rw [pk_ushr (Int32.ofInt x) (Int32.ofInt y) _ (J_cntU y), J_bv]
  show _ = (BitVec.ofInt 32 (iUshr x y)).toNat
  unfold iUshr
  generalize (w32 y % 32).toNat = k
  rw [BitVec.toNat_ofInt, BitVec.toNat_ofInt]
  have h0 : (0 : Int) ≤ x % 4294967296 := by omega
  obtain ⟨z, hz⟩ := Int.eq_ofNat_of_zero_le h0
  have hz2 : z < 4294967296 := by omega
  have e1 : ((2 : Int) ^ k) = ((2 ^ k : Nat) : Int) := by norm_cast
  show (x % 4294967296).toNat / 2 ^ k = ((x % 4294967296) / 2 ^ k % 4294967296).toNat
  rw [hz, e1, ← Int.natCast_ediv, Int.toNat_natCast]
  have : z / 2 ^ k ≤ z := Nat.div_le_self _ _
  generalize z / 2 ^ k = q at this ⊢
  omega
theorem J_b (x : Int) : (Int32.ofInt x).toInt8.toInt32 = Int32.ofInt (i2b x) := by
  rw [← J_of (Int32.ofInt x).toInt8.toInt32]
  refine J_ext ?_
  rw [Int8.toInt_toInt32, Int32.toInt_toInt8, J_toInt]
  unfold i2b
  rw [Int.bmod_def]
  unfold w32
  split <;> omega
theorem J_s (x : Int) : (Int32.ofInt x).toInt16.toInt32 = Int32.ofInt (i2s x) := by
  rw [← J_of (Int32.ofInt x).toInt16.toInt32]
  refine J_ext ?_
  rw [Int16.toInt_toInt32, Int32.toInt_toInt16, J_toInt]
  unfold i2s
  rw [Int.bmod_def]
  unfold w32
  split <;> omega
theorem J_c (x : Int) : ((Int32.ofInt x).toUInt32 % 65536).toInt32 = Int32.ofInt (i2c x) := by
  rw [pk_char, J_bv]
  unfold i2c
  show Int32.ofNat _ = _
  rw [← Int32.ofInt_eq_ofNat]
  refine J_ext ?_
  rw [BitVec.toNat_ofInt]
  unfold w32
  omega
/-- longs -/
theorem L_inj {x y : BitVec 64} : Int64.ofBitVec x = Int64.ofBitVec y ↔ x = y := ⟨fun h => by cases h; rfl, fun h => by rw [h]⟩
theorem L_cmp (x y : BitVec 64) : lg_cmp (Int64.ofBitVec x) (Int64.ofBitVec y) = Int32.ofInt (lCmp x y) := by
  unfold lg_cmp lCmp
  simp only [gt_iff_lt, Int64.lt_iff_toInt_lt, ← Int64.toInt_inj]
  show (if y.toInt < x.toInt then _ else if x.toInt = y.toInt then _ else _) = _
  by_cases h1 : y.toInt < x.toInt
  · rw [if_pos h1, if_neg (by omega), if_neg (by omega)]; rfl
  · rw [if_neg h1]
    by_cases h2 : x.toInt = y.toInt
    · rw [if_pos h2, if_neg (by omega), if_pos h2]; rfl
    · rw [if_neg h2, if_pos (by omega)]; rfl
theorem J_l (x : Int) : (Int32.ofInt x).toInt64 = Int64.ofBitVec (BitVec.ofInt 64 (w32 x)) := by
  rw [← Int64.toInt_inj, Int32.toInt_toInt64, J_toInt]
  show _ = (BitVec.ofInt 64 (w32 x)).toInt
  rw [BitVec.toInt_ofInt]
  have := w32_in x
  rw [Int.bmod_def]
  split <;> omega
theorem L_i (x : BitVec 64) : (Int64.ofBitVec x).toInt32 = Int32.ofInt x.toInt := by
  rw [← J_of (Int64.ofBitVec x).toInt32]
  refine J_ext ?_
  rw [Int64.toInt_toInt32]
  show w32 (x.toInt.bmod (2 ^ 32)) = _
  have e : ∀ z : Int, w32 (z.bmod (2 ^ 32)) = w32 z := fun z => by rw [← J_toInt, ← J_toInt, Int32.toInt_ofInt, Int32.toInt_ofInt]; exact Int.bmod_bmod
  exact e _
theorem L_cnt (y : Int) : (((Int32.ofInt y).toInt64 &&& 63).toBitVec.smod 64).toNat = (w32 y % 64).toNat := by
  rw [J_l]
  have h1 : (Int64.ofBitVec (BitVec.ofInt 64 (w32 y)) &&& 63).toBitVec = BitVec.ofNat 64 ((BitVec.ofInt 64 (w32 y)).toNat % 64) := by
    rw [Int64.toBitVec_and]
    apply BitVec.eq_of_toNat_eq
    rw [BitVec.toNat_and]
    show (BitVec.ofInt 64 (w32 y)).toNat &&& 63 = _
    rw [show (63 : Nat) = 2 ^ 6 - 1 from rfl, Nat.and_two_pow_sub_one_eq_mod]
    simp
    omega
  rw [h1]
  have h2 : ∀ k : Nat, k < 64 → ((BitVec.ofNat 64 k).smod 64).toNat = k := by decide +kernel
  rw [h2 _ (Nat.mod_lt _ (by decide)), BitVec.toNat_ofInt]
  omega
theorem L_shl (x : BitVec 64) (y : Int) : Int64.ofBitVec x <<< ((Int32.ofInt y).toInt64 &&& 63) = Int64.ofBitVec (x <<< (w32 y % 64).toNat) := by
  apply Int64.toBitVec_inj.mp
  rw [Int64.toBitVec_shiftLeft]
  show x <<< (((Int32.ofInt y).toInt64 &&& 63).toBitVec.smod 64) = _
  rw [BitVec.shiftLeft_eq', L_cnt]
  rfl
theorem L_ushr (x : BitVec 64) (y : Int) : ((Int64.ofBitVec x).toUInt64 >>> ((Int32.ofInt y).toInt64.toUInt64 &&& Int64.toUInt64 63)).toInt64 = Int64.ofBitVec (x >>> (w32 y % 64).toNat) := by
  apply Int64.toBitVec_inj.mp
  show x >>> (((Int32.ofInt y).toInt64.toUInt64 &&& Int64.toUInt64 63).toBitVec % 64) = _
  rw [BitVec.ushiftRight_eq']
  congr 1
  rw [J_l]
  have h1 : (((Int64.ofBitVec (BitVec.ofInt 64 (w32 y))).toUInt64 &&& Int64.toUInt64 63).toBitVec) = BitVec.ofNat 64 ((BitVec.ofInt 64 (w32 y)).toNat % 64) := by
    rw [UInt64.toBitVec_and]
    apply BitVec.eq_of_toNat_eq
    rw [BitVec.toNat_and]
    show (BitVec.ofInt 64 (w32 y)).toNat &&& 63 = _
    rw [show (63 : Nat) = 2 ^ 6 - 1 from rfl, Nat.and_two_pow_sub_one_eq_mod]
    simp
    omega
  rw [h1]
  have h2 : ∀ k : Nat, k < 64 → ((BitVec.ofNat 64 k) % 64).toNat = k := by decide +kernel
  rw [h2 _ (Nat.mod_lt _ (by decide)), BitVec.toNat_ofInt]
  omega
