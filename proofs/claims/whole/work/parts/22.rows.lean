/-! ===== the class's tables, as they lie in the heap from ra on ===== -/
/-- the longs of sets -/
def aL (n : Nat) : BitVec 64 := BitVec.ofNat 64 (2 ^ NA n - 1)
def iL (n : Nat) : BitVec 64 := BitVec.ofNat 64 (idl n 0)
def RC (n ra : Nat) : List AC := [
  .inl (4, [mI (n : Int), mI (FC n : Int), mI ((n - 1 : Nat) : Int), mR (ra + 1), mR (ra + 10), mR (ra + 11), mR (ra + 12), mR (ra + 13), mR (ra + 14), mR (ra + 15)]),
  .inl (1, [mI (n : Int), mI (NA n : Int), mL (aL n), mR (ra + 3), mR (ra + 4), mR (ra + 5), mR (ra + 6), mR (ra + 7), mR (ra + 8), mR (ra + 9), mR (ra + 2), mL (iL n)]),
  .inr (.inl (0, tI (fi n) 49)),
  .inr (.inl (0, tI (lo n) (NA n))),
  .inr (.inl (0, tI (hi n) (NA n))),
  .inr (.inl (0, tI (lf n) (NA n))),
  .inr (.inl (0, tI (lc n) (NA n))),
  .inr (.inl (0, tI (rc n) (NA n))),
  .inr (.inr (.inl (tJ (fo n) (NA n)))),
  .inr (.inr (.inl (tJ (fg n) (NA n)))),
  .inr (.inl (0, tI (num n) (FC n))),
  .inr (.inl (0, tI (sw n) (FC n))),
  .inr (.inl (0, tI (dr n) (FC n))),
  .inr (.inr (.inl (tJ (dgm n) (FC n)))),
  .inr (.inl (0, tI (arK n) (FC n * (n - 1)))),
  .inr (.inl (0, tI (bsK n) (FC n * (n - 1))))]
def RWS (hp : HP) (ra n : Nat) : Prop := (1 ≤ n ∧ n ≤ 6) ∧ ∀ k, k < 16 → hp[ra + k]? = (RC n ra)[k]?
theorem rw_1 {hp : HP} {ra n : Nat} (h : RWS hp ra n) : 1 ≤ n := h.1.1
theorem rw_6 {hp : HP} {ra n : Nat} (h : RWS hp ra n) : n ≤ 6 := h.1.2
theorem rwF0 {hp : HP} {ra n k : Nat} (h : RWS hp ra n) : gF hp ra 4 k = ([mI (n : Int), mI (FC n : Int), mI ((n - 1 : Nat) : Int), mR (ra + 1), mR (ra + 10), mR (ra + 11), mR (ra + 12), mR (ra + 13), mR (ra + 14), mR (ra + 15)] : List AV)[k]? := by
  have e := h.2 0 (by decide)
  rw [Nat.add_zero] at e
  unfold gF
  rw [e]
  rfl
theorem rwF1 {hp : HP} {ra n k : Nat} (h : RWS hp ra n) : gF hp (ra + 1) 1 k = ([mI (n : Int), mI (NA n : Int), mL (aL n), mR (ra + 3), mR (ra + 4), mR (ra + 5), mR (ra + 6), mR (ra + 7), mR (ra + 8), mR (ra + 9), mR (ra + 2), mL (iL n)] : List AV)[k]? := by
  have e := h.2 1 (by decide)
  unfold gF
  rw [e]
  rfl
theorem rC0 {hp : HP} {ra n : Nat} (h : RWS hp ra n) : gC hp ra = some 4 := by
  have e := h.2 0 (by decide)
  rw [Nat.add_zero] at e
  unfold gC
  rw [e]
  rfl
theorem rC1 {hp : HP} {ra n : Nat} (h : RWS hp ra n) : gC hp (ra + 1) = some 1 := by
  have e := h.2 1 (by decide)
  unfold gC
  rw [e]
  rfl
theorem rw_n {hp : HP} {ra n : Nat} (h : RWS hp ra n) : gF hp ra 4 0 = some (mI (n : Int)) := rwF0 h
theorem rw_count {hp : HP} {ra n : Nat} (h : RWS hp ra n) : gF hp ra 4 1 = some (mI (FC n : Int)) := rwF0 h
theorem rw_gaps {hp : HP} {ra n : Nat} (h : RWS hp ra n) : gF hp ra 4 2 = some (mI ((n - 1 : Nat) : Int)) := rwF0 h
theorem rw_arcs {hp : HP} {ra n : Nat} (h : RWS hp ra n) : gF hp ra 4 3 = some (mR (ra + 1)) := rwF0 h
theorem rw_nums {hp : HP} {ra n : Nat} (h : RWS hp ra n) : gF hp ra 4 4 = some (mR (ra + 10)) := rwF0 h
theorem rw_swaps {hp : HP} {ra n : Nat} (h : RWS hp ra n) : gF hp ra 4 5 = some (mR (ra + 11)) := rwF0 h
theorem rw_drops {hp : HP} {ra n : Nat} (h : RWS hp ra n) : gF hp ra 4 6 = some (mR (ra + 12)) := rwF0 h
theorem rw_dgms {hp : HP} {ra n : Nat} (h : RWS hp ra n) : gF hp ra 4 7 = some (mR (ra + 13)) := rwF0 h
theorem rw_arcAt {hp : HP} {ra n : Nat} (h : RWS hp ra n) : gF hp ra 4 8 = some (mR (ra + 14)) := rwF0 h
theorem rw_beside {hp : HP} {ra n : Nat} (h : RWS hp ra n) : gF hp ra 4 9 = some (mR (ra + 15)) := rwF0 h
theorem rw_an {hp : HP} {ra n : Nat} (h : RWS hp ra n) : gF hp (ra + 1) 1 0 = some (mI (n : Int)) := rwF1 h
theorem rw_ac {hp : HP} {ra n : Nat} (h : RWS hp ra n) : gF hp (ra + 1) 1 1 = some (mI (NA n : Int)) := rwF1 h
theorem rw_all {hp : HP} {ra n : Nat} (h : RWS hp ra n) : gF hp (ra + 1) 1 2 = some (mL (aL n)) := rwF1 h
theorem rw_low {hp : HP} {ra n : Nat} (h : RWS hp ra n) : gF hp (ra + 1) 1 3 = some (mR (ra + 3)) := rwF1 h
theorem rw_high {hp : HP} {ra n : Nat} (h : RWS hp ra n) : gF hp (ra + 1) 1 4 = some (mR (ra + 4)) := rwF1 h
theorem rw_left {hp : HP} {ra n : Nat} (h : RWS hp ra n) : gF hp (ra + 1) 1 5 = some (mR (ra + 5)) := rwF1 h
theorem rw_lefts {hp : HP} {ra n : Nat} (h : RWS hp ra n) : gF hp (ra + 1) 1 6 = some (mR (ra + 6)) := rwF1 h
theorem rw_rights {hp : HP} {ra n : Nat} (h : RWS hp ra n) : gF hp (ra + 1) 1 7 = some (mR (ra + 7)) := rwF1 h
theorem rw_forced {hp : HP} {ra n : Nat} (h : RWS hp ra n) : gF hp (ra + 1) 1 8 = some (mR (ra + 8)) := rwF1 h
theorem rw_forcing {hp : HP} {ra n : Nat} (h : RWS hp ra n) : gF hp (ra + 1) 1 9 = some (mR (ra + 9)) := rwF1 h
theorem rw_firsts {hp : HP} {ra n : Nat} (h : RWS hp ra n) : gF hp (ra + 1) 1 10 = some (mR (ra + 2)) := rwF1 h
theorem rw_idle {hp : HP} {ra n : Nat} (h : RWS hp ra n) : gF hp (ra + 1) 1 11 = some (mL (iL n)) := rwF1 h
theorem rA_2 {hp : HP} {ra n : Nat} (h : RWS hp ra n) : gA hp (ra + 2) = some (tI (fi n) 49) := by
  have e := h.2 2 (by decide)
  unfold gA
  rw [e]
  rfl
theorem rA_3 {hp : HP} {ra n : Nat} (h : RWS hp ra n) : gA hp (ra + 3) = some (tI (lo n) (NA n)) := by
  have e := h.2 3 (by decide)
  unfold gA
  rw [e]
  rfl
theorem rA_4 {hp : HP} {ra n : Nat} (h : RWS hp ra n) : gA hp (ra + 4) = some (tI (hi n) (NA n)) := by
  have e := h.2 4 (by decide)
  unfold gA
  rw [e]
  rfl
theorem rA_5 {hp : HP} {ra n : Nat} (h : RWS hp ra n) : gA hp (ra + 5) = some (tI (lf n) (NA n)) := by
  have e := h.2 5 (by decide)
  unfold gA
  rw [e]
  rfl
theorem rA_6 {hp : HP} {ra n : Nat} (h : RWS hp ra n) : gA hp (ra + 6) = some (tI (lc n) (NA n)) := by
  have e := h.2 6 (by decide)
  unfold gA
  rw [e]
  rfl
theorem rA_7 {hp : HP} {ra n : Nat} (h : RWS hp ra n) : gA hp (ra + 7) = some (tI (rc n) (NA n)) := by
  have e := h.2 7 (by decide)
  unfold gA
  rw [e]
  rfl
theorem rA_10 {hp : HP} {ra n : Nat} (h : RWS hp ra n) : gA hp (ra + 10) = some (tI (num n) (FC n)) := by
  have e := h.2 10 (by decide)
  unfold gA
  rw [e]
  rfl
theorem rA_11 {hp : HP} {ra n : Nat} (h : RWS hp ra n) : gA hp (ra + 11) = some (tI (sw n) (FC n)) := by
  have e := h.2 11 (by decide)
  unfold gA
  rw [e]
  rfl
theorem rA_12 {hp : HP} {ra n : Nat} (h : RWS hp ra n) : gA hp (ra + 12) = some (tI (dr n) (FC n)) := by
  have e := h.2 12 (by decide)
  unfold gA
  rw [e]
  rfl
theorem rA_14 {hp : HP} {ra n : Nat} (h : RWS hp ra n) : gA hp (ra + 14) = some (tI (arK n) (FC n * (n - 1))) := by
  have e := h.2 14 (by decide)
  unfold gA
  rw [e]
  rfl
theorem rA_15 {hp : HP} {ra n : Nat} (h : RWS hp ra n) : gA hp (ra + 15) = some (tI (bsK n) (FC n * (n - 1))) := by
  have e := h.2 15 (by decide)
  unfold gA
  rw [e]
  rfl
theorem rA_8 {hp : HP} {ra n : Nat} (h : RWS hp ra n) : gJ hp (ra + 8) = some (tJ (fo n) (NA n)) := by
  have e := h.2 8 (by decide)
  unfold gJ
  rw [e]
  rfl
theorem rA_9 {hp : HP} {ra n : Nat} (h : RWS hp ra n) : gJ hp (ra + 9) = some (tJ (fg n) (NA n)) := by
  have e := h.2 9 (by decide)
  unfold gJ
  rw [e]
  rfl
theorem rA_13 {hp : HP} {ra n : Nat} (h : RWS hp ra n) : gJ hp (ra + 13) = some (tJ (dgm n) (FC n)) := by
  have e := h.2 13 (by decide)
  unfold gJ
  rw [e]
  rfl
/-- what is laid elsewhere leaves them -/
theorem RWS_eq {hp h2 : HP} {ra n : Nat} (h : RWS hp ra n) (e : ∀ k, ra ≤ k → k < ra + 16 → h2[k]? = hp[k]?) : RWS h2 ra n := by
  refine ⟨h.1, fun k hk => ?_⟩
  rw [e (ra + k) (by omega) (by omega)]
  exact h.2 k hk
/-! reading the tables -/
theorem num_31 {n i : Nat} (h1 : 1 ≤ n) (h6 : n ≤ 6) (hi : i < FC n) : num n i < 2147483648 := by
  have a := (num_hi h1 h6 hi).1
  have : 10 ^ n ≤ 10 ^ 6 := Nat.pow_le_pow_right (by decide) h6
  omega
theorem sw_31 (n i : Nat) : sw n i < 32768 := Nat.mod_lt _ (by decide)
theorem dr_31 (n i : Nat) : dr n i < 32 := Nat.mod_lt _ (by decide)
theorem lf_16 (n i : Nat) : lf n i < 16 := Nat.mod_lt _ (by decide)
theorem lo_8 (n i : Nat) : lo n i < 8 := Nat.mod_lt _ (by decide)
theorem hi_8 (n i : Nat) : hi n i < 8 := Nat.mod_lt _ (by decide)
theorem ar_64 (n i p : Nat) : ar n i p < 64 := Nat.mod_lt _ (by decide)
theorem bs_10 (n i p : Nat) : bs n i p < 1024 := Nat.mod_lt _ (by decide)
theorem T_in {x : Int} {k : Nat} (hx : x = (k : Int)) (hk : k < 7) : inB x (stab [] 1).length := inB_of hx hk (by decide)
theorem T_get {x : Int} {k : Nat} (hx : x = (k : Int)) (hk : k < 7) : (stab [] 1).getD (w32 x).toNat 0 = ((10 ^ k : Nat) : Int) := by
  rw [hx, w32_nat (by omega), Int.toNat_natCast]
  have : ∀ k, k < 7 → (stab [] 1).getD k 0 = ((10 ^ k : Nat) : Int) := by decide +kernel
  exact this k hk
theorem F_in {x : Int} {k : Nat} (hx : x = (k : Int)) (hk : k < 7) : inB x (stab [] 0).length := inB_of hx hk (by decide)
theorem F_get {x : Int} {k : Nat} (hx : x = (k : Int)) (hk : k < 7) : (stab [] 0).getD (w32 x).toNat 0 = ((FC k : Nat) : Int) := by
  rw [hx, w32_nat (by omega), Int.toNat_natCast]
  have : ∀ k, k < 7 → (stab [] 0).getD k 0 = ((FC k : Nat) : Int) := by decide +kernel
  exact this k hk
theorem ten_pos (k : Nat) : 0 < 10 ^ k := Nat.pow_pos (by decide)
theorem ten_lt {k : Nat} (h : k < 7) : 10 ^ k < 2147483648 := by
  have : 10 ^ k ≤ 10 ^ 6 := Nat.pow_le_pow_right (by decide) (by omega)
  omega
theorem w_div {a b : Nat} (ha : a < 2147483648) (hb : b < 2147483648) : Int.tdiv (w32 (a : Int)) (w32 (b : Int)) = ((a / b : Nat) : Int) := by
  rw [w32_nat ha, w32_nat hb, ← Int.ofNat_tdiv]
theorem w_mod {a b : Nat} (ha : a < 2147483648) (hb : b < 2147483648) : Int.tmod (w32 (a : Int)) (w32 (b : Int)) = ((a % b : Nat) : Int) := by
  rw [w32_nat ha, w32_nat hb, ← Int.ofNat_tmod]
theorem w_ne {b : Nat} (h0 : 0 < b) (hb : b < 2147483648) : ¬ w32 (b : Int) = 0 := by rw [w32_nat hb]; omega
theorem dg_lt (n r p : Nat) : dg n r p < 10 := Nat.mod_lt _ (by decide)
theorem dg_int {n r p : Nat} (h6 : n ≤ 6) (hr : r < 2147483648) : Int.tmod (w32 (Int.tdiv (w32 (r : Int)) (w32 ((10 ^ (n - 1 - p) : Nat) : Int)))) (w32 10) = ((dg n r p : Nat) : Int) := by
  rw [w_div hr (ten_lt (by omega))]
  exact w_mod (b := 10) (Nat.lt_of_le_of_lt (Nat.div_le_self _ _) hr) (by decide)
theorem w32_10 : ¬ w32 10 = 0 := by decide
set_option maxHeartbeats 4000000 in
theorem c4_valueAt (d : Nat) {hp : HP} {ra n i p : Nat} (h : RWS hp ra n) (hi : i < FC n) (hp1 : p < n) (R : PO) : callD (d + 1) 36 [mR ra, mI (i : Int), mI (p : Int)] hp R ↔ R (some (mI (dg n (num n i) p : Int))) hp := by
  have hx : (n : Int) - 1 - (p : Int) = ((n - 1 - p : Nat) : Int) := by omega
  have h6 := rw_6 h
  rw [callD_k]; simp only [entL_i, entL_l, entL_q, entL_s, entL_nil, n_X4_valueAt, u_X4_valueAt, m_X4_valueAt, rep_0, List.cons_append, List.nil_append, List.append_nil, List.length_cons, List.length_nil, Nat.reduceAdd, true_and]
  simp only [AW_k, AWk_1, x_aload_0, x_aloads_0, x_getf, x_iload_1, x_iald, x_ialds, x_gets, x_push_i, x_push_l, x_isub, x_iload_2, x_idiv, x_irem, x_ret, x_ret_i, x_ret_z, x_ret_l, x_ret_c, k_X4_valueAt_0, k_X4_valueAt_1, k_X4_valueAt_2, k_X4_valueAt_3, k_X4_valueAt_4, k_X4_valueAt_5, k_X4_valueAt_6, k_X4_valueAt_7, k_X4_valueAt_8, k_X4_valueAt_9, k_X4_valueAt_10, k_X4_valueAt_11, k_X4_valueAt_12, k_X4_valueAt_13, k_X4_valueAt_14, k_X4_valueAt_15, oE_some, Int.reduceToNat, Nat.reduceAdd, true_and, and_true, List.length_cons, List.length_nil, Option.toList_some, Option.toList_none, List.cons_append, List.nil_append, Nat.reduceLeDiff, Nat.le_refl, wdS_nil, wdS_i, wdS_l, wdS_r, wdS_n, wdS_s, rw_nums h, rA_10 h, rw_n h, bI rfl hi (Nat.lt_of_le_of_lt (FC_le n) (by decide)), gI rfl hi (Nat.lt_of_le_of_lt (FC_le n) (by decide)), T_in hx (show n - 1 - p < 7 by omega), T_get hx (show n - 1 - p < 7 by omega), w_ne (ten_pos (n - 1 - p)) (ten_lt (show n - 1 - p < 7 by omega)), not_false_eq_true, w32_10, dg_int (p := p) h6 (num_31 (rw_1 h) h6 hi)]
theorem FC_31 (n : Nat) : FC n < 2147483648 := Nat.lt_of_le_of_lt (FC_le n) (by decide)
theorem NA_31 (n : Nat) : NA n < 2147483648 := Nat.lt_of_le_of_lt (NA_le n) (by decide)
/-- the row i is below the row j -/
def blw (n i j : Nat) : Bool := sub1 (sw n i) (sw n j)
theorem ite_bt {α : Type} (b : Bool) (x y : α) : (if ¬ b = true then x else y) = (if b = true then y else x) := by cases b <;> rfl
theorem ite_bf {α : Type} (b : Bool) (x y : α) : (if b = false then x else y) = (if b = true then y else x) := by cases b <;> rfl
theorem ite_zt (b : Bool) : (if b = true then some (mI 1) else some (mI 0)) = some (mI (zI b)) := by cases b <;> rfl
set_option maxHeartbeats 4000000 in
theorem c4_isBelow (d : Nat) {hp : HP} {ra n i j : Nat} (h : RWS hp ra n) (hi : i < FC n) (hj : j < FC n) (R : PO) : callD (d + 1) 38 [mR ra, mI (i : Int), mI (j : Int)] hp R ↔ R (some (mI (zI (blw n i j)))) hp := by
  have b1 := sw_31 n i
  have b2 := sw_31 n j
  rw [callD_k]; simp only [entL_i, entL_l, entL_q, entL_s, entL_nil, n_X4_isBelow, u_X4_isBelow, m_X4_isBelow, rep_0, List.cons_append, List.nil_append, List.append_nil, List.length_cons, List.length_nil, Nat.reduceAdd, true_and]
  simp only [AW_k, AWk_1, x_aload_0, x_aloads_0, x_getf, x_iload_1, x_iald, x_ialds, x_iload_2, x_push_i, x_push_l, x_ixor, x_iand, x_if_ne, x_goto, x_ret, x_ret_i, x_ret_z, x_ret_l, x_ret_c, k_X4_isBelow_0, k_X4_isBelow_1, k_X4_isBelow_2, k_X4_isBelow_3, k_X4_isBelow_4, k_X4_isBelow_5, k_X4_isBelow_6, k_X4_isBelow_7, k_X4_isBelow_8, k_X4_isBelow_9, k_X4_isBelow_10, k_X4_isBelow_11, k_X4_isBelow_12, k_X4_isBelow_13, k_X4_isBelow_14, k_X4_isBelow_15, oE_some, Int.reduceToNat, Nat.reduceAdd, true_and, and_true, List.length_cons, List.length_nil, Option.toList_some, Option.toList_none, List.cons_append, List.nil_append, Nat.reduceLeDiff, Nat.le_refl, wdS_nil, wdS_i, wdS_l, wdS_r, wdS_n, wdS_s, rw_swaps h, rA_11 h, bI rfl hi (FC_31 n), gI rfl hi (FC_31 n), bI rfl hj (FC_31 n), gI rfl hj (FC_31 n), iSub (show sw n i < 2147483648 by omega) (show sw n j < 2147483648 by omega), or_true, true_or, R_ite, ite_zt]
  rfl
set_option maxHeartbeats 4000000 in
theorem c4_isDrop (d : Nat) {hp : HP} {ra n i p : Nat} (h : RWS hp ra n) (hi : i < FC n) (hp1 : p < 32) (R : PO) : callD (d + 1) 41 [mR ra, mI (i : Int), mI (p : Int)] hp R ↔ R (some (mI (zI (dn n i p)))) hp := by
  have b1 := dr_31 n i
  rw [callD_k]; simp only [entL_i, entL_l, entL_q, entL_s, entL_nil, n_X4_isDrop, u_X4_isDrop, m_X4_isDrop, rep_0, List.cons_append, List.nil_append, List.append_nil, List.length_cons, List.length_nil, Nat.reduceAdd, true_and]
  simp only [AW_k, AWk_1, x_aload_0, x_aloads_0, x_getf, x_iload_1, x_iald, x_ialds, x_iload_2, x_ishr, x_push_i, x_push_l, x_iand, x_if_eq, x_goto, x_ret, x_ret_i, x_ret_z, x_ret_l, x_ret_c, k_X4_isDrop_0, k_X4_isDrop_1, k_X4_isDrop_2, k_X4_isDrop_3, k_X4_isDrop_4, k_X4_isDrop_5, k_X4_isDrop_6, k_X4_isDrop_7, k_X4_isDrop_8, k_X4_isDrop_9, k_X4_isDrop_10, k_X4_isDrop_11, k_X4_isDrop_12, oE_some, Int.reduceToNat, Nat.reduceAdd, true_and, and_true, List.length_cons, List.length_nil, Option.toList_some, Option.toList_none, List.cons_append, List.nil_append, Nat.reduceLeDiff, Nat.le_refl, wdS_nil, wdS_i, wdS_l, wdS_r, wdS_n, wdS_s, rw_drops h, rA_12 h, bI rfl hi (FC_31 n), gI rfl hi (FC_31 n), iBit (show dr n i < 2147483648 by omega) hp1, or_true, true_or, R_ite, ite_bf, ite_zt]
  rfl
theorem gp_eq {n i p : Nat} : (i : Int) * ((n - 1 : Nat) : Int) + (p : Int) = ((i * (n - 1) + p : Nat) : Int) := by norm_cast
theorem gp_31 {n : Nat} (h1 : 1 ≤ n) (h6 : n ≤ 6) : FC n * (n - 1) < 2147483648 := Nat.lt_of_le_of_lt (FCg_le h1 h6) (by decide)
theorem ar_get {n i p : Nat} (h1 : 1 ≤ n) (h6 : n ≤ 6) (hi : i < FC n) (hp : p < n - 1) : (tI (arK n) (FC n * (n - 1))).getD (w32 ((i : Int) * ((n - 1 : Nat) : Int) + (p : Int))).toNat 0 = ((ar n i p : Nat) : Int) := gI gp_eq (gap_lt hi hp) (gp_31 h1 h6)
theorem bs_get {n i p : Nat} (h1 : 1 ≤ n) (h6 : n ≤ 6) (hi : i < FC n) (hp : p < n - 1) : (tI (bsK n) (FC n * (n - 1))).getD (w32 ((i : Int) * ((n - 1 : Nat) : Int) + (p : Int))).toNat 0 = ((bs n i p : Nat) : Int) := gI gp_eq (gap_lt hi hp) (gp_31 h1 h6)
theorem gp_in {f : Nat → Nat} {n i p : Nat} (h1 : 1 ≤ n) (h6 : n ≤ 6) (hi : i < FC n) (hp : p < n - 1) : inB ((i : Int) * ((n - 1 : Nat) : Int) + (p : Int)) (tI f (FC n * (n - 1))).length := bI gp_eq (gap_lt hi hp) (gp_31 h1 h6)
theorem sh_ar {n i p : Nat} : (w32 ((ar n i p : Nat) : Int) % 64).toNat = ar n i p := by
  have := ar_64 n i p
  rw [w32_nat (by omega)]; omega
/-- the first of the gaps that m has, the arc of which is in G -/
def fgo (n : Nat) (G : BitVec 64) (i : Nat) (m : Nat → Bool) : Option Nat := fst (fun p => m p && G.getLsbD (ar n i p)) (n - 1) 0
def mskOK (x : Int) (m : Nat → Bool) : Prop := ∀ p : Nat, p < 32 → (w32 (iAnd (iShr x (p : Int)) 1) = 0) = (m p = false)
def mD (n i p : Nat) : Bool := dn n i p
def mU (n i p : Nat) : Bool := !dn n i p
theorem msk_d {n i : Nat} : mskOK (dr n i : Int) (mD n i) := by
  intro p hp1
  have b1 := dr_31 n i
  exact iBit (by omega) hp1
theorem msk_r {n i : Nat} : mskOK (iXor (dr n i : Int) (-1)) (mU n i) := by
  intro p hp1
  have b1 := dr_31 n i
  rw [iBitN (show dr n i < 2147483648 by omega) hp1]
  show (dn n i p = true) = ((!dn n i p) = false)
  cases dn n i p <;> simp
set_option maxHeartbeats 4000000 in
theorem c4_firstGone (d : Nat) {hp : HP} {ra n i : Nat} {x : Int} {m : Nat → Bool} {G : BitVec 64} (h : RWS hp ra n) (hi : i < FC n) (hm : mskOK x m) (R : PO) : callD (d + 1) 48 [mR ra, mI (i : Int), mI x, mL G] hp R ↔ R (some (mI (oI (fgo n G i m)))) hp := by
  have h1 := rw_1 h
  have h6 := rw_6 h
  rw [callD_k]; simp only [entL_i, entL_l, entL_q, entL_s, entL_nil, n_X4_firstGone, u_X4_firstGone, m_X4_firstGone, rep_1, List.cons_append, List.nil_append, List.append_nil, List.length_cons, List.length_nil, Nat.reduceAdd, true_and]
  simp only [AW_k, AWk_1, x_push_i, x_push_l, x_istore_5, x_iload_5, x_aload_0, x_aloads_0, x_getf, x_icmp_ge, x_iload_2, x_ishr, x_iand, x_if_eq, x_lload_3, x_iload_1, x_imul, x_iadd, x_iald, x_ialds, x_lushr, x_land, x_lcmp, x_ret, x_ret_i, x_ret_z, x_ret_l, x_ret_c, x_iinc_5, x_goto, unl_i, unl_l, unl_q, unl_r, unl_s, unl_n, k_X4_firstGone_0, k_X4_firstGone_1, k_X4_firstGone_2, k_X4_firstGone_3, k_X4_firstGone_4, k_X4_firstGone_5, k_X4_firstGone_6, k_X4_firstGone_7, k_X4_firstGone_8, k_X4_firstGone_9, k_X4_firstGone_10, k_X4_firstGone_11, k_X4_firstGone_12, k_X4_firstGone_13, k_X4_firstGone_14, k_X4_firstGone_15, k_X4_firstGone_16, k_X4_firstGone_17, k_X4_firstGone_18, k_X4_firstGone_19, k_X4_firstGone_20, k_X4_firstGone_21, k_X4_firstGone_22, k_X4_firstGone_23, k_X4_firstGone_24, k_X4_firstGone_25, k_X4_firstGone_26, k_X4_firstGone_27, k_X4_firstGone_28, k_X4_firstGone_29, k_X4_firstGone_30, k_X4_firstGone_31, k_X4_firstGone_32, k_X4_firstGone_33, oE_some, Int.reduceToNat, Nat.reduceAdd, true_and, and_true, List.length_cons, List.length_nil, Option.toList_some, Option.toList_none, List.cons_append, List.nil_append, Nat.reduceLeDiff, Nat.le_refl, wdS_nil, wdS_i, wdS_l, wdS_r, wdS_n, wdS_s]
  refine (loop_fst (P := fun p => AWh d [] 48 R 2 [some (mR ra), some (mI (i : Int)), some (mI x), some (mL G), none, some (mI (p : Int))] [] hp (0, 0)) (E := fun p => R (some (mI (p : Int))) hp) (f := fun p => m p && G.getLsbD (ar n i p)) (N := n - 1) ?_ (n := n - 1) (a := 0) (by omega)).trans ?_
  · intro p hp1
    rw [AWh_k, k_X4_firstGone_2]
    simp only [AW_k, AWk_1, x_push_i, x_push_l, x_istore_5, x_iload_5, x_aload_0, x_aloads_0, x_getf, x_icmp_ge, x_iload_2, x_ishr, x_iand, x_if_eq, x_lload_3, x_iload_1, x_imul, x_iadd, x_iald, x_ialds, x_lushr, x_land, x_lcmp, x_ret, x_ret_i, x_ret_z, x_ret_l, x_ret_c, x_iinc_5, x_goto, unl_i, unl_l, unl_q, unl_r, unl_s, unl_n, k_X4_firstGone_0, k_X4_firstGone_1, k_X4_firstGone_2, k_X4_firstGone_3, k_X4_firstGone_4, k_X4_firstGone_5, k_X4_firstGone_6, k_X4_firstGone_7, k_X4_firstGone_8, k_X4_firstGone_9, k_X4_firstGone_10, k_X4_firstGone_11, k_X4_firstGone_12, k_X4_firstGone_13, k_X4_firstGone_14, k_X4_firstGone_15, k_X4_firstGone_16, k_X4_firstGone_17, k_X4_firstGone_18, k_X4_firstGone_19, k_X4_firstGone_20, k_X4_firstGone_21, k_X4_firstGone_22, k_X4_firstGone_23, k_X4_firstGone_24, k_X4_firstGone_25, k_X4_firstGone_26, k_X4_firstGone_27, k_X4_firstGone_28, k_X4_firstGone_29, k_X4_firstGone_30, k_X4_firstGone_31, k_X4_firstGone_32, k_X4_firstGone_33, oE_some, Int.reduceToNat, Nat.reduceAdd, true_and, and_true, List.length_cons, List.length_nil, Option.toList_some, Option.toList_none, List.cons_append, List.nil_append, Nat.reduceLeDiff, Nat.le_refl, wdS_nil, wdS_i, wdS_l, wdS_r, wdS_n, wdS_s, rw_gaps h, rw_arcAt h, rA_14 h, gp_in h1 h6 hi hp1, ar_get h1 h6 hi hp1, hm p (by omega), lCmp_eq, sh_ar, shr_one0]
    rw [w32_nat (show p < 2147483648 by omega), w32_nat (show n - 1 < 2147483648 by omega), if_pos (by omega)]
    cases m p <;> cases G.getLsbD (ar n i p) <;> exact Iff.rfl
  · unfold fgo
    split
    · next p e => rw [e]; exact Iff.rfl
    · next e =>
      rw [e]
      rw [AWh_k, k_X4_firstGone_2]
      simp only [AW_k, AWk_1, x_push_i, x_push_l, x_istore_5, x_iload_5, x_aload_0, x_aloads_0, x_getf, x_icmp_ge, x_iload_2, x_ishr, x_iand, x_if_eq, x_lload_3, x_iload_1, x_imul, x_iadd, x_iald, x_ialds, x_lushr, x_land, x_lcmp, x_ret, x_ret_i, x_ret_z, x_ret_l, x_ret_c, x_iinc_5, x_goto, unl_i, unl_l, unl_q, unl_r, unl_s, unl_n, k_X4_firstGone_0, k_X4_firstGone_1, k_X4_firstGone_2, k_X4_firstGone_3, k_X4_firstGone_4, k_X4_firstGone_5, k_X4_firstGone_6, k_X4_firstGone_7, k_X4_firstGone_8, k_X4_firstGone_9, k_X4_firstGone_10, k_X4_firstGone_11, k_X4_firstGone_12, k_X4_firstGone_13, k_X4_firstGone_14, k_X4_firstGone_15, k_X4_firstGone_16, k_X4_firstGone_17, k_X4_firstGone_18, k_X4_firstGone_19, k_X4_firstGone_20, k_X4_firstGone_21, k_X4_firstGone_22, k_X4_firstGone_23, k_X4_firstGone_24, k_X4_firstGone_25, k_X4_firstGone_26, k_X4_firstGone_27, k_X4_firstGone_28, k_X4_firstGone_29, k_X4_firstGone_30, k_X4_firstGone_31, k_X4_firstGone_32, k_X4_firstGone_33, oE_some, Int.reduceToNat, Nat.reduceAdd, true_and, and_true, List.length_cons, List.length_nil, Option.toList_some, Option.toList_none, List.cons_append, List.nil_append, Nat.reduceLeDiff, Nat.le_refl, wdS_nil, wdS_i, wdS_l, wdS_r, wdS_n, wdS_s, rw_gaps h]
      rw [if_neg (Int.lt_irrefl _)]
      exact Iff.rfl
