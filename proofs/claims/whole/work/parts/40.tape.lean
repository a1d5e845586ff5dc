/-! ===== the tape: bytes and words ===== -/
def TPS (hp : HP) (a tc : Nat) (ft : Int) (tb ws bg wo : List Int) (at_ : Int) (av : AV) : Prop := (gF hp a 8 0 = some (mI (tc : Int)) ∧ gF hp a 8 1 = some (mI ft) ∧ gF hp a 8 2 = some (mR (a + 1)) ∧ gF hp a 8 3 = some (mR (a + 2)) ∧ gF hp a 8 4 = some (mR (a + 3)) ∧ gF hp a 8 5 = some (mR (a + 4)) ∧ gF hp a 8 6 = some (mI at_) ∧ gF hp a 8 7 = some av) ∧ gA hp (a + 1) = some tb ∧ gA hp (a + 2) = some ws ∧ gA hp (a + 3) = some bg ∧ gA hp (a + 4) = some wo
theorem TPS_Fr {hp h : HP} {a tc x y : Nat} {ft : Int} {tb ws bg wo : List Int} {at_ : Int} {av : AV} (m : TPS hp a tc ft tb ws bg wo at_ av) (f : Fr x y hp h) (o : a + 5 ≤ x ∨ y ≤ a) : TPS h a tc ft tb ws bg wo at_ av := by
  obtain ⟨⟨a1, a2, a3, a4, a5, a6, a7, a8⟩, b1, b2, b3, b4⟩ := m
  exact ⟨⟨by rw [gF_Fr f (by omega), a1], by rw [gF_Fr f (by omega), a2], by rw [gF_Fr f (by omega), a3], by rw [gF_Fr f (by omega), a4], by rw [gF_Fr f (by omega), a5], by rw [gF_Fr f (by omega), a6], by rw [gF_Fr f (by omega), a7], by rw [gF_Fr f (by omega), a8]⟩, by rw [gA_Fr f (by omega), b1], by rw [gA_Fr f (by omega), b2], by rw [gA_Fr f (by omega), b3], by rw [gA_Fr f (by omega), b4]⟩
theorem TPS_f0 {hp : HP} {a tc : Nat} {ft : Int} {tb ws bg wo : List Int} {at_ : Int} {av : AV} (m : TPS hp a tc ft tb ws bg wo at_ av) {x : Nat} : TPS (pF hp a 8 0 (mI (x : Int))) a x ft tb ws bg wo at_ av := by
  obtain ⟨⟨a1, a2, a3, a4, a5, a6, a7, a8⟩, b1, b2, b3, b4⟩ := m
  exact ⟨⟨gF_pF_same a1, by rw [gF_pF (by omega), a2], by rw [gF_pF (by omega), a3], by rw [gF_pF (by omega), a4], by rw [gF_pF (by omega), a5], by rw [gF_pF (by omega), a6], by rw [gF_pF (by omega), a7], by rw [gF_pF (by omega), a8]⟩, by rw [gA_pF, b1], by rw [gA_pF, b2], by rw [gA_pF, b3], by rw [gA_pF, b4]⟩
theorem TPS_f1 {hp : HP} {a tc : Nat} {ft : Int} {tb ws bg wo : List Int} {at_ : Int} {av : AV} (m : TPS hp a tc ft tb ws bg wo at_ av) {x : Int} : TPS (pF hp a 8 1 (mI x)) a tc x tb ws bg wo at_ av := by
  obtain ⟨⟨a1, a2, a3, a4, a5, a6, a7, a8⟩, b1, b2, b3, b4⟩ := m
  exact ⟨⟨by rw [gF_pF (by omega), a1], gF_pF_same a2, by rw [gF_pF (by omega), a3], by rw [gF_pF (by omega), a4], by rw [gF_pF (by omega), a5], by rw [gF_pF (by omega), a6], by rw [gF_pF (by omega), a7], by rw [gF_pF (by omega), a8]⟩, by rw [gA_pF, b1], by rw [gA_pF, b2], by rw [gA_pF, b3], by rw [gA_pF, b4]⟩
theorem TPS_f6 {hp : HP} {a tc : Nat} {ft : Int} {tb ws bg wo : List Int} {at_ : Int} {av : AV} (m : TPS hp a tc ft tb ws bg wo at_ av) {x : Int} : TPS (pF hp a 8 6 (mI x)) a tc ft tb ws bg wo x av := by
  obtain ⟨⟨a1, a2, a3, a4, a5, a6, a7, a8⟩, b1, b2, b3, b4⟩ := m
  exact ⟨⟨by rw [gF_pF (by omega), a1], by rw [gF_pF (by omega), a2], by rw [gF_pF (by omega), a3], by rw [gF_pF (by omega), a4], by rw [gF_pF (by omega), a5], by rw [gF_pF (by omega), a6], gF_pF_same a7, by rw [gF_pF (by omega), a8]⟩, by rw [gA_pF, b1], by rw [gA_pF, b2], by rw [gA_pF, b3], by rw [gA_pF, b4]⟩
theorem TPS_f7 {hp : HP} {a tc : Nat} {ft : Int} {tb ws bg wo : List Int} {at_ : Int} {av : AV} (m : TPS hp a tc ft tb ws bg wo at_ av) {x : AV} : TPS (pF hp a 8 7 (x)) a tc ft tb ws bg wo at_ x := by
  obtain ⟨⟨a1, a2, a3, a4, a5, a6, a7, a8⟩, b1, b2, b3, b4⟩ := m
  exact ⟨⟨by rw [gF_pF (by omega), a1], by rw [gF_pF (by omega), a2], by rw [gF_pF (by omega), a3], by rw [gF_pF (by omega), a4], by rw [gF_pF (by omega), a5], by rw [gF_pF (by omega), a6], by rw [gF_pF (by omega), a7], gF_pF_same a8⟩, by rw [gA_pF, b1], by rw [gA_pF, b2], by rw [gA_pF, b3], by rw [gA_pF, b4]⟩
theorem TPS_a1 {hp : HP} {a tc : Nat} {ft : Int} {tb ws bg wo : List Int} {at_ : Int} {av : AV} (m : TPS hp a tc ft tb ws bg wo at_ av) {l : List Int} : TPS (pA hp (a + 1) l) a tc ft l ws bg wo at_ av := by
  obtain ⟨⟨a1, a2, a3, a4, a5, a6, a7, a8⟩, b1, b2, b3, b4⟩ := m
  exact ⟨⟨by rw [gF_pA, a1], by rw [gF_pA, a2], by rw [gF_pA, a3], by rw [gF_pA, a4], by rw [gF_pA, a5], by rw [gF_pA, a6], by rw [gF_pA, a7], by rw [gF_pA, a8]⟩, gA_pA_same b1, by rw [gA_pA (by omega), b2], by rw [gA_pA (by omega), b3], by rw [gA_pA (by omega), b4]⟩
theorem TPS_a2 {hp : HP} {a tc : Nat} {ft : Int} {tb ws bg wo : List Int} {at_ : Int} {av : AV} (m : TPS hp a tc ft tb ws bg wo at_ av) {l : List Int} : TPS (pA hp (a + 2) l) a tc ft tb l bg wo at_ av := by
  obtain ⟨⟨a1, a2, a3, a4, a5, a6, a7, a8⟩, b1, b2, b3, b4⟩ := m
  exact ⟨⟨by rw [gF_pA, a1], by rw [gF_pA, a2], by rw [gF_pA, a3], by rw [gF_pA, a4], by rw [gF_pA, a5], by rw [gF_pA, a6], by rw [gF_pA, a7], by rw [gF_pA, a8]⟩, by rw [gA_pA (by omega), b1], gA_pA_same b2, by rw [gA_pA (by omega), b3], by rw [gA_pA (by omega), b4]⟩
theorem TPS_a3 {hp : HP} {a tc : Nat} {ft : Int} {tb ws bg wo : List Int} {at_ : Int} {av : AV} (m : TPS hp a tc ft tb ws bg wo at_ av) {l : List Int} : TPS (pA hp (a + 3) l) a tc ft tb ws l wo at_ av := by
  obtain ⟨⟨a1, a2, a3, a4, a5, a6, a7, a8⟩, b1, b2, b3, b4⟩ := m
  exact ⟨⟨by rw [gF_pA, a1], by rw [gF_pA, a2], by rw [gF_pA, a3], by rw [gF_pA, a4], by rw [gF_pA, a5], by rw [gF_pA, a6], by rw [gF_pA, a7], by rw [gF_pA, a8]⟩, by rw [gA_pA (by omega), b1], by rw [gA_pA (by omega), b2], gA_pA_same b3, by rw [gA_pA (by omega), b4]⟩
theorem TPS_a4 {hp : HP} {a tc : Nat} {ft : Int} {tb ws bg wo : List Int} {at_ : Int} {av : AV} (m : TPS hp a tc ft tb ws bg wo at_ av) {l : List Int} : TPS (pA hp (a + 4) l) a tc ft tb ws bg l at_ av := by
  obtain ⟨⟨a1, a2, a3, a4, a5, a6, a7, a8⟩, b1, b2, b3, b4⟩ := m
  exact ⟨⟨by rw [gF_pA, a1], by rw [gF_pA, a2], by rw [gF_pA, a3], by rw [gF_pA, a4], by rw [gF_pA, a5], by rw [gF_pA, a6], by rw [gF_pA, a7], by rw [gF_pA, a8]⟩, by rw [gA_pA (by omega), b1], by rw [gA_pA (by omega), b2], by rw [gA_pA (by omega), b3], gA_pA_same b4⟩
/-- the bytes: b k is the k-th -/
def byOK (tb : List Int) (b : Nat → Nat) : Prop := tb.length = 200 ∧ ∀ k, k < 200 → tb.getD k 0 = ((b k : Nat) : Int) ∧ b k < 256
def dgt (x : Nat) : Bool := decide (48 ≤ x) && decide (x ≤ 57)
def ltr (x : Nat) : Bool := decide (97 ≤ x) && decide (x ≤ 122)
theorem in_ite (x lo hi : Int) : (if x < lo then (some (mI 0) : Option AV) else if hi < x then some (mI 0) else some (mI 1)) = some (mI (zI (decide (lo ≤ x) && decide (x ≤ hi)))) := by
  by_cases h : x < lo
  · rw [if_pos h, decide_eq_false (show ¬ lo ≤ x by omega)]; rfl
  · rw [if_neg h, decide_eq_true (show lo ≤ x by omega), Bool.true_and]
    by_cases h2 : hi < x
    · rw [if_pos h2, decide_eq_false (show ¬ x ≤ hi by omega)]; rfl
    · rw [if_neg h2, decide_eq_true (show x ≤ hi by omega)]; rfl
set_option maxHeartbeats 8000000 in
theorem c8_isDigit (d : Nat) {hp : HP} {x : Nat} (hx : x < 256) (R : PO) : callD (d + 1) 82 [mI (x : Int)] hp R ↔ R (some (mI (zI (dgt x)))) hp := by
  have bx : x < 2147483648 := by omega
  have e : dgt x = (decide (48 ≤ (x : Int)) && decide ((x : Int) ≤ 57)) := by
    unfold dgt
    by_cases h1 : 48 ≤ x <;> by_cases h2 : x ≤ 57
    · rw [decide_eq_true h1, decide_eq_true h2, decide_eq_true (show 48 ≤ (x : Int) by omega), decide_eq_true (show (x : Int) ≤ 57 by omega)]
    · rw [decide_eq_false h2, decide_eq_false (show ¬ (x : Int) ≤ 57 by omega), Bool.and_false, Bool.and_false]
    · rw [decide_eq_false h1, decide_eq_false (show ¬ 48 ≤ (x : Int) by omega), Bool.false_and, Bool.false_and]
    · rw [decide_eq_false h1, decide_eq_false (show ¬ 48 ≤ (x : Int) by omega), Bool.false_and, Bool.false_and]
  rw [e]
  rw [callD_k]; simp only [entL_i, entL_l, entL_q, entL_s, entL_nil, n_X8_isDigit, u_X8_isDigit, m_X8_isDigit, rep_0, List.cons_append, List.nil_append, List.append_nil, List.length_cons, List.length_nil, Nat.reduceAdd, true_and]
  simp only [AW_k, AWk_1, x_iload_0, x_push_i, x_push_l, x_icmp_lt, x_icmp_gt, x_goto, x_ret, x_ret_i, x_ret_z, x_ret_l, x_ret_c, k_X8_isDigit_0, k_X8_isDigit_1, k_X8_isDigit_2, k_X8_isDigit_3, k_X8_isDigit_4, k_X8_isDigit_5, k_X8_isDigit_6, k_X8_isDigit_7, k_X8_isDigit_8, k_X8_isDigit_9, oE_some, Int.reduceToNat, Nat.reduceAdd, true_and, and_true, List.length_cons, List.length_nil, Option.toList_some, Option.toList_none, List.cons_append, List.nil_append, Nat.reduceLeDiff, Nat.le_refl, wdS_nil, wdS_i, wdS_l, wdS_r, wdS_n, wdS_s, or_true, true_or, R_ite, w32_nat bx, show w32 48 = 48 from rfl, show w32 57 = 57 from rfl, in_ite]
set_option maxHeartbeats 8000000 in
theorem c8_isLetter (d : Nat) {hp : HP} {x : Nat} (hx : x < 256) (R : PO) : callD (d + 1) 83 [mI (x : Int)] hp R ↔ R (some (mI (zI (ltr x)))) hp := by
  have bx : x < 2147483648 := by omega
  have e : ltr x = (decide (97 ≤ (x : Int)) && decide ((x : Int) ≤ 122)) := by
    unfold ltr
    by_cases h1 : 97 ≤ x <;> by_cases h2 : x ≤ 122
    · rw [decide_eq_true h1, decide_eq_true h2, decide_eq_true (show 97 ≤ (x : Int) by omega), decide_eq_true (show (x : Int) ≤ 122 by omega)]
    · rw [decide_eq_false h2, decide_eq_false (show ¬ (x : Int) ≤ 122 by omega), Bool.and_false, Bool.and_false]
    · rw [decide_eq_false h1, decide_eq_false (show ¬ 97 ≤ (x : Int) by omega), Bool.false_and, Bool.false_and]
    · rw [decide_eq_false h1, decide_eq_false (show ¬ 97 ≤ (x : Int) by omega), Bool.false_and, Bool.false_and]
  rw [e]
  rw [callD_k]; simp only [entL_i, entL_l, entL_q, entL_s, entL_nil, n_X8_isLetter, u_X8_isLetter, m_X8_isLetter, rep_0, List.cons_append, List.nil_append, List.append_nil, List.length_cons, List.length_nil, Nat.reduceAdd, true_and]
  simp only [AW_k, AWk_1, x_iload_0, x_push_i, x_push_l, x_icmp_lt, x_icmp_gt, x_goto, x_ret, x_ret_i, x_ret_z, x_ret_l, x_ret_c, k_X8_isLetter_0, k_X8_isLetter_1, k_X8_isLetter_2, k_X8_isLetter_3, k_X8_isLetter_4, k_X8_isLetter_5, k_X8_isLetter_6, k_X8_isLetter_7, k_X8_isLetter_8, k_X8_isLetter_9, oE_some, Int.reduceToNat, Nat.reduceAdd, true_and, and_true, List.length_cons, List.length_nil, Option.toList_some, Option.toList_none, List.cons_append, List.nil_append, Nat.reduceLeDiff, Nat.le_refl, wdS_nil, wdS_i, wdS_l, wdS_r, wdS_n, wdS_s, or_true, true_or, R_ite, w32_nat bx, show w32 97 = 97 from rfl, show w32 122 = 122 from rfl, in_ite]
/-- on from e while the bytes are so -/
def rnE (p : Nat → Bool) (b : Nat → Nat) (tc : Nat) : Nat → Nat → Nat
  | 0, e => e
  | f + 1, e => if (decide (e < tc) && p (b e)) = true then rnE p b tc f (e + 1) else e
def eow (b : Nat → Nat) (tc p : Nat) : Nat := if dgt (b p) = true then rnE dgt b tc 200 (p + 1) else if ltr (b p) = true then rnE ltr b tc 200 (p + 1) else p + 1
theorem rnE_in (p : Nat → Bool) (b : Nat → Nat) (tc : Nat) : ∀ f e, e ≤ rnE p b tc f e ∧ (e ≤ tc → rnE p b tc f e ≤ tc) := by
  intro f
  induction f with
  | zero => intro e; exact ⟨Nat.le_refl _, fun h => h⟩
  | succ f ih =>
    intro e
    unfold rnE
    split
    · next h =>
      rw [Bool.and_eq_true, decide_eq_true_eq] at h
      have := ih (e + 1)
      exact ⟨by omega, fun _ => this.2 (by omega)⟩
    · exact ⟨Nat.le_refl _, fun h => h⟩
theorem eow_in {b : Nat → Nat} {tc p : Nat} (h : p < tc) : p < eow b tc p ∧ eow b tc p ≤ tc := by
  unfold eow
  split
  · have := rnE_in dgt b tc 200 (p + 1); exact ⟨by omega, this.2 (by omega)⟩
  · split
    · have := rnE_in ltr b tc 200 (p + 1); exact ⟨by omega, this.2 (by omega)⟩
    · omega
theorem b200 {tb : List Int} {b : Nat → Nat} (h : byOK tb b) {k : Nat} (hk : k < 200) : inB (k : Int) tb.length ∧ tb.getD (w32 (k : Int)).toNat 0 = ((b k : Nat) : Int) := by
  refine ⟨inB_n (by rw [h.1]; exact hk) (by rw [h.1]; decide), ?_⟩
  rw [w32_tn (by omega)]
  exact (h.2 k hk).1
set_option maxHeartbeats 16000000 in
theorem c8_endOfWord (d : Nat) {hp : HP} {a tc p : Nat} {ft : Int} {tb ws bg wo : List Int} {at_ : Int} {av : AV} {b : Nat → Nat} (h : TPS hp a tc ft tb ws bg wo at_ av) (hb : byOK tb b) (hc : tc ≤ 200) (hp1 : p < tc) (R : PO) : callD (d + 2) 77 [mR a, mI (p : Int)] hp R ↔ R (some (mI (eow b tc p : Int))) hp := by
  have k1 : ∀ (f e : Nat), tc < e + f → e ≤ tc → (AWh (d + 1) [] 77 R 10 [some (mR a), some (mI (p : Int)), some (mI (e : Int))] [] hp (0, 0) ↔ R (some (mI (rnE dgt b tc f e : Int))) hp) := by
    intro f
    induction f with
    | zero => intro e h1 h2; omega
    | succ f ih =>
      intro e h1 h2
      have be : e < 2147483648 := by omega
      have bc : tc < 2147483648 := by omega
      unfold rnE
      by_cases hlt : e < tc
      · have ce : (e : Int) < (tc : Int) := by omega
        have i1 := ih (e + 1) (by omega) (by omega)
        have e200 : e < 200 := by omega
        have bb := (hb.2 e e200).2
        obtain ⟨g1, g2⟩ := b200 hb e200
        rw [AWh_k, k_X8_endOfWord_10]
        simp only [AW_k, AWk_1, x_iload_1, x_push_i, x_push_l, x_iadd, x_istore_2, x_aload_0, x_aloads_0, x_getf, x_iald, x_ialds, x_call_1, x_if_eq, x_iload_2, x_icmp_ge, x_iinc_2, x_goto, x_ret, x_ret_i, x_ret_z, x_ret_l, x_ret_c, unl_i, unl_l, unl_q, unl_r, unl_s, unl_n, k_X8_endOfWord_0, k_X8_endOfWord_1, k_X8_endOfWord_2, k_X8_endOfWord_3, k_X8_endOfWord_4, k_X8_endOfWord_5, k_X8_endOfWord_6, k_X8_endOfWord_7, k_X8_endOfWord_8, k_X8_endOfWord_9, k_X8_endOfWord_10, k_X8_endOfWord_11, k_X8_endOfWord_12, k_X8_endOfWord_13, k_X8_endOfWord_14, k_X8_endOfWord_15, k_X8_endOfWord_16, k_X8_endOfWord_17, k_X8_endOfWord_18, k_X8_endOfWord_19, k_X8_endOfWord_20, k_X8_endOfWord_21, k_X8_endOfWord_22, k_X8_endOfWord_23, k_X8_endOfWord_24, k_X8_endOfWord_25, k_X8_endOfWord_26, k_X8_endOfWord_27, k_X8_endOfWord_28, k_X8_endOfWord_29, k_X8_endOfWord_30, k_X8_endOfWord_31, k_X8_endOfWord_32, k_X8_endOfWord_33, k_X8_endOfWord_34, k_X8_endOfWord_35, k_X8_endOfWord_36, k_X8_endOfWord_37, k_X8_endOfWord_38, k_X8_endOfWord_39, k_X8_endOfWord_40, k_X8_endOfWord_41, oE_some, Int.reduceToNat, Nat.reduceAdd, true_and, and_true, List.length_cons, List.length_nil, Option.toList_some, Option.toList_none, List.cons_append, List.nil_append, Nat.reduceLeDiff, Nat.le_refl, wdS_nil, wdS_i, wdS_l, wdS_r, wdS_n, wdS_s, h.1.1, h.1.2.2.1, h.2.1, g1, g2, c8_isDigit d bb, w32_zI_0, ite_bf]
        rw [w32_nat be, w32_nat bc, if_pos ce, decide_eq_true hlt, Bool.true_and]
        cases dgt (b e)
        · exact Iff.rfl
        · exact i1
      · have ce : ¬ (e : Int) < (tc : Int) := by omega
        rw [AWh_k, k_X8_endOfWord_10]
        simp only [AW_k, AWk_1, x_iload_1, x_push_i, x_push_l, x_iadd, x_istore_2, x_aload_0, x_aloads_0, x_getf, x_iald, x_ialds, x_call_1, x_if_eq, x_iload_2, x_icmp_ge, x_iinc_2, x_goto, x_ret, x_ret_i, x_ret_z, x_ret_l, x_ret_c, unl_i, unl_l, unl_q, unl_r, unl_s, unl_n, k_X8_endOfWord_0, k_X8_endOfWord_1, k_X8_endOfWord_2, k_X8_endOfWord_3, k_X8_endOfWord_4, k_X8_endOfWord_5, k_X8_endOfWord_6, k_X8_endOfWord_7, k_X8_endOfWord_8, k_X8_endOfWord_9, k_X8_endOfWord_10, k_X8_endOfWord_11, k_X8_endOfWord_12, k_X8_endOfWord_13, k_X8_endOfWord_14, k_X8_endOfWord_15, k_X8_endOfWord_16, k_X8_endOfWord_17, k_X8_endOfWord_18, k_X8_endOfWord_19, k_X8_endOfWord_20, k_X8_endOfWord_21, k_X8_endOfWord_22, k_X8_endOfWord_23, k_X8_endOfWord_24, k_X8_endOfWord_25, k_X8_endOfWord_26, k_X8_endOfWord_27, k_X8_endOfWord_28, k_X8_endOfWord_29, k_X8_endOfWord_30, k_X8_endOfWord_31, k_X8_endOfWord_32, k_X8_endOfWord_33, k_X8_endOfWord_34, k_X8_endOfWord_35, k_X8_endOfWord_36, k_X8_endOfWord_37, k_X8_endOfWord_38, k_X8_endOfWord_39, k_X8_endOfWord_40, k_X8_endOfWord_41, oE_some, Int.reduceToNat, Nat.reduceAdd, true_and, and_true, List.length_cons, List.length_nil, Option.toList_some, Option.toList_none, List.cons_append, List.nil_append, Nat.reduceLeDiff, Nat.le_refl, wdS_nil, wdS_i, wdS_l, wdS_r, wdS_n, wdS_s, h.1.1]
        rw [w32_nat be, w32_nat bc, if_neg ce, decide_eq_false hlt]
        exact Iff.rfl
  have k2 : ∀ (f e : Nat), tc < e + f → e ≤ tc → (AWh (d + 1) [] 77 R 28 [some (mR a), some (mI (p : Int)), some (mI (e : Int))] [] hp (0, 0) ↔ R (some (mI (rnE ltr b tc f e : Int))) hp) := by
    intro f
    induction f with
    | zero => intro e h1 h2; omega
    | succ f ih =>
      intro e h1 h2
      have be : e < 2147483648 := by omega
      have bc : tc < 2147483648 := by omega
      unfold rnE
      by_cases hlt : e < tc
      · have ce : (e : Int) < (tc : Int) := by omega
        have i1 := ih (e + 1) (by omega) (by omega)
        have e200 : e < 200 := by omega
        have bb := (hb.2 e e200).2
        obtain ⟨g1, g2⟩ := b200 hb e200
        rw [AWh_k, k_X8_endOfWord_28]
        simp only [AW_k, AWk_1, x_iload_1, x_push_i, x_push_l, x_iadd, x_istore_2, x_aload_0, x_aloads_0, x_getf, x_iald, x_ialds, x_call_1, x_if_eq, x_iload_2, x_icmp_ge, x_iinc_2, x_goto, x_ret, x_ret_i, x_ret_z, x_ret_l, x_ret_c, unl_i, unl_l, unl_q, unl_r, unl_s, unl_n, k_X8_endOfWord_0, k_X8_endOfWord_1, k_X8_endOfWord_2, k_X8_endOfWord_3, k_X8_endOfWord_4, k_X8_endOfWord_5, k_X8_endOfWord_6, k_X8_endOfWord_7, k_X8_endOfWord_8, k_X8_endOfWord_9, k_X8_endOfWord_10, k_X8_endOfWord_11, k_X8_endOfWord_12, k_X8_endOfWord_13, k_X8_endOfWord_14, k_X8_endOfWord_15, k_X8_endOfWord_16, k_X8_endOfWord_17, k_X8_endOfWord_18, k_X8_endOfWord_19, k_X8_endOfWord_20, k_X8_endOfWord_21, k_X8_endOfWord_22, k_X8_endOfWord_23, k_X8_endOfWord_24, k_X8_endOfWord_25, k_X8_endOfWord_26, k_X8_endOfWord_27, k_X8_endOfWord_28, k_X8_endOfWord_29, k_X8_endOfWord_30, k_X8_endOfWord_31, k_X8_endOfWord_32, k_X8_endOfWord_33, k_X8_endOfWord_34, k_X8_endOfWord_35, k_X8_endOfWord_36, k_X8_endOfWord_37, k_X8_endOfWord_38, k_X8_endOfWord_39, k_X8_endOfWord_40, k_X8_endOfWord_41, oE_some, Int.reduceToNat, Nat.reduceAdd, true_and, and_true, List.length_cons, List.length_nil, Option.toList_some, Option.toList_none, List.cons_append, List.nil_append, Nat.reduceLeDiff, Nat.le_refl, wdS_nil, wdS_i, wdS_l, wdS_r, wdS_n, wdS_s, h.1.1, h.1.2.2.1, h.2.1, g1, g2, c8_isLetter d bb, w32_zI_0, ite_bf]
        rw [w32_nat be, w32_nat bc, if_pos ce, decide_eq_true hlt, Bool.true_and]
        cases ltr (b e)
        · exact Iff.rfl
        · exact i1
      · have ce : ¬ (e : Int) < (tc : Int) := by omega
        rw [AWh_k, k_X8_endOfWord_28]
        simp only [AW_k, AWk_1, x_iload_1, x_push_i, x_push_l, x_iadd, x_istore_2, x_aload_0, x_aloads_0, x_getf, x_iald, x_ialds, x_call_1, x_if_eq, x_iload_2, x_icmp_ge, x_iinc_2, x_goto, x_ret, x_ret_i, x_ret_z, x_ret_l, x_ret_c, unl_i, unl_l, unl_q, unl_r, unl_s, unl_n, k_X8_endOfWord_0, k_X8_endOfWord_1, k_X8_endOfWord_2, k_X8_endOfWord_3, k_X8_endOfWord_4, k_X8_endOfWord_5, k_X8_endOfWord_6, k_X8_endOfWord_7, k_X8_endOfWord_8, k_X8_endOfWord_9, k_X8_endOfWord_10, k_X8_endOfWord_11, k_X8_endOfWord_12, k_X8_endOfWord_13, k_X8_endOfWord_14, k_X8_endOfWord_15, k_X8_endOfWord_16, k_X8_endOfWord_17, k_X8_endOfWord_18, k_X8_endOfWord_19, k_X8_endOfWord_20, k_X8_endOfWord_21, k_X8_endOfWord_22, k_X8_endOfWord_23, k_X8_endOfWord_24, k_X8_endOfWord_25, k_X8_endOfWord_26, k_X8_endOfWord_27, k_X8_endOfWord_28, k_X8_endOfWord_29, k_X8_endOfWord_30, k_X8_endOfWord_31, k_X8_endOfWord_32, k_X8_endOfWord_33, k_X8_endOfWord_34, k_X8_endOfWord_35, k_X8_endOfWord_36, k_X8_endOfWord_37, k_X8_endOfWord_38, k_X8_endOfWord_39, k_X8_endOfWord_40, k_X8_endOfWord_41, oE_some, Int.reduceToNat, Nat.reduceAdd, true_and, and_true, List.length_cons, List.length_nil, Option.toList_some, Option.toList_none, List.cons_append, List.nil_append, Nat.reduceLeDiff, Nat.le_refl, wdS_nil, wdS_i, wdS_l, wdS_r, wdS_n, wdS_s, h.1.1]
        rw [w32_nat be, w32_nat bc, if_neg ce, decide_eq_false hlt]
        exact Iff.rfl
  have q1 := k1 200 (p + 1) (by omega) (by omega)
  have q2 := k2 200 (p + 1) (by omega) (by omega)
  have p200 : p < 200 := by omega
  have bb := (hb.2 p p200).2
  have ep : (p : Int) + 1 = ((p + 1 : Nat) : Int) := rfl
  obtain ⟨g1, g2⟩ := b200 hb p200
  unfold eow
  rw [callD_k]; simp only [entL_i, entL_l, entL_q, entL_s, entL_nil, n_X8_endOfWord, u_X8_endOfWord, m_X8_endOfWord, rep_1, List.cons_append, List.nil_append, List.append_nil, List.length_cons, List.length_nil, Nat.reduceAdd, true_and]
  simp only [AW_k, AWk_1, x_iload_1, x_push_i, x_push_l, x_iadd, x_istore_2, x_aload_0, x_aloads_0, x_getf, x_iald, x_ialds, x_call_1, x_if_eq, x_iload_2, x_icmp_ge, x_iinc_2, x_goto, x_ret, x_ret_i, x_ret_z, x_ret_l, x_ret_c, unl_i, unl_l, unl_q, unl_r, unl_s, unl_n, k_X8_endOfWord_0, k_X8_endOfWord_1, k_X8_endOfWord_2, k_X8_endOfWord_3, k_X8_endOfWord_4, k_X8_endOfWord_5, k_X8_endOfWord_6, k_X8_endOfWord_7, k_X8_endOfWord_8, k_X8_endOfWord_9, k_X8_endOfWord_10, k_X8_endOfWord_11, k_X8_endOfWord_12, k_X8_endOfWord_13, k_X8_endOfWord_14, k_X8_endOfWord_15, k_X8_endOfWord_16, k_X8_endOfWord_17, k_X8_endOfWord_18, k_X8_endOfWord_19, k_X8_endOfWord_20, k_X8_endOfWord_21, k_X8_endOfWord_22, k_X8_endOfWord_23, k_X8_endOfWord_24, k_X8_endOfWord_25, k_X8_endOfWord_26, k_X8_endOfWord_27, k_X8_endOfWord_28, k_X8_endOfWord_29, k_X8_endOfWord_30, k_X8_endOfWord_31, k_X8_endOfWord_32, k_X8_endOfWord_33, k_X8_endOfWord_34, k_X8_endOfWord_35, k_X8_endOfWord_36, k_X8_endOfWord_37, k_X8_endOfWord_38, k_X8_endOfWord_39, k_X8_endOfWord_40, k_X8_endOfWord_41, oE_some, Int.reduceToNat, Nat.reduceAdd, true_and, and_true, List.length_cons, List.length_nil, Option.toList_some, Option.toList_none, List.cons_append, List.nil_append, Nat.reduceLeDiff, Nat.le_refl, wdS_nil, wdS_i, wdS_l, wdS_r, wdS_n, wdS_s, h.1.2.2.1, h.2.1, g1, g2, c8_isDigit d bb, c8_isLetter d bb, w32_zI_0, ite_bf, ep]
  cases dgt (b p)
  · cases ltr (b p)
    · exact Iff.rfl
    · exact q2
  · exact q1
