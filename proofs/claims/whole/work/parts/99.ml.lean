/-! ===== the reference tells the arcs ===== -/
/-- the arcs' tables up to x, the forced ones as they are -/
def TAx (hp : HP) (n x : Nat) (l1 l2 l3 : List Int) (l4 : List (BitVec 64)) : Prop := MK hp n ∧ (gF hp 54 11 13 = some (mR 59) ∧ gF hp 54 11 14 = some (mR 60) ∧ gF hp 54 11 15 = some (mR 61) ∧ gF hp 54 11 16 = some (mR 62) ∧ gF hp 54 11 17 = some (mI (x : Int))) ∧ (gA hp 59 = some l1 ∧ gA hp 60 = some l2 ∧ gA hp 61 = some l3 ∧ gJ hp 62 = some l4) ∧ (l1.length = 57 ∧ l2.length = 57 ∧ l3.length = 57 ∧ l4.length = 57) ∧ ∀ k, k < x → l1.getD k 0 = ((lo n k : Nat) : Int) ∧ l2.getD k 0 = ((hi n k : Nat) : Int) ∧ l3.getD k 0 = ((lf n k : Nat) : Int)
/-- only the arcs' tables are new -/
def TFr (hp h : HP) : Prop := h.length = hp.length ∧ (∀ k, k ≠ 54 → k < 59 ∨ 63 ≤ k → h[k]? = hp[k]?) ∧ ∀ fs, hp[54]? = some (.inl (11, fs)) → ∃ v, h[54]? = some (.inl (11, fs.set 17 v))
theorem TFr_refl' {hp : HP} {v : AV} (h : gF hp 54 11 17 = some v) : TFr hp hp := by
  refine ⟨rfl, fun _ _ _ => rfl, fun fs e => ⟨v, ?_⟩⟩
  rw [e]
  congr 3
  have e2 : fs[17]? = some v := by
    unfold gF at h
    rw [e] at h
    exact h
  apply List.ext_getElem?
  intro k
  by_cases c : 17 = k
  · subst c
    have hl : 17 < fs.length := (List.getElem?_eq_some_iff.mp e2).1
    rw [List.getElem?_set_self hl, e2]
  · rw [List.getElem?_set_ne c]
theorem TFr_trans {h1 h2 h3 : HP} (a : TFr h1 h2) (b : TFr h2 h3) : TFr h1 h3 := by
  refine ⟨b.1.trans a.1, fun k x y => (b.2.1 k x y).trans (a.2.1 k x y), fun fs e => ?_⟩
  obtain ⟨v, ev⟩ := a.2.2 fs e
  obtain ⟨w, ew⟩ := b.2.2 _ ev
  exact ⟨w, by rw [ew, List.set_set]⟩
theorem TFr_Fr {a b : Nat} {hp h : HP} {v : AV} (g : gF hp 54 11 17 = some v) (f : Fr a b hp h) (o : 59 ≤ a ∧ b ≤ 63) : TFr hp h := by
  obtain ⟨q1, q2, q3⟩ := TFr_refl' g
  refine ⟨f.1, fun k x y => f.2 k (by omega), fun fs e => ?_⟩
  obtain ⟨w, ew⟩ := q3 fs e
  exact ⟨w, by rw [f.2 54 (by omega)]; exact ew⟩
theorem TFr_pF {hp : HP} {w : AV} : TFr hp (pF hp 54 11 17 w) := by
  have f : Fr 54 55 hp (pF hp 54 11 17 w) := Fr_pF (Nat.le_refl _) (Nat.lt_succ_self _)
  exact ⟨f.1, fun k x y => f.2 k (by omega), fun fs e => ⟨w, pF_cell e⟩⟩
theorem MK_pA {hp : HP} {n a : Nat} {l : List Int} (h : MK hp n) (ha : a ≠ 63 ∧ a ≠ 64) : MK (pA hp a l) n := by
  obtain ⟨k, k1, k2, k3, k4, k5⟩ := h
  exact ⟨k, by rw [gF_pA, k1], by rw [gF_pA, k2], by rw [gF_pA, k3], by rw [gA_pA ha.1, k4], by rw [gA_pA ha.2, k5]⟩
theorem MK_pJ {hp : HP} {n a : Nat} {l : List (BitVec 64)} (h : MK hp n) : MK (pJ hp a l) n := by
  obtain ⟨k, k1, k2, k3, k4, k5⟩ := h
  exact ⟨k, by rw [gF_pJ, k1], by rw [gF_pJ, k2], by rw [gF_pJ, k3], by rw [gA_pJ, k4], by rw [gA_pJ, k5]⟩
theorem MK_pF {hp : HP} {n f : Nat} {v : AV} (h : MK hp n) (hf : f ≠ 0 ∧ f ≠ 18 ∧ f ≠ 19) : MK (pF hp 54 11 f v) n := by
  obtain ⟨k, k1, k2, k3, k4, k5⟩ := h
  exact ⟨k, by rw [gF_pF (by omega), k1], by rw [gF_pF (by omega), k2], by rw [gF_pF (by omega), k3], by rw [gA_pF, k4], by rw [gA_pF, k5]⟩
/-- one more arc -/
theorem TA_add {h : HP} {n x a b l : Nat} {l1 l2 l3 : List Int} {l4 : List (BitVec 64)} (hT : TAx h n x l1 l2 l3 l4) (hx : x < 57) (ea : lo n x = a) (eb : hi n x = b) (el : lf n x = l) : TAx (pF (pA (pA (pA h 59 (l1.set x (a : Int))) 60 (l2.set x (b : Int))) 61 (l3.set x (l : Int))) 54 11 17 (mI ((x + 1 : Nat) : Int))) n (x + 1) (l1.set x (a : Int)) (l2.set x (b : Int)) (l3.set x (l : Int)) l4 ∧ TFr h (pF (pA (pA (pA h 59 (l1.set x (a : Int))) 60 (l2.set x (b : Int))) 61 (l3.set x (l : Int))) 54 11 17 (mI ((x + 1 : Nat) : Int))) := by
  obtain ⟨hK, ⟨g13, g14, g15, g16, g17⟩, ⟨a1, a2, a3, a4⟩, ⟨n1, n2, n3, n4⟩, hv⟩ := hT
  refine ⟨⟨MK_pF (MK_pA (MK_pA (MK_pA hK (by omega)) (by omega)) (by omega)) (by omega), ⟨?_, ?_, ?_, ?_, ?_⟩, ⟨?_, ?_, ?_, ?_⟩, ⟨by rw [List.length_set]; exact n1, by rw [List.length_set]; exact n2, by rw [List.length_set]; exact n3, n4⟩, fun k hk => ?_⟩, ?_⟩
  · rw [gF_pF (by omega), gF_pA, gF_pA, gF_pA, g13]
  · rw [gF_pF (by omega), gF_pA, gF_pA, gF_pA, g14]
  · rw [gF_pF (by omega), gF_pA, gF_pA, gF_pA, g15]
  · rw [gF_pF (by omega), gF_pA, gF_pA, gF_pA, g16]
  · exact gF_pF_same (w := mI (x : Int)) (by rw [gF_pA, gF_pA, gF_pA, g17])
  · rw [gA_pF, gA_pA (by omega), gA_pA (by omega)]; exact gA_pA_same a1
  · rw [gA_pF, gA_pA (by omega)]; exact gA_pA_same (by rw [gA_pA (by omega), a2])
  · rw [gA_pF]; exact gA_pA_same (by rw [gA_pA (by omega), gA_pA (by omega), a3])
  · rw [gJ_pF, gJ_pA, gJ_pA, gJ_pA, a4]
  · rw [getD_set (by omega), getD_set (by omega), getD_set (by omega)]
    by_cases e : x = k
    · subst e; rw [if_pos rfl, if_pos rfl, if_pos rfl, ea, eb, el]; exact ⟨rfl, rfl, rfl⟩
    · rw [if_neg e, if_neg e, if_neg e]; exact hv k (by omega)
  · have f : Fr 59 63 h (pA (pA (pA h 59 (l1.set x (a : Int))) 60 (l2.set x (b : Int))) 61 (l3.set x (l : Int))) := Fr_trans (Fr_trans (Fr_pA (by omega) (by omega)) (Fr_pA (by omega) (by omega))) (Fr_pA (by omega) (by omega))
    exact TFr_trans (TFr_Fr g17 f (by omega)) TFr_pF
def oe_b (n : Nat) : Bool := oA n 1 == 0 && (oA n (n + 1) == NA n && allB (fun a => decide (a = 0) || (oF n a (n + 1) == oA n (a + 1) && oF n a (a + 1) == oA n a)) (n + 1))
theorem oe_c : all6 oe_b = true := by decide +kernel
theorem oe_ok {n : Nat} (h1 : 1 ≤ n) (h6 : n ≤ 6) : oA n 1 = 0 ∧ oA n (n + 1) = NA n ∧ ∀ a, 1 ≤ a → a ≤ n → oF n a (n + 1) = oA n (a + 1) ∧ oF n a (a + 1) = oA n a := by
  have := all6_of oe_c h1 h6
  unfold oe_b at this
  rw [Bool.and_eq_true, Bool.and_eq_true, beq_iff_eq, beq_iff_eq] at this
  refine ⟨this.1, this.2.1, fun a a1 an => ?_⟩
  have q := allB_of this.2.2 a (by omega)
  rw [decide_eq_false (by omega), Bool.false_or, Bool.and_eq_true, beq_iff_eq, beq_iff_eq] at q
  exact q
set_option maxHeartbeats 32000000 in
theorem ta_l (d : Nat) {n a b : Nat} {R : PO} (h1 : 1 ≤ n) (h6 : n ≤ 6) (a1 : 1 ≤ a) (ab : a < b) (bn : b ≤ n) : ∀ (m l : Nat) (h : HP) (l1 l2 l3 : List Int) (l4 : List (BitVec 64)), l + m = 2 ^ (b - a - 1) → TAx h n (oF n a b + l) l1 l2 l3 l4 → ∃ h' l1' l2' l3', TAx h' n (oF n a (b + 1)) l1' l2' l3' l4 ∧ TFr h h' ∧ (AWh (d + 4) [] 183 R 19 [some (mR 54), some (mI (a : Int)), some (mI (b : Int)), some (mI (l : Int))] [] h (0, 0) ↔ AWk (d + 4) [] 183 R 54 (cd 183 54) [some (mR 54), some (mI (a : Int)), some (mI (b : Int)), some (mI ((2 ^ (b - a - 1) : Nat) : Int))] [] h' (0, 0)) := by
  obtain ⟨o1, o2, o3⟩ := om h1 h6 a1 ab bn
  have k31 : b - a - 1 < 31 := by omega
  have ek : (b : Int) - (a : Int) - 1 = ((b - a - 1 : Nat) : Int) := by omega
  have pw := pow31 k31
  have fN := NA_le n
  intro m
  induction m with
  | zero =>
    intro l h l1 l2 l3 l4 hl hT
    have e : l = 2 ^ (b - a - 1) := by omega
    subst e
    rw [← o1] at hT
    refine ⟨h, l1, l2, l3, hT, TFr_refl' hT.2.1.2.2.2.2, ?_⟩
    rw [AWh_k, k_X11_tellsArcs_19]
    simp only [AW_k, AWk_1, x_iload_3, x_push_i, x_push_l, x_iload_2, x_iload_1, x_isub, x_ishl, x_icmp_ge, k_X11_tellsArcs_19, k_X11_tellsArcs_20, k_X11_tellsArcs_21, k_X11_tellsArcs_22, k_X11_tellsArcs_23, k_X11_tellsArcs_24, k_X11_tellsArcs_25, k_X11_tellsArcs_26, k_X11_tellsArcs_27, oE_some, Int.reduceToNat, Nat.reduceAdd, true_and, and_true, List.length_cons, List.length_nil, Option.toList_some, Option.toList_none, List.cons_append, List.nil_append, Nat.reduceLeDiff, Nat.le_refl, wdS_nil, wdS_i, wdS_l, wdS_r, wdS_n, wdS_s, ek, iShl_1 k31]
    rw [if_neg (Int.lt_irrefl _)]
  | succ m ih =>
    intro l h l1 l2 l3 l4 hl hT
    have hl2 : l < 2 ^ (b - a - 1) := by omega
    obtain ⟨v0, v1, v2, v3, -⟩ := o3 l hl2
    have x57 : oF n a b + l < 57 := by omega
    obtain ⟨t1, t2⟩ := TA_add hT x57 v1 v2 v3
    have bl : l < 2147483648 := by omega
    have bx : oF n a b + l < 2147483648 := by omega
    have f1 : ((l : Int) < ((2 ^ (b - a - 1) : Nat) : Int)) = True := eq_true (by omega)
    have e1 : ((oF n a b + l : Nat) : Int) + 1 = ((oF n a b + l + 1 : Nat) : Int) := by omega
    have e2 : (l : Int) + 1 = ((l + 1 : Nat) : Int) := by omega
    obtain ⟨h', l1', l2', l3', u1, u2, u3⟩ := ih (l + 1) _ _ _ _ _ (by omega) t1
    refine ⟨h', l1', l2', l3', u1, TFr_trans t2 u2, Iff.trans ?_ u3⟩
    obtain ⟨hK, ⟨g13, g14, g15, g16, g17⟩, ⟨q1, q2, q3, q4⟩, ⟨n1, n2, n3, n4⟩, hv⟩ := hT
    generalize oF n a b + l = x at *
    have ix : inB (x : Int) 57 := inB_n x57 (by decide)
    have z1 : ∀ m f, gF (pA h 59 m) 54 11 f = gF h 54 11 f := fun m f => gF_pA
    have z2 : ∀ m m2 f, gF (pA (pA h 59 m) 60 m2) 54 11 f = gF h 54 11 f := fun m m2 f => by rw [gF_pA, gF_pA]
    have z3 : ∀ m m2 m3 f, gF (pA (pA (pA h 59 m) 60 m2) 61 m3) 54 11 f = gF h 54 11 f := fun m m2 m3 f => by rw [gF_pA, gF_pA, gF_pA]
    have y2 : ∀ m, gA (pA h 59 m) 60 = some l2 := fun m => by rw [gA_pA (by omega), q2]
    have y3 : ∀ m m2, gA (pA (pA h 59 m) 60 m2) 61 = some l3 := fun m m2 => by rw [gA_pA (by omega), gA_pA (by omega), q3]
    rw [AWh_k, k_X11_tellsArcs_19]
    simp only [AW_k, AWk_1, x_iload_3, x_push_i, x_push_l, x_iload_2, x_iload_1, x_isub, x_ishl, x_icmp_ge, x_aload_0, x_aloads_0, x_getf, x_iast, x_dup_i, x_dup_r, x_dup_q, x_iadd, x_putf_i, x_iinc_3, x_goto, unl_i, unl_l, unl_q, unl_r, unl_s, unl_n, k_X11_tellsArcs_19, k_X11_tellsArcs_20, k_X11_tellsArcs_21, k_X11_tellsArcs_22, k_X11_tellsArcs_23, k_X11_tellsArcs_24, k_X11_tellsArcs_25, k_X11_tellsArcs_26, k_X11_tellsArcs_27, k_X11_tellsArcs_28, k_X11_tellsArcs_29, k_X11_tellsArcs_30, k_X11_tellsArcs_31, k_X11_tellsArcs_32, k_X11_tellsArcs_33, k_X11_tellsArcs_34, k_X11_tellsArcs_35, k_X11_tellsArcs_36, k_X11_tellsArcs_37, k_X11_tellsArcs_38, k_X11_tellsArcs_39, k_X11_tellsArcs_40, k_X11_tellsArcs_41, k_X11_tellsArcs_42, k_X11_tellsArcs_43, k_X11_tellsArcs_44, k_X11_tellsArcs_45, k_X11_tellsArcs_46, k_X11_tellsArcs_47, k_X11_tellsArcs_48, k_X11_tellsArcs_49, k_X11_tellsArcs_50, k_X11_tellsArcs_51, k_X11_tellsArcs_52, k_X11_tellsArcs_53, oE_some, Int.reduceToNat, Nat.reduceAdd, true_and, and_true, List.length_cons, List.length_nil, Option.toList_some, Option.toList_none, List.cons_append, List.nil_append, Nat.reduceLeDiff, Nat.le_refl, wdS_nil, wdS_i, wdS_l, wdS_r, wdS_n, wdS_s, ek, iShl_1 k31, w32_nat bl, w32_nat pw, f1, z1, z2, z3, g13, g14, g15, g17, q1, y2, y3, n1, n2, n3, ix, w32_tn bx, Int.toNat_natCast, e1, e2, ↓reduceIte]
    all_goals exact Iff.rfl
