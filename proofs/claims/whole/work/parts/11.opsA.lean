def fall (M k n len : Nat) : Bool := decide (len = n) && decide (pcO M (k + 1) = pcO M k + n)
theorem fall_of {M k n len : Nat} (h : fall M k n len = true) : len = n ∧ pcO M (k + 1) = pcO M k + n := by
  unfold fall at h
  simpa using h
abbrev CKt : Type := Nat → Nat → Nat → Nat → AV → List (Int × Nat) → Instr → Nat → Bool
def lkO (M k : Nat) : Nat := ((mP M).getD k (0, 0, 0)).2.2
def ck_s (I : Instr) : CKt := fun M k _ _ _ _ i len => decide (i = I) && fall M k 1 len
theorem ck_s_of {I : Instr} {M k a b : Nat} {v : AV} {l0 : List (Int × Nat)} {i : Instr} {len : Nat} (h : ck_s I M k a b v l0 i len = true) : i = I ∧ len = 1 ∧ pcO M (k + 1) = pcO M k + 1 := by
  unfold ck_s at h
  simp only [Bool.and_eq_true, decide_eq_true_eq] at h
  exact ⟨h.1, fall_of h.2⟩
def ck_push : CKt := fun M k _ _ v _ i len => match i, v with
  | .iconst n, .inl x => decide (Int32.ofInt n = Int32.ofInt x) && fall M k 1 len
  | .bipush n, .inl x => decide ((Int8.ofInt n).toInt32 = Int32.ofInt x) && fall M k 2 len
  | .sipush n, .inl x => decide ((Int16.ofInt n).toInt32 = Int32.ofInt x) && fall M k 3 len
  | .lconst n, .inr (.inl x) => decide (Int64.ofNat n.val = Int64.ofBitVec x) && fall M k 1 len
  | .ldc j, .inl x => (match CNW[lkO M k]? with | some q => decide (q.1 = (mr M).1) && decide (q.2.1 = j) && decide (q.2.2.1 = x) | none => false) && fall M k 2 len
  | .ldc_w j, .inl x => (match CNW[lkO M k]? with | some q => decide (q.1 = (mr M).1) && decide (q.2.1 = j) && decide (q.2.2.1 = x) | none => false) && fall M k 3 len
  | .ldc2_w j, .inr (.inl x) => (match CLW[lkO M k]? with | some q => decide (q.1 = (mr M).1) && decide (q.2.1 = j) && decide (q.2.2.1 = x) | none => false) && fall M k 3 len
  | _, _ => false
def ck_iload : CKt := fun M k a _ _ _ i len => match i with
  | .iload_n j => decide (j.val = a) && fall M k 1 len
  | .iload j => decide (j = a) && fall M k 2 len
  | _ => false
def ck_lload : CKt := fun M k a _ _ _ i len => match i with
  | .lload_n j => decide (j.val = a) && fall M k 1 len
  | .lload j => decide (j = a) && fall M k 2 len
  | _ => false
def ck_aload : CKt := fun M k a _ _ _ i len => match i with
  | .aload_n j => decide (j.val = a) && fall M k 1 len
  | .aload j => decide (j = a) && fall M k 2 len
  | _ => false
def ck_istore : CKt := fun M k a _ _ _ i len => match i with
  | .istore_n j => decide (j.val = a) && fall M k 1 len
  | .istore j => decide (j = a) && fall M k 2 len
  | _ => false
def ck_lstore : CKt := fun M k a _ _ _ i len => match i with
  | .lstore_n j => decide (j.val = a) && fall M k 1 len
  | .lstore j => decide (j = a) && fall M k 2 len
  | _ => false
def ck_astore : CKt := fun M k a _ _ _ i len => match i with
  | .astore_n j => decide (j.val = a) && fall M k 1 len
  | .astore j => decide (j = a) && fall M k 2 len
  | _ => false
def ck_iinc : CKt := fun M k a _ v _ i len => match i, v with
  | .iinc j n, .inl x => decide (j = a) && decide (n = x) && fall M k 3 len
  | _, _ => false
def cdN : ClassFile.Cond → Nat
  | .eq => 0 | .ne => 1 | .lt => 2 | .ge => 3 | .gt => 4 | .le => 5
def ck_if : CKt := fun M k a b _ _ i len => match i with
  | .ifCond cd off => decide (cdN cd = a) && decide ((pcO M k : Int) + off = (pcO M b : Int)) && fall M k 3 len
  | _ => false
def ck_icmp : CKt := fun M k a b _ _ i len => match i with
  | .if_icmp cd off => decide (cdN cd = a) && decide ((pcO M k : Int) + off = (pcO M b : Int)) && fall M k 3 len
  | _ => false
def ck_goto : CKt := fun M k _ b _ _ i len => match i with
  | .goto off => decide ((pcO M k : Int) + off = (pcO M b : Int)) && decide (len = 3)
  | _ => false
def ck_nonnull : CKt := fun M k _ b _ _ i len => match i with
  | .ifnonnull off => decide ((pcO M k : Int) + off = (pcO M b : Int)) && fall M k 3 len
  | _ => false
/-- the cases of a tableswitch from lo on; of a lookupswitch -/
def tsw (M pc : Nat) : Int → List Int → List (Int × Nat) → Bool
  | _, [], [] => true
  | lo, off :: os, (x, t) :: ls => decide (x = lo) && decide ((pc : Int) + off = (pcO M t : Int)) && tsw M pc (lo + 1) os ls
  | _, _, _ => false
def lsw (M pc : Nat) : List (Int × Int) → List (Int × Nat) → Bool
  | [], [] => true
  | (y, off) :: os, (x, t) :: ls => decide (x = y) && decide ((pc : Int) + off = (pcO M t : Int)) && lsw M pc os ls
  | _, _ => false
def ck_switch : CKt := fun M k _ b _ l0 i _ => match i with
  | .tableswitch d lo hi offs => decide ((pcO M k : Int) + d = (pcO M b : Int)) && decide (hi = lo + offs.toList.length - 1) && tsw M (pcO M k) lo offs.toList l0
  | .lookupswitch d ps => decide ((pcO M k : Int) + d = (pcO M b : Int)) && (ps.toList.zip (ps.toList.drop 1)).all (fun (a, next) => decide (a.1 < next.1)) && lsw M (pcO M k) ps.toList l0
  | _ => false
def ck_getf : CKt := fun M k a b _ _ i len => match i with
  | .getfield j => (match FLW[lkO M k]? with | some q => decide (q.1 = (mr M).1) && decide (q.2.1 = j) && decide (q.2.2.1 = a) && decide (q.2.2.2.1 = b) | none => false) && fall M k 3 len
  | _ => false
def kdN : FieldType → Nat
  | .int => 0 | .boolean => 1 | .long => 2 | .object _ => 3 | .array _ => 3 | _ => 9
def ck_putf : CKt := fun M k a b v _ i len => match i, v with
  | .putfield j, .inl x => (match FLW[lkO M k]? with | some q => decide (q.1 = (mr M).1) && decide (q.2.1 = j) && decide (q.2.2.1 = a) && decide (q.2.2.2.1 = b) | none => false) && fall M k 3 len && decide ((parseFieldDescriptor ((clT a).2.1 b).2.2.1).map kdN = some x.toNat) && (decide (((clT a).2.1 b).2.2.2 = false) || (decide (((clT a).2.1 b).2.2.2 = true) && decide ((mY M).name = "<init>") && decide (((clT a).2.1 b).1 = mO M)))
  | _, _ => false
def ck_gets : CKt := fun M k a _ _ _ i len => match i with
  | .getstatic j => (match GSW[lkO M k]? with | some q => decide (q.1 = (mr M).1) && decide (q.2.1 = j) && decide (q.2.2.1 = a) | none => false) && fall M k 3 len
  | _ => false
def ck_gcs : CKt := fun M k _ _ _ _ i len => match i with
  | .getstatic j => (match GSW[lkO M k]? with | some q => decide (q.1 = (mr M).1) && decide (q.2.1 = j) && decide (q.2.2.1 = 301) | none => false) && fall M k 3 len
  | _ => false
def ck_ldcs : CKt := fun M k a _ _ _ i len => match i with
  | .ldc j => (match SRW[lkO M k]? with | some q => decide (q.1 = (mr M).1) && decide (q.2.1 = j) && decide (q.2.2 = a) | none => false) && fall M k 2 len
  | .ldc_w j => (match SRW[lkO M k]? with | some q => decide (q.1 = (mr M).1) && decide (q.2.1 = j) && decide (q.2.2 = a) | none => false) && fall M k 3 len
  | _ => false
def ck_newa : CKt := fun M k a _ _ _ i len => match i with
  | .newarray t => decide ((t = .int ∧ a = 0) ∨ (t = .boolean ∧ a = 1) ∨ (t = .long ∧ a = 2)) && fall M k 2 len
  | _ => false
def ck_newq : CKt := fun M k a _ _ _ i len => match i with
  | .anewarray j => (match ARW[lkO M k]? with | some q => decide (q.1 = (mr M).1) && decide (q.2.1 = j) && decide (q.2.2.1 = 0) | none => false) && fall M k 3 len && decide (a = 0)
  | _ => false
def ck_newg : CKt := fun M k a _ _ _ i len => match i with
  | .multianewarray j n => (match ARW[lkO M k]? with | some q => decide (q.1 = (mr M).1) && decide (q.2.1 = j) && decide (q.2.2.1 = 1) | none => false) && fall M k 4 len && decide (a = 1) && decide (n = 2)
  | _ => false
def ck_new : CKt := fun M k a _ _ _ i len => match i with
  | .new j => (match NEW[lkO M k]? with | some q => decide (q.1 = (mr M).1) && decide (q.2.1 = j) && decide (q.2.2.1 = a) | none => false) && fall M k 3 len
  | _ => false
def ck_tf (w : Nat) : CKt := fun M k _ _ _ _ i len => match i with
  | .getfield j => (match TFW[lkO M k]? with | some q => decide (q.1 = (mr M).1) && decide (q.2.1 = j) && decide (q.2.2.1 = w) | none => false) && fall M k 3 len
  | _ => false
def ck_oinit : CKt := fun M k _ _ _ _ i len => match i with
  | .invokespecial j => (match OIW[lkO M k]? with | some q => decide (q.1 = (mr M).1) && decide (q.2.1 = j) | none => false) && fall M k 3 len
  | _ => false
def ck_copy : CKt := fun M k _ _ _ _ i len => match i with
  | .invokestatic j => (match ACW[lkO M k]? with | some q => decide (q.1 = (mr M).1) && decide (q.2.1 = j) | none => false) && fall M k 3 len
  | _ => false
/-- kd: how it is called; a: the method; b: how many are handed over -/
def ck_ml (kd : List Nat) (j : Nat) : CKt := fun M k a b _ l0 _ len => (match MLW[lkO M k]? with | some q => decide (q.1 = (mr M).1) && decide (q.2.1 = j) && decide (q.2.2.1 = a) && decide (q.2.2.2.1 ∈ kd) && decide (nPar a = some (if q.2.2.2.1 = 1 then b else b - 1)) && decide (q.2.2.2.1 = 1 ∨ 1 ≤ b) | none => false) && fall M k 3 len && decide (l0 = [(Int.ofNat (bu a).1, (bu a).2)])
def ck_call : CKt := fun M k a b v l0 i len => match i with
  | .invokestatic j => ck_ml [1] j M k a b v l0 i len
  | _ => false
def ck_calli : CKt := fun M k a b v l0 i len => match i with
  | .invokespecial j => ck_ml [2, 3] j M k a b v l0 i len
  | _ => false
def ck_callv : CKt := fun M k a b v l0 i len => match i with
  | .invokevirtual j => ck_ml [0] j M k a b v l0 i len && decide (v = mI (mr a).1)
  | _ => false
def ck_callt : CKt := fun M k a b v l0 i len => match i with
  | .invokevirtual j => ck_ml [4] j M k a b v l0 i len
  | _ => false
def ck_alen : CKt := fun M k a _ _ _ i len => decide (i = .arraylength) && fall M k 1 len && decide (a = 0 ∨ a = 2)
/-- of a return: nothing is asked here; it is looked at where a method ends -/
def ck_ret : CKt := fun M _ a _ _ _ i len => decide (len = 1) && (match a with
  | 0 => decide (i = .return_) && decide (mT M = none)
  | 1 => decide (i = .ireturn) && decide (mT M = some .int)
  | 4 => decide (i = .ireturn) && decide (mT M = some .char ∨ mT M = some .byte)
  | 2 => decide (i = .ireturn) && decide (mT M = some .boolean)
  | 3 => decide (i = .lreturn) && decide (mT M = some .long)
  | _ => false)
def ck_aald : CKt := fun M k a _ _ _ i len => decide (i = .aaload) && fall M k 1 len && decide (a = 0 ∨ a = 1)
def ck_aast : CKt := fun M k a b _ _ i len => decide (i = .aastore) && fall M k 1 len && decide (a = 0) && decide (b = 4)
def ck_math (w : Nat) : CKt := fun M k _ _ _ _ i len => match i with
  | .invokestatic j => (match MTW[lkO M k]? with | some q => decide (q.1 = (mr M).1) && decide (q.2.1 = j) && decide (q.2.2.1 = w) | none => false) && fall M k 3 len
  | _ => false
/-- what only some methods may do -/
def ck_gets0 : CKt := fun M k a b v l0 i len => ck_gets M k a b v l0 i len && decide (a ≠ 301)
def ck_slen : CKt := fun M k a b v l0 i len => ck_s .arraylength M k a b v l0 i len && decide (M = nM)
def ck_no : CKt := fun _ _ _ _ _ _ _ _ => false
def cT : List CKt := [ck_push, ck_iload, ck_lload, ck_aload, ck_istore, ck_lstore, ck_astore, ck_iinc,
  ck_s .iadd, ck_s .isub, ck_s .imul, ck_s .idiv, ck_s .irem, ck_s .iand, ck_s .ior, ck_s .ixor, ck_s .ishl, ck_s .ishr, ck_s .iushr, ck_s .ineg,
  ck_s .ladd, ck_s .lsub, ck_s .land, ck_s .lor, ck_s .lxor, ck_s .lshl, ck_s .lushr, ck_s .lcmp,
  ck_s .i2l, ck_s .l2i, ck_s .i2b, ck_s .i2s, ck_s .dup, ck_s .dup2, ck_if, ck_icmp, ck_goto, ck_nonnull, ck_switch, ck_getf,
  ck_putf, ck_gets0, ck_ldcs, ck_s .iaload, ck_s .baload, ck_s .laload, ck_aald, ck_s .iastore, ck_s .bastore, ck_s .lastore, ck_aast, ck_newa, ck_newq, ck_newg, ck_new, ck_call, ck_callv, ck_ret, ck_oinit, ck_copy, ck_copy, ck_tf 0, ck_tf 1, ck_s .baload, ck_gcs, ck_slen, ck_s .arraylength, ck_alen, ck_s .i2c, ck_s .pop, ck_callt, ck_math 0, ck_math 1, ck_math 2, ck_calli]
def ckI (M k : Nat) : Bool := let en := cd M k
  decide (en.2.1 = 99) || (match decode (mC M) (pcO M k) with
    | .ok (i, len) => cT.getD en.2.1 ck_no M k en.2.2.1 en.2.2.2.1 en.2.2.2.2.1 en.2.2.2.2.2 i len
    | .error _ => false)
def cdL (M : Nat) : List (List AI) := (codes.getD (M / 24) []).getD (M % 24) []
def ckM (M : Nat) : Bool := (List.range (mP M).length).all (ckI M) && decide (pcO M 0 = 0) && decide ((cdL M).length ≤ (mP M).length / 24 + 1) && decide ((cdq M ((mP M).length / 24)).length ≤ (mP M).length % 24) && decide (mxN M = mX M)
theorem put2_len (L : LV) (i : Nat) (v : AV) : (put2 L i v).length = L.length := by unfold put2; rw [List.length_set, put1_len]
theorem cat_sum {b0 : Nat} {sv : Nat → Value} (hs : SVok sv) (st : List AV) : ((st.map (cv b0 sv)).map fun v => v.category).sum ≤ 2 * st.length := by
  induction st with
  | nil => exact Nat.zero_le _
  | cons v l ih =>
    have := cv_cat (b0 := b0) hs v
    simp only [List.map_cons, List.sum_cons, List.length_cons]
    have h2 : (cv b0 sv v).category ≤ 2 := by rw [this]; split <;> omega
    omega
theorem cat_sumW {b0 : Nat} {sv : Nat → Value} (hs : SVok sv) (st : List AV) : ((st.map (cv b0 sv)).map fun v => v.category).sum ≤ wdS st := by
  induction st with
  | nil => exact Nat.zero_le _
  | cons v l ih =>
    have := cv_cat (b0 := b0) hs v
    simp only [List.map_cons, List.sum_cons]
    unfold wdS
    rw [this]
    omega
theorem clT_get {a : Nat} (h : a < 12) : vwCl[a]? = some (clT a) := by
  rcases a with _ | _ | _ | _ | _ | _ | _ | _ | _ | _ | _ | _ | a <;> first | rfl | omega
theorem ly_in {a : Nat} (h : a < 12) : ∀ w ∈ u_ws (clT a).1 (clT a).2.1 (clT a).2.2, w ∈ BIG := by
  intro w hw
  obtain ⟨k, hk, rfl⟩ := List.mem_map.mp hw
  exact wIs_mem (List.all_eq_true.mp (List.all_eq_true.mp LYW_ok a (List.mem_range.mpr h)) k hk)
theorem cl_nm {a : Nat} (h : a < 12) : ∀ i, i < (clT a).2.2 → ∀ j, j < (clT a).2.2 → i ≠ j → ((clT a).2.1 i).2.1 ≠ ((clT a).2.1 j).2.1 := by
  rcases a with _ | _ | _ | _ | _ | _ | _ | _ | _ | _ | _ | _ | a <;> first | exact nmX0 | exact nmX1 | exact nmX2 | exact nmX3 | exact nmX4 | exact nmX5 | exact nmX6 | exact nmX7 | exact nmX8 | exact nmX9 | exact nmX10 | exact nmX11 | omega
def tyC (a : Nat) : Nat → FieldType := match a with
  | 0 => tyX0 | 1 => tyX1 | 2 => tyX2 | 3 => tyX3 | 4 => tyX4 | 5 => tyX5 | 6 => tyX6 | 7 => tyX7 | 8 => tyX8 | 9 => tyX9 | 10 => tyX10 | _ => tyX11
theorem cl_ty {a : Nat} (h : a < 12) : ∀ k, k < (clT a).2.2 → parseFieldDescriptor ((clT a).2.1 k).2.2.1 = some (tyC a k) := by
  rcases a with _ | _ | _ | _ | _ | _ | _ | _ | _ | _ | _ | _ | a <;> first | exact tyX0_ok | exact tyX1_ok | exact tyX2_ok | exact tyX3_ok | exact tyX4_ok | exact tyX5_ok | exact tyX6_ok | exact tyX7_ok | exact tyX8_ok | exact tyX9_ok | exact tyX10_ok | exact tyX11_ok | omega
theorem cl_decl {a b : Nat} (h : a < 12) (hb : b < (clT a).2.2) : ((clT a).2.1 b).1 = (clT a).1 := by
  have key : ((List.range 12).all fun a => (List.range (clT a).2.2).all fun b => decide (((clT a).2.1 b).1 = (clT a).1)) = true := by decide +kernel
  exact of_decide_eq_true (List.all_eq_true.mp (List.all_eq_true.mp key a (List.mem_range.mpr h)) b (List.mem_range.mpr hb))
theorem gF_spec {hp : HP} {o ci k : Nat} {v : AV} (h : gF hp o ci k = some v) : ∃ fs, hp[o]? = some (.inl (ci, fs)) ∧ fs[k]? = some v := by
  unfold gF at h
  split at h
  · next c fs e =>
    split at h
    · next hc => subst hc; exact ⟨fs, e, h⟩
    · cases h
  · cases h
theorem gA_spec {hp : HP} {o : Nat} {l : List Int} (h : gA hp o = some l) : hp[o]? = some (.inr (.inl (0, l))) := by
  unfold gA at h
  split at h
  · next e => cases h; exact e
  · cases h
theorem gB_spec {hp : HP} {o : Nat} {l : List Int} (h : gB hp o = some l) : hp[o]? = some (.inr (.inl (1, l))) := by
  unfold gB at h
  split at h
  · next e => cases h; exact e
  · cases h
theorem gJ_spec {hp : HP} {o : Nat} {l : List (BitVec 64)} (h : gJ hp o = some l) : hp[o]? = some (.inr (.inr (.inl l))) := by
  unfold gJ at h
  split at h
  · next e => cases h; exact e
  · cases h
theorem gQ_spec {hp : HP} {o t : Nat} {l : List (Option Nat)} (h : gQ hp o t = some l) : hp[o]? = some (.inr (.inr (.inr (t, l)))) := by
  unfold gQ at h
  split at h
  · next u l2 e =>
    split at h
    · next hc => subst hc; cases h; exact e
    · cases h
  · cases h
theorem gC_spec {hp : HP} {o ci : Nat} (h : gC hp o = some ci) : ∃ fs, hp[o]? = some (.inl (ci, fs)) := by
  unfold gC at h
  split at h
  · next fs e => cases h; exact ⟨_, e⟩
  · cases h
theorem tsw_spec {M pc : Nat} : ∀ {os : List Int} {ls : List (Int × Nat)} {lo : Int}, tsw M pc lo os ls = true → ∀ (b : Nat) (x : Int), (x < lo ∨ lo + os.length ≤ x → swT ls b x = b) ∧ (∀ j : Nat, x = lo + j → j < os.length → ∃ off, os[j]? = some off ∧ (pc : Int) + off = (pcO M (swT ls b x) : Int)) := by
  intro os
  induction os with
  | nil =>
    intro ls lo h b x
    cases ls with
    | nil => exact ⟨fun _ => rfl, fun j _ hj => absurd hj (Nat.not_lt_zero _)⟩
    | cons q ls => cases h
  | cons off os ih =>
    intro ls lo h b x
    cases ls with
    | nil => cases h
    | cons q ls =>
      obtain ⟨y, t⟩ := q
      unfold tsw at h
      simp only [Bool.and_eq_true, decide_eq_true_eq] at h
      obtain ⟨⟨h1, h2⟩, h3⟩ := h
      obtain ⟨i1, i2⟩ := ih h3 b x
      refine ⟨fun hx => ?_, fun j hx hj => ?_⟩
      · show (if x = y then t else swT ls b x) = b
        simp only [List.length_cons] at hx
        rw [if_neg (by omega)]
        exact i1 (by omega)
      · show ∃ o, (off :: os)[j]? = some o ∧ (pc : Int) + o = (pcO M (if x = y then t else swT ls b x) : Int)
        cases j with
        | zero =>
          rw [if_pos (by omega)]
          exact ⟨off, rfl, h2⟩
        | succ j =>
          rw [if_neg (by omega)]
          exact i2 j (by omega) (by simpa using hj)
theorem lsw_spec {M pc b : Nat} {d x : Int} (hd : (pc : Int) + d = (pcO M b : Int)) : ∀ {os : List (Int × Int)} {ls : List (Int × Nat)}, lsw M pc os ls = true → (pc : Int) + Op.lookupswitch.offset os d x = (pcO M (swT ls b x) : Int) := by
  intro os
  induction os with
  | nil =>
    intro ls h
    cases ls with
    | nil => exact hd
    | cons q ls => cases h
  | cons q os ih =>
    intro ls h
    obtain ⟨y, off⟩ := q
    cases ls with
    | nil => cases h
    | cons q ls =>
      obtain ⟨z, t⟩ := q
      unfold lsw at h
      simp only [Bool.and_eq_true, decide_eq_true_eq] at h
      obtain ⟨⟨h1, h2⟩, h3⟩ := h
      subst h1
      show (pc : Int) + (if z = x then off else Op.lookupswitch.offset os d x) = (pcO M (if x = z then t else swT ls b x) : Int)
      by_cases hz : z = x
      · rw [if_pos hz, if_pos hz.symm]; exact h2
      · rw [if_neg hz, if_neg (fun q => hz q.symm)]; exact ih h3
theorem va_Sput {b0 : Nat} {H0 H H1 : Heap} {locs : List Loc} {a k : Nat} (h : va_S (aNew b0) H0 H locs) (z : H1.size = H.size) (oq : ∀ q : Nat, q ≠ b0 + a → H1[q]? = H[q]?) : va_S (aNew b0) H0 H1 (locs ++ [⟨b0 + a, k⟩]) := va_S.put h z oq (Nat.le_add_right _ _)
theorem va_Spush {b0 : Nat} {H0 H H1 : Heap} {locs : List Loc} (h : va_S (aNew b0) H0 H locs) (z : H.size ≤ H1.size) (oq : ∀ q : Nat, q < H.size → H1[q]? = H[q]?) : va_S (aNew b0) H0 H1 locs := ⟨Nat.le_trans h.1 z, fun x h1 h2 => (oq x (Nat.lt_of_lt_of_le h1 h.1)).trans (h.2.1 x h1 h2), h.2.2⟩
theorem like_fits {b0 : Nat} {sv : Nat → Value} {ty : FieldType} {w : AV} {n : Nat} (h : kdN ty = n) (hl : likeV n w = true) : narrow ty (cv b0 sv w) = cv b0 sv w ∧ fits ty (cv b0 sv w) = true := by
  subst h
  cases ty <;> simp only [kdN] at hl
  case int => rcases w with x | x | x | x <;> first | (exact ⟨rfl, rfl⟩) | (cases hl)
  case boolean =>
    rcases w with x | x | x | x
    · simp only [likeV, Bool.or_eq_true, decide_eq_true_eq] at hl
      rcases hl with rfl | rfl
      · exact ⟨(by decide +kernel : narrow .boolean (.int (Int32.ofInt 0)) = .int (Int32.ofInt 0)), (by decide +kernel : fits .boolean (.int (Int32.ofInt 0)) = true)⟩
      · exact ⟨(by decide +kernel : narrow .boolean (.int (Int32.ofInt 1)) = .int (Int32.ofInt 1)), (by decide +kernel : fits .boolean (.int (Int32.ofInt 1)) = true)⟩
    · cases hl
    · cases hl
    · cases hl
  case long => rcases w with x | x | x | x <;> first | (exact ⟨rfl, rfl⟩) | (cases hl)
  case object n => rcases w with x | x | (_ | x) | x <;> first | (exact ⟨rfl, rfl⟩) | (cases hl)
  case array t => rcases w with x | x | (_ | x) | x <;> first | (exact ⟨rfl, rfl⟩) | (cases hl)
  all_goals (rcases w with x | x | x | x <;> cases hl)
theorem so_8 {b0 : Nat} {sv : Nat → Value} {cy : Nat → ClassId} {D : va_G} {sc : List Int} {M : Nat} {p : Program} {l : Launch} {e : Env} {R : Room} {s : State} {m : MethodId} {args : Array Value} {below : List Frame} {meth : Method} {c : Code} {Q : State → Prop} {k a b : Nat} {v : AV} {l0 : List (Int × Nat)} {i : Instr} {len : Nat} {L : LV} {st : List AV} {hp : HP} {B : BU} {c' : CF} (C : CX b0 sv cy D sc M p s m args meth c) (hdec : decode (mC M) (pcO M k) = .ok (i, len)) (hk : ck_s .iadd M k a b v l0 i len = true) (hs : f_ii (fun x y => x + y) sc (k + 1) a b v l0 L st hp B = some (.inl c')) (G : GP b0 sv cy D M p l e R s m args below meth c Q (pcO M c'.1) c'.2.1 c'.2.2.1 c'.2.2.2.1 c'.2.2.2.2) : GP b0 sv cy D M p l e R s m args below meth c Q (pcO M k) L st hp B := by
  obtain ⟨rfl, rfl, hn⟩ := ck_s_of hk
  unfold f_ii at hs
  split at hs
  · next y x st2 =>
    cases hs
    dsimp only at G
    rw [hn] at G
    intro hL ls H locs cells slots h1 h2 h3 h4 h5
    refine lv_iadd C.1 C.2.1 hdec ?_
    rw [J_add]
    exact G hL ls H locs cells slots h1 h2 h3 h4 h5
  · cases hs
theorem so_9 {b0 : Nat} {sv : Nat → Value} {cy : Nat → ClassId} {D : va_G} {sc : List Int} {M : Nat} {p : Program} {l : Launch} {e : Env} {R : Room} {s : State} {m : MethodId} {args : Array Value} {below : List Frame} {meth : Method} {c : Code} {Q : State → Prop} {k a b : Nat} {v : AV} {l0 : List (Int × Nat)} {i : Instr} {len : Nat} {L : LV} {st : List AV} {hp : HP} {B : BU} {c' : CF} (C : CX b0 sv cy D sc M p s m args meth c) (hdec : decode (mC M) (pcO M k) = .ok (i, len)) (hk : ck_s .isub M k a b v l0 i len = true) (hs : f_ii (fun x y => x - y) sc (k + 1) a b v l0 L st hp B = some (.inl c')) (G : GP b0 sv cy D M p l e R s m args below meth c Q (pcO M c'.1) c'.2.1 c'.2.2.1 c'.2.2.2.1 c'.2.2.2.2) : GP b0 sv cy D M p l e R s m args below meth c Q (pcO M k) L st hp B := by
  obtain ⟨rfl, rfl, hn⟩ := ck_s_of hk
  unfold f_ii at hs
  split at hs
  · next y x st2 =>
    cases hs
    dsimp only at G
    rw [hn] at G
    intro hL ls H locs cells slots h1 h2 h3 h4 h5
    refine lv_isub C.1 C.2.1 hdec ?_
    rw [J_sub]
    exact G hL ls H locs cells slots h1 h2 h3 h4 h5
  · cases hs
theorem so_10 {b0 : Nat} {sv : Nat → Value} {cy : Nat → ClassId} {D : va_G} {sc : List Int} {M : Nat} {p : Program} {l : Launch} {e : Env} {R : Room} {s : State} {m : MethodId} {args : Array Value} {below : List Frame} {meth : Method} {c : Code} {Q : State → Prop} {k a b : Nat} {v : AV} {l0 : List (Int × Nat)} {i : Instr} {len : Nat} {L : LV} {st : List AV} {hp : HP} {B : BU} {c' : CF} (C : CX b0 sv cy D sc M p s m args meth c) (hdec : decode (mC M) (pcO M k) = .ok (i, len)) (hk : ck_s .imul M k a b v l0 i len = true) (hs : f_ii (fun x y => x * y) sc (k + 1) a b v l0 L st hp B = some (.inl c')) (G : GP b0 sv cy D M p l e R s m args below meth c Q (pcO M c'.1) c'.2.1 c'.2.2.1 c'.2.2.2.1 c'.2.2.2.2) : GP b0 sv cy D M p l e R s m args below meth c Q (pcO M k) L st hp B := by
  obtain ⟨rfl, rfl, hn⟩ := ck_s_of hk
  unfold f_ii at hs
  split at hs
  · next y x st2 =>
    cases hs
    dsimp only at G
    rw [hn] at G
    intro hL ls H locs cells slots h1 h2 h3 h4 h5
    refine lv_imul C.1 C.2.1 hdec ?_
    rw [J_mul]
    exact G hL ls H locs cells slots h1 h2 h3 h4 h5
  · cases hs
theorem so_13 {b0 : Nat} {sv : Nat → Value} {cy : Nat → ClassId} {D : va_G} {sc : List Int} {M : Nat} {p : Program} {l : Launch} {e : Env} {R : Room} {s : State} {m : MethodId} {args : Array Value} {below : List Frame} {meth : Method} {c : Code} {Q : State → Prop} {k a b : Nat} {v : AV} {l0 : List (Int × Nat)} {i : Instr} {len : Nat} {L : LV} {st : List AV} {hp : HP} {B : BU} {c' : CF} (C : CX b0 sv cy D sc M p s m args meth c) (hdec : decode (mC M) (pcO M k) = .ok (i, len)) (hk : ck_s .iand M k a b v l0 i len = true) (hs : f_ii iAnd sc (k + 1) a b v l0 L st hp B = some (.inl c')) (G : GP b0 sv cy D M p l e R s m args below meth c Q (pcO M c'.1) c'.2.1 c'.2.2.1 c'.2.2.2.1 c'.2.2.2.2) : GP b0 sv cy D M p l e R s m args below meth c Q (pcO M k) L st hp B := by
  obtain ⟨rfl, rfl, hn⟩ := ck_s_of hk
  unfold f_ii at hs
  split at hs
  · next y x st2 =>
    cases hs
    dsimp only at G
    rw [hn] at G
    intro hL ls H locs cells slots h1 h2 h3 h4 h5
    refine lv_iand C.1 C.2.1 hdec ?_
    rw [J_and]
    exact G hL ls H locs cells slots h1 h2 h3 h4 h5
  · cases hs
theorem so_14 {b0 : Nat} {sv : Nat → Value} {cy : Nat → ClassId} {D : va_G} {sc : List Int} {M : Nat} {p : Program} {l : Launch} {e : Env} {R : Room} {s : State} {m : MethodId} {args : Array Value} {below : List Frame} {meth : Method} {c : Code} {Q : State → Prop} {k a b : Nat} {v : AV} {l0 : List (Int × Nat)} {i : Instr} {len : Nat} {L : LV} {st : List AV} {hp : HP} {B : BU} {c' : CF} (C : CX b0 sv cy D sc M p s m args meth c) (hdec : decode (mC M) (pcO M k) = .ok (i, len)) (hk : ck_s .ior M k a b v l0 i len = true) (hs : f_ii iOr sc (k + 1) a b v l0 L st hp B = some (.inl c')) (G : GP b0 sv cy D M p l e R s m args below meth c Q (pcO M c'.1) c'.2.1 c'.2.2.1 c'.2.2.2.1 c'.2.2.2.2) : GP b0 sv cy D M p l e R s m args below meth c Q (pcO M k) L st hp B := by
  obtain ⟨rfl, rfl, hn⟩ := ck_s_of hk
  unfold f_ii at hs
  split at hs
  · next y x st2 =>
    cases hs
    dsimp only at G
    rw [hn] at G
    intro hL ls H locs cells slots h1 h2 h3 h4 h5
    refine lv_ior C.1 C.2.1 hdec ?_
    rw [J_or]
    exact G hL ls H locs cells slots h1 h2 h3 h4 h5
  · cases hs
theorem so_15 {b0 : Nat} {sv : Nat → Value} {cy : Nat → ClassId} {D : va_G} {sc : List Int} {M : Nat} {p : Program} {l : Launch} {e : Env} {R : Room} {s : State} {m : MethodId} {args : Array Value} {below : List Frame} {meth : Method} {c : Code} {Q : State → Prop} {k a b : Nat} {v : AV} {l0 : List (Int × Nat)} {i : Instr} {len : Nat} {L : LV} {st : List AV} {hp : HP} {B : BU} {c' : CF} (C : CX b0 sv cy D sc M p s m args meth c) (hdec : decode (mC M) (pcO M k) = .ok (i, len)) (hk : ck_s .ixor M k a b v l0 i len = true) (hs : f_ii iXor sc (k + 1) a b v l0 L st hp B = some (.inl c')) (G : GP b0 sv cy D M p l e R s m args below meth c Q (pcO M c'.1) c'.2.1 c'.2.2.1 c'.2.2.2.1 c'.2.2.2.2) : GP b0 sv cy D M p l e R s m args below meth c Q (pcO M k) L st hp B := by
  obtain ⟨rfl, rfl, hn⟩ := ck_s_of hk
  unfold f_ii at hs
  split at hs
  · next y x st2 =>
    cases hs
    dsimp only at G
    rw [hn] at G
    intro hL ls H locs cells slots h1 h2 h3 h4 h5
    refine lv_ixor C.1 C.2.1 hdec ?_
    rw [J_xor]
    exact G hL ls H locs cells slots h1 h2 h3 h4 h5
  · cases hs
theorem so_16 {b0 : Nat} {sv : Nat → Value} {cy : Nat → ClassId} {D : va_G} {sc : List Int} {M : Nat} {p : Program} {l : Launch} {e : Env} {R : Room} {s : State} {m : MethodId} {args : Array Value} {below : List Frame} {meth : Method} {c : Code} {Q : State → Prop} {k a b : Nat} {v : AV} {l0 : List (Int × Nat)} {i : Instr} {len : Nat} {L : LV} {st : List AV} {hp : HP} {B : BU} {c' : CF} (C : CX b0 sv cy D sc M p s m args meth c) (hdec : decode (mC M) (pcO M k) = .ok (i, len)) (hk : ck_s .ishl M k a b v l0 i len = true) (hs : f_ii iShl sc (k + 1) a b v l0 L st hp B = some (.inl c')) (G : GP b0 sv cy D M p l e R s m args below meth c Q (pcO M c'.1) c'.2.1 c'.2.2.1 c'.2.2.2.1 c'.2.2.2.2) : GP b0 sv cy D M p l e R s m args below meth c Q (pcO M k) L st hp B := by
  obtain ⟨rfl, rfl, hn⟩ := ck_s_of hk
  unfold f_ii at hs
  split at hs
  · next y x st2 =>
    cases hs
    dsimp only at G
    rw [hn] at G
    intro hL ls H locs cells slots h1 h2 h3 h4 h5
    refine lv_ishl C.1 C.2.1 hdec ?_
    rw [J_shl]
    exact G hL ls H locs cells slots h1 h2 h3 h4 h5
  · cases hs
theorem so_17 {b0 : Nat} {sv : Nat → Value} {cy : Nat → ClassId} {D : va_G} {sc : List Int} {M : Nat} {p : Program} {l : Launch} {e : Env} {R : Room} {s : State} {m : MethodId} {args : Array Value} {below : List Frame} {meth : Method} {c : Code} {Q : State → Prop} {k a b : Nat} {v : AV} {l0 : List (Int × Nat)} {i : Instr} {len : Nat} {L : LV} {st : List AV} {hp : HP} {B : BU} {c' : CF} (C : CX b0 sv cy D sc M p s m args meth c) (hdec : decode (mC M) (pcO M k) = .ok (i, len)) (hk : ck_s .ishr M k a b v l0 i len = true) (hs : f_ii iShr sc (k + 1) a b v l0 L st hp B = some (.inl c')) (G : GP b0 sv cy D M p l e R s m args below meth c Q (pcO M c'.1) c'.2.1 c'.2.2.1 c'.2.2.2.1 c'.2.2.2.2) : GP b0 sv cy D M p l e R s m args below meth c Q (pcO M k) L st hp B := by
  obtain ⟨rfl, rfl, hn⟩ := ck_s_of hk
  unfold f_ii at hs
  split at hs
  · next y x st2 =>
    cases hs
    dsimp only at G
    rw [hn] at G
    intro hL ls H locs cells slots h1 h2 h3 h4 h5
    refine lv_ishr C.1 C.2.1 hdec ?_
    rw [J_shr]
    exact G hL ls H locs cells slots h1 h2 h3 h4 h5
  · cases hs
theorem so_18 {b0 : Nat} {sv : Nat → Value} {cy : Nat → ClassId} {D : va_G} {sc : List Int} {M : Nat} {p : Program} {l : Launch} {e : Env} {R : Room} {s : State} {m : MethodId} {args : Array Value} {below : List Frame} {meth : Method} {c : Code} {Q : State → Prop} {k a b : Nat} {v : AV} {l0 : List (Int × Nat)} {i : Instr} {len : Nat} {L : LV} {st : List AV} {hp : HP} {B : BU} {c' : CF} (C : CX b0 sv cy D sc M p s m args meth c) (hdec : decode (mC M) (pcO M k) = .ok (i, len)) (hk : ck_s .iushr M k a b v l0 i len = true) (hs : f_ii iUshr sc (k + 1) a b v l0 L st hp B = some (.inl c')) (G : GP b0 sv cy D M p l e R s m args below meth c Q (pcO M c'.1) c'.2.1 c'.2.2.1 c'.2.2.2.1 c'.2.2.2.2) : GP b0 sv cy D M p l e R s m args below meth c Q (pcO M k) L st hp B := by
  obtain ⟨rfl, rfl, hn⟩ := ck_s_of hk
  unfold f_ii at hs
  split at hs
  · next y x st2 =>
    cases hs
    dsimp only at G
    rw [hn] at G
    intro hL ls H locs cells slots h1 h2 h3 h4 h5
    refine lv_iushr C.1 C.2.1 hdec (J_ushr _ _) ?_
    exact G hL ls H locs cells slots h1 h2 h3 h4 h5
  · cases hs
theorem so_19 {b0 : Nat} {sv : Nat → Value} {cy : Nat → ClassId} {D : va_G} {sc : List Int} {M : Nat} {p : Program} {l : Launch} {e : Env} {R : Room} {s : State} {m : MethodId} {args : Array Value} {below : List Frame} {meth : Method} {c : Code} {Q : State → Prop} {k a b : Nat} {v : AV} {l0 : List (Int × Nat)} {i : Instr} {len : Nat} {L : LV} {st : List AV} {hp : HP} {B : BU} {c' : CF} (C : CX b0 sv cy D sc M p s m args meth c) (hdec : decode (mC M) (pcO M k) = .ok (i, len)) (hk : ck_s .ineg M k a b v l0 i len = true) (hs : f_i (fun x => -x) sc (k + 1) a b v l0 L st hp B = some (.inl c')) (G : GP b0 sv cy D M p l e R s m args below meth c Q (pcO M c'.1) c'.2.1 c'.2.2.1 c'.2.2.2.1 c'.2.2.2.2) : GP b0 sv cy D M p l e R s m args below meth c Q (pcO M k) L st hp B := by
  obtain ⟨rfl, rfl, hn⟩ := ck_s_of hk
  unfold f_i at hs
  split at hs
  · next x st2 =>
    cases hs
    dsimp only at G
    rw [hn] at G
    intro hL ls H locs cells slots h1 h2 h3 h4 h5
    refine lv_ineg C.1 C.2.1 hdec ?_
    rw [J_neg]
    exact G hL ls H locs cells slots h1 h2 h3 h4 h5
  · cases hs
theorem so_30 {b0 : Nat} {sv : Nat → Value} {cy : Nat → ClassId} {D : va_G} {sc : List Int} {M : Nat} {p : Program} {l : Launch} {e : Env} {R : Room} {s : State} {m : MethodId} {args : Array Value} {below : List Frame} {meth : Method} {c : Code} {Q : State → Prop} {k a b : Nat} {v : AV} {l0 : List (Int × Nat)} {i : Instr} {len : Nat} {L : LV} {st : List AV} {hp : HP} {B : BU} {c' : CF} (C : CX b0 sv cy D sc M p s m args meth c) (hdec : decode (mC M) (pcO M k) = .ok (i, len)) (hk : ck_s .i2b M k a b v l0 i len = true) (hs : f_i i2b sc (k + 1) a b v l0 L st hp B = some (.inl c')) (G : GP b0 sv cy D M p l e R s m args below meth c Q (pcO M c'.1) c'.2.1 c'.2.2.1 c'.2.2.2.1 c'.2.2.2.2) : GP b0 sv cy D M p l e R s m args below meth c Q (pcO M k) L st hp B := by
  obtain ⟨rfl, rfl, hn⟩ := ck_s_of hk
  unfold f_i at hs
  split at hs
  · next x st2 =>
    cases hs
    dsimp only at G
    rw [hn] at G
    intro hL ls H locs cells slots h1 h2 h3 h4 h5
    refine lv_i2b C.1 C.2.1 hdec (J_b _) ?_
    exact G hL ls H locs cells slots h1 h2 h3 h4 h5
  · cases hs
theorem so_31 {b0 : Nat} {sv : Nat → Value} {cy : Nat → ClassId} {D : va_G} {sc : List Int} {M : Nat} {p : Program} {l : Launch} {e : Env} {R : Room} {s : State} {m : MethodId} {args : Array Value} {below : List Frame} {meth : Method} {c : Code} {Q : State → Prop} {k a b : Nat} {v : AV} {l0 : List (Int × Nat)} {i : Instr} {len : Nat} {L : LV} {st : List AV} {hp : HP} {B : BU} {c' : CF} (C : CX b0 sv cy D sc M p s m args meth c) (hdec : decode (mC M) (pcO M k) = .ok (i, len)) (hk : ck_s .i2s M k a b v l0 i len = true) (hs : f_i i2s sc (k + 1) a b v l0 L st hp B = some (.inl c')) (G : GP b0 sv cy D M p l e R s m args below meth c Q (pcO M c'.1) c'.2.1 c'.2.2.1 c'.2.2.2.1 c'.2.2.2.2) : GP b0 sv cy D M p l e R s m args below meth c Q (pcO M k) L st hp B := by
  obtain ⟨rfl, rfl, hn⟩ := ck_s_of hk
  unfold f_i at hs
  split at hs
  · next x st2 =>
    cases hs
    dsimp only at G
    rw [hn] at G
    intro hL ls H locs cells slots h1 h2 h3 h4 h5
    refine lv_i2s C.1 C.2.1 hdec (J_s _) ?_
    exact G hL ls H locs cells slots h1 h2 h3 h4 h5
  · cases hs
theorem so_68 {b0 : Nat} {sv : Nat → Value} {cy : Nat → ClassId} {D : va_G} {sc : List Int} {M : Nat} {p : Program} {l : Launch} {e : Env} {R : Room} {s : State} {m : MethodId} {args : Array Value} {below : List Frame} {meth : Method} {c : Code} {Q : State → Prop} {k a b : Nat} {v : AV} {l0 : List (Int × Nat)} {i : Instr} {len : Nat} {L : LV} {st : List AV} {hp : HP} {B : BU} {c' : CF} (C : CX b0 sv cy D sc M p s m args meth c) (hdec : decode (mC M) (pcO M k) = .ok (i, len)) (hk : ck_s .i2c M k a b v l0 i len = true) (hs : f_i i2c sc (k + 1) a b v l0 L st hp B = some (.inl c')) (G : GP b0 sv cy D M p l e R s m args below meth c Q (pcO M c'.1) c'.2.1 c'.2.2.1 c'.2.2.2.1 c'.2.2.2.2) : GP b0 sv cy D M p l e R s m args below meth c Q (pcO M k) L st hp B := by
  obtain ⟨rfl, rfl, hn⟩ := ck_s_of hk
  unfold f_i at hs
  split at hs
  · next x st2 =>
    cases hs
    dsimp only at G
    rw [hn] at G
    intro hL ls H locs cells slots h1 h2 h3 h4 h5
    refine lv_i2c C.1 C.2.1 hdec (J_c _) ?_
    exact G hL ls H locs cells slots h1 h2 h3 h4 h5
  · cases hs
theorem so_20 {b0 : Nat} {sv : Nat → Value} {cy : Nat → ClassId} {D : va_G} {sc : List Int} {M : Nat} {p : Program} {l : Launch} {e : Env} {R : Room} {s : State} {m : MethodId} {args : Array Value} {below : List Frame} {meth : Method} {c : Code} {Q : State → Prop} {k a b : Nat} {v : AV} {l0 : List (Int × Nat)} {i : Instr} {len : Nat} {L : LV} {st : List AV} {hp : HP} {B : BU} {c' : CF} (C : CX b0 sv cy D sc M p s m args meth c) (hdec : decode (mC M) (pcO M k) = .ok (i, len)) (hk : ck_s .ladd M k a b v l0 i len = true) (hs : f_ll (fun x y => x + y) sc (k + 1) a b v l0 L st hp B = some (.inl c')) (G : GP b0 sv cy D M p l e R s m args below meth c Q (pcO M c'.1) c'.2.1 c'.2.2.1 c'.2.2.2.1 c'.2.2.2.2) : GP b0 sv cy D M p l e R s m args below meth c Q (pcO M k) L st hp B := by
  obtain ⟨rfl, rfl, hn⟩ := ck_s_of hk
  unfold f_ll at hs
  split at hs
  · next y x st2 =>
    cases hs
    dsimp only at G
    rw [hn] at G
    intro hL ls H locs cells slots h1 h2 h3 h4 h5
    refine lv_ladd C.1 C.2.1 hdec ?_
    exact G hL ls H locs cells slots h1 h2 h3 h4 h5
  · cases hs
theorem so_21 {b0 : Nat} {sv : Nat → Value} {cy : Nat → ClassId} {D : va_G} {sc : List Int} {M : Nat} {p : Program} {l : Launch} {e : Env} {R : Room} {s : State} {m : MethodId} {args : Array Value} {below : List Frame} {meth : Method} {c : Code} {Q : State → Prop} {k a b : Nat} {v : AV} {l0 : List (Int × Nat)} {i : Instr} {len : Nat} {L : LV} {st : List AV} {hp : HP} {B : BU} {c' : CF} (C : CX b0 sv cy D sc M p s m args meth c) (hdec : decode (mC M) (pcO M k) = .ok (i, len)) (hk : ck_s .lsub M k a b v l0 i len = true) (hs : f_ll (fun x y => x - y) sc (k + 1) a b v l0 L st hp B = some (.inl c')) (G : GP b0 sv cy D M p l e R s m args below meth c Q (pcO M c'.1) c'.2.1 c'.2.2.1 c'.2.2.2.1 c'.2.2.2.2) : GP b0 sv cy D M p l e R s m args below meth c Q (pcO M k) L st hp B := by
  obtain ⟨rfl, rfl, hn⟩ := ck_s_of hk
  unfold f_ll at hs
  split at hs
  · next y x st2 =>
    cases hs
    dsimp only at G
    rw [hn] at G
    intro hL ls H locs cells slots h1 h2 h3 h4 h5
    refine lv_lsub C.1 C.2.1 hdec ?_
    exact G hL ls H locs cells slots h1 h2 h3 h4 h5
  · cases hs
theorem so_22 {b0 : Nat} {sv : Nat → Value} {cy : Nat → ClassId} {D : va_G} {sc : List Int} {M : Nat} {p : Program} {l : Launch} {e : Env} {R : Room} {s : State} {m : MethodId} {args : Array Value} {below : List Frame} {meth : Method} {c : Code} {Q : State → Prop} {k a b : Nat} {v : AV} {l0 : List (Int × Nat)} {i : Instr} {len : Nat} {L : LV} {st : List AV} {hp : HP} {B : BU} {c' : CF} (C : CX b0 sv cy D sc M p s m args meth c) (hdec : decode (mC M) (pcO M k) = .ok (i, len)) (hk : ck_s .land M k a b v l0 i len = true) (hs : f_ll (fun x y => x &&& y) sc (k + 1) a b v l0 L st hp B = some (.inl c')) (G : GP b0 sv cy D M p l e R s m args below meth c Q (pcO M c'.1) c'.2.1 c'.2.2.1 c'.2.2.2.1 c'.2.2.2.2) : GP b0 sv cy D M p l e R s m args below meth c Q (pcO M k) L st hp B := by
  obtain ⟨rfl, rfl, hn⟩ := ck_s_of hk
  unfold f_ll at hs
  split at hs
  · next y x st2 =>
    cases hs
    dsimp only at G
    rw [hn] at G
    intro hL ls H locs cells slots h1 h2 h3 h4 h5
    refine lv_land C.1 C.2.1 hdec ?_
    exact G hL ls H locs cells slots h1 h2 h3 h4 h5
  · cases hs
theorem so_23 {b0 : Nat} {sv : Nat → Value} {cy : Nat → ClassId} {D : va_G} {sc : List Int} {M : Nat} {p : Program} {l : Launch} {e : Env} {R : Room} {s : State} {m : MethodId} {args : Array Value} {below : List Frame} {meth : Method} {c : Code} {Q : State → Prop} {k a b : Nat} {v : AV} {l0 : List (Int × Nat)} {i : Instr} {len : Nat} {L : LV} {st : List AV} {hp : HP} {B : BU} {c' : CF} (C : CX b0 sv cy D sc M p s m args meth c) (hdec : decode (mC M) (pcO M k) = .ok (i, len)) (hk : ck_s .lor M k a b v l0 i len = true) (hs : f_ll (fun x y => x ||| y) sc (k + 1) a b v l0 L st hp B = some (.inl c')) (G : GP b0 sv cy D M p l e R s m args below meth c Q (pcO M c'.1) c'.2.1 c'.2.2.1 c'.2.2.2.1 c'.2.2.2.2) : GP b0 sv cy D M p l e R s m args below meth c Q (pcO M k) L st hp B := by
  obtain ⟨rfl, rfl, hn⟩ := ck_s_of hk
  unfold f_ll at hs
  split at hs
  · next y x st2 =>
    cases hs
    dsimp only at G
    rw [hn] at G
    intro hL ls H locs cells slots h1 h2 h3 h4 h5
    refine lv_lor C.1 C.2.1 hdec ?_
    exact G hL ls H locs cells slots h1 h2 h3 h4 h5
  · cases hs
theorem so_24 {b0 : Nat} {sv : Nat → Value} {cy : Nat → ClassId} {D : va_G} {sc : List Int} {M : Nat} {p : Program} {l : Launch} {e : Env} {R : Room} {s : State} {m : MethodId} {args : Array Value} {below : List Frame} {meth : Method} {c : Code} {Q : State → Prop} {k a b : Nat} {v : AV} {l0 : List (Int × Nat)} {i : Instr} {len : Nat} {L : LV} {st : List AV} {hp : HP} {B : BU} {c' : CF} (C : CX b0 sv cy D sc M p s m args meth c) (hdec : decode (mC M) (pcO M k) = .ok (i, len)) (hk : ck_s .lxor M k a b v l0 i len = true) (hs : f_ll (fun x y => x ^^^ y) sc (k + 1) a b v l0 L st hp B = some (.inl c')) (G : GP b0 sv cy D M p l e R s m args below meth c Q (pcO M c'.1) c'.2.1 c'.2.2.1 c'.2.2.2.1 c'.2.2.2.2) : GP b0 sv cy D M p l e R s m args below meth c Q (pcO M k) L st hp B := by
  obtain ⟨rfl, rfl, hn⟩ := ck_s_of hk
  unfold f_ll at hs
  split at hs
  · next y x st2 =>
    cases hs
    dsimp only at G
    rw [hn] at G
    intro hL ls H locs cells slots h1 h2 h3 h4 h5
    refine lv_lxor C.1 C.2.1 hdec ?_
    exact G hL ls H locs cells slots h1 h2 h3 h4 h5
  · cases hs
theorem so_25 {b0 : Nat} {sv : Nat → Value} {cy : Nat → ClassId} {D : va_G} {sc : List Int} {M : Nat} {p : Program} {l : Launch} {e : Env} {R : Room} {s : State} {m : MethodId} {args : Array Value} {below : List Frame} {meth : Method} {c : Code} {Q : State → Prop} {k a b : Nat} {v : AV} {l0 : List (Int × Nat)} {i : Instr} {len : Nat} {L : LV} {st : List AV} {hp : HP} {B : BU} {c' : CF} (C : CX b0 sv cy D sc M p s m args meth c) (hdec : decode (mC M) (pcO M k) = .ok (i, len)) (hk : ck_s .lshl M k a b v l0 i len = true) (hs : f_li (fun x k => x <<< k) sc (k + 1) a b v l0 L st hp B = some (.inl c')) (G : GP b0 sv cy D M p l e R s m args below meth c Q (pcO M c'.1) c'.2.1 c'.2.2.1 c'.2.2.2.1 c'.2.2.2.2) : GP b0 sv cy D M p l e R s m args below meth c Q (pcO M k) L st hp B := by
  obtain ⟨rfl, rfl, hn⟩ := ck_s_of hk
  unfold f_li at hs
  split at hs
  · next y x st2 =>
    cases hs
    dsimp only at G
    rw [hn] at G
    intro hL ls H locs cells slots h1 h2 h3 h4 h5
    refine lv_lshl C.1 C.2.1 hdec (L_shl _ _) ?_
    exact G hL ls H locs cells slots h1 h2 h3 h4 h5
  · cases hs
theorem so_26 {b0 : Nat} {sv : Nat → Value} {cy : Nat → ClassId} {D : va_G} {sc : List Int} {M : Nat} {p : Program} {l : Launch} {e : Env} {R : Room} {s : State} {m : MethodId} {args : Array Value} {below : List Frame} {meth : Method} {c : Code} {Q : State → Prop} {k a b : Nat} {v : AV} {l0 : List (Int × Nat)} {i : Instr} {len : Nat} {L : LV} {st : List AV} {hp : HP} {B : BU} {c' : CF} (C : CX b0 sv cy D sc M p s m args meth c) (hdec : decode (mC M) (pcO M k) = .ok (i, len)) (hk : ck_s .lushr M k a b v l0 i len = true) (hs : f_li (fun x k => x >>> k) sc (k + 1) a b v l0 L st hp B = some (.inl c')) (G : GP b0 sv cy D M p l e R s m args below meth c Q (pcO M c'.1) c'.2.1 c'.2.2.1 c'.2.2.2.1 c'.2.2.2.2) : GP b0 sv cy D M p l e R s m args below meth c Q (pcO M k) L st hp B := by
  obtain ⟨rfl, rfl, hn⟩ := ck_s_of hk
  unfold f_li at hs
  split at hs
  · next y x st2 =>
    cases hs
    dsimp only at G
    rw [hn] at G
    intro hL ls H locs cells slots h1 h2 h3 h4 h5
    refine lv_lushr C.1 C.2.1 hdec (L_ushr _ _) ?_
    exact G hL ls H locs cells slots h1 h2 h3 h4 h5
  · cases hs
theorem so_27 {b0 : Nat} {sv : Nat → Value} {cy : Nat → ClassId} {D : va_G} {sc : List Int} {M : Nat} {p : Program} {l : Launch} {e : Env} {R : Room} {s : State} {m : MethodId} {args : Array Value} {below : List Frame} {meth : Method} {c : Code} {Q : State → Prop} {k a b : Nat} {v : AV} {l0 : List (Int × Nat)} {i : Instr} {len : Nat} {L : LV} {st : List AV} {hp : HP} {B : BU} {c' : CF} (C : CX b0 sv cy D sc M p s m args meth c) (hdec : decode (mC M) (pcO M k) = .ok (i, len)) (hk : ck_s .lcmp M k a b v l0 i len = true) (hs : f_lcmp sc (k + 1) a b v l0 L st hp B = some (.inl c')) (G : GP b0 sv cy D M p l e R s m args below meth c Q (pcO M c'.1) c'.2.1 c'.2.2.1 c'.2.2.2.1 c'.2.2.2.2) : GP b0 sv cy D M p l e R s m args below meth c Q (pcO M k) L st hp B := by
  obtain ⟨rfl, rfl, hn⟩ := ck_s_of hk
  unfold f_lcmp at hs
  split at hs
  · next y x st2 =>
    cases hs
    dsimp only at G
    rw [hn] at G
    intro hL ls H locs cells slots h1 h2 h3 h4 h5
    refine W.lcmp C.1 C.2.1 hdec ?_
    rw [L_cmp]
    exact G hL ls H locs cells slots h1 h2 h3 h4 h5
  · cases hs
theorem so_28 {b0 : Nat} {sv : Nat → Value} {cy : Nat → ClassId} {D : va_G} {sc : List Int} {M : Nat} {p : Program} {l : Launch} {e : Env} {R : Room} {s : State} {m : MethodId} {args : Array Value} {below : List Frame} {meth : Method} {c : Code} {Q : State → Prop} {k a b : Nat} {v : AV} {l0 : List (Int × Nat)} {i : Instr} {len : Nat} {L : LV} {st : List AV} {hp : HP} {B : BU} {c' : CF} (C : CX b0 sv cy D sc M p s m args meth c) (hdec : decode (mC M) (pcO M k) = .ok (i, len)) (hk : ck_s .i2l M k a b v l0 i len = true) (hs : f_i2l sc (k + 1) a b v l0 L st hp B = some (.inl c')) (G : GP b0 sv cy D M p l e R s m args below meth c Q (pcO M c'.1) c'.2.1 c'.2.2.1 c'.2.2.2.1 c'.2.2.2.2) : GP b0 sv cy D M p l e R s m args below meth c Q (pcO M k) L st hp B := by
  obtain ⟨rfl, rfl, hn⟩ := ck_s_of hk
  unfold f_i2l at hs
  split at hs
  · next x st2 =>
    cases hs
    dsimp only at G
    rw [hn] at G
    intro hL ls H locs cells slots h1 h2 h3 h4 h5
    refine lv_i2l C.1 C.2.1 hdec (J_l _) ?_
    exact G hL ls H locs cells slots h1 h2 h3 h4 h5
  · cases hs
theorem so_29 {b0 : Nat} {sv : Nat → Value} {cy : Nat → ClassId} {D : va_G} {sc : List Int} {M : Nat} {p : Program} {l : Launch} {e : Env} {R : Room} {s : State} {m : MethodId} {args : Array Value} {below : List Frame} {meth : Method} {c : Code} {Q : State → Prop} {k a b : Nat} {v : AV} {l0 : List (Int × Nat)} {i : Instr} {len : Nat} {L : LV} {st : List AV} {hp : HP} {B : BU} {c' : CF} (C : CX b0 sv cy D sc M p s m args meth c) (hdec : decode (mC M) (pcO M k) = .ok (i, len)) (hk : ck_s .l2i M k a b v l0 i len = true) (hs : f_l2i sc (k + 1) a b v l0 L st hp B = some (.inl c')) (G : GP b0 sv cy D M p l e R s m args below meth c Q (pcO M c'.1) c'.2.1 c'.2.2.1 c'.2.2.2.1 c'.2.2.2.2) : GP b0 sv cy D M p l e R s m args below meth c Q (pcO M k) L st hp B := by
  obtain ⟨rfl, rfl, hn⟩ := ck_s_of hk
  unfold f_l2i at hs
  split at hs
  · next x st2 =>
    cases hs
    dsimp only at G
    rw [hn] at G
    intro hL ls H locs cells slots h1 h2 h3 h4 h5
    refine lv_l2i C.1 C.2.1 hdec (L_i _) ?_
    exact G hL ls H locs cells slots h1 h2 h3 h4 h5
  · cases hs
theorem so_11 {b0 : Nat} {sv : Nat → Value} {cy : Nat → ClassId} {D : va_G} {sc : List Int} {M : Nat} {p : Program} {l : Launch} {e : Env} {R : Room} {s : State} {m : MethodId} {args : Array Value} {below : List Frame} {meth : Method} {c : Code} {Q : State → Prop} {k a b : Nat} {v : AV} {l0 : List (Int × Nat)} {i : Instr} {len : Nat} {L : LV} {st : List AV} {hp : HP} {B : BU} {c' : CF} (C : CX b0 sv cy D sc M p s m args meth c) (hdec : decode (mC M) (pcO M k) = .ok (i, len)) (hk : ck_s .idiv M k a b v l0 i len = true) (hs : f_idiv sc (k + 1) a b v l0 L st hp B = some (.inl c')) (G : GP b0 sv cy D M p l e R s m args below meth c Q (pcO M c'.1) c'.2.1 c'.2.2.1 c'.2.2.2.1 c'.2.2.2.2) : GP b0 sv cy D M p l e R s m args below meth c Q (pcO M k) L st hp B := by
  obtain ⟨rfl, rfl, hn⟩ := ck_s_of hk
  unfold f_idiv at hs
  split at hs
  · next y x st2 =>
    split at hs
    · cases hs
    · next hy =>
      cases hs
      dsimp only at G
      rw [hn] at G
      intro hL ls H locs cells slots h1 h2 h3 h4 h5
      refine lv_idiv C.1 C.2.1 hdec (fun q => hy (by rw [J_0, J_eq, w32_0] at q; exact q)) ?_
      rw [J_div]
      exact G hL ls H locs cells slots h1 h2 h3 h4 h5
  · cases hs
theorem so_12 {b0 : Nat} {sv : Nat → Value} {cy : Nat → ClassId} {D : va_G} {sc : List Int} {M : Nat} {p : Program} {l : Launch} {e : Env} {R : Room} {s : State} {m : MethodId} {args : Array Value} {below : List Frame} {meth : Method} {c : Code} {Q : State → Prop} {k a b : Nat} {v : AV} {l0 : List (Int × Nat)} {i : Instr} {len : Nat} {L : LV} {st : List AV} {hp : HP} {B : BU} {c' : CF} (C : CX b0 sv cy D sc M p s m args meth c) (hdec : decode (mC M) (pcO M k) = .ok (i, len)) (hk : ck_s .irem M k a b v l0 i len = true) (hs : f_irem sc (k + 1) a b v l0 L st hp B = some (.inl c')) (G : GP b0 sv cy D M p l e R s m args below meth c Q (pcO M c'.1) c'.2.1 c'.2.2.1 c'.2.2.2.1 c'.2.2.2.2) : GP b0 sv cy D M p l e R s m args below meth c Q (pcO M k) L st hp B := by
  obtain ⟨rfl, rfl, hn⟩ := ck_s_of hk
  unfold f_irem at hs
  split at hs
  · next y x st2 =>
    split at hs
    · cases hs
    · next hy =>
      cases hs
      dsimp only at G
      rw [hn] at G
      intro hL ls H locs cells slots h1 h2 h3 h4 h5
      refine lv_irem C.1 C.2.1 hdec (fun q => hy (by rw [J_0, J_eq, w32_0] at q; exact q)) ?_
      rw [J_rem]
      exact G hL ls H locs cells slots h1 h2 h3 h4 h5
  · cases hs
theorem so_0 {b0 : Nat} {sv : Nat → Value} {cy : Nat → ClassId} {D : va_G} {sc : List Int} {M : Nat} {p : Program} {l : Launch} {e : Env} {R : Room} {s : State} {m : MethodId} {args : Array Value} {below : List Frame} {meth : Method} {c : Code} {Q : State → Prop} {k a b : Nat} {v : AV} {l0 : List (Int × Nat)} {i : Instr} {len : Nat} {L : LV} {st : List AV} {hp : HP} {B : BU} {c' : CF} (C : CX b0 sv cy D sc M p s m args meth c) (hdec : decode (mC M) (pcO M k) = .ok (i, len)) (hk : ck_push M k a b v l0 i len = true) (hs : f_push sc (k + 1) a b v l0 L st hp B = some (.inl c')) (G : GP b0 sv cy D M p l e R s m args below meth c Q (pcO M c'.1) c'.2.1 c'.2.2.1 c'.2.2.2.1 c'.2.2.2.2) : GP b0 sv cy D M p l e R s m args below meth c Q (pcO M k) L st hp B := by
  unfold f_push at hs
  unfold ck_push at hk
  have nx : ∀ n, len = n → pcO M (k + 1) = pcO M k + n → c'.1 = k + 1 → pcO M c'.1 = pcO M k + n := fun n _ h1 h2 => by rw [h2]; exact h1
  split at hk
  · next n x =>
    simp only [Bool.and_eq_true, decide_eq_true_eq] at hk
    obtain ⟨rfl, hn⟩ := fall_of hk.2
    cases hs
    dsimp only at G
    rw [hn] at G
    intro hL ls H locs cells slots h1 h2 h3 h4 h5
    refine lv_iconst C.1 C.2.1 hdec hk.1 ?_
    exact G hL ls H locs cells slots h1 h2 h3 h4 h5
  · next n x =>
    simp only [Bool.and_eq_true, decide_eq_true_eq] at hk
    obtain ⟨rfl, hn⟩ := fall_of hk.2
    cases hs
    dsimp only at G
    rw [hn] at G
    intro hL ls H locs cells slots h1 h2 h3 h4 h5
    refine lv_bipush C.1 C.2.1 hdec hk.1 ?_
    exact G hL ls H locs cells slots h1 h2 h3 h4 h5
  · next n x =>
    simp only [Bool.and_eq_true, decide_eq_true_eq] at hk
    obtain ⟨rfl, hn⟩ := fall_of hk.2
    cases hs
    dsimp only at G
    rw [hn] at G
    intro hL ls H locs cells slots h1 h2 h3 h4 h5
    refine lv_sipush C.1 C.2.1 hdec hk.1 ?_
    exact G hL ls H locs cells slots h1 h2 h3 h4 h5
  · next n x =>
    simp only [Bool.and_eq_true, decide_eq_true_eq] at hk
    obtain ⟨rfl, hn⟩ := fall_of hk.2
    cases hs
    dsimp only at G
    rw [hn] at G
    intro hL ls H locs cells slots h1 h2 h3 h4 h5
    refine lv_lconst C.1 C.2.1 hdec hk.1 ?_
    exact G hL ls H locs cells slots h1 h2 h3 h4 h5
  · next j x =>
    simp only [Bool.and_eq_true] at hk
    obtain ⟨hk, hf⟩ := hk
    obtain ⟨rfl, hn⟩ := fall_of hf
    split at hk
    · next q hq =>
      simp only [Bool.and_eq_true, decide_eq_true_eq] at hk
      obtain ⟨⟨q1, q2⟩, q3⟩ := hk
      have hw := wIs_mem (List.all_eq_true.mp CNW_ok q (List.mem_of_getElem? hq))
      rw [q1, q2, q3] at hw
      cases hs
      dsimp only at G
      rw [hn] at G
      intro hL ls H locs cells slots h1 h2 h3 h4 h5
      refine lv_ldc C.1 C.2.1 C.2.2.2.1 (C.2.2.2.2.1 _ hw) hdec ?_
      exact G hL ls H locs cells slots h1 h2 h3 h4 h5
    · cases hk
  · next j x =>
    simp only [Bool.and_eq_true] at hk
    obtain ⟨hk, hf⟩ := hk
    obtain ⟨rfl, hn⟩ := fall_of hf
    split at hk
    · next q hq =>
      simp only [Bool.and_eq_true, decide_eq_true_eq] at hk
      obtain ⟨⟨q1, q2⟩, q3⟩ := hk
      have hw := wIs_mem (List.all_eq_true.mp CNW_ok q (List.mem_of_getElem? hq))
      rw [q1, q2, q3] at hw
      cases hs
      dsimp only at G
      rw [hn] at G
      intro hL ls H locs cells slots h1 h2 h3 h4 h5
      refine lv_ldcw C.1 C.2.1 C.2.2.2.1 (C.2.2.2.2.1 _ hw) hdec ?_
      exact G hL ls H locs cells slots h1 h2 h3 h4 h5
    · cases hk
  · next j x =>
    simp only [Bool.and_eq_true] at hk
    obtain ⟨hk, hf⟩ := hk
    obtain ⟨rfl, hn⟩ := fall_of hf
    split at hk
    · next q hq =>
      simp only [Bool.and_eq_true, decide_eq_true_eq] at hk
      obtain ⟨⟨q1, q2⟩, q3⟩ := hk
      have hw := wIs_mem (List.all_eq_true.mp CLW_ok q (List.mem_of_getElem? hq))
      rw [q1, q2, q3] at hw
      cases hs
      dsimp only at G
      rw [hn] at G
      intro hL ls H locs cells slots h1 h2 h3 h4 h5
      refine lv_ldc2 C.1 C.2.1 C.2.2.2.1 (C.2.2.2.2.1 _ hw) hdec ?_
      exact G hL ls H locs cells slots h1 h2 h3 h4 h5
    · cases hk
  · cases hk
theorem so_1 {b0 : Nat} {sv : Nat → Value} {cy : Nat → ClassId} {D : va_G} {sc : List Int} {M : Nat} {p : Program} {l : Launch} {e : Env} {R : Room} {s : State} {m : MethodId} {args : Array Value} {below : List Frame} {meth : Method} {c : Code} {Q : State → Prop} {k a b : Nat} {v : AV} {l0 : List (Int × Nat)} {i : Instr} {len : Nat} {L : LV} {st : List AV} {hp : HP} {B : BU} {c' : CF} (C : CX b0 sv cy D sc M p s m args meth c) (hdec : decode (mC M) (pcO M k) = .ok (i, len)) (hk : ck_iload M k a b v l0 i len = true) (hs : f_iload sc (k + 1) a b v l0 L st hp B = some (.inl c')) (G : GP b0 sv cy D M p l e R s m args below meth c Q (pcO M c'.1) c'.2.1 c'.2.2.1 c'.2.2.2.1 c'.2.2.2.2) : GP b0 sv cy D M p l e R s m args below meth c Q (pcO M k) L st hp B := by
  unfold ck_iload at hk
  split at hk
  · next j =>
    simp only [Bool.and_eq_true, decide_eq_true_eq] at hk
    obtain ⟨ha, hf⟩ := hk
    obtain ⟨rfl, hn⟩ := fall_of hf
    unfold f_iload at hs
    split at hs
    · next x hx =>
      cases hs
      dsimp only at G
      rw [hn] at G
      intro hL ls H locs cells slots h1 h2 h3 h4 h5
      refine lv_iload_n C.1 C.2.1 hdec ha (LR_at h1 hx) ?_
      exact G hL ls H locs cells slots h1 h2 h3 h4 h5
    · cases hs
  · next j =>
    simp only [Bool.and_eq_true, decide_eq_true_eq] at hk
    obtain ⟨ha, hf⟩ := hk
    obtain ⟨rfl, hn⟩ := fall_of hf
    unfold f_iload at hs
    split at hs
    · next x hx =>
      cases hs
      dsimp only at G
      rw [hn] at G
      intro hL ls H locs cells slots h1 h2 h3 h4 h5
      refine lv_iload C.1 C.2.1 hdec (by rw [ha]; exact LR_at h1 hx) ?_
      exact G hL ls H locs cells slots h1 h2 h3 h4 h5
    · cases hs
  · cases hk
theorem so_2 {b0 : Nat} {sv : Nat → Value} {cy : Nat → ClassId} {D : va_G} {sc : List Int} {M : Nat} {p : Program} {l : Launch} {e : Env} {R : Room} {s : State} {m : MethodId} {args : Array Value} {below : List Frame} {meth : Method} {c : Code} {Q : State → Prop} {k a b : Nat} {v : AV} {l0 : List (Int × Nat)} {i : Instr} {len : Nat} {L : LV} {st : List AV} {hp : HP} {B : BU} {c' : CF} (C : CX b0 sv cy D sc M p s m args meth c) (hdec : decode (mC M) (pcO M k) = .ok (i, len)) (hk : ck_lload M k a b v l0 i len = true) (hs : f_lload sc (k + 1) a b v l0 L st hp B = some (.inl c')) (G : GP b0 sv cy D M p l e R s m args below meth c Q (pcO M c'.1) c'.2.1 c'.2.2.1 c'.2.2.2.1 c'.2.2.2.2) : GP b0 sv cy D M p l e R s m args below meth c Q (pcO M k) L st hp B := by
  unfold ck_lload at hk
  split at hk
  · next j =>
    simp only [Bool.and_eq_true, decide_eq_true_eq] at hk
    obtain ⟨ha, hf⟩ := hk
    obtain ⟨rfl, hn⟩ := fall_of hf
    unfold f_lload at hs
    split at hs
    · next x hx =>
      cases hs
      dsimp only at G
      rw [hn] at G
      intro hL ls H locs cells slots h1 h2 h3 h4 h5
      refine lv_lload_n C.1 C.2.1 hdec ha (LR_at h1 hx) ?_
      exact G hL ls H locs cells slots h1 h2 h3 h4 h5
    · cases hs
  · next j =>
    simp only [Bool.and_eq_true, decide_eq_true_eq] at hk
    obtain ⟨ha, hf⟩ := hk
    obtain ⟨rfl, hn⟩ := fall_of hf
    unfold f_lload at hs
    split at hs
    · next x hx =>
      cases hs
      dsimp only at G
      rw [hn] at G
      intro hL ls H locs cells slots h1 h2 h3 h4 h5
      refine lv_lload C.1 C.2.1 hdec (by rw [ha]; exact LR_at h1 hx) ?_
      exact G hL ls H locs cells slots h1 h2 h3 h4 h5
    · cases hs
  · cases hk
theorem so_3 {b0 : Nat} {sv : Nat → Value} {cy : Nat → ClassId} {D : va_G} {sc : List Int} {M : Nat} {p : Program} {l : Launch} {e : Env} {R : Room} {s : State} {m : MethodId} {args : Array Value} {below : List Frame} {meth : Method} {c : Code} {Q : State → Prop} {k a b : Nat} {v : AV} {l0 : List (Int × Nat)} {i : Instr} {len : Nat} {L : LV} {st : List AV} {hp : HP} {B : BU} {c' : CF} (C : CX b0 sv cy D sc M p s m args meth c) (hdec : decode (mC M) (pcO M k) = .ok (i, len)) (hk : ck_aload M k a b v l0 i len = true) (hs : f_aload sc (k + 1) a b v l0 L st hp B = some (.inl c')) (G : GP b0 sv cy D M p l e R s m args below meth c Q (pcO M c'.1) c'.2.1 c'.2.2.1 c'.2.2.2.1 c'.2.2.2.2) : GP b0 sv cy D M p l e R s m args below meth c Q (pcO M k) L st hp B := by
  unfold ck_aload at hk
  split at hk
  · next j =>
    simp only [Bool.and_eq_true, decide_eq_true_eq] at hk
    obtain ⟨ha, hf⟩ := hk
    obtain ⟨rfl, hn⟩ := fall_of hf
    unfold f_aload at hs
    split at hs
    · next x hx =>
      cases hs
      dsimp only at G
      rw [hn] at G
      intro hL ls H locs cells slots h1 h2 h3 h4 h5
      refine lv_aload_n C.1 C.2.1 hdec ha (LR_at h1 hx) ?_
      exact G hL ls H locs cells slots h1 h2 h3 h4 h5
    · next x hx =>
      cases hs
      dsimp only at G
      rw [hn] at G
      intro hL ls H locs cells slots h1 h2 h3 h4 h5
      have hg := G hL ls H locs cells slots h1 h2 h3 h4 h5
      rw [List.map_cons, show cv b0 sv (mS x) = sv x from rfl] at hg
      rcases C.2.2.2.2.2.2.2.2.2.1 x with he | ⟨t, he⟩
      · rw [he] at hg
        exact lv_aload_nN C.1 C.2.1 hdec ha (by rw [LR_at h1 hx]; show _ = some (Slot.val (_ : Value)); rw [show cv b0 sv (mS x) = sv x from rfl, he]) hg
      · rw [he] at hg
        exact lv_aload_n C.1 C.2.1 hdec ha (by rw [LR_at h1 hx]; show _ = some (Slot.val (_ : Value)); rw [show cv b0 sv (mS x) = sv x from rfl, he]) hg
    · cases hs
  · next j =>
    simp only [Bool.and_eq_true, decide_eq_true_eq] at hk
    obtain ⟨ha, hf⟩ := hk
    obtain ⟨rfl, hn⟩ := fall_of hf
    unfold f_aload at hs
    split at hs
    · next x hx =>
      cases hs
      dsimp only at G
      rw [hn] at G
      intro hL ls H locs cells slots h1 h2 h3 h4 h5
      refine lv_aload C.1 C.2.1 hdec (by rw [ha]; exact LR_at h1 hx) ?_
      exact G hL ls H locs cells slots h1 h2 h3 h4 h5
    · next x hx =>
      cases hs
      dsimp only at G
      rw [hn] at G
      intro hL ls H locs cells slots h1 h2 h3 h4 h5
      have hg := G hL ls H locs cells slots h1 h2 h3 h4 h5
      rw [List.map_cons, show cv b0 sv (mS x) = sv x from rfl] at hg
      rcases C.2.2.2.2.2.2.2.2.2.1 x with he | ⟨t, he⟩
      · rw [he] at hg
        exact lv_aloadN C.1 C.2.1 hdec (by rw [ha, LR_at h1 hx]; show _ = some (Slot.val (_ : Value)); rw [show cv b0 sv (mS x) = sv x from rfl, he]) hg
      · rw [he] at hg
        exact lv_aload C.1 C.2.1 hdec (by rw [ha, LR_at h1 hx]; show _ = some (Slot.val (_ : Value)); rw [show cv b0 sv (mS x) = sv x from rfl, he]) hg
    · cases hs
  · cases hk
theorem so_4 {b0 : Nat} {sv : Nat → Value} {cy : Nat → ClassId} {D : va_G} {sc : List Int} {M : Nat} {p : Program} {l : Launch} {e : Env} {R : Room} {s : State} {m : MethodId} {args : Array Value} {below : List Frame} {meth : Method} {c : Code} {Q : State → Prop} {k a b : Nat} {v : AV} {l0 : List (Int × Nat)} {i : Instr} {len : Nat} {L : LV} {st : List AV} {hp : HP} {B : BU} {c' : CF} (C : CX b0 sv cy D sc M p s m args meth c) (hdec : decode (mC M) (pcO M k) = .ok (i, len)) (hk : ck_istore M k a b v l0 i len = true) (hs : f_istore sc (k + 1) a b v l0 L st hp B = some (.inl c')) (G : GP b0 sv cy D M p l e R s m args below meth c Q (pcO M c'.1) c'.2.1 c'.2.2.1 c'.2.2.2.1 c'.2.2.2.2) : GP b0 sv cy D M p l e R s m args below meth c Q (pcO M k) L st hp B := by
  unfold ck_istore at hk
  split at hk
  · next j =>
    simp only [Bool.and_eq_true, decide_eq_true_eq] at hk
    obtain ⟨ha, hf⟩ := hk
    obtain ⟨rfl, hn⟩ := fall_of hf
    unfold f_istore at hs
    split at hs
    · next x st2 =>
      split at hs
      · next hi =>
        cases hs
        dsimp only at G
        rw [hn] at G
        intro hL ls H locs cells slots h1 h2 h3 h4 h5
        refine lv_istore_n C.1 C.2.1 hdec ha h1 hi rfl (fun ls' h => ?_)
        exact G (by rw [put1_len]; exact hL) ls' H locs cells slots (LR_put1 C.2.2.2.2.2.2.2.2.2.1 (v := mI x) hi h) h2 h3 h4 h5
      · cases hs
    · cases hs
  · next j =>
    simp only [Bool.and_eq_true, decide_eq_true_eq] at hk
    obtain ⟨ha, hf⟩ := hk
    obtain ⟨rfl, hn⟩ := fall_of hf
    unfold f_istore at hs
    split at hs
    · next x st2 =>
      split at hs
      · next hi =>
        cases hs
        dsimp only at G
        rw [hn] at G
        intro hL ls H locs cells slots h1 h2 h3 h4 h5
        subst ha
        refine lv_istore C.1 C.2.1 hdec h1 hi rfl (fun ls' h => ?_)
        exact G (by rw [put1_len]; exact hL) ls' H locs cells slots (LR_put1 C.2.2.2.2.2.2.2.2.2.1 (v := mI x) hi h) h2 h3 h4 h5
      · cases hs
    · cases hs
  · cases hk
theorem so_5 {b0 : Nat} {sv : Nat → Value} {cy : Nat → ClassId} {D : va_G} {sc : List Int} {M : Nat} {p : Program} {l : Launch} {e : Env} {R : Room} {s : State} {m : MethodId} {args : Array Value} {below : List Frame} {meth : Method} {c : Code} {Q : State → Prop} {k a b : Nat} {v : AV} {l0 : List (Int × Nat)} {i : Instr} {len : Nat} {L : LV} {st : List AV} {hp : HP} {B : BU} {c' : CF} (C : CX b0 sv cy D sc M p s m args meth c) (hdec : decode (mC M) (pcO M k) = .ok (i, len)) (hk : ck_lstore M k a b v l0 i len = true) (hs : f_lstore sc (k + 1) a b v l0 L st hp B = some (.inl c')) (G : GP b0 sv cy D M p l e R s m args below meth c Q (pcO M c'.1) c'.2.1 c'.2.2.1 c'.2.2.2.1 c'.2.2.2.2) : GP b0 sv cy D M p l e R s m args below meth c Q (pcO M k) L st hp B := by
  unfold ck_lstore at hk
  split at hk
  · next j =>
    simp only [Bool.and_eq_true, decide_eq_true_eq] at hk
    obtain ⟨ha, hf⟩ := hk
    obtain ⟨rfl, hn⟩ := fall_of hf
    unfold f_lstore at hs
    split at hs
    · next x st2 =>
      split at hs
      · next hi =>
        cases hs
        dsimp only at G
        rw [hn] at G
        intro hL ls H locs cells slots h1 h2 h3 h4 h5
        refine lv_lstore_n C.1 C.2.1 hdec ha h1 hi rfl (fun ls' h => ?_)
        exact G (by rw [put2_len]; exact hL) ls' H locs cells slots (LR_put2 C.2.2.2.2.2.2.2.2.2.1 (v := mL x) hi h) h2 h3 h4 h5
      · cases hs
    · cases hs
  · next j =>
    simp only [Bool.and_eq_true, decide_eq_true_eq] at hk
    obtain ⟨ha, hf⟩ := hk
    obtain ⟨rfl, hn⟩ := fall_of hf
    unfold f_lstore at hs
    split at hs
    · next x st2 =>
      split at hs
      · next hi =>
        cases hs
        dsimp only at G
        rw [hn] at G
        intro hL ls H locs cells slots h1 h2 h3 h4 h5
        subst ha
        refine lv_lstore C.1 C.2.1 hdec h1 hi rfl (fun ls' h => ?_)
        exact G (by rw [put2_len]; exact hL) ls' H locs cells slots (LR_put2 C.2.2.2.2.2.2.2.2.2.1 (v := mL x) hi h) h2 h3 h4 h5
      · cases hs
    · cases hs
  · cases hk
theorem so_6 {b0 : Nat} {sv : Nat → Value} {cy : Nat → ClassId} {D : va_G} {sc : List Int} {M : Nat} {p : Program} {l : Launch} {e : Env} {R : Room} {s : State} {m : MethodId} {args : Array Value} {below : List Frame} {meth : Method} {c : Code} {Q : State → Prop} {k a b : Nat} {v : AV} {l0 : List (Int × Nat)} {i : Instr} {len : Nat} {L : LV} {st : List AV} {hp : HP} {B : BU} {c' : CF} (C : CX b0 sv cy D sc M p s m args meth c) (hdec : decode (mC M) (pcO M k) = .ok (i, len)) (hk : ck_astore M k a b v l0 i len = true) (hs : f_astore sc (k + 1) a b v l0 L st hp B = some (.inl c')) (G : GP b0 sv cy D M p l e R s m args below meth c Q (pcO M c'.1) c'.2.1 c'.2.2.1 c'.2.2.2.1 c'.2.2.2.2) : GP b0 sv cy D M p l e R s m args below meth c Q (pcO M k) L st hp B := by
  unfold ck_astore at hk
  split at hk
  · next j =>
    simp only [Bool.and_eq_true, decide_eq_true_eq] at hk
    obtain ⟨ha, hf⟩ := hk
    obtain ⟨rfl, hn⟩ := fall_of hf
    unfold f_astore at hs
    split at hs
    · next x st2 =>
      split at hs
      · next hi =>
        cases hs
        dsimp only at G
        rw [hn] at G
        intro hL ls H locs cells slots h1 h2 h3 h4 h5
        refine lv_astore_n C.1 C.2.1 hdec ha h1 hi rfl (fun ls' h => ?_)
        exact G (by rw [put1_len]; exact hL) ls' H locs cells slots (LR_put1 C.2.2.2.2.2.2.2.2.2.1 (v := mR x) hi h) h2 h3 h4 h5
      · cases hs
    · cases hs
  · next j =>
    simp only [Bool.and_eq_true, decide_eq_true_eq] at hk
    obtain ⟨ha, hf⟩ := hk
    obtain ⟨rfl, hn⟩ := fall_of hf
    unfold f_astore at hs
    split at hs
    · next x st2 =>
      split at hs
      · next hi =>
        cases hs
        dsimp only at G
        rw [hn] at G
        intro hL ls H locs cells slots h1 h2 h3 h4 h5
        subst ha
        refine lv_astore C.1 C.2.1 hdec h1 hi rfl (fun ls' h => ?_)
        exact G (by rw [put1_len]; exact hL) ls' H locs cells slots (LR_put1 C.2.2.2.2.2.2.2.2.2.1 (v := mR x) hi h) h2 h3 h4 h5
      · cases hs
    · cases hs
  · cases hk
theorem so_7 {b0 : Nat} {sv : Nat → Value} {cy : Nat → ClassId} {D : va_G} {sc : List Int} {M : Nat} {p : Program} {l : Launch} {e : Env} {R : Room} {s : State} {m : MethodId} {args : Array Value} {below : List Frame} {meth : Method} {c : Code} {Q : State → Prop} {k a b : Nat} {v : AV} {l0 : List (Int × Nat)} {i : Instr} {len : Nat} {L : LV} {st : List AV} {hp : HP} {B : BU} {c' : CF} (C : CX b0 sv cy D sc M p s m args meth c) (hdec : decode (mC M) (pcO M k) = .ok (i, len)) (hk : ck_iinc M k a b v l0 i len = true) (hs : f_iinc sc (k + 1) a b v l0 L st hp B = some (.inl c')) (G : GP b0 sv cy D M p l e R s m args below meth c Q (pcO M c'.1) c'.2.1 c'.2.2.1 c'.2.2.2.1 c'.2.2.2.2) : GP b0 sv cy D M p l e R s m args below meth c Q (pcO M k) L st hp B := by
  unfold ck_iinc at hk
  split at hk
  · next j n x =>
    simp only [Bool.and_eq_true, decide_eq_true_eq] at hk
    obtain ⟨⟨rfl, rfl⟩, hf⟩ := hk
    obtain ⟨rfl, hn⟩ := fall_of hf
    unfold f_iinc at hs
    split at hs
    · next y kk hy hv =>
      cases hv
      cases hs
      dsimp only at G
      rw [hn] at G
      intro hL ls H locs cells slots h1 h2 h3 h4 h5
      have hi : j < L.length := (List.getElem?_eq_some_iff.mp hy).1
      obtain ⟨jj, hjj⟩ := List.getElem?_of_mem (entsL_mem (b0 := b0) (sv := sv) hy)
      refine lv_iinc C.1 C.2.1 hdec h1 hjj (J_add _ _) hi rfl (fun ls' h => ?_)
      exact G (by rw [put1_len]; exact hL) ls' H locs cells slots (LR_put1 C.2.2.2.2.2.2.2.2.2.1 (v := mI (y + n)) hi h) h2 h3 h4 h5
    · cases hs
  · cases hk
theorem so_32 {b0 : Nat} {sv : Nat → Value} {cy : Nat → ClassId} {D : va_G} {sc : List Int} {M : Nat} {p : Program} {l : Launch} {e : Env} {R : Room} {s : State} {m : MethodId} {args : Array Value} {below : List Frame} {meth : Method} {c : Code} {Q : State → Prop} {k a b : Nat} {v : AV} {l0 : List (Int × Nat)} {i : Instr} {len : Nat} {L : LV} {st : List AV} {hp : HP} {B : BU} {c' : CF} (C : CX b0 sv cy D sc M p s m args meth c) (hdec : decode (mC M) (pcO M k) = .ok (i, len)) (hk : ck_s .dup M k a b v l0 i len = true) (hs : f_dup sc (k + 1) a b v l0 L st hp B = some (.inl c')) (G : GP b0 sv cy D M p l e R s m args below meth c Q (pcO M c'.1) c'.2.1 c'.2.2.1 c'.2.2.2.1 c'.2.2.2.2) : GP b0 sv cy D M p l e R s m args below meth c Q (pcO M k) L st hp B := by
  obtain ⟨rfl, rfl, hn⟩ := ck_s_of hk
  unfold f_dup at hs
  split at hs
  · next w st2 =>
    split at hs
    · cases hs
    · next hw =>
      cases hs
      dsimp only at G
      rw [hn] at G
      intro hL ls H locs cells slots h1 h2 h3 h4 h5
      refine lv_dup C.1 C.2.1 hdec (by rw [cv_cat C.2.2.2.2.2.2.2.2.2.1, if_neg hw]) ?_
      exact G hL ls H locs cells slots h1 h2 h3 h4 h5
  · cases hs
theorem so_69 {b0 : Nat} {sv : Nat → Value} {cy : Nat → ClassId} {D : va_G} {sc : List Int} {M : Nat} {p : Program} {l : Launch} {e : Env} {R : Room} {s : State} {m : MethodId} {args : Array Value} {below : List Frame} {meth : Method} {c : Code} {Q : State → Prop} {k a b : Nat} {v : AV} {l0 : List (Int × Nat)} {i : Instr} {len : Nat} {L : LV} {st : List AV} {hp : HP} {B : BU} {c' : CF} (C : CX b0 sv cy D sc M p s m args meth c) (hdec : decode (mC M) (pcO M k) = .ok (i, len)) (hk : ck_s .pop M k a b v l0 i len = true) (hs : f_pop sc (k + 1) a b v l0 L st hp B = some (.inl c')) (G : GP b0 sv cy D M p l e R s m args below meth c Q (pcO M c'.1) c'.2.1 c'.2.2.1 c'.2.2.2.1 c'.2.2.2.2) : GP b0 sv cy D M p l e R s m args below meth c Q (pcO M k) L st hp B := by
  obtain ⟨rfl, rfl, hn⟩ := ck_s_of hk
  unfold f_pop at hs
  split at hs
  · next w st2 =>
    split at hs
    · cases hs
    · next hw =>
      cases hs
      dsimp only at G
      rw [hn] at G
      intro hL ls H locs cells slots h1 h2 h3 h4 h5
      refine lv_pop C.1 C.2.1 hdec (by rw [cv_cat C.2.2.2.2.2.2.2.2.2.1, if_neg hw]) ?_
      exact G hL ls H locs cells slots h1 h2 h3 h4 h5
  · cases hs
theorem so_33 {b0 : Nat} {sv : Nat → Value} {cy : Nat → ClassId} {D : va_G} {sc : List Int} {M : Nat} {p : Program} {l : Launch} {e : Env} {R : Room} {s : State} {m : MethodId} {args : Array Value} {below : List Frame} {meth : Method} {c : Code} {Q : State → Prop} {k a b : Nat} {v : AV} {l0 : List (Int × Nat)} {i : Instr} {len : Nat} {L : LV} {st : List AV} {hp : HP} {B : BU} {c' : CF} (C : CX b0 sv cy D sc M p s m args meth c) (hdec : decode (mC M) (pcO M k) = .ok (i, len)) (hk : ck_s .dup2 M k a b v l0 i len = true) (hs : f_dup2 sc (k + 1) a b v l0 L st hp B = some (.inl c')) (G : GP b0 sv cy D M p l e R s m args below meth c Q (pcO M c'.1) c'.2.1 c'.2.2.1 c'.2.2.2.1 c'.2.2.2.2) : GP b0 sv cy D M p l e R s m args below meth c Q (pcO M k) L st hp B := by
  obtain ⟨rfl, rfl, hn⟩ := ck_s_of hk
  unfold f_dup2 at hs
  split at hs
  · next w w2 st2 =>
    split at hs
    · cases hs
    · next hw =>
      simp only [Bool.or_eq_true, not_or] at hw
      cases hs
      dsimp only at G
      rw [hn] at G
      intro hL ls H locs cells slots h1 h2 h3 h4 h5
      refine lv_dup2_11 C.1 C.2.1 hdec (by rw [cv_cat C.2.2.2.2.2.2.2.2.2.1, if_neg hw.1]) (by rw [cv_cat C.2.2.2.2.2.2.2.2.2.1, if_neg hw.2]) ?_
      exact G hL ls H locs cells slots h1 h2 h3 h4 h5
  · cases hs
theorem so_34 {b0 : Nat} {sv : Nat → Value} {cy : Nat → ClassId} {D : va_G} {sc : List Int} {M : Nat} {p : Program} {l : Launch} {e : Env} {R : Room} {s : State} {m : MethodId} {args : Array Value} {below : List Frame} {meth : Method} {c : Code} {Q : State → Prop} {k a b : Nat} {v : AV} {l0 : List (Int × Nat)} {i : Instr} {len : Nat} {L : LV} {st : List AV} {hp : HP} {B : BU} {c' : CF} (C : CX b0 sv cy D sc M p s m args meth c) (hdec : decode (mC M) (pcO M k) = .ok (i, len)) (hk : ck_if M k a b v l0 i len = true) (hs : f_if sc (k + 1) a b v l0 L st hp B = some (.inl c')) (G : GP b0 sv cy D M p l e R s m args below meth c Q (pcO M c'.1) c'.2.1 c'.2.2.1 c'.2.2.2.1 c'.2.2.2.2) : GP b0 sv cy D M p l e R s m args below meth c Q (pcO M k) L st hp B := by
  unfold ck_if at hk
  split at hk
  · next cd off =>
    simp only [Bool.and_eq_true, decide_eq_true_eq] at hk
    obtain ⟨⟨ha, ht⟩, hf⟩ := hk
    obtain ⟨rfl, hn⟩ := fall_of hf
    unfold f_if at hs
    split at hs
    · next x st2 =>
      cases hs
      dsimp only at G
      intro hL ls H locs cells slots h1 h2 h3 h4 h5
      have g1 : ∀ (cb : Bool), cmpB a (w32 x) 0 = cb → W p l e R s m args below meth c H locs cells slots Q (F0 m (bif cb then pcO M b else pcO M (k + 1)) ls (st2.map (cv b0 sv))) := by
        intro cb hcb
        rw [hcb] at G
        cases cb
        · exact G hL ls H locs cells slots h1 h2 h3 h4 h5
        · exact G hL ls H locs cells slots h1 h2 h3 h4 h5
      rw [hn] at g1
      subst ha
      cases cd
      · refine lv_if_eq C.1 C.2.1 hdec ht (fun q => ?_) (fun q => ?_)
        · exact g1 true (decide_eq_true (by first | (rw [J_0, J_eq, w32_0] at q; exact q) | (rw [J_0, J_eq, w32_0] at q; omega)))
        · exact g1 false (decide_eq_false (by first | (rw [J_0, J_eq, w32_0] at q; exact q) | (rw [J_0, J_eq, w32_0] at q; omega)))
      · refine lv_if_ne C.1 C.2.1 hdec ht (fun q => ?_) (fun q => ?_)
        · exact g1 true (decide_eq_true (by first | (rw [J_0, J_eq, w32_0] at q; exact q) | (rw [J_0, J_eq, w32_0] at q; omega)))
        · exact g1 false (decide_eq_false (by first | (rw [J_0, J_eq, w32_0] at q; exact q) | (rw [J_0, J_eq, w32_0] at q; omega)))
      · refine lv_if_lt C.1 C.2.1 hdec ht (fun q => ?_) (fun q => ?_)
        · exact g1 true (decide_eq_true (by first | (rw [J_0, J_lt, w32_0] at q; exact q) | (rw [J_0, J_lt, w32_0] at q; omega)))
        · exact g1 false (decide_eq_false (by first | (rw [J_0, J_lt, w32_0] at q; exact q) | (rw [J_0, J_lt, w32_0] at q; omega)))
      · refine lv_if_ge C.1 C.2.1 hdec ht (fun q => ?_) (fun q => ?_)
        · exact g1 true (decide_eq_true (by first | (rw [J_0, J_le, w32_0] at q; exact q) | (rw [J_0, J_le, w32_0] at q; omega)))
        · exact g1 false (decide_eq_false (by first | (rw [J_0, J_le, w32_0] at q; exact q) | (rw [J_0, J_le, w32_0] at q; omega)))
      · refine lv_if_gt C.1 C.2.1 hdec ht (fun q => ?_) (fun q => ?_)
        · exact g1 true (decide_eq_true (by first | (rw [J_0, J_lt, w32_0] at q; exact q) | (rw [J_0, J_lt, w32_0] at q; omega)))
        · exact g1 false (decide_eq_false (by first | (rw [J_0, J_lt, w32_0] at q; exact q) | (rw [J_0, J_lt, w32_0] at q; omega)))
      · refine lv_if_le C.1 C.2.1 hdec ht (fun q => ?_) (fun q => ?_)
        · exact g1 true (decide_eq_true (by first | (rw [J_0, J_le, w32_0] at q; exact q) | (rw [J_0, J_le, w32_0] at q; omega)))
        · exact g1 false (decide_eq_false (by first | (rw [J_0, J_le, w32_0] at q; exact q) | (rw [J_0, J_le, w32_0] at q; omega)))
    · cases hs
  · cases hk
theorem so_35 {b0 : Nat} {sv : Nat → Value} {cy : Nat → ClassId} {D : va_G} {sc : List Int} {M : Nat} {p : Program} {l : Launch} {e : Env} {R : Room} {s : State} {m : MethodId} {args : Array Value} {below : List Frame} {meth : Method} {c : Code} {Q : State → Prop} {k a b : Nat} {v : AV} {l0 : List (Int × Nat)} {i : Instr} {len : Nat} {L : LV} {st : List AV} {hp : HP} {B : BU} {c' : CF} (C : CX b0 sv cy D sc M p s m args meth c) (hdec : decode (mC M) (pcO M k) = .ok (i, len)) (hk : ck_icmp M k a b v l0 i len = true) (hs : f_icmp sc (k + 1) a b v l0 L st hp B = some (.inl c')) (G : GP b0 sv cy D M p l e R s m args below meth c Q (pcO M c'.1) c'.2.1 c'.2.2.1 c'.2.2.2.1 c'.2.2.2.2) : GP b0 sv cy D M p l e R s m args below meth c Q (pcO M k) L st hp B := by
  unfold ck_icmp at hk
  split at hk
  · next cd off =>
    simp only [Bool.and_eq_true, decide_eq_true_eq] at hk
    obtain ⟨⟨ha, ht⟩, hf⟩ := hk
    obtain ⟨rfl, hn⟩ := fall_of hf
    unfold f_icmp at hs
    split at hs
    · next y x st2 =>
      cases hs
      dsimp only at G
      intro hL ls H locs cells slots h1 h2 h3 h4 h5
      have g1 : ∀ (cb : Bool), cmpB a (w32 x) (w32 y) = cb → W p l e R s m args below meth c H locs cells slots Q (F0 m (bif cb then pcO M b else pcO M (k + 1)) ls (st2.map (cv b0 sv))) := by
        intro cb hcb
        rw [hcb] at G
        cases cb
        · exact G hL ls H locs cells slots h1 h2 h3 h4 h5
        · exact G hL ls H locs cells slots h1 h2 h3 h4 h5
      rw [hn] at g1
      subst ha
      cases cd
      · refine lv_icmp_eq C.1 C.2.1 hdec ht (fun q => ?_) (fun q => ?_)
        · exact g1 true (decide_eq_true (by first | (rw [J_eq] at q; exact q) | (rw [J_eq] at q; omega)))
        · exact g1 false (decide_eq_false (by first | (rw [J_eq] at q; exact q) | (rw [J_eq] at q; omega)))
      · refine lv_icmp_ne C.1 C.2.1 hdec ht (fun q => ?_) (fun q => ?_)
        · exact g1 true (decide_eq_true (by first | (rw [J_eq] at q; exact q) | (rw [J_eq] at q; omega)))
        · exact g1 false (decide_eq_false (by first | (rw [J_eq] at q; exact q) | (rw [J_eq] at q; omega)))
      · refine lv_icmp_lt C.1 C.2.1 hdec ht (fun q => ?_) (fun q => ?_)
        · exact g1 true (decide_eq_true (by first | (rw [J_lt] at q; exact q) | (rw [J_lt] at q; omega)))
        · exact g1 false (decide_eq_false (by first | (rw [J_lt] at q; exact q) | (rw [J_lt] at q; omega)))
      · refine lv_icmp_ge C.1 C.2.1 hdec ht (fun q => ?_) (fun q => ?_)
        · exact g1 true (decide_eq_true (by first | (rw [J_le] at q; exact q) | (rw [J_le] at q; omega)))
        · exact g1 false (decide_eq_false (by first | (rw [J_le] at q; exact q) | (rw [J_le] at q; omega)))
      · refine lv_icmp_gt C.1 C.2.1 hdec ht (fun q => ?_) (fun q => ?_)
        · exact g1 true (decide_eq_true (by first | (rw [J_lt] at q; exact q) | (rw [J_lt] at q; omega)))
        · exact g1 false (decide_eq_false (by first | (rw [J_lt] at q; exact q) | (rw [J_lt] at q; omega)))
      · refine lv_icmp_le C.1 C.2.1 hdec ht (fun q => ?_) (fun q => ?_)
        · exact g1 true (decide_eq_true (by first | (rw [J_le] at q; exact q) | (rw [J_le] at q; omega)))
        · exact g1 false (decide_eq_false (by first | (rw [J_le] at q; exact q) | (rw [J_le] at q; omega)))
    · cases hs
  · cases hk
theorem so_36 {b0 : Nat} {sv : Nat → Value} {cy : Nat → ClassId} {D : va_G} {sc : List Int} {M : Nat} {p : Program} {l : Launch} {e : Env} {R : Room} {s : State} {m : MethodId} {args : Array Value} {below : List Frame} {meth : Method} {c : Code} {Q : State → Prop} {k a b : Nat} {v : AV} {l0 : List (Int × Nat)} {i : Instr} {len : Nat} {L : LV} {st : List AV} {hp : HP} {B : BU} {c' : CF} (C : CX b0 sv cy D sc M p s m args meth c) (hdec : decode (mC M) (pcO M k) = .ok (i, len)) (hk : ck_goto M k a b v l0 i len = true) (hs : f_goto sc (k + 1) a b v l0 L st hp B = some (.inl c')) (G : GP b0 sv cy D M p l e R s m args below meth c Q (pcO M c'.1) c'.2.1 c'.2.2.1 c'.2.2.2.1 c'.2.2.2.2) : GP b0 sv cy D M p l e R s m args below meth c Q (pcO M k) L st hp B := by
  unfold ck_goto at hk
  split at hk
  · next off =>
    simp only [Bool.and_eq_true, decide_eq_true_eq] at hk
    obtain ⟨ht, rfl⟩ := hk
    unfold f_goto at hs
    cases hs
    dsimp only at G
    intro hL ls H locs cells slots h1 h2 h3 h4 h5
    refine lv_goto C.1 C.2.1 hdec ht ?_
    exact G hL ls H locs cells slots h1 h2 h3 h4 h5
  · cases hk
theorem so_37 {b0 : Nat} {sv : Nat → Value} {cy : Nat → ClassId} {D : va_G} {sc : List Int} {M : Nat} {p : Program} {l : Launch} {e : Env} {R : Room} {s : State} {m : MethodId} {args : Array Value} {below : List Frame} {meth : Method} {c : Code} {Q : State → Prop} {k a b : Nat} {v : AV} {l0 : List (Int × Nat)} {i : Instr} {len : Nat} {L : LV} {st : List AV} {hp : HP} {B : BU} {c' : CF} (C : CX b0 sv cy D sc M p s m args meth c) (hdec : decode (mC M) (pcO M k) = .ok (i, len)) (hk : ck_nonnull M k a b v l0 i len = true) (hs : f_nonnull sc (k + 1) a b v l0 L st hp B = some (.inl c')) (G : GP b0 sv cy D M p l e R s m args below meth c Q (pcO M c'.1) c'.2.1 c'.2.2.1 c'.2.2.2.1 c'.2.2.2.2) : GP b0 sv cy D M p l e R s m args below meth c Q (pcO M k) L st hp B := by
  unfold ck_nonnull at hk
  split at hk
  · next off =>
    simp only [Bool.and_eq_true, decide_eq_true_eq] at hk
    obtain ⟨ht, hf⟩ := hk
    obtain ⟨rfl, hn⟩ := fall_of hf
    unfold f_nonnull at hs
    split at hs
    · next r st2 =>
      cases hs
      dsimp only at G
      cases r with
      | none =>
        change GP b0 sv cy D M p l e R s m args below meth c Q (pcO M (k + 1)) _ _ _ _ at G
        rw [hn] at G
        intro hL ls H locs cells slots h1 h2 h3 h4 h5
        refine lv_ifnonnullN C.1 C.2.1 hdec ?_
        exact G hL ls H locs cells slots h1 h2 h3 h4 h5
      | some x =>
        change GP b0 sv cy D M p l e R s m args below meth c Q (pcO M b) _ _ _ _ at G
        intro hL ls H locs cells slots h1 h2 h3 h4 h5
        refine lv_ifnonnull C.1 C.2.1 hdec ht ?_
        exact G hL ls H locs cells slots h1 h2 h3 h4 h5
    · cases hs
  · cases hk
theorem so_38 {b0 : Nat} {sv : Nat → Value} {cy : Nat → ClassId} {D : va_G} {sc : List Int} {M : Nat} {p : Program} {l : Launch} {e : Env} {R : Room} {s : State} {m : MethodId} {args : Array Value} {below : List Frame} {meth : Method} {c : Code} {Q : State → Prop} {k a b : Nat} {v : AV} {l0 : List (Int × Nat)} {i : Instr} {len : Nat} {L : LV} {st : List AV} {hp : HP} {B : BU} {c' : CF} (C : CX b0 sv cy D sc M p s m args meth c) (hdec : decode (mC M) (pcO M k) = .ok (i, len)) (hk : ck_switch M k a b v l0 i len = true) (hs : f_switch sc (k + 1) a b v l0 L st hp B = some (.inl c')) (G : GP b0 sv cy D M p l e R s m args below meth c Q (pcO M c'.1) c'.2.1 c'.2.2.1 c'.2.2.2.1 c'.2.2.2.2) : GP b0 sv cy D M p l e R s m args below meth c Q (pcO M k) L st hp B := by
  unfold ck_switch at hk
  unfold f_switch at hs
  split at hk
  · next d lo hi offs =>
    simp only [Bool.and_eq_true, decide_eq_true_eq] at hk
    obtain ⟨⟨ht, hhi⟩, hts⟩ := hk
    split at hs
    · next x st2 =>
      cases hs
      dsimp only at G
      intro hL ls H locs cells slots h1 h2 h3 h4 h5
      obtain ⟨t1, t2⟩ := tsw_spec hts b (w32 x)
      by_cases hx : w32 x < lo ∨ hi < w32 x
      · rw [t1 (by omega)] at G
        refine lv_tableOut C.1 C.2.1 hdec (by rw [J_toInt]; exact hx) ht ?_
        exact G hL ls H locs cells slots h1 h2 h3 h4 h5
      · obtain ⟨off, e1, e2⟩ := t2 (w32 x - lo).toNat (by omega) (by omega)
        refine lv_tableIn C.1 C.2.1 hdec (by rw [J_toInt]; omega) (by rw [J_toInt]; omega) (by rw [J_toInt, ← Array.getElem?_toList]; exact e1) e2 ?_
        exact G hL ls H locs cells slots h1 h2 h3 h4 h5
    · cases hs
  · next d ps =>
    simp only [Bool.and_eq_true, decide_eq_true_eq] at hk
    obtain ⟨⟨ht, hp1⟩, hls⟩ := hk
    split at hs
    · next x st2 =>
      cases hs
      dsimp only at G
      intro hL ls H locs cells slots h1 h2 h3 h4 h5
      refine lv_lookup C.1 C.2.1 hdec hp1 rfl (by rw [J_toInt]; exact lsw_spec ht hls) ?_
      exact G hL ls H locs cells slots h1 h2 h3 h4 h5
    · cases hs
  · cases hk
theorem so_39 {b0 : Nat} {sv : Nat → Value} {cy : Nat → ClassId} {D : va_G} {sc : List Int} {M : Nat} {p : Program} {l : Launch} {e : Env} {R : Room} {s : State} {m : MethodId} {args : Array Value} {below : List Frame} {meth : Method} {c : Code} {Q : State → Prop} {k a b : Nat} {v : AV} {l0 : List (Int × Nat)} {i : Instr} {len : Nat} {L : LV} {st : List AV} {hp : HP} {B : BU} {c' : CF} (C : CX b0 sv cy D sc M p s m args meth c) (hdec : decode (mC M) (pcO M k) = .ok (i, len)) (hk : ck_getf M k a b v l0 i len = true) (hs : f_getf sc (k + 1) a b v l0 L st hp B = some (.inl c')) (G : GP b0 sv cy D M p l e R s m args below meth c Q (pcO M c'.1) c'.2.1 c'.2.2.1 c'.2.2.2.1 c'.2.2.2.2) : GP b0 sv cy D M p l e R s m args below meth c Q (pcO M k) L st hp B := by
  unfold ck_getf at hk
  split at hk
  · next j =>
    simp only [Bool.and_eq_true] at hk
    obtain ⟨hk, hf⟩ := hk
    obtain ⟨rfl, hn⟩ := fall_of hf
    split at hk
    · next q hq =>
      simp only [Bool.and_eq_true, decide_eq_true_eq] at hk
      obtain ⟨⟨⟨q1, q2⟩, q3⟩, q4⟩ := hk
      have hw := List.all_eq_true.mp FLW_ok q (List.mem_of_getElem? hq)
      unfold flOk at hw
      simp only [Bool.and_eq_true, decide_eq_true_eq] at hw
      obtain ⟨⟨w1, w2⟩, w3⟩ := hw
      rw [q3] at w1 w2 w3
      rw [q4] at w2 w3
      rw [q1, q2] at w3
      unfold f_getf at hs
      split at hs
      · next x st2 =>
        split at hs
        · next v2 hv2 =>
          cases hs
          dsimp only at G
          rw [hn] at G
          intro hL ls H locs cells slots h1 h2 h3 h4 h5
          obtain ⟨fs, g1, g2⟩ := gF_spec hv2
          refine va_get (D := D) (ci := a) (v := cv b0 sv v2) (C := (clT a).1) (T := (clT a).2.1) (N := (clT a).2.2) C.1 C.2.1 C.2.2.2.2.1 (ly_in w1) C.2.2.2.1 C.2.2.2.2.2.2.1 h2.2 x (wl_at g1) (clT_get w1) b w2 (C.2.2.2.2.1 _ (wIs_mem w3)) (fun _ h9 => by rw [cl_decl w1 w2] at h9; exact h9) (by rw [List.getElem?_map, g2]; rfl) hdec ?_
          exact G hL ls H locs cells slots h1 h2 h3 h4 h5
        · cases hs
      · cases hs
    · cases hk
  · cases hk
theorem so_40 {b0 : Nat} {sv : Nat → Value} {cy : Nat → ClassId} {D : va_G} {sc : List Int} {M : Nat} {p : Program} {l : Launch} {e : Env} {R : Room} {s : State} {m : MethodId} {args : Array Value} {below : List Frame} {meth : Method} {c : Code} {Q : State → Prop} {k a b : Nat} {v : AV} {l0 : List (Int × Nat)} {i : Instr} {len : Nat} {L : LV} {st : List AV} {hp : HP} {B : BU} {c' : CF} (C : CX b0 sv cy D sc M p s m args meth c) (hdec : decode (mC M) (pcO M k) = .ok (i, len)) (hk : ck_putf M k a b v l0 i len = true) (hs : f_putf sc (k + 1) a b v l0 L st hp B = some (.inl c')) (G : GP b0 sv cy D M p l e R s m args below meth c Q (pcO M c'.1) c'.2.1 c'.2.2.1 c'.2.2.2.1 c'.2.2.2.2) : GP b0 sv cy D M p l e R s m args below meth c Q (pcO M k) L st hp B := by
  unfold ck_putf at hk
  split at hk
  · next j kd =>
    simp only [Bool.and_eq_true, Bool.or_eq_true, decide_eq_true_eq] at hk
    obtain ⟨⟨⟨hk, hf⟩, hkd⟩, hfin⟩ := hk
    obtain ⟨rfl, hn⟩ := fall_of hf
    split at hk
    · next q hq =>
      simp only [Bool.and_eq_true, decide_eq_true_eq] at hk
      obtain ⟨⟨⟨q1, q2⟩, q3⟩, q4⟩ := hk
      have hw := List.all_eq_true.mp FLW_ok q (List.mem_of_getElem? hq)
      unfold flOk at hw
      simp only [Bool.and_eq_true, decide_eq_true_eq] at hw
      obtain ⟨⟨w1, w2⟩, w3⟩ := hw
      rw [q3] at w1 w2 w3
      rw [q4] at w2 w3
      rw [q1, q2] at w3
      unfold f_putf at hs
      split at hs
      · next kd2 wv x st2 hkk =>
        cases hkk
        split at hs
        · next v2 hv2 =>
          split at hs
          · next hlike =>
            cases hs
            dsimp only at G
            rw [hn] at G
            intro hL ls H locs cells slots h1 h2 h3 h4 h5
            obtain ⟨fs, g1, g2⟩ := gF_spec hv2
            have hc := clT_get w1
            have hin := ly_in w1
            have hK := C.2.2.2.2.2.2.1
            have hap := va_apart (own := mO M) C.2.2.2.2.1 hin (tyC a) (cl_ty w1) (cl_nm w1) hK hc
            obtain ⟨r, hr1, cell, c1, c2, c3, c4⟩ := RH_at h2 g1
            have hr : r = clT a := Option.some.inj (hr1.symm.trans hc)
            subst hr
            obtain ⟨hSl, hfc, kC, hkC, hkind⟩ := hK.1 a _ hc
            obtain ⟨cf, kf, fi, f, hi, hsl⟩ := hSl b w2
            have hi2 : s.fieldFound? (clT a).1 ((clT a).2.1 b).2.1 ((clT a).2.1 b).2.2.1 = some (cf, kf, fi, f) := by rw [← cl_decl w1 w2]; exact hi
            have hlay := C.2.2.2.2.1 _ (hin _ (u_in_lay w2))
            have hst := (u_facts hfc hkC (u_lays C.2.2.2.2.1 hin w2) hi).1
            have hty := cl_ty w1 b w2
            rw [hty] at hkd
            have hkd : kdN (tyC a b) = kd.toNat := Option.some.inj hkd
            have hnf : narrow (tyC a b) (cv b0 sv wv) = cv b0 sv wv ∧ fits (tyC a b) (cv b0 sv wv) = true := like_fits hkd hlike
            have hbl : b < (fs.map (cv b0 sv)).length := by rw [List.length_map]; exact (List.getElem?_eq_some_iff.mp g2).1
            have hpf : pF hp x a b wv = hp.set x (.inl (a, fs.set b wv)) := by
              unfold pF
              rw [g1]
              exact if_pos rfl
            rw [hpf] at G
            have fin : ∀ H' : Heap, H'[b0 + x]? = some (cell.setSlot f.slot (cv b0 sv wv)) → H'.size = H.size → (∀ q, q ≠ b0 + x → H'[q]? = H[q]?) → W p l e R s m args below meth c H' (locs ++ [⟨b0 + x, f.slot⟩]) cells slots Q (F0 m (pcO M k + 3) ls (st2.map (cv b0 sv))) := by
              intro H' e1 e2 e3
              refine G hL ls H' _ cells slots h1 (RH_set h2 g1 ?_ e2 e3) (va_Sput h3 e2 e3) h4 h5
              refine ⟨clT a, hc, t_OB.to (V := updV (vp_V (fs.map (cv b0 sv))) b (cv b0 sv wv)) ⟨_, e1, c2, c3, ?_⟩ (fun j _ => ?_)⟩
              · have := t_set c4 hap w2 (cv b0 sv wv)
                rw [hsl]
                exact this
              · rw [vp_updV_set hbl, List.map_set]
            rcases hfin with hfin | ⟨⟨hfin, hini⟩, hown⟩
            · unfold u_lay at hlay
              rw [if_neg (by rw [hfin]; decide)] at hlay
              have h6 := u_store hfc hkC hkind hlay hi hty hnf.1 hnf.2
              exact W.putK C.1 C.2.1 (f := f) ⟨C.2.2.2.1, C.2.2.2.2.1 _ (wIs_mem w3), ⟨_, _, _, hi2⟩, hst⟩ (by rw [c2]; exact h6) c1 c3 (by rw [hsl]; exact k2_hasslot (c4 b w2)) rfl rfl hdec fin
            · unfold u_lay at hlay
              rw [if_pos hfin] at hlay
              have hcf : m.cls = cf := by
                obtain ⟨_, _, cc, _, _, _, -, -, hf', -, -, -, hown2, -⟩ := Cond.laysFinal_spec hlay
                have e1 : cc = cf := by have := hi.symm.trans hf'; simp at this; exact this.1.symm
                rw [hown] at hown2
                rw [← e1]; exact Option.some.inj (C.2.2.2.1.symm.trans hown2)
              have h6 := u_fits hfc hkC hkind (Or.inr hlay) hi hty hnf.1 hnf.2
              exact W.putFinK C.1 C.2.1 C.2.2.2.1 (C.2.2.2.2.1 _ (wIs_mem w3)) hi2 hst hcf (C.2.2.2.2.2.1 hini) (by rw [c2]; exact h6) c1 c3 (by rw [hsl]; exact k2_hasslot (c4 b w2)) rfl rfl hdec fin
          · cases hs
        · cases hs
      · cases hs
    · cases hk
  · cases hk
theorem so_43 {b0 : Nat} {sv : Nat → Value} {cy : Nat → ClassId} {D : va_G} {sc : List Int} {M : Nat} {p : Program} {l : Launch} {e : Env} {R : Room} {s : State} {m : MethodId} {args : Array Value} {below : List Frame} {meth : Method} {c : Code} {Q : State → Prop} {k a b : Nat} {v : AV} {l0 : List (Int × Nat)} {i : Instr} {len : Nat} {L : LV} {st : List AV} {hp : HP} {B : BU} {c' : CF} (C : CX b0 sv cy D sc M p s m args meth c) (hdec : decode (mC M) (pcO M k) = .ok (i, len)) (hk : ck_s .iaload M k a b v l0 i len = true) (hs : f_iald sc (k + 1) a b v l0 L st hp B = some (.inl c')) (G : GP b0 sv cy D M p l e R s m args below meth c Q (pcO M c'.1) c'.2.1 c'.2.2.1 c'.2.2.2.1 c'.2.2.2.2) : GP b0 sv cy D M p l e R s m args below meth c Q (pcO M k) L st hp B := by
  obtain ⟨rfl, rfl, hn⟩ := ck_s_of hk
  unfold f_iald at hs
  split at hs
  · next ix x st2 =>
    split at hs
    · next lst hl =>
      split at hs
      · next hin =>
        cases hs
        dsimp only at G
        rw [hn] at G
        intro hL ls H locs cells slots h1 h2 h3 h4 h5
        have ha := wl_at (b0 := b0) (sv := sv) (cy := cy) (gA_spec hl)
        refine va_iald C.1 C.2.1 C.2.2.2.2.2.2.1 h2.2 x 0 ha rfl (J_in.mpr (inB_iff.mp hin)) hdec ?_
        rw [J_clamp]
        exact G hL ls H locs cells slots h1 h2 h3 h4 h5
      · cases hs
    · cases hs
  · next ix j st2 =>
    split at hs
    · next hin =>
      cases hs
      dsimp only at G
      rw [hn] at G
      intro hL ls H locs cells slots h1 h2 h3 h4 h5
      have hT : tabOk b0 sv (stab sc j) j s := by
        have hne : stab sc j ≠ [] := by
          intro e0
          rw [e0] at hin
          have := inB_iff.mp hin
          unfold inB at this
          simp only [List.length_nil] at this
          omega
        by_cases h9 : j = 9
        · subst h9
          exact C.2.2.2.2.2.2.2.2.1 (Or.inl hne)
        · by_cases h4 : j < 4
          · have := C.2.2.2.2.2.2.2.1.2.2.2.2.1 j h4
            rw [show stab sc j = stab [] j from by rcases j with _ | _ | _ | _ | j <;> first | rfl | omega]
            exact this
          · exact absurd (show stab sc j = [] from by unfold stab; split <;> first | omega | rfl) hne
      obtain ⟨t, e1, hT⟩ := hT
      show W p l e R s m args below meth c H locs cells slots Q (F0 m (pcO M k) ls (.int (Int32.ofInt ix) :: sv j :: st2.map (cv b0 sv)))
      rw [e1]
      refine va_ti C.1 C.2.1 hT h3 (J_in.mpr (inB_iff.mp hin)) (v := .int (Int32.ofInt ((stab sc j).getD (w32 ix).toNat 0))) (by rw [J_clamp]) hdec ?_
      exact G hL ls H locs cells slots h1 h2 h3 h4 h5
    · cases hs
  · cases hs
theorem so_44 {b0 : Nat} {sv : Nat → Value} {cy : Nat → ClassId} {D : va_G} {sc : List Int} {M : Nat} {p : Program} {l : Launch} {e : Env} {R : Room} {s : State} {m : MethodId} {args : Array Value} {below : List Frame} {meth : Method} {c : Code} {Q : State → Prop} {k a b : Nat} {v : AV} {l0 : List (Int × Nat)} {i : Instr} {len : Nat} {L : LV} {st : List AV} {hp : HP} {B : BU} {c' : CF} (C : CX b0 sv cy D sc M p s m args meth c) (hdec : decode (mC M) (pcO M k) = .ok (i, len)) (hk : ck_s .baload M k a b v l0 i len = true) (hs : f_bald sc (k + 1) a b v l0 L st hp B = some (.inl c')) (G : GP b0 sv cy D M p l e R s m args below meth c Q (pcO M c'.1) c'.2.1 c'.2.2.1 c'.2.2.2.1 c'.2.2.2.2) : GP b0 sv cy D M p l e R s m args below meth c Q (pcO M k) L st hp B := by
  obtain ⟨rfl, rfl, hn⟩ := ck_s_of hk
  unfold f_bald at hs
  split at hs
  · next ix x st2 =>
    split at hs
    · next lst hl =>
      split at hs
      · next hin =>
        cases hs
        dsimp only at G
        rw [hn] at G
        intro hL ls H locs cells slots h1 h2 h3 h4 h5
        have ha := wl_at (b0 := b0) (sv := sv) (cy := cy) (gB_spec hl)
        refine va_zald C.1 C.2.1 C.2.2.2.2.2.2.1 h2.2 x 1 ha rfl (J_in.mpr (inB_iff.mp hin)) hdec ?_
        rw [J_clamp]
        exact G hL ls H locs cells slots h1 h2 h3 h4 h5
      · cases hs
    · cases hs
  · cases hs
theorem so_45 {b0 : Nat} {sv : Nat → Value} {cy : Nat → ClassId} {D : va_G} {sc : List Int} {M : Nat} {p : Program} {l : Launch} {e : Env} {R : Room} {s : State} {m : MethodId} {args : Array Value} {below : List Frame} {meth : Method} {c : Code} {Q : State → Prop} {k a b : Nat} {v : AV} {l0 : List (Int × Nat)} {i : Instr} {len : Nat} {L : LV} {st : List AV} {hp : HP} {B : BU} {c' : CF} (C : CX b0 sv cy D sc M p s m args meth c) (hdec : decode (mC M) (pcO M k) = .ok (i, len)) (hk : ck_s .laload M k a b v l0 i len = true) (hs : f_lald sc (k + 1) a b v l0 L st hp B = some (.inl c')) (G : GP b0 sv cy D M p l e R s m args below meth c Q (pcO M c'.1) c'.2.1 c'.2.2.1 c'.2.2.2.1 c'.2.2.2.2) : GP b0 sv cy D M p l e R s m args below meth c Q (pcO M k) L st hp B := by
  obtain ⟨rfl, rfl, hn⟩ := ck_s_of hk
  unfold f_lald at hs
  split at hs
  · next ix x st2 =>
    split at hs
    · next lst hl =>
      split at hs
      · next hin =>
        cases hs
        dsimp only at G
        rw [hn] at G
        intro hL ls H locs cells slots h1 h2 h3 h4 h5
        have ha := wl_at (b0 := b0) (sv := sv) (cy := cy) (gJ_spec hl)
        refine va_lald C.1 C.2.1 C.2.2.2.2.2.2.1 h2.2 x 2 ha rfl (J_in.mpr (inB_iff.mp hin)) hdec ?_
        rw [J_clamp]
        exact G hL ls H locs cells slots h1 h2 h3 h4 h5
      · cases hs
    · cases hs
  · cases hs
theorem so_46 {b0 : Nat} {sv : Nat → Value} {cy : Nat → ClassId} {D : va_G} {sc : List Int} {M : Nat} {p : Program} {l : Launch} {e : Env} {R : Room} {s : State} {m : MethodId} {args : Array Value} {below : List Frame} {meth : Method} {c : Code} {Q : State → Prop} {k a b : Nat} {v : AV} {l0 : List (Int × Nat)} {i : Instr} {len : Nat} {L : LV} {st : List AV} {hp : HP} {B : BU} {c' : CF} (C : CX b0 sv cy D sc M p s m args meth c) (hdec : decode (mC M) (pcO M k) = .ok (i, len)) (hk : ck_aald M k a b v l0 i len = true) (hs : f_aald sc (k + 1) a b v l0 L st hp B = some (.inl c')) (G : GP b0 sv cy D M p l e R s m args below meth c Q (pcO M c'.1) c'.2.1 c'.2.2.1 c'.2.2.2.1 c'.2.2.2.2) : GP b0 sv cy D M p l e R s m args below meth c Q (pcO M k) L st hp B := by
  unfold ck_aald at hk
  simp only [Bool.and_eq_true, decide_eq_true_eq] at hk
  obtain ⟨⟨rfl, hf⟩, ha01⟩ := hk
  obtain ⟨rfl, hn⟩ := fall_of hf
  unfold f_aald at hs
  split at hs
  · next ix x st2 =>
    split at hs
    · next lst hl =>
      split at hs
      · next hin =>
        cases hs
        dsimp only at G
        rw [hn] at G
        intro hL ls H locs cells slots h1 h2 h3 h4 h5
        have ha := wl_at (b0 := b0) (sv := sv) (cy := cy) (gQ_spec hl)
        have hin2 : vp_in (Int32.ofInt ix) lst.length := J_in.mpr (inB_iff.mp hin)
        have hlt : (Int32.ofInt ix).toNatClampNeg < lst.length := Nat.not_le.mp fun q => hin2 (Or.inr q)
        have hv : cv b0 sv (mQ (lst.getD (w32 ix).toNat none)) = va_rf ((lst.getD (w32 ix).toNat none).map (fun a => b0 + a)) := by
          cases lst.getD (w32 ix).toNat none <;> rfl
        have hG := G hL ls H locs cells slots h1 h2 h3 h4 h5
        rw [List.map_cons, hv, ← J_clamp] at hG
        have hK := C.2.2.2.2.2.2.1
        have hof : ∃ ty, ArrOfT s (cy (3 + a)) ty ∧ ty.isReference = true := by
          rcases ha01 with rfl | rfl
          · exact ⟨_, (hK.2 3 _ rfl).1, rfl⟩
          · exact ⟨_, (hK.2 4 _ rfl).1, rfl⟩
        obtain ⟨ty, hof, hrk⟩ := hof
        exact W.aald C.1 C.2.1 (h2.2 x _ ha) (hof lst.length (fun j => va_rf ((lst.getD j none).map (fun a => b0 + a)))) hrk (fun q => by cases q) (by show ¬ (_ < 0 ∨ (arrV _ _ _).slots.size ≤ _); rw [arrV_size]; exact hin2) (by show (arrV _ _ _).slots[_]? = _; rw [arrV_read _ _ hlt]) rfl rfl hdec hG
      · cases hs
    · cases hs
  · cases hs
theorem so_47 {b0 : Nat} {sv : Nat → Value} {cy : Nat → ClassId} {D : va_G} {sc : List Int} {M : Nat} {p : Program} {l : Launch} {e : Env} {R : Room} {s : State} {m : MethodId} {args : Array Value} {below : List Frame} {meth : Method} {c : Code} {Q : State → Prop} {k a b : Nat} {v : AV} {l0 : List (Int × Nat)} {i : Instr} {len : Nat} {L : LV} {st : List AV} {hp : HP} {B : BU} {c' : CF} (C : CX b0 sv cy D sc M p s m args meth c) (hdec : decode (mC M) (pcO M k) = .ok (i, len)) (hk : ck_s .iastore M k a b v l0 i len = true) (hs : f_iast sc (k + 1) a b v l0 L st hp B = some (.inl c')) (G : GP b0 sv cy D M p l e R s m args below meth c Q (pcO M c'.1) c'.2.1 c'.2.2.1 c'.2.2.2.1 c'.2.2.2.2) : GP b0 sv cy D M p l e R s m args below meth c Q (pcO M k) L st hp B := by
  obtain ⟨rfl, rfl, hn⟩ := ck_s_of hk
  unfold f_iast at hs
  split at hs
  · next y ix x st2 =>
    split at hs
    · next lst hl =>
      split at hs
      · next hin =>
        cases hs
        dsimp only at G
        rw [hn] at G
        intro hL ls H locs cells slots h1 h2 h3 h4 h5
        have hin2 : vp_in (Int32.ofInt ix) lst.length := J_in.mpr (inB_iff.mp hin)
        have hlt : (w32 ix).toNat < lst.length := by rw [← J_clamp]; exact Nat.not_le.mp fun q => hin2 (Or.inr q)
        have hcell : H[b0 + x]? = some (vp_cell (cy 0) (lst.length, .inl (fun j => Int32.ofInt (lst.getD j 0)))) := h2.2 x _ (wl_at (gA_spec hl))
        rw [pA_is hl] at G
        refine W.iast C.1 C.2.1 hcell ((C.2.2.2.2.2.2.1.2 0 _ rfl).1 lst.length (fun j => .int (Int32.ofInt (lst.getD j 0)))) (fun q => by cases q) (by show ¬ (_ < 0 ∨ (arrV _ _ _).slots.size ≤ _); rw [arrV_size]; exact hin2) rfl rfl hdec fun H1 e1 z oq => ?_
        refine G hL ls H1 _ cells slots h1 (RH_set h2 (gA_spec hl) ?_ z oq) (va_Sput h3 z oq) h4 h5
        show H1[b0 + x]? = some (vp_cell _ _)
        rw [e1]
        dsimp only
        rw [vp_cell_i, vp_cell_i, arrV_store, J_clamp, List.length_set]
        congr 2
        funext q
        unfold updV
        by_cases hq : q = (w32 ix).toNat
        · subst hq
          rw [if_pos rfl]
          simp only [List.getD_eq_getElem?_getD, List.getElem?_set_self hlt, Option.getD_some]
          try rfl
        · rw [if_neg hq]
          simp only [List.getD_eq_getElem?_getD, List.getElem?_set_ne (Ne.symm hq)]
      · cases hs
    · cases hs
  · cases hs
theorem so_49 {b0 : Nat} {sv : Nat → Value} {cy : Nat → ClassId} {D : va_G} {sc : List Int} {M : Nat} {p : Program} {l : Launch} {e : Env} {R : Room} {s : State} {m : MethodId} {args : Array Value} {below : List Frame} {meth : Method} {c : Code} {Q : State → Prop} {k a b : Nat} {v : AV} {l0 : List (Int × Nat)} {i : Instr} {len : Nat} {L : LV} {st : List AV} {hp : HP} {B : BU} {c' : CF} (C : CX b0 sv cy D sc M p s m args meth c) (hdec : decode (mC M) (pcO M k) = .ok (i, len)) (hk : ck_s .lastore M k a b v l0 i len = true) (hs : f_last sc (k + 1) a b v l0 L st hp B = some (.inl c')) (G : GP b0 sv cy D M p l e R s m args below meth c Q (pcO M c'.1) c'.2.1 c'.2.2.1 c'.2.2.2.1 c'.2.2.2.2) : GP b0 sv cy D M p l e R s m args below meth c Q (pcO M k) L st hp B := by
  obtain ⟨rfl, rfl, hn⟩ := ck_s_of hk
  unfold f_last at hs
  split at hs
  · next y ix x st2 =>
    split at hs
    · next lst hl =>
      split at hs
      · next hin =>
        cases hs
        dsimp only at G
        rw [hn] at G
        intro hL ls H locs cells slots h1 h2 h3 h4 h5
        have hin2 : vp_in (Int32.ofInt ix) lst.length := J_in.mpr (inB_iff.mp hin)
        have hlt : (w32 ix).toNat < lst.length := by rw [← J_clamp]; exact Nat.not_le.mp fun q => hin2 (Or.inr q)
        have hcell : H[b0 + x]? = some (vp_cell (cy 2) (lst.length, .inr (.inl (fun j => Int64.ofBitVec (lst.getD j 0#64))))) := h2.2 x _ (wl_at (gJ_spec hl))
        rw [pJ_is hl] at G
        refine W.last C.1 C.2.1 hcell ((C.2.2.2.2.2.2.1.2 2 _ rfl).1 lst.length (fun j => .long (Int64.ofBitVec (lst.getD j 0#64)))) (fun q => by cases q) (by show ¬ (_ < 0 ∨ (arrV _ _ _).slots.size ≤ _); rw [arrV_size]; exact hin2) rfl rfl hdec fun H1 e1 z oq => ?_
        refine G hL ls H1 _ cells slots h1 (RH_set h2 (gJ_spec hl) ?_ z oq) (va_Sput h3 z oq) h4 h5
        show H1[b0 + x]? = some (vp_cell _ _)
        rw [e1]
        dsimp only
        rw [vp_cell_l, vp_cell_l, arrV_store, J_clamp, List.length_set]
        congr 2
        funext q
        unfold updV
        by_cases hq : q = (w32 ix).toNat
        · subst hq
          rw [if_pos rfl]
          simp only [List.getD_eq_getElem?_getD, List.getElem?_set_self hlt, Option.getD_some]
          try rfl
        · rw [if_neg hq]
          simp only [List.getD_eq_getElem?_getD, List.getElem?_set_ne (Ne.symm hq)]
      · cases hs
    · cases hs
  · cases hs
theorem so_48 {b0 : Nat} {sv : Nat → Value} {cy : Nat → ClassId} {D : va_G} {sc : List Int} {M : Nat} {p : Program} {l : Launch} {e : Env} {R : Room} {s : State} {m : MethodId} {args : Array Value} {below : List Frame} {meth : Method} {c : Code} {Q : State → Prop} {k a b : Nat} {v : AV} {l0 : List (Int × Nat)} {i : Instr} {len : Nat} {L : LV} {st : List AV} {hp : HP} {B : BU} {c' : CF} (C : CX b0 sv cy D sc M p s m args meth c) (hdec : decode (mC M) (pcO M k) = .ok (i, len)) (hk : ck_s .bastore M k a b v l0 i len = true) (hs : f_bast sc (k + 1) a b v l0 L st hp B = some (.inl c')) (G : GP b0 sv cy D M p l e R s m args below meth c Q (pcO M c'.1) c'.2.1 c'.2.2.1 c'.2.2.2.1 c'.2.2.2.2) : GP b0 sv cy D M p l e R s m args below meth c Q (pcO M k) L st hp B := by
  obtain ⟨rfl, rfl, hn⟩ := ck_s_of hk
  unfold f_bast at hs
  split at hs
  · next y ix x st2 =>
    split at hs
    · next lst hl =>
      split at hs
      · next hin =>
        cases hs
        dsimp only at G
        rw [hn] at G
        intro hL ls H locs cells slots h1 h2 h3 h4 h5
        simp only [Bool.and_eq_true, okZ, Bool.or_eq_true, decide_eq_true_eq] at hin
        have hin2 : vp_in (Int32.ofInt ix) lst.length := J_in.mpr (inB_iff.mp hin.1)
        have hlt : (w32 ix).toNat < lst.length := by rw [← J_clamp]; exact Nat.not_le.mp fun q => hin2 (Or.inr q)
        have hcell : H[b0 + x]? = some (vp_cell (cy 1) (lst.length, .inl (fun j => Int32.ofInt (lst.getD j 0)))) := h2.2 x _ (wl_at (gB_spec hl))
        rw [pB_is hl] at G
        refine W.zast C.1 C.2.1 hcell ((C.2.2.2.2.2.2.1.2 1 _ rfl).1 lst.length (fun j => .int (Int32.ofInt (lst.getD j 0)))) (fun q => by cases q) (by show ¬ (_ < 0 ∨ (arrV _ _ _).slots.size ≤ _); rw [arrV_size]; exact hin2) rfl rfl hdec fun H1 e1 z oq => ?_
        refine G hL ls H1 _ cells slots h1 (RH_set h2 (gB_spec hl) ?_ z oq) (va_Sput h3 z oq) h4 h5
        show H1[b0 + x]? = some (vp_cell _ _)
        rw [e1]
        dsimp only
        rw [vp_cell_i, vp_cell_i, arrV_store, J_clamp, List.length_set]
        congr 2
        funext q
        unfold updV
        by_cases hq : q = (w32 ix).toNat
        · subst hq
          rw [if_pos rfl]
          simp only [List.getD_eq_getElem?_getD, List.getElem?_set_self hlt, Option.getD_some]
          rcases hin.2 with rfl | rfl <;> decide +kernel
        · rw [if_neg hq]
          simp only [List.getD_eq_getElem?_getD, List.getElem?_set_ne (Ne.symm hq)]
      · cases hs
    · cases hs
  · cases hs
theorem so_50 {b0 : Nat} {sv : Nat → Value} {cy : Nat → ClassId} {D : va_G} {sc : List Int} {M : Nat} {p : Program} {l : Launch} {e : Env} {R : Room} {s : State} {m : MethodId} {args : Array Value} {below : List Frame} {meth : Method} {c : Code} {Q : State → Prop} {k a b : Nat} {v : AV} {l0 : List (Int × Nat)} {i : Instr} {len : Nat} {L : LV} {st : List AV} {hp : HP} {B : BU} {c' : CF} (C : CX b0 sv cy D sc M p s m args meth c) (hdec : decode (mC M) (pcO M k) = .ok (i, len)) (hk : ck_aast M k a b v l0 i len = true) (hs : f_aast sc (k + 1) a b v l0 L st hp B = some (.inl c')) (G : GP b0 sv cy D M p l e R s m args below meth c Q (pcO M c'.1) c'.2.1 c'.2.2.1 c'.2.2.2.1 c'.2.2.2.2) : GP b0 sv cy D M p l e R s m args below meth c Q (pcO M k) L st hp B := by
  unfold ck_aast at hk
  simp only [Bool.and_eq_true, decide_eq_true_eq] at hk
  obtain ⟨⟨⟨rfl, hf⟩, rfl⟩, rfl⟩ := hk
  obtain ⟨rfl, hn⟩ := fall_of hf
  unfold f_aast at hs
  split at hs
  · next y ix x st2 =>
    split at hs
    · next lst hl =>
      split at hs
      · next hin =>
        simp only [Bool.and_eq_true, decide_eq_true_eq] at hin
        cases hs
        dsimp only at G
        rw [hn] at G
        intro hL ls H locs cells slots h1 h2 h3 h4 h5
        have hin2 : vp_in (Int32.ofInt ix) lst.length := J_in.mpr (inB_iff.mp hin.1)
        have hlt : (w32 ix).toNat < lst.length := by rw [← J_clamp]; exact Nat.not_le.mp fun q => hin2 (Or.inr q)
        obtain ⟨fs, hy⟩ := gC_spec hin.2
        have ha := wl_at (b0 := b0) (sv := sv) (cy := cy) (gQ_spec hl)
        have hcell : H[b0 + x]? = some (vp_cell (cy 3) (lst.length, .inr (.inr (.inr (.inr (fun j => (lst.getD j none).map (fun a => b0 + a))))))) := h2.2 x _ ha
        have hpq : pQ hp x 0 (lst.set (w32 ix).toNat (some y)) = hp.set x (.inr (.inr (.inr (0, lst.set (w32 ix).toNat (some y))))) := by
          unfold pQ
          rw [gQ_spec hl]
          exact if_pos rfl
        rw [hpq] at G
        have hK := C.2.2.2.2.2.2.1
        obtain ⟨r', hr', cellV, g1, g2, g3, -⟩ := RH_at h2 hy
        have hr4 : r' = (RX4, TX4, 10) := (Option.some.inj hr').symm
        subst hr4
        have hcls := (hK.1 4 _ rfl).2
        obtain ⟨kA, comp, k1, k2, k3, -⟩ := (hK.2 3 _ rfl).2
        have hcomp : comp = D.1 4 := Option.some.inj (k3.symm.trans hcls.1)
        subst hcomp
        obtain ⟨kC, hkC, -⟩ := hcls.2
        refine W.aast C.1 C.2.1 hcell (fun q h => by cases h) (fun h => by cases h) k1 k2 rfl hkC ⟨fun q => hin2 (Or.inl q), by show _ < (arrV _ _ _).slots.size; rw [arrV_size, J_clamp]; exact hlt⟩ g1 (fun q h => by rw [g3] at h; cases h) (by rw [g2]; exact hkC) (by rw [g2]; exact va_assign hcls) rfl rfl hdec fun H1 e1 z oq => ?_
        refine G hL ls H1 _ cells slots h1 (RH_set h2 (gQ_spec hl) ?_ z oq) (va_Sput h3 z oq) h4 h5
        show H1[b0 + x]? = some (vp_cell _ _)
        rw [e1]
        dsimp only
        rw [vp_cell_q, vp_cell_q, arrV_store, J_clamp, List.length_set]
        congr 2
        funext q
        unfold updV
        by_cases hq : q = (w32 ix).toNat
        · subst hq
          rw [if_pos rfl]
          simp only [List.getD_eq_getElem?_getD, List.getElem?_set_self hlt, Option.getD_some]
          rfl
        · rw [if_neg hq]
          simp only [List.getD_eq_getElem?_getD, List.getElem?_set_ne (Ne.symm hq)]
      · cases hs
    · cases hs
  · cases hs
