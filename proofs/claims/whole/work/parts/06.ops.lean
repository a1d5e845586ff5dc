def oE {α : Type} (o : Option α) (P : α → Prop) : Prop := ∃ x, o = some x ∧ P x
theorem oE_some {α : Type} {x : α} {P : α → Prop} : oE (some x) P ↔ P x := ⟨fun ⟨_, h, q⟩ => by cases h; exact q, fun q => ⟨x, rfl, q⟩⟩
theorem oE_of {α : Type} {o : Option α} {x : α} {P : α → Prop} (h : o = some x) (q : P x) : oE o P := ⟨x, h, q⟩
def inB (i : Int) (n : Nat) : Prop := 0 ≤ w32 i ∧ w32 i < n
theorem inB_iff {i : Int} {n : Nat} : inb i n = true ↔ inB i n := by simp [inb, inB]
theorem AW_bif {d : Nat} {sc : List Int} {M : Nat} {R : PO} {c : Bool} {p q : Nat} {L : LV} {st : List AV} {hp : HP} {B : BU} : AW d sc M R (bif c then p else q) L st hp B ↔ if c = true then AW d sc M R p L st hp B else AW d sc M R q L st hp B := by cases c <;> simp
theorem AWk_1 {d : Nat} {sc : List Int} {M : Nat} {R : PO} {pc : Nat} {e : Nat × Nat × Nat × AV × List (Int × Nat)} {L : LV} {st : List AV} {hp : HP} {B : BU} : AWk d sc M R pc (1, e) L st hp B ↔ AWh d sc M R pc L st hp B := Iff.rfl
theorem x_none {d : Nat} {sc : List Int} {M : Nat} {R : PO} {pc : Nat} {L : LV} {st : List AV} {hp : HP} {B : BU} (e : AI) (h0 : e.1 = 0) {c : Prop} (h : ¬ c) (hs : stepE sc e (pc + 1) L st hp B = none) : AWk d sc M R pc e L st hp B ↔ c := by
  have : AWk d sc M R pc e L st hp B ↔ False := by
    unfold AWk
    rw [h0]
    show AWg d sc M R pc e L st hp B ↔ False
    unfold AWg
    rw [hs]
  rw [this]
  exact ⟨fun q => q.elim, fun q => (h q).elim⟩

theorem x_push_i {d : Nat} {sc : List Int} {M : Nat} {R : PO} {pc : Nat} {a : Nat} {b : Nat} {l0 : List (Int × Nat)} {L : LV} {st : List AV} {hp : HP} {B : BU} {x : Int} : AWk d sc M R pc (0, 0, a, b, mI x, l0) L (st) hp B ↔ AW d sc M R (pc + 1) L (mI x :: st) hp B := Iff.rfl
theorem x_push_l {d : Nat} {sc : List Int} {M : Nat} {R : PO} {pc : Nat} {a : Nat} {b : Nat} {l0 : List (Int × Nat)} {L : LV} {st : List AV} {hp : HP} {B : BU} {x : BitVec 64} : AWk d sc M R pc (0, 0, a, b, mL x, l0) L (st) hp B ↔ AW d sc M R (pc + 1) L (mL x :: st) hp B := Iff.rfl
theorem x_iload_0 {d : Nat} {sc : List Int} {M : Nat} {R : PO} {pc : Nat} {b : Nat} {v0 : AV} {l0 : List (Int × Nat)} {L : LV} {st : List AV} {hp : HP} {B : BU} {x : Int} : AWk d sc M R pc (0, 1, 0, b, v0, l0) (some (mI x) :: L) (st) hp B ↔ AW d sc M R (pc + 1) (some (mI x) :: L) (mI x :: st) hp B := Iff.rfl
theorem x_lload_0 {d : Nat} {sc : List Int} {M : Nat} {R : PO} {pc : Nat} {b : Nat} {v0 : AV} {l0 : List (Int × Nat)} {L : LV} {st : List AV} {hp : HP} {B : BU} {x : BitVec 64} : AWk d sc M R pc (0, 2, 0, b, v0, l0) (some (mL x) :: L) (st) hp B ↔ AW d sc M R (pc + 1) (some (mL x) :: L) (mL x :: st) hp B := Iff.rfl
theorem x_aload_0 {d : Nat} {sc : List Int} {M : Nat} {R : PO} {pc : Nat} {b : Nat} {v0 : AV} {l0 : List (Int × Nat)} {L : LV} {st : List AV} {hp : HP} {B : BU} {x : Nat} : AWk d sc M R pc (0, 3, 0, b, v0, l0) (some (mR x) :: L) (st) hp B ↔ AW d sc M R (pc + 1) (some (mR x) :: L) (mR x :: st) hp B := Iff.rfl
theorem x_aloads_0 {d : Nat} {sc : List Int} {M : Nat} {R : PO} {pc : Nat} {b : Nat} {v0 : AV} {l0 : List (Int × Nat)} {L : LV} {st : List AV} {hp : HP} {B : BU} {x : Nat} : AWk d sc M R pc (0, 3, 0, b, v0, l0) (some (mS x) :: L) (st) hp B ↔ AW d sc M R (pc + 1) (some (mS x) :: L) (mS x :: st) hp B := Iff.rfl
theorem x_st1 {d : Nat} {sc : List Int} {M : Nat} {R : PO} {pc : Nat} {a b : Nat} {v0 : AV} {l0 : List (Int × Nat)} {L : LV} {st : List AV} {hp : HP} {B : BU} {x : Int} (h : a < L.length) : AWk d sc M R pc (0, 4, a, b, v0, l0) L (mI x :: st) hp B ↔ AW d sc M R (pc + 1) (put1 L a (mI x)) st hp B := by
  show AWg d sc M R pc (0, 4, a, b, v0, l0) L (mI x :: st) hp B ↔ _
  simp only [AWg, stepE, fT, List.getD_cons_succ, List.getD_cons_zero, f_istore, h, if_true]
theorem x_st2 {d : Nat} {sc : List Int} {M : Nat} {R : PO} {pc : Nat} {a b : Nat} {v0 : AV} {l0 : List (Int × Nat)} {L : LV} {st : List AV} {hp : HP} {B : BU} {x : BitVec 64} (h : a + 1 < L.length) : AWk d sc M R pc (0, 5, a, b, v0, l0) L (mL x :: st) hp B ↔ AW d sc M R (pc + 1) (put2 L a (mL x)) st hp B := by
  show AWg d sc M R pc (0, 5, a, b, v0, l0) L (mL x :: st) hp B ↔ _
  simp only [AWg, stepE, fT, List.getD_cons_succ, List.getD_cons_zero, f_lstore, h, if_true]
theorem x_st3 {d : Nat} {sc : List Int} {M : Nat} {R : PO} {pc : Nat} {a b : Nat} {v0 : AV} {l0 : List (Int × Nat)} {L : LV} {st : List AV} {hp : HP} {B : BU} {x : Nat} (h : a < L.length) : AWk d sc M R pc (0, 6, a, b, v0, l0) L (mR x :: st) hp B ↔ AW d sc M R (pc + 1) (put1 L a (mR x)) st hp B := by
  show AWg d sc M R pc (0, 6, a, b, v0, l0) L (mR x :: st) hp B ↔ _
  simp only [AWg, stepE, fT, List.getD_cons_succ, List.getD_cons_zero, f_astore, h, if_true]
theorem x_istore_0 {d : Nat} {sc : List Int} {M : Nat} {R : PO} {pc : Nat} {b : Nat} {v0 : AV} {l0 : List (Int × Nat)} {L : LV} {st : List AV} {hp : HP} {B : BU} {y : Option AV} {x : Int} : AWk d sc M R pc (0, 4, 0, b, v0, l0) (y :: L) (mI x :: st) hp B ↔ AW d sc M R (pc + 1) (some (mI x) :: L) (st) hp B := x_st1 (by simp)
theorem x_astore_0 {d : Nat} {sc : List Int} {M : Nat} {R : PO} {pc : Nat} {b : Nat} {v0 : AV} {l0 : List (Int × Nat)} {L : LV} {st : List AV} {hp : HP} {B : BU} {y : Option AV} {x : Nat} : AWk d sc M R pc (0, 6, 0, b, v0, l0) (y :: L) (mR x :: st) hp B ↔ AW d sc M R (pc + 1) (some (mR x) :: L) (st) hp B := x_st3 (by simp)
theorem x_lstore_0 {d : Nat} {sc : List Int} {M : Nat} {R : PO} {pc : Nat} {b : Nat} {v0 : AV} {l0 : List (Int × Nat)} {L : LV} {st : List AV} {hp : HP} {B : BU} {y z : Option AV} {x : BitVec 64} : AWk d sc M R pc (0, 5, 0, b, v0, l0) (y :: z :: L) (mL x :: st) hp B ↔ AW d sc M R (pc + 1) (some (mL x) :: none :: L) (st) hp B := x_st2 (by simp)
theorem x_iinc_0 {d : Nat} {sc : List Int} {M : Nat} {R : PO} {pc : Nat} {b : Nat} {l0 : List (Int × Nat)} {L : LV} {st : List AV} {hp : HP} {B : BU} {x k : Int} : AWk d sc M R pc (0, 7, 0, b, mI k, l0) (some (mI x) :: L) (st) hp B ↔ AW d sc M R (pc + 1) (some (mI (x + k)) :: L) (st) hp B := Iff.rfl
theorem x_iload_1 {d : Nat} {sc : List Int} {M : Nat} {R : PO} {pc : Nat} {b : Nat} {v0 : AV} {l0 : List (Int × Nat)} {L : LV} {st : List AV} {hp : HP} {B : BU} {x0 : Option AV} {x : Int} : AWk d sc M R pc (0, 1, 1, b, v0, l0) (x0 :: some (mI x) :: L) (st) hp B ↔ AW d sc M R (pc + 1) (x0 :: some (mI x) :: L) (mI x :: st) hp B := Iff.rfl
theorem x_lload_1 {d : Nat} {sc : List Int} {M : Nat} {R : PO} {pc : Nat} {b : Nat} {v0 : AV} {l0 : List (Int × Nat)} {L : LV} {st : List AV} {hp : HP} {B : BU} {x0 : Option AV} {x : BitVec 64} : AWk d sc M R pc (0, 2, 1, b, v0, l0) (x0 :: some (mL x) :: L) (st) hp B ↔ AW d sc M R (pc + 1) (x0 :: some (mL x) :: L) (mL x :: st) hp B := Iff.rfl
theorem x_aload_1 {d : Nat} {sc : List Int} {M : Nat} {R : PO} {pc : Nat} {b : Nat} {v0 : AV} {l0 : List (Int × Nat)} {L : LV} {st : List AV} {hp : HP} {B : BU} {x0 : Option AV} {x : Nat} : AWk d sc M R pc (0, 3, 1, b, v0, l0) (x0 :: some (mR x) :: L) (st) hp B ↔ AW d sc M R (pc + 1) (x0 :: some (mR x) :: L) (mR x :: st) hp B := Iff.rfl
theorem x_aloads_1 {d : Nat} {sc : List Int} {M : Nat} {R : PO} {pc : Nat} {b : Nat} {v0 : AV} {l0 : List (Int × Nat)} {L : LV} {st : List AV} {hp : HP} {B : BU} {x0 : Option AV} {x : Nat} : AWk d sc M R pc (0, 3, 1, b, v0, l0) (x0 :: some (mS x) :: L) (st) hp B ↔ AW d sc M R (pc + 1) (x0 :: some (mS x) :: L) (mS x :: st) hp B := Iff.rfl
theorem x_istore_1 {d : Nat} {sc : List Int} {M : Nat} {R : PO} {pc : Nat} {b : Nat} {v0 : AV} {l0 : List (Int × Nat)} {L : LV} {st : List AV} {hp : HP} {B : BU} {x0 : Option AV} {y : Option AV} {x : Int} : AWk d sc M R pc (0, 4, 1, b, v0, l0) (x0 :: y :: L) (mI x :: st) hp B ↔ AW d sc M R (pc + 1) (unl x0 :: some (mI x) :: L) (st) hp B := x_st1 (by simp)
theorem x_astore_1 {d : Nat} {sc : List Int} {M : Nat} {R : PO} {pc : Nat} {b : Nat} {v0 : AV} {l0 : List (Int × Nat)} {L : LV} {st : List AV} {hp : HP} {B : BU} {x0 : Option AV} {y : Option AV} {x : Nat} : AWk d sc M R pc (0, 6, 1, b, v0, l0) (x0 :: y :: L) (mR x :: st) hp B ↔ AW d sc M R (pc + 1) (unl x0 :: some (mR x) :: L) (st) hp B := x_st3 (by simp)
theorem x_lstore_1 {d : Nat} {sc : List Int} {M : Nat} {R : PO} {pc : Nat} {b : Nat} {v0 : AV} {l0 : List (Int × Nat)} {L : LV} {st : List AV} {hp : HP} {B : BU} {x0 : Option AV} {y z : Option AV} {x : BitVec 64} : AWk d sc M R pc (0, 5, 1, b, v0, l0) (x0 :: y :: z :: L) (mL x :: st) hp B ↔ AW d sc M R (pc + 1) (unl x0 :: some (mL x) :: none :: L) (st) hp B := x_st2 (by simp)
theorem x_iinc_1 {d : Nat} {sc : List Int} {M : Nat} {R : PO} {pc : Nat} {b : Nat} {l0 : List (Int × Nat)} {L : LV} {st : List AV} {hp : HP} {B : BU} {x0 : Option AV} {x k : Int} : AWk d sc M R pc (0, 7, 1, b, mI k, l0) (x0 :: some (mI x) :: L) (st) hp B ↔ AW d sc M R (pc + 1) (unl x0 :: some (mI (x + k)) :: L) (st) hp B := Iff.rfl
theorem x_iload_2 {d : Nat} {sc : List Int} {M : Nat} {R : PO} {pc : Nat} {b : Nat} {v0 : AV} {l0 : List (Int × Nat)} {L : LV} {st : List AV} {hp : HP} {B : BU} {x0 x1 : Option AV} {x : Int} : AWk d sc M R pc (0, 1, 2, b, v0, l0) (x0 :: x1 :: some (mI x) :: L) (st) hp B ↔ AW d sc M R (pc + 1) (x0 :: x1 :: some (mI x) :: L) (mI x :: st) hp B := Iff.rfl
theorem x_lload_2 {d : Nat} {sc : List Int} {M : Nat} {R : PO} {pc : Nat} {b : Nat} {v0 : AV} {l0 : List (Int × Nat)} {L : LV} {st : List AV} {hp : HP} {B : BU} {x0 x1 : Option AV} {x : BitVec 64} : AWk d sc M R pc (0, 2, 2, b, v0, l0) (x0 :: x1 :: some (mL x) :: L) (st) hp B ↔ AW d sc M R (pc + 1) (x0 :: x1 :: some (mL x) :: L) (mL x :: st) hp B := Iff.rfl
theorem x_aload_2 {d : Nat} {sc : List Int} {M : Nat} {R : PO} {pc : Nat} {b : Nat} {v0 : AV} {l0 : List (Int × Nat)} {L : LV} {st : List AV} {hp : HP} {B : BU} {x0 x1 : Option AV} {x : Nat} : AWk d sc M R pc (0, 3, 2, b, v0, l0) (x0 :: x1 :: some (mR x) :: L) (st) hp B ↔ AW d sc M R (pc + 1) (x0 :: x1 :: some (mR x) :: L) (mR x :: st) hp B := Iff.rfl
theorem x_aloads_2 {d : Nat} {sc : List Int} {M : Nat} {R : PO} {pc : Nat} {b : Nat} {v0 : AV} {l0 : List (Int × Nat)} {L : LV} {st : List AV} {hp : HP} {B : BU} {x0 x1 : Option AV} {x : Nat} : AWk d sc M R pc (0, 3, 2, b, v0, l0) (x0 :: x1 :: some (mS x) :: L) (st) hp B ↔ AW d sc M R (pc + 1) (x0 :: x1 :: some (mS x) :: L) (mS x :: st) hp B := Iff.rfl
theorem x_istore_2 {d : Nat} {sc : List Int} {M : Nat} {R : PO} {pc : Nat} {b : Nat} {v0 : AV} {l0 : List (Int × Nat)} {L : LV} {st : List AV} {hp : HP} {B : BU} {x0 x1 : Option AV} {y : Option AV} {x : Int} : AWk d sc M R pc (0, 4, 2, b, v0, l0) (x0 :: x1 :: y :: L) (mI x :: st) hp B ↔ AW d sc M R (pc + 1) (x0 :: unl x1 :: some (mI x) :: L) (st) hp B := x_st1 (by simp)
theorem x_astore_2 {d : Nat} {sc : List Int} {M : Nat} {R : PO} {pc : Nat} {b : Nat} {v0 : AV} {l0 : List (Int × Nat)} {L : LV} {st : List AV} {hp : HP} {B : BU} {x0 x1 : Option AV} {y : Option AV} {x : Nat} : AWk d sc M R pc (0, 6, 2, b, v0, l0) (x0 :: x1 :: y :: L) (mR x :: st) hp B ↔ AW d sc M R (pc + 1) (x0 :: unl x1 :: some (mR x) :: L) (st) hp B := x_st3 (by simp)
theorem x_lstore_2 {d : Nat} {sc : List Int} {M : Nat} {R : PO} {pc : Nat} {b : Nat} {v0 : AV} {l0 : List (Int × Nat)} {L : LV} {st : List AV} {hp : HP} {B : BU} {x0 x1 : Option AV} {y z : Option AV} {x : BitVec 64} : AWk d sc M R pc (0, 5, 2, b, v0, l0) (x0 :: x1 :: y :: z :: L) (mL x :: st) hp B ↔ AW d sc M R (pc + 1) (x0 :: unl x1 :: some (mL x) :: none :: L) (st) hp B := x_st2 (by simp)
theorem x_iinc_2 {d : Nat} {sc : List Int} {M : Nat} {R : PO} {pc : Nat} {b : Nat} {l0 : List (Int × Nat)} {L : LV} {st : List AV} {hp : HP} {B : BU} {x0 x1 : Option AV} {x k : Int} : AWk d sc M R pc (0, 7, 2, b, mI k, l0) (x0 :: x1 :: some (mI x) :: L) (st) hp B ↔ AW d sc M R (pc + 1) (x0 :: unl x1 :: some (mI (x + k)) :: L) (st) hp B := Iff.rfl
theorem x_iload_3 {d : Nat} {sc : List Int} {M : Nat} {R : PO} {pc : Nat} {b : Nat} {v0 : AV} {l0 : List (Int × Nat)} {L : LV} {st : List AV} {hp : HP} {B : BU} {x0 x1 x2 : Option AV} {x : Int} : AWk d sc M R pc (0, 1, 3, b, v0, l0) (x0 :: x1 :: x2 :: some (mI x) :: L) (st) hp B ↔ AW d sc M R (pc + 1) (x0 :: x1 :: x2 :: some (mI x) :: L) (mI x :: st) hp B := Iff.rfl
theorem x_lload_3 {d : Nat} {sc : List Int} {M : Nat} {R : PO} {pc : Nat} {b : Nat} {v0 : AV} {l0 : List (Int × Nat)} {L : LV} {st : List AV} {hp : HP} {B : BU} {x0 x1 x2 : Option AV} {x : BitVec 64} : AWk d sc M R pc (0, 2, 3, b, v0, l0) (x0 :: x1 :: x2 :: some (mL x) :: L) (st) hp B ↔ AW d sc M R (pc + 1) (x0 :: x1 :: x2 :: some (mL x) :: L) (mL x :: st) hp B := Iff.rfl
theorem x_aload_3 {d : Nat} {sc : List Int} {M : Nat} {R : PO} {pc : Nat} {b : Nat} {v0 : AV} {l0 : List (Int × Nat)} {L : LV} {st : List AV} {hp : HP} {B : BU} {x0 x1 x2 : Option AV} {x : Nat} : AWk d sc M R pc (0, 3, 3, b, v0, l0) (x0 :: x1 :: x2 :: some (mR x) :: L) (st) hp B ↔ AW d sc M R (pc + 1) (x0 :: x1 :: x2 :: some (mR x) :: L) (mR x :: st) hp B := Iff.rfl
theorem x_aloads_3 {d : Nat} {sc : List Int} {M : Nat} {R : PO} {pc : Nat} {b : Nat} {v0 : AV} {l0 : List (Int × Nat)} {L : LV} {st : List AV} {hp : HP} {B : BU} {x0 x1 x2 : Option AV} {x : Nat} : AWk d sc M R pc (0, 3, 3, b, v0, l0) (x0 :: x1 :: x2 :: some (mS x) :: L) (st) hp B ↔ AW d sc M R (pc + 1) (x0 :: x1 :: x2 :: some (mS x) :: L) (mS x :: st) hp B := Iff.rfl
theorem x_istore_3 {d : Nat} {sc : List Int} {M : Nat} {R : PO} {pc : Nat} {b : Nat} {v0 : AV} {l0 : List (Int × Nat)} {L : LV} {st : List AV} {hp : HP} {B : BU} {x0 x1 x2 : Option AV} {y : Option AV} {x : Int} : AWk d sc M R pc (0, 4, 3, b, v0, l0) (x0 :: x1 :: x2 :: y :: L) (mI x :: st) hp B ↔ AW d sc M R (pc + 1) (x0 :: x1 :: unl x2 :: some (mI x) :: L) (st) hp B := x_st1 (by simp)
theorem x_astore_3 {d : Nat} {sc : List Int} {M : Nat} {R : PO} {pc : Nat} {b : Nat} {v0 : AV} {l0 : List (Int × Nat)} {L : LV} {st : List AV} {hp : HP} {B : BU} {x0 x1 x2 : Option AV} {y : Option AV} {x : Nat} : AWk d sc M R pc (0, 6, 3, b, v0, l0) (x0 :: x1 :: x2 :: y :: L) (mR x :: st) hp B ↔ AW d sc M R (pc + 1) (x0 :: x1 :: unl x2 :: some (mR x) :: L) (st) hp B := x_st3 (by simp)
theorem x_lstore_3 {d : Nat} {sc : List Int} {M : Nat} {R : PO} {pc : Nat} {b : Nat} {v0 : AV} {l0 : List (Int × Nat)} {L : LV} {st : List AV} {hp : HP} {B : BU} {x0 x1 x2 : Option AV} {y z : Option AV} {x : BitVec 64} : AWk d sc M R pc (0, 5, 3, b, v0, l0) (x0 :: x1 :: x2 :: y :: z :: L) (mL x :: st) hp B ↔ AW d sc M R (pc + 1) (x0 :: x1 :: unl x2 :: some (mL x) :: none :: L) (st) hp B := x_st2 (by simp)
theorem x_iinc_3 {d : Nat} {sc : List Int} {M : Nat} {R : PO} {pc : Nat} {b : Nat} {l0 : List (Int × Nat)} {L : LV} {st : List AV} {hp : HP} {B : BU} {x0 x1 x2 : Option AV} {x k : Int} : AWk d sc M R pc (0, 7, 3, b, mI k, l0) (x0 :: x1 :: x2 :: some (mI x) :: L) (st) hp B ↔ AW d sc M R (pc + 1) (x0 :: x1 :: unl x2 :: some (mI (x + k)) :: L) (st) hp B := Iff.rfl
theorem x_iload_4 {d : Nat} {sc : List Int} {M : Nat} {R : PO} {pc : Nat} {b : Nat} {v0 : AV} {l0 : List (Int × Nat)} {L : LV} {st : List AV} {hp : HP} {B : BU} {x0 x1 x2 x3 : Option AV} {x : Int} : AWk d sc M R pc (0, 1, 4, b, v0, l0) (x0 :: x1 :: x2 :: x3 :: some (mI x) :: L) (st) hp B ↔ AW d sc M R (pc + 1) (x0 :: x1 :: x2 :: x3 :: some (mI x) :: L) (mI x :: st) hp B := Iff.rfl
theorem x_lload_4 {d : Nat} {sc : List Int} {M : Nat} {R : PO} {pc : Nat} {b : Nat} {v0 : AV} {l0 : List (Int × Nat)} {L : LV} {st : List AV} {hp : HP} {B : BU} {x0 x1 x2 x3 : Option AV} {x : BitVec 64} : AWk d sc M R pc (0, 2, 4, b, v0, l0) (x0 :: x1 :: x2 :: x3 :: some (mL x) :: L) (st) hp B ↔ AW d sc M R (pc + 1) (x0 :: x1 :: x2 :: x3 :: some (mL x) :: L) (mL x :: st) hp B := Iff.rfl
theorem x_aload_4 {d : Nat} {sc : List Int} {M : Nat} {R : PO} {pc : Nat} {b : Nat} {v0 : AV} {l0 : List (Int × Nat)} {L : LV} {st : List AV} {hp : HP} {B : BU} {x0 x1 x2 x3 : Option AV} {x : Nat} : AWk d sc M R pc (0, 3, 4, b, v0, l0) (x0 :: x1 :: x2 :: x3 :: some (mR x) :: L) (st) hp B ↔ AW d sc M R (pc + 1) (x0 :: x1 :: x2 :: x3 :: some (mR x) :: L) (mR x :: st) hp B := Iff.rfl
theorem x_aloads_4 {d : Nat} {sc : List Int} {M : Nat} {R : PO} {pc : Nat} {b : Nat} {v0 : AV} {l0 : List (Int × Nat)} {L : LV} {st : List AV} {hp : HP} {B : BU} {x0 x1 x2 x3 : Option AV} {x : Nat} : AWk d sc M R pc (0, 3, 4, b, v0, l0) (x0 :: x1 :: x2 :: x3 :: some (mS x) :: L) (st) hp B ↔ AW d sc M R (pc + 1) (x0 :: x1 :: x2 :: x3 :: some (mS x) :: L) (mS x :: st) hp B := Iff.rfl
theorem x_istore_4 {d : Nat} {sc : List Int} {M : Nat} {R : PO} {pc : Nat} {b : Nat} {v0 : AV} {l0 : List (Int × Nat)} {L : LV} {st : List AV} {hp : HP} {B : BU} {x0 x1 x2 x3 : Option AV} {y : Option AV} {x : Int} : AWk d sc M R pc (0, 4, 4, b, v0, l0) (x0 :: x1 :: x2 :: x3 :: y :: L) (mI x :: st) hp B ↔ AW d sc M R (pc + 1) (x0 :: x1 :: x2 :: unl x3 :: some (mI x) :: L) (st) hp B := x_st1 (by simp)
theorem x_astore_4 {d : Nat} {sc : List Int} {M : Nat} {R : PO} {pc : Nat} {b : Nat} {v0 : AV} {l0 : List (Int × Nat)} {L : LV} {st : List AV} {hp : HP} {B : BU} {x0 x1 x2 x3 : Option AV} {y : Option AV} {x : Nat} : AWk d sc M R pc (0, 6, 4, b, v0, l0) (x0 :: x1 :: x2 :: x3 :: y :: L) (mR x :: st) hp B ↔ AW d sc M R (pc + 1) (x0 :: x1 :: x2 :: unl x3 :: some (mR x) :: L) (st) hp B := x_st3 (by simp)
theorem x_lstore_4 {d : Nat} {sc : List Int} {M : Nat} {R : PO} {pc : Nat} {b : Nat} {v0 : AV} {l0 : List (Int × Nat)} {L : LV} {st : List AV} {hp : HP} {B : BU} {x0 x1 x2 x3 : Option AV} {y z : Option AV} {x : BitVec 64} : AWk d sc M R pc (0, 5, 4, b, v0, l0) (x0 :: x1 :: x2 :: x3 :: y :: z :: L) (mL x :: st) hp B ↔ AW d sc M R (pc + 1) (x0 :: x1 :: x2 :: unl x3 :: some (mL x) :: none :: L) (st) hp B := x_st2 (by simp)
theorem x_iinc_4 {d : Nat} {sc : List Int} {M : Nat} {R : PO} {pc : Nat} {b : Nat} {l0 : List (Int × Nat)} {L : LV} {st : List AV} {hp : HP} {B : BU} {x0 x1 x2 x3 : Option AV} {x k : Int} : AWk d sc M R pc (0, 7, 4, b, mI k, l0) (x0 :: x1 :: x2 :: x3 :: some (mI x) :: L) (st) hp B ↔ AW d sc M R (pc + 1) (x0 :: x1 :: x2 :: unl x3 :: some (mI (x + k)) :: L) (st) hp B := Iff.rfl
theorem x_iload_5 {d : Nat} {sc : List Int} {M : Nat} {R : PO} {pc : Nat} {b : Nat} {v0 : AV} {l0 : List (Int × Nat)} {L : LV} {st : List AV} {hp : HP} {B : BU} {x0 x1 x2 x3 x4 : Option AV} {x : Int} : AWk d sc M R pc (0, 1, 5, b, v0, l0) (x0 :: x1 :: x2 :: x3 :: x4 :: some (mI x) :: L) (st) hp B ↔ AW d sc M R (pc + 1) (x0 :: x1 :: x2 :: x3 :: x4 :: some (mI x) :: L) (mI x :: st) hp B := Iff.rfl
theorem x_lload_5 {d : Nat} {sc : List Int} {M : Nat} {R : PO} {pc : Nat} {b : Nat} {v0 : AV} {l0 : List (Int × Nat)} {L : LV} {st : List AV} {hp : HP} {B : BU} {x0 x1 x2 x3 x4 : Option AV} {x : BitVec 64} : AWk d sc M R pc (0, 2, 5, b, v0, l0) (x0 :: x1 :: x2 :: x3 :: x4 :: some (mL x) :: L) (st) hp B ↔ AW d sc M R (pc + 1) (x0 :: x1 :: x2 :: x3 :: x4 :: some (mL x) :: L) (mL x :: st) hp B := Iff.rfl
theorem x_aload_5 {d : Nat} {sc : List Int} {M : Nat} {R : PO} {pc : Nat} {b : Nat} {v0 : AV} {l0 : List (Int × Nat)} {L : LV} {st : List AV} {hp : HP} {B : BU} {x0 x1 x2 x3 x4 : Option AV} {x : Nat} : AWk d sc M R pc (0, 3, 5, b, v0, l0) (x0 :: x1 :: x2 :: x3 :: x4 :: some (mR x) :: L) (st) hp B ↔ AW d sc M R (pc + 1) (x0 :: x1 :: x2 :: x3 :: x4 :: some (mR x) :: L) (mR x :: st) hp B := Iff.rfl
theorem x_aloads_5 {d : Nat} {sc : List Int} {M : Nat} {R : PO} {pc : Nat} {b : Nat} {v0 : AV} {l0 : List (Int × Nat)} {L : LV} {st : List AV} {hp : HP} {B : BU} {x0 x1 x2 x3 x4 : Option AV} {x : Nat} : AWk d sc M R pc (0, 3, 5, b, v0, l0) (x0 :: x1 :: x2 :: x3 :: x4 :: some (mS x) :: L) (st) hp B ↔ AW d sc M R (pc + 1) (x0 :: x1 :: x2 :: x3 :: x4 :: some (mS x) :: L) (mS x :: st) hp B := Iff.rfl
theorem x_istore_5 {d : Nat} {sc : List Int} {M : Nat} {R : PO} {pc : Nat} {b : Nat} {v0 : AV} {l0 : List (Int × Nat)} {L : LV} {st : List AV} {hp : HP} {B : BU} {x0 x1 x2 x3 x4 : Option AV} {y : Option AV} {x : Int} : AWk d sc M R pc (0, 4, 5, b, v0, l0) (x0 :: x1 :: x2 :: x3 :: x4 :: y :: L) (mI x :: st) hp B ↔ AW d sc M R (pc + 1) (x0 :: x1 :: x2 :: x3 :: unl x4 :: some (mI x) :: L) (st) hp B := x_st1 (by simp)
theorem x_astore_5 {d : Nat} {sc : List Int} {M : Nat} {R : PO} {pc : Nat} {b : Nat} {v0 : AV} {l0 : List (Int × Nat)} {L : LV} {st : List AV} {hp : HP} {B : BU} {x0 x1 x2 x3 x4 : Option AV} {y : Option AV} {x : Nat} : AWk d sc M R pc (0, 6, 5, b, v0, l0) (x0 :: x1 :: x2 :: x3 :: x4 :: y :: L) (mR x :: st) hp B ↔ AW d sc M R (pc + 1) (x0 :: x1 :: x2 :: x3 :: unl x4 :: some (mR x) :: L) (st) hp B := x_st3 (by simp)
theorem x_lstore_5 {d : Nat} {sc : List Int} {M : Nat} {R : PO} {pc : Nat} {b : Nat} {v0 : AV} {l0 : List (Int × Nat)} {L : LV} {st : List AV} {hp : HP} {B : BU} {x0 x1 x2 x3 x4 : Option AV} {y z : Option AV} {x : BitVec 64} : AWk d sc M R pc (0, 5, 5, b, v0, l0) (x0 :: x1 :: x2 :: x3 :: x4 :: y :: z :: L) (mL x :: st) hp B ↔ AW d sc M R (pc + 1) (x0 :: x1 :: x2 :: x3 :: unl x4 :: some (mL x) :: none :: L) (st) hp B := x_st2 (by simp)
theorem x_iinc_5 {d : Nat} {sc : List Int} {M : Nat} {R : PO} {pc : Nat} {b : Nat} {l0 : List (Int × Nat)} {L : LV} {st : List AV} {hp : HP} {B : BU} {x0 x1 x2 x3 x4 : Option AV} {x k : Int} : AWk d sc M R pc (0, 7, 5, b, mI k, l0) (x0 :: x1 :: x2 :: x3 :: x4 :: some (mI x) :: L) (st) hp B ↔ AW d sc M R (pc + 1) (x0 :: x1 :: x2 :: x3 :: unl x4 :: some (mI (x + k)) :: L) (st) hp B := Iff.rfl
theorem x_iload_6 {d : Nat} {sc : List Int} {M : Nat} {R : PO} {pc : Nat} {b : Nat} {v0 : AV} {l0 : List (Int × Nat)} {L : LV} {st : List AV} {hp : HP} {B : BU} {x0 x1 x2 x3 x4 x5 : Option AV} {x : Int} : AWk d sc M R pc (0, 1, 6, b, v0, l0) (x0 :: x1 :: x2 :: x3 :: x4 :: x5 :: some (mI x) :: L) (st) hp B ↔ AW d sc M R (pc + 1) (x0 :: x1 :: x2 :: x3 :: x4 :: x5 :: some (mI x) :: L) (mI x :: st) hp B := Iff.rfl
theorem x_lload_6 {d : Nat} {sc : List Int} {M : Nat} {R : PO} {pc : Nat} {b : Nat} {v0 : AV} {l0 : List (Int × Nat)} {L : LV} {st : List AV} {hp : HP} {B : BU} {x0 x1 x2 x3 x4 x5 : Option AV} {x : BitVec 64} : AWk d sc M R pc (0, 2, 6, b, v0, l0) (x0 :: x1 :: x2 :: x3 :: x4 :: x5 :: some (mL x) :: L) (st) hp B ↔ AW d sc M R (pc + 1) (x0 :: x1 :: x2 :: x3 :: x4 :: x5 :: some (mL x) :: L) (mL x :: st) hp B := Iff.rfl
theorem x_aload_6 {d : Nat} {sc : List Int} {M : Nat} {R : PO} {pc : Nat} {b : Nat} {v0 : AV} {l0 : List (Int × Nat)} {L : LV} {st : List AV} {hp : HP} {B : BU} {x0 x1 x2 x3 x4 x5 : Option AV} {x : Nat} : AWk d sc M R pc (0, 3, 6, b, v0, l0) (x0 :: x1 :: x2 :: x3 :: x4 :: x5 :: some (mR x) :: L) (st) hp B ↔ AW d sc M R (pc + 1) (x0 :: x1 :: x2 :: x3 :: x4 :: x5 :: some (mR x) :: L) (mR x :: st) hp B := Iff.rfl
theorem x_aloads_6 {d : Nat} {sc : List Int} {M : Nat} {R : PO} {pc : Nat} {b : Nat} {v0 : AV} {l0 : List (Int × Nat)} {L : LV} {st : List AV} {hp : HP} {B : BU} {x0 x1 x2 x3 x4 x5 : Option AV} {x : Nat} : AWk d sc M R pc (0, 3, 6, b, v0, l0) (x0 :: x1 :: x2 :: x3 :: x4 :: x5 :: some (mS x) :: L) (st) hp B ↔ AW d sc M R (pc + 1) (x0 :: x1 :: x2 :: x3 :: x4 :: x5 :: some (mS x) :: L) (mS x :: st) hp B := Iff.rfl
theorem x_istore_6 {d : Nat} {sc : List Int} {M : Nat} {R : PO} {pc : Nat} {b : Nat} {v0 : AV} {l0 : List (Int × Nat)} {L : LV} {st : List AV} {hp : HP} {B : BU} {x0 x1 x2 x3 x4 x5 : Option AV} {y : Option AV} {x : Int} : AWk d sc M R pc (0, 4, 6, b, v0, l0) (x0 :: x1 :: x2 :: x3 :: x4 :: x5 :: y :: L) (mI x :: st) hp B ↔ AW d sc M R (pc + 1) (x0 :: x1 :: x2 :: x3 :: x4 :: unl x5 :: some (mI x) :: L) (st) hp B := x_st1 (by simp)
theorem x_astore_6 {d : Nat} {sc : List Int} {M : Nat} {R : PO} {pc : Nat} {b : Nat} {v0 : AV} {l0 : List (Int × Nat)} {L : LV} {st : List AV} {hp : HP} {B : BU} {x0 x1 x2 x3 x4 x5 : Option AV} {y : Option AV} {x : Nat} : AWk d sc M R pc (0, 6, 6, b, v0, l0) (x0 :: x1 :: x2 :: x3 :: x4 :: x5 :: y :: L) (mR x :: st) hp B ↔ AW d sc M R (pc + 1) (x0 :: x1 :: x2 :: x3 :: x4 :: unl x5 :: some (mR x) :: L) (st) hp B := x_st3 (by simp)
theorem x_lstore_6 {d : Nat} {sc : List Int} {M : Nat} {R : PO} {pc : Nat} {b : Nat} {v0 : AV} {l0 : List (Int × Nat)} {L : LV} {st : List AV} {hp : HP} {B : BU} {x0 x1 x2 x3 x4 x5 : Option AV} {y z : Option AV} {x : BitVec 64} : AWk d sc M R pc (0, 5, 6, b, v0, l0) (x0 :: x1 :: x2 :: x3 :: x4 :: x5 :: y :: z :: L) (mL x :: st) hp B ↔ AW d sc M R (pc + 1) (x0 :: x1 :: x2 :: x3 :: x4 :: unl x5 :: some (mL x) :: none :: L) (st) hp B := x_st2 (by simp)
theorem x_iinc_6 {d : Nat} {sc : List Int} {M : Nat} {R : PO} {pc : Nat} {b : Nat} {l0 : List (Int × Nat)} {L : LV} {st : List AV} {hp : HP} {B : BU} {x0 x1 x2 x3 x4 x5 : Option AV} {x k : Int} : AWk d sc M R pc (0, 7, 6, b, mI k, l0) (x0 :: x1 :: x2 :: x3 :: x4 :: x5 :: some (mI x) :: L) (st) hp B ↔ AW d sc M R (pc + 1) (x0 :: x1 :: x2 :: x3 :: x4 :: unl x5 :: some (mI (x + k)) :: L) (st) hp B := Iff.rfl
theorem x_iload_7 {d : Nat} {sc : List Int} {M : Nat} {R : PO} {pc : Nat} {b : Nat} {v0 : AV} {l0 : List (Int × Nat)} {L : LV} {st : List AV} {hp : HP} {B : BU} {x0 x1 x2 x3 x4 x5 x6 : Option AV} {x : Int} : AWk d sc M R pc (0, 1, 7, b, v0, l0) (x0 :: x1 :: x2 :: x3 :: x4 :: x5 :: x6 :: some (mI x) :: L) (st) hp B ↔ AW d sc M R (pc + 1) (x0 :: x1 :: x2 :: x3 :: x4 :: x5 :: x6 :: some (mI x) :: L) (mI x :: st) hp B := Iff.rfl
theorem x_lload_7 {d : Nat} {sc : List Int} {M : Nat} {R : PO} {pc : Nat} {b : Nat} {v0 : AV} {l0 : List (Int × Nat)} {L : LV} {st : List AV} {hp : HP} {B : BU} {x0 x1 x2 x3 x4 x5 x6 : Option AV} {x : BitVec 64} : AWk d sc M R pc (0, 2, 7, b, v0, l0) (x0 :: x1 :: x2 :: x3 :: x4 :: x5 :: x6 :: some (mL x) :: L) (st) hp B ↔ AW d sc M R (pc + 1) (x0 :: x1 :: x2 :: x3 :: x4 :: x5 :: x6 :: some (mL x) :: L) (mL x :: st) hp B := Iff.rfl
theorem x_aload_7 {d : Nat} {sc : List Int} {M : Nat} {R : PO} {pc : Nat} {b : Nat} {v0 : AV} {l0 : List (Int × Nat)} {L : LV} {st : List AV} {hp : HP} {B : BU} {x0 x1 x2 x3 x4 x5 x6 : Option AV} {x : Nat} : AWk d sc M R pc (0, 3, 7, b, v0, l0) (x0 :: x1 :: x2 :: x3 :: x4 :: x5 :: x6 :: some (mR x) :: L) (st) hp B ↔ AW d sc M R (pc + 1) (x0 :: x1 :: x2 :: x3 :: x4 :: x5 :: x6 :: some (mR x) :: L) (mR x :: st) hp B := Iff.rfl
theorem x_aloads_7 {d : Nat} {sc : List Int} {M : Nat} {R : PO} {pc : Nat} {b : Nat} {v0 : AV} {l0 : List (Int × Nat)} {L : LV} {st : List AV} {hp : HP} {B : BU} {x0 x1 x2 x3 x4 x5 x6 : Option AV} {x : Nat} : AWk d sc M R pc (0, 3, 7, b, v0, l0) (x0 :: x1 :: x2 :: x3 :: x4 :: x5 :: x6 :: some (mS x) :: L) (st) hp B ↔ AW d sc M R (pc + 1) (x0 :: x1 :: x2 :: x3 :: x4 :: x5 :: x6 :: some (mS x) :: L) (mS x :: st) hp B := Iff.rfl
theorem x_istore_7 {d : Nat} {sc : List Int} {M : Nat} {R : PO} {pc : Nat} {b : Nat} {v0 : AV} {l0 : List (Int × Nat)} {L : LV} {st : List AV} {hp : HP} {B : BU} {x0 x1 x2 x3 x4 x5 x6 : Option AV} {y : Option AV} {x : Int} : AWk d sc M R pc (0, 4, 7, b, v0, l0) (x0 :: x1 :: x2 :: x3 :: x4 :: x5 :: x6 :: y :: L) (mI x :: st) hp B ↔ AW d sc M R (pc + 1) (x0 :: x1 :: x2 :: x3 :: x4 :: x5 :: unl x6 :: some (mI x) :: L) (st) hp B := x_st1 (by simp)
theorem x_astore_7 {d : Nat} {sc : List Int} {M : Nat} {R : PO} {pc : Nat} {b : Nat} {v0 : AV} {l0 : List (Int × Nat)} {L : LV} {st : List AV} {hp : HP} {B : BU} {x0 x1 x2 x3 x4 x5 x6 : Option AV} {y : Option AV} {x : Nat} : AWk d sc M R pc (0, 6, 7, b, v0, l0) (x0 :: x1 :: x2 :: x3 :: x4 :: x5 :: x6 :: y :: L) (mR x :: st) hp B ↔ AW d sc M R (pc + 1) (x0 :: x1 :: x2 :: x3 :: x4 :: x5 :: unl x6 :: some (mR x) :: L) (st) hp B := x_st3 (by simp)
theorem x_lstore_7 {d : Nat} {sc : List Int} {M : Nat} {R : PO} {pc : Nat} {b : Nat} {v0 : AV} {l0 : List (Int × Nat)} {L : LV} {st : List AV} {hp : HP} {B : BU} {x0 x1 x2 x3 x4 x5 x6 : Option AV} {y z : Option AV} {x : BitVec 64} : AWk d sc M R pc (0, 5, 7, b, v0, l0) (x0 :: x1 :: x2 :: x3 :: x4 :: x5 :: x6 :: y :: z :: L) (mL x :: st) hp B ↔ AW d sc M R (pc + 1) (x0 :: x1 :: x2 :: x3 :: x4 :: x5 :: unl x6 :: some (mL x) :: none :: L) (st) hp B := x_st2 (by simp)
theorem x_iinc_7 {d : Nat} {sc : List Int} {M : Nat} {R : PO} {pc : Nat} {b : Nat} {l0 : List (Int × Nat)} {L : LV} {st : List AV} {hp : HP} {B : BU} {x0 x1 x2 x3 x4 x5 x6 : Option AV} {x k : Int} : AWk d sc M R pc (0, 7, 7, b, mI k, l0) (x0 :: x1 :: x2 :: x3 :: x4 :: x5 :: x6 :: some (mI x) :: L) (st) hp B ↔ AW d sc M R (pc + 1) (x0 :: x1 :: x2 :: x3 :: x4 :: x5 :: unl x6 :: some (mI (x + k)) :: L) (st) hp B := Iff.rfl
theorem x_iload_8 {d : Nat} {sc : List Int} {M : Nat} {R : PO} {pc : Nat} {b : Nat} {v0 : AV} {l0 : List (Int × Nat)} {L : LV} {st : List AV} {hp : HP} {B : BU} {x0 x1 x2 x3 x4 x5 x6 x7 : Option AV} {x : Int} : AWk d sc M R pc (0, 1, 8, b, v0, l0) (x0 :: x1 :: x2 :: x3 :: x4 :: x5 :: x6 :: x7 :: some (mI x) :: L) (st) hp B ↔ AW d sc M R (pc + 1) (x0 :: x1 :: x2 :: x3 :: x4 :: x5 :: x6 :: x7 :: some (mI x) :: L) (mI x :: st) hp B := Iff.rfl
theorem x_lload_8 {d : Nat} {sc : List Int} {M : Nat} {R : PO} {pc : Nat} {b : Nat} {v0 : AV} {l0 : List (Int × Nat)} {L : LV} {st : List AV} {hp : HP} {B : BU} {x0 x1 x2 x3 x4 x5 x6 x7 : Option AV} {x : BitVec 64} : AWk d sc M R pc (0, 2, 8, b, v0, l0) (x0 :: x1 :: x2 :: x3 :: x4 :: x5 :: x6 :: x7 :: some (mL x) :: L) (st) hp B ↔ AW d sc M R (pc + 1) (x0 :: x1 :: x2 :: x3 :: x4 :: x5 :: x6 :: x7 :: some (mL x) :: L) (mL x :: st) hp B := Iff.rfl
theorem x_aload_8 {d : Nat} {sc : List Int} {M : Nat} {R : PO} {pc : Nat} {b : Nat} {v0 : AV} {l0 : List (Int × Nat)} {L : LV} {st : List AV} {hp : HP} {B : BU} {x0 x1 x2 x3 x4 x5 x6 x7 : Option AV} {x : Nat} : AWk d sc M R pc (0, 3, 8, b, v0, l0) (x0 :: x1 :: x2 :: x3 :: x4 :: x5 :: x6 :: x7 :: some (mR x) :: L) (st) hp B ↔ AW d sc M R (pc + 1) (x0 :: x1 :: x2 :: x3 :: x4 :: x5 :: x6 :: x7 :: some (mR x) :: L) (mR x :: st) hp B := Iff.rfl
theorem x_aloads_8 {d : Nat} {sc : List Int} {M : Nat} {R : PO} {pc : Nat} {b : Nat} {v0 : AV} {l0 : List (Int × Nat)} {L : LV} {st : List AV} {hp : HP} {B : BU} {x0 x1 x2 x3 x4 x5 x6 x7 : Option AV} {x : Nat} : AWk d sc M R pc (0, 3, 8, b, v0, l0) (x0 :: x1 :: x2 :: x3 :: x4 :: x5 :: x6 :: x7 :: some (mS x) :: L) (st) hp B ↔ AW d sc M R (pc + 1) (x0 :: x1 :: x2 :: x3 :: x4 :: x5 :: x6 :: x7 :: some (mS x) :: L) (mS x :: st) hp B := Iff.rfl
theorem x_istore_8 {d : Nat} {sc : List Int} {M : Nat} {R : PO} {pc : Nat} {b : Nat} {v0 : AV} {l0 : List (Int × Nat)} {L : LV} {st : List AV} {hp : HP} {B : BU} {x0 x1 x2 x3 x4 x5 x6 x7 : Option AV} {y : Option AV} {x : Int} : AWk d sc M R pc (0, 4, 8, b, v0, l0) (x0 :: x1 :: x2 :: x3 :: x4 :: x5 :: x6 :: x7 :: y :: L) (mI x :: st) hp B ↔ AW d sc M R (pc + 1) (x0 :: x1 :: x2 :: x3 :: x4 :: x5 :: x6 :: unl x7 :: some (mI x) :: L) (st) hp B := x_st1 (by simp)
theorem x_astore_8 {d : Nat} {sc : List Int} {M : Nat} {R : PO} {pc : Nat} {b : Nat} {v0 : AV} {l0 : List (Int × Nat)} {L : LV} {st : List AV} {hp : HP} {B : BU} {x0 x1 x2 x3 x4 x5 x6 x7 : Option AV} {y : Option AV} {x : Nat} : AWk d sc M R pc (0, 6, 8, b, v0, l0) (x0 :: x1 :: x2 :: x3 :: x4 :: x5 :: x6 :: x7 :: y :: L) (mR x :: st) hp B ↔ AW d sc M R (pc + 1) (x0 :: x1 :: x2 :: x3 :: x4 :: x5 :: x6 :: unl x7 :: some (mR x) :: L) (st) hp B := x_st3 (by simp)
theorem x_lstore_8 {d : Nat} {sc : List Int} {M : Nat} {R : PO} {pc : Nat} {b : Nat} {v0 : AV} {l0 : List (Int × Nat)} {L : LV} {st : List AV} {hp : HP} {B : BU} {x0 x1 x2 x3 x4 x5 x6 x7 : Option AV} {y z : Option AV} {x : BitVec 64} : AWk d sc M R pc (0, 5, 8, b, v0, l0) (x0 :: x1 :: x2 :: x3 :: x4 :: x5 :: x6 :: x7 :: y :: z :: L) (mL x :: st) hp B ↔ AW d sc M R (pc + 1) (x0 :: x1 :: x2 :: x3 :: x4 :: x5 :: x6 :: unl x7 :: some (mL x) :: none :: L) (st) hp B := x_st2 (by simp)
theorem x_iinc_8 {d : Nat} {sc : List Int} {M : Nat} {R : PO} {pc : Nat} {b : Nat} {l0 : List (Int × Nat)} {L : LV} {st : List AV} {hp : HP} {B : BU} {x0 x1 x2 x3 x4 x5 x6 x7 : Option AV} {x k : Int} : AWk d sc M R pc (0, 7, 8, b, mI k, l0) (x0 :: x1 :: x2 :: x3 :: x4 :: x5 :: x6 :: x7 :: some (mI x) :: L) (st) hp B ↔ AW d sc M R (pc + 1) (x0 :: x1 :: x2 :: x3 :: x4 :: x5 :: x6 :: unl x7 :: some (mI (x + k)) :: L) (st) hp B := Iff.rfl
theorem x_iload_9 {d : Nat} {sc : List Int} {M : Nat} {R : PO} {pc : Nat} {b : Nat} {v0 : AV} {l0 : List (Int × Nat)} {L : LV} {st : List AV} {hp : HP} {B : BU} {x0 x1 x2 x3 x4 x5 x6 x7 x8 : Option AV} {x : Int} : AWk d sc M R pc (0, 1, 9, b, v0, l0) (x0 :: x1 :: x2 :: x3 :: x4 :: x5 :: x6 :: x7 :: x8 :: some (mI x) :: L) (st) hp B ↔ AW d sc M R (pc + 1) (x0 :: x1 :: x2 :: x3 :: x4 :: x5 :: x6 :: x7 :: x8 :: some (mI x) :: L) (mI x :: st) hp B := Iff.rfl
theorem x_lload_9 {d : Nat} {sc : List Int} {M : Nat} {R : PO} {pc : Nat} {b : Nat} {v0 : AV} {l0 : List (Int × Nat)} {L : LV} {st : List AV} {hp : HP} {B : BU} {x0 x1 x2 x3 x4 x5 x6 x7 x8 : Option AV} {x : BitVec 64} : AWk d sc M R pc (0, 2, 9, b, v0, l0) (x0 :: x1 :: x2 :: x3 :: x4 :: x5 :: x6 :: x7 :: x8 :: some (mL x) :: L) (st) hp B ↔ AW d sc M R (pc + 1) (x0 :: x1 :: x2 :: x3 :: x4 :: x5 :: x6 :: x7 :: x8 :: some (mL x) :: L) (mL x :: st) hp B := Iff.rfl
theorem x_aload_9 {d : Nat} {sc : List Int} {M : Nat} {R : PO} {pc : Nat} {b : Nat} {v0 : AV} {l0 : List (Int × Nat)} {L : LV} {st : List AV} {hp : HP} {B : BU} {x0 x1 x2 x3 x4 x5 x6 x7 x8 : Option AV} {x : Nat} : AWk d sc M R pc (0, 3, 9, b, v0, l0) (x0 :: x1 :: x2 :: x3 :: x4 :: x5 :: x6 :: x7 :: x8 :: some (mR x) :: L) (st) hp B ↔ AW d sc M R (pc + 1) (x0 :: x1 :: x2 :: x3 :: x4 :: x5 :: x6 :: x7 :: x8 :: some (mR x) :: L) (mR x :: st) hp B := Iff.rfl
theorem x_aloads_9 {d : Nat} {sc : List Int} {M : Nat} {R : PO} {pc : Nat} {b : Nat} {v0 : AV} {l0 : List (Int × Nat)} {L : LV} {st : List AV} {hp : HP} {B : BU} {x0 x1 x2 x3 x4 x5 x6 x7 x8 : Option AV} {x : Nat} : AWk d sc M R pc (0, 3, 9, b, v0, l0) (x0 :: x1 :: x2 :: x3 :: x4 :: x5 :: x6 :: x7 :: x8 :: some (mS x) :: L) (st) hp B ↔ AW d sc M R (pc + 1) (x0 :: x1 :: x2 :: x3 :: x4 :: x5 :: x6 :: x7 :: x8 :: some (mS x) :: L) (mS x :: st) hp B := Iff.rfl
theorem x_istore_9 {d : Nat} {sc : List Int} {M : Nat} {R : PO} {pc : Nat} {b : Nat} {v0 : AV} {l0 : List (Int × Nat)} {L : LV} {st : List AV} {hp : HP} {B : BU} {x0 x1 x2 x3 x4 x5 x6 x7 x8 : Option AV} {y : Option AV} {x : Int} : AWk d sc M R pc (0, 4, 9, b, v0, l0) (x0 :: x1 :: x2 :: x3 :: x4 :: x5 :: x6 :: x7 :: x8 :: y :: L) (mI x :: st) hp B ↔ AW d sc M R (pc + 1) (x0 :: x1 :: x2 :: x3 :: x4 :: x5 :: x6 :: x7 :: unl x8 :: some (mI x) :: L) (st) hp B := x_st1 (by simp)
theorem x_astore_9 {d : Nat} {sc : List Int} {M : Nat} {R : PO} {pc : Nat} {b : Nat} {v0 : AV} {l0 : List (Int × Nat)} {L : LV} {st : List AV} {hp : HP} {B : BU} {x0 x1 x2 x3 x4 x5 x6 x7 x8 : Option AV} {y : Option AV} {x : Nat} : AWk d sc M R pc (0, 6, 9, b, v0, l0) (x0 :: x1 :: x2 :: x3 :: x4 :: x5 :: x6 :: x7 :: x8 :: y :: L) (mR x :: st) hp B ↔ AW d sc M R (pc + 1) (x0 :: x1 :: x2 :: x3 :: x4 :: x5 :: x6 :: x7 :: unl x8 :: some (mR x) :: L) (st) hp B := x_st3 (by simp)
theorem x_lstore_9 {d : Nat} {sc : List Int} {M : Nat} {R : PO} {pc : Nat} {b : Nat} {v0 : AV} {l0 : List (Int × Nat)} {L : LV} {st : List AV} {hp : HP} {B : BU} {x0 x1 x2 x3 x4 x5 x6 x7 x8 : Option AV} {y z : Option AV} {x : BitVec 64} : AWk d sc M R pc (0, 5, 9, b, v0, l0) (x0 :: x1 :: x2 :: x3 :: x4 :: x5 :: x6 :: x7 :: x8 :: y :: z :: L) (mL x :: st) hp B ↔ AW d sc M R (pc + 1) (x0 :: x1 :: x2 :: x3 :: x4 :: x5 :: x6 :: x7 :: unl x8 :: some (mL x) :: none :: L) (st) hp B := x_st2 (by simp)
theorem x_iinc_9 {d : Nat} {sc : List Int} {M : Nat} {R : PO} {pc : Nat} {b : Nat} {l0 : List (Int × Nat)} {L : LV} {st : List AV} {hp : HP} {B : BU} {x0 x1 x2 x3 x4 x5 x6 x7 x8 : Option AV} {x k : Int} : AWk d sc M R pc (0, 7, 9, b, mI k, l0) (x0 :: x1 :: x2 :: x3 :: x4 :: x5 :: x6 :: x7 :: x8 :: some (mI x) :: L) (st) hp B ↔ AW d sc M R (pc + 1) (x0 :: x1 :: x2 :: x3 :: x4 :: x5 :: x6 :: x7 :: unl x8 :: some (mI (x + k)) :: L) (st) hp B := Iff.rfl
theorem x_iload_10 {d : Nat} {sc : List Int} {M : Nat} {R : PO} {pc : Nat} {b : Nat} {v0 : AV} {l0 : List (Int × Nat)} {L : LV} {st : List AV} {hp : HP} {B : BU} {x0 x1 x2 x3 x4 x5 x6 x7 x8 x9 : Option AV} {x : Int} : AWk d sc M R pc (0, 1, 10, b, v0, l0) (x0 :: x1 :: x2 :: x3 :: x4 :: x5 :: x6 :: x7 :: x8 :: x9 :: some (mI x) :: L) (st) hp B ↔ AW d sc M R (pc + 1) (x0 :: x1 :: x2 :: x3 :: x4 :: x5 :: x6 :: x7 :: x8 :: x9 :: some (mI x) :: L) (mI x :: st) hp B := Iff.rfl
theorem x_lload_10 {d : Nat} {sc : List Int} {M : Nat} {R : PO} {pc : Nat} {b : Nat} {v0 : AV} {l0 : List (Int × Nat)} {L : LV} {st : List AV} {hp : HP} {B : BU} {x0 x1 x2 x3 x4 x5 x6 x7 x8 x9 : Option AV} {x : BitVec 64} : AWk d sc M R pc (0, 2, 10, b, v0, l0) (x0 :: x1 :: x2 :: x3 :: x4 :: x5 :: x6 :: x7 :: x8 :: x9 :: some (mL x) :: L) (st) hp B ↔ AW d sc M R (pc + 1) (x0 :: x1 :: x2 :: x3 :: x4 :: x5 :: x6 :: x7 :: x8 :: x9 :: some (mL x) :: L) (mL x :: st) hp B := Iff.rfl
theorem x_aload_10 {d : Nat} {sc : List Int} {M : Nat} {R : PO} {pc : Nat} {b : Nat} {v0 : AV} {l0 : List (Int × Nat)} {L : LV} {st : List AV} {hp : HP} {B : BU} {x0 x1 x2 x3 x4 x5 x6 x7 x8 x9 : Option AV} {x : Nat} : AWk d sc M R pc (0, 3, 10, b, v0, l0) (x0 :: x1 :: x2 :: x3 :: x4 :: x5 :: x6 :: x7 :: x8 :: x9 :: some (mR x) :: L) (st) hp B ↔ AW d sc M R (pc + 1) (x0 :: x1 :: x2 :: x3 :: x4 :: x5 :: x6 :: x7 :: x8 :: x9 :: some (mR x) :: L) (mR x :: st) hp B := Iff.rfl
theorem x_aloads_10 {d : Nat} {sc : List Int} {M : Nat} {R : PO} {pc : Nat} {b : Nat} {v0 : AV} {l0 : List (Int × Nat)} {L : LV} {st : List AV} {hp : HP} {B : BU} {x0 x1 x2 x3 x4 x5 x6 x7 x8 x9 : Option AV} {x : Nat} : AWk d sc M R pc (0, 3, 10, b, v0, l0) (x0 :: x1 :: x2 :: x3 :: x4 :: x5 :: x6 :: x7 :: x8 :: x9 :: some (mS x) :: L) (st) hp B ↔ AW d sc M R (pc + 1) (x0 :: x1 :: x2 :: x3 :: x4 :: x5 :: x6 :: x7 :: x8 :: x9 :: some (mS x) :: L) (mS x :: st) hp B := Iff.rfl
theorem x_istore_10 {d : Nat} {sc : List Int} {M : Nat} {R : PO} {pc : Nat} {b : Nat} {v0 : AV} {l0 : List (Int × Nat)} {L : LV} {st : List AV} {hp : HP} {B : BU} {x0 x1 x2 x3 x4 x5 x6 x7 x8 x9 : Option AV} {y : Option AV} {x : Int} : AWk d sc M R pc (0, 4, 10, b, v0, l0) (x0 :: x1 :: x2 :: x3 :: x4 :: x5 :: x6 :: x7 :: x8 :: x9 :: y :: L) (mI x :: st) hp B ↔ AW d sc M R (pc + 1) (x0 :: x1 :: x2 :: x3 :: x4 :: x5 :: x6 :: x7 :: x8 :: unl x9 :: some (mI x) :: L) (st) hp B := x_st1 (by simp)
theorem x_astore_10 {d : Nat} {sc : List Int} {M : Nat} {R : PO} {pc : Nat} {b : Nat} {v0 : AV} {l0 : List (Int × Nat)} {L : LV} {st : List AV} {hp : HP} {B : BU} {x0 x1 x2 x3 x4 x5 x6 x7 x8 x9 : Option AV} {y : Option AV} {x : Nat} : AWk d sc M R pc (0, 6, 10, b, v0, l0) (x0 :: x1 :: x2 :: x3 :: x4 :: x5 :: x6 :: x7 :: x8 :: x9 :: y :: L) (mR x :: st) hp B ↔ AW d sc M R (pc + 1) (x0 :: x1 :: x2 :: x3 :: x4 :: x5 :: x6 :: x7 :: x8 :: unl x9 :: some (mR x) :: L) (st) hp B := x_st3 (by simp)
theorem x_lstore_10 {d : Nat} {sc : List Int} {M : Nat} {R : PO} {pc : Nat} {b : Nat} {v0 : AV} {l0 : List (Int × Nat)} {L : LV} {st : List AV} {hp : HP} {B : BU} {x0 x1 x2 x3 x4 x5 x6 x7 x8 x9 : Option AV} {y z : Option AV} {x : BitVec 64} : AWk d sc M R pc (0, 5, 10, b, v0, l0) (x0 :: x1 :: x2 :: x3 :: x4 :: x5 :: x6 :: x7 :: x8 :: x9 :: y :: z :: L) (mL x :: st) hp B ↔ AW d sc M R (pc + 1) (x0 :: x1 :: x2 :: x3 :: x4 :: x5 :: x6 :: x7 :: x8 :: unl x9 :: some (mL x) :: none :: L) (st) hp B := x_st2 (by simp)
theorem x_iinc_10 {d : Nat} {sc : List Int} {M : Nat} {R : PO} {pc : Nat} {b : Nat} {l0 : List (Int × Nat)} {L : LV} {st : List AV} {hp : HP} {B : BU} {x0 x1 x2 x3 x4 x5 x6 x7 x8 x9 : Option AV} {x k : Int} : AWk d sc M R pc (0, 7, 10, b, mI k, l0) (x0 :: x1 :: x2 :: x3 :: x4 :: x5 :: x6 :: x7 :: x8 :: x9 :: some (mI x) :: L) (st) hp B ↔ AW d sc M R (pc + 1) (x0 :: x1 :: x2 :: x3 :: x4 :: x5 :: x6 :: x7 :: x8 :: unl x9 :: some (mI (x + k)) :: L) (st) hp B := Iff.rfl
theorem x_iload_11 {d : Nat} {sc : List Int} {M : Nat} {R : PO} {pc : Nat} {b : Nat} {v0 : AV} {l0 : List (Int × Nat)} {L : LV} {st : List AV} {hp : HP} {B : BU} {x0 x1 x2 x3 x4 x5 x6 x7 x8 x9 x10 : Option AV} {x : Int} : AWk d sc M R pc (0, 1, 11, b, v0, l0) (x0 :: x1 :: x2 :: x3 :: x4 :: x5 :: x6 :: x7 :: x8 :: x9 :: x10 :: some (mI x) :: L) (st) hp B ↔ AW d sc M R (pc + 1) (x0 :: x1 :: x2 :: x3 :: x4 :: x5 :: x6 :: x7 :: x8 :: x9 :: x10 :: some (mI x) :: L) (mI x :: st) hp B := Iff.rfl
theorem x_lload_11 {d : Nat} {sc : List Int} {M : Nat} {R : PO} {pc : Nat} {b : Nat} {v0 : AV} {l0 : List (Int × Nat)} {L : LV} {st : List AV} {hp : HP} {B : BU} {x0 x1 x2 x3 x4 x5 x6 x7 x8 x9 x10 : Option AV} {x : BitVec 64} : AWk d sc M R pc (0, 2, 11, b, v0, l0) (x0 :: x1 :: x2 :: x3 :: x4 :: x5 :: x6 :: x7 :: x8 :: x9 :: x10 :: some (mL x) :: L) (st) hp B ↔ AW d sc M R (pc + 1) (x0 :: x1 :: x2 :: x3 :: x4 :: x5 :: x6 :: x7 :: x8 :: x9 :: x10 :: some (mL x) :: L) (mL x :: st) hp B := Iff.rfl
theorem x_aload_11 {d : Nat} {sc : List Int} {M : Nat} {R : PO} {pc : Nat} {b : Nat} {v0 : AV} {l0 : List (Int × Nat)} {L : LV} {st : List AV} {hp : HP} {B : BU} {x0 x1 x2 x3 x4 x5 x6 x7 x8 x9 x10 : Option AV} {x : Nat} : AWk d sc M R pc (0, 3, 11, b, v0, l0) (x0 :: x1 :: x2 :: x3 :: x4 :: x5 :: x6 :: x7 :: x8 :: x9 :: x10 :: some (mR x) :: L) (st) hp B ↔ AW d sc M R (pc + 1) (x0 :: x1 :: x2 :: x3 :: x4 :: x5 :: x6 :: x7 :: x8 :: x9 :: x10 :: some (mR x) :: L) (mR x :: st) hp B := Iff.rfl
theorem x_aloads_11 {d : Nat} {sc : List Int} {M : Nat} {R : PO} {pc : Nat} {b : Nat} {v0 : AV} {l0 : List (Int × Nat)} {L : LV} {st : List AV} {hp : HP} {B : BU} {x0 x1 x2 x3 x4 x5 x6 x7 x8 x9 x10 : Option AV} {x : Nat} : AWk d sc M R pc (0, 3, 11, b, v0, l0) (x0 :: x1 :: x2 :: x3 :: x4 :: x5 :: x6 :: x7 :: x8 :: x9 :: x10 :: some (mS x) :: L) (st) hp B ↔ AW d sc M R (pc + 1) (x0 :: x1 :: x2 :: x3 :: x4 :: x5 :: x6 :: x7 :: x8 :: x9 :: x10 :: some (mS x) :: L) (mS x :: st) hp B := Iff.rfl
theorem x_istore_11 {d : Nat} {sc : List Int} {M : Nat} {R : PO} {pc : Nat} {b : Nat} {v0 : AV} {l0 : List (Int × Nat)} {L : LV} {st : List AV} {hp : HP} {B : BU} {x0 x1 x2 x3 x4 x5 x6 x7 x8 x9 x10 : Option AV} {y : Option AV} {x : Int} : AWk d sc M R pc (0, 4, 11, b, v0, l0) (x0 :: x1 :: x2 :: x3 :: x4 :: x5 :: x6 :: x7 :: x8 :: x9 :: x10 :: y :: L) (mI x :: st) hp B ↔ AW d sc M R (pc + 1) (x0 :: x1 :: x2 :: x3 :: x4 :: x5 :: x6 :: x7 :: x8 :: x9 :: unl x10 :: some (mI x) :: L) (st) hp B := x_st1 (by simp)
theorem x_astore_11 {d : Nat} {sc : List Int} {M : Nat} {R : PO} {pc : Nat} {b : Nat} {v0 : AV} {l0 : List (Int × Nat)} {L : LV} {st : List AV} {hp : HP} {B : BU} {x0 x1 x2 x3 x4 x5 x6 x7 x8 x9 x10 : Option AV} {y : Option AV} {x : Nat} : AWk d sc M R pc (0, 6, 11, b, v0, l0) (x0 :: x1 :: x2 :: x3 :: x4 :: x5 :: x6 :: x7 :: x8 :: x9 :: x10 :: y :: L) (mR x :: st) hp B ↔ AW d sc M R (pc + 1) (x0 :: x1 :: x2 :: x3 :: x4 :: x5 :: x6 :: x7 :: x8 :: x9 :: unl x10 :: some (mR x) :: L) (st) hp B := x_st3 (by simp)
theorem x_lstore_11 {d : Nat} {sc : List Int} {M : Nat} {R : PO} {pc : Nat} {b : Nat} {v0 : AV} {l0 : List (Int × Nat)} {L : LV} {st : List AV} {hp : HP} {B : BU} {x0 x1 x2 x3 x4 x5 x6 x7 x8 x9 x10 : Option AV} {y z : Option AV} {x : BitVec 64} : AWk d sc M R pc (0, 5, 11, b, v0, l0) (x0 :: x1 :: x2 :: x3 :: x4 :: x5 :: x6 :: x7 :: x8 :: x9 :: x10 :: y :: z :: L) (mL x :: st) hp B ↔ AW d sc M R (pc + 1) (x0 :: x1 :: x2 :: x3 :: x4 :: x5 :: x6 :: x7 :: x8 :: x9 :: unl x10 :: some (mL x) :: none :: L) (st) hp B := x_st2 (by simp)
theorem x_iinc_11 {d : Nat} {sc : List Int} {M : Nat} {R : PO} {pc : Nat} {b : Nat} {l0 : List (Int × Nat)} {L : LV} {st : List AV} {hp : HP} {B : BU} {x0 x1 x2 x3 x4 x5 x6 x7 x8 x9 x10 : Option AV} {x k : Int} : AWk d sc M R pc (0, 7, 11, b, mI k, l0) (x0 :: x1 :: x2 :: x3 :: x4 :: x5 :: x6 :: x7 :: x8 :: x9 :: x10 :: some (mI x) :: L) (st) hp B ↔ AW d sc M R (pc + 1) (x0 :: x1 :: x2 :: x3 :: x4 :: x5 :: x6 :: x7 :: x8 :: x9 :: unl x10 :: some (mI (x + k)) :: L) (st) hp B := Iff.rfl
theorem x_iload_12 {d : Nat} {sc : List Int} {M : Nat} {R : PO} {pc : Nat} {b : Nat} {v0 : AV} {l0 : List (Int × Nat)} {L : LV} {st : List AV} {hp : HP} {B : BU} {x0 x1 x2 x3 x4 x5 x6 x7 x8 x9 x10 x11 : Option AV} {x : Int} : AWk d sc M R pc (0, 1, 12, b, v0, l0) (x0 :: x1 :: x2 :: x3 :: x4 :: x5 :: x6 :: x7 :: x8 :: x9 :: x10 :: x11 :: some (mI x) :: L) (st) hp B ↔ AW d sc M R (pc + 1) (x0 :: x1 :: x2 :: x3 :: x4 :: x5 :: x6 :: x7 :: x8 :: x9 :: x10 :: x11 :: some (mI x) :: L) (mI x :: st) hp B := Iff.rfl
theorem x_lload_12 {d : Nat} {sc : List Int} {M : Nat} {R : PO} {pc : Nat} {b : Nat} {v0 : AV} {l0 : List (Int × Nat)} {L : LV} {st : List AV} {hp : HP} {B : BU} {x0 x1 x2 x3 x4 x5 x6 x7 x8 x9 x10 x11 : Option AV} {x : BitVec 64} : AWk d sc M R pc (0, 2, 12, b, v0, l0) (x0 :: x1 :: x2 :: x3 :: x4 :: x5 :: x6 :: x7 :: x8 :: x9 :: x10 :: x11 :: some (mL x) :: L) (st) hp B ↔ AW d sc M R (pc + 1) (x0 :: x1 :: x2 :: x3 :: x4 :: x5 :: x6 :: x7 :: x8 :: x9 :: x10 :: x11 :: some (mL x) :: L) (mL x :: st) hp B := Iff.rfl
theorem x_aload_12 {d : Nat} {sc : List Int} {M : Nat} {R : PO} {pc : Nat} {b : Nat} {v0 : AV} {l0 : List (Int × Nat)} {L : LV} {st : List AV} {hp : HP} {B : BU} {x0 x1 x2 x3 x4 x5 x6 x7 x8 x9 x10 x11 : Option AV} {x : Nat} : AWk d sc M R pc (0, 3, 12, b, v0, l0) (x0 :: x1 :: x2 :: x3 :: x4 :: x5 :: x6 :: x7 :: x8 :: x9 :: x10 :: x11 :: some (mR x) :: L) (st) hp B ↔ AW d sc M R (pc + 1) (x0 :: x1 :: x2 :: x3 :: x4 :: x5 :: x6 :: x7 :: x8 :: x9 :: x10 :: x11 :: some (mR x) :: L) (mR x :: st) hp B := Iff.rfl
theorem x_aloads_12 {d : Nat} {sc : List Int} {M : Nat} {R : PO} {pc : Nat} {b : Nat} {v0 : AV} {l0 : List (Int × Nat)} {L : LV} {st : List AV} {hp : HP} {B : BU} {x0 x1 x2 x3 x4 x5 x6 x7 x8 x9 x10 x11 : Option AV} {x : Nat} : AWk d sc M R pc (0, 3, 12, b, v0, l0) (x0 :: x1 :: x2 :: x3 :: x4 :: x5 :: x6 :: x7 :: x8 :: x9 :: x10 :: x11 :: some (mS x) :: L) (st) hp B ↔ AW d sc M R (pc + 1) (x0 :: x1 :: x2 :: x3 :: x4 :: x5 :: x6 :: x7 :: x8 :: x9 :: x10 :: x11 :: some (mS x) :: L) (mS x :: st) hp B := Iff.rfl
theorem x_istore_12 {d : Nat} {sc : List Int} {M : Nat} {R : PO} {pc : Nat} {b : Nat} {v0 : AV} {l0 : List (Int × Nat)} {L : LV} {st : List AV} {hp : HP} {B : BU} {x0 x1 x2 x3 x4 x5 x6 x7 x8 x9 x10 x11 : Option AV} {y : Option AV} {x : Int} : AWk d sc M R pc (0, 4, 12, b, v0, l0) (x0 :: x1 :: x2 :: x3 :: x4 :: x5 :: x6 :: x7 :: x8 :: x9 :: x10 :: x11 :: y :: L) (mI x :: st) hp B ↔ AW d sc M R (pc + 1) (x0 :: x1 :: x2 :: x3 :: x4 :: x5 :: x6 :: x7 :: x8 :: x9 :: x10 :: unl x11 :: some (mI x) :: L) (st) hp B := x_st1 (by simp)
theorem x_astore_12 {d : Nat} {sc : List Int} {M : Nat} {R : PO} {pc : Nat} {b : Nat} {v0 : AV} {l0 : List (Int × Nat)} {L : LV} {st : List AV} {hp : HP} {B : BU} {x0 x1 x2 x3 x4 x5 x6 x7 x8 x9 x10 x11 : Option AV} {y : Option AV} {x : Nat} : AWk d sc M R pc (0, 6, 12, b, v0, l0) (x0 :: x1 :: x2 :: x3 :: x4 :: x5 :: x6 :: x7 :: x8 :: x9 :: x10 :: x11 :: y :: L) (mR x :: st) hp B ↔ AW d sc M R (pc + 1) (x0 :: x1 :: x2 :: x3 :: x4 :: x5 :: x6 :: x7 :: x8 :: x9 :: x10 :: unl x11 :: some (mR x) :: L) (st) hp B := x_st3 (by simp)
theorem x_lstore_12 {d : Nat} {sc : List Int} {M : Nat} {R : PO} {pc : Nat} {b : Nat} {v0 : AV} {l0 : List (Int × Nat)} {L : LV} {st : List AV} {hp : HP} {B : BU} {x0 x1 x2 x3 x4 x5 x6 x7 x8 x9 x10 x11 : Option AV} {y z : Option AV} {x : BitVec 64} : AWk d sc M R pc (0, 5, 12, b, v0, l0) (x0 :: x1 :: x2 :: x3 :: x4 :: x5 :: x6 :: x7 :: x8 :: x9 :: x10 :: x11 :: y :: z :: L) (mL x :: st) hp B ↔ AW d sc M R (pc + 1) (x0 :: x1 :: x2 :: x3 :: x4 :: x5 :: x6 :: x7 :: x8 :: x9 :: x10 :: unl x11 :: some (mL x) :: none :: L) (st) hp B := x_st2 (by simp)
theorem x_iinc_12 {d : Nat} {sc : List Int} {M : Nat} {R : PO} {pc : Nat} {b : Nat} {l0 : List (Int × Nat)} {L : LV} {st : List AV} {hp : HP} {B : BU} {x0 x1 x2 x3 x4 x5 x6 x7 x8 x9 x10 x11 : Option AV} {x k : Int} : AWk d sc M R pc (0, 7, 12, b, mI k, l0) (x0 :: x1 :: x2 :: x3 :: x4 :: x5 :: x6 :: x7 :: x8 :: x9 :: x10 :: x11 :: some (mI x) :: L) (st) hp B ↔ AW d sc M R (pc + 1) (x0 :: x1 :: x2 :: x3 :: x4 :: x5 :: x6 :: x7 :: x8 :: x9 :: x10 :: unl x11 :: some (mI (x + k)) :: L) (st) hp B := Iff.rfl
theorem x_iload_13 {d : Nat} {sc : List Int} {M : Nat} {R : PO} {pc : Nat} {b : Nat} {v0 : AV} {l0 : List (Int × Nat)} {L : LV} {st : List AV} {hp : HP} {B : BU} {x0 x1 x2 x3 x4 x5 x6 x7 x8 x9 x10 x11 x12 : Option AV} {x : Int} : AWk d sc M R pc (0, 1, 13, b, v0, l0) (x0 :: x1 :: x2 :: x3 :: x4 :: x5 :: x6 :: x7 :: x8 :: x9 :: x10 :: x11 :: x12 :: some (mI x) :: L) (st) hp B ↔ AW d sc M R (pc + 1) (x0 :: x1 :: x2 :: x3 :: x4 :: x5 :: x6 :: x7 :: x8 :: x9 :: x10 :: x11 :: x12 :: some (mI x) :: L) (mI x :: st) hp B := Iff.rfl
theorem x_lload_13 {d : Nat} {sc : List Int} {M : Nat} {R : PO} {pc : Nat} {b : Nat} {v0 : AV} {l0 : List (Int × Nat)} {L : LV} {st : List AV} {hp : HP} {B : BU} {x0 x1 x2 x3 x4 x5 x6 x7 x8 x9 x10 x11 x12 : Option AV} {x : BitVec 64} : AWk d sc M R pc (0, 2, 13, b, v0, l0) (x0 :: x1 :: x2 :: x3 :: x4 :: x5 :: x6 :: x7 :: x8 :: x9 :: x10 :: x11 :: x12 :: some (mL x) :: L) (st) hp B ↔ AW d sc M R (pc + 1) (x0 :: x1 :: x2 :: x3 :: x4 :: x5 :: x6 :: x7 :: x8 :: x9 :: x10 :: x11 :: x12 :: some (mL x) :: L) (mL x :: st) hp B := Iff.rfl
theorem x_aload_13 {d : Nat} {sc : List Int} {M : Nat} {R : PO} {pc : Nat} {b : Nat} {v0 : AV} {l0 : List (Int × Nat)} {L : LV} {st : List AV} {hp : HP} {B : BU} {x0 x1 x2 x3 x4 x5 x6 x7 x8 x9 x10 x11 x12 : Option AV} {x : Nat} : AWk d sc M R pc (0, 3, 13, b, v0, l0) (x0 :: x1 :: x2 :: x3 :: x4 :: x5 :: x6 :: x7 :: x8 :: x9 :: x10 :: x11 :: x12 :: some (mR x) :: L) (st) hp B ↔ AW d sc M R (pc + 1) (x0 :: x1 :: x2 :: x3 :: x4 :: x5 :: x6 :: x7 :: x8 :: x9 :: x10 :: x11 :: x12 :: some (mR x) :: L) (mR x :: st) hp B := Iff.rfl
theorem x_aloads_13 {d : Nat} {sc : List Int} {M : Nat} {R : PO} {pc : Nat} {b : Nat} {v0 : AV} {l0 : List (Int × Nat)} {L : LV} {st : List AV} {hp : HP} {B : BU} {x0 x1 x2 x3 x4 x5 x6 x7 x8 x9 x10 x11 x12 : Option AV} {x : Nat} : AWk d sc M R pc (0, 3, 13, b, v0, l0) (x0 :: x1 :: x2 :: x3 :: x4 :: x5 :: x6 :: x7 :: x8 :: x9 :: x10 :: x11 :: x12 :: some (mS x) :: L) (st) hp B ↔ AW d sc M R (pc + 1) (x0 :: x1 :: x2 :: x3 :: x4 :: x5 :: x6 :: x7 :: x8 :: x9 :: x10 :: x11 :: x12 :: some (mS x) :: L) (mS x :: st) hp B := Iff.rfl
theorem x_istore_13 {d : Nat} {sc : List Int} {M : Nat} {R : PO} {pc : Nat} {b : Nat} {v0 : AV} {l0 : List (Int × Nat)} {L : LV} {st : List AV} {hp : HP} {B : BU} {x0 x1 x2 x3 x4 x5 x6 x7 x8 x9 x10 x11 x12 : Option AV} {y : Option AV} {x : Int} : AWk d sc M R pc (0, 4, 13, b, v0, l0) (x0 :: x1 :: x2 :: x3 :: x4 :: x5 :: x6 :: x7 :: x8 :: x9 :: x10 :: x11 :: x12 :: y :: L) (mI x :: st) hp B ↔ AW d sc M R (pc + 1) (x0 :: x1 :: x2 :: x3 :: x4 :: x5 :: x6 :: x7 :: x8 :: x9 :: x10 :: x11 :: unl x12 :: some (mI x) :: L) (st) hp B := x_st1 (by simp)
theorem x_astore_13 {d : Nat} {sc : List Int} {M : Nat} {R : PO} {pc : Nat} {b : Nat} {v0 : AV} {l0 : List (Int × Nat)} {L : LV} {st : List AV} {hp : HP} {B : BU} {x0 x1 x2 x3 x4 x5 x6 x7 x8 x9 x10 x11 x12 : Option AV} {y : Option AV} {x : Nat} : AWk d sc M R pc (0, 6, 13, b, v0, l0) (x0 :: x1 :: x2 :: x3 :: x4 :: x5 :: x6 :: x7 :: x8 :: x9 :: x10 :: x11 :: x12 :: y :: L) (mR x :: st) hp B ↔ AW d sc M R (pc + 1) (x0 :: x1 :: x2 :: x3 :: x4 :: x5 :: x6 :: x7 :: x8 :: x9 :: x10 :: x11 :: unl x12 :: some (mR x) :: L) (st) hp B := x_st3 (by simp)
theorem x_lstore_13 {d : Nat} {sc : List Int} {M : Nat} {R : PO} {pc : Nat} {b : Nat} {v0 : AV} {l0 : List (Int × Nat)} {L : LV} {st : List AV} {hp : HP} {B : BU} {x0 x1 x2 x3 x4 x5 x6 x7 x8 x9 x10 x11 x12 : Option AV} {y z : Option AV} {x : BitVec 64} : AWk d sc M R pc (0, 5, 13, b, v0, l0) (x0 :: x1 :: x2 :: x3 :: x4 :: x5 :: x6 :: x7 :: x8 :: x9 :: x10 :: x11 :: x12 :: y :: z :: L) (mL x :: st) hp B ↔ AW d sc M R (pc + 1) (x0 :: x1 :: x2 :: x3 :: x4 :: x5 :: x6 :: x7 :: x8 :: x9 :: x10 :: x11 :: unl x12 :: some (mL x) :: none :: L) (st) hp B := x_st2 (by simp)
theorem x_iinc_13 {d : Nat} {sc : List Int} {M : Nat} {R : PO} {pc : Nat} {b : Nat} {l0 : List (Int × Nat)} {L : LV} {st : List AV} {hp : HP} {B : BU} {x0 x1 x2 x3 x4 x5 x6 x7 x8 x9 x10 x11 x12 : Option AV} {x k : Int} : AWk d sc M R pc (0, 7, 13, b, mI k, l0) (x0 :: x1 :: x2 :: x3 :: x4 :: x5 :: x6 :: x7 :: x8 :: x9 :: x10 :: x11 :: x12 :: some (mI x) :: L) (st) hp B ↔ AW d sc M R (pc + 1) (x0 :: x1 :: x2 :: x3 :: x4 :: x5 :: x6 :: x7 :: x8 :: x9 :: x10 :: x11 :: unl x12 :: some (mI (x + k)) :: L) (st) hp B := Iff.rfl
theorem x_iload_14 {d : Nat} {sc : List Int} {M : Nat} {R : PO} {pc : Nat} {b : Nat} {v0 : AV} {l0 : List (Int × Nat)} {L : LV} {st : List AV} {hp : HP} {B : BU} {x0 x1 x2 x3 x4 x5 x6 x7 x8 x9 x10 x11 x12 x13 : Option AV} {x : Int} : AWk d sc M R pc (0, 1, 14, b, v0, l0) (x0 :: x1 :: x2 :: x3 :: x4 :: x5 :: x6 :: x7 :: x8 :: x9 :: x10 :: x11 :: x12 :: x13 :: some (mI x) :: L) (st) hp B ↔ AW d sc M R (pc + 1) (x0 :: x1 :: x2 :: x3 :: x4 :: x5 :: x6 :: x7 :: x8 :: x9 :: x10 :: x11 :: x12 :: x13 :: some (mI x) :: L) (mI x :: st) hp B := Iff.rfl
theorem x_lload_14 {d : Nat} {sc : List Int} {M : Nat} {R : PO} {pc : Nat} {b : Nat} {v0 : AV} {l0 : List (Int × Nat)} {L : LV} {st : List AV} {hp : HP} {B : BU} {x0 x1 x2 x3 x4 x5 x6 x7 x8 x9 x10 x11 x12 x13 : Option AV} {x : BitVec 64} : AWk d sc M R pc (0, 2, 14, b, v0, l0) (x0 :: x1 :: x2 :: x3 :: x4 :: x5 :: x6 :: x7 :: x8 :: x9 :: x10 :: x11 :: x12 :: x13 :: some (mL x) :: L) (st) hp B ↔ AW d sc M R (pc + 1) (x0 :: x1 :: x2 :: x3 :: x4 :: x5 :: x6 :: x7 :: x8 :: x9 :: x10 :: x11 :: x12 :: x13 :: some (mL x) :: L) (mL x :: st) hp B := Iff.rfl
theorem x_aload_14 {d : Nat} {sc : List Int} {M : Nat} {R : PO} {pc : Nat} {b : Nat} {v0 : AV} {l0 : List (Int × Nat)} {L : LV} {st : List AV} {hp : HP} {B : BU} {x0 x1 x2 x3 x4 x5 x6 x7 x8 x9 x10 x11 x12 x13 : Option AV} {x : Nat} : AWk d sc M R pc (0, 3, 14, b, v0, l0) (x0 :: x1 :: x2 :: x3 :: x4 :: x5 :: x6 :: x7 :: x8 :: x9 :: x10 :: x11 :: x12 :: x13 :: some (mR x) :: L) (st) hp B ↔ AW d sc M R (pc + 1) (x0 :: x1 :: x2 :: x3 :: x4 :: x5 :: x6 :: x7 :: x8 :: x9 :: x10 :: x11 :: x12 :: x13 :: some (mR x) :: L) (mR x :: st) hp B := Iff.rfl
theorem x_aloads_14 {d : Nat} {sc : List Int} {M : Nat} {R : PO} {pc : Nat} {b : Nat} {v0 : AV} {l0 : List (Int × Nat)} {L : LV} {st : List AV} {hp : HP} {B : BU} {x0 x1 x2 x3 x4 x5 x6 x7 x8 x9 x10 x11 x12 x13 : Option AV} {x : Nat} : AWk d sc M R pc (0, 3, 14, b, v0, l0) (x0 :: x1 :: x2 :: x3 :: x4 :: x5 :: x6 :: x7 :: x8 :: x9 :: x10 :: x11 :: x12 :: x13 :: some (mS x) :: L) (st) hp B ↔ AW d sc M R (pc + 1) (x0 :: x1 :: x2 :: x3 :: x4 :: x5 :: x6 :: x7 :: x8 :: x9 :: x10 :: x11 :: x12 :: x13 :: some (mS x) :: L) (mS x :: st) hp B := Iff.rfl
theorem x_istore_14 {d : Nat} {sc : List Int} {M : Nat} {R : PO} {pc : Nat} {b : Nat} {v0 : AV} {l0 : List (Int × Nat)} {L : LV} {st : List AV} {hp : HP} {B : BU} {x0 x1 x2 x3 x4 x5 x6 x7 x8 x9 x10 x11 x12 x13 : Option AV} {y : Option AV} {x : Int} : AWk d sc M R pc (0, 4, 14, b, v0, l0) (x0 :: x1 :: x2 :: x3 :: x4 :: x5 :: x6 :: x7 :: x8 :: x9 :: x10 :: x11 :: x12 :: x13 :: y :: L) (mI x :: st) hp B ↔ AW d sc M R (pc + 1) (x0 :: x1 :: x2 :: x3 :: x4 :: x5 :: x6 :: x7 :: x8 :: x9 :: x10 :: x11 :: x12 :: unl x13 :: some (mI x) :: L) (st) hp B := x_st1 (by simp)
theorem x_astore_14 {d : Nat} {sc : List Int} {M : Nat} {R : PO} {pc : Nat} {b : Nat} {v0 : AV} {l0 : List (Int × Nat)} {L : LV} {st : List AV} {hp : HP} {B : BU} {x0 x1 x2 x3 x4 x5 x6 x7 x8 x9 x10 x11 x12 x13 : Option AV} {y : Option AV} {x : Nat} : AWk d sc M R pc (0, 6, 14, b, v0, l0) (x0 :: x1 :: x2 :: x3 :: x4 :: x5 :: x6 :: x7 :: x8 :: x9 :: x10 :: x11 :: x12 :: x13 :: y :: L) (mR x :: st) hp B ↔ AW d sc M R (pc + 1) (x0 :: x1 :: x2 :: x3 :: x4 :: x5 :: x6 :: x7 :: x8 :: x9 :: x10 :: x11 :: x12 :: unl x13 :: some (mR x) :: L) (st) hp B := x_st3 (by simp)
theorem x_lstore_14 {d : Nat} {sc : List Int} {M : Nat} {R : PO} {pc : Nat} {b : Nat} {v0 : AV} {l0 : List (Int × Nat)} {L : LV} {st : List AV} {hp : HP} {B : BU} {x0 x1 x2 x3 x4 x5 x6 x7 x8 x9 x10 x11 x12 x13 : Option AV} {y z : Option AV} {x : BitVec 64} : AWk d sc M R pc (0, 5, 14, b, v0, l0) (x0 :: x1 :: x2 :: x3 :: x4 :: x5 :: x6 :: x7 :: x8 :: x9 :: x10 :: x11 :: x12 :: x13 :: y :: z :: L) (mL x :: st) hp B ↔ AW d sc M R (pc + 1) (x0 :: x1 :: x2 :: x3 :: x4 :: x5 :: x6 :: x7 :: x8 :: x9 :: x10 :: x11 :: x12 :: unl x13 :: some (mL x) :: none :: L) (st) hp B := x_st2 (by simp)
theorem x_iinc_14 {d : Nat} {sc : List Int} {M : Nat} {R : PO} {pc : Nat} {b : Nat} {l0 : List (Int × Nat)} {L : LV} {st : List AV} {hp : HP} {B : BU} {x0 x1 x2 x3 x4 x5 x6 x7 x8 x9 x10 x11 x12 x13 : Option AV} {x k : Int} : AWk d sc M R pc (0, 7, 14, b, mI k, l0) (x0 :: x1 :: x2 :: x3 :: x4 :: x5 :: x6 :: x7 :: x8 :: x9 :: x10 :: x11 :: x12 :: x13 :: some (mI x) :: L) (st) hp B ↔ AW d sc M R (pc + 1) (x0 :: x1 :: x2 :: x3 :: x4 :: x5 :: x6 :: x7 :: x8 :: x9 :: x10 :: x11 :: x12 :: unl x13 :: some (mI (x + k)) :: L) (st) hp B := Iff.rfl
theorem x_iload_15 {d : Nat} {sc : List Int} {M : Nat} {R : PO} {pc : Nat} {b : Nat} {v0 : AV} {l0 : List (Int × Nat)} {L : LV} {st : List AV} {hp : HP} {B : BU} {x0 x1 x2 x3 x4 x5 x6 x7 x8 x9 x10 x11 x12 x13 x14 : Option AV} {x : Int} : AWk d sc M R pc (0, 1, 15, b, v0, l0) (x0 :: x1 :: x2 :: x3 :: x4 :: x5 :: x6 :: x7 :: x8 :: x9 :: x10 :: x11 :: x12 :: x13 :: x14 :: some (mI x) :: L) (st) hp B ↔ AW d sc M R (pc + 1) (x0 :: x1 :: x2 :: x3 :: x4 :: x5 :: x6 :: x7 :: x8 :: x9 :: x10 :: x11 :: x12 :: x13 :: x14 :: some (mI x) :: L) (mI x :: st) hp B := Iff.rfl
theorem x_lload_15 {d : Nat} {sc : List Int} {M : Nat} {R : PO} {pc : Nat} {b : Nat} {v0 : AV} {l0 : List (Int × Nat)} {L : LV} {st : List AV} {hp : HP} {B : BU} {x0 x1 x2 x3 x4 x5 x6 x7 x8 x9 x10 x11 x12 x13 x14 : Option AV} {x : BitVec 64} : AWk d sc M R pc (0, 2, 15, b, v0, l0) (x0 :: x1 :: x2 :: x3 :: x4 :: x5 :: x6 :: x7 :: x8 :: x9 :: x10 :: x11 :: x12 :: x13 :: x14 :: some (mL x) :: L) (st) hp B ↔ AW d sc M R (pc + 1) (x0 :: x1 :: x2 :: x3 :: x4 :: x5 :: x6 :: x7 :: x8 :: x9 :: x10 :: x11 :: x12 :: x13 :: x14 :: some (mL x) :: L) (mL x :: st) hp B := Iff.rfl
theorem x_aload_15 {d : Nat} {sc : List Int} {M : Nat} {R : PO} {pc : Nat} {b : Nat} {v0 : AV} {l0 : List (Int × Nat)} {L : LV} {st : List AV} {hp : HP} {B : BU} {x0 x1 x2 x3 x4 x5 x6 x7 x8 x9 x10 x11 x12 x13 x14 : Option AV} {x : Nat} : AWk d sc M R pc (0, 3, 15, b, v0, l0) (x0 :: x1 :: x2 :: x3 :: x4 :: x5 :: x6 :: x7 :: x8 :: x9 :: x10 :: x11 :: x12 :: x13 :: x14 :: some (mR x) :: L) (st) hp B ↔ AW d sc M R (pc + 1) (x0 :: x1 :: x2 :: x3 :: x4 :: x5 :: x6 :: x7 :: x8 :: x9 :: x10 :: x11 :: x12 :: x13 :: x14 :: some (mR x) :: L) (mR x :: st) hp B := Iff.rfl
theorem x_aloads_15 {d : Nat} {sc : List Int} {M : Nat} {R : PO} {pc : Nat} {b : Nat} {v0 : AV} {l0 : List (Int × Nat)} {L : LV} {st : List AV} {hp : HP} {B : BU} {x0 x1 x2 x3 x4 x5 x6 x7 x8 x9 x10 x11 x12 x13 x14 : Option AV} {x : Nat} : AWk d sc M R pc (0, 3, 15, b, v0, l0) (x0 :: x1 :: x2 :: x3 :: x4 :: x5 :: x6 :: x7 :: x8 :: x9 :: x10 :: x11 :: x12 :: x13 :: x14 :: some (mS x) :: L) (st) hp B ↔ AW d sc M R (pc + 1) (x0 :: x1 :: x2 :: x3 :: x4 :: x5 :: x6 :: x7 :: x8 :: x9 :: x10 :: x11 :: x12 :: x13 :: x14 :: some (mS x) :: L) (mS x :: st) hp B := Iff.rfl
theorem x_istore_15 {d : Nat} {sc : List Int} {M : Nat} {R : PO} {pc : Nat} {b : Nat} {v0 : AV} {l0 : List (Int × Nat)} {L : LV} {st : List AV} {hp : HP} {B : BU} {x0 x1 x2 x3 x4 x5 x6 x7 x8 x9 x10 x11 x12 x13 x14 : Option AV} {y : Option AV} {x : Int} : AWk d sc M R pc (0, 4, 15, b, v0, l0) (x0 :: x1 :: x2 :: x3 :: x4 :: x5 :: x6 :: x7 :: x8 :: x9 :: x10 :: x11 :: x12 :: x13 :: x14 :: y :: L) (mI x :: st) hp B ↔ AW d sc M R (pc + 1) (x0 :: x1 :: x2 :: x3 :: x4 :: x5 :: x6 :: x7 :: x8 :: x9 :: x10 :: x11 :: x12 :: x13 :: unl x14 :: some (mI x) :: L) (st) hp B := x_st1 (by simp)
theorem x_astore_15 {d : Nat} {sc : List Int} {M : Nat} {R : PO} {pc : Nat} {b : Nat} {v0 : AV} {l0 : List (Int × Nat)} {L : LV} {st : List AV} {hp : HP} {B : BU} {x0 x1 x2 x3 x4 x5 x6 x7 x8 x9 x10 x11 x12 x13 x14 : Option AV} {y : Option AV} {x : Nat} : AWk d sc M R pc (0, 6, 15, b, v0, l0) (x0 :: x1 :: x2 :: x3 :: x4 :: x5 :: x6 :: x7 :: x8 :: x9 :: x10 :: x11 :: x12 :: x13 :: x14 :: y :: L) (mR x :: st) hp B ↔ AW d sc M R (pc + 1) (x0 :: x1 :: x2 :: x3 :: x4 :: x5 :: x6 :: x7 :: x8 :: x9 :: x10 :: x11 :: x12 :: x13 :: unl x14 :: some (mR x) :: L) (st) hp B := x_st3 (by simp)
theorem x_lstore_15 {d : Nat} {sc : List Int} {M : Nat} {R : PO} {pc : Nat} {b : Nat} {v0 : AV} {l0 : List (Int × Nat)} {L : LV} {st : List AV} {hp : HP} {B : BU} {x0 x1 x2 x3 x4 x5 x6 x7 x8 x9 x10 x11 x12 x13 x14 : Option AV} {y z : Option AV} {x : BitVec 64} : AWk d sc M R pc (0, 5, 15, b, v0, l0) (x0 :: x1 :: x2 :: x3 :: x4 :: x5 :: x6 :: x7 :: x8 :: x9 :: x10 :: x11 :: x12 :: x13 :: x14 :: y :: z :: L) (mL x :: st) hp B ↔ AW d sc M R (pc + 1) (x0 :: x1 :: x2 :: x3 :: x4 :: x5 :: x6 :: x7 :: x8 :: x9 :: x10 :: x11 :: x12 :: x13 :: unl x14 :: some (mL x) :: none :: L) (st) hp B := x_st2 (by simp)
theorem x_iinc_15 {d : Nat} {sc : List Int} {M : Nat} {R : PO} {pc : Nat} {b : Nat} {l0 : List (Int × Nat)} {L : LV} {st : List AV} {hp : HP} {B : BU} {x0 x1 x2 x3 x4 x5 x6 x7 x8 x9 x10 x11 x12 x13 x14 : Option AV} {x k : Int} : AWk d sc M R pc (0, 7, 15, b, mI k, l0) (x0 :: x1 :: x2 :: x3 :: x4 :: x5 :: x6 :: x7 :: x8 :: x9 :: x10 :: x11 :: x12 :: x13 :: x14 :: some (mI x) :: L) (st) hp B ↔ AW d sc M R (pc + 1) (x0 :: x1 :: x2 :: x3 :: x4 :: x5 :: x6 :: x7 :: x8 :: x9 :: x10 :: x11 :: x12 :: x13 :: unl x14 :: some (mI (x + k)) :: L) (st) hp B := Iff.rfl
theorem unl_i {x : Int} : unl (some (mI x)) = some (mI x) := rfl
theorem unl_l {x : BitVec 64} : unl (some (mL x)) = none := rfl
theorem unl_q {x : Option Nat} : unl (some (mQ x)) = some (mQ x) := rfl
theorem unl_r {x : Nat} : unl (some (mR x)) = some (mR x) := rfl
theorem unl_s {x : Nat} : unl (some (mS x)) = some (mS x) := rfl
theorem unl_n : unl none = none := rfl
theorem x_iadd {d : Nat} {sc : List Int} {M : Nat} {R : PO} {pc : Nat} {a : Nat} {b : Nat} {v0 : AV} {l0 : List (Int × Nat)} {L : LV} {st : List AV} {hp : HP} {B : BU} {x y : Int} : AWk d sc M R pc (0, 8, a, b, v0, l0) L (mI y :: mI x :: st) hp B ↔ AW d sc M R (pc + 1) L (mI (x + y) :: st) hp B := Iff.rfl
theorem x_isub {d : Nat} {sc : List Int} {M : Nat} {R : PO} {pc : Nat} {a : Nat} {b : Nat} {v0 : AV} {l0 : List (Int × Nat)} {L : LV} {st : List AV} {hp : HP} {B : BU} {x y : Int} : AWk d sc M R pc (0, 9, a, b, v0, l0) L (mI y :: mI x :: st) hp B ↔ AW d sc M R (pc + 1) L (mI (x - y) :: st) hp B := Iff.rfl
theorem x_imul {d : Nat} {sc : List Int} {M : Nat} {R : PO} {pc : Nat} {a : Nat} {b : Nat} {v0 : AV} {l0 : List (Int × Nat)} {L : LV} {st : List AV} {hp : HP} {B : BU} {x y : Int} : AWk d sc M R pc (0, 10, a, b, v0, l0) L (mI y :: mI x :: st) hp B ↔ AW d sc M R (pc + 1) L (mI (x * y) :: st) hp B := Iff.rfl
theorem x_iand {d : Nat} {sc : List Int} {M : Nat} {R : PO} {pc : Nat} {a : Nat} {b : Nat} {v0 : AV} {l0 : List (Int × Nat)} {L : LV} {st : List AV} {hp : HP} {B : BU} {x y : Int} : AWk d sc M R pc (0, 13, a, b, v0, l0) L (mI y :: mI x :: st) hp B ↔ AW d sc M R (pc + 1) L (mI (iAnd x y) :: st) hp B := Iff.rfl
theorem x_ior {d : Nat} {sc : List Int} {M : Nat} {R : PO} {pc : Nat} {a : Nat} {b : Nat} {v0 : AV} {l0 : List (Int × Nat)} {L : LV} {st : List AV} {hp : HP} {B : BU} {x y : Int} : AWk d sc M R pc (0, 14, a, b, v0, l0) L (mI y :: mI x :: st) hp B ↔ AW d sc M R (pc + 1) L (mI (iOr x y) :: st) hp B := Iff.rfl
theorem x_ixor {d : Nat} {sc : List Int} {M : Nat} {R : PO} {pc : Nat} {a : Nat} {b : Nat} {v0 : AV} {l0 : List (Int × Nat)} {L : LV} {st : List AV} {hp : HP} {B : BU} {x y : Int} : AWk d sc M R pc (0, 15, a, b, v0, l0) L (mI y :: mI x :: st) hp B ↔ AW d sc M R (pc + 1) L (mI (iXor x y) :: st) hp B := Iff.rfl
theorem x_ishl {d : Nat} {sc : List Int} {M : Nat} {R : PO} {pc : Nat} {a : Nat} {b : Nat} {v0 : AV} {l0 : List (Int × Nat)} {L : LV} {st : List AV} {hp : HP} {B : BU} {x y : Int} : AWk d sc M R pc (0, 16, a, b, v0, l0) L (mI y :: mI x :: st) hp B ↔ AW d sc M R (pc + 1) L (mI (iShl x y) :: st) hp B := Iff.rfl
theorem x_ishr {d : Nat} {sc : List Int} {M : Nat} {R : PO} {pc : Nat} {a : Nat} {b : Nat} {v0 : AV} {l0 : List (Int × Nat)} {L : LV} {st : List AV} {hp : HP} {B : BU} {x y : Int} : AWk d sc M R pc (0, 17, a, b, v0, l0) L (mI y :: mI x :: st) hp B ↔ AW d sc M R (pc + 1) L (mI (iShr x y) :: st) hp B := Iff.rfl
theorem x_iushr {d : Nat} {sc : List Int} {M : Nat} {R : PO} {pc : Nat} {a : Nat} {b : Nat} {v0 : AV} {l0 : List (Int × Nat)} {L : LV} {st : List AV} {hp : HP} {B : BU} {x y : Int} : AWk d sc M R pc (0, 18, a, b, v0, l0) L (mI y :: mI x :: st) hp B ↔ AW d sc M R (pc + 1) L (mI (iUshr x y) :: st) hp B := Iff.rfl
theorem x_ineg {d : Nat} {sc : List Int} {M : Nat} {R : PO} {pc : Nat} {a : Nat} {b : Nat} {v0 : AV} {l0 : List (Int × Nat)} {L : LV} {st : List AV} {hp : HP} {B : BU} {x : Int} : AWk d sc M R pc (0, 19, a, b, v0, l0) L (mI x :: st) hp B ↔ AW d sc M R (pc + 1) L (mI (-x) :: st) hp B := Iff.rfl
theorem x_i2b {d : Nat} {sc : List Int} {M : Nat} {R : PO} {pc : Nat} {a : Nat} {b : Nat} {v0 : AV} {l0 : List (Int × Nat)} {L : LV} {st : List AV} {hp : HP} {B : BU} {x : Int} : AWk d sc M R pc (0, 30, a, b, v0, l0) L (mI x :: st) hp B ↔ AW d sc M R (pc + 1) L (mI (i2b x) :: st) hp B := Iff.rfl
theorem x_i2s {d : Nat} {sc : List Int} {M : Nat} {R : PO} {pc : Nat} {a : Nat} {b : Nat} {v0 : AV} {l0 : List (Int × Nat)} {L : LV} {st : List AV} {hp : HP} {B : BU} {x : Int} : AWk d sc M R pc (0, 31, a, b, v0, l0) L (mI x :: st) hp B ↔ AW d sc M R (pc + 1) L (mI (i2s x) :: st) hp B := Iff.rfl
theorem x_i2c {d : Nat} {sc : List Int} {M : Nat} {R : PO} {pc : Nat} {a : Nat} {b : Nat} {v0 : AV} {l0 : List (Int × Nat)} {L : LV} {st : List AV} {hp : HP} {B : BU} {x : Int} : AWk d sc M R pc (0, 68, a, b, v0, l0) L (mI x :: st) hp B ↔ AW d sc M R (pc + 1) L (mI (i2c x) :: st) hp B := Iff.rfl
theorem x_ladd {d : Nat} {sc : List Int} {M : Nat} {R : PO} {pc : Nat} {a : Nat} {b : Nat} {v0 : AV} {l0 : List (Int × Nat)} {L : LV} {st : List AV} {hp : HP} {B : BU} {x y : BitVec 64} : AWk d sc M R pc (0, 20, a, b, v0, l0) L (mL y :: mL x :: st) hp B ↔ AW d sc M R (pc + 1) L (mL (x + y) :: st) hp B := Iff.rfl
theorem x_lsub {d : Nat} {sc : List Int} {M : Nat} {R : PO} {pc : Nat} {a : Nat} {b : Nat} {v0 : AV} {l0 : List (Int × Nat)} {L : LV} {st : List AV} {hp : HP} {B : BU} {x y : BitVec 64} : AWk d sc M R pc (0, 21, a, b, v0, l0) L (mL y :: mL x :: st) hp B ↔ AW d sc M R (pc + 1) L (mL (x - y) :: st) hp B := Iff.rfl
theorem x_land {d : Nat} {sc : List Int} {M : Nat} {R : PO} {pc : Nat} {a : Nat} {b : Nat} {v0 : AV} {l0 : List (Int × Nat)} {L : LV} {st : List AV} {hp : HP} {B : BU} {x y : BitVec 64} : AWk d sc M R pc (0, 22, a, b, v0, l0) L (mL y :: mL x :: st) hp B ↔ AW d sc M R (pc + 1) L (mL (x &&& y) :: st) hp B := Iff.rfl
theorem x_lor {d : Nat} {sc : List Int} {M : Nat} {R : PO} {pc : Nat} {a : Nat} {b : Nat} {v0 : AV} {l0 : List (Int × Nat)} {L : LV} {st : List AV} {hp : HP} {B : BU} {x y : BitVec 64} : AWk d sc M R pc (0, 23, a, b, v0, l0) L (mL y :: mL x :: st) hp B ↔ AW d sc M R (pc + 1) L (mL (x ||| y) :: st) hp B := Iff.rfl
theorem x_lxor {d : Nat} {sc : List Int} {M : Nat} {R : PO} {pc : Nat} {a : Nat} {b : Nat} {v0 : AV} {l0 : List (Int × Nat)} {L : LV} {st : List AV} {hp : HP} {B : BU} {x y : BitVec 64} : AWk d sc M R pc (0, 24, a, b, v0, l0) L (mL y :: mL x :: st) hp B ↔ AW d sc M R (pc + 1) L (mL (x ^^^ y) :: st) hp B := Iff.rfl
theorem x_lshl {d : Nat} {sc : List Int} {M : Nat} {R : PO} {pc : Nat} {a : Nat} {b : Nat} {v0 : AV} {l0 : List (Int × Nat)} {L : LV} {st : List AV} {hp : HP} {B : BU} {x : BitVec 64} {y : Int} : AWk d sc M R pc (0, 25, a, b, v0, l0) L (mI y :: mL x :: st) hp B ↔ AW d sc M R (pc + 1) L (mL (x <<< (w32 y % 64).toNat) :: st) hp B := Iff.rfl
theorem x_lushr {d : Nat} {sc : List Int} {M : Nat} {R : PO} {pc : Nat} {a : Nat} {b : Nat} {v0 : AV} {l0 : List (Int × Nat)} {L : LV} {st : List AV} {hp : HP} {B : BU} {x : BitVec 64} {y : Int} : AWk d sc M R pc (0, 26, a, b, v0, l0) L (mI y :: mL x :: st) hp B ↔ AW d sc M R (pc + 1) L (mL (x >>> (w32 y % 64).toNat) :: st) hp B := Iff.rfl
theorem x_lcmp {d : Nat} {sc : List Int} {M : Nat} {R : PO} {pc : Nat} {a : Nat} {b : Nat} {v0 : AV} {l0 : List (Int × Nat)} {L : LV} {st : List AV} {hp : HP} {B : BU} {x y : BitVec 64} : AWk d sc M R pc (0, 27, a, b, v0, l0) L (mL y :: mL x :: st) hp B ↔ AW d sc M R (pc + 1) L (mI (lCmp x y) :: st) hp B := Iff.rfl
theorem x_i2l {d : Nat} {sc : List Int} {M : Nat} {R : PO} {pc : Nat} {a : Nat} {b : Nat} {v0 : AV} {l0 : List (Int × Nat)} {L : LV} {st : List AV} {hp : HP} {B : BU} {x : Int} : AWk d sc M R pc (0, 28, a, b, v0, l0) L (mI x :: st) hp B ↔ AW d sc M R (pc + 1) L (mL (BitVec.ofInt 64 (w32 x)) :: st) hp B := Iff.rfl
theorem x_l2i {d : Nat} {sc : List Int} {M : Nat} {R : PO} {pc : Nat} {a : Nat} {b : Nat} {v0 : AV} {l0 : List (Int × Nat)} {L : LV} {st : List AV} {hp : HP} {B : BU} {x : BitVec 64} : AWk d sc M R pc (0, 29, a, b, v0, l0) L (mL x :: st) hp B ↔ AW d sc M R (pc + 1) L (mI x.toInt :: st) hp B := Iff.rfl
theorem x_idiv {d : Nat} {sc : List Int} {M : Nat} {R : PO} {pc : Nat} {a : Nat} {b : Nat} {v0 : AV} {l0 : List (Int × Nat)} {L : LV} {st : List AV} {hp : HP} {B : BU} {x y : Int} : AWk d sc M R pc (0, 11, a, b, v0, l0) L (mI y :: mI x :: st) hp B ↔ ¬ w32 y = 0 ∧ AW d sc M R (pc + 1) L (mI (Int.tdiv (w32 x) (w32 y)) :: st) hp B := by
  show AWg d sc M R pc _ _ _ hp B ↔ _
  simp only [AWg, stepE, fT, List.getD_cons_succ, List.getD_cons_zero, f_idiv]
  by_cases h : w32 y = 0 <;> simp [h]
theorem x_irem {d : Nat} {sc : List Int} {M : Nat} {R : PO} {pc : Nat} {a : Nat} {b : Nat} {v0 : AV} {l0 : List (Int × Nat)} {L : LV} {st : List AV} {hp : HP} {B : BU} {x y : Int} : AWk d sc M R pc (0, 12, a, b, v0, l0) L (mI y :: mI x :: st) hp B ↔ ¬ w32 y = 0 ∧ AW d sc M R (pc + 1) L (mI (Int.tmod (w32 x) (w32 y)) :: st) hp B := by
  show AWg d sc M R pc _ _ _ hp B ↔ _
  simp only [AWg, stepE, fT, List.getD_cons_succ, List.getD_cons_zero, f_irem]
  by_cases h : w32 y = 0 <;> simp [h]
theorem x_dup_i {d : Nat} {sc : List Int} {M : Nat} {R : PO} {pc : Nat} {a : Nat} {b : Nat} {v0 : AV} {l0 : List (Int × Nat)} {L : LV} {st : List AV} {hp : HP} {B : BU} {x : Int} : AWk d sc M R pc (0, 32, a, b, v0, l0) L (mI x :: st) hp B ↔ AW d sc M R (pc + 1) L (mI x :: mI x :: st) hp B := Iff.rfl
theorem x_dup_q {d : Nat} {sc : List Int} {M : Nat} {R : PO} {pc : Nat} {a : Nat} {b : Nat} {v0 : AV} {l0 : List (Int × Nat)} {L : LV} {st : List AV} {hp : HP} {B : BU} {x : Option Nat} : AWk d sc M R pc (0, 32, a, b, v0, l0) L (mQ x :: st) hp B ↔ AW d sc M R (pc + 1) L (mQ x :: mQ x :: st) hp B := Iff.rfl
theorem x_dup_r {d : Nat} {sc : List Int} {M : Nat} {R : PO} {pc : Nat} {a : Nat} {b : Nat} {v0 : AV} {l0 : List (Int × Nat)} {L : LV} {st : List AV} {hp : HP} {B : BU} {x : Nat} : AWk d sc M R pc (0, 32, a, b, v0, l0) L (mR x :: st) hp B ↔ AW d sc M R (pc + 1) L (mR x :: mR x :: st) hp B := Iff.rfl
theorem x_dup2_ir {d : Nat} {sc : List Int} {M : Nat} {R : PO} {pc : Nat} {a : Nat} {b : Nat} {v0 : AV} {l0 : List (Int × Nat)} {L : LV} {st : List AV} {hp : HP} {B : BU} {x : Int} {y : Nat} : AWk d sc M R pc (0, 33, a, b, v0, l0) L (mI x :: mR y :: st) hp B ↔ AW d sc M R (pc + 1) L (mI x :: mR y :: mI x :: mR y :: st) hp B := Iff.rfl
theorem x_pop_i {d : Nat} {sc : List Int} {M : Nat} {R : PO} {pc : Nat} {a : Nat} {b : Nat} {v0 : AV} {l0 : List (Int × Nat)} {L : LV} {st : List AV} {hp : HP} {B : BU} {x : Int} : AWk d sc M R pc (0, 69, a, b, v0, l0) L (mI x :: st) hp B ↔ AW d sc M R (pc + 1) L (st) hp B := Iff.rfl
theorem x_if_eq {d : Nat} {sc : List Int} {M : Nat} {R : PO} {pc : Nat} {b : Nat} {v0 : AV} {l0 : List (Int × Nat)} {L : LV} {st : List AV} {hp : HP} {B : BU} {x : Int} : AWk d sc M R pc (0, 34, 0, b, v0, l0) L (mI x :: st) hp B ↔ if w32 x = 0 then AW d sc M R b L (st) hp B else AW d sc M R (pc + 1) L (st) hp B := by
  show AW d sc M R (bif _ then _ else _) L st hp B ↔ _
  rw [AW_bif]
  by_cases h : w32 x = 0
  · rw [if_pos h]; simp only [cmpB]; (first | (rw [if_pos (decide_eq_true (by omega))]) | (rw [if_neg (by simp only [decide_eq_true_eq]; omega)]))
  · rw [if_neg h]; simp only [cmpB]; (first | (rw [if_pos (decide_eq_true (by omega))]) | (rw [if_neg (by simp only [decide_eq_true_eq]; omega)]))
theorem x_icmp_eq {d : Nat} {sc : List Int} {M : Nat} {R : PO} {pc : Nat} {b : Nat} {v0 : AV} {l0 : List (Int × Nat)} {L : LV} {st : List AV} {hp : HP} {B : BU} {x y : Int} : AWk d sc M R pc (0, 35, 0, b, v0, l0) L (mI y :: mI x :: st) hp B ↔ if w32 x = w32 y then AW d sc M R b L (st) hp B else AW d sc M R (pc + 1) L (st) hp B := by
  show AW d sc M R (bif _ then _ else _) L st hp B ↔ _
  rw [AW_bif]
  by_cases h : w32 x = w32 y
  · rw [if_pos h]; simp only [cmpB]; (first | (rw [if_pos (decide_eq_true (by omega))]) | (rw [if_neg (by simp only [decide_eq_true_eq]; omega)]))
  · rw [if_neg h]; simp only [cmpB]; (first | (rw [if_pos (decide_eq_true (by omega))]) | (rw [if_neg (by simp only [decide_eq_true_eq]; omega)]))
theorem x_if_ne {d : Nat} {sc : List Int} {M : Nat} {R : PO} {pc : Nat} {b : Nat} {v0 : AV} {l0 : List (Int × Nat)} {L : LV} {st : List AV} {hp : HP} {B : BU} {x : Int} : AWk d sc M R pc (0, 34, 1, b, v0, l0) L (mI x :: st) hp B ↔ if w32 x = 0 then AW d sc M R (pc + 1) L (st) hp B else AW d sc M R b L (st) hp B := by
  show AW d sc M R (bif _ then _ else _) L st hp B ↔ _
  rw [AW_bif]
  by_cases h : w32 x = 0
  · rw [if_pos h]; simp only [cmpB]; (first | (rw [if_pos (decide_eq_true (by omega))]) | (rw [if_neg (by simp only [decide_eq_true_eq]; omega)]))
  · rw [if_neg h]; simp only [cmpB]; (first | (rw [if_pos (decide_eq_true (by omega))]) | (rw [if_neg (by simp only [decide_eq_true_eq]; omega)]))
theorem x_icmp_ne {d : Nat} {sc : List Int} {M : Nat} {R : PO} {pc : Nat} {b : Nat} {v0 : AV} {l0 : List (Int × Nat)} {L : LV} {st : List AV} {hp : HP} {B : BU} {x y : Int} : AWk d sc M R pc (0, 35, 1, b, v0, l0) L (mI y :: mI x :: st) hp B ↔ if w32 x = w32 y then AW d sc M R (pc + 1) L (st) hp B else AW d sc M R b L (st) hp B := by
  show AW d sc M R (bif _ then _ else _) L st hp B ↔ _
  rw [AW_bif]
  by_cases h : w32 x = w32 y
  · rw [if_pos h]; simp only [cmpB]; (first | (rw [if_pos (decide_eq_true (by omega))]) | (rw [if_neg (by simp only [decide_eq_true_eq]; omega)]))
  · rw [if_neg h]; simp only [cmpB]; (first | (rw [if_pos (decide_eq_true (by omega))]) | (rw [if_neg (by simp only [decide_eq_true_eq]; omega)]))
theorem x_if_lt {d : Nat} {sc : List Int} {M : Nat} {R : PO} {pc : Nat} {b : Nat} {v0 : AV} {l0 : List (Int × Nat)} {L : LV} {st : List AV} {hp : HP} {B : BU} {x : Int} : AWk d sc M R pc (0, 34, 2, b, v0, l0) L (mI x :: st) hp B ↔ if w32 x < 0 then AW d sc M R b L (st) hp B else AW d sc M R (pc + 1) L (st) hp B := by
  show AW d sc M R (bif _ then _ else _) L st hp B ↔ _
  rw [AW_bif]
  by_cases h : w32 x < 0
  · rw [if_pos h]; simp only [cmpB]; (first | (rw [if_pos (decide_eq_true (by omega))]) | (rw [if_neg (by simp only [decide_eq_true_eq]; omega)]))
  · rw [if_neg h]; simp only [cmpB]; (first | (rw [if_pos (decide_eq_true (by omega))]) | (rw [if_neg (by simp only [decide_eq_true_eq]; omega)]))
theorem x_icmp_lt {d : Nat} {sc : List Int} {M : Nat} {R : PO} {pc : Nat} {b : Nat} {v0 : AV} {l0 : List (Int × Nat)} {L : LV} {st : List AV} {hp : HP} {B : BU} {x y : Int} : AWk d sc M R pc (0, 35, 2, b, v0, l0) L (mI y :: mI x :: st) hp B ↔ if w32 x < w32 y then AW d sc M R b L (st) hp B else AW d sc M R (pc + 1) L (st) hp B := by
  show AW d sc M R (bif _ then _ else _) L st hp B ↔ _
  rw [AW_bif]
  by_cases h : w32 x < w32 y
  · rw [if_pos h]; simp only [cmpB]; (first | (rw [if_pos (decide_eq_true (by omega))]) | (rw [if_neg (by simp only [decide_eq_true_eq]; omega)]))
  · rw [if_neg h]; simp only [cmpB]; (first | (rw [if_pos (decide_eq_true (by omega))]) | (rw [if_neg (by simp only [decide_eq_true_eq]; omega)]))
theorem x_if_ge {d : Nat} {sc : List Int} {M : Nat} {R : PO} {pc : Nat} {b : Nat} {v0 : AV} {l0 : List (Int × Nat)} {L : LV} {st : List AV} {hp : HP} {B : BU} {x : Int} : AWk d sc M R pc (0, 34, 3, b, v0, l0) L (mI x :: st) hp B ↔ if w32 x < 0 then AW d sc M R (pc + 1) L (st) hp B else AW d sc M R b L (st) hp B := by
  show AW d sc M R (bif _ then _ else _) L st hp B ↔ _
  rw [AW_bif]
  by_cases h : w32 x < 0
  · rw [if_pos h]; simp only [cmpB]; (first | (rw [if_pos (decide_eq_true (by omega))]) | (rw [if_neg (by simp only [decide_eq_true_eq]; omega)]))
  · rw [if_neg h]; simp only [cmpB]; (first | (rw [if_pos (decide_eq_true (by omega))]) | (rw [if_neg (by simp only [decide_eq_true_eq]; omega)]))
theorem x_icmp_ge {d : Nat} {sc : List Int} {M : Nat} {R : PO} {pc : Nat} {b : Nat} {v0 : AV} {l0 : List (Int × Nat)} {L : LV} {st : List AV} {hp : HP} {B : BU} {x y : Int} : AWk d sc M R pc (0, 35, 3, b, v0, l0) L (mI y :: mI x :: st) hp B ↔ if w32 x < w32 y then AW d sc M R (pc + 1) L (st) hp B else AW d sc M R b L (st) hp B := by
  show AW d sc M R (bif _ then _ else _) L st hp B ↔ _
  rw [AW_bif]
  by_cases h : w32 x < w32 y
  · rw [if_pos h]; simp only [cmpB]; (first | (rw [if_pos (decide_eq_true (by omega))]) | (rw [if_neg (by simp only [decide_eq_true_eq]; omega)]))
  · rw [if_neg h]; simp only [cmpB]; (first | (rw [if_pos (decide_eq_true (by omega))]) | (rw [if_neg (by simp only [decide_eq_true_eq]; omega)]))
theorem x_if_gt {d : Nat} {sc : List Int} {M : Nat} {R : PO} {pc : Nat} {b : Nat} {v0 : AV} {l0 : List (Int × Nat)} {L : LV} {st : List AV} {hp : HP} {B : BU} {x : Int} : AWk d sc M R pc (0, 34, 4, b, v0, l0) L (mI x :: st) hp B ↔ if 0 < w32 x then AW d sc M R b L (st) hp B else AW d sc M R (pc + 1) L (st) hp B := by
  show AW d sc M R (bif _ then _ else _) L st hp B ↔ _
  rw [AW_bif]
  by_cases h : 0 < w32 x
  · rw [if_pos h]; simp only [cmpB]; (first | (rw [if_pos (decide_eq_true (by omega))]) | (rw [if_neg (by simp only [decide_eq_true_eq]; omega)]))
  · rw [if_neg h]; simp only [cmpB]; (first | (rw [if_pos (decide_eq_true (by omega))]) | (rw [if_neg (by simp only [decide_eq_true_eq]; omega)]))
theorem x_icmp_gt {d : Nat} {sc : List Int} {M : Nat} {R : PO} {pc : Nat} {b : Nat} {v0 : AV} {l0 : List (Int × Nat)} {L : LV} {st : List AV} {hp : HP} {B : BU} {x y : Int} : AWk d sc M R pc (0, 35, 4, b, v0, l0) L (mI y :: mI x :: st) hp B ↔ if w32 y < w32 x then AW d sc M R b L (st) hp B else AW d sc M R (pc + 1) L (st) hp B := by
  show AW d sc M R (bif _ then _ else _) L st hp B ↔ _
  rw [AW_bif]
  by_cases h : w32 y < w32 x
  · rw [if_pos h]; simp only [cmpB]; (first | (rw [if_pos (decide_eq_true (by omega))]) | (rw [if_neg (by simp only [decide_eq_true_eq]; omega)]))
  · rw [if_neg h]; simp only [cmpB]; (first | (rw [if_pos (decide_eq_true (by omega))]) | (rw [if_neg (by simp only [decide_eq_true_eq]; omega)]))
theorem x_if_le {d : Nat} {sc : List Int} {M : Nat} {R : PO} {pc : Nat} {b : Nat} {v0 : AV} {l0 : List (Int × Nat)} {L : LV} {st : List AV} {hp : HP} {B : BU} {x : Int} : AWk d sc M R pc (0, 34, 5, b, v0, l0) L (mI x :: st) hp B ↔ if 0 < w32 x then AW d sc M R (pc + 1) L (st) hp B else AW d sc M R b L (st) hp B := by
  show AW d sc M R (bif _ then _ else _) L st hp B ↔ _
  rw [AW_bif]
  by_cases h : 0 < w32 x
  · rw [if_pos h]; simp only [cmpB]; (first | (rw [if_pos (decide_eq_true (by omega))]) | (rw [if_neg (by simp only [decide_eq_true_eq]; omega)]))
  · rw [if_neg h]; simp only [cmpB]; (first | (rw [if_pos (decide_eq_true (by omega))]) | (rw [if_neg (by simp only [decide_eq_true_eq]; omega)]))
theorem x_icmp_le {d : Nat} {sc : List Int} {M : Nat} {R : PO} {pc : Nat} {b : Nat} {v0 : AV} {l0 : List (Int × Nat)} {L : LV} {st : List AV} {hp : HP} {B : BU} {x y : Int} : AWk d sc M R pc (0, 35, 5, b, v0, l0) L (mI y :: mI x :: st) hp B ↔ if w32 y < w32 x then AW d sc M R (pc + 1) L (st) hp B else AW d sc M R b L (st) hp B := by
  show AW d sc M R (bif _ then _ else _) L st hp B ↔ _
  rw [AW_bif]
  by_cases h : w32 y < w32 x
  · rw [if_pos h]; simp only [cmpB]; (first | (rw [if_pos (decide_eq_true (by omega))]) | (rw [if_neg (by simp only [decide_eq_true_eq]; omega)]))
  · rw [if_neg h]; simp only [cmpB]; (first | (rw [if_pos (decide_eq_true (by omega))]) | (rw [if_neg (by simp only [decide_eq_true_eq]; omega)]))
theorem x_goto {d : Nat} {sc : List Int} {M : Nat} {R : PO} {pc : Nat} {a : Nat} {b : Nat} {v0 : AV} {l0 : List (Int × Nat)} {L : LV} {st : List AV} {hp : HP} {B : BU} : AWk d sc M R pc (0, 36, a, b, v0, l0) L (st) hp B ↔ AW d sc M R b L (st) hp B := Iff.rfl
theorem x_nonnull_r {d : Nat} {sc : List Int} {M : Nat} {R : PO} {pc : Nat} {a : Nat} {b : Nat} {v0 : AV} {l0 : List (Int × Nat)} {L : LV} {st : List AV} {hp : HP} {B : BU} {x : Nat} : AWk d sc M R pc (0, 37, a, b, v0, l0) L (mR x :: st) hp B ↔ AW d sc M R b L (st) hp B := Iff.rfl
theorem x_nonnull_n {d : Nat} {sc : List Int} {M : Nat} {R : PO} {pc : Nat} {a : Nat} {b : Nat} {v0 : AV} {l0 : List (Int × Nat)} {L : LV} {st : List AV} {hp : HP} {B : BU} : AWk d sc M R pc (0, 37, a, b, v0, l0) L (mN :: st) hp B ↔ AW d sc M R (pc + 1) L (st) hp B := Iff.rfl
theorem x_nonnull {d : Nat} {sc : List Int} {M : Nat} {R : PO} {pc : Nat} {a : Nat} {b : Nat} {v0 : AV} {l0 : List (Int × Nat)} {L : LV} {st : List AV} {hp : HP} {B : BU} {r : Option Nat} : AWk d sc M R pc (0, 37, a, b, v0, l0) L (mQ r :: st) hp B ↔ if r = none then AW d sc M R (pc + 1) L (st) hp B else AW d sc M R b L (st) hp B := by
  cases r <;> exact Iff.rfl
theorem x_switch {d : Nat} {sc : List Int} {M : Nat} {R : PO} {pc : Nat} {a : Nat} {b : Nat} {v0 : AV} {l0 : List (Int × Nat)} {L : LV} {st : List AV} {hp : HP} {B : BU} {x : Int} : AWk d sc M R pc (0, 38, a, b, v0, l0) L (mI x :: st) hp B ↔ AW d sc M R (swT l0 b (w32 x)) L (st) hp B := Iff.rfl
theorem AW_sw {d : Nat} {sc : List Int} {M : Nat} {R : PO} {k : Int} {t b : Nat} {l : List (Int × Nat)} {x : Int} {L : LV} {st : List AV} {hp : HP} {B : BU} : AW d sc M R (swT ((k, t) :: l) b x) L st hp B ↔ if x = k then AW d sc M R t L st hp B else AW d sc M R (swT l b x) L st hp B := by
  show AW d sc M R (if x = k then t else swT l b x) L st hp B ↔ _
  by_cases h : x = k
  · rw [if_pos h, if_pos h]
  · rw [if_neg h, if_neg h]
theorem AW_sw0 {d : Nat} {sc : List Int} {M : Nat} {R : PO} {b : Nat} {x : Int} {L : LV} {st : List AV} {hp : HP} {B : BU} : AW d sc M R (swT [] b x) L st hp B ↔ AW d sc M R b L st hp B := Iff.rfl
theorem x_getf {d : Nat} {sc : List Int} {M : Nat} {R : PO} {pc : Nat} {a : Nat} {b : Nat} {v0 : AV} {l0 : List (Int × Nat)} {L : LV} {st : List AV} {hp : HP} {B : BU} {x : Nat} : AWk d sc M R pc (0, 39, a, b, v0, l0) L (mR x :: st) hp B ↔ oE (gF hp x a b) (fun v => AW d sc M R (pc + 1) L (v :: st) hp B) := by
  show AWg d sc M R pc _ _ _ hp B ↔ _
  simp only [AWg, stepE, fT, List.getD_cons_succ, List.getD_cons_zero, f_getf]
  unfold oE; cases hg : gF hp x a b <;> simp
theorem x_putf_i {d : Nat} {sc : List Int} {M : Nat} {R : PO} {pc : Nat} {a : Nat} {b : Nat} {l0 : List (Int × Nat)} {L : LV} {st : List AV} {hp : HP} {B : BU} {x : Nat} {y : Int} : AWk d sc M R pc (0, 40, a, b, mI 0, l0) L (mI y :: mR x :: st) hp B ↔ oE (gF hp x a b) (fun _ => AW d sc M R (pc + 1) L (st) (pF hp x a b (mI y)) B) := by
  show AWg d sc M R pc _ _ _ hp B ↔ _
  simp only [AWg, stepE, fT, List.getD_cons_succ, List.getD_cons_zero, f_putf, likeV]
  unfold oE; cases hg : gF hp x a b <;> simp
theorem x_putf_z {d : Nat} {sc : List Int} {M : Nat} {R : PO} {pc : Nat} {a : Nat} {b : Nat} {l0 : List (Int × Nat)} {L : LV} {st : List AV} {hp : HP} {B : BU} {x : Nat} {y : Int} : AWk d sc M R pc (0, 40, a, b, mI 1, l0) L (mI y :: mR x :: st) hp B ↔ oE (gF hp x a b) (fun _ => (y = 0 ∨ y = 1) ∧ AW d sc M R (pc + 1) L (st) (pF hp x a b (mI y)) B) := by
  show AWg d sc M R pc _ _ _ hp B ↔ _
  simp only [AWg, stepE, fT, List.getD_cons_succ, List.getD_cons_zero, f_putf, likeV]
  unfold oE; cases hg : gF hp x a b <;> simp <;> (by_cases h : y = 0 ∨ y = 1 <;> simp [h])
theorem x_putf_l {d : Nat} {sc : List Int} {M : Nat} {R : PO} {pc : Nat} {a : Nat} {b : Nat} {l0 : List (Int × Nat)} {L : LV} {st : List AV} {hp : HP} {B : BU} {x : Nat} {y : BitVec 64} : AWk d sc M R pc (0, 40, a, b, mI 2, l0) L (mL y :: mR x :: st) hp B ↔ oE (gF hp x a b) (fun _ => AW d sc M R (pc + 1) L (st) (pF hp x a b (mL y)) B) := by
  show AWg d sc M R pc _ _ _ hp B ↔ _
  simp only [AWg, stepE, fT, List.getD_cons_succ, List.getD_cons_zero, f_putf, likeV]
  unfold oE; cases hg : gF hp x a b <;> simp
theorem x_putf_r {d : Nat} {sc : List Int} {M : Nat} {R : PO} {pc : Nat} {a : Nat} {b : Nat} {l0 : List (Int × Nat)} {L : LV} {st : List AV} {hp : HP} {B : BU} {x : Nat} {y : Nat} : AWk d sc M R pc (0, 40, a, b, mI 3, l0) L (mR y :: mR x :: st) hp B ↔ oE (gF hp x a b) (fun _ => AW d sc M R (pc + 1) L (st) (pF hp x a b (mR y)) B) := by
  show AWg d sc M R pc _ _ _ hp B ↔ _
  simp only [AWg, stepE, fT, List.getD_cons_succ, List.getD_cons_zero, f_putf, likeV]
  unfold oE; cases hg : gF hp x a b <;> simp
theorem x_gets {d : Nat} {sc : List Int} {M : Nat} {R : PO} {pc : Nat} {a : Nat} {b : Nat} {v0 : AV} {l0 : List (Int × Nat)} {L : LV} {st : List AV} {hp : HP} {B : BU} : AWk d sc M R pc (0, 41, a, b, v0, l0) L (st) hp B ↔ AW d sc M R (pc + 1) L (mS a :: st) hp B := Iff.rfl
theorem x_ldcs {d : Nat} {sc : List Int} {M : Nat} {R : PO} {pc : Nat} {a : Nat} {b : Nat} {v0 : AV} {l0 : List (Int × Nat)} {L : LV} {st : List AV} {hp : HP} {B : BU} : AWk d sc M R pc (0, 42, a, b, v0, l0) L (st) hp B ↔ a < 21 ∧ AW d sc M R (pc + 1) L (mS (100 + a) :: st) hp B := by
  show AWg d sc M R pc _ _ _ hp B ↔ _
  simp only [AWg, stepE, fT, List.getD_cons_succ, List.getD_cons_zero, f_ldcs, nTx]
  by_cases h : a < 21 <;> simp [h]
theorem x_iald {d : Nat} {sc : List Int} {M : Nat} {R : PO} {pc : Nat} {a : Nat} {b : Nat} {v0 : AV} {l0 : List (Int × Nat)} {L : LV} {st : List AV} {hp : HP} {B : BU} {x : Nat} {i : Int} : AWk d sc M R pc (0, 43, a, b, v0, l0) L (mI i :: mR x :: st) hp B ↔ oE (gA hp x) (fun l => inB i l.length ∧ AW d sc M R (pc + 1) L (mI (l.getD (w32 i).toNat 0) :: st) hp B) := by
  show AWg d sc M R pc _ _ _ hp B ↔ _
  simp only [AWg, stepE, fT, List.getD_cons_succ, List.getD_cons_zero, f_iald]
  unfold oE; cases hg : gA hp x with
  | none => simp
  | some l => simp only [← inB_iff]; by_cases h : inb i l.length = true <;> simp [h]
theorem x_bald {d : Nat} {sc : List Int} {M : Nat} {R : PO} {pc : Nat} {a : Nat} {b : Nat} {v0 : AV} {l0 : List (Int × Nat)} {L : LV} {st : List AV} {hp : HP} {B : BU} {x : Nat} {i : Int} : AWk d sc M R pc (0, 44, a, b, v0, l0) L (mI i :: mR x :: st) hp B ↔ oE (gB hp x) (fun l => inB i l.length ∧ AW d sc M R (pc + 1) L (mI (l.getD (w32 i).toNat 0) :: st) hp B) := by
  show AWg d sc M R pc _ _ _ hp B ↔ _
  simp only [AWg, stepE, fT, List.getD_cons_succ, List.getD_cons_zero, f_bald]
  unfold oE; cases hg : gB hp x with
  | none => simp
  | some l => simp only [← inB_iff]; by_cases h : inb i l.length = true <;> simp [h]
theorem x_lald {d : Nat} {sc : List Int} {M : Nat} {R : PO} {pc : Nat} {a : Nat} {b : Nat} {v0 : AV} {l0 : List (Int × Nat)} {L : LV} {st : List AV} {hp : HP} {B : BU} {x : Nat} {i : Int} : AWk d sc M R pc (0, 45, a, b, v0, l0) L (mI i :: mR x :: st) hp B ↔ oE (gJ hp x) (fun l => inB i l.length ∧ AW d sc M R (pc + 1) L (mL (l.getD (w32 i).toNat 0) :: st) hp B) := by
  show AWg d sc M R pc _ _ _ hp B ↔ _
  simp only [AWg, stepE, fT, List.getD_cons_succ, List.getD_cons_zero, f_lald]
  unfold oE; cases hg : gJ hp x with
  | none => simp
  | some l => simp only [← inB_iff]; by_cases h : inb i l.length = true <;> simp [h]
theorem x_aald {d : Nat} {sc : List Int} {M : Nat} {R : PO} {pc : Nat} {a : Nat} {b : Nat} {v0 : AV} {l0 : List (Int × Nat)} {L : LV} {st : List AV} {hp : HP} {B : BU} {x : Nat} {i : Int} : AWk d sc M R pc (0, 46, a, b, v0, l0) L (mI i :: mR x :: st) hp B ↔ oE (gQ hp x a) (fun l => inB i l.length ∧ AW d sc M R (pc + 1) L (mQ (l.getD (w32 i).toNat none) :: st) hp B) := by
  show AWg d sc M R pc _ _ _ hp B ↔ _
  simp only [AWg, stepE, fT, List.getD_cons_succ, List.getD_cons_zero, f_aald]
  unfold oE; cases hg : gQ hp x a with
  | none => simp
  | some l => simp only [← inB_iff]; by_cases h : inb i l.length = true <;> simp [h]
theorem x_ialds {d : Nat} {sc : List Int} {M : Nat} {R : PO} {pc : Nat} {a : Nat} {b : Nat} {v0 : AV} {l0 : List (Int × Nat)} {L : LV} {st : List AV} {hp : HP} {B : BU} {j : Nat} {i : Int} : AWk d sc M R pc (0, 43, a, b, v0, l0) L (mI i :: mS j :: st) hp B ↔ inB i (stab sc j).length ∧ AW d sc M R (pc + 1) L (mI ((stab sc j).getD (w32 i).toNat 0) :: st) hp B := by
  show AWg d sc M R pc _ _ _ hp B ↔ _
  simp only [AWg, stepE, fT, List.getD_cons_succ, List.getD_cons_zero, f_iald]
  simp only [← inB_iff]; by_cases h : inb i (stab sc j).length = true <;> simp [h]
theorem x_iast {d : Nat} {sc : List Int} {M : Nat} {R : PO} {pc : Nat} {a : Nat} {b : Nat} {v0 : AV} {l0 : List (Int × Nat)} {L : LV} {st : List AV} {hp : HP} {B : BU} {x : Nat} {i : Int} {y : Int} : AWk d sc M R pc (0, 47, a, b, v0, l0) L (mI y :: mI i :: mR x :: st) hp B ↔ oE (gA hp x) (fun l => inB i l.length ∧ AW d sc M R (pc + 1) L (st) (pA hp x (l.set (w32 i).toNat y)) B) := by
  show AWg d sc M R pc _ _ _ hp B ↔ _
  simp only [AWg, stepE, fT, List.getD_cons_succ, List.getD_cons_zero, f_iast]
  unfold oE; cases hg : gA hp x with
  | none => simp
  | some l => simp only [← inB_iff]; by_cases h : inb i l.length = true <;> simp [h]
theorem x_bast {d : Nat} {sc : List Int} {M : Nat} {R : PO} {pc : Nat} {a : Nat} {b : Nat} {v0 : AV} {l0 : List (Int × Nat)} {L : LV} {st : List AV} {hp : HP} {B : BU} {x : Nat} {i : Int} {y : Int} : AWk d sc M R pc (0, 48, a, b, v0, l0) L (mI y :: mI i :: mR x :: st) hp B ↔ oE (gB hp x) (fun l => inB i l.length ∧ (y = 0 ∨ y = 1) ∧ AW d sc M R (pc + 1) L (st) (pB hp x (l.set (w32 i).toNat y)) B) := by
  show AWg d sc M R pc _ _ _ hp B ↔ _
  simp only [AWg, stepE, fT, List.getD_cons_succ, List.getD_cons_zero, f_bast, okZ]
  unfold oE; cases hg : gB hp x with
  | none => simp
  | some l => simp only [← inB_iff]; by_cases h : inb i l.length = true <;> simp [h] <;> (by_cases h2 : y = 0 ∨ y = 1 <;> simp [h2])
theorem x_last {d : Nat} {sc : List Int} {M : Nat} {R : PO} {pc : Nat} {a : Nat} {b : Nat} {v0 : AV} {l0 : List (Int × Nat)} {L : LV} {st : List AV} {hp : HP} {B : BU} {x : Nat} {i : Int} {y : BitVec 64} : AWk d sc M R pc (0, 49, a, b, v0, l0) L (mL y :: mI i :: mR x :: st) hp B ↔ oE (gJ hp x) (fun l => inB i l.length ∧ AW d sc M R (pc + 1) L (st) (pJ hp x (l.set (w32 i).toNat y)) B) := by
  show AWg d sc M R pc _ _ _ hp B ↔ _
  simp only [AWg, stepE, fT, List.getD_cons_succ, List.getD_cons_zero, f_last]
  unfold oE; cases hg : gJ hp x with
  | none => simp
  | some l => simp only [← inB_iff]; by_cases h : inb i l.length = true <;> simp [h]
theorem x_aast {d : Nat} {sc : List Int} {M : Nat} {R : PO} {pc : Nat} {a : Nat} {b : Nat} {v0 : AV} {l0 : List (Int × Nat)} {L : LV} {st : List AV} {hp : HP} {B : BU} {x : Nat} {i : Int} {y : Nat} : AWk d sc M R pc (0, 50, a, b, v0, l0) L (mR y :: mI i :: mR x :: st) hp B ↔ oE (gQ hp x a) (fun l => inB i l.length ∧ gC hp y = some b ∧ AW d sc M R (pc + 1) L (st) (pQ hp x a (l.set (w32 i).toNat (some y))) B) := by
  show AWg d sc M R pc _ _ _ hp B ↔ _
  simp only [AWg, stepE, fT, List.getD_cons_succ, List.getD_cons_zero, f_aast]
  unfold oE; cases hg : gQ hp x a with
  | none => simp
  | some l => simp only [← inB_iff]; by_cases h : inb i l.length = true <;> simp [h] <;> (by_cases h2 : gC hp y = some b <;> simp [h2])
theorem x_newa_i {d : Nat} {sc : List Int} {M : Nat} {R : PO} {pc : Nat} {b : Nat} {v0 : AV} {l0 : List (Int × Nat)} {L : LV} {st : List AV} {hp : HP} {B : BU} {n : Int} : AWk d sc M R pc (0, 51, 0, b, v0, l0) L (mI n :: st) hp B ↔ (0 ≤ w32 n ∧ w32 n ≤ 5000 ∧ 1 ≤ B.1 ∧ (w32 n).toNat ≤ B.2) ∧ AW d sc M R (pc + 1) L (mR hp.length :: st) (hp ++ [.inr (.inl (0, List.replicate (w32 n).toNat 0))]) (B.1 - 1, B.2 - (w32 n).toNat) := by
  show AWg d sc M R pc _ _ _ hp B ↔ _
  simp only [AWg, stepE, fT, List.getD_cons_succ, List.getD_cons_zero, f_newa]
  by_cases h : 0 ≤ w32 n ∧ w32 n ≤ 5000 ∧ 1 ≤ B.1 ∧ (w32 n).toNat ≤ B.2
  · simp [h]
  · rw [if_neg (by simp only [Bool.and_eq_true, decide_eq_true_eq]; omega)]; simp only [false_iff]; exact fun q => h q.1
theorem x_newa_z {d : Nat} {sc : List Int} {M : Nat} {R : PO} {pc : Nat} {b : Nat} {v0 : AV} {l0 : List (Int × Nat)} {L : LV} {st : List AV} {hp : HP} {B : BU} {n : Int} : AWk d sc M R pc (0, 51, 1, b, v0, l0) L (mI n :: st) hp B ↔ (0 ≤ w32 n ∧ w32 n ≤ 5000 ∧ 1 ≤ B.1 ∧ (w32 n).toNat ≤ B.2) ∧ AW d sc M R (pc + 1) L (mR hp.length :: st) (hp ++ [.inr (.inl (1, List.replicate (w32 n).toNat 0))]) (B.1 - 1, B.2 - (w32 n).toNat) := by
  show AWg d sc M R pc _ _ _ hp B ↔ _
  simp only [AWg, stepE, fT, List.getD_cons_succ, List.getD_cons_zero, f_newa]
  by_cases h : 0 ≤ w32 n ∧ w32 n ≤ 5000 ∧ 1 ≤ B.1 ∧ (w32 n).toNat ≤ B.2
  · simp [h]
  · rw [if_neg (by simp only [Bool.and_eq_true, decide_eq_true_eq]; omega)]; simp only [false_iff]; exact fun q => h q.1
theorem x_newa_l {d : Nat} {sc : List Int} {M : Nat} {R : PO} {pc : Nat} {b : Nat} {v0 : AV} {l0 : List (Int × Nat)} {L : LV} {st : List AV} {hp : HP} {B : BU} {n : Int} : AWk d sc M R pc (0, 51, 2, b, v0, l0) L (mI n :: st) hp B ↔ (0 ≤ w32 n ∧ w32 n ≤ 5000 ∧ 1 ≤ B.1 ∧ (w32 n).toNat ≤ B.2) ∧ AW d sc M R (pc + 1) L (mR hp.length :: st) (hp ++ [.inr (.inr (.inl (List.replicate (w32 n).toNat 0#64)))]) (B.1 - 1, B.2 - (w32 n).toNat) := by
  show AWg d sc M R pc _ _ _ hp B ↔ _
  simp only [AWg, stepE, fT, List.getD_cons_succ, List.getD_cons_zero, f_newa]
  by_cases h : 0 ≤ w32 n ∧ w32 n ≤ 5000 ∧ 1 ≤ B.1 ∧ (w32 n).toNat ≤ B.2
  · simp [h]
  · rw [if_neg (by simp only [Bool.and_eq_true, decide_eq_true_eq]; omega)]; simp only [false_iff]; exact fun q => h q.1
theorem x_newq {d : Nat} {sc : List Int} {M : Nat} {R : PO} {pc : Nat} {a : Nat} {b : Nat} {v0 : AV} {l0 : List (Int × Nat)} {L : LV} {st : List AV} {hp : HP} {B : BU} {n : Int} : AWk d sc M R pc (0, 52, a, b, v0, l0) L (mI n :: st) hp B ↔ (0 ≤ w32 n ∧ w32 n ≤ 5000 ∧ 1 ≤ B.1 ∧ (w32 n).toNat ≤ B.2) ∧ AW d sc M R (pc + 1) L (mR hp.length :: st) (hp ++ [.inr (.inr (.inr (a, List.replicate (w32 n).toNat none)))]) (B.1 - 1, B.2 - (w32 n).toNat) := by
  show AWg d sc M R pc _ _ _ hp B ↔ _
  simp only [AWg, stepE, fT, List.getD_cons_succ, List.getD_cons_zero, f_newq]
  by_cases h : 0 ≤ w32 n ∧ w32 n ≤ 5000 ∧ 1 ≤ B.1 ∧ (w32 n).toNat ≤ B.2
  · simp [h]
  · rw [if_neg (by simp only [Bool.and_eq_true, decide_eq_true_eq]; omega)]; simp only [false_iff]; exact fun q => h q.1
theorem x_newg {d : Nat} {sc : List Int} {M : Nat} {R : PO} {pc : Nat} {a : Nat} {b : Nat} {v0 : AV} {l0 : List (Int × Nat)} {L : LV} {st : List AV} {hp : HP} {B : BU} {n k : Int} : AWk d sc M R pc (0, 53, a, b, v0, l0) L (mI k :: mI n :: st) hp B ↔ (0 ≤ w32 n ∧ w32 n ≤ 50 ∧ 0 ≤ w32 k ∧ w32 k ≤ 50 ∧ 1 + (w32 n).toNat ≤ B.1 ∧ (w32 n).toNat + (w32 n).toNat * (w32 k).toNat ≤ B.2) ∧ AW d sc M R (pc + 1) L (mR hp.length :: st) (hp ++ (.inr (.inr (.inr (a, (List.range (w32 n).toNat).map (fun i => some (hp.length + 1 + i))))) :: List.replicate (w32 n).toNat (.inr (.inr (.inl (List.replicate (w32 k).toNat 0#64)))))) (B.1 - (1 + (w32 n).toNat), B.2 - ((w32 n).toNat + (w32 n).toNat * (w32 k).toNat)) := by
  show AWg d sc M R pc _ _ _ hp B ↔ _
  simp only [AWg, stepE, fT, List.getD_cons_succ, List.getD_cons_zero, f_newg]
  by_cases h : 0 ≤ w32 n ∧ w32 n ≤ 50 ∧ 0 ≤ w32 k ∧ w32 k ≤ 50 ∧ 1 + (w32 n).toNat ≤ B.1 ∧ (w32 n).toNat + (w32 n).toNat * (w32 k).toNat ≤ B.2
  · simp [h]
  · rw [if_neg (by simpa [and_assoc] using h)]; simp only [false_iff]; exact fun q => h q.1
theorem x_new {d : Nat} {sc : List Int} {M : Nat} {R : PO} {pc : Nat} {a : Nat} {b : Nat} {v0 : AV} {l0 : List (Int × Nat)} {L : LV} {st : List AV} {hp : HP} {B : BU} : AWk d sc M R pc (0, 54, a, b, v0, l0) L (st) hp B ↔ (a < 12 ∧ 1 ≤ B.1 ∧ (fKs.getD a []).length ≤ B.2) ∧ AW d sc M R (pc + 1) L (mR hp.length :: st) (hp ++ [.inl (a, (fKs.getD a []).map born1)]) (B.1 - 1, B.2 - (fKs.getD a []).length) := by
  show AWg d sc M R pc _ _ _ hp B ↔ _
  simp only [AWg, stepE, fT, List.getD_cons_succ, List.getD_cons_zero, f_new]
  by_cases h : a < 12 ∧ 1 ≤ B.1 ∧ (fKs.getD a []).length ≤ B.2
  · rw [if_pos (by simp only [Bool.and_eq_true, decide_eq_true_eq]; omega)]; exact ⟨fun q => ⟨h, q⟩, fun q => q.2⟩
  · rw [if_neg (by simp only [Bool.and_eq_true, decide_eq_true_eq]; omega)]; exact ⟨fun q => q.elim, fun q => h q.1⟩
theorem x_call_0 {d : Nat} {sc : List Int} {M : Nat} {R : PO} {pc : Nat} {a : Nat} {v0 : AV} {L : LV} {st : List AV} {hp : HP} {B : BU} : AWk d sc M R pc (0, 55, a, 0, v0, [(0, 0)]) L (st) hp B ↔ wdS st ≤ 8 ∧ callD d a [] hp (fun v h => AW d sc M R (pc + 1) L (v.toList ++ st) h B) := by
  show AWg d sc M R pc _ _ _ hp B ↔ _
  simp only [AWg, stepE, fT, List.getD_cons_succ, List.getD_cons_zero, f_call]
  by_cases h : wdS st ≤ 8 <;> simp [h]
theorem x_callB_0 {d : Nat} {sc : List Int} {M : Nat} {R : PO} {pc : Nat} {a : Nat} {v0 : AV} {L : LV} {st : List AV} {hp : HP} {B : BU} {c : Int} {s : Nat} : AWk d sc M R pc (0, 55, a, 0, v0, [(c, s)]) L (st) hp B ↔ (c.toNat ≤ B.1 ∧ s ≤ B.2 ∧ wdS st ≤ 8) ∧ callD d a [] hp (fun v h => AW d sc M R (pc + 1) L (v.toList ++ st) h (B.1 - c.toNat, B.2 - s)) := by
  show AWg d sc M R pc _ _ _ hp B ↔ _
  simp only [AWg, stepE, fT, List.getD_cons_succ, List.getD_cons_zero, f_call]
  simp only [List.take_succ_cons, List.take_zero, List.drop_succ_cons, List.drop_zero, List.reverse_cons, List.reverse_nil, List.nil_append, List.cons_append, List.length_cons]
  by_cases h : c.toNat ≤ B.1 ∧ s ≤ B.2 ∧ wdS st ≤ 8
  · rw [if_pos (by simp only [Bool.and_eq_true, decide_eq_true_eq]; omega)]; exact ⟨fun q => ⟨h, q⟩, fun q => q.2⟩
  · rw [if_neg (by simp only [Bool.and_eq_true, decide_eq_true_eq]; omega)]; exact ⟨fun q => q.elim, fun q => h q.1⟩
theorem x_call_1 {d : Nat} {sc : List Int} {M : Nat} {R : PO} {pc : Nat} {a : Nat} {v0 : AV} {L : LV} {st : List AV} {hp : HP} {B : BU} {y0 : AV} : AWk d sc M R pc (0, 55, a, 1, v0, [(0, 0)]) L (y0 :: st) hp B ↔ wdS st ≤ 8 ∧ callD d a [y0] hp (fun v h => AW d sc M R (pc + 1) L (v.toList ++ st) h B) := by
  show AWg d sc M R pc _ _ _ hp B ↔ _
  simp only [AWg, stepE, fT, List.getD_cons_succ, List.getD_cons_zero, f_call]
  by_cases h : wdS st ≤ 8 <;> simp [h]
theorem x_callv_1 {d : Nat} {sc : List Int} {M : Nat} {R : PO} {pc : Nat} {a : Nat} {L : LV} {st : List AV} {hp : HP} {B : BU} {x : Nat} {ci : Int} : AWk d sc M R pc (0, 56, a, 1, mI ci, [(0, 0)]) L (mR x :: st) hp B ↔ gC hp x = some ci.toNat ∧ wdS st ≤ 8 ∧ callD d a [mR x] hp (fun v h => AW d sc M R (pc + 1) L (v.toList ++ st) h B) := by
  show AWg d sc M R pc _ _ _ hp B ↔ _
  simp only [AWg, stepE, fT, List.getD_cons_succ, List.getD_cons_zero, f_callv, f_call]
  by_cases h2 : gC hp x = some ci.toNat <;> by_cases h : wdS st ≤ 8 <;> simp [h, h2]
theorem x_callvB_1 {d : Nat} {sc : List Int} {M : Nat} {R : PO} {pc : Nat} {a : Nat} {L : LV} {st : List AV} {hp : HP} {B : BU} {x : Nat} {ci : Int} {c : Int} {s : Nat} : AWk d sc M R pc (0, 56, a, 1, mI ci, [(c, s)]) L (mR x :: st) hp B ↔ gC hp x = some ci.toNat ∧ (c.toNat ≤ B.1 ∧ s ≤ B.2 ∧ wdS st ≤ 8) ∧ callD d a [mR x] hp (fun v h => AW d sc M R (pc + 1) L (v.toList ++ st) h (B.1 - c.toNat, B.2 - s)) := by
  show AWg d sc M R pc _ _ _ hp B ↔ _
  simp only [AWg, stepE, fT, List.getD_cons_succ, List.getD_cons_zero, f_callv, f_call]
  by_cases h2 : gC hp x = some ci.toNat
  · simp only [List.take_succ_cons, List.take_zero, List.getElem?_cons_succ, List.getElem?_cons_zero, Nat.reduceSub, List.drop_succ_cons, List.drop_zero, List.reverse_cons, List.reverse_nil, List.nil_append, List.cons_append, List.length_cons, h2, if_true, true_and]
    by_cases h : c.toNat ≤ B.1 ∧ s ≤ B.2 ∧ wdS st ≤ 8
    · rw [if_pos (by simp only [Bool.and_eq_true, decide_eq_true_eq]; omega)]; exact ⟨fun q => ⟨h, q⟩, fun q => q.2⟩
    · rw [if_neg (by simp only [Bool.and_eq_true, decide_eq_true_eq]; omega)]; exact ⟨fun q => q.elim, fun q => h q.1⟩
  · simp [h2]
theorem x_callB_1 {d : Nat} {sc : List Int} {M : Nat} {R : PO} {pc : Nat} {a : Nat} {v0 : AV} {L : LV} {st : List AV} {hp : HP} {B : BU} {y0 : AV} {c : Int} {s : Nat} : AWk d sc M R pc (0, 55, a, 1, v0, [(c, s)]) L (y0 :: st) hp B ↔ (c.toNat ≤ B.1 ∧ s ≤ B.2 ∧ wdS st ≤ 8) ∧ callD d a [y0] hp (fun v h => AW d sc M R (pc + 1) L (v.toList ++ st) h (B.1 - c.toNat, B.2 - s)) := by
  show AWg d sc M R pc _ _ _ hp B ↔ _
  simp only [AWg, stepE, fT, List.getD_cons_succ, List.getD_cons_zero, f_call]
  simp only [List.take_succ_cons, List.take_zero, List.drop_succ_cons, List.drop_zero, List.reverse_cons, List.reverse_nil, List.nil_append, List.cons_append, List.length_cons]
  by_cases h : c.toNat ≤ B.1 ∧ s ≤ B.2 ∧ wdS st ≤ 8
  · rw [if_pos (by simp only [Bool.and_eq_true, decide_eq_true_eq]; omega)]; exact ⟨fun q => ⟨h, q⟩, fun q => q.2⟩
  · rw [if_neg (by simp only [Bool.and_eq_true, decide_eq_true_eq]; omega)]; exact ⟨fun q => q.elim, fun q => h q.1⟩
theorem x_call_2 {d : Nat} {sc : List Int} {M : Nat} {R : PO} {pc : Nat} {a : Nat} {v0 : AV} {L : LV} {st : List AV} {hp : HP} {B : BU} {y0 y1 : AV} : AWk d sc M R pc (0, 55, a, 2, v0, [(0, 0)]) L (y1 :: y0 :: st) hp B ↔ wdS st ≤ 8 ∧ callD d a [y0, y1] hp (fun v h => AW d sc M R (pc + 1) L (v.toList ++ st) h B) := by
  show AWg d sc M R pc _ _ _ hp B ↔ _
  simp only [AWg, stepE, fT, List.getD_cons_succ, List.getD_cons_zero, f_call]
  by_cases h : wdS st ≤ 8 <;> simp [h]
theorem x_callv_2 {d : Nat} {sc : List Int} {M : Nat} {R : PO} {pc : Nat} {a : Nat} {L : LV} {st : List AV} {hp : HP} {B : BU} {x : Nat} {ci : Int} {y1 : AV} : AWk d sc M R pc (0, 56, a, 2, mI ci, [(0, 0)]) L (y1 :: mR x :: st) hp B ↔ gC hp x = some ci.toNat ∧ wdS st ≤ 8 ∧ callD d a [mR x, y1] hp (fun v h => AW d sc M R (pc + 1) L (v.toList ++ st) h B) := by
  show AWg d sc M R pc _ _ _ hp B ↔ _
  simp only [AWg, stepE, fT, List.getD_cons_succ, List.getD_cons_zero, f_callv, f_call]
  by_cases h2 : gC hp x = some ci.toNat <;> by_cases h : wdS st ≤ 8 <;> simp [h, h2]
theorem x_callvB_2 {d : Nat} {sc : List Int} {M : Nat} {R : PO} {pc : Nat} {a : Nat} {L : LV} {st : List AV} {hp : HP} {B : BU} {x : Nat} {ci : Int} {y1 : AV} {c : Int} {s : Nat} : AWk d sc M R pc (0, 56, a, 2, mI ci, [(c, s)]) L (y1 :: mR x :: st) hp B ↔ gC hp x = some ci.toNat ∧ (c.toNat ≤ B.1 ∧ s ≤ B.2 ∧ wdS st ≤ 8) ∧ callD d a [mR x, y1] hp (fun v h => AW d sc M R (pc + 1) L (v.toList ++ st) h (B.1 - c.toNat, B.2 - s)) := by
  show AWg d sc M R pc _ _ _ hp B ↔ _
  simp only [AWg, stepE, fT, List.getD_cons_succ, List.getD_cons_zero, f_callv, f_call]
  by_cases h2 : gC hp x = some ci.toNat
  · simp only [List.take_succ_cons, List.take_zero, List.getElem?_cons_succ, List.getElem?_cons_zero, Nat.reduceSub, List.drop_succ_cons, List.drop_zero, List.reverse_cons, List.reverse_nil, List.nil_append, List.cons_append, List.length_cons, h2, if_true, true_and]
    by_cases h : c.toNat ≤ B.1 ∧ s ≤ B.2 ∧ wdS st ≤ 8
    · rw [if_pos (by simp only [Bool.and_eq_true, decide_eq_true_eq]; omega)]; exact ⟨fun q => ⟨h, q⟩, fun q => q.2⟩
    · rw [if_neg (by simp only [Bool.and_eq_true, decide_eq_true_eq]; omega)]; exact ⟨fun q => q.elim, fun q => h q.1⟩
  · simp [h2]
theorem x_callB_2 {d : Nat} {sc : List Int} {M : Nat} {R : PO} {pc : Nat} {a : Nat} {v0 : AV} {L : LV} {st : List AV} {hp : HP} {B : BU} {y0 y1 : AV} {c : Int} {s : Nat} : AWk d sc M R pc (0, 55, a, 2, v0, [(c, s)]) L (y1 :: y0 :: st) hp B ↔ (c.toNat ≤ B.1 ∧ s ≤ B.2 ∧ wdS st ≤ 8) ∧ callD d a [y0, y1] hp (fun v h => AW d sc M R (pc + 1) L (v.toList ++ st) h (B.1 - c.toNat, B.2 - s)) := by
  show AWg d sc M R pc _ _ _ hp B ↔ _
  simp only [AWg, stepE, fT, List.getD_cons_succ, List.getD_cons_zero, f_call]
  simp only [List.take_succ_cons, List.take_zero, List.drop_succ_cons, List.drop_zero, List.reverse_cons, List.reverse_nil, List.nil_append, List.cons_append, List.length_cons]
  by_cases h : c.toNat ≤ B.1 ∧ s ≤ B.2 ∧ wdS st ≤ 8
  · rw [if_pos (by simp only [Bool.and_eq_true, decide_eq_true_eq]; omega)]; exact ⟨fun q => ⟨h, q⟩, fun q => q.2⟩
  · rw [if_neg (by simp only [Bool.and_eq_true, decide_eq_true_eq]; omega)]; exact ⟨fun q => q.elim, fun q => h q.1⟩
theorem x_call_3 {d : Nat} {sc : List Int} {M : Nat} {R : PO} {pc : Nat} {a : Nat} {v0 : AV} {L : LV} {st : List AV} {hp : HP} {B : BU} {y0 y1 y2 : AV} : AWk d sc M R pc (0, 55, a, 3, v0, [(0, 0)]) L (y2 :: y1 :: y0 :: st) hp B ↔ wdS st ≤ 8 ∧ callD d a [y0, y1, y2] hp (fun v h => AW d sc M R (pc + 1) L (v.toList ++ st) h B) := by
  show AWg d sc M R pc _ _ _ hp B ↔ _
  simp only [AWg, stepE, fT, List.getD_cons_succ, List.getD_cons_zero, f_call]
  by_cases h : wdS st ≤ 8 <;> simp [h]
theorem x_callv_3 {d : Nat} {sc : List Int} {M : Nat} {R : PO} {pc : Nat} {a : Nat} {L : LV} {st : List AV} {hp : HP} {B : BU} {x : Nat} {ci : Int} {y1 y2 : AV} : AWk d sc M R pc (0, 56, a, 3, mI ci, [(0, 0)]) L (y2 :: y1 :: mR x :: st) hp B ↔ gC hp x = some ci.toNat ∧ wdS st ≤ 8 ∧ callD d a [mR x, y1, y2] hp (fun v h => AW d sc M R (pc + 1) L (v.toList ++ st) h B) := by
  show AWg d sc M R pc _ _ _ hp B ↔ _
  simp only [AWg, stepE, fT, List.getD_cons_succ, List.getD_cons_zero, f_callv, f_call]
  by_cases h2 : gC hp x = some ci.toNat <;> by_cases h : wdS st ≤ 8 <;> simp [h, h2]
theorem x_callvB_3 {d : Nat} {sc : List Int} {M : Nat} {R : PO} {pc : Nat} {a : Nat} {L : LV} {st : List AV} {hp : HP} {B : BU} {x : Nat} {ci : Int} {y1 y2 : AV} {c : Int} {s : Nat} : AWk d sc M R pc (0, 56, a, 3, mI ci, [(c, s)]) L (y2 :: y1 :: mR x :: st) hp B ↔ gC hp x = some ci.toNat ∧ (c.toNat ≤ B.1 ∧ s ≤ B.2 ∧ wdS st ≤ 8) ∧ callD d a [mR x, y1, y2] hp (fun v h => AW d sc M R (pc + 1) L (v.toList ++ st) h (B.1 - c.toNat, B.2 - s)) := by
  show AWg d sc M R pc _ _ _ hp B ↔ _
  simp only [AWg, stepE, fT, List.getD_cons_succ, List.getD_cons_zero, f_callv, f_call]
  by_cases h2 : gC hp x = some ci.toNat
  · simp only [List.take_succ_cons, List.take_zero, List.getElem?_cons_succ, List.getElem?_cons_zero, Nat.reduceSub, List.drop_succ_cons, List.drop_zero, List.reverse_cons, List.reverse_nil, List.nil_append, List.cons_append, List.length_cons, h2, if_true, true_and]
    by_cases h : c.toNat ≤ B.1 ∧ s ≤ B.2 ∧ wdS st ≤ 8
    · rw [if_pos (by simp only [Bool.and_eq_true, decide_eq_true_eq]; omega)]; exact ⟨fun q => ⟨h, q⟩, fun q => q.2⟩
    · rw [if_neg (by simp only [Bool.and_eq_true, decide_eq_true_eq]; omega)]; exact ⟨fun q => q.elim, fun q => h q.1⟩
  · simp [h2]
theorem x_callB_3 {d : Nat} {sc : List Int} {M : Nat} {R : PO} {pc : Nat} {a : Nat} {v0 : AV} {L : LV} {st : List AV} {hp : HP} {B : BU} {y0 y1 y2 : AV} {c : Int} {s : Nat} : AWk d sc M R pc (0, 55, a, 3, v0, [(c, s)]) L (y2 :: y1 :: y0 :: st) hp B ↔ (c.toNat ≤ B.1 ∧ s ≤ B.2 ∧ wdS st ≤ 8) ∧ callD d a [y0, y1, y2] hp (fun v h => AW d sc M R (pc + 1) L (v.toList ++ st) h (B.1 - c.toNat, B.2 - s)) := by
  show AWg d sc M R pc _ _ _ hp B ↔ _
  simp only [AWg, stepE, fT, List.getD_cons_succ, List.getD_cons_zero, f_call]
  simp only [List.take_succ_cons, List.take_zero, List.drop_succ_cons, List.drop_zero, List.reverse_cons, List.reverse_nil, List.nil_append, List.cons_append, List.length_cons]
  by_cases h : c.toNat ≤ B.1 ∧ s ≤ B.2 ∧ wdS st ≤ 8
  · rw [if_pos (by simp only [Bool.and_eq_true, decide_eq_true_eq]; omega)]; exact ⟨fun q => ⟨h, q⟩, fun q => q.2⟩
  · rw [if_neg (by simp only [Bool.and_eq_true, decide_eq_true_eq]; omega)]; exact ⟨fun q => q.elim, fun q => h q.1⟩
theorem x_call_4 {d : Nat} {sc : List Int} {M : Nat} {R : PO} {pc : Nat} {a : Nat} {v0 : AV} {L : LV} {st : List AV} {hp : HP} {B : BU} {y0 y1 y2 y3 : AV} : AWk d sc M R pc (0, 55, a, 4, v0, [(0, 0)]) L (y3 :: y2 :: y1 :: y0 :: st) hp B ↔ wdS st ≤ 8 ∧ callD d a [y0, y1, y2, y3] hp (fun v h => AW d sc M R (pc + 1) L (v.toList ++ st) h B) := by
  show AWg d sc M R pc _ _ _ hp B ↔ _
  simp only [AWg, stepE, fT, List.getD_cons_succ, List.getD_cons_zero, f_call]
  by_cases h : wdS st ≤ 8 <;> simp [h]
theorem x_callv_4 {d : Nat} {sc : List Int} {M : Nat} {R : PO} {pc : Nat} {a : Nat} {L : LV} {st : List AV} {hp : HP} {B : BU} {x : Nat} {ci : Int} {y1 y2 y3 : AV} : AWk d sc M R pc (0, 56, a, 4, mI ci, [(0, 0)]) L (y3 :: y2 :: y1 :: mR x :: st) hp B ↔ gC hp x = some ci.toNat ∧ wdS st ≤ 8 ∧ callD d a [mR x, y1, y2, y3] hp (fun v h => AW d sc M R (pc + 1) L (v.toList ++ st) h B) := by
  show AWg d sc M R pc _ _ _ hp B ↔ _
  simp only [AWg, stepE, fT, List.getD_cons_succ, List.getD_cons_zero, f_callv, f_call]
  by_cases h2 : gC hp x = some ci.toNat <;> by_cases h : wdS st ≤ 8 <;> simp [h, h2]
theorem x_callvB_4 {d : Nat} {sc : List Int} {M : Nat} {R : PO} {pc : Nat} {a : Nat} {L : LV} {st : List AV} {hp : HP} {B : BU} {x : Nat} {ci : Int} {y1 y2 y3 : AV} {c : Int} {s : Nat} : AWk d sc M R pc (0, 56, a, 4, mI ci, [(c, s)]) L (y3 :: y2 :: y1 :: mR x :: st) hp B ↔ gC hp x = some ci.toNat ∧ (c.toNat ≤ B.1 ∧ s ≤ B.2 ∧ wdS st ≤ 8) ∧ callD d a [mR x, y1, y2, y3] hp (fun v h => AW d sc M R (pc + 1) L (v.toList ++ st) h (B.1 - c.toNat, B.2 - s)) := by
  show AWg d sc M R pc _ _ _ hp B ↔ _
  simp only [AWg, stepE, fT, List.getD_cons_succ, List.getD_cons_zero, f_callv, f_call]
  by_cases h2 : gC hp x = some ci.toNat
  · simp only [List.take_succ_cons, List.take_zero, List.getElem?_cons_succ, List.getElem?_cons_zero, Nat.reduceSub, List.drop_succ_cons, List.drop_zero, List.reverse_cons, List.reverse_nil, List.nil_append, List.cons_append, List.length_cons, h2, if_true, true_and]
    by_cases h : c.toNat ≤ B.1 ∧ s ≤ B.2 ∧ wdS st ≤ 8
    · rw [if_pos (by simp only [Bool.and_eq_true, decide_eq_true_eq]; omega)]; exact ⟨fun q => ⟨h, q⟩, fun q => q.2⟩
    · rw [if_neg (by simp only [Bool.and_eq_true, decide_eq_true_eq]; omega)]; exact ⟨fun q => q.elim, fun q => h q.1⟩
  · simp [h2]
theorem x_callB_4 {d : Nat} {sc : List Int} {M : Nat} {R : PO} {pc : Nat} {a : Nat} {v0 : AV} {L : LV} {st : List AV} {hp : HP} {B : BU} {y0 y1 y2 y3 : AV} {c : Int} {s : Nat} : AWk d sc M R pc (0, 55, a, 4, v0, [(c, s)]) L (y3 :: y2 :: y1 :: y0 :: st) hp B ↔ (c.toNat ≤ B.1 ∧ s ≤ B.2 ∧ wdS st ≤ 8) ∧ callD d a [y0, y1, y2, y3] hp (fun v h => AW d sc M R (pc + 1) L (v.toList ++ st) h (B.1 - c.toNat, B.2 - s)) := by
  show AWg d sc M R pc _ _ _ hp B ↔ _
  simp only [AWg, stepE, fT, List.getD_cons_succ, List.getD_cons_zero, f_call]
  simp only [List.take_succ_cons, List.take_zero, List.drop_succ_cons, List.drop_zero, List.reverse_cons, List.reverse_nil, List.nil_append, List.cons_append, List.length_cons]
  by_cases h : c.toNat ≤ B.1 ∧ s ≤ B.2 ∧ wdS st ≤ 8
  · rw [if_pos (by simp only [Bool.and_eq_true, decide_eq_true_eq]; omega)]; exact ⟨fun q => ⟨h, q⟩, fun q => q.2⟩
  · rw [if_neg (by simp only [Bool.and_eq_true, decide_eq_true_eq]; omega)]; exact ⟨fun q => q.elim, fun q => h q.1⟩
theorem x_call_5 {d : Nat} {sc : List Int} {M : Nat} {R : PO} {pc : Nat} {a : Nat} {v0 : AV} {L : LV} {st : List AV} {hp : HP} {B : BU} {y0 y1 y2 y3 y4 : AV} : AWk d sc M R pc (0, 55, a, 5, v0, [(0, 0)]) L (y4 :: y3 :: y2 :: y1 :: y0 :: st) hp B ↔ wdS st ≤ 8 ∧ callD d a [y0, y1, y2, y3, y4] hp (fun v h => AW d sc M R (pc + 1) L (v.toList ++ st) h B) := by
  show AWg d sc M R pc _ _ _ hp B ↔ _
  simp only [AWg, stepE, fT, List.getD_cons_succ, List.getD_cons_zero, f_call]
  by_cases h : wdS st ≤ 8 <;> simp [h]
theorem x_callv_5 {d : Nat} {sc : List Int} {M : Nat} {R : PO} {pc : Nat} {a : Nat} {L : LV} {st : List AV} {hp : HP} {B : BU} {x : Nat} {ci : Int} {y1 y2 y3 y4 : AV} : AWk d sc M R pc (0, 56, a, 5, mI ci, [(0, 0)]) L (y4 :: y3 :: y2 :: y1 :: mR x :: st) hp B ↔ gC hp x = some ci.toNat ∧ wdS st ≤ 8 ∧ callD d a [mR x, y1, y2, y3, y4] hp (fun v h => AW d sc M R (pc + 1) L (v.toList ++ st) h B) := by
  show AWg d sc M R pc _ _ _ hp B ↔ _
  simp only [AWg, stepE, fT, List.getD_cons_succ, List.getD_cons_zero, f_callv, f_call]
  by_cases h2 : gC hp x = some ci.toNat <;> by_cases h : wdS st ≤ 8 <;> simp [h, h2]
theorem x_callvB_5 {d : Nat} {sc : List Int} {M : Nat} {R : PO} {pc : Nat} {a : Nat} {L : LV} {st : List AV} {hp : HP} {B : BU} {x : Nat} {ci : Int} {y1 y2 y3 y4 : AV} {c : Int} {s : Nat} : AWk d sc M R pc (0, 56, a, 5, mI ci, [(c, s)]) L (y4 :: y3 :: y2 :: y1 :: mR x :: st) hp B ↔ gC hp x = some ci.toNat ∧ (c.toNat ≤ B.1 ∧ s ≤ B.2 ∧ wdS st ≤ 8) ∧ callD d a [mR x, y1, y2, y3, y4] hp (fun v h => AW d sc M R (pc + 1) L (v.toList ++ st) h (B.1 - c.toNat, B.2 - s)) := by
  show AWg d sc M R pc _ _ _ hp B ↔ _
  simp only [AWg, stepE, fT, List.getD_cons_succ, List.getD_cons_zero, f_callv, f_call]
  by_cases h2 : gC hp x = some ci.toNat
  · simp only [List.take_succ_cons, List.take_zero, List.getElem?_cons_succ, List.getElem?_cons_zero, Nat.reduceSub, List.drop_succ_cons, List.drop_zero, List.reverse_cons, List.reverse_nil, List.nil_append, List.cons_append, List.length_cons, h2, if_true, true_and]
    by_cases h : c.toNat ≤ B.1 ∧ s ≤ B.2 ∧ wdS st ≤ 8
    · rw [if_pos (by simp only [Bool.and_eq_true, decide_eq_true_eq]; omega)]; exact ⟨fun q => ⟨h, q⟩, fun q => q.2⟩
    · rw [if_neg (by simp only [Bool.and_eq_true, decide_eq_true_eq]; omega)]; exact ⟨fun q => q.elim, fun q => h q.1⟩
  · simp [h2]
theorem x_callB_5 {d : Nat} {sc : List Int} {M : Nat} {R : PO} {pc : Nat} {a : Nat} {v0 : AV} {L : LV} {st : List AV} {hp : HP} {B : BU} {y0 y1 y2 y3 y4 : AV} {c : Int} {s : Nat} : AWk d sc M R pc (0, 55, a, 5, v0, [(c, s)]) L (y4 :: y3 :: y2 :: y1 :: y0 :: st) hp B ↔ (c.toNat ≤ B.1 ∧ s ≤ B.2 ∧ wdS st ≤ 8) ∧ callD d a [y0, y1, y2, y3, y4] hp (fun v h => AW d sc M R (pc + 1) L (v.toList ++ st) h (B.1 - c.toNat, B.2 - s)) := by
  show AWg d sc M R pc _ _ _ hp B ↔ _
  simp only [AWg, stepE, fT, List.getD_cons_succ, List.getD_cons_zero, f_call]
  simp only [List.take_succ_cons, List.take_zero, List.drop_succ_cons, List.drop_zero, List.reverse_cons, List.reverse_nil, List.nil_append, List.cons_append, List.length_cons]
  by_cases h : c.toNat ≤ B.1 ∧ s ≤ B.2 ∧ wdS st ≤ 8
  · rw [if_pos (by simp only [Bool.and_eq_true, decide_eq_true_eq]; omega)]; exact ⟨fun q => ⟨h, q⟩, fun q => q.2⟩
  · rw [if_neg (by simp only [Bool.and_eq_true, decide_eq_true_eq]; omega)]; exact ⟨fun q => q.elim, fun q => h q.1⟩
theorem x_call_6 {d : Nat} {sc : List Int} {M : Nat} {R : PO} {pc : Nat} {a : Nat} {v0 : AV} {L : LV} {st : List AV} {hp : HP} {B : BU} {y0 y1 y2 y3 y4 y5 : AV} : AWk d sc M R pc (0, 55, a, 6, v0, [(0, 0)]) L (y5 :: y4 :: y3 :: y2 :: y1 :: y0 :: st) hp B ↔ wdS st ≤ 8 ∧ callD d a [y0, y1, y2, y3, y4, y5] hp (fun v h => AW d sc M R (pc + 1) L (v.toList ++ st) h B) := by
  show AWg d sc M R pc _ _ _ hp B ↔ _
  simp only [AWg, stepE, fT, List.getD_cons_succ, List.getD_cons_zero, f_call]
  by_cases h : wdS st ≤ 8 <;> simp [h]
theorem x_callv_6 {d : Nat} {sc : List Int} {M : Nat} {R : PO} {pc : Nat} {a : Nat} {L : LV} {st : List AV} {hp : HP} {B : BU} {x : Nat} {ci : Int} {y1 y2 y3 y4 y5 : AV} : AWk d sc M R pc (0, 56, a, 6, mI ci, [(0, 0)]) L (y5 :: y4 :: y3 :: y2 :: y1 :: mR x :: st) hp B ↔ gC hp x = some ci.toNat ∧ wdS st ≤ 8 ∧ callD d a [mR x, y1, y2, y3, y4, y5] hp (fun v h => AW d sc M R (pc + 1) L (v.toList ++ st) h B) := by
  show AWg d sc M R pc _ _ _ hp B ↔ _
  simp only [AWg, stepE, fT, List.getD_cons_succ, List.getD_cons_zero, f_callv, f_call]
  by_cases h2 : gC hp x = some ci.toNat <;> by_cases h : wdS st ≤ 8 <;> simp [h, h2]
theorem x_callvB_6 {d : Nat} {sc : List Int} {M : Nat} {R : PO} {pc : Nat} {a : Nat} {L : LV} {st : List AV} {hp : HP} {B : BU} {x : Nat} {ci : Int} {y1 y2 y3 y4 y5 : AV} {c : Int} {s : Nat} : AWk d sc M R pc (0, 56, a, 6, mI ci, [(c, s)]) L (y5 :: y4 :: y3 :: y2 :: y1 :: mR x :: st) hp B ↔ gC hp x = some ci.toNat ∧ (c.toNat ≤ B.1 ∧ s ≤ B.2 ∧ wdS st ≤ 8) ∧ callD d a [mR x, y1, y2, y3, y4, y5] hp (fun v h => AW d sc M R (pc + 1) L (v.toList ++ st) h (B.1 - c.toNat, B.2 - s)) := by
  show AWg d sc M R pc _ _ _ hp B ↔ _
  simp only [AWg, stepE, fT, List.getD_cons_succ, List.getD_cons_zero, f_callv, f_call]
  by_cases h2 : gC hp x = some ci.toNat
  · simp only [List.take_succ_cons, List.take_zero, List.getElem?_cons_succ, List.getElem?_cons_zero, Nat.reduceSub, List.drop_succ_cons, List.drop_zero, List.reverse_cons, List.reverse_nil, List.nil_append, List.cons_append, List.length_cons, h2, if_true, true_and]
    by_cases h : c.toNat ≤ B.1 ∧ s ≤ B.2 ∧ wdS st ≤ 8
    · rw [if_pos (by simp only [Bool.and_eq_true, decide_eq_true_eq]; omega)]; exact ⟨fun q => ⟨h, q⟩, fun q => q.2⟩
    · rw [if_neg (by simp only [Bool.and_eq_true, decide_eq_true_eq]; omega)]; exact ⟨fun q => q.elim, fun q => h q.1⟩
  · simp [h2]
theorem x_callB_6 {d : Nat} {sc : List Int} {M : Nat} {R : PO} {pc : Nat} {a : Nat} {v0 : AV} {L : LV} {st : List AV} {hp : HP} {B : BU} {y0 y1 y2 y3 y4 y5 : AV} {c : Int} {s : Nat} : AWk d sc M R pc (0, 55, a, 6, v0, [(c, s)]) L (y5 :: y4 :: y3 :: y2 :: y1 :: y0 :: st) hp B ↔ (c.toNat ≤ B.1 ∧ s ≤ B.2 ∧ wdS st ≤ 8) ∧ callD d a [y0, y1, y2, y3, y4, y5] hp (fun v h => AW d sc M R (pc + 1) L (v.toList ++ st) h (B.1 - c.toNat, B.2 - s)) := by
  show AWg d sc M R pc _ _ _ hp B ↔ _
  simp only [AWg, stepE, fT, List.getD_cons_succ, List.getD_cons_zero, f_call]
  simp only [List.take_succ_cons, List.take_zero, List.drop_succ_cons, List.drop_zero, List.reverse_cons, List.reverse_nil, List.nil_append, List.cons_append, List.length_cons]
  by_cases h : c.toNat ≤ B.1 ∧ s ≤ B.2 ∧ wdS st ≤ 8
  · rw [if_pos (by simp only [Bool.and_eq_true, decide_eq_true_eq]; omega)]; exact ⟨fun q => ⟨h, q⟩, fun q => q.2⟩
  · rw [if_neg (by simp only [Bool.and_eq_true, decide_eq_true_eq]; omega)]; exact ⟨fun q => q.elim, fun q => h q.1⟩
theorem x_call_7 {d : Nat} {sc : List Int} {M : Nat} {R : PO} {pc : Nat} {a : Nat} {v0 : AV} {L : LV} {st : List AV} {hp : HP} {B : BU} {y0 y1 y2 y3 y4 y5 y6 : AV} : AWk d sc M R pc (0, 55, a, 7, v0, [(0, 0)]) L (y6 :: y5 :: y4 :: y3 :: y2 :: y1 :: y0 :: st) hp B ↔ wdS st ≤ 8 ∧ callD d a [y0, y1, y2, y3, y4, y5, y6] hp (fun v h => AW d sc M R (pc + 1) L (v.toList ++ st) h B) := by
  show AWg d sc M R pc _ _ _ hp B ↔ _
  simp only [AWg, stepE, fT, List.getD_cons_succ, List.getD_cons_zero, f_call]
  by_cases h : wdS st ≤ 8 <;> simp [h]
theorem x_callv_7 {d : Nat} {sc : List Int} {M : Nat} {R : PO} {pc : Nat} {a : Nat} {L : LV} {st : List AV} {hp : HP} {B : BU} {x : Nat} {ci : Int} {y1 y2 y3 y4 y5 y6 : AV} : AWk d sc M R pc (0, 56, a, 7, mI ci, [(0, 0)]) L (y6 :: y5 :: y4 :: y3 :: y2 :: y1 :: mR x :: st) hp B ↔ gC hp x = some ci.toNat ∧ wdS st ≤ 8 ∧ callD d a [mR x, y1, y2, y3, y4, y5, y6] hp (fun v h => AW d sc M R (pc + 1) L (v.toList ++ st) h B) := by
  show AWg d sc M R pc _ _ _ hp B ↔ _
  simp only [AWg, stepE, fT, List.getD_cons_succ, List.getD_cons_zero, f_callv, f_call]
  by_cases h2 : gC hp x = some ci.toNat <;> by_cases h : wdS st ≤ 8 <;> simp [h, h2]
theorem x_callvB_7 {d : Nat} {sc : List Int} {M : Nat} {R : PO} {pc : Nat} {a : Nat} {L : LV} {st : List AV} {hp : HP} {B : BU} {x : Nat} {ci : Int} {y1 y2 y3 y4 y5 y6 : AV} {c : Int} {s : Nat} : AWk d sc M R pc (0, 56, a, 7, mI ci, [(c, s)]) L (y6 :: y5 :: y4 :: y3 :: y2 :: y1 :: mR x :: st) hp B ↔ gC hp x = some ci.toNat ∧ (c.toNat ≤ B.1 ∧ s ≤ B.2 ∧ wdS st ≤ 8) ∧ callD d a [mR x, y1, y2, y3, y4, y5, y6] hp (fun v h => AW d sc M R (pc + 1) L (v.toList ++ st) h (B.1 - c.toNat, B.2 - s)) := by
  show AWg d sc M R pc _ _ _ hp B ↔ _
  simp only [AWg, stepE, fT, List.getD_cons_succ, List.getD_cons_zero, f_callv, f_call]
  by_cases h2 : gC hp x = some ci.toNat
  · simp only [List.take_succ_cons, List.take_zero, List.getElem?_cons_succ, List.getElem?_cons_zero, Nat.reduceSub, List.drop_succ_cons, List.drop_zero, List.reverse_cons, List.reverse_nil, List.nil_append, List.cons_append, List.length_cons, h2, if_true, true_and]
    by_cases h : c.toNat ≤ B.1 ∧ s ≤ B.2 ∧ wdS st ≤ 8
    · rw [if_pos (by simp only [Bool.and_eq_true, decide_eq_true_eq]; omega)]; exact ⟨fun q => ⟨h, q⟩, fun q => q.2⟩
    · rw [if_neg (by simp only [Bool.and_eq_true, decide_eq_true_eq]; omega)]; exact ⟨fun q => q.elim, fun q => h q.1⟩
  · simp [h2]
theorem x_callB_7 {d : Nat} {sc : List Int} {M : Nat} {R : PO} {pc : Nat} {a : Nat} {v0 : AV} {L : LV} {st : List AV} {hp : HP} {B : BU} {y0 y1 y2 y3 y4 y5 y6 : AV} {c : Int} {s : Nat} : AWk d sc M R pc (0, 55, a, 7, v0, [(c, s)]) L (y6 :: y5 :: y4 :: y3 :: y2 :: y1 :: y0 :: st) hp B ↔ (c.toNat ≤ B.1 ∧ s ≤ B.2 ∧ wdS st ≤ 8) ∧ callD d a [y0, y1, y2, y3, y4, y5, y6] hp (fun v h => AW d sc M R (pc + 1) L (v.toList ++ st) h (B.1 - c.toNat, B.2 - s)) := by
  show AWg d sc M R pc _ _ _ hp B ↔ _
  simp only [AWg, stepE, fT, List.getD_cons_succ, List.getD_cons_zero, f_call]
  simp only [List.take_succ_cons, List.take_zero, List.drop_succ_cons, List.drop_zero, List.reverse_cons, List.reverse_nil, List.nil_append, List.cons_append, List.length_cons]
  by_cases h : c.toNat ≤ B.1 ∧ s ≤ B.2 ∧ wdS st ≤ 8
  · rw [if_pos (by simp only [Bool.and_eq_true, decide_eq_true_eq]; omega)]; exact ⟨fun q => ⟨h, q⟩, fun q => q.2⟩
  · rw [if_neg (by simp only [Bool.and_eq_true, decide_eq_true_eq]; omega)]; exact ⟨fun q => q.elim, fun q => h q.1⟩
theorem x_calliB_1 {d : Nat} {sc : List Int} {M : Nat} {R : PO} {pc : Nat} {a : Nat} {v0 : AV} {L : LV} {st : List AV} {hp : HP} {B : BU} {x : Nat} {c : Int} {s : Nat} : AWk d sc M R pc (0, 74, a, 1, v0, [(c, s)]) L (mR x :: st) hp B ↔ (c.toNat ≤ B.1 ∧ s ≤ B.2 ∧ wdS st ≤ 8) ∧ callD d a [mR x] hp (fun v h => AW d sc M R (pc + 1) L (v.toList ++ st) h (B.1 - c.toNat, B.2 - s)) := by
  show AWg d sc M R pc _ _ _ hp B ↔ _
  simp only [AWg, stepE, fT, List.getD_cons_succ, List.getD_cons_zero, f_calli, f_call]
  simp only [List.take_succ_cons, List.take_zero, List.getElem?_cons_succ, List.getElem?_cons_zero, Nat.reduceSub, List.drop_succ_cons, List.drop_zero, List.reverse_cons, List.reverse_nil, List.nil_append, List.cons_append, List.length_cons]
  by_cases h : c.toNat ≤ B.1 ∧ s ≤ B.2 ∧ wdS st ≤ 8
  · rw [if_pos (by simp only [Bool.and_eq_true, decide_eq_true_eq]; omega)]; exact ⟨fun q => ⟨h, q⟩, fun q => q.2⟩
  · rw [if_neg (by simp only [Bool.and_eq_true, decide_eq_true_eq]; omega)]; exact ⟨fun q => q.elim, fun q => h q.1⟩
theorem x_calliB_2 {d : Nat} {sc : List Int} {M : Nat} {R : PO} {pc : Nat} {a : Nat} {v0 : AV} {L : LV} {st : List AV} {hp : HP} {B : BU} {x : Nat} {y1 : AV} {c : Int} {s : Nat} : AWk d sc M R pc (0, 74, a, 2, v0, [(c, s)]) L (y1 :: mR x :: st) hp B ↔ (c.toNat ≤ B.1 ∧ s ≤ B.2 ∧ wdS st ≤ 8) ∧ callD d a [mR x, y1] hp (fun v h => AW d sc M R (pc + 1) L (v.toList ++ st) h (B.1 - c.toNat, B.2 - s)) := by
  show AWg d sc M R pc _ _ _ hp B ↔ _
  simp only [AWg, stepE, fT, List.getD_cons_succ, List.getD_cons_zero, f_calli, f_call]
  simp only [List.take_succ_cons, List.take_zero, List.getElem?_cons_succ, List.getElem?_cons_zero, Nat.reduceSub, List.drop_succ_cons, List.drop_zero, List.reverse_cons, List.reverse_nil, List.nil_append, List.cons_append, List.length_cons]
  by_cases h : c.toNat ≤ B.1 ∧ s ≤ B.2 ∧ wdS st ≤ 8
  · rw [if_pos (by simp only [Bool.and_eq_true, decide_eq_true_eq]; omega)]; exact ⟨fun q => ⟨h, q⟩, fun q => q.2⟩
  · rw [if_neg (by simp only [Bool.and_eq_true, decide_eq_true_eq]; omega)]; exact ⟨fun q => q.elim, fun q => h q.1⟩
theorem x_callt_1 {d : Nat} {sc : List Int} {M : Nat} {R : PO} {pc : Nat} {a : Nat} {v0 : AV} {L : LV} {st : List AV} {hp : HP} {B : BU} {j : Nat} : AWk d sc M R pc (0, 70, a, 1, v0, [(0, 0)]) L (mS j :: st) hp B ↔ (100 ≤ j ∧ j < 121) ∧ wdS st ≤ 8 ∧ callD d a [mS j] hp (fun v h => AW d sc M R (pc + 1) L (v.toList ++ st) h B) := by
  show AWg d sc M R pc _ _ _ hp B ↔ _
  simp only [AWg, stepE, fT, List.getD_cons_succ, List.getD_cons_zero, f_callt, f_call, nTx]
  by_cases h2 : 100 ≤ j ∧ j < 121 <;> by_cases h : wdS st ≤ 8 <;> simp [h, h2]
theorem x_callt_2 {d : Nat} {sc : List Int} {M : Nat} {R : PO} {pc : Nat} {a : Nat} {v0 : AV} {L : LV} {st : List AV} {hp : HP} {B : BU} {j : Nat} {y1 : AV} : AWk d sc M R pc (0, 70, a, 2, v0, [(0, 0)]) L (y1 :: mS j :: st) hp B ↔ (100 ≤ j ∧ j < 121) ∧ wdS st ≤ 8 ∧ callD d a [mS j, y1] hp (fun v h => AW d sc M R (pc + 1) L (v.toList ++ st) h B) := by
  show AWg d sc M R pc _ _ _ hp B ↔ _
  simp only [AWg, stepE, fT, List.getD_cons_succ, List.getD_cons_zero, f_callt, f_call, nTx]
  by_cases h2 : 100 ≤ j ∧ j < 121 <;> by_cases h : wdS st ≤ 8 <;> simp [h, h2]
theorem x_ret {d : Nat} {sc : List Int} {M : Nat} {R : PO} {pc : Nat} {b : Nat} {v0 : AV} {l0 : List (Int × Nat)} {L : LV} {hp : HP} {B : BU} : AWk d sc M R pc (0, 57, 0, b, v0, l0) L ([]) hp B ↔ R none hp := Iff.rfl
theorem x_ret_i {d : Nat} {sc : List Int} {M : Nat} {R : PO} {pc : Nat} {b : Nat} {v0 : AV} {l0 : List (Int × Nat)} {L : LV} {hp : HP} {B : BU} {x : Int} : AWk d sc M R pc (0, 57, 1, b, v0, l0) L ([mI x]) hp B ↔ R (some (mI x)) hp := Iff.rfl
theorem x_ret_z {d : Nat} {sc : List Int} {M : Nat} {R : PO} {pc : Nat} {b : Nat} {v0 : AV} {l0 : List (Int × Nat)} {L : LV} {hp : HP} {B : BU} {x : Int} : AWk d sc M R pc (0, 57, 2, b, v0, l0) L ([mI x]) hp B ↔ (x = 0 ∨ x = 1) ∧ R (some (mI x)) hp := by
  show AWg d sc M R pc _ _ _ hp B ↔ _
  simp only [AWg, stepE, fT, List.getD_cons_succ, List.getD_cons_zero, f_ret]
  by_cases h : x = 0 ∨ x = 1 <;> simp [h]
theorem x_ret_c {d : Nat} {sc : List Int} {M : Nat} {R : PO} {pc : Nat} {b : Nat} {v0 : AV} {l0 : List (Int × Nat)} {L : LV} {hp : HP} {B : BU} {x : Int} : AWk d sc M R pc (0, 57, 4, b, v0, l0) L ([mI x]) hp B ↔ (0 ≤ x ∧ x < 128) ∧ R (some (mI x)) hp := by
  show AWg d sc M R pc _ _ _ hp B ↔ _
  simp only [AWg, stepE, fT, List.getD_cons_succ, List.getD_cons_zero, f_ret]
  by_cases h : 0 ≤ x ∧ x < 128 <;> simp [h]
theorem x_ret_l {d : Nat} {sc : List Int} {M : Nat} {R : PO} {pc : Nat} {b : Nat} {v0 : AV} {l0 : List (Int × Nat)} {L : LV} {hp : HP} {B : BU} {x : BitVec 64} : AWk d sc M R pc (0, 57, 3, b, v0, l0) L ([mL x]) hp B ↔ R (some (mL x)) hp := Iff.rfl
theorem x_oinit {d : Nat} {sc : List Int} {M : Nat} {R : PO} {pc : Nat} {a : Nat} {b : Nat} {v0 : AV} {l0 : List (Int × Nat)} {L : LV} {st : List AV} {hp : HP} {B : BU} {x : Nat} : AWk d sc M R pc (0, 58, a, b, v0, l0) L (mR x :: st) hp B ↔ st.length ≤ 4 ∧ AW d sc M R (pc + 1) L (st) hp B := by
  show AWg d sc M R pc _ _ _ hp B ↔ _
  simp only [AWg, stepE, fT, List.getD_cons_succ, List.getD_cons_zero, f_objinit]
  by_cases h : st.length ≤ 4 <;> simp [h]
theorem x_copyi {d : Nat} {sc : List Int} {M : Nat} {R : PO} {pc : Nat} {a : Nat} {b : Nat} {v0 : AV} {l0 : List (Int × Nat)} {L : LV} {st : List AV} {hp : HP} {B : BU} {n dp sp : Int} {x y : Nat} : AWk d sc M R pc (0, 59, a, b, v0, l0) L (mI n :: mI dp :: mR y :: mI sp :: mR x :: st) hp B ↔ oE (gA hp x) (fun f => oE (gA hp y) (fun g => (0 ≤ w32 sp ∧ 0 ≤ w32 dp ∧ 0 ≤ w32 n ∧ w32 sp + w32 n ≤ f.length ∧ w32 dp + w32 n ≤ g.length ∧ st.length ≤ 4) ∧ AW d sc M R (pc + 1) L (st) (pA hp y (cpyL 0 f g (w32 sp).toNat (w32 dp).toNat (w32 n).toNat)) B)) := by
  show AWg d sc M R pc _ _ _ hp B ↔ _
  simp only [AWg, stepE, fT, List.getD_cons_succ, List.getD_cons_zero, f_copyi]
  unfold oE inbC; cases hg : gA hp x <;> cases hh : gA hp y <;> simp
  next f g => by_cases h : 0 ≤ w32 sp ∧ 0 ≤ w32 dp ∧ 0 ≤ w32 n ∧ w32 sp + w32 n ≤ f.length ∧ w32 dp + w32 n ≤ g.length ∧ st.length ≤ 4
              · simp [h]
              · rw [if_neg (fun q => h (by omega))]; simp only [false_iff]; exact fun q => h (by omega)
theorem x_copyl {d : Nat} {sc : List Int} {M : Nat} {R : PO} {pc : Nat} {a : Nat} {b : Nat} {v0 : AV} {l0 : List (Int × Nat)} {L : LV} {st : List AV} {hp : HP} {B : BU} {n dp sp : Int} {x y : Nat} : AWk d sc M R pc (0, 60, a, b, v0, l0) L (mI n :: mI dp :: mR y :: mI sp :: mR x :: st) hp B ↔ oE (gJ hp x) (fun f => oE (gJ hp y) (fun g => (0 ≤ w32 sp ∧ 0 ≤ w32 dp ∧ 0 ≤ w32 n ∧ w32 sp + w32 n ≤ f.length ∧ w32 dp + w32 n ≤ g.length ∧ st.length ≤ 4) ∧ AW d sc M R (pc + 1) L (st) (pJ hp y (cpyL 0#64 f g (w32 sp).toNat (w32 dp).toNat (w32 n).toNat)) B)) := by
  show AWg d sc M R pc _ _ _ hp B ↔ _
  simp only [AWg, stepE, fT, List.getD_cons_succ, List.getD_cons_zero, f_copyl]
  unfold oE inbC; cases hg : gJ hp x <;> cases hh : gJ hp y <;> simp
  next f g => by_cases h : 0 ≤ w32 sp ∧ 0 ≤ w32 dp ∧ 0 ≤ w32 n ∧ w32 sp + w32 n ≤ f.length ∧ w32 dp + w32 n ≤ g.length ∧ st.length ≤ 4
              · simp [h]
              · rw [if_neg (fun q => h (by omega))]; simp only [false_iff]; exact fun q => h (by omega)
theorem x_tval {d : Nat} {sc : List Int} {M : Nat} {R : PO} {pc : Nat} {a : Nat} {b : Nat} {v0 : AV} {l0 : List (Int × Nat)} {L : LV} {st : List AV} {hp : HP} {B : BU} {j : Nat} : AWk d sc M R pc (0, 61, a, b, v0, l0) L (mS j :: st) hp B ↔ (100 ≤ j ∧ j < 121) ∧ AW d sc M R (pc + 1) L (mS (100 + j) :: st) hp B := by
  show AWg d sc M R pc _ _ _ hp B ↔ _
  simp only [AWg, stepE, fT, List.getD_cons_succ, List.getD_cons_zero, f_tval, nTx]
  by_cases h : 100 ≤ j ∧ j < 121 <;> simp [h]
theorem x_tcod {d : Nat} {sc : List Int} {M : Nat} {R : PO} {pc : Nat} {a : Nat} {b : Nat} {v0 : AV} {l0 : List (Int × Nat)} {L : LV} {st : List AV} {hp : HP} {B : BU} {j : Nat} : AWk d sc M R pc (0, 62, a, b, v0, l0) L (mS j :: st) hp B ↔ (100 ≤ j ∧ j < 121) ∧ AW d sc M R (pc + 1) L (mI 0 :: st) hp B := by
  show AWg d sc M R pc _ _ _ hp B ↔ _
  simp only [AWg, stepE, fT, List.getD_cons_succ, List.getD_cons_zero, f_tcod, nTx]
  by_cases h : 100 ≤ j ∧ j < 121 <;> simp [h]
theorem x_tbald {d : Nat} {sc : List Int} {M : Nat} {R : PO} {pc : Nat} {a : Nat} {b : Nat} {v0 : AV} {l0 : List (Int × Nat)} {L : LV} {st : List AV} {hp : HP} {B : BU} {j : Nat} {i : Int} : AWk d sc M R pc (0, 63, a, b, v0, l0) L (mI i :: mS j :: st) hp B ↔ (200 ≤ j ∧ j < 221 ∧ inB i (stxt (j - 200)).length) ∧ AW d sc M R (pc + 1) L (mI ((stxt (j - 200)).getD (w32 i).toNat 0) :: st) hp B := by
  show AWg d sc M R pc _ _ _ hp B ↔ _
  simp only [AWg, stepE, fT, List.getD_cons_succ, List.getD_cons_zero, f_tbald, nTx, ← inB_iff]
  by_cases h : 200 ≤ j ∧ j < 221 ∧ inb i (stxt (j - 200)).length = true <;> simp [h]
theorem x_gcs {d : Nat} {sc : List Int} {M : Nat} {R : PO} {pc : Nat} {a : Nat} {b : Nat} {v0 : AV} {l0 : List (Int × Nat)} {L : LV} {st : List AV} {hp : HP} {B : BU} : AWk d sc M R pc (0, 64, a, b, v0, l0) L (st) hp B ↔ AW d sc M R (pc + 1) L (mI 1 :: st) hp B := Iff.rfl
theorem x_slen {d : Nat} {sc : List Int} {M : Nat} {R : PO} {pc : Nat} {a : Nat} {b : Nat} {v0 : AV} {l0 : List (Int × Nat)} {L : LV} {st : List AV} {hp : HP} {B : BU} : AWk d sc M R pc (0, 65, a, b, v0, l0) L (mS 9 :: st) hp B ↔ AW d sc M R (pc + 1) L (mI (sc.length : Nat) :: st) hp B := Iff.rfl
theorem x_tlen {d : Nat} {sc : List Int} {M : Nat} {R : PO} {pc : Nat} {a : Nat} {b : Nat} {v0 : AV} {l0 : List (Int × Nat)} {L : LV} {st : List AV} {hp : HP} {B : BU} {j : Nat} : AWk d sc M R pc (0, 66, a, b, v0, l0) L (mS j :: st) hp B ↔ (200 ≤ j ∧ j < 221) ∧ AW d sc M R (pc + 1) L (mI ((stxt (j - 200)).length : Nat) :: st) hp B := by
  show AWg d sc M R pc _ _ _ hp B ↔ _
  simp only [AWg, stepE, fT, List.getD_cons_succ, List.getD_cons_zero, f_tlen, nTx]
  by_cases h : 200 ≤ j ∧ j < 221 <;> simp [h]
theorem x_alen_i {d : Nat} {sc : List Int} {M : Nat} {R : PO} {pc : Nat} {b : Nat} {v0 : AV} {l0 : List (Int × Nat)} {L : LV} {st : List AV} {hp : HP} {B : BU} {x : Nat} : AWk d sc M R pc (0, 67, 0, b, v0, l0) L (mR x :: st) hp B ↔ oE (gA hp x) (fun l => AW d sc M R (pc + 1) L (mI (l.length : Nat) :: st) hp B) := by
  show AWg d sc M R pc _ _ _ hp B ↔ _
  simp only [AWg, stepE, fT, List.getD_cons_succ, List.getD_cons_zero, f_alen, if_true]
  unfold oE; cases hg : gA hp x <;> simp
theorem x_alen_l {d : Nat} {sc : List Int} {M : Nat} {R : PO} {pc : Nat} {b : Nat} {v0 : AV} {l0 : List (Int × Nat)} {L : LV} {st : List AV} {hp : HP} {B : BU} {x : Nat} : AWk d sc M R pc (0, 67, 2, b, v0, l0) L (mR x :: st) hp B ↔ oE (gJ hp x) (fun l => AW d sc M R (pc + 1) L (mI (l.length : Nat) :: st) hp B) := by
  show AWg d sc M R pc _ _ _ hp B ↔ _
  simp only [AWg, stepE, fT, List.getD_cons_succ, List.getD_cons_zero, f_alen]
  rw [if_neg (by decide)]; unfold oE; cases hg : gJ hp x <;> simp
theorem x_mmin {d : Nat} {sc : List Int} {M : Nat} {R : PO} {pc : Nat} {a : Nat} {b : Nat} {v0 : AV} {l0 : List (Int × Nat)} {L : LV} {st : List AV} {hp : HP} {B : BU} {x y : Int} : AWk d sc M R pc (0, 71, a, b, v0, l0) L (mI y :: mI x :: st) hp B ↔ st.length ≤ 4 ∧ AW d sc M R (pc + 1) L (mI (if w32 y < w32 x then y else x) :: st) hp B := by
  show AWg d sc M R pc _ _ _ hp B ↔ _
  simp only [AWg, stepE, fT, List.getD_cons_succ, List.getD_cons_zero, f_mmin]
  by_cases h : st.length ≤ 4 <;> simp [h]
theorem x_mmax {d : Nat} {sc : List Int} {M : Nat} {R : PO} {pc : Nat} {a : Nat} {b : Nat} {v0 : AV} {l0 : List (Int × Nat)} {L : LV} {st : List AV} {hp : HP} {B : BU} {x y : Int} : AWk d sc M R pc (0, 72, a, b, v0, l0) L (mI y :: mI x :: st) hp B ↔ st.length ≤ 4 ∧ AW d sc M R (pc + 1) L (mI (if w32 x < w32 y then y else x) :: st) hp B := by
  show AWg d sc M R pc _ _ _ hp B ↔ _
  simp only [AWg, stepE, fT, List.getD_cons_succ, List.getD_cons_zero, f_mmax]
  by_cases h : st.length ≤ 4 <;> simp [h]
theorem x_mabs {d : Nat} {sc : List Int} {M : Nat} {R : PO} {pc : Nat} {a : Nat} {b : Nat} {v0 : AV} {l0 : List (Int × Nat)} {L : LV} {st : List AV} {hp : HP} {B : BU} {x : Int} : AWk d sc M R pc (0, 73, a, b, v0, l0) L (mI x :: st) hp B ↔ st.length ≤ 4 ∧ AW d sc M R (pc + 1) L (mI (if 0 ≤ w32 x then x else 0 - x) :: st) hp B := by
  show AWg d sc M R pc _ _ _ hp B ↔ _
  simp only [AWg, stepE, fT, List.getD_cons_succ, List.getD_cons_zero, f_mabs]
  by_cases h : st.length ≤ 4 <;> simp [h]
