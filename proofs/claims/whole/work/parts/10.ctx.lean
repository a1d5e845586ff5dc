/-! ===== what stays through all calls: statics, texts, nest mates ===== -/
def aNew (b0 : Nat) : Nat → Prop := fun q => b0 ≤ q
def tabOk (b0 : Nat) (sv : Nat → Value) (l : List Int) (j : Nat) (U : State) : Prop := ∃ t, sv j = .ref t ∧ va_T .int t l.length (fun i => .int (Int32.ofInt (l.getD i 0))) (aNew b0) U U.heap
def txtOk (b0 : Nat) (sv : Nat → Value) (i : Nat) (U : State) : Prop := ∃ a v, sv (100 + i) = .ref a ∧ sv (200 + i) = .ref v ∧ vk_R (sSt.getD i ("", 0)).1 (sSt.getD i ("", 0)).2 (sTx.getD i "") a U ∧
  va_O "java/lang/String" a (aNew b0) U U.heap ∧ va_OF "java/lang/String" "coder" "B" (.int 0) a (aNew b0) U U.heap ∧ va_OF "java/lang/String" "value" "[B" (.ref v) a (aNew b0) U U.heap ∧ va_T .byte v (stxt i).length (fun j => .int (Int32.ofInt ((stxt i).getD j 0))) (aNew b0) U U.heap
def SK (b0 : Nat) (sv : Nat → Value) (U : State) : Prop :=
  (∀ w ∈ NWL, va_Nw w U) ∧ va_AO RX4 U ∧ (∀ a, a ∈ [0, 1, 2, 3, 300] → va_Z (stN a).1 (stN a).2.1 (stN a).2.2 (sv a) (aNew b0) U U.heap) ∧ va_Z "java/lang/String" "COMPACT_STRINGS" "Z" (.int 1) (aNew b0) U U.heap ∧ (∀ a, a < 4 → tabOk b0 sv (stab [] a) a U) ∧ (∀ i, i < 21 → txtOk b0 sv i U)
/-- from one state to a later one: the tables alike, old cells as they were -/
def Later (b0 : Nat) (s U : State) : Prop := s.WarmedH U.vm ∧ ∀ q : Nat, q < s.heap.size → ¬ aNew b0 q → U.heap[q]? = s.heap[q]?
theorem nw_later {s U : State} (hW : s.WarmedH U.vm) (h : ∀ w ∈ NWL, va_Nw w s) : ∀ w ∈ NWL, va_Nw w U := by
  have key : ∀ w ∈ NWL, (∃ a i x h, w = .methodLinkNest a i x h) ∨ (∃ a i b n d h, w = .fieldLinkNest a i b n d h) := by
    intro w hw
    simp only [NWL, List.mem_cons, List.not_mem_nil, or_false] at hw
    rcases hw with rfl | rfl | rfl | rfl | rfl | rfl | rfl | rfl | rfl | rfl | rfl | rfl <;> first | exact Or.inl ⟨_, _, _, _, rfl⟩ | exact Or.inr ⟨_, _, _, _, _, _, rfl⟩
  intro w hw
  have h1 := h w hw
  rcases key w hw with ⟨a, i, x, y, rfl⟩ | ⟨a, i, x, n, d, y, rfl⟩
  · exact va_Nw.warmM hW h1
  · exact va_Nw.warmF hW h1
theorem SK_later {b0 : Nat} {sv : Nat → Value} {s U : State} (hL : Later b0 s U) (h : SK b0 sv s) : SK b0 sv U := by
  obtain ⟨hW, hq⟩ := hL
  have hq' : ∀ a : Nat, a < s.heap.size → ¬ aNew b0 a → U.heap[a]? = s.heap[a]? := hq
  have hA := hW.alike
  obtain ⟨h1, h2, h3, h6, h4, h5⟩ := h
  refine ⟨nw_later hW h1, va_AO.moved hA h2, fun a ha => ((h3 a ha).kept hq').moved hA, (h6.kept hq').moved hA, fun a ha => ?_, fun i hi => ?_⟩
  · obtain ⟨t, e, hT⟩ := h4 a ha
    exact ⟨t, e, (hT.kept hq').moved hA⟩
  · obtain ⟨a, v, e1, e2, k1, k2, k3, k4, k5⟩ := h5 i hi
    exact ⟨a, v, e1, e2, k1.warm hW, (k2.kept hq').moved hA, (k3.kept hq').moved hA, (k4.kept hq').moved hA, (k5.kept hq').moved hA⟩
theorem SK_same {b0 : Nat} {sv : Nat → Value} {u U : State} (hv : U.vm = u.vm) (hh : U.heap = u.heap) (h : SK b0 sv u) : SK b0 sv U := by
  have hA : u.vm.Alike U.vm := by rw [hv]; exact Vm.Alike.refl _
  obtain ⟨h1, h2, h3, h6, h4, h5⟩ := h
  have onT : ∀ w ∈ NWL, w.onTables = true := by decide +kernel
  refine ⟨fun w hw => va_Nw.same (onT w hw) hv.symm (h1 w hw), va_AO.moved hA h2, fun a ha => by rw [hh]; exact (h3 a ha).moved hA, by rw [hh]; exact h6.moved hA, fun a ha => ?_, fun i hi => ?_⟩
  · obtain ⟨t, e, hT⟩ := h4 a ha
    exact ⟨t, e, by rw [hh]; exact hT.moved hA⟩
  · obtain ⟨a, v, e1, e2, k1, k2, k3, k4, k5⟩ := h5 i hi
    exact ⟨a, v, e1, e2, k1.same hv, by rw [hh]; exact k2.moved hA, by rw [hh]; exact k3.moved hA, by rw [hh]; exact k4.moved hA, by rw [hh]; exact k5.moved hA⟩
def AG (cy : Nat → ClassId) (U : State) : Prop := U.vm.findClass ("[" ++ (FieldType.array FieldType.long).toString) = some (cy 4) ∧ (Cond.arrayOver (.array .long)).before #[] U = true
theorem AG.moved {cy : Nat → ClassId} {u U : State} (hA : u.vm.Alike U.vm) (h : AG cy u) : AG cy U := ⟨by rw [hA.findClass]; exact h.1, over_moved hA h.2⟩
/-- what a method stands on -/
def CX (b0 : Nat) (sv : Nat → Value) (cy : Nat → ClassId) (D : va_G) (sc : List Int) (M : Nat) (p : Program) (s : State) (m : MethodId) (args : Array Value) (meth : Method) (c : Code) : Prop :=
  p.tables.exec = Jvm.exec ∧ c.code = mC M ∧ c.maxLocals = mX M ∧ s.vm.findClass (mO M) = some m.cls ∧ (∀ w ∈ BIG, w.before args s = true) ∧ ((mY M).name = "<init>" → meth.name = "<init>") ∧ va_K D vwCl (tyW cy) s ∧ SK b0 sv s ∧ (sc ≠ [] ∨ M = nM → tabOk b0 sv sc 9 s) ∧ SVok sv ∧ b0 ≤ s.heap.size ∧ s.vm.findClass "[J" = some (cy 2) ∧ s.vm.findClass ("[" ++ (FieldType.object RX4).toString) = some (cy 3) ∧ AG cy s
def GP (b0 : Nat) (sv : Nat → Value) (cy : Nat → ClassId) (D : va_G) (M : Nat) (p : Program) (l : Launch) (e : Env) (R : Room) (s : State) (m : MethodId) (args : Array Value) (below : List Frame) (meth : Method) (c : Code) (Q : State → Prop) (pc : Nat) (L : LV) (st : List AV) (hp : HP) (B : BU) : Prop :=
  L.length = mX M → ∀ (ls : Array Slot) (H : Heap) (locs : List Loc) (cells slots : Nat), LR b0 sv L ls → RH b0 sv cy D hp H → va_S (aNew b0) s.heap H locs → cells + B.1 ≤ R.cells → slots + B.2 ≤ R.slots → W p l e R s m args below meth c H locs cells slots Q (F0 m pc ls (st.map (cv b0 sv)))
