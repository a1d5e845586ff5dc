/-! ===== new long[n][k] ===== -/
section MG
variable {E : CtlPost} {e : Env} {d : Bool} {acts : List Action} {s : State}
theorem mg_new {cl comp : ClassId} {k : Class} {ty : FieldType} {n : Nat} {v : Value} (hk : s.vm.classes[cl]? = some k) (hkind : k.kind = .array comp ty) (hfit : fits ty v = true) (hdef : v.isDefault = true) (hlim : ¬ n > e.platform.arrayLengthLimit) (hby : ¬ n * componentBytes ty > e.platform.maxHeapBytes) (h1 : s.heap.size < e.platform.maxCells) (h2 : s.slotsUsed + n ≤ e.platform.maxSlots) {Q : Addr → Pre}
    (hq : Q s.heap.size d acts (s.pushCell (arrV cl n (fun _ => v)))) : wp (Jvm.newArray cl n v) Q E e d acts s := by
  have ha : allocActs (Array.replicate n v) s.heap.size acts = acts := by
    unfold allocActs
    rw [if_pos (by rw [Array.all_replicate]; split <;> simp [hdef])]
  have hf : ∀ i w, (Array.replicate n v)[i]? = some w → s.fitsSlot cl .none i w = true := by
    intro i w hw
    rw [Array.getElem?_replicate] at hw
    split at hw
    · cases hw
      simp [State.fitsSlot, State.slotType?, hk, hkind, hfit]
    · cases hw
  rw [← arrV_new] at hq
  simp only [Jvm.newArray, Jvm.arrayFits, wp_bind', W.ask, W.ite, hlim, if_false, wp_pure', W.theClass, hk, hkind, hby, W.alloc, W.stop, Option.some.injEq, exists_eq_left', Array.size_replicate, ha]
  rw [if_neg (by omega)]
  exact ⟨h1, h2, hf, hq⟩
theorem mg_make {c4 c2 c0 : ClassId} {kA kC : Class} {n k : Int32} (F : Nat → Nat → Value) (G : Nat → State) (hk4 : s.vm.classes[c4]? = some kA) (hkA : kA.kind = .array c2 (.array .long)) (hF0 : F 0 = fun _ => .null) (hG0 : G 0 = s.pushCell (arrV c4 n.toNatClampNeg (F 0))) (hGS : ∀ i, G (i + 1) = ((G i).pushCell (arrV c2 k.toNatClampNeg (fun _ => .long 0))).setCell s.heap.size (arrV c4 n.toNatClampNeg (F (i + 1)))) (hFS : ∀ i, updV (F i) i (.ref (s.heap.size + 1 + i)) = F (i + 1))
    (hv : ∀ i, (G i).vm.classes[c2]? = some kC) (hv4 : ∀ i, (G i).vm.classes[c4]? = some kA) (hkC : kC.kind = .array c0 .long) (hz : ∀ i, (G i).heap.size = s.heap.size + 1 + i) (hh : ∀ i, (G i).heap[s.heap.size]? = some (arrV c4 n.toNatClampNeg (F i)))
    (hn : ¬ n < 0) (hk : ¬ k < 0) (lim1 : ∀ a : Nat, a ≤ 50 → ¬ a > e.platform.arrayLengthLimit) (lim2 : ∀ (a : Nat) (ty : FieldType), a ≤ 50 → componentBytes ty ≤ 8 → ¬ a * componentBytes ty > e.platform.maxHeapBytes) (hn2 : n.toNatClampNeg ≤ 50) (hk2 : k.toNatClampNeg ≤ 50)
    (r0 : s.heap.size + 1 ≤ e.platform.maxCells ∧ s.slotsUsed + n.toNatClampNeg ≤ e.platform.maxSlots) (rs : ∀ i, i < n.toNatClampNeg → (G i).heap.size + 1 ≤ e.platform.maxCells ∧ (G i).slotsUsed + k.toNatClampNeg ≤ e.platform.maxSlots)
    {Q : Addr → Pre} (hq : ∀ d' acts', Q s.heap.size d' acts' (G n.toNatClampNeg)) : wp (multianewarray.make c4 [n, k]) Q E e d acts s := by
  have hfind : ([k].find? (· < 0)) = none := by simp [hk]
  rw [multianewarray.make]
  simp only [wp_bind', W.ite, hn, if_false, wp_pure', W.theClass, hk4, hkA, Option.some.injEq, exists_eq_left']
  refine mg_new hk4 hkA rfl rfl (lim1 _ hn2) (lim2 _ _ hn2 (by decide)) (by omega) r0.2 ?_
  simp only [hfind]
  rw [ite_self, wp_bind', Std.Legacy.Range.forIn_eq_forIn_range']
  have hsz : ([:n.toNatClampNeg] : Std.Legacy.Range).size = n.toNatClampNeg := by simp [Std.Legacy.Range.size]
  rw [hsz]
  show wp (forIn (List.range' 0 n.toNatClampNeg 1) PUnit.unit _) _ E e d acts _
  refine wp_forIn_inv (fun rest s' => ∃ i, i ≤ n.toNatClampNeg ∧ rest = List.range' i (n.toNatClampNeg - i) ∧ s' = G i) _ _ ⟨0, Nat.zero_le _, rfl, by rw [hG0, hF0]⟩ ?_ ?_
  · rintro x rest s' d' acts' Q' ⟨i, hi, hl, rfl⟩ hnext
    have hlt : i < n.toNatClampNeg := by
      rcases Nat.lt_or_ge i n.toNatClampNeg with h | h
      · exact h
      · rw [show n.toNatClampNeg - i = 0 from by omega] at hl; cases hl
    rw [show n.toNatClampNeg - i = (n.toNatClampNeg - (i + 1)) + 1 from by omega, List.range'_succ] at hl
    obtain ⟨rfl, hrest⟩ := List.cons.inj hl
    have rsx := rs _ hlt
    rw [multianewarray.make]
    simp only [wp_bind', W.ite, hk, if_false, wp_pure', W.theClass, hv, hkC, Option.some.injEq, exists_eq_left']
    refine mg_new (hv _) hkC rfl rfl (lim1 _ hk2) (lim2 _ _ hk2 (by decide)) (by omega) rsx.2 ?_
    simp only [wp_bind', W.writeLoc, wp_pure']
    have hlt0 : s.heap.size < (G x).heap.size := by rw [hz]; omega
    refine ⟨arrV c4 n.toNatClampNeg (F x), by rw [State.heap_pushCell_of_lt (h := hlt0)]; exact hh x, by simp [arrV], by rw [arrV_size]; exact hlt, ?_, hnext _ _ _ ⟨x + 1, hlt, hrest, ?_⟩⟩
    · show State.fitsSlot _ c4 .none _ _ = true
      simp [State.fitsSlot, State.slotType?, hv4, hkA]
      rfl
    · rw [hGS, ← hFS, arrV_store, hz]
      rfl
  · rintro s' d' acts' ⟨i, hi, hl, rfl⟩
    have hiN : i = n.toNatClampNeg := by
      rcases Nat.lt_or_ge i n.toNatClampNeg with h | h
      · rw [show n.toNatClampNeg - i = (n.toNatClampNeg - (i + 1)) + 1 from by omega, List.range'_succ] at hl; cases hl
      · omega
    subst hiN
    simp only [wp_pure']
    exact hq _ _
end MG
def mgF (h0 i : Nat) : Nat → Value := fun j => if j < i then .ref (h0 + 1 + j) else .null
theorem mgF_up (h0 i : Nat) : updV (mgF h0 i) i (.ref (h0 + 1 + i)) = mgF h0 (i + 1) := by
  funext j
  unfold updV mgF
  by_cases h : j = i
  · subst h
    rw [if_pos rfl, if_pos (Nat.lt_succ_self _)]
  · rw [if_neg h]
    by_cases h2 : j < i
    · rw [if_pos h2, if_pos (by omega)]
    · rw [if_neg h2, if_neg (by omega)]
/-- i rows stand: T1 is what T has become -/
def mgI (p : Program) (l : Launch) (e : Env) (R : Room) (s : State) (m : MethodId) (args : Array Value) (below : List Frame) (meth : Method) (c : Code) (vm1 : Vm) (T : State) (locs : List Loc) (cells slots n k : Nat) (c4 c2 : ClassId) (i : Nat) (T1 : State) : Prop :=
  Stand p l e R s m args below meth c T1 (locs ++ (List.range i).map (fun j => (⟨T.heap.size, j⟩ : Loc))) (cells + 1 + i) (slots + n + i * k) ∧ T1.vm = vm1 ∧ T1.heap.size = T.heap.size + 1 + i ∧ T1.heap[T.heap.size]? = some (arrV c4 n (mgF T.heap.size i)) ∧ (∀ j, j < i → T1.heap[T.heap.size + 1 + j]? = some (arrV c2 k (fun _ => .long 0))) ∧ ∀ q, q < T.heap.size → T1.heap[q]? = T.heap[q]?
section MG2
variable {p : Program} {l : Launch} {e : Env} {R : Room} {s : State} {m : MethodId} {args : Array Value} {below : List Frame} {meth : Method} {c : Code} {H : Heap} {locs : List Loc} {cells slots : Nat} {Q : State → Prop}
theorem mgI_step {vm1 : Vm} {T T1 : State} {n k i : Nat} {c4 c2 : ClassId} (h : mgI p l e R s m args below meth c vm1 T locs cells slots n k c4 c2 i T1) :
    mgI p l e R s m args below meth c vm1 T locs cells slots n k c4 c2 (i + 1) ((T1.pushCell (arrV c2 k (fun _ => .long 0))).setCell T.heap.size (arrV c4 n (mgF T.heap.size (i + 1)))) := by
  obtain ⟨X, hv, hz, h0, hj, hq⟩ := h
  have hlt : T.heap.size < T1.heap.size := by omega
  have hp0 : (T1.pushCell (arrV c2 k (fun _ => .long 0))).heap[T.heap.size]? = some (arrV c4 n (mgF T.heap.size i)) := by rw [State.heap_pushCell_of_lt (h := hlt)]; exact h0
  have hps : (T1.pushCell (arrV c2 k (fun _ => .long 0))).heap.size = T1.heap.size + 1 := by simp
  have X2 := (X.pushed (arrV c2 k (fun _ => .long 0))).stored hp0 i (.ref (T.heap.size + 1 + i))
  rw [arrV_store, mgF_up, arrV_size] at X2
  refine ⟨?_, hv, ?_, State.heap_setCell_self hp0, ?_, ?_⟩
  · rw [List.range_succ, List.map_append, ← List.append_assoc]
    rw [show slots + n + (i + 1) * k = slots + n + i * k + k by rw [Nat.succ_mul]; omega, show cells + 1 + (i + 1) = cells + 1 + i + 1 by omega]
    exact X2
  · rw [size_setCell, hps]; omega
  · intro j hj2
    rw [State.heap_setCell_other (show T.heap.size ≠ T.heap.size + 1 + j by omega)]
    by_cases e : j = i
    · subst e
      rw [← hz]
      exact State.heap_pushCell_size _ _
    · rw [State.heap_pushCell_of_lt (h := (show T.heap.size + 1 + j < T1.heap.size by omega))]
      exact hj j (by omega)
  · intro q hq2
    rw [State.heap_setCell_other (Nat.ne_of_gt hq2), State.heap_pushCell_of_lt (h := (show q < T1.heap.size by omega))]
    exact hq q hq2
def mgT (vm1 : Vm) (T : State) (n k : Nat) (c4 c2 : ClassId) : Nat → State
  | 0 => (T.setVm vm1).pushCell (arrV c4 n (mgF T.heap.size 0))
  | i + 1 => ((mgT vm1 T n k c4 c2 i).pushCell (arrV c2 k (fun _ => .long 0))).setCell T.heap.size (arrV c4 n (mgF T.heap.size (i + 1)))
theorem mgI_all {vm1 : Vm} {T : State} {n k : Nat} {c4 c2 : ClassId} (X : Stand p l e R s m args below meth c T locs cells slots) (hw : s.WarmedH vm1) : ∀ i, mgI p l e R s m args below meth c vm1 T locs cells slots n k c4 c2 i (mgT vm1 T n k c4 c2 i)
  | 0 => by
    have X1 := (X.noted hw).pushed (arrV c4 n (mgF T.heap.size 0))
    rw [arrV_size] at X1
    refine ⟨?_, rfl, by simp [mgT], State.heap_pushCell_size _ _, fun j hj => absurd hj (Nat.not_lt_zero _), fun q hq => State.heap_pushCell_of_lt (T.setVm vm1) _ hq⟩
    rw [List.range_zero, List.map_nil, List.append_nil, Nat.zero_mul]
    exact X1
  | i + 1 => mgI_step (mgI_all X hw i)
theorem mg_go (hexec : p.tables.exec = Jvm.exec) {own : String} {j : Nat} (hown : s.vm.findClass own = some m.cls) (hclink : (Cond.classLink own j ("[" ++ (FieldType.array .long).toString)).before args s = true) (hover : (Cond.arrayOver (.array .long)).before args s = true) {c2 c4 : ClassId} (hc2 : s.vm.findClass (FieldType.array .long).toString = some c2) (hc4 : s.vm.findClass ("[" ++ (FieldType.array .long).toString) = some c4) (ha2 : ArrOfT s c2 .long)
    {cc : ByteArray} (hb : c.code = cc) {pc : Nat} {ls : Array Slot} {rest : List Value} (hdg : decode cc pc = .ok (.multianewarray j 2, 4)) {n k : Int32} (hn : ¬ n < 0) (hk : ¬ k < 0) (hn2 : n.toNatClampNeg ≤ 50) (hk2 : k.toNatClampNeg ≤ 50) (hcells : cells + (1 + n.toNatClampNeg) ≤ R.cells) (hslots : slots + (n.toNatClampNeg + n.toNatClampNeg * k.toNatClampNeg) ≤ R.slots)
    (kk : ∀ (H1 : Heap) (locs1 : List Loc), (∀ q ∈ locs1, q.base = H.size) → H1.size = H.size + 1 + n.toNatClampNeg → H1[H.size]? = some (arrV c4 n.toNatClampNeg (fun j => .ref (H.size + 1 + j))) → (∀ j, j < n.toNatClampNeg → H1[H.size + 1 + j]? = some (arrV c2 k.toNatClampNeg (fun _ => .long 0))) → (∀ q, q < H.size → H1[q]? = H[q]?) →
      W p l e R s m args below meth c H1 (locs ++ locs1) (cells + (1 + n.toNatClampNeg)) (slots + (n.toNatClampNeg + n.toNatClampNeg * k.toNatClampNeg)) Q (F0 m (pc + 4) ls (.ref H.size :: rest))) :
    W p l e R s m args below meth c H locs cells slots Q (F0 m pc ls (.int k :: .int n :: rest)) := by
  intro T hT X
  subst hT; subst hb
  have hpl : e.platform.magicAccessors = ({} : Platform).magicAccessors := by rw [X.admits.platform]
  obtain ⟨comp, cA, kA, hcomp, -, hkA, hkindA, hnameA⟩ := arrayOverA_spec hover
  cases hcomp.symm.trans hc2
  cases hnameA.symm.trans hc4
  obtain ⟨-, kC, hkC, c0, hkindC⟩ := ha2 0 (fun _ => .null)
  have hkC : s.vm.classes[c2]? = some kC := hkC
  obtain ⟨c1, hfc1, hcl⟩ := Cond.classLink_spec hown hclink e.platform hpl
  cases hfc1.symm.trans hc4
  obtain ⟨hg1, hw1, hr1⟩ := State.classEntry (e := e) X.warmed hcl
  generalize T.vm.noted m.cls j (.cls c4) = vm1 at hg1 hw1 hr1
  have hal : s.vm.Alike vm1 := hw1.alike
  obtain ⟨kA1, hkA1, eA⟩ := hal.2.2 _ _ hkA
  obtain ⟨kC1, hkC1, eC⟩ := hal.2.2 _ _ hkC
  have hkA2 : kA1.kind = .array c2 (.array .long) := by rw [eA]; exact hkindA
  have hkC2 : kC1.kind = .array c0 .long := by rw [eC]; exact hkindC
  have lim1 : ∀ a : Nat, a ≤ 50 → ¬ a > e.platform.arrayLengthLimit := fun a ha => by rw [Launch.admits_arrayLengthLimit X.admits]; omega
  have lim2 : ∀ (a : Nat) (ty : FieldType), a ≤ 50 → componentBytes ty ≤ 8 → ¬ a * componentBytes ty > e.platform.maxHeapBytes := fun a ty ha hty => by
    rw [Launch.admits_maxHeapBytes X.admits]
    have := Nat.mul_le_mul ha hty
    omega
  have hI := mgI_all (n := n.toNatClampNeg) (k := k.toNatClampNeg) (c4 := c4) (c2 := c2) X hw1
  obtain ⟨XN, -, z, h0, hj, hq⟩ := hI n.toNatClampNeg
  have e0 : arrV c4 n.toNatClampNeg (mgF T.heap.size n.toNatClampNeg) = arrV c4 n.toNatClampNeg (fun j => .ref (T.heap.size + 1 + j)) := by
    unfold arrV
    congr 1
    apply Array.ext
    · simp
    · intro i h1 h2
      have h3 : i < n.toNatClampNeg := by simpa using h1
      simp [mgF, h3]
  rw [e0] at h0
  obtain ⟨t, a1, b1⟩ := kk _ ((List.range n.toNatClampNeg).map (fun j => (⟨T.heap.size, j⟩ : Loc))) (fun q hq => by
    obtain ⟨j, -, rfl⟩ := List.mem_map.mp hq
    rfl) z h0 hj hq (mgT vm1 T n.toNatClampNeg k.toNatClampNeg c4 c2 n.toNatClampNeg) rfl (by rw [← Nat.add_assoc, ← Nat.add_assoc]; exact XN)
  refine ⟨t, ?_, b1⟩
  have hfind : ([k].find? (· < 0)) = none := by simp [hk]
  have hrooms : ∀ i, i < n.toNatClampNeg → (mgT vm1 T n.toNatClampNeg k.toNatClampNeg c4 c2 i).heap.size + 1 ≤ e.platform.maxCells ∧ (mgT vm1 T n.toNatClampNeg k.toNatClampNeg c4 c2 i).slotsUsed + k.toNatClampNeg ≤ e.platform.maxSlots := by
    intro i hi
    have hm := Nat.mul_le_mul_right k.toNatClampNeg (show i + 1 ≤ n.toNatClampNeg from hi)
    rw [Nat.succ_mul] at hm
    exact (hI i).1.roomAbove (by omega) (by omega)
  obtain ⟨r1, r2⟩ := X.roomAbove (a := 1) (b := n.toNatClampNeg) (by omega) (by have := Nat.zero_le (n.toNatClampNeg * k.toNatClampNeg); omega)
  jvm_step X.here [hexec, hdg]
  have hm : (T.setTop (F0 m pc ls (.int k :: .int n :: rest))).method? = some m := State.method?_setTop _ X.here.top
  simp only [multianewarray.sem, wp_bind', W.resolveClassAt_links hm hg1]
  rw [W.popN, if_neg (by decide)]
  refine ⟨F0 m pc ls (.int k :: .int n :: rest), State.topJava?_setTop' (s := T.setVm vm1) _ X.here.top, [.int n, .int k], rest, rfl, rfl, ?_⟩
  simp only [List.mapM_cons, List.mapM_nil, wp_bind', wp_pure']
  have eS : ((T.setTop (F0 m pc ls (.int k :: .int n :: rest))).setVm vm1).setTop { F0 m pc ls (.int k :: .int n :: rest) with stack := rest } = (T.setVm vm1).setTop (F0 m pc ls rest) := by
    show ((T.setVm vm1).setTop _).setTop _ = _
    rw [State.setTop_setTop]
  rw [eS]
  refine mg_make (s := (T.setVm vm1).setTop (F0 m pc ls rest)) (mgF T.heap.size) (fun i => (mgT vm1 T n.toNatClampNeg k.toNatClampNeg c4 c2 i).setTop (F0 m pc ls rest)) (kA := kA1) (kC := kC1) hkA1 hkA2 (by funext j; simp [mgF]) rfl (fun i => rfl) (mgF_up T.heap.size) (fun i => by show (mgT _ _ _ _ _ _ i).vm.classes[c2]? = _; rw [(hI i).2.1]; exact hkC1) (fun i => by show (mgT _ _ _ _ _ _ i).vm.classes[c4]? = _; rw [(hI i).2.1]; exact hkA1) hkC2 (fun i => (hI i).2.2.1) (fun i => (hI i).2.2.2.1) hn hk lim1 lim2 hn2 hk2 ⟨r1, r2⟩ hrooms (fun d' acts' => ?_)
  simp only [wp_bind', W.mark, W.pushRef, State.topJava?_setTop' _ XN.here.top, Option.some.injEq, exists_eq_left', State.setTop_setTop, State.heap_setTop]
  intro acts
  simp [jvm, XN.here.top]
  exact a1
end MG2
theorem nm_gr : "[" ++ (FieldType.array FieldType.long).toString = "[[J" := by decide +kernel
theorem nm_ro : (FieldType.array FieldType.long).toString = "[J" := by decide +kernel
theorem so_53 {b0 : Nat} {sv : Nat → Value} {cy : Nat → ClassId} {D : va_G} {sc : List Int} {M : Nat} {p : Program} {l : Launch} {e : Env} {R : Room} {s : State} {m : MethodId} {args : Array Value} {below : List Frame} {meth : Method} {c : Code} {Q : State → Prop} {k a b : Nat} {v : AV} {l0 : List (Int × Nat)} {i : Instr} {len : Nat} {L : LV} {st : List AV} {hp : HP} {B : BU} {c' : CF} (C : CX b0 sv cy D sc M p s m args meth c) (hdec : decode (mC M) (pcO M k) = .ok (i, len)) (hk : ck_newg M k a b v l0 i len = true) (hs : f_newg sc (k + 1) a b v l0 L st hp B = some (.inl c')) (G : GP b0 sv cy D M p l e R s m args below meth c Q (pcO M c'.1) c'.2.1 c'.2.2.1 c'.2.2.2.1 c'.2.2.2.2) : GP b0 sv cy D M p l e R s m args below meth c Q (pcO M k) L st hp B := by
  unfold ck_newg at hk
  split at hk
  · next j n0 =>
    simp only [Bool.and_eq_true, decide_eq_true_eq] at hk
    obtain ⟨⟨⟨hk, hf⟩, rfl⟩, rfl⟩ := hk
    obtain ⟨rfl, hn⟩ := fall_of hf
    split at hk
    · next q hq =>
      simp only [Bool.and_eq_true, decide_eq_true_eq] at hk
      obtain ⟨⟨q1, q2⟩, q3⟩ := hk
      have hw := List.all_eq_true.mp ARW_ok q (List.mem_of_getElem? hq)
      rw [q1, q2, q3, if_neg (by decide)] at hw
      unfold f_newg at hs
      split at hs
      · next k2 n st2 =>
        split at hs
        · next hc =>
          simp only [Bool.and_eq_true, decide_eq_true_eq] at hc
          obtain ⟨⟨⟨⟨⟨c1, c2⟩, c3⟩, c4⟩, c5⟩, c6⟩ := hc
          cases hs
          dsimp only at G
          rw [hn] at G
          intro hL ls H locs cells slots h1 h2 h3 h4 h5
          have hcn := J_clamp n
          have hck := J_clamp k2
          have hAG := C.2.2.2.2.2.2.2.2.2.2.2.2.2
          have hb0 := C.2.2.2.2.2.2.2.2.2.2.1
          have hzH := h2.1
          refine mg_go C.1 C.2.2.2.1 (by rw [nm_gr]; exact C.2.2.2.2.1 _ (wIs_mem hw)) (over_moved (Vm.Alike.refl _) hAG.2) (c2 := cy 2) (by rw [nm_ro]; exact C.2.2.2.2.2.2.2.2.2.2.2.1) hAG.1 (C.2.2.2.2.2.2.1.2 2 _ rfl).1 C.2.1 hdec (by rw [J_0, J_lt, w32_0]; omega) (by rw [J_0, J_lt, w32_0]; omega) (by rw [hcn]; omega) (by rw [hck]; omega) (by rw [hcn]; omega) (by rw [hcn, hck]; omega) fun H1 locs1 hb1 z1 e0 e1 o1 => ?_
          rw [hcn] at z1 e0 e1 ⊢
          rw [hck] at e1 ⊢
          have hlen : (hp ++ ((.inr (.inr (.inr (1, (List.range (w32 n).toNat).map (fun i => some (hp.length + 1 + i)))))) :: List.replicate (w32 n).toNat (.inr (.inr (.inl (List.replicate (w32 k2).toNat 0#64)))) : HP)).length = hp.length + 1 + (w32 n).toNat := by
            rw [List.length_append, List.length_cons, List.length_replicate]; omega
          have hg := G hL ls H1 (locs ++ locs1) (cells + (1 + (w32 n).toNat)) (slots + ((w32 n).toNat + (w32 n).toNat * (w32 k2).toNat)) h1 (RH_of (by rw [hlen, z1, hzH]; omega) (fun x cx hx => by
            rcases Nat.lt_trichotomy x hp.length with hx1 | hx1 | hx1
            · rw [List.getElem?_append_left hx1] at hx
              exact (RH_at h2 hx).kept (o1 _ (by show b0 + x < _; omega))
            · rw [List.getElem?_append_right (by omega), hx1, Nat.sub_self] at hx
              cases hx
              show H1[b0 + x]? = some (vp_cell _ _)
              rw [hx1, ← hzH, e0]
              dsimp only
              rw [vp_cell_q, List.length_map, List.length_range]
              congr 1
              refine arrV_ext fun i hi => ?_
              rw [List.getD_eq_getElem?_getD, List.getElem?_map, List.getElem?_range hi]
              show Value.ref (H.size + 1 + i) = Value.ref (b0 + (hp.length + 1 + i))
              rw [show H.size + 1 + i = b0 + (hp.length + 1 + i) by omega]
            · rw [List.getElem?_append_right (by omega), show x - hp.length = (x - hp.length - 1) + 1 by omega, List.getElem?_cons_succ] at hx
              have hxl : x - hp.length - 1 < (w32 n).toNat := by
                have := (List.getElem?_eq_some_iff.mp hx).1
                rwa [List.length_replicate] at this
              have hcx := List.eq_of_mem_replicate (List.mem_of_getElem? hx)
              subst hcx
              show H1[b0 + x]? = some (vp_cell _ _)
              have e1x := e1 (x - hp.length - 1) hxl
              rw [show H.size + 1 + (x - hp.length - 1) = b0 + x by omega] at e1x
              rw [e1x]
              dsimp only
              rw [vp_cell_l, List.length_replicate]
              congr 1
              refine arrV_ext fun i hi => ?_
              simp only [List.getD_eq_getElem?_getD, List.getElem?_replicate]
              split <;> rfl)) ⟨(va_Spush h3 (by omega) o1).1, (va_Spush h3 (by omega) o1).2.1, fun q hq => by
                rcases List.mem_append.mp hq with h | h
                · exact h3.2.2 q h
                · show b0 ≤ q.base
                  rw [hb1 q h]
                  omega⟩ (by dsimp only; omega) (by dsimp only; omega)
          rw [show (mR hp.length :: st2).map (cv b0 sv) = .ref (b0 + hp.length) :: st2.map (cv b0 sv) from rfl, ← hzH] at hg
          exact hg
        · cases hs
      · cases hs
    · cases hk
  · cases hk
