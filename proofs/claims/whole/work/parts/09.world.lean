/-! ===== what the machine's heap holds of an abstract one ===== -/
def cv (b0 : Nat) (sv : Nat → Value) : AV → Value
  | .inl x => .int (Int32.ofInt x)
  | .inr (.inl x) => .long (Int64.ofBitVec x)
  | .inr (.inr (.inl none)) => .null
  | .inr (.inr (.inl (some a))) => .ref (b0 + a)
  | .inr (.inr (.inr j)) => sv j
/-- the classes of the arrays: int, boolean, long, Rows, long[] -/
def tyT : List FieldType := [.int, .boolean, .long, .object RX4, .array .long]
def tyW (cy : Nat → ClassId) : List (ClassId × FieldType) := [(cy 0, .int), (cy 1, .boolean), (cy 2, .long), (cy 3, .object RX4), (cy 4, .array .long)]
def toE (b0 : Nat) (sv : Nat → Value) (cy : Nat → ClassId) : AC → va_E
  | .inl (ci, fs) => .inr (ci, fs.map (cv b0 sv))
  | .inr (.inl (t, l)) => .inl (cy t, l.length, .inl (fun j => Int32.ofInt (l.getD j 0)))
  | .inr (.inr (.inl l)) => .inl (cy 2, l.length, .inr (.inl (fun j => Int64.ofBitVec (l.getD j 0#64))))
  | .inr (.inr (.inr (t, l))) => .inl (cy (3 + t), l.length, .inr (.inr (.inr (.inr (fun j => (l.getD j none).map (fun a => b0 + a))))))
def wl (b0 : Nat) (sv : Nat → Value) (cy : Nat → ClassId) (hp : HP) : va_W := hp.mapIdx (fun k c => (b0 + k, toE b0 sv cy c))
theorem wl_get (b0 : Nat) (sv : Nat → Value) (cy : Nat → ClassId) (hp : HP) (k : Nat) : (wl b0 sv cy hp)[k]? = (hp[k]?).map (fun c => (b0 + k, toE b0 sv cy c)) := by
  unfold wl
  rw [List.getElem?_mapIdx]
theorem wl_at {b0 : Nat} {sv : Nat → Value} {cy : Nat → ClassId} {hp : HP} {k : Nat} {c : AC} (h : hp[k]? = some c) : (wl b0 sv cy hp)[k]? = some (b0 + k, toE b0 sv cy c) := by
  rw [wl_get, h]
  rfl
theorem wl_D (b0 : Nat) (sv : Nat → Value) (cy : Nat → ClassId) (hp : HP) : va_D (fun q => b0 ≤ q) (wl b0 sv cy hp) := by
  refine ⟨fun i j p q hi hj hpq => ?_, fun k q hk => ?_⟩
  · rw [wl_get] at hi hj
    obtain ⟨c, -, rfl⟩ := Option.map_eq_some_iff.mp hi
    obtain ⟨c', -, rfl⟩ := Option.map_eq_some_iff.mp hj
    have : b0 + i = b0 + j := hpq
    omega
  · rw [wl_get] at hk
    obtain ⟨c, -, rfl⟩ := Option.map_eq_some_iff.mp hk
    exact Nat.le_add_right _ _
def RH (b0 : Nat) (sv : Nat → Value) (cy : Nat → ClassId) (D : va_G) (hp : HP) (H : Heap) : Prop := H.size = b0 + hp.length ∧ va_P D vwCl (wl b0 sv cy hp) H
section RHs
variable {b0 : Nat} {sv : Nat → Value} {cy : Nat → ClassId} {D : va_G} {hp : HP} {H H1 : Heap}
theorem RH_at (h : RH b0 sv cy D hp H) {k : Nat} {c : AC} (hc : hp[k]? = some c) : va_at D vwCl (b0 + k, toE b0 sv cy c) H := h.2 k _ (wl_at hc)
theorem RH_of (hz : H.size = b0 + hp.length) (h : ∀ k c, hp[k]? = some c → va_at D vwCl (b0 + k, toE b0 sv cy c) H) : RH b0 sv cy D hp H := by
  refine ⟨hz, fun k q hk => ?_⟩
  rw [wl_get] at hk
  obtain ⟨c, hc, rfl⟩ := Option.map_eq_some_iff.mp hk
  exact h k c hc
theorem RH_set (h : RH b0 sv cy D hp H) {k : Nat} {c c0 : AC} (hc : hp[k]? = some c0) (he : va_at D vwCl (b0 + k, toE b0 sv cy c) H1) (z : H1.size = H.size) (oq : ∀ q : Nat, q ≠ b0 + k → H1[q]? = H[q]?) : RH b0 sv cy D (hp.set k c) H1 := by
  refine RH_of (by rw [z, h.1, List.length_set]) (fun j c' hj => ?_)
  by_cases hjk : k = j
  · subst hjk
    rw [List.getElem?_set_self (List.getElem?_eq_some_iff.mp hc).1] at hj
    cases hj
    exact he
  · rw [List.getElem?_set_ne hjk] at hj
    exact (RH_at h hj).kept (oq _ (by show b0 + j ≠ b0 + k; omega))
theorem RH_push (h : RH b0 sv cy D hp H) {c : AC} (he : va_at D vwCl (b0 + hp.length, toE b0 sv cy c) H1) (z : H1.size = H.size + 1) (oq : ∀ q : Nat, q < H.size → H1[q]? = H[q]?) : RH b0 sv cy D (hp ++ [c]) H1 := by
  refine RH_of (by rw [z, h.1, List.length_append]; rfl) (fun j c' hj => ?_)
  by_cases hjk : j < hp.length
  · rw [List.getElem?_append_left hjk] at hj
    exact (RH_at h hj).kept (oq _ (by show b0 + j < _; rw [h.1]; omega))
  · rw [List.getElem?_append_right (by omega)] at hj
    have h0 : j - hp.length < 1 := (List.getElem?_eq_some_iff.mp hj).1
    have hj2 : j = hp.length := by omega
    subst hj2
    rw [Nat.sub_self] at hj
    cases hj
    exact he
end RHs
/-! the locals -/
def entsL (b0 : Nat) (sv : Nat → Value) (L : LV) : List (Nat × Value) := (List.range L.length).filterMap (fun j => match L[j]? with
  | some (some v) => some (j, cv b0 sv v)
  | _ => none)
theorem entsL_mem {b0 : Nat} {sv : Nat → Value} {L : LV} {j : Nat} {v : AV} (h : L[j]? = some (some v)) : (j, cv b0 sv v) ∈ entsL b0 sv L := by
  refine List.mem_filterMap.mpr ⟨j, List.mem_range.mpr (List.getElem?_eq_some_iff.mp h).1, ?_⟩
  rw [h]
def LR (b0 : Nat) (sv : Nat → Value) (L : LV) (ls : Array Slot) : Prop := lv_has ls L.length (entsL b0 sv L)
theorem LR_at {b0 : Nat} {sv : Nat → Value} {L : LV} {ls : Array Slot} (h : LR b0 sv L ls) {j : Nat} {v : AV} (hj : L[j]? = some (some v)) : ls[j]? = some (.val (cv b0 sv v)) := h.2.2 _ (entsL_mem hj)
theorem LR_of {b0 : Nat} {sv : Nat → Value} {L : LV} {ls : Array Slot} {lv : List (Nat × Value)} {n : Nat} (h : lv_has ls n lv) (hn : n = L.length) (hl : ∀ j v, L[j]? = some (some v) → (j, cv b0 sv v) ∈ lv) : LR b0 sv L ls := by
  subst hn
  refine ⟨h.1, h.2.1, fun q hq => ?_⟩
  obtain ⟨j, -, hj⟩ := List.mem_filterMap.mp hq
  split at hj
  · next v e =>
    cases hj
    exact h.2.2 _ (hl j v e)
  · cases hj
/-- a table's or text's own value is null or a reference -/
def SVok (sv : Nat → Value) : Prop := ∀ j, sv j = .null ∨ ∃ t, sv j = .ref t
theorem cv_cat {b0 : Nat} {sv : Nat → Value} (hs : SVok sv) (v : AV) : (cv b0 sv v).category = if isLong (some v) then 2 else 1 := by
  rcases v with x | x | x | j
  · rfl
  · rfl
  · cases x <;> rfl
  · show (sv j).category = 1
    rcases hs j with e | ⟨t, e⟩ <;> rw [e] <;> rfl
theorem put1_len : ∀ (L : LV) (i : Nat) (v : AV), (put1 L i v).length = L.length := by
  intro L
  induction L with
  | nil => intro i v; rfl
  | cons x L ih =>
    intro i v
    rcases i with _ | _ | i
    · rfl
    · cases L with
      | nil => rfl
      | cons y L => rfl
    · show (x :: put1 L (i + 1) v).length = _
      rw [List.length_cons, ih, List.length_cons]
theorem put1_get : ∀ (L : LV) (i : Nat) (v : AV) (j : Nat) (w : AV), i < L.length → (put1 L i v)[j]? = some (some w) → (j = i ∧ w = v) ∨ (j ≠ i ∧ L[j]? = some (some w) ∧ ¬ (j + 1 = i ∧ isLong (some w) = true)) := by
  intro L
  induction L with
  | nil => intro i v j w hi; exact absurd hi (Nat.not_lt_zero _)
  | cons x L ih =>
    intro i v j w hi h
    rcases i with _ | _ | i
    · rcases j with _ | j
      · cases h; exact Or.inl ⟨rfl, rfl⟩
      · exact Or.inr ⟨by omega, h, by omega⟩
    · cases L with
      | nil => exact absurd hi (by simp)
      | cons y L =>
        change (unl x :: some v :: L)[j]? = _ at h
        rcases j with _ | _ | j
        · have h : unl x = some w := Option.some.inj h
          unfold unl at h
          split at h
          · cases h
          · next hx =>
            subst h
            exact Or.inr ⟨by omega, rfl, fun q => hx q.2⟩
        · cases h; exact Or.inl ⟨rfl, rfl⟩
        · exact Or.inr ⟨by omega, h, by omega⟩
    · change (x :: put1 L (i + 1) v)[j]? = _ at h
      rcases j with _ | j
      · exact Or.inr ⟨by omega, h, by omega⟩
      · rcases ih _ _ _ _ (by simpa using hi) h with ⟨h1, h2⟩ | ⟨h1, h2, h3⟩
        · exact Or.inl ⟨by omega, h2⟩
        · exact Or.inr ⟨by omega, h2, fun q => h3 ⟨by omega, q.2⟩⟩
theorem LR_put1 {b0 : Nat} {sv : Nat → Value} (hs : SVok sv) {L : LV} {ls' : Array Slot} {i : Nat} {v : AV} (hi : i < L.length) (h : lv_has ls' L.length ((i, cv b0 sv v) :: (entsL b0 sv L).filter (fun q => !(q.1 == i) && !(q.1 + 1 == i && q.2.category == 2)))) : LR b0 sv (put1 L i v) ls' := by
  refine LR_of h (put1_len _ _ _).symm (fun j w hj => ?_)
  rcases put1_get _ _ _ _ _ hi hj with ⟨rfl, rfl⟩ | ⟨h1, h2, h3⟩
  · exact List.mem_cons_self
  · refine List.mem_cons_of_mem _ (List.mem_filter.mpr ⟨entsL_mem h2, ?_⟩)
    simp only [Bool.and_eq_true, Bool.not_eq_true', beq_eq_false_iff_ne, ne_eq, Bool.and_eq_false_iff]
    refine ⟨h1, ?_⟩
    by_cases hj : j + 1 = i
    · right
      rw [cv_cat hs]
      have : ¬ isLong (some w) = true := fun q => h3 ⟨hj, q⟩
      rw [if_neg this]
      decide
    · exact Or.inl hj
theorem LR_put2 {b0 : Nat} {sv : Nat → Value} (hs : SVok sv) {L : LV} {ls' : Array Slot} {i : Nat} {v : AV} (hi : i + 1 < L.length) (h : lv_has ls' L.length ((i, cv b0 sv v) :: (entsL b0 sv L).filter (fun q => !(q.1 == i) && (!(q.1 == i + 1) && !(q.1 + 1 == i && q.2.category == 2))))) : LR b0 sv (put2 L i v) ls' := by
  have hlen : (put2 L i v).length = L.length := by unfold put2; rw [List.length_set, put1_len]
  refine LR_of h hlen.symm (fun j w hj => ?_)
  unfold put2 at hj
  have hj1 : j ≠ i + 1 := by
    intro e
    subst e
    rw [List.getElem?_set_self (by rw [put1_len]; exact hi)] at hj
    cases hj
  rw [List.getElem?_set_ne (Ne.symm hj1)] at hj
  rcases put1_get _ _ _ _ _ (by omega) hj with ⟨rfl, rfl⟩ | ⟨h1, h2, h3⟩
  · exact List.mem_cons_self
  · refine List.mem_cons_of_mem _ (List.mem_filter.mpr ⟨entsL_mem h2, ?_⟩)
    simp only [Bool.and_eq_true, Bool.not_eq_true', beq_eq_false_iff_ne, ne_eq, Bool.and_eq_false_iff]
    refine ⟨h1, hj1, ?_⟩
    by_cases hj : j + 1 = i
    · right
      rw [cv_cat hs]
      have : ¬ isLong (some w) = true := fun q => h3 ⟨hj, q⟩
      rw [if_neg this]
      decide
    · exact Or.inl hj
/-- the locals at a method's start -/
theorem LR_entry {b0 : Nat} {sv : Nat → Value} (hs : SVok sv) (args : List AV) (k n : Nat) (hn : (entL args ++ List.replicate k none).length = n) : ∃ ls : Array Slot, ls = (lg_sl (args.map (cv b0 sv)) ++ List.replicate (n - (lg_sl (args.map (cv b0 sv))).length) Slot.unset).toArray ∧ LR b0 sv (entL args ++ List.replicate k none) ls := by
  have hlen : ∀ args : List AV, (lg_sl (args.map (cv b0 sv))).length = (entL args).length := by
    intro args
    induction args with
    | nil => rfl
    | cons v l ih =>
      have hc := cv_cat (b0 := b0) hs v
      have e : lg_sl ((v :: l).map (cv b0 sv)) = (if (cv b0 sv v).category = 2 then [Slot.val (cv b0 sv v), .second] else [.val (cv b0 sv v)]) ++ lg_sl (l.map (cv b0 sv)) := by simp [lg_sl]
      rw [e, hc]
      unfold entL
      by_cases hl : isLong (some v) = true
      · rw [if_pos hl, if_pos hl]; simp [ih]
      · rw [if_neg hl, if_neg hl]; simp [ih]
  have hmem : ∀ (args : List AV) (i0 j : Nat) (w : AV), (entL args)[j]? = some (some w) → (i0 + j, cv b0 sv w) ∈ lv_args i0 (args.map (cv b0 sv)) := by
    intro args
    induction args with
    | nil => intro i0 j w h; cases h
    | cons v l ih =>
      intro i0 j w h
      have hc := cv_cat (b0 := b0) hs v
      show (i0 + j, cv b0 sv w) ∈ (i0, cv b0 sv v) :: lv_args (if (cv b0 sv v).category = 2 then i0 + 2 else i0 + 1) (l.map (cv b0 sv))
      rw [hc]
      unfold entL at h
      by_cases hl : isLong (some v) = true
      · rw [if_pos hl] at h
        rw [if_pos hl]
        rcases j with _ | _ | j
        · cases h; exact List.mem_cons_self
        · cases h
        · have := ih (i0 + 2) j w h
          refine List.mem_cons_of_mem _ ?_
          rw [if_pos rfl, show i0 + (j + 1 + 1) = i0 + 2 + j by omega]
          exact this
      · rw [if_neg hl] at h
        rw [if_neg hl]
        rcases j with _ | j
        · cases h; exact List.mem_cons_self
        · have := ih (i0 + 1) j w h
          refine List.mem_cons_of_mem _ ?_
          rw [if_neg (by decide), show i0 + (j + 1) = i0 + 1 + j by omega]
          exact this
  refine ⟨_, rfl, ?_⟩
  have hle : (lg_sl (args.map (cv b0 sv))).length ≤ n := by rw [hlen, ← hn, List.length_append]; omega
  refine LR_of (lv_entry (args.map (cv b0 sv)) hle) hn.symm (fun j v hj => ?_)
  by_cases hj2 : j < (entL args).length
  · rw [List.getElem?_append_left hj2] at hj
    have := hmem args 0 j v hj
    rwa [Nat.zero_add] at this
  · rw [List.getElem?_append_right (by omega)] at hj
    have := List.eq_of_mem_replicate (List.mem_of_getElem? hj)
    cases this
