/-! ===== calls ===== -/
def FCs (cy : Nat → ClassId) (U : State) : Prop := U.vm.findClass "[J" = some (cy 2) ∧ U.vm.findClass ("[" ++ (FieldType.object RX4).toString) = some (cy 3) ∧ AG cy U
def PcM (b0 : Nat) (sv : Nat → Value) (cy : Nat → ClassId) (D : va_G) (as : List AV) (hp : HP) : Array Value → State → Prop := fun v U => v = (as.map (cv b0 sv)).toArray ∧ RH b0 sv cy D hp U.heap ∧ va_K D vwCl (tyW cy) U ∧ SK b0 sv U ∧ FCs cy U
def QcM (b0 : Nat) (sv : Nat → Value) (cy : Nat → ClassId) (D : va_G) (R0 : PO) : Array Value → State → Outcome → State → Prop := fun _ st o t => (∃ (v : Option AV) (h : HP), o = .returned (v.map (cv b0 sv)) ∧ RH b0 sv cy D h t.heap ∧ R0 v h) ∧ va_F (aNew b0) st t
def rmM (d M : Nat) : Room := { frames := d + 1, cells := (bu M).1, slots := (bu M).2, locals := 60 * (d + 1) }
def wsM (M : Nat) : List Jvm.Cond := .code (mY M) (mC M) (mX M) (mT M) :: BIG
/-- a method of the abstract machine is one of the machine's, at depth d -/
def CallOK (b0 : Nat) (sv : Nat → Value) (cy : Nat → ClassId) (D : va_G) (l : Launch) (d : Nat) (cd0 : CT) : Prop := ∀ (M : Nat) (as : List AV) (hp : HP) (R0 : PO), M < nM → cd0 M as hp R0 → Met l (mY M) (wsM M) (rmM d M) (PcM b0 sv cy D as hp) (QcM b0 sv cy D R0) (bu M).1 (bu M).2 (aNew b0)
theorem PcM_blind {b0 : Nat} {sv : Nat → Value} {cy : Nat → ClassId} {D : va_G} {as : List AV} {hp : HP} : FrameBlind (PcM b0 sv cy D as hp) := by
  rintro a U g mk ⟨h1, h2, h3, h4, h5⟩
  exact ⟨h1, h2, va_K.moved (u := U) (U := U.calling g mk a) (Vm.Alike.refl U.vm) h3, SK_same (u := U) (U := U.calling g mk a) rfl rfl h4, h5⟩
theorem goodIn_BIG {ws : List Jvm.Cond} (h : ∀ w ∈ ws, w ∈ BIG) : GoodIn BIG ws := fun w hw => ⟨h w hw, good_of_word (BIG_good w (h w hw))⟩
/-! the words of the methods -/
theorem lw_mr : ∀ M, M < nM → mcP (mr M) := by
  intro M hM
  have hM : M < 302 := hM
  have key : ∀ (l : List MRt) (j : Nat), j < l.length → (∀ r ∈ l, mcP r) → mcP (l.getD j mrD) := fun l j hj h => h _ (by rw [List.getD_eq_getElem?_getD, List.getElem?_eq_getElem hj]; exact List.getElem_mem hj)
  have h24 : M % 24 < 24 := Nat.mod_lt _ (by decide)
  unfold mr
  obtain h | h | h | h | h | h | h | h | h | h | h | h | h : M / 24 = 0 ∨ M / 24 = 1 ∨ M / 24 = 2 ∨ M / 24 = 3 ∨ M / 24 = 4 ∨ M / 24 = 5 ∨ M / 24 = 6 ∨ M / 24 = 7 ∨ M / 24 = 8 ∨ M / 24 = 9 ∨ M / 24 = 10 ∨ M / 24 = 11 ∨ M / 24 = 12 := by omega
  · rw [h]; exact key mrs_0 _ h24 mcg_0
  · rw [h]; exact key mrs_1 _ h24 mcg_1
  · rw [h]; exact key mrs_2 _ h24 mcg_2
  · rw [h]; exact key mrs_3 _ h24 mcg_3
  · rw [h]; exact key mrs_4 _ h24 mcg_4
  · rw [h]; exact key mrs_5 _ h24 mcg_5
  · rw [h]; exact key mrs_6 _ h24 mcg_6
  · rw [h]; exact key mrs_7 _ h24 mcg_7
  · rw [h]; exact key mrs_8 _ h24 mcg_8
  · rw [h]; exact key mrs_9 _ h24 mcg_9
  · rw [h]; exact key mrs_10 _ h24 mcg_10
  · rw [h]; exact key mrs_11 _ h24 mcg_11
  · rw [h]
    have hj : M % 24 < 14 := by omega
    have e : mrs_12.getD (M % 24) mrD = mrs_12.dropLast.getD (M % 24) mrD := by
      rw [List.getD_eq_getElem?_getD, List.getD_eq_getElem?_getD, List.getElem?_dropLast, if_pos (by exact hj)]
    show mcP (mrs_12.getD (M % 24) mrD)
    rw [e]
    exact key mrs_12.dropLast _ hj mcg_12
theorem wsM_in {M : Nat} (hM : M < nM) : ∀ w ∈ wsM M, w ∈ BIG := by
  intro w hw
  rcases List.mem_cons.mp hw with rfl | hw
  · exact List.mem_filter.mpr ⟨lw_mr M hM, rfl⟩
  · exact hw
theorem mOk_all {M : Nat} (hM : M < nM) : mOk M = true := by
  have hM : M < 302 := hM
  obtain h | h | h | h | h | h : M < 51 ∨ (51 ≤ M ∧ M < 102) ∨ (102 ≤ M ∧ M < 153) ∨ (153 ≤ M ∧ M < 204) ∨ (204 ≤ M ∧ M < 255) ∨ (255 ≤ M ∧ M < 302) := by omega
  · have := List.all_eq_true.mp mOk_0 M (List.mem_range.mpr h)
    rwa [Nat.zero_add] at this
  · have := List.all_eq_true.mp mOk_1 (M - 51) (List.mem_range.mpr (by omega))
    rwa [show 51 + (M - 51) = M by omega] at this
  · have := List.all_eq_true.mp mOk_2 (M - 102) (List.mem_range.mpr (by omega))
    rwa [show 102 + (M - 102) = M by omega] at this
  · have := List.all_eq_true.mp mOk_3 (M - 153) (List.mem_range.mpr (by omega))
    rwa [show 153 + (M - 153) = M by omega] at this
  · have := List.all_eq_true.mp mOk_4 (M - 204) (List.mem_range.mpr (by omega))
    rwa [show 204 + (M - 204) = M by omega] at this
  · have := List.all_eq_true.mp mOk_5 (M - 255) (List.mem_range.mpr (by omega))
    rwa [show 255 + (M - 255) = M by omega] at this
theorem mOk_of {M : Nat} (hM : M < nM) : (mY M).cls = mO M ∧ ((mY M).cls ≠ "java/lang/invoke/MethodHandle" ∧ (mY M).cls ≠ "java/lang/invoke/VarHandle") ∧ plainName (mY M).cls = true ∧ mX M ≤ 30 := by
  have h := mOk_all hM
  unfold mOk at h
  simp only [Bool.and_eq_true, decide_eq_true_eq] at h
  exact ⟨h.1.1.1.1, ⟨h.1.1.1.2, h.1.1.2⟩, h.1.2, h.2⟩
set_option maxRecDepth 100000 in
theorem MLW_len : MLW.length ≤ 360 := by decide +kernel
theorem chunk_mem {α : Type} {l : List α} {q : α} (hq : q ∈ l) (hl : l.length ≤ 360) : ∃ i, i < 360 ∧ ∀ n, n ≤ i → i < n + 60 → q ∈ (l.drop n).take 60 := by
  obtain ⟨i, hi, rfl⟩ := List.getElem_of_mem hq
  refine ⟨i, Nat.lt_of_lt_of_le hi hl, fun n h1 h2 => ?_⟩
  refine List.mem_of_getElem? (i := i - n) ?_
  rw [List.getElem?_take, if_pos (by omega), List.getElem?_drop, show n + (i - n) = i by omega]
  exact List.getElem?_eq_getElem hi
theorem MLW_all : ∀ q ∈ MLW, mlOk q = true := by
  intro q hq
  obtain ⟨i, hi, key⟩ := chunk_mem hq MLW_len
  obtain h | h | h | h | h | h : i < 60 ∨ (60 ≤ i ∧ i < 120) ∨ (120 ≤ i ∧ i < 180) ∨ (180 ≤ i ∧ i < 240) ∨ (240 ≤ i ∧ i < 300) ∨ (300 ≤ i ∧ i < 360) := by omega
  · exact List.all_eq_true.mp MLW_0 _ (key 0 (by omega) (by omega))
  · exact List.all_eq_true.mp MLW_1 _ (key 60 (by omega) (by omega))
  · exact List.all_eq_true.mp MLW_2 _ (key 120 (by omega) (by omega))
  · exact List.all_eq_true.mp MLW_3 _ (key 180 (by omega) (by omega))
  · exact List.all_eq_true.mp MLW_4 _ (key 240 (by omega) (by omega))
  · exact List.all_eq_true.mp MLW_5 _ (key 300 (by omega) (by omega))
section Go
variable {b0 : Nat} {sv : Nat → Value} {cy : Nat → ClassId} {D : va_G} {p : Program} {l : Launch} {e : Env} {R : Room} {s : State} {m : MethodId} {args : Array Value} {below : List Frame} {meth : Method} {c : Code} {H : Heap} {locs : List Loc} {cells slots : Nat} {Q : State → Prop}
variable {pc : Nat} {ls : Array Slot} {rest st0 : List Value} {a : Array Value} {H0 : Heap} {mc ms : Nat}
theorem call_go {R0 : PO} (hr : va_Run p l e R s m args below meth c H locs cells slots mc ms (F0 m pc ls st0) rest (QcM b0 sv cy D R0 a) (aNew b0)) (hS : va_S (aNew b0) H0 H locs)
    (kk : ∀ (v : Option AV) (h : HP) (H1 : Heap) (locs1 : List Loc), R0 v h → RH b0 sv cy D h H1 → va_S (aNew b0) H0 H1 locs1 → W p l e R s m args below meth c H1 locs1 (cells + mc) (slots + ms) Q (F0 m (pc + 3) ls ((v.map (cv b0 sv)).toList ++ rest))) : W p l e R s m args below meth c H locs cells slots Q (F0 m pc ls st0) := by
  intro T hT X
  obtain ⟨v, st₀, t, T', L, h0, X', hL, e1, e2, ⟨⟨v2, h2, hv, hRH, hR0⟩, hz, hk⟩, st⟩ := hr T hT X
  cases hv
  rw [h0] at hz hk
  obtain ⟨t2, a1, b1⟩ := kk v2 h2 T'.heap (locs ++ L) hR0 (by rw [e1]; exact hRH)
    ⟨Nat.le_trans hS.1 (by rw [e1]; exact hz), fun q h1 h2 => by rw [e1, hk q (Nat.lt_of_lt_of_le h1 hS.1) h2]; exact hS.2.1 q h1 h2, fun q hq => by
      rcases List.mem_append.mp hq with h | h
      · exact hS.2.2 q h
      · exact hL q h⟩ T' rfl X'
  exact ⟨t2, st t2 a1, b1⟩
end Go
theorem take_rev {st : List AV} {b : Nat} {w : AV} (h : st[b - 1]? = some w) (hb : 1 ≤ b) : (st.take b).reverse = w :: (st.take (b - 1)).reverse := by
  obtain ⟨n, rfl⟩ : ∃ n, b = n + 1 := ⟨b - 1, by omega⟩
  rw [Nat.add_sub_cancel] at h ⊢
  rw [List.take_add_one, h]
  simp
theorem f_call_of {sc : List Int} {nx a b : Nat} {v : AV} {l0 : List (Int × Nat)} {L : LV} {st : List AV} {hp : HP} {B : BU} {y : Nat} {as : List AV} {c' : CF} (hl0 : l0 = [(Int.ofNat (bu a).1, (bu a).2)]) (h : f_call sc nx a b v l0 L st hp B = some (.inr (.inl (y, as, c')))) : a = y ∧ (st.take b).reverse = as ∧ (nx, L, st.drop b, hp, (B.1 - (bu a).1, B.2 - (bu a).2)) = c' ∧ b ≤ st.length ∧ (bu a).1 ≤ B.1 ∧ (bu a).2 ≤ B.2 ∧ wdS (st.drop b) ≤ 8 := by
  subst hl0
  unfold f_call at h
  dsimp only at h
  split at h
  · next hc =>
    cases h
    simp only [Bool.and_eq_true, decide_eq_true_eq] at hc
    obtain ⟨⟨⟨h1, h2⟩, h3⟩, h4⟩ := hc
    exact ⟨rfl, rfl, rfl, h1, by simpa using h2, h3, h4⟩
  · cases h
theorem so_55 {b0 : Nat} {sv : Nat → Value} {cy : Nat → ClassId} {D : va_G} {sc : List Int} {M : Nat} {p : Program} {l : Launch} {e : Env} {R : Room} {s : State} {m : MethodId} {args : Array Value} {below : List Frame} {meth : Method} {c : Code} {Q : State → Prop} {k a b : Nat} {v : AV} {l0 : List (Int × Nat)} {i : Instr} {len : Nat} {L : LV} {st : List AV} {hp : HP} {B : BU} {c' : CF} {d : Nat} {cd0 : CT} {y : Nat} {as : List AV} {K : PO} (hR : d + 2 ≤ R.frames ∧ 60 * (d + 2) ≤ R.locals) (C : CX b0 sv cy D sc M p s m args meth c) (HC : CallOK b0 sv cy D l d cd0) (hdec : decode (mC M) (pcO M k) = .ok (i, len)) (hk : ck_call M k a b v l0 i len = true) (hs : f_call sc (k + 1) a b v l0 L st hp B = some (.inr (.inl (y, as, c')))) (hc : cd0 y as hp (fun v h => K v h)) (G : ∀ (v : Option AV) (h : HP), K v h → GP b0 sv cy D M p l e R s m args below meth c Q (pcO M c'.1) c'.2.1 (v.toList ++ c'.2.2.1) h c'.2.2.2.2) : GP b0 sv cy D M p l e R s m args below meth c Q (pcO M k) L st hp B := by
  unfold ck_call at hk
  split at hk
  · next j =>
    unfold ck_ml at hk
    simp only [Bool.and_eq_true, decide_eq_true_eq] at hk
    obtain ⟨⟨hk, hf⟩, hl0⟩ := hk
    obtain ⟨rfl, hn⟩ := fall_of hf
    split at hk
    · next q hq =>
      simp only [Bool.and_eq_true, decide_eq_true_eq] at hk
      obtain ⟨⟨⟨⟨⟨q1, q2⟩, q3⟩, q4⟩, q5⟩, q6⟩ := hk
      have hw := MLW_all q (List.mem_of_getElem? hq)
      unfold mlOk at hw
      simp only [Bool.and_eq_true] at hw
      obtain ⟨w0, hw⟩ := hw
      have w0 := of_decide_eq_true w0
      rw [q3] at w0
      have q4 : q.2.2.2.1 = 1 := by simpa using q4
      rw [q4] at hw q5
      simp only [Bool.and_eq_true] at hw
      obtain ⟨⟨w1, w2⟩, w3⟩ := hw
      rw [q1, q2, q3] at w1
      rw [q3] at w2 w3
      obtain ⟨rfl, rfl, rfl, c1, c2, c3, c4⟩ := f_call_of hl0 hs
      dsimp only at G
      rw [hn] at G
      intro hL ls H locs cells slots h1 h2 h3 h4 h5
      · have hPre : ∀ U : State, U.heap = H → s.WarmedH U.vm → PcM b0 sv cy D ((st.take b).reverse) hp (((st.take b).reverse).map (cv b0 sv)).toArray U := by
          intro U hU hW
          refine ⟨rfl, by rw [hU]; exact h2, va_K.moved hW.alike C.2.2.2.2.2.2.1, SK_later ⟨hW, fun q hq hn => by rw [hU]; exact h3.2.1 q hq hn⟩ C.2.2.2.2.2.2.2.1, ?_⟩
          have hfc := hW.alike
          exact ⟨by rw [hfc.findClass]; exact C.2.2.2.2.2.2.2.2.2.2.2.1, by rw [hfc.findClass]; exact C.2.2.2.2.2.2.2.2.2.2.2.2.1, AG.moved hfc C.2.2.2.2.2.2.2.2.2.2.2.2.2⟩
        have hcs := cat_sumW (b0 := b0) C.2.2.2.2.2.2.2.2.2.1 (st.drop b)
        have hsplit : st.map (cv b0 sv) = (st.take b).map (cv b0 sv) ++ (st.drop b).map (cv b0 sv) := by rw [← List.map_append, List.take_append_drop]
        obtain ⟨o1, o2, o3, o4⟩ := mOk_of w0
        have hM := HC a _ hp _ w0 hc
        have hlb : (st.take b).length = b := by rw [List.length_take]; omega
        have hroom : (rmM d a).frames + 1 ≤ R.frames ∧ 8 + (mX a + 11) + (rmM d a).locals ≤ R.locals := ⟨by show d + 1 + 1 ≤ _; omega, by show 8 + (mX a + 11) + 60 * (d + 1) ≤ _; omega⟩
        have hfit : cells + (bu a).1 ≤ R.cells ∧ slots + (bu a).2 ≤ R.slots := ⟨by omega, by omega⟩
        have hsz : ls.size = mX M := by rw [h1.1, hL]
        have hgo : ∀ (v : Option AV) (h : HP) (H1 : Heap) (locs1 : List Loc), K v h → RH b0 sv cy D h H1 → va_S (aNew b0) s.heap H1 locs1 → W p l e R s m args below meth c H1 locs1 (cells + (bu a).1) (slots + (bu a).2) Q (F0 m (pcO M k + 3) ls ((v.map (cv b0 sv)).toList ++ (st.drop b).map (cv b0 sv))) := by
          intro v h H1 locs1 hKv hRH hS1
          have hg := G v h hKv hL ls H1 locs1 (cells + (bu a).1) (slots + (bu a).2) h1 hRH hS1 (by dsimp only; omega) (by dsimp only; omega)
          have e9 : (v.toList ++ st.drop b).map (cv b0 sv) = (v.map (cv b0 sv)).toList ++ (st.drop b).map (cv b0 sv) := by cases v <;> rfl
          rw [e9] at hg
          exact hg
        have hG : GoodIn BIG (va_wsS (mO M) j (mY a) (wsM a)) := goodIn_BIG fun w hw => by
          rcases List.mem_append.mp hw with h | h
          · simp only [List.mem_cons, List.not_mem_nil, or_false] at h
            rcases h with rfl | rfl | rfl
            · exact wIs_mem w1
            · exact wIs_mem w2
            · exact wIs_mem w3
          · exact wsM_in w0 w h
        have cw := va_cwS (R := R) (args := args) b C.2.2.2.2.1 hG (bytes := mC a) (maxL := mX a) (ret := mT a) (rm := rmM d a) rfl rfl rfl ⟨o2.1, o2.2, by rw [show (parseMethodDescriptor (mY a).desc).map (fun d => d.parameters.length) = nPar a from rfl, q5]; rfl⟩ hroom
        exact call_go (va_runS (As := ((st.take b).reverse).map (cv b0 sv)) (rest := (st.drop b).map (cv b0 sv)) (nL := mX M) (g := F0 m (pcO M k) ls (st.map (cv b0 sv))) ⟨C.1, C.2.1, C.2.2.1, C.2.2.2.1, C.2.2.2.2.1⟩ hM cw ⟨PcM_blind, hPre⟩ rfl (by rw [List.length_map, List.length_reverse, hlb]) hsz (by show st.map (cv b0 sv) = _; rw [List.map_reverse, List.reverse_reverse]; exact hsplit) (lv_room (pc := pcO M k) (ls := ls) (m := m) (rest := []) (by omega)) hdec hfit) h3 hgo
    · cases hk
  · cases hk
theorem so_56 {b0 : Nat} {sv : Nat → Value} {cy : Nat → ClassId} {D : va_G} {sc : List Int} {M : Nat} {p : Program} {l : Launch} {e : Env} {R : Room} {s : State} {m : MethodId} {args : Array Value} {below : List Frame} {meth : Method} {c : Code} {Q : State → Prop} {k a b : Nat} {v : AV} {l0 : List (Int × Nat)} {i : Instr} {len : Nat} {L : LV} {st : List AV} {hp : HP} {B : BU} {c' : CF} {d : Nat} {cd0 : CT} {y : Nat} {as : List AV} {K : PO} (hR : d + 2 ≤ R.frames ∧ 60 * (d + 2) ≤ R.locals) (C : CX b0 sv cy D sc M p s m args meth c) (HC : CallOK b0 sv cy D l d cd0) (hdec : decode (mC M) (pcO M k) = .ok (i, len)) (hk : ck_callv M k a b v l0 i len = true) (hs : f_callv sc (k + 1) a b v l0 L st hp B = some (.inr (.inl (y, as, c')))) (hc : cd0 y as hp (fun v h => K v h)) (G : ∀ (v : Option AV) (h : HP), K v h → GP b0 sv cy D M p l e R s m args below meth c Q (pcO M c'.1) c'.2.1 (v.toList ++ c'.2.2.1) h c'.2.2.2.2) : GP b0 sv cy D M p l e R s m args below meth c Q (pcO M k) L st hp B := by
  unfold ck_callv at hk
  split at hk
  · next j =>
    rw [Bool.and_eq_true] at hk
    obtain ⟨hk, hv0⟩ := hk
    have hv0 := of_decide_eq_true hv0
    subst hv0
    unfold ck_ml at hk
    simp only [Bool.and_eq_true, decide_eq_true_eq] at hk
    obtain ⟨⟨hk, hf⟩, hl0⟩ := hk
    obtain ⟨rfl, hn⟩ := fall_of hf
    split at hk
    · next q hq =>
      simp only [Bool.and_eq_true, decide_eq_true_eq] at hk
      obtain ⟨⟨⟨⟨⟨q1, q2⟩, q3⟩, q4⟩, q5⟩, q6⟩ := hk
      have hw := MLW_all q (List.mem_of_getElem? hq)
      unfold mlOk at hw
      simp only [Bool.and_eq_true] at hw
      obtain ⟨w0, hw⟩ := hw
      have w0 := of_decide_eq_true w0
      rw [q3] at w0
      have q4 : q.2.2.2.1 = 0 := by simpa using q4
      rw [q4] at hw q5 q6
      simp only [Bool.and_eq_true, decide_eq_true_eq] at hw
      obtain ⟨⟨⟨⟨⟨w1, w2⟩, w3⟩, w4⟩, w5⟩, w6⟩ := hw
      rw [q1, q2, q3] at w1
      rw [q3] at w2 w3 w4 w5 w6
      have hb1 : 1 ≤ b := by omega
      unfold f_callv at hs
      split at hs
      · next ci x hci hx =>
        cases hci
        split at hs
        · next hgc =>
          obtain ⟨rfl, rfl, rfl, c1, c2, c3, c4⟩ := f_call_of hl0 hs
          dsimp only at G
          rw [hn] at G
          intro hL ls H locs cells slots h1 h2 h3 h4 h5
          · have hPre : ∀ U : State, U.heap = H → s.WarmedH U.vm → PcM b0 sv cy D ((st.take b).reverse) hp (((st.take b).reverse).map (cv b0 sv)).toArray U := by
              intro U hU hW
              refine ⟨rfl, by rw [hU]; exact h2, va_K.moved hW.alike C.2.2.2.2.2.2.1, SK_later ⟨hW, fun q hq hn => by rw [hU]; exact h3.2.1 q hq hn⟩ C.2.2.2.2.2.2.2.1, ?_⟩
              have hfc := hW.alike
              exact ⟨by rw [hfc.findClass]; exact C.2.2.2.2.2.2.2.2.2.2.2.1, by rw [hfc.findClass]; exact C.2.2.2.2.2.2.2.2.2.2.2.2.1, AG.moved hfc C.2.2.2.2.2.2.2.2.2.2.2.2.2⟩
            have hcs := cat_sumW (b0 := b0) C.2.2.2.2.2.2.2.2.2.1 (st.drop b)
            have hsplit : st.map (cv b0 sv) = (st.take b).map (cv b0 sv) ++ (st.drop b).map (cv b0 sv) := by rw [← List.map_append, List.take_append_drop]
            obtain ⟨o1, o2, o3, o4⟩ := mOk_of w0
            have hM := HC a _ hp _ w0 hc
            have hlb : (st.take b).length = b := by rw [List.length_take]; omega
            have hroom : (rmM d a).frames + 1 ≤ R.frames ∧ 8 + (mX a + 11) + (rmM d a).locals ≤ R.locals := ⟨by show d + 1 + 1 ≤ _; omega, by show 8 + (mX a + 11) + 60 * (d + 1) ≤ _; omega⟩
            have hfit : cells + (bu a).1 ≤ R.cells ∧ slots + (bu a).2 ≤ R.slots := ⟨by omega, by omega⟩
            have hsz : ls.size = mX M := by rw [h1.1, hL]
            have hgo : ∀ (v : Option AV) (h : HP) (H1 : Heap) (locs1 : List Loc), K v h → RH b0 sv cy D h H1 → va_S (aNew b0) s.heap H1 locs1 → W p l e R s m args below meth c H1 locs1 (cells + (bu a).1) (slots + (bu a).2) Q (F0 m (pcO M k + 3) ls ((v.map (cv b0 sv)).toList ++ (st.drop b).map (cv b0 sv))) := by
              intro v h H1 locs1 hKv hRH hS1
              have hg := G v h hKv hL ls H1 locs1 (cells + (bu a).1) (slots + (bu a).2) h1 hRH hS1 (by dsimp only; omega) (by dsimp only; omega)
              have e9 : (v.toList ++ st.drop b).map (cv b0 sv) = (v.map (cv b0 sv)).toList ++ (st.drop b).map (cv b0 sv) := by cases v <;> rfl
              rw [e9] at hg
              exact hg
            have htk := take_rev hx hb1
            rw [htk] at hM hPre
            rw [List.map_cons] at hPre
            have hstk : st.map (cv b0 sv) = (((st.take (b - 1)).reverse).map (cv b0 sv)).reverse ++ .ref (b0 + x) :: (st.drop b).map (cv b0 sv) := by
              have h9 : st.take b = (st.take (b - 1)) ++ [mR x] := by
                have := congrArg List.reverse htk
                simpa using this
              rw [hsplit, h9, List.map_reverse, List.reverse_reverse]
              simp [cv]
            have hlb1 : ((st.take (b - 1)).reverse.map (cv b0 sv)).length = b - 1 := by
              rw [List.length_map, List.length_reverse, List.length_take]
              omega
            have hG : GoodIn BIG (wsV (mO M) j (mY a).cls (mY a) (wsM a)) := goodIn_BIG fun w hw => by
              rcases List.mem_append.mp hw with h | h
              · simp only [List.mem_cons, List.not_mem_nil, or_false] at h
                rcases h with rfl | rfl | rfl | rfl
                · exact wIs_mem w1
                · exact wIs_mem w2
                · exact wIs_mem w3
                · exact wIs_mem w4
              · exact wsM_in w0 w h
            have cw := cwV (R := R) (args := args) (b - 1) C.2.2.2.2.1 hG (bytes := mC a) (maxL := mX a) (ret := mT a) (rm := rmM d a) rfl rfl rfl ⟨rfl, o2.1, o2.2, by rw [show (parseMethodDescriptor (mY a).desc).map (fun d => d.parameters.length) = nPar a from rfl, q5, if_neg (by decide)]⟩ hroom
            obtain ⟨fs, hy⟩ := gC_spec hgc
            have hrecv := va_recv C.2.2.2.2.2.2.1 h2.2 (ci := (mr a).1) (q0 := x) (clT_get w6) (wl_at hy)
            rw [w5] at hrecv
            exact call_go (va_runV (C := (mY a).cls) (b := b0 + x) (As := ((st.take (b - 1)).reverse).map (cv b0 sv)) (rest := (st.drop b).map (cv b0 sv)) (nL := mX M) (g := F0 m (pcO M k) ls (st.map (cv b0 sv))) ⟨C.1, C.2.1, C.2.2.1, C.2.2.2.1, C.2.2.2.2.1⟩ hM cw ⟨PcM_blind, hrecv, hPre⟩ rfl hlb1 hsz hstk (lv_room (pc := pcO M k) (ls := ls) (m := m) (rest := []) (by omega)) hdec hfit) h3 hgo
        · cases hs
      · cases hs
    · cases hk
  · cases hk
theorem so_70 {b0 : Nat} {sv : Nat → Value} {cy : Nat → ClassId} {D : va_G} {sc : List Int} {M : Nat} {p : Program} {l : Launch} {e : Env} {R : Room} {s : State} {m : MethodId} {args : Array Value} {below : List Frame} {meth : Method} {c : Code} {Q : State → Prop} {k a b : Nat} {v : AV} {l0 : List (Int × Nat)} {i : Instr} {len : Nat} {L : LV} {st : List AV} {hp : HP} {B : BU} {c' : CF} {d : Nat} {cd0 : CT} {y : Nat} {as : List AV} {K : PO} (hR : d + 2 ≤ R.frames ∧ 60 * (d + 2) ≤ R.locals) (C : CX b0 sv cy D sc M p s m args meth c) (HC : CallOK b0 sv cy D l d cd0) (hdec : decode (mC M) (pcO M k) = .ok (i, len)) (hk : ck_callt M k a b v l0 i len = true) (hs : f_callt sc (k + 1) a b v l0 L st hp B = some (.inr (.inl (y, as, c')))) (hc : cd0 y as hp (fun v h => K v h)) (G : ∀ (v : Option AV) (h : HP), K v h → GP b0 sv cy D M p l e R s m args below meth c Q (pcO M c'.1) c'.2.1 (v.toList ++ c'.2.2.1) h c'.2.2.2.2) : GP b0 sv cy D M p l e R s m args below meth c Q (pcO M k) L st hp B := by
  unfold ck_callt at hk
  split at hk
  · next j =>
    unfold ck_ml at hk
    simp only [Bool.and_eq_true, decide_eq_true_eq] at hk
    obtain ⟨⟨hk, hf⟩, hl0⟩ := hk
    obtain ⟨rfl, hn⟩ := fall_of hf
    split at hk
    · next q hq =>
      simp only [Bool.and_eq_true, decide_eq_true_eq] at hk
      obtain ⟨⟨⟨⟨⟨q1, q2⟩, q3⟩, q4⟩, q5⟩, q6⟩ := hk
      have hw := MLW_all q (List.mem_of_getElem? hq)
      unfold mlOk at hw
      simp only [Bool.and_eq_true] at hw
      obtain ⟨w0, hw⟩ := hw
      have w0 := of_decide_eq_true w0
      rw [q3] at w0
      have q4 : q.2.2.2.1 = 4 := by simpa using q4
      rw [q4] at hw q5 q6
      simp only [Bool.and_eq_true, decide_eq_true_eq] at hw
      obtain ⟨⟨⟨⟨w1, w2⟩, w3⟩, w4⟩, w5⟩ := hw
      rw [q1, q2, q3] at w1
      rw [q3] at w2 w3 w4 w5
      have hb1 : 1 ≤ b := by omega
      unfold f_callt at hs
      split at hs
      · next jj hx =>
        split at hs
        · next hj =>
          obtain ⟨rfl, rfl, rfl, c1, c2, c3, c4⟩ := f_call_of hl0 hs
          dsimp only at G
          rw [hn] at G
          intro hL ls H locs cells slots h1 h2 h3 h4 h5
          · have hPre : ∀ U : State, U.heap = H → s.WarmedH U.vm → PcM b0 sv cy D ((st.take b).reverse) hp (((st.take b).reverse).map (cv b0 sv)).toArray U := by
              intro U hU hW
              refine ⟨rfl, by rw [hU]; exact h2, va_K.moved hW.alike C.2.2.2.2.2.2.1, SK_later ⟨hW, fun q hq hn => by rw [hU]; exact h3.2.1 q hq hn⟩ C.2.2.2.2.2.2.2.1, ?_⟩
              have hfc := hW.alike
              exact ⟨by rw [hfc.findClass]; exact C.2.2.2.2.2.2.2.2.2.2.2.1, by rw [hfc.findClass]; exact C.2.2.2.2.2.2.2.2.2.2.2.2.1, AG.moved hfc C.2.2.2.2.2.2.2.2.2.2.2.2.2⟩
            have hcs := cat_sumW (b0 := b0) C.2.2.2.2.2.2.2.2.2.1 (st.drop b)
            have hsplit : st.map (cv b0 sv) = (st.take b).map (cv b0 sv) ++ (st.drop b).map (cv b0 sv) := by rw [← List.map_append, List.take_append_drop]
            obtain ⟨o1, o2, o3, o4⟩ := mOk_of w0
            have hM := HC a _ hp _ w0 hc
            have hlb : (st.take b).length = b := by rw [List.length_take]; omega
            have hroom : (rmM d a).frames + 1 ≤ R.frames ∧ 8 + (mX a + 11) + (rmM d a).locals ≤ R.locals := ⟨by show d + 1 + 1 ≤ _; omega, by show 8 + (mX a + 11) + 60 * (d + 1) ≤ _; omega⟩
            have hfit : cells + (bu a).1 ≤ R.cells ∧ slots + (bu a).2 ≤ R.slots := ⟨by omega, by omega⟩
            have hsz : ls.size = mX M := by rw [h1.1, hL]
            have hgo : ∀ (v : Option AV) (h : HP) (H1 : Heap) (locs1 : List Loc), K v h → RH b0 sv cy D h H1 → va_S (aNew b0) s.heap H1 locs1 → W p l e R s m args below meth c H1 locs1 (cells + (bu a).1) (slots + (bu a).2) Q (F0 m (pcO M k + 3) ls ((v.map (cv b0 sv)).toList ++ (st.drop b).map (cv b0 sv))) := by
              intro v h H1 locs1 hKv hRH hS1
              have hg := G v h hKv hL ls H1 locs1 (cells + (bu a).1) (slots + (bu a).2) h1 hRH hS1 (by dsimp only; omega) (by dsimp only; omega)
              have e9 : (v.toList ++ st.drop b).map (cv b0 sv) = (v.map (cv b0 sv)).toList ++ (st.drop b).map (cv b0 sv) := by cases v <;> rfl
              rw [e9] at hg
              exact hg
            obtain ⟨i0, rfl⟩ : ∃ i0, jj = 100 + i0 := ⟨jj - 100, by omega⟩
            have hi0 : i0 < 21 := by have := hj.2; unfold nTx at this; omega
            obtain ⟨t, v2, e1, e2, k1, k2, k3⟩ := C.2.2.2.2.2.2.2.1.2.2.2.2.2 i0 hi0
            have htk := take_rev hx hb1
            rw [htk] at hM hPre
            rw [List.map_cons] at hPre
            have hstk : st.map (cv b0 sv) = (((st.take (b - 1)).reverse).map (cv b0 sv)).reverse ++ .ref t :: (st.drop b).map (cv b0 sv) := by
              have h9 : st.take b = (st.take (b - 1)) ++ [mS (100 + i0)] := by
                have := congrArg List.reverse htk
                simpa using this
              rw [hsplit, h9, List.map_reverse, List.reverse_reverse]
              simp [cv, e1]
            have hlb1 : ((st.take (b - 1)).reverse.map (cv b0 sv)).length = b - 1 := by
              rw [List.length_map, List.length_reverse, List.length_take]
              omega
            rw [show cv b0 sv (mS (100 + i0)) = .ref t from e1] at hPre
            have hG : GoodIn BIG (wsV (mO M) j (mY a).cls (mY a) (wsM a)) := goodIn_BIG fun w hw => by
              rcases List.mem_append.mp hw with h | h
              · simp only [List.mem_cons, List.not_mem_nil, or_false] at h
                rcases h with rfl | rfl | rfl | rfl
                · exact wIs_mem w1
                · exact wIs_mem w2
                · exact wIs_mem w3
                · exact wIs_mem w4
              · exact wsM_in w0 w h
            have cw := cwV (R := R) (args := args) (b - 1) C.2.2.2.2.1 hG (bytes := mC a) (maxL := mX a) (ret := mT a) (rm := rmM d a) rfl rfl rfl ⟨rfl, o2.1, o2.2, by rw [show (parseMethodDescriptor (mY a).desc).map (fun d => d.parameters.length) = nPar a from rfl, q5, if_neg (by decide)]⟩ hroom
            have hrecv : ∃ cell : Cell, H[t]? = some cell ∧ cell.vm.isStatics = false ∧ s.vm.findClass (mY a).cls = some cell.cls := by
              obtain ⟨cell, r1, r2, r3, -⟩ := k2.kept h3.2.1
              exact ⟨cell, r1, r2, by rw [w5]; exact r3⟩
            exact call_go (va_runV (C := (mY a).cls) (b := t) (As := ((st.take (b - 1)).reverse).map (cv b0 sv)) (rest := (st.drop b).map (cv b0 sv)) (nL := mX M) (g := F0 m (pcO M k) ls (st.map (cv b0 sv))) ⟨C.1, C.2.1, C.2.2.1, C.2.2.2.1, C.2.2.2.2.1⟩ hM cw ⟨PcM_blind, hrecv, hPre⟩ rfl hlb1 hsz hstk (lv_room (pc := pcO M k) (ls := ls) (m := m) (rest := []) (by omega)) hdec hfit) h3 hgo
        · cases hs
      · cases hs
    · cases hk
  · cases hk
theorem so_74 {b0 : Nat} {sv : Nat → Value} {cy : Nat → ClassId} {D : va_G} {sc : List Int} {M : Nat} {p : Program} {l : Launch} {e : Env} {R : Room} {s : State} {m : MethodId} {args : Array Value} {below : List Frame} {meth : Method} {c : Code} {Q : State → Prop} {k a b : Nat} {v : AV} {l0 : List (Int × Nat)} {i : Instr} {len : Nat} {L : LV} {st : List AV} {hp : HP} {B : BU} {c' : CF} {d : Nat} {cd0 : CT} {y : Nat} {as : List AV} {K : PO} (hR : d + 2 ≤ R.frames ∧ 60 * (d + 2) ≤ R.locals) (C : CX b0 sv cy D sc M p s m args meth c) (HC : CallOK b0 sv cy D l d cd0) (hdec : decode (mC M) (pcO M k) = .ok (i, len)) (hk : ck_calli M k a b v l0 i len = true) (hs : f_calli sc (k + 1) a b v l0 L st hp B = some (.inr (.inl (y, as, c')))) (hc : cd0 y as hp (fun v h => K v h)) (G : ∀ (v : Option AV) (h : HP), K v h → GP b0 sv cy D M p l e R s m args below meth c Q (pcO M c'.1) c'.2.1 (v.toList ++ c'.2.2.1) h c'.2.2.2.2) : GP b0 sv cy D M p l e R s m args below meth c Q (pcO M k) L st hp B := by
  unfold ck_calli at hk
  split at hk
  · next j =>
    unfold ck_ml at hk
    simp only [Bool.and_eq_true, decide_eq_true_eq] at hk
    obtain ⟨⟨hk, hf⟩, hl0⟩ := hk
    obtain ⟨rfl, hn⟩ := fall_of hf
    split at hk
    · next q hq =>
      simp only [Bool.and_eq_true, decide_eq_true_eq] at hk
      obtain ⟨⟨⟨⟨⟨q1, q2⟩, q3⟩, q4⟩, q5⟩, q6⟩ := hk
      have hw := MLW_all q (List.mem_of_getElem? hq)
      unfold mlOk at hw
      simp only [Bool.and_eq_true] at hw
      obtain ⟨w0, hw⟩ := hw
      have w0 := of_decide_eq_true w0
      rw [q3] at w0
      simp only [List.mem_cons, List.not_mem_nil, or_false] at q4
      unfold f_calli at hs
      split at hs
      · next x hx =>
        rcases q4 with q4 | q4
        · rw [q4] at hw q5 q6
          have hb1 : 1 ≤ b := by omega
          simp only [Bool.and_eq_true, decide_eq_true_eq] at hw
          obtain ⟨⟨⟨⟨w1, w2⟩, w3⟩, w4⟩, w5⟩ := hw
          rw [q1, q2, q3] at w1
          rw [q3] at w2 w3 w4 w5
          obtain ⟨rfl, rfl, rfl, c1, c2, c3, c4⟩ := f_call_of hl0 hs
          dsimp only at G
          rw [hn] at G
          intro hL ls H locs cells slots h1 h2 h3 h4 h5
          · have hPre : ∀ U : State, U.heap = H → s.WarmedH U.vm → PcM b0 sv cy D ((st.take b).reverse) hp (((st.take b).reverse).map (cv b0 sv)).toArray U := by
              intro U hU hW
              refine ⟨rfl, by rw [hU]; exact h2, va_K.moved hW.alike C.2.2.2.2.2.2.1, SK_later ⟨hW, fun q hq hn => by rw [hU]; exact h3.2.1 q hq hn⟩ C.2.2.2.2.2.2.2.1, ?_⟩
              have hfc := hW.alike
              exact ⟨by rw [hfc.findClass]; exact C.2.2.2.2.2.2.2.2.2.2.2.1, by rw [hfc.findClass]; exact C.2.2.2.2.2.2.2.2.2.2.2.2.1, AG.moved hfc C.2.2.2.2.2.2.2.2.2.2.2.2.2⟩
            have hcs := cat_sumW (b0 := b0) C.2.2.2.2.2.2.2.2.2.1 (st.drop b)
            have hsplit : st.map (cv b0 sv) = (st.take b).map (cv b0 sv) ++ (st.drop b).map (cv b0 sv) := by rw [← List.map_append, List.take_append_drop]
            obtain ⟨o1, o2, o3, o4⟩ := mOk_of w0
            have hM := HC a _ hp _ w0 hc
            have hlb : (st.take b).length = b := by rw [List.length_take]; omega
            have hroom : (rmM d a).frames + 1 ≤ R.frames ∧ 8 + (mX a + 11) + (rmM d a).locals ≤ R.locals := ⟨by show d + 1 + 1 ≤ _; omega, by show 8 + (mX a + 11) + 60 * (d + 1) ≤ _; omega⟩
            have hfit : cells + (bu a).1 ≤ R.cells ∧ slots + (bu a).2 ≤ R.slots := ⟨by omega, by omega⟩
            have hsz : ls.size = mX M := by rw [h1.1, hL]
            have hgo : ∀ (v : Option AV) (h : HP) (H1 : Heap) (locs1 : List Loc), K v h → RH b0 sv cy D h H1 → va_S (aNew b0) s.heap H1 locs1 → W p l e R s m args below meth c H1 locs1 (cells + (bu a).1) (slots + (bu a).2) Q (F0 m (pcO M k + 3) ls ((v.map (cv b0 sv)).toList ++ (st.drop b).map (cv b0 sv))) := by
              intro v h H1 locs1 hKv hRH hS1
              have hg := G v h hKv hL ls H1 locs1 (cells + (bu a).1) (slots + (bu a).2) h1 hRH hS1 (by dsimp only; omega) (by dsimp only; omega)
              have e9 : (v.toList ++ st.drop b).map (cv b0 sv) = (v.map (cv b0 sv)).toList ++ (st.drop b).map (cv b0 sv) := by cases v <;> rfl
              rw [e9] at hg
              exact hg
            have htk := take_rev hx hb1
            rw [htk] at hM hPre
            rw [List.map_cons] at hPre
            have hstk : st.map (cv b0 sv) = (((st.take (b - 1)).reverse).map (cv b0 sv)).reverse ++ .ref (b0 + x) :: (st.drop b).map (cv b0 sv) := by
              have h9 : st.take b = (st.take (b - 1)) ++ [mR x] := by
                have := congrArg List.reverse htk
                simpa using this
              rw [hsplit, h9, List.map_reverse, List.reverse_reverse]
              simp [cv]
            have hlb1 : ((st.take (b - 1)).reverse.map (cv b0 sv)).length = b - 1 := by
              rw [List.length_map, List.length_reverse, List.length_take]
              omega
            have hMn : wsM a = .code (mY a) (mC a) (mX a) none :: BIG := by unfold wsM; rw [w5]
            have cw := cwI (R := R) (args := args) (own := mO M) (index := j) (b - 1) C.2.2.2.2.1 (goodIn_BIG (wsM_in w0)) (bytes := mC a) (maxL := mX a) (rm := rmM d a) hMn rfl rfl (C.2.2.2.2.1 _ (wIs_mem w3)) (C.2.2.2.2.1 _ (wIs_mem w1)) (C.2.2.2.2.1 _ (wIs_mem w2)) w4 ⟨o2.1, o2.2, by rw [show (parseMethodDescriptor (mY a).desc).map (fun d => d.parameters.length) = nPar a from rfl, q5, if_neg (by decide)]⟩ hroom
            exact call_go (va_runI (b := b0 + x) (As := ((st.take (b - 1)).reverse).map (cv b0 sv)) (rest := (st.drop b).map (cv b0 sv)) (nL := mX M) (g := F0 m (pcO M k) ls (st.map (cv b0 sv))) ⟨C.1, C.2.1, C.2.2.1, C.2.2.2.1, C.2.2.2.2.1⟩ hM cw ⟨PcM_blind, hPre⟩ rfl hlb1 hsz hstk (lv_room (pc := pcO M k) (ls := ls) (m := m) (rest := []) (by omega)) hdec hfit) h3 hgo
        · rw [q4] at hw q5 q6
          have hb1 : 1 ≤ b := by omega
          simp only [Bool.and_eq_true, decide_eq_true_eq] at hw
          obtain ⟨⟨⟨⟨w1, w2⟩, w3⟩, w4⟩, w5⟩ := hw
          rw [q1, q2, q3] at w1
          rw [q3] at w2 w3 w4 w5
          obtain ⟨rfl, rfl, rfl, c1, c2, c3, c4⟩ := f_call_of hl0 hs
          dsimp only at G
          rw [hn] at G
          intro hL ls H locs cells slots h1 h2 h3 h4 h5
          · have hPre : ∀ U : State, U.heap = H → s.WarmedH U.vm → PcM b0 sv cy D ((st.take b).reverse) hp (((st.take b).reverse).map (cv b0 sv)).toArray U := by
              intro U hU hW
              refine ⟨rfl, by rw [hU]; exact h2, va_K.moved hW.alike C.2.2.2.2.2.2.1, SK_later ⟨hW, fun q hq hn => by rw [hU]; exact h3.2.1 q hq hn⟩ C.2.2.2.2.2.2.2.1, ?_⟩
              have hfc := hW.alike
              exact ⟨by rw [hfc.findClass]; exact C.2.2.2.2.2.2.2.2.2.2.2.1, by rw [hfc.findClass]; exact C.2.2.2.2.2.2.2.2.2.2.2.2.1, AG.moved hfc C.2.2.2.2.2.2.2.2.2.2.2.2.2⟩
            have hcs := cat_sumW (b0 := b0) C.2.2.2.2.2.2.2.2.2.1 (st.drop b)
            have hsplit : st.map (cv b0 sv) = (st.take b).map (cv b0 sv) ++ (st.drop b).map (cv b0 sv) := by rw [← List.map_append, List.take_append_drop]
            obtain ⟨o1, o2, o3, o4⟩ := mOk_of w0
            have hM := HC a _ hp _ w0 hc
            have hlb : (st.take b).length = b := by rw [List.length_take]; omega
            have hroom : (rmM d a).frames + 1 ≤ R.frames ∧ 8 + (mX a + 11) + (rmM d a).locals ≤ R.locals := ⟨by show d + 1 + 1 ≤ _; omega, by show 8 + (mX a + 11) + 60 * (d + 1) ≤ _; omega⟩
            have hfit : cells + (bu a).1 ≤ R.cells ∧ slots + (bu a).2 ≤ R.slots := ⟨by omega, by omega⟩
            have hsz : ls.size = mX M := by rw [h1.1, hL]
            have hgo : ∀ (v : Option AV) (h : HP) (H1 : Heap) (locs1 : List Loc), K v h → RH b0 sv cy D h H1 → va_S (aNew b0) s.heap H1 locs1 → W p l e R s m args below meth c H1 locs1 (cells + (bu a).1) (slots + (bu a).2) Q (F0 m (pcO M k + 3) ls ((v.map (cv b0 sv)).toList ++ (st.drop b).map (cv b0 sv))) := by
              intro v h H1 locs1 hKv hRH hS1
              have hg := G v h hKv hL ls H1 locs1 (cells + (bu a).1) (slots + (bu a).2) h1 hRH hS1 (by dsimp only; omega) (by dsimp only; omega)
              have e9 : (v.toList ++ st.drop b).map (cv b0 sv) = (v.map (cv b0 sv)).toList ++ (st.drop b).map (cv b0 sv) := by cases v <;> rfl
              rw [e9] at hg
              exact hg
            have htk := take_rev hx hb1
            rw [htk] at hM hPre
            rw [List.map_cons] at hPre
            have hstk : st.map (cv b0 sv) = (((st.take (b - 1)).reverse).map (cv b0 sv)).reverse ++ .ref (b0 + x) :: (st.drop b).map (cv b0 sv) := by
              have h9 : st.take b = (st.take (b - 1)) ++ [mR x] := by
                have := congrArg List.reverse htk
                simpa using this
              rw [hsplit, h9, List.map_reverse, List.reverse_reverse]
              simp [cv]
            have hlb1 : ((st.take (b - 1)).reverse.map (cv b0 sv)).length = b - 1 := by
              rw [List.length_map, List.length_reverse, List.length_take]
              omega
            have hMn : wsM a = .code (mY a) (mC a) (mX a) none :: BIG := by unfold wsM; rw [w5]
            have hnw := C.2.2.2.2.2.2.2.1.1 _ (List.mem_of_getElem? w1)
            have cw := va_cnB (R := R) (args := args) (own := mO M) (index := j) (b - 1) C.2.2.2.2.1 (goodIn_BIG (wsM_in w0)) (bytes := mC a) (maxL := mX a) (ret := none) (rm := rmM d a) hMn rfl rfl hnw (C.2.2.2.2.1 _ (wIs_mem w3)) ⟨o2.1, o2.2, by rw [show (parseMethodDescriptor (mY a).desc).map (fun d => d.parameters.length) = nPar a from rfl, q5, if_neg (by decide)]⟩ hroom
            have cw := And.intro cw (And.intro w4 (C.2.2.2.2.1 _ (wIs_mem w2)))
            exact call_go (va_runIN (b := b0 + x) (As := ((st.take (b - 1)).reverse).map (cv b0 sv)) (rest := (st.drop b).map (cv b0 sv)) (nL := mX M) (g := F0 m (pcO M k) ls (st.map (cv b0 sv))) ⟨C.1, C.2.1, C.2.2.1, C.2.2.2.1, C.2.2.2.2.1⟩ hM cw ⟨PcM_blind, hPre⟩ rfl hlb1 hsz hstk (lv_room (pc := pcO M k) (ls := ls) (m := m) (rest := []) (by omega)) hdec hfit) h3 hgo
      · cases hs
    · cases hk
  · cases hk
