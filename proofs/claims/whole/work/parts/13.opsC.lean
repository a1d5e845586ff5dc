theorem fk_ok {a : Nat} (h : a < 12) : (fKs.getD a []).length = (clT a).2.2 ∧ ∀ (b0 : Nat) (sv : Nat → Value) (j : Nat), j < (clT a).2.2 → defaultValue (tyC a j) = vp_V (((fKs.getD a []).map born1).map (cv b0 sv)) j := by
  have key : ((List.range 12).all fun a => decide ((fKs.getD a []).length = (clT a).2.2) && (List.range (clT a).2.2).all fun j => (decide (kdN (tyC a j) = (fKs.getD a []).getD j 9) && decide (kdN (tyC a j) < 4))) = true := by decide +kernel
  have h1 := List.all_eq_true.mp key a (List.mem_range.mpr h)
  simp only [Bool.and_eq_true, decide_eq_true_eq] at h1
  refine ⟨h1.1, fun b0 sv j hj => ?_⟩
  have h2' := List.all_eq_true.mp h1.2 j (List.mem_range.mpr hj)
  simp only [Bool.and_eq_true, decide_eq_true_eq] at h2'
  obtain ⟨h2, h9⟩ := h2'
  have hlt : j < (fKs.getD a []).length := by rw [h1.1]; exact hj
  unfold vp_V
  rw [List.getD_eq_getElem?_getD, List.getElem?_map, List.getElem?_map]
  rw [List.getD_eq_getElem?_getD] at h2
  cases e : (fKs.getD a [])[j]? with
  | none => exact absurd hlt (by have := List.getElem?_eq_none_iff.mp e; omega)
  | some kd =>
    rw [e] at h2
    have h2 : kdN (tyC a j) = kd := h2
    show defaultValue (tyC a j) = cv b0 sv (born1 kd)
    subst h2
    generalize tyC a j = ty at h9
    cases ty <;> first | rfl | (exact absurd h9 (by decide))

theorem so_54 {b0 : Nat} {sv : Nat → Value} {cy : Nat → ClassId} {D : va_G} {sc : List Int} {M : Nat} {p : Program} {l : Launch} {e : Env} {R : Room} {s : State} {m : MethodId} {args : Array Value} {below : List Frame} {meth : Method} {c : Code} {Q : State → Prop} {k a b : Nat} {v : AV} {l0 : List (Int × Nat)} {i : Instr} {len : Nat} {L : LV} {st : List AV} {hp : HP} {B : BU} {c' : CF} (C : CX b0 sv cy D sc M p s m args meth c) (hdec : decode (mC M) (pcO M k) = .ok (i, len)) (hk : ck_new M k a b v l0 i len = true) (hs : f_new sc (k + 1) a b v l0 L st hp B = some (.inl c')) (G : GP b0 sv cy D M p l e R s m args below meth c Q (pcO M c'.1) c'.2.1 c'.2.2.1 c'.2.2.2.1 c'.2.2.2.2) : GP b0 sv cy D M p l e R s m args below meth c Q (pcO M k) L st hp B := by
  unfold ck_new at hk
  split at hk
  · next j =>
    simp only [Bool.and_eq_true] at hk
    obtain ⟨hk, hf⟩ := hk
    obtain ⟨rfl, hn⟩ := fall_of hf
    split at hk
    · next q hq =>
      simp only [Bool.and_eq_true, decide_eq_true_eq] at hk
      obtain ⟨⟨q1, q2⟩, q3⟩ := hk
      have hw := List.all_eq_true.mp NEW_ok q (List.mem_of_getElem? hq)
      unfold neOk at hw
      simp only [Bool.and_eq_true, decide_eq_true_eq] at hw
      obtain ⟨⟨⟨w1, w2⟩, w3⟩, w4⟩ := hw
      rw [q3] at w1 w2 w3 w4
      rw [q1, q2] at w2
      unfold f_new at hs
      split at hs
      · next hc =>
        simp only [Bool.and_eq_true, decide_eq_true_eq] at hc
        obtain ⟨⟨c1, c2⟩, c3⟩ := hc
        cases hs
        dsimp only at G
        rw [hn] at G
        intro hL ls H locs cells slots h1 h2 h3 h4 h5
        have hKn := C.2.2.2.2.2.2.1.1 a _ (clT_get w1)
        have hN := (fk_ok w1).1
        rw [hN] at c3 G
        refine W.newcK C.1 C.2.1 C.2.2.2.1 (C.2.2.2.2.1 _ (wIs_mem w2)) (C.2.2.2.2.1 _ (wIs_mem w3)) (C.2.2.2.2.1 _ (wIs_mem w4)) (g := F0 m (pcO M k) ls (st.map (cv b0 sv))) rfl hdec (by omega) (by omega) hKn.2.1 h2.1 fun H1 kC hkC e1 z1 o1 => ?_
        refine G hL ls H1 locs (cells + 1) (slots + (clT a).2.2) h1 (RH_push h2 ?_ (by rw [z1, h2.1]) (by rw [h2.1]; exact o1)) (va_Spush h3 (by rw [z1, h2.1]; omega) (by rw [h2.1]; exact o1)) (by dsimp only; omega) (by dsimp only; omega)
        refine ⟨_, clT_get w1, (u_born (tyC a) C.2.2.2.2.1 (ly_in w1) hKn hkC e1 (cl_ty w1)).to (fun j hj => ?_)⟩
        exact (fk_ok w1).2 b0 sv j hj
      · cases hs
    · cases hk
  · cases hk
theorem so_52 {b0 : Nat} {sv : Nat → Value} {cy : Nat → ClassId} {D : va_G} {sc : List Int} {M : Nat} {p : Program} {l : Launch} {e : Env} {R : Room} {s : State} {m : MethodId} {args : Array Value} {below : List Frame} {meth : Method} {c : Code} {Q : State → Prop} {k a b : Nat} {v : AV} {l0 : List (Int × Nat)} {i : Instr} {len : Nat} {L : LV} {st : List AV} {hp : HP} {B : BU} {c' : CF} (C : CX b0 sv cy D sc M p s m args meth c) (hdec : decode (mC M) (pcO M k) = .ok (i, len)) (hk : ck_newq M k a b v l0 i len = true) (hs : f_newq sc (k + 1) a b v l0 L st hp B = some (.inl c')) (G : GP b0 sv cy D M p l e R s m args below meth c Q (pcO M c'.1) c'.2.1 c'.2.2.1 c'.2.2.2.1 c'.2.2.2.2) : GP b0 sv cy D M p l e R s m args below meth c Q (pcO M k) L st hp B := by
  unfold ck_newq at hk
  split at hk
  · next j =>
    simp only [Bool.and_eq_true, decide_eq_true_eq] at hk
    obtain ⟨⟨hk, hf⟩, rfl⟩ := hk
    obtain ⟨rfl, hn⟩ := fall_of hf
    split at hk
    · next q hq =>
      simp only [Bool.and_eq_true, decide_eq_true_eq] at hk
      obtain ⟨⟨q1, q2⟩, q3⟩ := hk
      have hw := List.all_eq_true.mp ARW_ok q (List.mem_of_getElem? hq)
      rw [q1, q2, q3, if_pos rfl] at hw
      unfold f_newq at hs
      split at hs
      · next n st2 =>
        split at hs
        · next hc =>
          simp only [Bool.and_eq_true, decide_eq_true_eq] at hc
          obtain ⟨⟨⟨c1, c2⟩, c3⟩, c4⟩ := hc
          cases hs
          dsimp only at G
          rw [hn] at G
          intro hL ls H locs cells slots h1 h2 h3 h4 h5
          have hcl := J_clamp n
          refine W.anew C.1 C.2.1 C.2.2.2.1 (C.2.2.2.2.1 _ (wIs_mem hw)) (va_AO.use C.2.2.2.2.2.2.2.1.2.1) (g := F0 m (pcO M k) ls (.int (Int32.ofInt n) :: st2.map (cv b0 sv))) rfl hdec rfl (by rw [J_0, J_lt, w32_0]; omega) (by rw [hcl]; omega) (by omega) (by rw [hcl]; omega) fun cA kA comp f1 f2 f3 f4 => ?_
          have hcA : cA = cy 3 := Option.some.inj (f1.symm.trans C.2.2.2.2.2.2.2.2.2.2.2.2.1)
          subst hcA
          rw [hcl]
          generalize hH1 : H.push ({ cls := cy 3, slots := Array.replicate (w32 n).toNat .null, vm := .none } : Cell) = H1
          have z1 : H1.size = H.size + 1 := by rw [← hH1, Array.size_push]
          have e1 : H1[H.size]? = some (arrV (cy 3) (w32 n).toNat (fun _ => .null)) := by rw [← hH1, Array.getElem?_push_size, ← arrV_new]
          have o1 : ∀ q, q < H.size → H1[q]? = H[q]? := fun q hq => by rw [← hH1, Array.getElem?_push, if_neg (Nat.ne_of_lt hq)]
          have hg := G hL ls H1 locs (cells + 1) (slots + (w32 n).toNat) h1 (RH_push h2 (c := .inr (.inr (.inr (0, List.replicate (w32 n).toNat none)))) (by
            show H1[b0 + hp.length]? = some (vp_cell _ _)
            rw [← h2.1, e1]
            dsimp only
            rw [vp_cell_q, List.length_replicate]
            congr 2
            funext q
            simp only [List.getD_eq_getElem?_getD, List.getElem?_replicate]
            split <;> rfl) z1 o1) (va_Spush h3 (by omega) o1) (by dsimp only; omega) (by dsimp only; omega)
          rw [h2.1]
          exact hg
        · cases hs
      · cases hs
    · cases hk
  · cases hk
theorem AC1 : Jvm.Cond.native arraycopyName ∈ BIG ∧ Jvm.Cond.static arraycopyName ∈ BIG ∧ Jvm.Cond.initialized "java/lang/System" ∈ BIG := by
  have h := AC1_ok
  simp only [Bool.and_eq_true] at h
  exact ⟨wIs_mem h.1.1, wIs_mem h.1.2, wIs_mem h.2⟩
theorem arrV_ext {cI : ClassId} {N : Nat} {f g : Nat → Value} (h : ∀ j, j < N → f j = g j) : arrV cI N f = arrV cI N g := by
  have e : (fun j : Fin N => f j.val) = (fun j : Fin N => g j.val) := funext fun j => h j.val j.isLt
  unfold arrV
  rw [e]
theorem J_nn {z : Int} (h : 0 ≤ w32 z) : ¬ Int32.ofInt z < 0 := by rw [J_0, J_lt, w32_0]; omega
theorem cpyL_len {α : Type} (d : α) (f g : List α) (sp dp n : Nat) : (cpyL d f g sp dp n).length = g.length := by unfold cpyL; rw [List.length_map, List.length_range]
theorem cpyL_get {α : Type} (d : α) (f g : List α) (sp dp n j : Nat) (hj : j < g.length) : (cpyL d f g sp dp n).getD j d = if dp ≤ j ∧ j < dp + n then f.getD (sp + (j - dp)) d else g.getD j d := by
  unfold cpyL
  rw [List.getD_eq_getElem?_getD, List.getElem?_map, List.getElem?_range hj]
  rfl
theorem nfw : nativeFrameWords "java/lang/System" "arraycopy" 5 + 11 ≤ 40 := by decide +kernel
theorem so_59 {b0 : Nat} {sv : Nat → Value} {cy : Nat → ClassId} {D : va_G} {sc : List Int} {M : Nat} {p : Program} {l : Launch} {e : Env} {R : Room} {s : State} {m : MethodId} {args : Array Value} {below : List Frame} {meth : Method} {c : Code} {Q : State → Prop} {k a b : Nat} {v : AV} {l0 : List (Int × Nat)} {i : Instr} {len : Nat} {L : LV} {st : List AV} {hp : HP} {B : BU} {c' : CF} (hR : 1 ≤ R.frames ∧ 60 ≤ R.locals) (C : CX b0 sv cy D sc M p s m args meth c) (hdec : decode (mC M) (pcO M k) = .ok (i, len)) (hk : ck_copy M k a b v l0 i len = true) (hs : f_copyi sc (k + 1) a b v l0 L st hp B = some (.inl c')) (G : GP b0 sv cy D M p l e R s m args below meth c Q (pcO M c'.1) c'.2.1 c'.2.2.1 c'.2.2.2.1 c'.2.2.2.2) : GP b0 sv cy D M p l e R s m args below meth c Q (pcO M k) L st hp B := by
  unfold ck_copy at hk
  split at hk
  · next j =>
    simp only [Bool.and_eq_true] at hk
    obtain ⟨hk, hf⟩ := hk
    obtain ⟨rfl, hn⟩ := fall_of hf
    split at hk
    · next q hq =>
      simp only [Bool.and_eq_true, decide_eq_true_eq] at hk
      obtain ⟨q1, q2⟩ := hk
      have hw := List.all_eq_true.mp ACW_ok q (List.mem_of_getElem? hq)
      rw [q1, q2] at hw
      unfold f_copyi at hs
      split at hs
      · next n dp y sp x st2 =>
        split at hs
        · next f g hf2 hg2 =>
          split at hs
          · next hc =>
            simp only [Bool.and_eq_true, decide_eq_true_eq, inbC] at hc
            obtain ⟨⟨⟨⟨⟨c1, c2⟩, c3⟩, c4⟩, c5⟩, c6⟩ := hc
            cases hs
            dsimp only at G
            rw [hn] at G
            intro hL ls H locs cells slots h1 h2 h3 h4 h5
            have hcs := cat_sum (b0 := b0) C.2.2.2.2.2.2.2.2.2.1 st2
            have hnf := nfw
            have hcx : H[b0 + x]? = some (vp_cell (cy 0) (f.length, .inl (fun j => Int32.ofInt (f.getD j 0)))) := h2.2 x _ (wl_at (gA_spec hf2))
            have hcy : H[b0 + y]? = some (vp_cell (cy 0) (g.length, .inl (fun j => Int32.ofInt (g.getD j 0)))) := h2.2 y _ (wl_at (gA_spec hg2))
            have hK := C.2.2.2.2.2.2.1
            obtain ⟨-, k0, hk0, cm0, hkk0⟩ := (hK.2 0 _ rfl).1 f.length (fun j => .int (Int32.ofInt (f.getD j 0)))
            have e1 := va_copied (fun z : Int32 => Value.int z) (cy 0) (cy 0) (fun j => Int32.ofInt (f.getD j 0)) (fun j => Int32.ofInt (g.getD j 0)) (n0 := f.length) (n1 := g.length) (sp := (w32 sp).toNat) (dp := (w32 dp).toNat) (n := (w32 n).toNat) (by omega)
            rw [pA_is hg2] at G
            intro T hT X
            obtain ⟨vm', X', step⟩ := X.arraycopy C.1 C.2.2.2.1 (C.2.2.2.2.1 _ (wIs_mem hw)) (C.2.2.2.2.1 _ AC1.1) (C.2.2.2.2.1 _ AC1.2.1) (C.2.2.2.2.1 _ AC1.2.2) (src := b0 + x) (dst := b0 + y) (cs := vp_cell (cy 0) (f.length, .inl (fun j => Int32.ofInt (f.getD j 0)))) (cd := vp_cell (cy 0) (g.length, .inl (fun j => Int32.ofInt (g.getD j 0)))) (srcPos := Int32.ofInt sp) (destPos := Int32.ofInt dp) (n := Int32.ofInt n) (by rw [hT]; exact hcx) (by rw [hT]; exact hcy)
              (fun _ h => by cases h) (fun _ h => by cases h) (fun h => by cases h) (fun h => by cases h) hk0 hk0 hkk0 hkk0 (by simp [refKind]) (J_nn c1) (J_nn c2) (J_nn c3)
              (by rw [J_toInt, J_toInt]; show ¬ _ > ((arrV _ _ _).slots.size : Int); rw [arrV_size]; omega)
              (by rw [J_toInt, J_toInt]; show ¬ _ > ((arrV _ _ _).slots.size : Int); rw [arrV_size]; omega)
              (fun vm₁ _ i hi => by
                rw [J_clamp] at hi ⊢
                have e : (vp_cell (cy 0) (f.length, .inl (fun j => Int32.ofInt (f.getD j 0)))).slots.getD ((w32 sp).toNat + i) .null = ((fun z : Int32 => Value.int z) (Int32.ofInt (f.getD ((w32 sp).toNat + i) 0))) := by
                  show (arrV _ _ _).slots.getD _ _ = _
                  rw [Array.getD_eq_getD_getElem?, arrV_read _ _ (by omega)]
                  rfl
                refine ⟨?_, ?_⟩
                · rw [e]
                  rfl
                · rw [e]
                  exact trivial)
              (g := F0 m (pcO M k) ls (.int (Int32.ofInt n) :: .int (Int32.ofInt dp) :: .ref (b0 + y) :: .int (Int32.ofInt sp) :: .ref (b0 + x) :: st2.map (cv b0 sv))) rfl (by show ls.size = _; rw [C.2.2.1, h1.1, hL]) (rest := st2.map (cv b0 sv)) rfl (by rw [C.2.1]; exact hdec) hR.1 (by show 2 * 0 + _ + _ ≤ _; have := hR.2; omega)
            have hl : b0 + y < H.size := (Array.getElem?_eq_some_iff.mp hcy).1
            have e2 : copied (vp_cell (cy 0) (f.length, .inl (fun j => Int32.ofInt (f.getD j 0)))) (vp_cell (cy 0) (g.length, .inl (fun j => Int32.ofInt (g.getD j 0)))) (Int32.ofInt sp) (Int32.ofInt dp) (Int32.ofInt n) = vp_cell (cy 0) ((cpyL 0 f g (w32 sp).toNat (w32 dp).toNat (w32 n).toNat).length, .inl (fun j => Int32.ofInt ((cpyL 0 f g (w32 sp).toNat (w32 dp).toNat (w32 n).toNat).getD j 0))) := by
              unfold copied
              rw [J_clamp, J_clamp, J_clamp]
              refine e1.trans ?_
              rw [vp_cell_i, cpyL_len]
              refine arrV_ext fun jj hjj => ?_
              rw [cpyL_get _ _ _ _ _ _ _ hjj]
              unfold va_cpy
              dsimp only
              split <;> rfl
            rw [e2] at X' step
            generalize hcell : vp_cell (cy 0) ((cpyL 0 f g (w32 sp).toNat (w32 dp).toNat (w32 n).toNat).length, .inl (fun j => Int32.ofInt ((cpyL 0 f g (w32 sp).toNat (w32 dp).toNat (w32 n).toNat).getD j 0))) = cl at X' step
            have hheap : ((T.setVm vm').setCell (b0 + y) cl).heap = H.setIfInBounds (b0 + y) cl := by rw [← hT]; rfl
            have oq : ∀ q : Nat, q ≠ b0 + y → (H.setIfInBounds (b0 + y) cl)[q]? = H[q]? := fun q hq => by simp [Array.getElem?_setIfInBounds, Ne.symm hq]
            have hat : (H.setIfInBounds (b0 + y) cl)[b0 + y]? = some cl := by simp [Array.getElem?_setIfInBounds, hl]
            obtain ⟨t, a1, b1⟩ := G hL ls _ _ cells slots h1 (RH_set h2 (gA_spec hg2) (by show _ = some (vp_cell _ _); rw [hat, ← hcell]) (by simp) oq) ⟨by simp; exact h3.1, fun q g1 g2 => by
                rw [oq q (fun e => g2 (by rw [e]; exact Nat.le_add_right _ _))]
                exact h3.2.1 q g1 g2, fun q hq => by
                rcases List.mem_append.mp hq with h | h
                · exact h3.2.2 q h
                · obtain ⟨z, -, hz⟩ := List.mem_map.mp h
                  rw [← hz]
                  exact Nat.le_add_right _ _⟩ h4 h5 _ hheap X'
            exact ⟨t, step t a1, b1⟩
          · cases hs
        · cases hs
      · cases hs
    · cases hk
  · cases hk
theorem so_60 {b0 : Nat} {sv : Nat → Value} {cy : Nat → ClassId} {D : va_G} {sc : List Int} {M : Nat} {p : Program} {l : Launch} {e : Env} {R : Room} {s : State} {m : MethodId} {args : Array Value} {below : List Frame} {meth : Method} {c : Code} {Q : State → Prop} {k a b : Nat} {v : AV} {l0 : List (Int × Nat)} {i : Instr} {len : Nat} {L : LV} {st : List AV} {hp : HP} {B : BU} {c' : CF} (hR : 1 ≤ R.frames ∧ 60 ≤ R.locals) (C : CX b0 sv cy D sc M p s m args meth c) (hdec : decode (mC M) (pcO M k) = .ok (i, len)) (hk : ck_copy M k a b v l0 i len = true) (hs : f_copyl sc (k + 1) a b v l0 L st hp B = some (.inl c')) (G : GP b0 sv cy D M p l e R s m args below meth c Q (pcO M c'.1) c'.2.1 c'.2.2.1 c'.2.2.2.1 c'.2.2.2.2) : GP b0 sv cy D M p l e R s m args below meth c Q (pcO M k) L st hp B := by
  unfold ck_copy at hk
  split at hk
  · next j =>
    simp only [Bool.and_eq_true] at hk
    obtain ⟨hk, hf⟩ := hk
    obtain ⟨rfl, hn⟩ := fall_of hf
    split at hk
    · next q hq =>
      simp only [Bool.and_eq_true, decide_eq_true_eq] at hk
      obtain ⟨q1, q2⟩ := hk
      have hw := List.all_eq_true.mp ACW_ok q (List.mem_of_getElem? hq)
      rw [q1, q2] at hw
      unfold f_copyl at hs
      split at hs
      · next n dp y sp x st2 =>
        split at hs
        · next f g hf2 hg2 =>
          split at hs
          · next hc =>
            simp only [Bool.and_eq_true, decide_eq_true_eq, inbC] at hc
            obtain ⟨⟨⟨⟨⟨c1, c2⟩, c3⟩, c4⟩, c5⟩, c6⟩ := hc
            cases hs
            dsimp only at G
            rw [hn] at G
            intro hL ls H locs cells slots h1 h2 h3 h4 h5
            have hcs := cat_sum (b0 := b0) C.2.2.2.2.2.2.2.2.2.1 st2
            have hnf := nfw
            have hcx : H[b0 + x]? = some (vp_cell (cy 2) (f.length, .inr (.inl (fun j => Int64.ofBitVec (f.getD j 0#64))))) := h2.2 x _ (wl_at (gJ_spec hf2))
            have hcy : H[b0 + y]? = some (vp_cell (cy 2) (g.length, .inr (.inl (fun j => Int64.ofBitVec (g.getD j 0#64))))) := h2.2 y _ (wl_at (gJ_spec hg2))
            have hK := C.2.2.2.2.2.2.1
            obtain ⟨-, k0, hk0, cm0, hkk0⟩ := (hK.2 2 _ rfl).1 f.length (fun j => .long (Int64.ofBitVec (f.getD j 0#64)))
            have e1 := va_copied (fun z : Int64 => Value.long z) (cy 2) (cy 2) (fun j => Int64.ofBitVec (f.getD j 0#64)) (fun j => Int64.ofBitVec (g.getD j 0#64)) (n0 := f.length) (n1 := g.length) (sp := (w32 sp).toNat) (dp := (w32 dp).toNat) (n := (w32 n).toNat) (by omega)
            rw [pJ_is hg2] at G
            intro T hT X
            obtain ⟨vm', X', step⟩ := X.arraycopy C.1 C.2.2.2.1 (C.2.2.2.2.1 _ (wIs_mem hw)) (C.2.2.2.2.1 _ AC1.1) (C.2.2.2.2.1 _ AC1.2.1) (C.2.2.2.2.1 _ AC1.2.2) (src := b0 + x) (dst := b0 + y) (cs := vp_cell (cy 2) (f.length, .inr (.inl (fun j => Int64.ofBitVec (f.getD j 0#64))))) (cd := vp_cell (cy 2) (g.length, .inr (.inl (fun j => Int64.ofBitVec (g.getD j 0#64))))) (srcPos := Int32.ofInt sp) (destPos := Int32.ofInt dp) (n := Int32.ofInt n) (by rw [hT]; exact hcx) (by rw [hT]; exact hcy)
              (fun _ h => by cases h) (fun _ h => by cases h) (fun h => by cases h) (fun h => by cases h) hk0 hk0 hkk0 hkk0 (by simp [refKind]) (J_nn c1) (J_nn c2) (J_nn c3)
              (by rw [J_toInt, J_toInt]; show ¬ _ > ((arrV _ _ _).slots.size : Int); rw [arrV_size]; omega)
              (by rw [J_toInt, J_toInt]; show ¬ _ > ((arrV _ _ _).slots.size : Int); rw [arrV_size]; omega)
              (fun vm₁ _ i hi => by
                rw [J_clamp] at hi ⊢
                have e : (vp_cell (cy 2) (f.length, .inr (.inl (fun j => Int64.ofBitVec (f.getD j 0#64))))).slots.getD ((w32 sp).toNat + i) .null = ((fun z : Int64 => Value.long z) (Int64.ofBitVec (f.getD ((w32 sp).toNat + i) 0#64))) := by
                  show (arrV _ _ _).slots.getD _ _ = _
                  rw [Array.getD_eq_getD_getElem?, arrV_read _ _ (by omega)]
                  rfl
                refine ⟨?_, ?_⟩
                · rw [e]
                  rfl
                · rw [e]
                  exact trivial)
              (g := F0 m (pcO M k) ls (.int (Int32.ofInt n) :: .int (Int32.ofInt dp) :: .ref (b0 + y) :: .int (Int32.ofInt sp) :: .ref (b0 + x) :: st2.map (cv b0 sv))) rfl (by show ls.size = _; rw [C.2.2.1, h1.1, hL]) (rest := st2.map (cv b0 sv)) rfl (by rw [C.2.1]; exact hdec) hR.1 (by show 2 * 0 + _ + _ ≤ _; have := hR.2; omega)
            have hl : b0 + y < H.size := (Array.getElem?_eq_some_iff.mp hcy).1
            have e2 : copied (vp_cell (cy 2) (f.length, .inr (.inl (fun j => Int64.ofBitVec (f.getD j 0#64))))) (vp_cell (cy 2) (g.length, .inr (.inl (fun j => Int64.ofBitVec (g.getD j 0#64))))) (Int32.ofInt sp) (Int32.ofInt dp) (Int32.ofInt n) = vp_cell (cy 2) ((cpyL 0#64 f g (w32 sp).toNat (w32 dp).toNat (w32 n).toNat).length, .inr (.inl (fun j => Int64.ofBitVec ((cpyL 0#64 f g (w32 sp).toNat (w32 dp).toNat (w32 n).toNat).getD j 0#64)))) := by
              unfold copied
              rw [J_clamp, J_clamp, J_clamp]
              refine e1.trans ?_
              rw [vp_cell_l, cpyL_len]
              refine arrV_ext fun jj hjj => ?_
              rw [cpyL_get _ _ _ _ _ _ _ hjj]
              unfold va_cpy
              dsimp only
              split <;> rfl
            rw [e2] at X' step
            generalize hcell : vp_cell (cy 2) ((cpyL 0#64 f g (w32 sp).toNat (w32 dp).toNat (w32 n).toNat).length, .inr (.inl (fun j => Int64.ofBitVec ((cpyL 0#64 f g (w32 sp).toNat (w32 dp).toNat (w32 n).toNat).getD j 0#64)))) = cl at X' step
            have hheap : ((T.setVm vm').setCell (b0 + y) cl).heap = H.setIfInBounds (b0 + y) cl := by rw [← hT]; rfl
            have oq : ∀ q : Nat, q ≠ b0 + y → (H.setIfInBounds (b0 + y) cl)[q]? = H[q]? := fun q hq => by simp [Array.getElem?_setIfInBounds, Ne.symm hq]
            have hat : (H.setIfInBounds (b0 + y) cl)[b0 + y]? = some cl := by simp [Array.getElem?_setIfInBounds, hl]
            obtain ⟨t, a1, b1⟩ := G hL ls _ _ cells slots h1 (RH_set h2 (gJ_spec hg2) (by show _ = some (vp_cell _ _); rw [hat, ← hcell]) (by simp) oq) ⟨by simp; exact h3.1, fun q g1 g2 => by
                rw [oq q (fun e => g2 (by rw [e]; exact Nat.le_add_right _ _))]
                exact h3.2.1 q g1 g2, fun q hq => by
                rcases List.mem_append.mp hq with h | h
                · exact h3.2.2 q h
                · obtain ⟨z, -, hz⟩ := List.mem_map.mp h
                  rw [← hz]
                  exact Nat.le_add_right _ _⟩ h4 h5 _ hheap X'
            exact ⟨t, step t a1, b1⟩
          · cases hs
        · cases hs
      · cases hs
    · cases hk
  · cases hk
