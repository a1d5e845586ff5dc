theorem so_41 {b0 : Nat} {sv : Nat → Value} {cy : Nat → ClassId} {D : va_G} {sc : List Int} {M : Nat} {p : Program} {l : Launch} {e : Env} {R : Room} {s : State} {m : MethodId} {args : Array Value} {below : List Frame} {meth : Method} {c : Code} {Q : State → Prop} {k a b : Nat} {v : AV} {l0 : List (Int × Nat)} {i : Instr} {len : Nat} {L : LV} {st : List AV} {hp : HP} {B : BU} {c' : CF} (C : CX b0 sv cy D sc M p s m args meth c) (hdec : decode (mC M) (pcO M k) = .ok (i, len)) (hne : a ≠ 301) (hk : ck_gets M k a b v l0 i len = true) (hs : f_gets sc (k + 1) a b v l0 L st hp B = some (.inl c')) (G : GP b0 sv cy D M p l e R s m args below meth c Q (pcO M c'.1) c'.2.1 c'.2.2.1 c'.2.2.2.1 c'.2.2.2.2) : GP b0 sv cy D M p l e R s m args below meth c Q (pcO M k) L st hp B := by
  unfold ck_gets at hk
  split at hk
  · next j =>
    simp only [Bool.and_eq_true] at hk
    obtain ⟨hk, hf⟩ := hk
    obtain ⟨rfl, hn⟩ := fall_of hf
    split at hk
    · next q hq =>
      simp only [Bool.and_eq_true, decide_eq_true_eq] at hk
      obtain ⟨⟨q1, q2⟩, q3⟩ := hk
      have hw := List.all_eq_true.mp GSW_ok q (List.mem_of_getElem? hq)
      unfold gsOk at hw
      simp only [Bool.and_eq_true, decide_eq_true_eq] at hw
      obtain ⟨w1, w2⟩ := hw
      rw [q3] at w1 w2
      rw [q1, q2] at w2
      unfold f_gets at hs
      cases hs
      dsimp only at G
      rw [hn] at G
      intro hL ls H locs cells slots h1 h2 h3 h4 h5
      have hZ : va_Z (stN a).1 (stN a).2.1 (stN a).2.2 (sv a) (aNew b0) s s.heap := (C.2.2.2.2.2.2.2.1.2.2.1 a (by simp only [List.mem_cons, List.not_mem_nil, or_false] at w1 ⊢; rcases w1 with h | h | h | h | h | h <;> first | exact absurd h hne | (subst h; simp)))
      split at w2
      · exact va_gets C.1 C.2.1 hZ h3 C.2.2.2.1 (C.2.2.2.2.1 _ (wIs_mem w2)) (fun _ h9 => h9) hdec (G hL ls H locs cells slots h1 h2 h3 h4 h5)
      · have hnw := C.2.2.2.2.2.2.2.1.1 _ (List.mem_of_getElem? (of_decide_eq_true w2))
        exact va_getsN C.1 C.2.1 hZ h3 C.2.2.2.1 (va_Nw.use rfl hnw) (fun _ h9 => h9) hdec (G hL ls H locs cells slots h1 h2 h3 h4 h5)
    · cases hk
  · cases hk
theorem so_64 {b0 : Nat} {sv : Nat → Value} {cy : Nat → ClassId} {D : va_G} {sc : List Int} {M : Nat} {p : Program} {l : Launch} {e : Env} {R : Room} {s : State} {m : MethodId} {args : Array Value} {below : List Frame} {meth : Method} {c : Code} {Q : State → Prop} {k a b : Nat} {v : AV} {l0 : List (Int × Nat)} {i : Instr} {len : Nat} {L : LV} {st : List AV} {hp : HP} {B : BU} {c' : CF} (C : CX b0 sv cy D sc M p s m args meth c) (hdec : decode (mC M) (pcO M k) = .ok (i, len)) (hk : ck_gcs M k a b v l0 i len = true) (hs : f_gcs sc (k + 1) a b v l0 L st hp B = some (.inl c')) (G : GP b0 sv cy D M p l e R s m args below meth c Q (pcO M c'.1) c'.2.1 c'.2.2.1 c'.2.2.2.1 c'.2.2.2.2) : GP b0 sv cy D M p l e R s m args below meth c Q (pcO M k) L st hp B := by
  unfold ck_gcs at hk
  split at hk
  · next j =>
    simp only [Bool.and_eq_true] at hk
    obtain ⟨hk, hf⟩ := hk
    obtain ⟨rfl, hn⟩ := fall_of hf
    split at hk
    · next q hq =>
      simp only [Bool.and_eq_true, decide_eq_true_eq] at hk
      obtain ⟨⟨q1, q2⟩, q3⟩ := hk
      have hw := List.all_eq_true.mp GSW_ok q (List.mem_of_getElem? hq)
      unfold gsOk at hw
      simp only [Bool.and_eq_true, decide_eq_true_eq] at hw
      obtain ⟨w1, w2⟩ := hw
      rw [q3] at w1 w2
      rw [q1, q2] at w2
      unfold f_gcs at hs
      cases hs
      dsimp only at G
      rw [hn] at G
      intro hL ls H locs cells slots h1 h2 h3 h4 h5
      have hZ : va_Z (stN 301).1 (stN 301).2.1 (stN 301).2.2 (.int 1) (aNew b0) s s.heap := C.2.2.2.2.2.2.2.1.2.2.2.1
      split at w2
      · exact va_gets C.1 C.2.1 hZ h3 C.2.2.2.1 (C.2.2.2.2.1 _ (wIs_mem w2)) (fun _ h9 => h9) hdec (G hL ls H locs cells slots h1 h2 h3 h4 h5)
      · have hnw := C.2.2.2.2.2.2.2.1.1 _ (List.mem_of_getElem? (of_decide_eq_true w2))
        exact va_getsN C.1 C.2.1 hZ h3 C.2.2.2.1 (va_Nw.use rfl hnw) (fun _ h9 => h9) hdec (G hL ls H locs cells slots h1 h2 h3 h4 h5)
    · cases hk
  · cases hk
theorem so_42 {b0 : Nat} {sv : Nat → Value} {cy : Nat → ClassId} {D : va_G} {sc : List Int} {M : Nat} {p : Program} {l : Launch} {e : Env} {R : Room} {s : State} {m : MethodId} {args : Array Value} {below : List Frame} {meth : Method} {c : Code} {Q : State → Prop} {k a b : Nat} {v : AV} {l0 : List (Int × Nat)} {i : Instr} {len : Nat} {L : LV} {st : List AV} {hp : HP} {B : BU} {c' : CF} (C : CX b0 sv cy D sc M p s m args meth c) (hdec : decode (mC M) (pcO M k) = .ok (i, len)) (hk : ck_ldcs M k a b v l0 i len = true) (hs : f_ldcs sc (k + 1) a b v l0 L st hp B = some (.inl c')) (G : GP b0 sv cy D M p l e R s m args below meth c Q (pcO M c'.1) c'.2.1 c'.2.2.1 c'.2.2.2.1 c'.2.2.2.2) : GP b0 sv cy D M p l e R s m args below meth c Q (pcO M k) L st hp B := by
  unfold ck_ldcs at hk
  split at hk
  · next j =>
    simp only [Bool.and_eq_true] at hk
    obtain ⟨hk, hf⟩ := hk
    obtain ⟨rfl, hn⟩ := fall_of hf
    split at hk
    · next q hq =>
      simp only [Bool.and_eq_true, decide_eq_true_eq] at hk
      obtain ⟨⟨q1, q2⟩, q3⟩ := hk
      have hw := List.all_eq_true.mp SRW_ok q (List.mem_of_getElem? hq)
      simp only [Bool.and_eq_true, decide_eq_true_eq] at hw
      obtain ⟨w1, w2⟩ := hw
      rw [q3] at w1 w2
      rw [q1, q2] at w2
      unfold f_ldcs at hs
      split at hs
      · cases hs
        dsimp only at G
        rw [hn] at G
        intro hL ls H locs cells slots h1 h2 h3 h4 h5
        obtain ⟨t, v2, e1, e2, k1, k2⟩ := C.2.2.2.2.2.2.2.1.2.2.2.2.2 a w1
        have hg := G hL ls H locs cells slots h1 h2 h3 h4 h5
        rw [List.map_cons, show cv b0 sv (mS (100 + a)) = sv (100 + a) from rfl, e1] at hg
        rw [show sSt.getD a ("", 0) = (ownS (mr M).1, j) from by rw [List.getD_eq_getElem?_getD, w2]; rfl] at k1
        intro T hT X
        obtain ⟨t9, a1, b1⟩ := hg T hT X
        exact ⟨t9, X.ldcString C.1 C.2.2.2.1 (text := sTx.getD a "") (a := t) k1.1 k1.2 (g := F0 m (pcO M k) ls (st.map (cv b0 sv))) rfl (by rw [C.2.1]; exact hdec) t9 a1, b1⟩
      · cases hs
    · cases hk
  · next j =>
    simp only [Bool.and_eq_true] at hk
    obtain ⟨hk, hf⟩ := hk
    obtain ⟨rfl, hn⟩ := fall_of hf
    split at hk
    · next q hq =>
      simp only [Bool.and_eq_true, decide_eq_true_eq] at hk
      obtain ⟨⟨q1, q2⟩, q3⟩ := hk
      have hw := List.all_eq_true.mp SRW_ok q (List.mem_of_getElem? hq)
      simp only [Bool.and_eq_true, decide_eq_true_eq] at hw
      obtain ⟨w1, w2⟩ := hw
      rw [q3] at w1 w2
      rw [q1, q2] at w2
      unfold f_ldcs at hs
      split at hs
      · cases hs
        dsimp only at G
        rw [hn] at G
        intro hL ls H locs cells slots h1 h2 h3 h4 h5
        obtain ⟨t, v2, e1, e2, k1, k2⟩ := C.2.2.2.2.2.2.2.1.2.2.2.2.2 a w1
        have hg := G hL ls H locs cells slots h1 h2 h3 h4 h5
        rw [List.map_cons, show cv b0 sv (mS (100 + a)) = sv (100 + a) from rfl, e1] at hg
        rw [show sSt.getD a ("", 0) = (ownS (mr M).1, j) from by rw [List.getD_eq_getElem?_getD, w2]; rfl] at k1
        intro T hT X
        obtain ⟨t9, a1, b1⟩ := hg T hT X
        exact ⟨t9, X.ldcStringW C.1 C.2.2.2.1 (text := sTx.getD a "") (a := t) k1.1 k1.2 (g := F0 m (pcO M k) ls (st.map (cv b0 sv))) rfl (by rw [C.2.1]; exact hdec) t9 a1, b1⟩
      · cases hs
    · cases hk
  · cases hk
theorem so_61 {b0 : Nat} {sv : Nat → Value} {cy : Nat → ClassId} {D : va_G} {sc : List Int} {M : Nat} {p : Program} {l : Launch} {e : Env} {R : Room} {s : State} {m : MethodId} {args : Array Value} {below : List Frame} {meth : Method} {c : Code} {Q : State → Prop} {k a b : Nat} {v : AV} {l0 : List (Int × Nat)} {i : Instr} {len : Nat} {L : LV} {st : List AV} {hp : HP} {B : BU} {c' : CF} (C : CX b0 sv cy D sc M p s m args meth c) (hdec : decode (mC M) (pcO M k) = .ok (i, len)) (hk : ck_tf 0 M k a b v l0 i len = true) (hs : f_tval sc (k + 1) a b v l0 L st hp B = some (.inl c')) (G : GP b0 sv cy D M p l e R s m args below meth c Q (pcO M c'.1) c'.2.1 c'.2.2.1 c'.2.2.2.1 c'.2.2.2.2) : GP b0 sv cy D M p l e R s m args below meth c Q (pcO M k) L st hp B := by
  unfold ck_tf at hk
  split at hk
  · next j =>
    simp only [Bool.and_eq_true] at hk
    obtain ⟨hk, hf⟩ := hk
    obtain ⟨rfl, hn⟩ := fall_of hf
    split at hk
    · next q hq =>
      simp only [Bool.and_eq_true, decide_eq_true_eq] at hk
      obtain ⟨⟨q1, q2⟩, q3⟩ := hk
      have hw := List.all_eq_true.mp TFW_ok q (List.mem_of_getElem? hq)
      unfold tfOk at hw
      rw [q1, q2, q3] at hw
      unfold f_tval at hs
      split at hs
      · next jj st2 =>
        split at hs
        · next hj =>
          cases hs
          dsimp only at G
          rw [hn] at G
          intro hL ls H locs cells slots h1 h2 h3 h4 h5
          obtain ⟨i0, rfl⟩ : ∃ i0, jj = 100 + i0 := ⟨jj - 100, by omega⟩
          have hi0 : i0 < 21 := by have := hj.2; unfold nTx at this; omega
          obtain ⟨t, v2, e1, e2, k1, k2, k3, k4, k5⟩ := C.2.2.2.2.2.2.2.1.2.2.2.2.2 i0 hi0
          have hg := G hL ls H locs cells slots h1 h2 h3 h4 h5
          show W p l e R s m args below meth c H locs cells slots Q (F0 m (pcO M k) ls (sv (100 + i0) :: st2.map (cv b0 sv)))
          rw [e1]
          rw [List.map_cons, show 100 + (100 + i0) = 200 + i0 by omega, show cv b0 sv (mS (200 + i0)) = sv (200 + i0) from rfl, e2] at hg
          exact vk_getf C.1 C.2.1 k4 h3 C.2.2.2.1 (C.2.2.2.2.1 _ (wIs_mem hw)) (fun _ h9 => h9) hdec hg
        · cases hs
      · cases hs
    · cases hk
  · cases hk
theorem so_62 {b0 : Nat} {sv : Nat → Value} {cy : Nat → ClassId} {D : va_G} {sc : List Int} {M : Nat} {p : Program} {l : Launch} {e : Env} {R : Room} {s : State} {m : MethodId} {args : Array Value} {below : List Frame} {meth : Method} {c : Code} {Q : State → Prop} {k a b : Nat} {v : AV} {l0 : List (Int × Nat)} {i : Instr} {len : Nat} {L : LV} {st : List AV} {hp : HP} {B : BU} {c' : CF} (C : CX b0 sv cy D sc M p s m args meth c) (hdec : decode (mC M) (pcO M k) = .ok (i, len)) (hk : ck_tf 1 M k a b v l0 i len = true) (hs : f_tcod sc (k + 1) a b v l0 L st hp B = some (.inl c')) (G : GP b0 sv cy D M p l e R s m args below meth c Q (pcO M c'.1) c'.2.1 c'.2.2.1 c'.2.2.2.1 c'.2.2.2.2) : GP b0 sv cy D M p l e R s m args below meth c Q (pcO M k) L st hp B := by
  unfold ck_tf at hk
  split at hk
  · next j =>
    simp only [Bool.and_eq_true] at hk
    obtain ⟨hk, hf⟩ := hk
    obtain ⟨rfl, hn⟩ := fall_of hf
    split at hk
    · next q hq =>
      simp only [Bool.and_eq_true, decide_eq_true_eq] at hk
      obtain ⟨⟨q1, q2⟩, q3⟩ := hk
      have hw := List.all_eq_true.mp TFW_ok q (List.mem_of_getElem? hq)
      unfold tfOk at hw
      rw [q1, q2, q3] at hw
      unfold f_tcod at hs
      split at hs
      · next jj st2 =>
        split at hs
        · next hj =>
          cases hs
          dsimp only at G
          rw [hn] at G
          intro hL ls H locs cells slots h1 h2 h3 h4 h5
          obtain ⟨i0, rfl⟩ : ∃ i0, jj = 100 + i0 := ⟨jj - 100, by omega⟩
          have hi0 : i0 < 21 := by have := hj.2; unfold nTx at this; omega
          obtain ⟨t, v2, e1, e2, k1, k2, k3, k4, k5⟩ := C.2.2.2.2.2.2.2.1.2.2.2.2.2 i0 hi0
          have hg := G hL ls H locs cells slots h1 h2 h3 h4 h5
          show W p l e R s m args below meth c H locs cells slots Q (F0 m (pcO M k) ls (sv (100 + i0) :: st2.map (cv b0 sv)))
          rw [e1]
          exact vk_getf C.1 C.2.1 k3 h3 C.2.2.2.1 (C.2.2.2.2.1 _ (wIs_mem hw)) (fun _ h9 => h9) hdec hg
        · cases hs
      · cases hs
    · cases hk
  · cases hk
theorem so_63 {b0 : Nat} {sv : Nat → Value} {cy : Nat → ClassId} {D : va_G} {sc : List Int} {M : Nat} {p : Program} {l : Launch} {e : Env} {R : Room} {s : State} {m : MethodId} {args : Array Value} {below : List Frame} {meth : Method} {c : Code} {Q : State → Prop} {k a b : Nat} {v : AV} {l0 : List (Int × Nat)} {i : Instr} {len : Nat} {L : LV} {st : List AV} {hp : HP} {B : BU} {c' : CF} (C : CX b0 sv cy D sc M p s m args meth c) (hdec : decode (mC M) (pcO M k) = .ok (i, len)) (hk : ck_s .baload M k a b v l0 i len = true) (hs : f_tbald sc (k + 1) a b v l0 L st hp B = some (.inl c')) (G : GP b0 sv cy D M p l e R s m args below meth c Q (pcO M c'.1) c'.2.1 c'.2.2.1 c'.2.2.2.1 c'.2.2.2.2) : GP b0 sv cy D M p l e R s m args below meth c Q (pcO M k) L st hp B := by
  obtain ⟨rfl, rfl, hn⟩ := ck_s_of hk
  unfold f_tbald at hs
  split at hs
  · next ix jj st2 =>
    split at hs
    · next hj =>
      cases hs
      dsimp only at G
      rw [hn] at G
      intro hL ls H locs cells slots h1 h2 h3 h4 h5
      obtain ⟨i0, rfl⟩ : ∃ i0, jj = 200 + i0 := ⟨jj - 200, by omega⟩
      have hi0 : i0 < 21 := by have := hj.2.1; unfold nTx at this; omega
      obtain ⟨t, v2, e1, e2, k1, k2, k3, k4, k5⟩ := C.2.2.2.2.2.2.2.1.2.2.2.2.2 i0 hi0
      have hin := hj.2.2
      rw [show 200 + i0 - 200 = i0 by omega] at hin G
      show W p l e R s m args below meth c H locs cells slots Q (F0 m (pcO M k) ls (.int (Int32.ofInt ix) :: sv (200 + i0) :: st2.map (cv b0 sv)))
      rw [e2]
      refine va_tb C.1 C.2.1 k5 h3 (J_in.mpr (inB_iff.mp hin)) (v := .int (Int32.ofInt ((stxt i0).getD (w32 ix).toNat 0))) (by rw [J_clamp]) hdec ?_
      exact G hL ls H locs cells slots h1 h2 h3 h4 h5
    · cases hs
  · cases hs
theorem so_65 {b0 : Nat} {sv : Nat → Value} {cy : Nat → ClassId} {D : va_G} {sc : List Int} {M : Nat} {p : Program} {l : Launch} {e : Env} {R : Room} {s : State} {m : MethodId} {args : Array Value} {below : List Frame} {meth : Method} {c : Code} {Q : State → Prop} {k a b : Nat} {v : AV} {l0 : List (Int × Nat)} {i : Instr} {len : Nat} {L : LV} {st : List AV} {hp : HP} {B : BU} {c' : CF} (hlaw : M = nM) (C : CX b0 sv cy D sc M p s m args meth c) (hdec : decode (mC M) (pcO M k) = .ok (i, len)) (hk : ck_s .arraylength M k a b v l0 i len = true) (hs : f_slen sc (k + 1) a b v l0 L st hp B = some (.inl c')) (G : GP b0 sv cy D M p l e R s m args below meth c Q (pcO M c'.1) c'.2.1 c'.2.2.1 c'.2.2.2.1 c'.2.2.2.2) : GP b0 sv cy D M p l e R s m args below meth c Q (pcO M k) L st hp B := by
  obtain ⟨rfl, rfl, hn⟩ := ck_s_of hk
  unfold f_slen at hs
  split at hs
  · next st2 =>
    cases hs
    dsimp only at G
    rw [hn] at G
    intro hL ls H locs cells slots h1 h2 h3 h4 h5
    obtain ⟨t, e1, cell, q1, q2, q3, q4, q5, q6, q7⟩ := C.2.2.2.2.2.2.2.2.1 (Or.inr hlaw)
    show W p l e R s m args below meth c H locs cells slots Q (F0 m (pcO M k) ls (sv 9 :: st2.map (cv b0 sv)))
    rw [e1]
    refine W.alen (n := Int32.ofInt (sc.length : Nat)) C.1 C.2.1 (by rw [h3.2.1 t (Array.getElem?_eq_some_iff.mp q1).1 q7]; exact q1) q2 (by rw [q5, Int32.ofInt_eq_ofNat]) rfl rfl hdec ?_
    exact G hL ls H locs cells slots h1 h2 h3 h4 h5
  · cases hs
theorem so_66 {b0 : Nat} {sv : Nat → Value} {cy : Nat → ClassId} {D : va_G} {sc : List Int} {M : Nat} {p : Program} {l : Launch} {e : Env} {R : Room} {s : State} {m : MethodId} {args : Array Value} {below : List Frame} {meth : Method} {c : Code} {Q : State → Prop} {k a b : Nat} {v : AV} {l0 : List (Int × Nat)} {i : Instr} {len : Nat} {L : LV} {st : List AV} {hp : HP} {B : BU} {c' : CF} (C : CX b0 sv cy D sc M p s m args meth c) (hdec : decode (mC M) (pcO M k) = .ok (i, len)) (hk : ck_s .arraylength M k a b v l0 i len = true) (hs : f_tlen sc (k + 1) a b v l0 L st hp B = some (.inl c')) (G : GP b0 sv cy D M p l e R s m args below meth c Q (pcO M c'.1) c'.2.1 c'.2.2.1 c'.2.2.2.1 c'.2.2.2.2) : GP b0 sv cy D M p l e R s m args below meth c Q (pcO M k) L st hp B := by
  obtain ⟨rfl, rfl, hn⟩ := ck_s_of hk
  unfold f_tlen at hs
  split at hs
  · next jj st2 =>
    split at hs
    · next hj =>
      cases hs
      dsimp only at G
      rw [hn] at G
      intro hL ls H locs cells slots h1 h2 h3 h4 h5
      obtain ⟨i0, rfl⟩ : ∃ i0, jj = 200 + i0 := ⟨jj - 200, by omega⟩
      have hi0 : i0 < 21 := by have := hj.2; unfold nTx at this; omega
      obtain ⟨t, v2, e1, e2, k1, k2, k3, k4, cell, q1, q2, q3, q4, q5, q6, q7⟩ := C.2.2.2.2.2.2.2.1.2.2.2.2.2 i0 hi0
      rw [show 200 + i0 - 200 = i0 by omega] at G
      show W p l e R s m args below meth c H locs cells slots Q (F0 m (pcO M k) ls (sv (200 + i0) :: st2.map (cv b0 sv)))
      rw [e2]
      refine W.alen (n := Int32.ofInt ((stxt i0).length : Nat)) C.1 C.2.1 (by rw [h3.2.1 v2 (Array.getElem?_eq_some_iff.mp q1).1 q7]; exact q1) q2 (by rw [q5, Int32.ofInt_eq_ofNat]) rfl rfl hdec ?_
      exact G hL ls H locs cells slots h1 h2 h3 h4 h5
    · cases hs
  · cases hs
theorem so_67 {b0 : Nat} {sv : Nat → Value} {cy : Nat → ClassId} {D : va_G} {sc : List Int} {M : Nat} {p : Program} {l : Launch} {e : Env} {R : Room} {s : State} {m : MethodId} {args : Array Value} {below : List Frame} {meth : Method} {c : Code} {Q : State → Prop} {k a b : Nat} {v : AV} {l0 : List (Int × Nat)} {i : Instr} {len : Nat} {L : LV} {st : List AV} {hp : HP} {B : BU} {c' : CF} (C : CX b0 sv cy D sc M p s m args meth c) (hdec : decode (mC M) (pcO M k) = .ok (i, len)) (hk : ck_alen M k a b v l0 i len = true) (hs : f_alen sc (k + 1) a b v l0 L st hp B = some (.inl c')) (G : GP b0 sv cy D M p l e R s m args below meth c Q (pcO M c'.1) c'.2.1 c'.2.2.1 c'.2.2.2.1 c'.2.2.2.2) : GP b0 sv cy D M p l e R s m args below meth c Q (pcO M k) L st hp B := by
  unfold ck_alen at hk
  simp only [Bool.and_eq_true, decide_eq_true_eq] at hk
  obtain ⟨⟨rfl, hf⟩, ha⟩ := hk
  obtain ⟨rfl, hn⟩ := fall_of hf
  unfold f_alen at hs
  split at hs
  · next x st2 =>
    split at hs
    · split at hs
      · next lst hl =>
        cases hs
        dsimp only at G
        rw [hn] at G
        intro hL ls H locs cells slots h1 h2 h3 h4 h5
        exact va_alen C.1 C.2.1 C.2.2.2.2.2.2.1 h2.2 x 0 (wl_at (gA_spec hl)) rfl (by rw [← Int32.ofInt_eq_ofNat]) hdec (G hL ls H locs cells slots h1 h2 h3 h4 h5)
      · cases hs
    · split at hs
      · next lst hl =>
        cases hs
        dsimp only at G
        rw [hn] at G
        intro hL ls H locs cells slots h1 h2 h3 h4 h5
        exact va_alen C.1 C.2.1 C.2.2.2.2.2.2.1 h2.2 x 2 (wl_at (gJ_spec hl)) rfl (by rw [← Int32.ofInt_eq_ofNat]) hdec (G hL ls H locs cells slots h1 h2 h3 h4 h5)
      · cases hs
  · cases hs
theorem MT1 : (Jvm.Cond.static Lib.Math.min.name ∈ BIG ∧ Jvm.Cond.static Lib.Math.max.name ∈ BIG ∧ Jvm.Cond.static Lib.Math.abs.name ∈ BIG) ∧ Jvm.Cond.initialized "java/lang/Math" ∈ BIG ∧ Jvm.Cond.code Lib.Math.min.name Lib.Math.min.code 2 (some .int) ∈ BIG ∧ Jvm.Cond.code Lib.Math.max.name Lib.Math.max.code 2 (some .int) ∈ BIG ∧ Jvm.Cond.code Lib.Math.abs.name Lib.Math.abs.code 1 (some .int) ∈ BIG := by
  have h := MT1_ok
  simp only [Bool.and_eq_true] at h
  obtain ⟨⟨⟨⟨⟨⟨h1, h2⟩, h3⟩, h4⟩, h5⟩, h6⟩, h7⟩ := h
  exact ⟨⟨wIs_mem h1, wIs_mem h2, wIs_mem h3⟩, wIs_mem h4, wIs_mem h5, wIs_mem h6, wIs_mem h7⟩
theorem so_71 {b0 : Nat} {sv : Nat → Value} {cy : Nat → ClassId} {D : va_G} {sc : List Int} {M : Nat} {p : Program} {l : Launch} {e : Env} {R : Room} {s : State} {m : MethodId} {args : Array Value} {below : List Frame} {meth : Method} {c : Code} {Q : State → Prop} {k a b : Nat} {v : AV} {l0 : List (Int × Nat)} {i : Instr} {len : Nat} {L : LV} {st : List AV} {hp : HP} {B : BU} {c' : CF} (hR : 1 ≤ R.frames ∧ 60 ≤ R.locals) (C : CX b0 sv cy D sc M p s m args meth c) (hdec : decode (mC M) (pcO M k) = .ok (i, len)) (hk : ck_math 0 M k a b v l0 i len = true) (hs : f_mmin sc (k + 1) a b v l0 L st hp B = some (.inl c')) (G : GP b0 sv cy D M p l e R s m args below meth c Q (pcO M c'.1) c'.2.1 c'.2.2.1 c'.2.2.2.1 c'.2.2.2.2) : GP b0 sv cy D M p l e R s m args below meth c Q (pcO M k) L st hp B := by
  unfold ck_math at hk
  split at hk
  · next j =>
    simp only [Bool.and_eq_true] at hk
    obtain ⟨hk, hf⟩ := hk
    obtain ⟨rfl, hn⟩ := fall_of hf
    split at hk
    · next q hq =>
      simp only [Bool.and_eq_true, decide_eq_true_eq] at hk
      obtain ⟨⟨q1, q2⟩, q3⟩ := hk
      have hw := List.all_eq_true.mp MTW_ok q (List.mem_of_getElem? hq)
      rw [q1, q2, q3] at hw
      unfold f_mmin at hs
      split at hs
      · next y x st2 =>
        split at hs
        · next hlen =>
          cases hs
          dsimp only at G
          rw [hn] at G
          intro hL ls H locs cells slots h1 h2 h3 h4 h5
          have hcs := cat_sum (b0 := b0) C.2.2.2.2.2.2.2.2.2.1 st2
          have hg := G hL ls H locs cells slots h1 h2 h3 h4 h5
          refine va_mmin C.1 C.2.1 (by rw [C.2.2.1, h1.1, hL]) C.2.2.2.1 (C.2.2.2.2.1 _ (wIs_mem hw)) (C.2.2.2.2.1 _ MT1.1.1) (C.2.2.2.2.1 _ MT1.2.1) (C.2.2.2.2.1 _ MT1.2.2.1) hR.1 (by have := hR.2; omega) (by omega) (by omega) hdec ?_
          have hg2 : W p l e R s m args below meth c H locs cells slots Q (F0 m (pcO M k + 3) ls (cv b0 sv (mI _) :: st2.map (cv b0 sv))) := hg
          clear hg
          have hg := hg2
          change W p l e R s m args below meth c H locs cells slots Q (F0 m (pcO M k + 3) ls (.int (Int32.ofInt _) :: st2.map (cv b0 sv))) at hg
          by_cases hxy : w32 y < w32 x
          · rw [if_pos hxy] at hg; rw [if_pos (J_lt.mpr hxy)]; exact hg
          · rw [if_neg hxy] at hg; rw [if_neg (fun q => hxy (J_lt.mp q))]; exact hg
        · cases hs
      · cases hs
    · cases hk
  · cases hk
theorem so_72 {b0 : Nat} {sv : Nat → Value} {cy : Nat → ClassId} {D : va_G} {sc : List Int} {M : Nat} {p : Program} {l : Launch} {e : Env} {R : Room} {s : State} {m : MethodId} {args : Array Value} {below : List Frame} {meth : Method} {c : Code} {Q : State → Prop} {k a b : Nat} {v : AV} {l0 : List (Int × Nat)} {i : Instr} {len : Nat} {L : LV} {st : List AV} {hp : HP} {B : BU} {c' : CF} (hR : 1 ≤ R.frames ∧ 60 ≤ R.locals) (C : CX b0 sv cy D sc M p s m args meth c) (hdec : decode (mC M) (pcO M k) = .ok (i, len)) (hk : ck_math 1 M k a b v l0 i len = true) (hs : f_mmax sc (k + 1) a b v l0 L st hp B = some (.inl c')) (G : GP b0 sv cy D M p l e R s m args below meth c Q (pcO M c'.1) c'.2.1 c'.2.2.1 c'.2.2.2.1 c'.2.2.2.2) : GP b0 sv cy D M p l e R s m args below meth c Q (pcO M k) L st hp B := by
  unfold ck_math at hk
  split at hk
  · next j =>
    simp only [Bool.and_eq_true] at hk
    obtain ⟨hk, hf⟩ := hk
    obtain ⟨rfl, hn⟩ := fall_of hf
    split at hk
    · next q hq =>
      simp only [Bool.and_eq_true, decide_eq_true_eq] at hk
      obtain ⟨⟨q1, q2⟩, q3⟩ := hk
      have hw := List.all_eq_true.mp MTW_ok q (List.mem_of_getElem? hq)
      rw [q1, q2, q3] at hw
      unfold f_mmax at hs
      split at hs
      · next y x st2 =>
        split at hs
        · next hlen =>
          cases hs
          dsimp only at G
          rw [hn] at G
          intro hL ls H locs cells slots h1 h2 h3 h4 h5
          have hcs := cat_sum (b0 := b0) C.2.2.2.2.2.2.2.2.2.1 st2
          have hg := G hL ls H locs cells slots h1 h2 h3 h4 h5
          refine va_mmax C.1 C.2.1 (by rw [C.2.2.1, h1.1, hL]) C.2.2.2.1 (C.2.2.2.2.1 _ (wIs_mem hw)) (C.2.2.2.2.1 _ MT1.1.2.1) (C.2.2.2.2.1 _ MT1.2.1) (C.2.2.2.2.1 _ MT1.2.2.2.1) hR.1 (by have := hR.2; omega) (by omega) (by omega) hdec ?_
          have hg2 : W p l e R s m args below meth c H locs cells slots Q (F0 m (pcO M k + 3) ls (cv b0 sv (mI _) :: st2.map (cv b0 sv))) := hg
          clear hg
          have hg := hg2
          change W p l e R s m args below meth c H locs cells slots Q (F0 m (pcO M k + 3) ls (.int (Int32.ofInt _) :: st2.map (cv b0 sv))) at hg
          by_cases hxy : w32 x < w32 y
          · rw [if_pos hxy] at hg; rw [if_pos (J_lt.mpr hxy)]; exact hg
          · rw [if_neg hxy] at hg; rw [if_neg (fun q => hxy (J_lt.mp q))]; exact hg
        · cases hs
      · cases hs
    · cases hk
  · cases hk
theorem so_73 {b0 : Nat} {sv : Nat → Value} {cy : Nat → ClassId} {D : va_G} {sc : List Int} {M : Nat} {p : Program} {l : Launch} {e : Env} {R : Room} {s : State} {m : MethodId} {args : Array Value} {below : List Frame} {meth : Method} {c : Code} {Q : State → Prop} {k a b : Nat} {v : AV} {l0 : List (Int × Nat)} {i : Instr} {len : Nat} {L : LV} {st : List AV} {hp : HP} {B : BU} {c' : CF} (hR : 1 ≤ R.frames ∧ 60 ≤ R.locals) (C : CX b0 sv cy D sc M p s m args meth c) (hdec : decode (mC M) (pcO M k) = .ok (i, len)) (hk : ck_math 2 M k a b v l0 i len = true) (hs : f_mabs sc (k + 1) a b v l0 L st hp B = some (.inl c')) (G : GP b0 sv cy D M p l e R s m args below meth c Q (pcO M c'.1) c'.2.1 c'.2.2.1 c'.2.2.2.1 c'.2.2.2.2) : GP b0 sv cy D M p l e R s m args below meth c Q (pcO M k) L st hp B := by
  unfold ck_math at hk
  split at hk
  · next j =>
    simp only [Bool.and_eq_true] at hk
    obtain ⟨hk, hf⟩ := hk
    obtain ⟨rfl, hn⟩ := fall_of hf
    split at hk
    · next q hq =>
      simp only [Bool.and_eq_true, decide_eq_true_eq] at hk
      obtain ⟨⟨q1, q2⟩, q3⟩ := hk
      have hw := List.all_eq_true.mp MTW_ok q (List.mem_of_getElem? hq)
      rw [q1, q2, q3] at hw
      unfold f_mabs at hs
      split at hs
      · next x st2 =>
        split at hs
        · next hlen =>
          cases hs
          dsimp only at G
          rw [hn] at G
          intro hL ls H locs cells slots h1 h2 h3 h4 h5
          have hcs := cat_sum (b0 := b0) C.2.2.2.2.2.2.2.2.2.1 st2
          have hg := G hL ls H locs cells slots h1 h2 h3 h4 h5
          refine va_mabs C.1 C.2.1 (by rw [C.2.2.1, h1.1, hL]) C.2.2.2.1 (C.2.2.2.2.1 _ (wIs_mem hw)) (C.2.2.2.2.1 _ MT1.1.2.2) (C.2.2.2.2.1 _ MT1.2.1) (C.2.2.2.2.1 _ MT1.2.2.2.2) hR.1 (by have := hR.2; omega) (by omega) (by omega) hdec ?_
          have hg2 : W p l e R s m args below meth c H locs cells slots Q (F0 m (pcO M k + 3) ls (cv b0 sv (mI _) :: st2.map (cv b0 sv))) := hg
          clear hg
          have hg := hg2
          change W p l e R s m args below meth c H locs cells slots Q (F0 m (pcO M k + 3) ls (.int (Int32.ofInt _) :: st2.map (cv b0 sv))) at hg
          by_cases hxy : 0 ≤ w32 x
          · rw [if_pos hxy] at hg; rw [if_pos (by rw [J_0, J_le, w32_0]; exact hxy)]; exact hg
          · rw [if_neg hxy] at hg; rw [if_neg (fun q => hxy (by rw [J_0, J_le, w32_0] at q; exact q)), J_0, J_sub]; exact hg
        · cases hs
      · cases hs
    · cases hk
  · cases hk
theorem OI1 : Jvm.Cond.instanceMethod objectInit ∈ BIG ∧ Jvm.Cond.code objectInit ⟨#[0xb1]⟩ 1 none ∈ BIG := by
  have h := OI1_ok
  simp only [Bool.and_eq_true] at h
  exact ⟨wIs_mem h.1, wIs_mem h.2⟩
theorem so_58 {b0 : Nat} {sv : Nat → Value} {cy : Nat → ClassId} {D : va_G} {sc : List Int} {M : Nat} {p : Program} {l : Launch} {e : Env} {R : Room} {s : State} {m : MethodId} {args : Array Value} {below : List Frame} {meth : Method} {c : Code} {Q : State → Prop} {k a b : Nat} {v : AV} {l0 : List (Int × Nat)} {i : Instr} {len : Nat} {L : LV} {st : List AV} {hp : HP} {B : BU} {c' : CF} (hR : 1 ≤ R.frames ∧ 60 ≤ R.locals) (C : CX b0 sv cy D sc M p s m args meth c) (hdec : decode (mC M) (pcO M k) = .ok (i, len)) (hk : ck_oinit M k a b v l0 i len = true) (hs : f_objinit sc (k + 1) a b v l0 L st hp B = some (.inl c')) (G : GP b0 sv cy D M p l e R s m args below meth c Q (pcO M c'.1) c'.2.1 c'.2.2.1 c'.2.2.2.1 c'.2.2.2.2) : GP b0 sv cy D M p l e R s m args below meth c Q (pcO M k) L st hp B := by
  unfold ck_oinit at hk
  split at hk
  · next j =>
    simp only [Bool.and_eq_true] at hk
    obtain ⟨hk, hf⟩ := hk
    obtain ⟨rfl, hn⟩ := fall_of hf
    split at hk
    · next q hq =>
      simp only [Bool.and_eq_true, decide_eq_true_eq] at hk
      obtain ⟨q1, q2⟩ := hk
      have hw := List.all_eq_true.mp OIW_ok q (List.mem_of_getElem? hq)
      rw [q1, q2] at hw
      unfold f_objinit at hs
      split at hs
      · next x st2 =>
        split at hs
        · next hlen =>
          cases hs
          dsimp only at G
          rw [hn] at G
          intro hL ls H locs cells slots h1 h2 h3 h4 h5
          have hcs := cat_sum (b0 := b0) C.2.2.2.2.2.2.2.2.2.1 st2
          refine W.objInit C.1 C.2.1 C.2.2.2.1 (C.2.2.2.2.1 _ (wIs_mem hw)) (C.2.2.2.2.1 _ OI1.1) (C.2.2.2.2.1 _ OI1.2) (g := F0 m (pcO M k) ls (cv b0 sv (mR x) :: st2.map (cv b0 sv))) rfl (by show ls.size = _; rw [C.2.2.1, h1.1, hL]) rfl hdec hR.1 (by show 2 * 0 + _ + 12 ≤ _; have := hR.2; omega) ?_
          exact G hL ls H locs cells slots h1 h2 h3 h4 h5
        · cases hs
      · cases hs
    · cases hk
  · cases hk
theorem AY1 : Jvm.Cond.arrayClass .int ∈ BIG ∧ Jvm.Cond.arrayClass .boolean ∈ BIG ∧ Jvm.Cond.arrayClass .long ∈ BIG := by
  have h := AY_ok
  simp only [Bool.and_eq_true] at h
  exact ⟨wIs_mem h.1.1, wIs_mem h.1.2, wIs_mem h.2⟩
theorem so_51 {b0 : Nat} {sv : Nat → Value} {cy : Nat → ClassId} {D : va_G} {sc : List Int} {M : Nat} {p : Program} {l : Launch} {e : Env} {R : Room} {s : State} {m : MethodId} {args : Array Value} {below : List Frame} {meth : Method} {c : Code} {Q : State → Prop} {k a b : Nat} {v : AV} {l0 : List (Int × Nat)} {i : Instr} {len : Nat} {L : LV} {st : List AV} {hp : HP} {B : BU} {c' : CF} (C : CX b0 sv cy D sc M p s m args meth c) (hdec : decode (mC M) (pcO M k) = .ok (i, len)) (hk : ck_newa M k a b v l0 i len = true) (hs : f_newa sc (k + 1) a b v l0 L st hp B = some (.inl c')) (G : GP b0 sv cy D M p l e R s m args below meth c Q (pcO M c'.1) c'.2.1 c'.2.2.1 c'.2.2.2.1 c'.2.2.2.2) : GP b0 sv cy D M p l e R s m args below meth c Q (pcO M k) L st hp B := by
  unfold ck_newa at hk
  split at hk
  · next t =>
    simp only [Bool.and_eq_true, decide_eq_true_eq] at hk
    obtain ⟨ht, hf⟩ := hk
    obtain ⟨rfl, hn⟩ := fall_of hf
    unfold f_newa at hs
    split at hs
    · next n st2 =>
      split at hs
      · next hc =>
        simp only [Bool.and_eq_true, decide_eq_true_eq] at hc
        obtain ⟨⟨⟨c1, c2⟩, c3⟩, c4⟩ := hc
        cases hs
        dsimp only at G
        rw [hn] at G
        intro hL ls H locs cells slots h1 h2 h3 h4 h5
        rcases ht with ⟨rfl, rfl⟩ | ⟨rfl, rfl⟩ | ⟨rfl, rfl⟩
        · rw [if_neg (by decide)] at G
          refine va_newaK (atype := .int) C.1 C.2.1 (C.2.2.2.2.1 _ AY1.1) (g := F0 m (pcO M k) ls (.int (Int32.ofInt n) :: st2.map (cv b0 sv))) rfl hdec rfl (by rw [J_0, J_lt, w32_0]; omega) (J_clamp n) (by show _ * 4 ≤ _; omega) (by omega) (by omega) h2.1 fun H1 cA e1 z1 o1 hAr hNm => ?_
          have hcA : cA = cy 0 := Option.some.inj (hNm.symm.trans (C.2.2.2.2.2.2.1.2 0 _ rfl).2)
          subst hcA
          have hg := G hL ls H1 locs (cells + 1) (slots + (w32 n).toNat) h1 (RH_push h2 (c := .inr (.inl (0, List.replicate (w32 n).toNat 0))) (by
            show H1[b0 + hp.length]? = some (vp_cell _ _)
            rw [e1]
            dsimp only
            rw [vp_cell_i, List.length_replicate]
            congr 2
            funext q
            simp only [List.getD_eq_getElem?_getD, List.getElem?_replicate]; split <;> rfl) (by rw [z1, h2.1]) (by rw [h2.1]; exact o1)) (va_Spush h3 (by rw [z1, h2.1]; omega) (by rw [h2.1]; exact o1)) (by dsimp only; omega) (by dsimp only; omega)
          exact hg

        · rw [if_neg (by decide)] at G
          refine va_newaK (atype := .boolean) C.1 C.2.1 (C.2.2.2.2.1 _ AY1.2.1) (g := F0 m (pcO M k) ls (.int (Int32.ofInt n) :: st2.map (cv b0 sv))) rfl hdec rfl (by rw [J_0, J_lt, w32_0]; omega) (J_clamp n) (by show _ * 1 ≤ _; omega) (by omega) (by omega) h2.1 fun H1 cA e1 z1 o1 hAr hNm => ?_
          have hcA : cA = cy 1 := Option.some.inj (hNm.symm.trans (C.2.2.2.2.2.2.1.2 1 _ rfl).2)
          subst hcA
          have hg := G hL ls H1 locs (cells + 1) (slots + (w32 n).toNat) h1 (RH_push h2 (c := .inr (.inl (1, List.replicate (w32 n).toNat 0))) (by
            show H1[b0 + hp.length]? = some (vp_cell _ _)
            rw [e1]
            dsimp only
            rw [vp_cell_i, List.length_replicate]
            congr 2
            funext q
            simp only [List.getD_eq_getElem?_getD, List.getElem?_replicate]; split <;> rfl) (by rw [z1, h2.1]) (by rw [h2.1]; exact o1)) (va_Spush h3 (by rw [z1, h2.1]; omega) (by rw [h2.1]; exact o1)) (by dsimp only; omega) (by dsimp only; omega)
          exact hg

        · rw [if_pos rfl] at G
          refine va_newaK (atype := .long) C.1 C.2.1 (C.2.2.2.2.1 _ AY1.2.2) (g := F0 m (pcO M k) ls (.int (Int32.ofInt n) :: st2.map (cv b0 sv))) rfl hdec rfl (by rw [J_0, J_lt, w32_0]; omega) (J_clamp n) (by show _ * 8 ≤ _; omega) (by omega) (by omega) h2.1 fun H1 cA e1 z1 o1 hAr hNm => ?_
          have hcA : cA = cy 2 := Option.some.inj (hNm.symm.trans (C.2.2.2.2.2.2.1.2 2 _ rfl).2)
          subst hcA
          have hg := G hL ls H1 locs (cells + 1) (slots + (w32 n).toNat) h1 (RH_push h2 (c := .inr (.inr (.inl (List.replicate (w32 n).toNat 0#64)))) (by
            show H1[b0 + hp.length]? = some (vp_cell _ _)
            rw [e1]
            dsimp only
            rw [vp_cell_l, List.length_replicate]
            congr 2
            funext q
            simp only [List.getD_eq_getElem?_getD, List.getElem?_replicate]; split <;> rfl) (by rw [z1, h2.1]) (by rw [h2.1]; exact o1)) (va_Spush h3 (by rw [z1, h2.1]; omega) (by rw [h2.1]; exact o1)) (by dsimp only; omega) (by dsimp only; omega)
          exact hg

      · cases hs
    · cases hs
  · cases hk
