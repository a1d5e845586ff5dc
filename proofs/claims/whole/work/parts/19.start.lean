/-! ===== the start ===== -/
def FL : List Jvm.Cond := flatC (.and given_1 narrow_1)
def stI : List Nat := [5, 15, 30, 39]
def txI : List Nat := [65, 72, 81, 91, 103, 115, 127, 139, 153, 168, 182, 197, 215, 235, 256, 279, 302, 323, 345, 368, 394]
def tmA (a : Nat) : Term := .static (stN a).1 (stN a).2.1 (stN a).2.2
def tmS (i : Nat) : Term := .string (sSt.getD i ("", 0)).1 (sSt.getD i ("", 0)).2
def tmV (i : Nat) : Term := .field (tmS i) "java/lang/String" "value" "[B"
def svT (j : Nat) : Term := if j < 4 ∨ j = 300 then tmA j else if j = 9 then .arg 0 else if 100 ≤ j ∧ j < 200 then tmS (j - 100) else if 200 ≤ j ∧ j < 300 then tmV (j - 200) else .int 0
def svF (args : Array Value) (s : State) (j : Nat) : Value := match (svT j).eval args s none [] s with
  | some (.ref a) => .ref a
  | _ => .null
theorem svF_ok (args : Array Value) (s : State) : SVok (svF args s) := by
  intro j
  unfold svF
  split
  · exact Or.inr ⟨_, rfl⟩
  · exact Or.inl rfl
theorem svF_of {args : Array Value} {s : State} {j a : Nat} (h : (svT j).eval args s none [] s = some (.ref a)) : svF args s j = .ref a := by
  unfold svF
  rw [h]
set_option maxRecDepth 100000 in
theorem fx_st : ∀ a, a < 4 → FL[stI.getD a 0]? = some (.arrayOf (tmA a) .int) ∧ FL[stI.getD a 0 + 1]? = some (.eq (.length (tmA a)) (.int (Int32.ofNat (stab [] a).length))) ∧ ∀ j, j < (stab [] a).length → FL[stI.getD a 0 + 2 + j]? = some (.eq (.elem (tmA a) (.int (Int32.ofNat j))) (.int (Int32.ofInt ((stab [] a).getD j 0)))) := by decide +kernel
set_option maxRecDepth 100000 in
theorem fx_tx : ∀ i, i < 21 → FL[txI.getD i 0]? = some (.exactly (tmS i) "java/lang/String") ∧ FL[txI.getD i 0 + 1]? = some (.eq (.field (tmS i) "java/lang/String" "coder" "B") (.int 0)) ∧ FL[txI.getD i 0 + 2]? = some (.arrayOf (tmV i) .byte) ∧ FL[txI.getD i 0 + 3]? = some (.eq (.length (tmV i)) (.int (Int32.ofNat (stxt i).length))) ∧ ∀ j, j < (stxt i).length → FL[txI.getD i 0 + 4 + j]? = some (.eq (.elem (tmV i) (.int (Int32.ofNat j))) (.int (Int32.ofInt ((stxt i).getD j 0)))) := by decide +kernel
theorem fx_cs : FL[24]? = some (.eq (.static "java/lang/String" "COMPACT_STRINGS" "Z") (.int 1)) ∧ FL[25]? = some (.isRef (tmA 300)) := by decide +kernel
set_option maxRecDepth 100000 in
theorem fx_sr : ∀ i, i < 21 → Jvm.Cond.stringRef (sSt.getD i ("", 0)).1 (sSt.getD i ("", 0)).2 (sTx.getD i "") ∈ lw_tbl := by decide +kernel
set_option maxRecDepth 100000 in
theorem fx_ls : ∀ a, a ∈ [0, 1, 2, 3, 300] → Jvm.Cond.laysStatic (stN a).1 (stN a).2.1 (stN a).2.2 ∈ lw_tbl ∧ Jvm.Cond.initialized (stN a).1 ∈ lw_tbl := by decide +kernel
set_option maxRecDepth 100000 in
theorem fx_lc : Jvm.Cond.laysStatic "java/lang/String" "COMPACT_STRINGS" "Z" ∈ lw_tbl ∧ Jvm.Cond.initialized "java/lang/String" ∈ lw_tbl := by decide +kernel
set_option maxRecDepth 100000 in
theorem fx_nw : ∀ w ∈ NWL, w ∈ lw_tbl := by decide +kernel
set_option maxRecDepth 100000 in
theorem fx_ar : Jvm.Cond.arrayClass .int ∈ lw_tbl ∧ Jvm.Cond.arrayClass .boolean ∈ lw_tbl ∧ Jvm.Cond.arrayClass .long ∈ lw_tbl ∧ Jvm.Cond.arrayOver (.object RX4) ∈ lw_tbl ∧ Jvm.Cond.arrayOver (.array .long) ∈ lw_tbl := by decide +kernel
theorem lt_stab : ∀ a, a < 4 → (stab [] a).length < 2 ^ 31 := by decide +kernel
theorem lt_stxt : ∀ i, i < 21 → (stxt i).length < 2 ^ 31 := by decide +kernel
set_option maxRecDepth 100000 in
theorem fx_cl : (List.range 12).all (fun c => (u_ws (clT c).1 (clT c).2.1 (clT c).2.2).all (fun w => decide (w ∈ lw_tbl)) && decide (Jvm.Cond.instantiable (clT c).1 (clT c).2.2 ∈ lw_tbl)) = true := by decide +kernel
section ST
variable {args : Array Value} {s : State}
theorem eqI_of {t : Term} {v : Int32} (h : (Jvm.Cond.eq t (.int v)).before args s = true) : t.eval args s none [] s = some (.int v) := by
  unfold Cond.before Cond.holds at h
  simp only [Cond.value] at h
  have e : (Term.int v).eval args s none [] s = some (.int v) := rfl
  rw [e] at h
  cases ht : t.eval args s none [] s with
  | none => rw [ht] at h; simp at h
  | some w =>
    rw [ht] at h
    cases w <;> simp at h
    rw [h]
theorem svF_ev {j : Nat} (h : (Jvm.Cond.isRef (svT j)).before args s = true) : (svT j).eval args s none [] s = some (svF args s j) := by
  obtain ⟨v, h1, h2⟩ := Cond.isRef_spec h
  unfold svF
  rw [h1]
  cases v <;> first | rfl | cases h2
theorem tab_of {tm : Term} {ty : FieldType} {l : List Int} (b0 : Nat) (hb : s.heap.size ≤ b0) (hl : l.length < 2 ^ 31) (harr : (Jvm.Cond.arrayOf tm ty).before args s = true) (hlen : (Jvm.Cond.eq (.length tm) (.int (Int32.ofNat l.length))).before args s = true) (hel : ∀ j, j < l.length → (Jvm.Cond.eq (.elem tm (.int (Int32.ofNat j))) (.int (Int32.ofInt (l.getD j 0)))).before args s = true) :
    ∃ t : Nat, tm.eval args s none [] s = some (.ref t) ∧ va_T ty t l.length (fun j => .int (Int32.ofInt (l.getD j 0))) (aNew b0) s s.heap :=
  va_Tof hl harr (eqI_of hlen) (fun j hj => eqI_of (hel j hj)) (fun a ha h => by unfold aNew at h; omega)
theorem SK_of (b0 : Nat) (hb : s.heap.size ≤ b0) (hs : ∀ w ∈ FL, w.before args s = true) (hts : ∀ w ∈ lw_tbl, w.before args s = true) : SK b0 (svF args s) s := by
  have hA : ∀ a : Nat, a < s.heap.size → ¬ aNew b0 a := fun a ha h => by unfold aNew at h; omega
  have hF : ∀ {i : Nat} {w : Jvm.Cond}, FL[i]? = some w → w.before args s = true := fun h => hs _ (List.mem_of_getElem? h)
  have hst : ∀ a, a < 4 → ∃ t, (svT a).eval args s none [] s = some (.ref t) ∧ va_T .int t (stab [] a).length (fun j => .int (Int32.ofInt ((stab [] a).getD j 0))) (aNew b0) s s.heap := by
    intro a ha
    obtain ⟨f1, f2, f3⟩ := fx_st a ha
    have e : svT a = tmA a := by unfold svT; rw [if_pos (Or.inl ha)]
    rw [e]
    exact tab_of b0 hb (lt_stab a ha) (hF f1) (hF f2) (fun j hj => hF (f3 j hj))
  refine ⟨fun w hw => ?_, va_AO.of (hts _ fx_ar.2.2.2.1), fun a ha => ?_, ?_, fun a ha => ?_, fun i hi => ?_⟩
  · have onT : ∀ w ∈ NWL, w.onTables = true := by decide +kernel
    exact va_Nw.of (onT w hw) (hts w (fx_nw w hw))
  · obtain ⟨l1, l2⟩ := fx_ls a ha
    have hv : (tmA a).eval args s none [] s = some (svF args s a) := by
      simp only [List.mem_cons, List.not_mem_nil, or_false] at ha
      rcases ha with rfl | rfl | rfl | rfl | rfl
      · obtain ⟨t, h1, -⟩ := hst 0 (by omega); rw [svF_of h1]; exact h1
      · obtain ⟨t, h1, -⟩ := hst 1 (by omega); rw [svF_of h1]; exact h1
      · obtain ⟨t, h1, -⟩ := hst 2 (by omega); rw [svF_of h1]; exact h1
      · obtain ⟨t, h1, -⟩ := hst 3 (by omega); rw [svF_of h1]; exact h1
      · exact svF_ev (j := 300) (hF fx_cs.2)
    exact va_Zof (hts _ l1) (hts _ l2) hv hA
  · exact va_Zof (hts _ fx_lc.1) (hts _ fx_lc.2) (eqI_of (hF fx_cs.1)) hA
  · obtain ⟨t, h1, h2⟩ := hst a ha
    exact ⟨t, svF_of h1, h2⟩
  · obtain ⟨f1, f2, f3, f4, f5⟩ := fx_tx i hi
    obtain ⟨a, c, cell, k, q1, -⟩ := Cond.exactly_spec (hF f1)
    have e1 : svT (100 + i) = tmS i := by
      unfold svT
      rw [if_neg (by omega), if_neg (by omega), if_pos (by omega), Nat.add_sub_cancel_left]
    have e2 : svT (200 + i) = tmV i := by
      unfold svT
      rw [if_neg (by omega), if_neg (by omega), if_neg (by omega), if_pos (by omega), Nat.add_sub_cancel_left]
    obtain ⟨v, h1, h2⟩ := tab_of (l := stxt i) b0 hb (lt_stxt i hi) (hF f3) (hF f4) (fun j hj => hF (f5 j hj))
    exact ⟨a, v, svF_of (by rw [e1]; exact q1), svF_of (by rw [e2]; exact h1), vk_R.of (hts _ (fx_sr i hi)) q1, va_Oof (hF f1) q1 hA, vk_OFof q1 (eqI_of (hF f2)) hA, vk_OFof q1 h1 hA, h2⟩
theorem arrT_of {cA comp : ClassId} {k : Class} {ty : FieldType} (hk : s.vm.classes[cA]? = some k) (hkind : k.kind = .array comp ty) : ArrOfT s cA ty := fun n z => ⟨fun x => by simp [arrV], k, hk, comp, hkind⟩
theorem KN_of (hts : ∀ w ∈ lw_tbl, w.before args s = true) : ∃ (D : va_G) (cy : Nat → ClassId), va_K D vwCl (tyW cy) s ∧ s.vm.findClass "[J" = some (cy 2) ∧ s.vm.findClass ("[" ++ (FieldType.object RX4).toString) = some (cy 3) ∧ AG cy s := by
  have h1 : ∀ c : Nat, ∃ d : ClassId × (Nat → Nat), c < 12 → u_Kn s (clT c).1 (clT c).2.1 (clT c).2.2 d.1 d.2 := by
    intro c
    by_cases hc : c < 12
    · have h := List.all_eq_true.mp fx_cl c (List.mem_range.mpr hc)
      simp only [Bool.and_eq_true] at h
      obtain ⟨cC, iS, h2⟩ := u_known (ws := lw_tbl) hts (fun w hw => of_decide_eq_true (List.all_eq_true.mp h.1 w hw)) (hts _ (of_decide_eq_true h.2))
      exact ⟨(cC, iS), fun _ => h2⟩
    · exact ⟨(0, fun _ => 0), fun h => absurd h hc⟩
  obtain ⟨f, hf⟩ := Classical.axiomOfChoice h1
  obtain ⟨c0, k0, p0, a0, b0, d0⟩ := Cond.arrayClass_spec (hts _ fx_ar.1)
  obtain ⟨c1, k1, p1, a1, b1, d1⟩ := Cond.arrayClass_spec (hts _ fx_ar.2.1)
  obtain ⟨c2, k2, p2, a2, b2, d2⟩ := Cond.arrayClass_spec (hts _ fx_ar.2.2.1)
  obtain ⟨p3, c3, k3, e3, -, b3, d3, a3⟩ := Cond.arrayOver_spec (hts _ fx_ar.2.2.2.1)
  obtain ⟨p4, c4, k4, e4, -, b4, d4, a4⟩ := arrayOverA_spec (hts _ fx_ar.2.2.2.2)
  refine ⟨(fun c => (f c).1, fun c => (f c).2), fun k => if k = 0 then c0 else if k = 1 then c1 else if k = 2 then c2 else if k = 3 then c3 else c4, ⟨fun c q hq => ?_, fun k q hq => ?_⟩, a2, a3, a4, over_moved (Vm.Alike.refl _) (hts _ fx_ar.2.2.2.2)⟩
  · have hc : c < 12 := (List.getElem?_eq_some_iff.mp hq).1
    have := hf c hc
    have e := clT_get hc
    cases e.symm.trans hq
    exact this
  · rcases k with _ | _ | _ | _ | _ | k
    · cases hq; exact ⟨arrT_of b0 d0, a0⟩
    · cases hq; exact ⟨arrT_of b1 d1, a1⟩
    · cases hq; exact ⟨arrT_of b2 d2, a2⟩
    · cases hq; exact ⟨arrT_of b3 d3, k3, p3, b3, d3, e3, a3⟩
    · cases hq; exact ⟨arrT_of b4 d4, a4⟩
    · cases hq
/-- the script's ints -/
def scL (L : Nat) (xs : Nat → Int32) : List Int := (List.range L).map (fun j => (xs j).toInt)
theorem scL_tab {b0 b L : Nat} {xs : Nat → Int32} (hb : s.heap.size ≤ b0) (hbl : b < s.heap.size) (hL : L ≤ 3072) (hX : va_X b L xs s s.heap) : tabOk b0 (svF #[.ref b] s) (scL L xs) 9 s := by
  obtain ⟨scr, x1, x2, x3, x4, x5⟩ := hX
  have hlen : (scL L xs).length = L := by unfold scL; rw [List.length_map, List.length_range]
  refine ⟨b, svF_of (j := 9) rfl, scr, x1, x2, x3, by rw [hlen, x4]; exact Nat.le_refl _, by rw [hlen, x4], fun j hj => ?_, fun h => by unfold aNew at h; omega⟩
  rw [hlen] at hj
  rw [x5 j hj]
  unfold scL
  dsimp only
  rw [List.getD_eq_getElem?_getD, List.getElem?_map, List.getElem?_range hj]
  show some (Value.int (xs j)) = some (Value.int (Int32.ofInt (xs j).toInt))
  rw [Int32.ofInt_toInt]
end ST
def R_law : String := "CoarserOrdersLaw"
def lw_P (b : Addr) (xs : List Int32) (args : Array Value) (s : State) : Prop := args = #[.ref b] ∧ s.IntsAt b xs ∧ xs.length ≤ 3072 ∧ (Jvm.Cond.and given_1 narrow_1).before args s = true
def lw_Q (_ : Array Value) (s : State) (o : Outcome) (t : State) : Prop := o = .returned (some (.int 1)) ∧ Framed s o t [] 60000 8922250
def lw_Z (below : List Frame) (a : Array Value) (s : State) : State → Prop := fun t => ∃ o, t.status = .running ∧ Ended t below o ∧ lw_Q a s o t
/-- the law's own end, with 1 on the stack, nothing written that was there before, its room as the claim has it -/
theorem lw_ret {p : Program} {l : Launch} {e : Env} {s : State} {m : MethodId} {below : List Frame} {meth : Method} {c : Code} {b : Nat} (hx : p.tables.exec = Jvm.exec) (hb : c.code = code) (hr : meth.sig.returnType = ret) (hlocks : meth.locks = false) {pc : Nat} {H : Heap} {ls : Array Slot} (hdg : decode code pc = .ok (.ireturn, 1)) : W p l e room_1 s m #[Value.ref b] below meth c H [] 60000 8922250 (lw_Z below #[Value.ref b] s) (F0 m pc ls [.int 1]) := by
  intro T hT X
  obtain ⟨fs, hret, hrun, hended, hW, hframe⟩ := X.leave (v := some (.int 1)) (hlocks := hlocks) (fun h => by rw [hr] at h; cases h)
  have hmeth' : T.vm.method? m = some meth := X.method'
  refine ⟨T.setFrames fs, ?_, .returned (some (.int 1)), hrun, hended, rfl, ⟨_, rfl⟩, hW, hframe⟩
  jvm_step X.here [X.here.top, hx, hb, hdg, hmeth', hr, ret, narrow_b1]
  (try refine ⟨rfl, ?_⟩); (try refine ⟨rfl, ?_⟩)
  first | (intro acts; rw [hret _ acts rfl rfl rfl]) | rw [hret _ _ rfl rfl rfl]
  exact Steps.refl _
/-- what holds at the law's entry: the machine, the code, the tables' words (any of lw_tbl by 'hts w (by decide +kernel)'), the script of L ints xs at the cell b, what the Statement gives of the start (any of its parts by flat_of_before) -/
def lw_At (p : Program) (s : State) (m : MethodId) (meth : Method) (c : Code) (b L : Nat) (xs : Nat → Int32) : Prop :=
  p.tables.exec = Jvm.exec ∧ c.code = code ∧ meth.sig.returnType = ret ∧ c.maxLocals = 4 ∧ s.vm.findClass R_law = some m.cls ∧ (∀ w ∈ lw_tbl, w.before #[Value.ref b] s = true) ∧ va_X b L xs s s.heap ∧ b < s.heap.size ∧ meth.locks = false ∧ (Jvm.Cond.and given_1 narrow_1).before #[Value.ref b] s = true
/-- the claim's walk out of a run of the abstract machine -/
theorem whole_red {p : Program} {e : Env} {s : State} {m : MethodId} {below : List Frame} {meth : Method} {c : Code} (l : Launch) {b L : Nat} {xs : Nat → Int32} (hL : L ≤ 3072) (C0 : lw_At p s m meth c b L xs) (hrun : AW 1000 (scL L xs) nM (fun v _ => v = some (mI 1)) 0 [some (mS 9), none, none, none] [] [] (60000, 8922250)) : W p l e room_1 s m #[Value.ref b] below meth c s.heap [] 0 0 (lw_Z below #[Value.ref b] s) (entryFrame m ([Value.ref b] : List Value).toArray 4) := by
  obtain ⟨hx, hb, hr, hml, hown, hts, hX, hbl, hlocks, hgv⟩ := C0
  have hs : ∀ w ∈ FL, w.before #[.ref b] s = true := flat_of_before _ hgv
  obtain ⟨D, cy, hK, hJ, hQ, hG⟩ := KN_of hts
  have hsv := svF_ok #[.ref b] s
  have hSK := SK_of (args := #[.ref b]) s.heap.size (Nat.le_refl _) hs hts
  have hT := scL_tab (Nat.le_refl _) hbl hL hX
  have h9 : svF #[.ref b] s 9 = .ref b := svF_of (j := 9) rfl
  have C : CX s.heap.size (svF #[.ref b] s) cy D (scL L xs) nM p s m #[.ref b] meth c := ⟨hx, hb, hml, hown, fun w hw => hts w (List.mem_filter.mp hw).1, fun h => absurd h (by decide +kernel), hK, hSK, fun _ => hT, hsv, Nat.le_refl _, hJ, hQ, hG⟩
  have hret : RetOK s.heap.size (svF #[.ref b] s) cy D nM p l e room_1 s m #[.ref b] below meth c (lw_Z below #[.ref b] s) (fun v _ => v = some (mI 1)) := by
    intro v h pc hv hat ls H locs cells slots hRH hS hc1 hc2
    subst hv
    refine W.widen hc1 hc2 ?_
    refine W.forget (locs := []) (L := locs) hS.2.2 ?_
    rcases hat with ⟨h0, -⟩ | ⟨x, h0, hdec, -⟩ | ⟨x, h0, -⟩
    · cases h0
    · cases h0
      exact lw_ret hx hb hr hlocks hdec
    · cases h0
  obtain ⟨n, hn⟩ := hrun
  obtain ⟨ls, hls, hLR⟩ := LR_entry (b0 := s.heap.size) hsv [mS 9] 3 4 rfl
  have e9 : ([mS 9] : List AV).map (cv s.heap.size (svF #[.ref b] s)) = [Value.ref b] := by
    show [svF #[.ref b] s 9] = _
    rw [h9]
  rw [e9] at hls
  have hok := ck_law
  have hp0 : pcO nM 0 = 0 := by
    have := hok
    unfold ckM at this
    simp only [Bool.and_eq_true, decide_eq_true_eq] at this
    exact this.1.1.1.2
  have hg := run_ok (R := room_1) (dd := 999) (cd0 := callD 1000) ⟨by decide, by decide⟩ C (Or.inr ⟨callOK hsv ck_all 999, by decide, by decide⟩) hok hret n 0 _ _ _ _ hn
  rw [hp0] at hg
  rw [lg_entry_eq, ← hls]
  exact hg rfl ls s.heap [] 0 0 hLR (RH_of rfl (fun k c h => by cases h)) va_S.rf (by decide) (by decide)
